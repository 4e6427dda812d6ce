abbrev rK8 : Room := { frames := 3, cells := 194, slots := 5717, locals := 61 }
set_option maxHeartbeats 4000000 in
set_option maxRecDepth 20000 in
theorem kX8_0 (l : Launch) (D : va_G) (cy : Nat → ClassId) (z : Nat) (E0 : Nat → va_E) (hE0 : E0 0 = .inr (8, [.null, .null, .null, .null, .null, .null, .null, .null, .null, .null, .null, .null, .null, .int (hpI 0), .int (hpI 0), .int (hpI 0)])) : hpK l D cy z yX8_init cX8_init 2 rK8 0 195 194 5717 E0 := by
  refine hp_metX rfl (Nat.le_of_ble_eq_true rfl) (fun p e s m below meth c ls C A hr hk hnm h0 hl hP hS => ?_)
  have hO0 : ∀ j, j < 0 → E0 j = E0 j := fun _ _ => rfl
  have hD0 : ∀ j, 0 < j → j < 1 → E0 j = hpE z cy j (hp0 j) := fun j h1 h2 => by omega
  refine lv_aload_n C.1 C.2.1 dX8_init_0 rfl (lv_at hl 0 rfl) ?_
  refine W.objInit C.1 C.2.1 C.2.2.2.1 (C.2.2.2.2.1 _ wd_23) (C.2.2.2.2.1 _ wd_24) (C.2.2.2.2.1 _ wd_25) rfl (by rw [C.2.2.1]; exact hl.1) rfl dX8_init_1 (Nat.le_of_ble_eq_true rfl) (Nat.le_of_ble_eq_true rfl) ?_
  refine lv_aload_n C.1 C.2.1 dX8_init_4 rfl (lv_at hl 0 rfl) ?_
  refine n_size (n := 1) h0 rfl hS hP (fun hsz => ?_)
  refine n_new (fs := [.null, .int (hpI 0), .int (hpI 0), .int (hpI 0), .int (hpI 0), .int (hpI 0), .int (hpI 0)]) C O7 bl_7 wd_26 wd_27 wd_2 hP hS hsz (Nat.le_of_ble_eq_true rfl) (Nat.le_of_ble_eq_true rfl) dX8_init_5 (fun H hP hS => ?_)
  obtain ⟨E1, e1⟩ : ∃ F, F = va_up E0 1 (.inr (7, [.null, .int (hpI 0), .int (hpI 0), .int (hpI 0), .int (hpI 0), .int (hpI 0), .int (hpI 0)])) := ⟨_, rfl⟩
  rw [← e1] at hP
  have hO1 : ∀ j, j < 0 → E1 j = E0 j := fun j h => by rw [e1]; exact (hp_ne (by omega)).trans (hO0 j h)
  have hp1_0 : E1 0 = .inr (8, [.null, .null, .null, .null, .null, .null, .null, .null, .null, .null, .null, .null, .null, .int (hpI 0), .int (hpI 0), .int (hpI 0)]) := by rw [e1, hp_ne (by decide)]; exact hE0
  have hp1_1 : E1 1 = .inr (7, [.null, .int (hpI 0), .int (hpI 0), .int (hpI 0), .int (hpI 0), .int (hpI 0), .int (hpI 0)]) := by rw [e1, hp_at]
  have hD1 : ∀ j, 0 < j → j < 2 → j ≠ 1 → E1 j = hpE z cy j (hp0 j) := fun j h1 h2 hn1 => by
    rw [e1, hp_ne (by omega)]; exact hD0 j h1 (by omega)
  refine lv_dup C.1 C.2.1 dX8_init_8 rfl ?_
  refine n_size (n := 2) h0 rfl hS hP (fun hsz => ?_)
  refine n_ctorN C A yk_7 nw_28 (kX7_1 l D cy z _ hp1_1) hl hP hS hsz ⟨rfl, rfl, Nat.le_of_ble_eq_true rfl, Nat.le_of_ble_eq_true rfl⟩ ⟨Nat.le_of_ble_eq_true rfl, Nat.le_of_ble_eq_true rfl⟩ (Nat.le_of_ble_eq_true rfl) dX8_init_9 (fun H locs E2 hP hS hj2 hi2 => ?_)
  have hO2 : ∀ j, j < 0 → E2 j = E0 j := fun j h => (hj2 j (by omega)).trans (hO1 j h)
  have hp2_0 : E2 0 = .inr (8, [.null, .null, .null, .null, .null, .null, .null, .null, .null, .null, .null, .null, .null, .int (hpI 0), .int (hpI 0), .int (hpI 0)]) := (hj2 0 (by decide)).trans hp1_0
  have hD2 : ∀ j, 0 < j → j < 3 → E2 j = hpE z cy j (hp0 j) := fun j h1 h2 => by
    rcases Nat.lt_or_ge j 1 with h | h
    · exact (hj2 j h).trans (hD1 j h1 (by omega) (by omega))
    · exact hi2 j h h2
  refine n_putF (fs' := [.ref (z + 1), .null, .null, .null, .null, .null, .null, .null, .null, .null, .null, .null, .null, .int (hpI 0), .int (hpI 0), .int (hpI 0)]) C O8 0 (by decide) hp2_0 (by decide) rfl hnm rfl wd_349 rfl rfl (Nat.le_of_ble_eq_true rfl) rfl hP hS dX8_init_12 (fun H locs hP hS => ?_)
  obtain ⟨E3, e3⟩ : ∃ F, F = va_up E2 0 (.inr (8, [.ref (z + 1), .null, .null, .null, .null, .null, .null, .null, .null, .null, .null, .null, .null, .int (hpI 0), .int (hpI 0), .int (hpI 0)])) := ⟨_, rfl⟩
  rw [← e3] at hP
  have hO3 : ∀ j, j < 0 → E3 j = E0 j := fun j h => by rw [e3]; exact (hp_ne (by omega)).trans (hO2 j h)
  have hp3_0 : E3 0 = .inr (8, [.ref (z + 1), .null, .null, .null, .null, .null, .null, .null, .null, .null, .null, .null, .null, .int (hpI 0), .int (hpI 0), .int (hpI 0)]) := by rw [e3, hp_at]
  have hD3 : ∀ j, 0 < j → j < 3 → E3 j = hpE z cy j (hp0 j) := fun j h1 h2 => by
    rw [e3, hp_ne (by omega)]; exact hD2 j h1 (by omega)
  refine lv_aload_n C.1 C.2.1 dX8_init_15 rfl (lv_at hl 0 rfl) ?_
  refine n_size (n := 3) h0 rfl hS hP (fun hsz => ?_)
  refine n_new (fs := [.null, .null, .null, .null, .null, .int (hpI 0), .int (hpI 0), .int (hpI 0), .int (hpI 0), .int (hpI 0), .int (hpI 0), .int (hpI 0), .int (hpI 0)]) C O1 bl_1 wd_58 wd_59 wd_3 hP hS hsz (Nat.le_of_ble_eq_true rfl) (Nat.le_of_ble_eq_true rfl) dX8_init_16 (fun H hP hS => ?_)
  obtain ⟨E4, e4⟩ : ∃ F, F = va_up E3 3 (.inr (1, [.null, .null, .null, .null, .null, .int (hpI 0), .int (hpI 0), .int (hpI 0), .int (hpI 0), .int (hpI 0), .int (hpI 0), .int (hpI 0), .int (hpI 0)])) := ⟨_, rfl⟩
  rw [← e4] at hP
  have hO4 : ∀ j, j < 0 → E4 j = E0 j := fun j h => by rw [e4]; exact (hp_ne (by omega)).trans (hO3 j h)
  have hp4_0 : E4 0 = .inr (8, [.ref (z + 1), .null, .null, .null, .null, .null, .null, .null, .null, .null, .null, .null, .null, .int (hpI 0), .int (hpI 0), .int (hpI 0)]) := by rw [e4, hp_ne (by decide)]; exact hp3_0
  have hp4_3 : E4 3 = .inr (1, [.null, .null, .null, .null, .null, .int (hpI 0), .int (hpI 0), .int (hpI 0), .int (hpI 0), .int (hpI 0), .int (hpI 0), .int (hpI 0), .int (hpI 0)]) := by rw [e4, hp_at]
  have hD4 : ∀ j, 0 < j → j < 4 → j ≠ 3 → E4 j = hpE z cy j (hp0 j) := fun j h1 h2 hn3 => by
    rw [e4, hp_ne (by omega)]; exact hD3 j h1 (by omega)
  refine lv_dup C.1 C.2.1 dX8_init_19 rfl ?_
  refine n_size (n := 4) h0 rfl hS hP (fun hsz => ?_)
  refine n_ctorN C A yk_1 nw_60 (kX1_3 l D cy z _ hp4_3) hl hP hS hsz ⟨rfl, rfl, Nat.le_of_ble_eq_true rfl, Nat.le_of_ble_eq_true rfl⟩ ⟨Nat.le_of_ble_eq_true rfl, Nat.le_of_ble_eq_true rfl⟩ (Nat.le_of_ble_eq_true rfl) dX8_init_20 (fun H locs E5 hP hS hj5 hi5 => ?_)
  have hO5 : ∀ j, j < 0 → E5 j = E0 j := fun j h => (hj5 j (by omega)).trans (hO4 j h)
  have hp5_0 : E5 0 = .inr (8, [.ref (z + 1), .null, .null, .null, .null, .null, .null, .null, .null, .null, .null, .null, .null, .int (hpI 0), .int (hpI 0), .int (hpI 0)]) := (hj5 0 (by decide)).trans hp4_0
  have hD5 : ∀ j, 0 < j → j < 9 → E5 j = hpE z cy j (hp0 j) := fun j h1 h2 => by
    rcases Nat.lt_or_ge j 3 with h | h
    · exact (hj5 j h).trans (hD4 j h1 (by omega) (by omega))
    · exact hi5 j h h2
  refine n_putF (fs' := [.ref (z + 1), .ref (z + 3), .null, .null, .null, .null, .null, .null, .null, .null, .null, .null, .null, .int (hpI 0), .int (hpI 0), .int (hpI 0)]) C O8 1 (by decide) hp5_0 (by decide) rfl hnm rfl wd_350 rfl rfl (Nat.le_of_ble_eq_true rfl) rfl hP hS dX8_init_23 (fun H locs hP hS => ?_)
  obtain ⟨E6, e6⟩ : ∃ F, F = va_up E5 0 (.inr (8, [.ref (z + 1), .ref (z + 3), .null, .null, .null, .null, .null, .null, .null, .null, .null, .null, .null, .int (hpI 0), .int (hpI 0), .int (hpI 0)])) := ⟨_, rfl⟩
  rw [← e6] at hP
  have hO6 : ∀ j, j < 0 → E6 j = E0 j := fun j h => by rw [e6]; exact (hp_ne (by omega)).trans (hO5 j h)
  have hp6_0 : E6 0 = .inr (8, [.ref (z + 1), .ref (z + 3), .null, .null, .null, .null, .null, .null, .null, .null, .null, .null, .null, .int (hpI 0), .int (hpI 0), .int (hpI 0)]) := by rw [e6, hp_at]
  have hD6 : ∀ j, 0 < j → j < 9 → E6 j = hpE z cy j (hp0 j) := fun j h1 h2 => by
    rw [e6, hp_ne (by omega)]; exact hD5 j h1 (by omega)
  refine lv_aload_n C.1 C.2.1 dX8_init_26 rfl (lv_at hl 0 rfl) ?_
  refine n_size (n := 9) h0 rfl hS hP (fun hsz => ?_)
  refine n_new (fs := [.null, .null, .null, .null, .null, .int (hpI 0), .int (hpI 0), .int (hpI 0), .int (hpI 0), .int (hpI 0), .int (hpI 0), .int (hpI 0), .int (hpI 0)]) C O1 bl_1 wd_58 wd_59 wd_3 hP hS hsz (Nat.le_of_ble_eq_true rfl) (Nat.le_of_ble_eq_true rfl) dX8_init_27 (fun H hP hS => ?_)
  obtain ⟨E7, e7⟩ : ∃ F, F = va_up E6 9 (.inr (1, [.null, .null, .null, .null, .null, .int (hpI 0), .int (hpI 0), .int (hpI 0), .int (hpI 0), .int (hpI 0), .int (hpI 0), .int (hpI 0), .int (hpI 0)])) := ⟨_, rfl⟩
  rw [← e7] at hP
  have hO7 : ∀ j, j < 0 → E7 j = E0 j := fun j h => by rw [e7]; exact (hp_ne (by omega)).trans (hO6 j h)
  have hp7_0 : E7 0 = .inr (8, [.ref (z + 1), .ref (z + 3), .null, .null, .null, .null, .null, .null, .null, .null, .null, .null, .null, .int (hpI 0), .int (hpI 0), .int (hpI 0)]) := by rw [e7, hp_ne (by decide)]; exact hp6_0
  have hp7_9 : E7 9 = .inr (1, [.null, .null, .null, .null, .null, .int (hpI 0), .int (hpI 0), .int (hpI 0), .int (hpI 0), .int (hpI 0), .int (hpI 0), .int (hpI 0), .int (hpI 0)]) := by rw [e7, hp_at]
  have hD7 : ∀ j, 0 < j → j < 10 → j ≠ 9 → E7 j = hpE z cy j (hp0 j) := fun j h1 h2 hn9 => by
    rw [e7, hp_ne (by omega)]; exact hD6 j h1 (by omega)
  refine lv_dup C.1 C.2.1 dX8_init_30 rfl ?_
  refine n_size (n := 10) h0 rfl hS hP (fun hsz => ?_)
  refine n_ctorN C A yk_1 nw_60 (kX1_9 l D cy z _ hp7_9) hl hP hS hsz ⟨rfl, rfl, Nat.le_of_ble_eq_true rfl, Nat.le_of_ble_eq_true rfl⟩ ⟨Nat.le_of_ble_eq_true rfl, Nat.le_of_ble_eq_true rfl⟩ (Nat.le_of_ble_eq_true rfl) dX8_init_31 (fun H locs E8 hP hS hj8 hi8 => ?_)
  have hO8 : ∀ j, j < 0 → E8 j = E0 j := fun j h => (hj8 j (by omega)).trans (hO7 j h)
  have hp8_0 : E8 0 = .inr (8, [.ref (z + 1), .ref (z + 3), .null, .null, .null, .null, .null, .null, .null, .null, .null, .null, .null, .int (hpI 0), .int (hpI 0), .int (hpI 0)]) := (hj8 0 (by decide)).trans hp7_0
  have hD8 : ∀ j, 0 < j → j < 15 → E8 j = hpE z cy j (hp0 j) := fun j h1 h2 => by
    rcases Nat.lt_or_ge j 9 with h | h
    · exact (hj8 j h).trans (hD7 j h1 (by omega) (by omega))
    · exact hi8 j h h2
  refine n_putF (fs' := [.ref (z + 1), .ref (z + 3), .ref (z + 9), .null, .null, .null, .null, .null, .null, .null, .null, .null, .null, .int (hpI 0), .int (hpI 0), .int (hpI 0)]) C O8 2 (by decide) hp8_0 (by decide) rfl hnm rfl wd_351 rfl rfl (Nat.le_of_ble_eq_true rfl) rfl hP hS dX8_init_34 (fun H locs hP hS => ?_)
  obtain ⟨E9, e9⟩ : ∃ F, F = va_up E8 0 (.inr (8, [.ref (z + 1), .ref (z + 3), .ref (z + 9), .null, .null, .null, .null, .null, .null, .null, .null, .null, .null, .int (hpI 0), .int (hpI 0), .int (hpI 0)])) := ⟨_, rfl⟩
  rw [← e9] at hP
  have hO9 : ∀ j, j < 0 → E9 j = E0 j := fun j h => by rw [e9]; exact (hp_ne (by omega)).trans (hO8 j h)
  have hp9_0 : E9 0 = .inr (8, [.ref (z + 1), .ref (z + 3), .ref (z + 9), .null, .null, .null, .null, .null, .null, .null, .null, .null, .null, .int (hpI 0), .int (hpI 0), .int (hpI 0)]) := by rw [e9, hp_at]
  have hD9 : ∀ j, 0 < j → j < 15 → E9 j = hpE z cy j (hp0 j) := fun j h1 h2 => by
    rw [e9, hp_ne (by omega)]; exact hD8 j h1 (by omega)
  refine lv_aload_n C.1 C.2.1 dX8_init_37 rfl (lv_at hl 0 rfl) ?_
  refine lv_iconst (v := hpI 3) C.1 C.2.1 dX8_init_38 rfl ?_
  refine n_size (n := 15) h0 rfl hS hP (fun hsz => ?_)
  refine n_newq (ci := 14) (t0 := 4) (N := 3) C wd_58 (hpA_of (w := .arrayOver (.object "TurfHeaps$Moor")) 136 (by decide +kernel) rfl A) rfl rfl (by decide) hP hS hsz (Nat.le_of_ble_eq_true rfl) (Nat.le_of_ble_eq_true rfl) dX8_init_39 (fun H hP hS => ?_)
  obtain ⟨E10, e10⟩ : ∃ F, F = va_up E9 15 (.inl (cy 14, 3, .inr (.inr (.inr (.inr (fun _ => none)))))) := ⟨_, rfl⟩
  rw [← e10] at hP
  have hO10 : ∀ j, j < 0 → E10 j = E0 j := fun j h => by rw [e10]; exact (hp_ne (by omega)).trans (hO9 j h)
  have hp10_0 : E10 0 = .inr (8, [.ref (z + 1), .ref (z + 3), .ref (z + 9), .null, .null, .null, .null, .null, .null, .null, .null, .null, .null, .int (hpI 0), .int (hpI 0), .int (hpI 0)]) := by rw [e10, hp_ne (by decide)]; exact hp9_0
  have hp10_15 : E10 15 = .inl (cy 14, 3, .inr (.inr (.inr (.inr (fun _ => none))))) := by rw [e10, hp_at]
  have hD10 : ∀ j, 0 < j → j < 16 → j ≠ 15 → E10 j = hpE z cy j (hp0 j) := fun j h1 h2 hn15 => by
    rw [e10, hp_ne (by omega)]; exact hD9 j h1 (by omega)
  refine n_putF (fs' := [.ref (z + 1), .ref (z + 3), .ref (z + 9), .ref (z + 15), .null, .null, .null, .null, .null, .null, .null, .null, .null, .int (hpI 0), .int (hpI 0), .int (hpI 0)]) C O8 3 (by decide) hp10_0 (by decide) rfl hnm rfl wd_352 rfl rfl (Nat.le_of_ble_eq_true rfl) rfl hP hS dX8_init_42 (fun H locs hP hS => ?_)
  obtain ⟨E11, e11⟩ : ∃ F, F = va_up E10 0 (.inr (8, [.ref (z + 1), .ref (z + 3), .ref (z + 9), .ref (z + 15), .null, .null, .null, .null, .null, .null, .null, .null, .null, .int (hpI 0), .int (hpI 0), .int (hpI 0)])) := ⟨_, rfl⟩
  rw [← e11] at hP
  have hO11 : ∀ j, j < 0 → E11 j = E0 j := fun j h => by rw [e11]; exact (hp_ne (by omega)).trans (hO10 j h)
  have hp11_15 : E11 15 = .inl (cy 14, 3, .inr (.inr (.inr (.inr (fun _ => none))))) := by rw [e11, hp_ne (by decide)]; exact hp10_15
  have hp11_0 : E11 0 = .inr (8, [.ref (z + 1), .ref (z + 3), .ref (z + 9), .ref (z + 15), .null, .null, .null, .null, .null, .null, .null, .null, .null, .int (hpI 0), .int (hpI 0), .int (hpI 0)]) := by rw [e11, hp_at]
  have hD11 : ∀ j, 0 < j → j < 16 → j ≠ 15 → E11 j = hpE z cy j (hp0 j) := fun j h1 h2 hn15 => by
    rw [e11, hp_ne (by omega)]; exact hD10 j h1 (by omega) hn15
  refine lv_aload_n C.1 C.2.1 dX8_init_45 rfl (lv_at hl 0 rfl) ?_
  refine lv_iconst (v := hpI 4) C.1 C.2.1 dX8_init_46 rfl ?_
  refine n_size (n := 16) h0 rfl hS hP (fun hsz => ?_)
  refine n_newq (ci := 16) (t0 := 6) (N := 4) C wd_137 (hpA_of (w := .arrayOver (.object "TurfHeaps$Slot")) 138 (by decide +kernel) rfl A) rfl rfl (by decide) hP hS hsz (Nat.le_of_ble_eq_true rfl) (Nat.le_of_ble_eq_true rfl) dX8_init_47 (fun H hP hS => ?_)
  obtain ⟨E12, e12⟩ : ∃ F, F = va_up E11 16 (.inl (cy 16, 4, .inr (.inr (.inr (.inr (fun _ => none)))))) := ⟨_, rfl⟩
  rw [← e12] at hP
  have hO12 : ∀ j, j < 0 → E12 j = E0 j := fun j h => by rw [e12]; exact (hp_ne (by omega)).trans (hO11 j h)
  have hp12_15 : E12 15 = .inl (cy 14, 3, .inr (.inr (.inr (.inr (fun _ => none))))) := by rw [e12, hp_ne (by decide)]; exact hp11_15
  have hp12_0 : E12 0 = .inr (8, [.ref (z + 1), .ref (z + 3), .ref (z + 9), .ref (z + 15), .null, .null, .null, .null, .null, .null, .null, .null, .null, .int (hpI 0), .int (hpI 0), .int (hpI 0)]) := by rw [e12, hp_ne (by decide)]; exact hp11_0
  have hp12_16 : E12 16 = .inl (cy 16, 4, .inr (.inr (.inr (.inr (fun _ => none))))) := by rw [e12, hp_at]
  have hD12 : ∀ j, 0 < j → j < 17 → j ≠ 15 → j ≠ 16 → E12 j = hpE z cy j (hp0 j) := fun j h1 h2 hn15 hn16 => by
    rw [e12, hp_ne (by omega)]; exact hD11 j h1 (by omega) hn15
  refine n_putF (fs' := [.ref (z + 1), .ref (z + 3), .ref (z + 9), .ref (z + 15), .ref (z + 16), .null, .null, .null, .null, .null, .null, .null, .null, .int (hpI 0), .int (hpI 0), .int (hpI 0)]) C O8 4 (by decide) hp12_0 (by decide) rfl hnm rfl wd_353 rfl rfl (Nat.le_of_ble_eq_true rfl) rfl hP hS dX8_init_50 (fun H locs hP hS => ?_)
  obtain ⟨E13, e13⟩ : ∃ F, F = va_up E12 0 (.inr (8, [.ref (z + 1), .ref (z + 3), .ref (z + 9), .ref (z + 15), .ref (z + 16), .null, .null, .null, .null, .null, .null, .null, .null, .int (hpI 0), .int (hpI 0), .int (hpI 0)])) := ⟨_, rfl⟩
  rw [← e13] at hP
  have hO13 : ∀ j, j < 0 → E13 j = E0 j := fun j h => by rw [e13]; exact (hp_ne (by omega)).trans (hO12 j h)
  have hp13_15 : E13 15 = .inl (cy 14, 3, .inr (.inr (.inr (.inr (fun _ => none))))) := by rw [e13, hp_ne (by decide)]; exact hp12_15
  have hp13_16 : E13 16 = .inl (cy 16, 4, .inr (.inr (.inr (.inr (fun _ => none))))) := by rw [e13, hp_ne (by decide)]; exact hp12_16
  have hp13_0 : E13 0 = .inr (8, [.ref (z + 1), .ref (z + 3), .ref (z + 9), .ref (z + 15), .ref (z + 16), .null, .null, .null, .null, .null, .null, .null, .null, .int (hpI 0), .int (hpI 0), .int (hpI 0)]) := by rw [e13, hp_at]
  have hD13 : ∀ j, 0 < j → j < 17 → j ≠ 15 → j ≠ 16 → E13 j = hpE z cy j (hp0 j) := fun j h1 h2 hn15 hn16 => by
    rw [e13, hp_ne (by omega)]; exact hD12 j h1 (by omega) hn15 hn16
  refine lv_aload_n C.1 C.2.1 dX8_init_53 rfl (lv_at hl 0 rfl) ?_
  refine n_size (n := 17) h0 rfl hS hP (fun hsz => ?_)
  refine n_new (fs := [.null, .int (hpI 0), .int (hpI 0), .int (hpI 0), .int (hpI 0), .int (hpI 0), .int (hpI 0), .int (hpI 0), .int (hpI 0)]) C O4 bl_4 wd_139 wd_140 wd_4 hP hS hsz (Nat.le_of_ble_eq_true rfl) (Nat.le_of_ble_eq_true rfl) dX8_init_54 (fun H hP hS => ?_)
  obtain ⟨E14, e14⟩ : ∃ F, F = va_up E13 17 (.inr (4, [.null, .int (hpI 0), .int (hpI 0), .int (hpI 0), .int (hpI 0), .int (hpI 0), .int (hpI 0), .int (hpI 0), .int (hpI 0)])) := ⟨_, rfl⟩
  rw [← e14] at hP
  have hO14 : ∀ j, j < 0 → E14 j = E0 j := fun j h => by rw [e14]; exact (hp_ne (by omega)).trans (hO13 j h)
  have hp14_15 : E14 15 = .inl (cy 14, 3, .inr (.inr (.inr (.inr (fun _ => none))))) := by rw [e14, hp_ne (by decide)]; exact hp13_15
  have hp14_16 : E14 16 = .inl (cy 16, 4, .inr (.inr (.inr (.inr (fun _ => none))))) := by rw [e14, hp_ne (by decide)]; exact hp13_16
  have hp14_0 : E14 0 = .inr (8, [.ref (z + 1), .ref (z + 3), .ref (z + 9), .ref (z + 15), .ref (z + 16), .null, .null, .null, .null, .null, .null, .null, .null, .int (hpI 0), .int (hpI 0), .int (hpI 0)]) := by rw [e14, hp_ne (by decide)]; exact hp13_0
  have hp14_17 : E14 17 = .inr (4, [.null, .int (hpI 0), .int (hpI 0), .int (hpI 0), .int (hpI 0), .int (hpI 0), .int (hpI 0), .int (hpI 0), .int (hpI 0)]) := by rw [e14, hp_at]
  have hD14 : ∀ j, 0 < j → j < 18 → j ≠ 15 → j ≠ 16 → j ≠ 17 → E14 j = hpE z cy j (hp0 j) := fun j h1 h2 hn15 hn16 hn17 => by
    rw [e14, hp_ne (by omega)]; exact hD13 j h1 (by omega) hn15 hn16
  refine lv_dup C.1 C.2.1 dX8_init_57 rfl ?_
  refine n_size (n := 18) h0 rfl hS hP (fun hsz => ?_)
  refine n_ctorN C A yk_4 nw_141 (kX4_17 l D cy z _ hp14_17) hl hP hS hsz ⟨rfl, rfl, Nat.le_of_ble_eq_true rfl, Nat.le_of_ble_eq_true rfl⟩ ⟨Nat.le_of_ble_eq_true rfl, Nat.le_of_ble_eq_true rfl⟩ (Nat.le_of_ble_eq_true rfl) dX8_init_58 (fun H locs E15 hP hS hj15 hi15 => ?_)
  have hO15 : ∀ j, j < 0 → E15 j = E0 j := fun j h => (hj15 j (by omega)).trans (hO14 j h)
  have hp15_15 : E15 15 = .inl (cy 14, 3, .inr (.inr (.inr (.inr (fun _ => none))))) := (hj15 15 (by decide)).trans hp14_15
  have hp15_16 : E15 16 = .inl (cy 16, 4, .inr (.inr (.inr (.inr (fun _ => none))))) := (hj15 16 (by decide)).trans hp14_16
  have hp15_0 : E15 0 = .inr (8, [.ref (z + 1), .ref (z + 3), .ref (z + 9), .ref (z + 15), .ref (z + 16), .null, .null, .null, .null, .null, .null, .null, .null, .int (hpI 0), .int (hpI 0), .int (hpI 0)]) := (hj15 0 (by decide)).trans hp14_0
  have hD15 : ∀ j, 0 < j → j < 70 → j ≠ 15 → j ≠ 16 → E15 j = hpE z cy j (hp0 j) := fun j h1 h2 hn15 hn16 => by
    rcases Nat.lt_or_ge j 17 with h | h
    · exact (hj15 j h).trans (hD14 j h1 (by omega) hn15 hn16 (by omega))
    · exact hi15 j h h2
  refine n_putF (fs' := [.ref (z + 1), .ref (z + 3), .ref (z + 9), .ref (z + 15), .ref (z + 16), .ref (z + 17), .null, .null, .null, .null, .null, .null, .null, .int (hpI 0), .int (hpI 0), .int (hpI 0)]) C O8 5 (by decide) hp15_0 (by decide) rfl hnm rfl wd_354 rfl rfl (Nat.le_of_ble_eq_true rfl) rfl hP hS dX8_init_61 (fun H locs hP hS => ?_)
  obtain ⟨E16, e16⟩ : ∃ F, F = va_up E15 0 (.inr (8, [.ref (z + 1), .ref (z + 3), .ref (z + 9), .ref (z + 15), .ref (z + 16), .ref (z + 17), .null, .null, .null, .null, .null, .null, .null, .int (hpI 0), .int (hpI 0), .int (hpI 0)])) := ⟨_, rfl⟩
  rw [← e16] at hP
  have hO16 : ∀ j, j < 0 → E16 j = E0 j := fun j h => by rw [e16]; exact (hp_ne (by omega)).trans (hO15 j h)
  have hp16_15 : E16 15 = .inl (cy 14, 3, .inr (.inr (.inr (.inr (fun _ => none))))) := by rw [e16, hp_ne (by decide)]; exact hp15_15
  have hp16_16 : E16 16 = .inl (cy 16, 4, .inr (.inr (.inr (.inr (fun _ => none))))) := by rw [e16, hp_ne (by decide)]; exact hp15_16
  have hp16_0 : E16 0 = .inr (8, [.ref (z + 1), .ref (z + 3), .ref (z + 9), .ref (z + 15), .ref (z + 16), .ref (z + 17), .null, .null, .null, .null, .null, .null, .null, .int (hpI 0), .int (hpI 0), .int (hpI 0)]) := by rw [e16, hp_at]
  have hD16 : ∀ j, 0 < j → j < 70 → j ≠ 15 → j ≠ 16 → E16 j = hpE z cy j (hp0 j) := fun j h1 h2 hn15 hn16 => by
    rw [e16, hp_ne (by omega)]; exact hD15 j h1 (by omega) hn15 hn16
  refine lv_aload_n C.1 C.2.1 dX8_init_64 rfl (lv_at hl 0 rfl) ?_
  refine n_size (n := 70) h0 rfl hS hP (fun hsz => ?_)
  refine n_new (fs := [.null, .int (hpI 0), .int (hpI 0), .int (hpI 0), .int (hpI 0), .int (hpI 0), .int (hpI 0), .int (hpI 0), .int (hpI 0)]) C O4 bl_4 wd_139 wd_140 wd_4 hP hS hsz (Nat.le_of_ble_eq_true rfl) (Nat.le_of_ble_eq_true rfl) dX8_init_65 (fun H hP hS => ?_)
  obtain ⟨E17, e17⟩ : ∃ F, F = va_up E16 70 (.inr (4, [.null, .int (hpI 0), .int (hpI 0), .int (hpI 0), .int (hpI 0), .int (hpI 0), .int (hpI 0), .int (hpI 0), .int (hpI 0)])) := ⟨_, rfl⟩
  rw [← e17] at hP
  have hO17 : ∀ j, j < 0 → E17 j = E0 j := fun j h => by rw [e17]; exact (hp_ne (by omega)).trans (hO16 j h)
  have hp17_15 : E17 15 = .inl (cy 14, 3, .inr (.inr (.inr (.inr (fun _ => none))))) := by rw [e17, hp_ne (by decide)]; exact hp16_15
  have hp17_16 : E17 16 = .inl (cy 16, 4, .inr (.inr (.inr (.inr (fun _ => none))))) := by rw [e17, hp_ne (by decide)]; exact hp16_16
  have hp17_0 : E17 0 = .inr (8, [.ref (z + 1), .ref (z + 3), .ref (z + 9), .ref (z + 15), .ref (z + 16), .ref (z + 17), .null, .null, .null, .null, .null, .null, .null, .int (hpI 0), .int (hpI 0), .int (hpI 0)]) := by rw [e17, hp_ne (by decide)]; exact hp16_0
  have hp17_70 : E17 70 = .inr (4, [.null, .int (hpI 0), .int (hpI 0), .int (hpI 0), .int (hpI 0), .int (hpI 0), .int (hpI 0), .int (hpI 0), .int (hpI 0)]) := by rw [e17, hp_at]
  have hD17 : ∀ j, 0 < j → j < 71 → j ≠ 15 → j ≠ 16 → j ≠ 70 → E17 j = hpE z cy j (hp0 j) := fun j h1 h2 hn15 hn16 hn70 => by
    rw [e17, hp_ne (by omega)]; exact hD16 j h1 (by omega) hn15 hn16
  refine lv_dup C.1 C.2.1 dX8_init_68 rfl ?_
  refine n_size (n := 71) h0 rfl hS hP (fun hsz => ?_)
  refine n_ctorN C A yk_4 nw_141 (kX4_70 l D cy z _ hp17_70) hl hP hS hsz ⟨rfl, rfl, Nat.le_of_ble_eq_true rfl, Nat.le_of_ble_eq_true rfl⟩ ⟨Nat.le_of_ble_eq_true rfl, Nat.le_of_ble_eq_true rfl⟩ (Nat.le_of_ble_eq_true rfl) dX8_init_69 (fun H locs E18 hP hS hj18 hi18 => ?_)
  have hO18 : ∀ j, j < 0 → E18 j = E0 j := fun j h => (hj18 j (by omega)).trans (hO17 j h)
  have hp18_15 : E18 15 = .inl (cy 14, 3, .inr (.inr (.inr (.inr (fun _ => none))))) := (hj18 15 (by decide)).trans hp17_15
  have hp18_16 : E18 16 = .inl (cy 16, 4, .inr (.inr (.inr (.inr (fun _ => none))))) := (hj18 16 (by decide)).trans hp17_16
  have hp18_0 : E18 0 = .inr (8, [.ref (z + 1), .ref (z + 3), .ref (z + 9), .ref (z + 15), .ref (z + 16), .ref (z + 17), .null, .null, .null, .null, .null, .null, .null, .int (hpI 0), .int (hpI 0), .int (hpI 0)]) := (hj18 0 (by decide)).trans hp17_0
  have hD18 : ∀ j, 0 < j → j < 123 → j ≠ 15 → j ≠ 16 → E18 j = hpE z cy j (hp0 j) := fun j h1 h2 hn15 hn16 => by
    rcases Nat.lt_or_ge j 70 with h | h
    · exact (hj18 j h).trans (hD17 j h1 (by omega) hn15 hn16 (by omega))
    · exact hi18 j h h2
  refine n_putF (fs' := [.ref (z + 1), .ref (z + 3), .ref (z + 9), .ref (z + 15), .ref (z + 16), .ref (z + 17), .ref (z + 70), .null, .null, .null, .null, .null, .null, .int (hpI 0), .int (hpI 0), .int (hpI 0)]) C O8 6 (by decide) hp18_0 (by decide) rfl hnm rfl wd_355 rfl rfl (Nat.le_of_ble_eq_true rfl) rfl hP hS dX8_init_72 (fun H locs hP hS => ?_)
  obtain ⟨E19, e19⟩ : ∃ F, F = va_up E18 0 (.inr (8, [.ref (z + 1), .ref (z + 3), .ref (z + 9), .ref (z + 15), .ref (z + 16), .ref (z + 17), .ref (z + 70), .null, .null, .null, .null, .null, .null, .int (hpI 0), .int (hpI 0), .int (hpI 0)])) := ⟨_, rfl⟩
  rw [← e19] at hP
  have hO19 : ∀ j, j < 0 → E19 j = E0 j := fun j h => by rw [e19]; exact (hp_ne (by omega)).trans (hO18 j h)
  have hp19_15 : E19 15 = .inl (cy 14, 3, .inr (.inr (.inr (.inr (fun _ => none))))) := by rw [e19, hp_ne (by decide)]; exact hp18_15
  have hp19_16 : E19 16 = .inl (cy 16, 4, .inr (.inr (.inr (.inr (fun _ => none))))) := by rw [e19, hp_ne (by decide)]; exact hp18_16
  have hp19_0 : E19 0 = .inr (8, [.ref (z + 1), .ref (z + 3), .ref (z + 9), .ref (z + 15), .ref (z + 16), .ref (z + 17), .ref (z + 70), .null, .null, .null, .null, .null, .null, .int (hpI 0), .int (hpI 0), .int (hpI 0)]) := by rw [e19, hp_at]
  have hD19 : ∀ j, 0 < j → j < 123 → j ≠ 15 → j ≠ 16 → E19 j = hpE z cy j (hp0 j) := fun j h1 h2 hn15 hn16 => by
    rw [e19, hp_ne (by omega)]; exact hD18 j h1 (by omega) hn15 hn16
  refine lv_aload_n C.1 C.2.1 dX8_init_75 rfl (lv_at hl 0 rfl) ?_
  refine n_size (n := 123) h0 rfl hS hP (fun hsz => ?_)
  refine n_new (fs := [.null, .null, .int (hpI 0), .int (hpI 0), .int (hpI 0), .int (hpI 0)]) C O2 bl_2 wd_215 wd_216 wd_6 hP hS hsz (Nat.le_of_ble_eq_true rfl) (Nat.le_of_ble_eq_true rfl) dX8_init_76 (fun H hP hS => ?_)
  obtain ⟨E20, e20⟩ : ∃ F, F = va_up E19 123 (.inr (2, [.null, .null, .int (hpI 0), .int (hpI 0), .int (hpI 0), .int (hpI 0)])) := ⟨_, rfl⟩
  rw [← e20] at hP
  have hO20 : ∀ j, j < 0 → E20 j = E0 j := fun j h => by rw [e20]; exact (hp_ne (by omega)).trans (hO19 j h)
  have hp20_15 : E20 15 = .inl (cy 14, 3, .inr (.inr (.inr (.inr (fun _ => none))))) := by rw [e20, hp_ne (by decide)]; exact hp19_15
  have hp20_16 : E20 16 = .inl (cy 16, 4, .inr (.inr (.inr (.inr (fun _ => none))))) := by rw [e20, hp_ne (by decide)]; exact hp19_16
  have hp20_0 : E20 0 = .inr (8, [.ref (z + 1), .ref (z + 3), .ref (z + 9), .ref (z + 15), .ref (z + 16), .ref (z + 17), .ref (z + 70), .null, .null, .null, .null, .null, .null, .int (hpI 0), .int (hpI 0), .int (hpI 0)]) := by rw [e20, hp_ne (by decide)]; exact hp19_0
  have hp20_123 : E20 123 = .inr (2, [.null, .null, .int (hpI 0), .int (hpI 0), .int (hpI 0), .int (hpI 0)]) := by rw [e20, hp_at]
  have hD20 : ∀ j, 0 < j → j < 124 → j ≠ 15 → j ≠ 16 → j ≠ 123 → E20 j = hpE z cy j (hp0 j) := fun j h1 h2 hn15 hn16 hn123 => by
    rw [e20, hp_ne (by omega)]; exact hD19 j h1 (by omega) hn15 hn16
  refine lv_dup C.1 C.2.1 dX8_init_79 rfl ?_
  refine n_size (n := 124) h0 rfl hS hP (fun hsz => ?_)
  refine n_ctorN C A yk_2 nw_217 (kX2_123 l D cy z _ hp20_123) hl hP hS hsz ⟨rfl, rfl, Nat.le_of_ble_eq_true rfl, Nat.le_of_ble_eq_true rfl⟩ ⟨Nat.le_of_ble_eq_true rfl, Nat.le_of_ble_eq_true rfl⟩ (Nat.le_of_ble_eq_true rfl) dX8_init_80 (fun H locs E21 hP hS hj21 hi21 => ?_)
  have hO21 : ∀ j, j < 0 → E21 j = E0 j := fun j h => (hj21 j (by omega)).trans (hO20 j h)
  have hp21_15 : E21 15 = .inl (cy 14, 3, .inr (.inr (.inr (.inr (fun _ => none))))) := (hj21 15 (by decide)).trans hp20_15
  have hp21_16 : E21 16 = .inl (cy 16, 4, .inr (.inr (.inr (.inr (fun _ => none))))) := (hj21 16 (by decide)).trans hp20_16
  have hp21_0 : E21 0 = .inr (8, [.ref (z + 1), .ref (z + 3), .ref (z + 9), .ref (z + 15), .ref (z + 16), .ref (z + 17), .ref (z + 70), .null, .null, .null, .null, .null, .null, .int (hpI 0), .int (hpI 0), .int (hpI 0)]) := (hj21 0 (by decide)).trans hp20_0
  have hD21 : ∀ j, 0 < j → j < 130 → j ≠ 15 → j ≠ 16 → E21 j = hpE z cy j (hp0 j) := fun j h1 h2 hn15 hn16 => by
    rcases Nat.lt_or_ge j 123 with h | h
    · exact (hj21 j h).trans (hD20 j h1 (by omega) hn15 hn16 (by omega))
    · exact hi21 j h h2
  refine n_putF (fs' := [.ref (z + 1), .ref (z + 3), .ref (z + 9), .ref (z + 15), .ref (z + 16), .ref (z + 17), .ref (z + 70), .ref (z + 123), .null, .null, .null, .null, .null, .int (hpI 0), .int (hpI 0), .int (hpI 0)]) C O8 7 (by decide) hp21_0 (by decide) rfl hnm rfl wd_356 rfl rfl (Nat.le_of_ble_eq_true rfl) rfl hP hS dX8_init_83 (fun H locs hP hS => ?_)
  obtain ⟨E22, e22⟩ : ∃ F, F = va_up E21 0 (.inr (8, [.ref (z + 1), .ref (z + 3), .ref (z + 9), .ref (z + 15), .ref (z + 16), .ref (z + 17), .ref (z + 70), .ref (z + 123), .null, .null, .null, .null, .null, .int (hpI 0), .int (hpI 0), .int (hpI 0)])) := ⟨_, rfl⟩
  rw [← e22] at hP
  have hO22 : ∀ j, j < 0 → E22 j = E0 j := fun j h => by rw [e22]; exact (hp_ne (by omega)).trans (hO21 j h)
  have hp22_15 : E22 15 = .inl (cy 14, 3, .inr (.inr (.inr (.inr (fun _ => none))))) := by rw [e22, hp_ne (by decide)]; exact hp21_15
  have hp22_16 : E22 16 = .inl (cy 16, 4, .inr (.inr (.inr (.inr (fun _ => none))))) := by rw [e22, hp_ne (by decide)]; exact hp21_16
  have hp22_0 : E22 0 = .inr (8, [.ref (z + 1), .ref (z + 3), .ref (z + 9), .ref (z + 15), .ref (z + 16), .ref (z + 17), .ref (z + 70), .ref (z + 123), .null, .null, .null, .null, .null, .int (hpI 0), .int (hpI 0), .int (hpI 0)]) := by rw [e22, hp_at]
  have hD22 : ∀ j, 0 < j → j < 130 → j ≠ 15 → j ≠ 16 → E22 j = hpE z cy j (hp0 j) := fun j h1 h2 hn15 hn16 => by
    rw [e22, hp_ne (by omega)]; exact hD21 j h1 (by omega) hn15 hn16
  refine lv_aload_n C.1 C.2.1 dX8_init_86 rfl (lv_at hl 0 rfl) ?_
  refine n_size (n := 130) h0 rfl hS hP (fun hsz => ?_)
  refine n_new (fs := [.null, .null, .null, .null, .null, .null, .null, .null, .int (hpI 0), .int (hpI 0), .int (hpI 0), .int (hpI 0), .int (hpI 0), .int (hpI 0), .int (hpI 0)]) C O0 bl_0 wd_246 wd_247 wd_7 hP hS hsz (Nat.le_of_ble_eq_true rfl) (Nat.le_of_ble_eq_true rfl) dX8_init_87 (fun H hP hS => ?_)
  obtain ⟨E23, e23⟩ : ∃ F, F = va_up E22 130 (.inr (0, [.null, .null, .null, .null, .null, .null, .null, .null, .int (hpI 0), .int (hpI 0), .int (hpI 0), .int (hpI 0), .int (hpI 0), .int (hpI 0), .int (hpI 0)])) := ⟨_, rfl⟩
  rw [← e23] at hP
  have hO23 : ∀ j, j < 0 → E23 j = E0 j := fun j h => by rw [e23]; exact (hp_ne (by omega)).trans (hO22 j h)
  have hp23_15 : E23 15 = .inl (cy 14, 3, .inr (.inr (.inr (.inr (fun _ => none))))) := by rw [e23, hp_ne (by decide)]; exact hp22_15
  have hp23_16 : E23 16 = .inl (cy 16, 4, .inr (.inr (.inr (.inr (fun _ => none))))) := by rw [e23, hp_ne (by decide)]; exact hp22_16
  have hp23_0 : E23 0 = .inr (8, [.ref (z + 1), .ref (z + 3), .ref (z + 9), .ref (z + 15), .ref (z + 16), .ref (z + 17), .ref (z + 70), .ref (z + 123), .null, .null, .null, .null, .null, .int (hpI 0), .int (hpI 0), .int (hpI 0)]) := by rw [e23, hp_ne (by decide)]; exact hp22_0
  have hp23_130 : E23 130 = .inr (0, [.null, .null, .null, .null, .null, .null, .null, .null, .int (hpI 0), .int (hpI 0), .int (hpI 0), .int (hpI 0), .int (hpI 0), .int (hpI 0), .int (hpI 0)]) := by rw [e23, hp_at]
  have hD23 : ∀ j, 0 < j → j < 131 → j ≠ 15 → j ≠ 16 → j ≠ 130 → E23 j = hpE z cy j (hp0 j) := fun j h1 h2 hn15 hn16 hn130 => by
    rw [e23, hp_ne (by omega)]; exact hD22 j h1 (by omega) hn15 hn16
  refine lv_dup C.1 C.2.1 dX8_init_90 rfl ?_
  refine n_size (n := 131) h0 rfl hS hP (fun hsz => ?_)
  refine n_ctorN C A yk_0 nw_248 (kX0_130 l D cy z _ hp23_130) hl hP hS hsz ⟨rfl, rfl, Nat.le_of_ble_eq_true rfl, Nat.le_of_ble_eq_true rfl⟩ ⟨Nat.le_of_ble_eq_true rfl, Nat.le_of_ble_eq_true rfl⟩ (Nat.le_of_ble_eq_true rfl) dX8_init_91 (fun H locs E24 hP hS hj24 hi24 => ?_)
  have hO24 : ∀ j, j < 0 → E24 j = E0 j := fun j h => (hj24 j (by omega)).trans (hO23 j h)
  have hp24_15 : E24 15 = .inl (cy 14, 3, .inr (.inr (.inr (.inr (fun _ => none))))) := (hj24 15 (by decide)).trans hp23_15
  have hp24_16 : E24 16 = .inl (cy 16, 4, .inr (.inr (.inr (.inr (fun _ => none))))) := (hj24 16 (by decide)).trans hp23_16
  have hp24_0 : E24 0 = .inr (8, [.ref (z + 1), .ref (z + 3), .ref (z + 9), .ref (z + 15), .ref (z + 16), .ref (z + 17), .ref (z + 70), .ref (z + 123), .null, .null, .null, .null, .null, .int (hpI 0), .int (hpI 0), .int (hpI 0)]) := (hj24 0 (by decide)).trans hp23_0
  have hD24 : ∀ j, 0 < j → j < 141 → j ≠ 15 → j ≠ 16 → E24 j = hpE z cy j (hp0 j) := fun j h1 h2 hn15 hn16 => by
    rcases Nat.lt_or_ge j 130 with h | h
    · exact (hj24 j h).trans (hD23 j h1 (by omega) hn15 hn16 (by omega))
    · exact hi24 j h h2
  refine n_putF (fs' := [.ref (z + 1), .ref (z + 3), .ref (z + 9), .ref (z + 15), .ref (z + 16), .ref (z + 17), .ref (z + 70), .ref (z + 123), .ref (z + 130), .null, .null, .null, .null, .int (hpI 0), .int (hpI 0), .int (hpI 0)]) C O8 8 (by decide) hp24_0 (by decide) rfl hnm rfl wd_357 rfl rfl (Nat.le_of_ble_eq_true rfl) rfl hP hS dX8_init_94 (fun H locs hP hS => ?_)
  obtain ⟨E25, e25⟩ : ∃ F, F = va_up E24 0 (.inr (8, [.ref (z + 1), .ref (z + 3), .ref (z + 9), .ref (z + 15), .ref (z + 16), .ref (z + 17), .ref (z + 70), .ref (z + 123), .ref (z + 130), .null, .null, .null, .null, .int (hpI 0), .int (hpI 0), .int (hpI 0)])) := ⟨_, rfl⟩
  rw [← e25] at hP
  have hO25 : ∀ j, j < 0 → E25 j = E0 j := fun j h => by rw [e25]; exact (hp_ne (by omega)).trans (hO24 j h)
  have hp25_15 : E25 15 = .inl (cy 14, 3, .inr (.inr (.inr (.inr (fun _ => none))))) := by rw [e25, hp_ne (by decide)]; exact hp24_15
  have hp25_16 : E25 16 = .inl (cy 16, 4, .inr (.inr (.inr (.inr (fun _ => none))))) := by rw [e25, hp_ne (by decide)]; exact hp24_16
  have hp25_0 : E25 0 = .inr (8, [.ref (z + 1), .ref (z + 3), .ref (z + 9), .ref (z + 15), .ref (z + 16), .ref (z + 17), .ref (z + 70), .ref (z + 123), .ref (z + 130), .null, .null, .null, .null, .int (hpI 0), .int (hpI 0), .int (hpI 0)]) := by rw [e25, hp_at]
  have hD25 : ∀ j, 0 < j → j < 141 → j ≠ 15 → j ≠ 16 → E25 j = hpE z cy j (hp0 j) := fun j h1 h2 hn15 hn16 => by
    rw [e25, hp_ne (by omega)]; exact hD24 j h1 (by omega) hn15 hn16
  refine lv_aload_n C.1 C.2.1 dX8_init_97 rfl (lv_at hl 0 rfl) ?_
  refine n_size (n := 141) h0 rfl hS hP (fun hsz => ?_)
  refine n_new (fs := [.null, .null, .int (hpI 0)]) C O5 bl_5 wd_306 wd_307 wd_8 hP hS hsz (Nat.le_of_ble_eq_true rfl) (Nat.le_of_ble_eq_true rfl) dX8_init_98 (fun H hP hS => ?_)
  obtain ⟨E26, e26⟩ : ∃ F, F = va_up E25 141 (.inr (5, [.null, .null, .int (hpI 0)])) := ⟨_, rfl⟩
  rw [← e26] at hP
  have hO26 : ∀ j, j < 0 → E26 j = E0 j := fun j h => by rw [e26]; exact (hp_ne (by omega)).trans (hO25 j h)
  have hp26_15 : E26 15 = .inl (cy 14, 3, .inr (.inr (.inr (.inr (fun _ => none))))) := by rw [e26, hp_ne (by decide)]; exact hp25_15
  have hp26_16 : E26 16 = .inl (cy 16, 4, .inr (.inr (.inr (.inr (fun _ => none))))) := by rw [e26, hp_ne (by decide)]; exact hp25_16
  have hp26_0 : E26 0 = .inr (8, [.ref (z + 1), .ref (z + 3), .ref (z + 9), .ref (z + 15), .ref (z + 16), .ref (z + 17), .ref (z + 70), .ref (z + 123), .ref (z + 130), .null, .null, .null, .null, .int (hpI 0), .int (hpI 0), .int (hpI 0)]) := by rw [e26, hp_ne (by decide)]; exact hp25_0
  have hp26_141 : E26 141 = .inr (5, [.null, .null, .int (hpI 0)]) := by rw [e26, hp_at]
  have hD26 : ∀ j, 0 < j → j < 142 → j ≠ 15 → j ≠ 16 → j ≠ 141 → E26 j = hpE z cy j (hp0 j) := fun j h1 h2 hn15 hn16 hn141 => by
    rw [e26, hp_ne (by omega)]; exact hD25 j h1 (by omega) hn15 hn16
  refine lv_dup C.1 C.2.1 dX8_init_101 rfl ?_
  refine n_size (n := 142) h0 rfl hS hP (fun hsz => ?_)
  refine n_ctorN C A yk_5 nw_308 (kX5_141 l D cy z _ hp26_141) hl hP hS hsz ⟨rfl, rfl, Nat.le_of_ble_eq_true rfl, Nat.le_of_ble_eq_true rfl⟩ ⟨Nat.le_of_ble_eq_true rfl, Nat.le_of_ble_eq_true rfl⟩ (Nat.le_of_ble_eq_true rfl) dX8_init_102 (fun H locs E27 hP hS hj27 hi27 => ?_)
  have hO27 : ∀ j, j < 0 → E27 j = E0 j := fun j h => (hj27 j (by omega)).trans (hO26 j h)
  have hp27_15 : E27 15 = .inl (cy 14, 3, .inr (.inr (.inr (.inr (fun _ => none))))) := (hj27 15 (by decide)).trans hp26_15
  have hp27_16 : E27 16 = .inl (cy 16, 4, .inr (.inr (.inr (.inr (fun _ => none))))) := (hj27 16 (by decide)).trans hp26_16
  have hp27_0 : E27 0 = .inr (8, [.ref (z + 1), .ref (z + 3), .ref (z + 9), .ref (z + 15), .ref (z + 16), .ref (z + 17), .ref (z + 70), .ref (z + 123), .ref (z + 130), .null, .null, .null, .null, .int (hpI 0), .int (hpI 0), .int (hpI 0)]) := (hj27 0 (by decide)).trans hp26_0
  have hD27 : ∀ j, 0 < j → j < 164 → j ≠ 15 → j ≠ 16 → E27 j = hpE z cy j (hp0 j) := fun j h1 h2 hn15 hn16 => by
    rcases Nat.lt_or_ge j 141 with h | h
    · exact (hj27 j h).trans (hD26 j h1 (by omega) hn15 hn16 (by omega))
    · exact hi27 j h h2
  refine n_putF (fs' := [.ref (z + 1), .ref (z + 3), .ref (z + 9), .ref (z + 15), .ref (z + 16), .ref (z + 17), .ref (z + 70), .ref (z + 123), .ref (z + 130), .ref (z + 141), .null, .null, .null, .int (hpI 0), .int (hpI 0), .int (hpI 0)]) C O8 9 (by decide) hp27_0 (by decide) rfl hnm rfl wd_358 rfl rfl (Nat.le_of_ble_eq_true rfl) rfl hP hS dX8_init_105 (fun H locs hP hS => ?_)
  obtain ⟨E28, e28⟩ : ∃ F, F = va_up E27 0 (.inr (8, [.ref (z + 1), .ref (z + 3), .ref (z + 9), .ref (z + 15), .ref (z + 16), .ref (z + 17), .ref (z + 70), .ref (z + 123), .ref (z + 130), .ref (z + 141), .null, .null, .null, .int (hpI 0), .int (hpI 0), .int (hpI 0)])) := ⟨_, rfl⟩
  rw [← e28] at hP
  have hO28 : ∀ j, j < 0 → E28 j = E0 j := fun j h => by rw [e28]; exact (hp_ne (by omega)).trans (hO27 j h)
  have hp28_15 : E28 15 = .inl (cy 14, 3, .inr (.inr (.inr (.inr (fun _ => none))))) := by rw [e28, hp_ne (by decide)]; exact hp27_15
  have hp28_16 : E28 16 = .inl (cy 16, 4, .inr (.inr (.inr (.inr (fun _ => none))))) := by rw [e28, hp_ne (by decide)]; exact hp27_16
  have hp28_0 : E28 0 = .inr (8, [.ref (z + 1), .ref (z + 3), .ref (z + 9), .ref (z + 15), .ref (z + 16), .ref (z + 17), .ref (z + 70), .ref (z + 123), .ref (z + 130), .ref (z + 141), .null, .null, .null, .int (hpI 0), .int (hpI 0), .int (hpI 0)]) := by rw [e28, hp_at]
  have hD28 : ∀ j, 0 < j → j < 164 → j ≠ 15 → j ≠ 16 → E28 j = hpE z cy j (hp0 j) := fun j h1 h2 hn15 hn16 => by
    rw [e28, hp_ne (by omega)]; exact hD27 j h1 (by omega) hn15 hn16
  refine lv_aload_n C.1 C.2.1 dX8_init_108 rfl (lv_at hl 0 rfl) ?_
  refine n_size (n := 164) h0 rfl hS hP (fun hsz => ?_)
  refine n_new (fs := [.null, .null, .int (hpI 0), .int (hpI 0), .int (hpI 0)]) C O3 bl_3 wd_325 wd_147 wd_5 hP hS hsz (Nat.le_of_ble_eq_true rfl) (Nat.le_of_ble_eq_true rfl) dX8_init_109 (fun H hP hS => ?_)
  obtain ⟨E29, e29⟩ : ∃ F, F = va_up E28 164 (.inr (3, [.null, .null, .int (hpI 0), .int (hpI 0), .int (hpI 0)])) := ⟨_, rfl⟩
  rw [← e29] at hP
  have hO29 : ∀ j, j < 0 → E29 j = E0 j := fun j h => by rw [e29]; exact (hp_ne (by omega)).trans (hO28 j h)
  have hp29_15 : E29 15 = .inl (cy 14, 3, .inr (.inr (.inr (.inr (fun _ => none))))) := by rw [e29, hp_ne (by decide)]; exact hp28_15
  have hp29_16 : E29 16 = .inl (cy 16, 4, .inr (.inr (.inr (.inr (fun _ => none))))) := by rw [e29, hp_ne (by decide)]; exact hp28_16
  have hp29_0 : E29 0 = .inr (8, [.ref (z + 1), .ref (z + 3), .ref (z + 9), .ref (z + 15), .ref (z + 16), .ref (z + 17), .ref (z + 70), .ref (z + 123), .ref (z + 130), .ref (z + 141), .null, .null, .null, .int (hpI 0), .int (hpI 0), .int (hpI 0)]) := by rw [e29, hp_ne (by decide)]; exact hp28_0
  have hp29_164 : E29 164 = .inr (3, [.null, .null, .int (hpI 0), .int (hpI 0), .int (hpI 0)]) := by rw [e29, hp_at]
  have hD29 : ∀ j, 0 < j → j < 165 → j ≠ 15 → j ≠ 16 → j ≠ 164 → E29 j = hpE z cy j (hp0 j) := fun j h1 h2 hn15 hn16 hn164 => by
    rw [e29, hp_ne (by omega)]; exact hD28 j h1 (by omega) hn15 hn16
  refine lv_dup C.1 C.2.1 dX8_init_112 rfl ?_
  refine n_size (n := 165) h0 rfl hS hP (fun hsz => ?_)
  refine n_ctorN C A yk_3 nw_326 (kX3_164 l D cy z _ hp29_164) hl hP hS hsz ⟨rfl, rfl, Nat.le_of_ble_eq_true rfl, Nat.le_of_ble_eq_true rfl⟩ ⟨Nat.le_of_ble_eq_true rfl, Nat.le_of_ble_eq_true rfl⟩ (Nat.le_of_ble_eq_true rfl) dX8_init_113 (fun H locs E30 hP hS hj30 hi30 => ?_)
  have hO30 : ∀ j, j < 0 → E30 j = E0 j := fun j h => (hj30 j (by omega)).trans (hO29 j h)
  have hp30_15 : E30 15 = .inl (cy 14, 3, .inr (.inr (.inr (.inr (fun _ => none))))) := (hj30 15 (by decide)).trans hp29_15
  have hp30_16 : E30 16 = .inl (cy 16, 4, .inr (.inr (.inr (.inr (fun _ => none))))) := (hj30 16 (by decide)).trans hp29_16
  have hp30_0 : E30 0 = .inr (8, [.ref (z + 1), .ref (z + 3), .ref (z + 9), .ref (z + 15), .ref (z + 16), .ref (z + 17), .ref (z + 70), .ref (z + 123), .ref (z + 130), .ref (z + 141), .null, .null, .null, .int (hpI 0), .int (hpI 0), .int (hpI 0)]) := (hj30 0 (by decide)).trans hp29_0
  have hD30 : ∀ j, 0 < j → j < 167 → j ≠ 15 → j ≠ 16 → E30 j = hpE z cy j (hp0 j) := fun j h1 h2 hn15 hn16 => by
    rcases Nat.lt_or_ge j 164 with h | h
    · exact (hj30 j h).trans (hD29 j h1 (by omega) hn15 hn16 (by omega))
    · exact hi30 j h h2
  refine n_putF (fs' := [.ref (z + 1), .ref (z + 3), .ref (z + 9), .ref (z + 15), .ref (z + 16), .ref (z + 17), .ref (z + 70), .ref (z + 123), .ref (z + 130), .ref (z + 141), .ref (z + 164), .null, .null, .int (hpI 0), .int (hpI 0), .int (hpI 0)]) C O8 10 (by decide) hp30_0 (by decide) rfl hnm rfl wd_359 rfl rfl (Nat.le_of_ble_eq_true rfl) rfl hP hS dX8_init_116 (fun H locs hP hS => ?_)
  obtain ⟨E31, e31⟩ : ∃ F, F = va_up E30 0 (.inr (8, [.ref (z + 1), .ref (z + 3), .ref (z + 9), .ref (z + 15), .ref (z + 16), .ref (z + 17), .ref (z + 70), .ref (z + 123), .ref (z + 130), .ref (z + 141), .ref (z + 164), .null, .null, .int (hpI 0), .int (hpI 0), .int (hpI 0)])) := ⟨_, rfl⟩
  rw [← e31] at hP
  have hO31 : ∀ j, j < 0 → E31 j = E0 j := fun j h => by rw [e31]; exact (hp_ne (by omega)).trans (hO30 j h)
  have hp31_15 : E31 15 = .inl (cy 14, 3, .inr (.inr (.inr (.inr (fun _ => none))))) := by rw [e31, hp_ne (by decide)]; exact hp30_15
  have hp31_16 : E31 16 = .inl (cy 16, 4, .inr (.inr (.inr (.inr (fun _ => none))))) := by rw [e31, hp_ne (by decide)]; exact hp30_16
  have hp31_0 : E31 0 = .inr (8, [.ref (z + 1), .ref (z + 3), .ref (z + 9), .ref (z + 15), .ref (z + 16), .ref (z + 17), .ref (z + 70), .ref (z + 123), .ref (z + 130), .ref (z + 141), .ref (z + 164), .null, .null, .int (hpI 0), .int (hpI 0), .int (hpI 0)]) := by rw [e31, hp_at]
  have hD31 : ∀ j, 0 < j → j < 167 → j ≠ 15 → j ≠ 16 → E31 j = hpE z cy j (hp0 j) := fun j h1 h2 hn15 hn16 => by
    rw [e31, hp_ne (by omega)]; exact hD30 j h1 (by omega) hn15 hn16
  refine lv_aload_n C.1 C.2.1 dX8_init_119 rfl (lv_at hl 0 rfl) ?_
  refine lv_bipush (v := hpI 64) C.1 C.2.1 dX8_init_120 (by decide) ?_
  refine n_size (n := 167) h0 rfl hS hP (fun hsz => ?_)
  refine n_newa (atype := .int) (ci := 11) (t0 := 1) (a0 := (64, .inl (fun i => hpI (hp0 167 i)))) C wd_135 rfl rfl (fun U h => h) (az_167) rfl (by decide) (Nat.le_of_ble_eq_true rfl) hP hS hsz (Nat.le_of_ble_eq_true rfl) (Nat.le_of_ble_eq_true rfl) dX8_init_122 (fun H hP hS => ?_)
  obtain ⟨E32, e32⟩ : ∃ F, F = va_up E31 167 (.inl (cy 11, 64, .inl (fun i => hpI (hp0 167 i)))) := ⟨_, rfl⟩
  rw [← e32] at hP
  have hO32 : ∀ j, j < 0 → E32 j = E0 j := fun j h => by rw [e32]; exact (hp_ne (by omega)).trans (hO31 j h)
  have hp32_15 : E32 15 = .inl (cy 14, 3, .inr (.inr (.inr (.inr (fun _ => none))))) := by rw [e32, hp_ne (by decide)]; exact hp31_15
  have hp32_16 : E32 16 = .inl (cy 16, 4, .inr (.inr (.inr (.inr (fun _ => none))))) := by rw [e32, hp_ne (by decide)]; exact hp31_16
  have hp32_0 : E32 0 = .inr (8, [.ref (z + 1), .ref (z + 3), .ref (z + 9), .ref (z + 15), .ref (z + 16), .ref (z + 17), .ref (z + 70), .ref (z + 123), .ref (z + 130), .ref (z + 141), .ref (z + 164), .null, .null, .int (hpI 0), .int (hpI 0), .int (hpI 0)]) := by rw [e32, hp_ne (by decide)]; exact hp31_0
  have hD32 : ∀ j, 0 < j → j < 168 → j ≠ 15 → j ≠ 16 → E32 j = hpE z cy j (hp0 j) := fun j h1 h2 hn15 hn16 => by
    rcases Nat.lt_or_ge j 167 with h | h
    · rw [e32, hp_ne (by omega)]; exact hD31 j h1 h hn15 hn16
    · obtain rfl : j = 167 := by omega
      rw [e32, hp_at, ea_167]
  refine n_putF (fs' := [.ref (z + 1), .ref (z + 3), .ref (z + 9), .ref (z + 15), .ref (z + 16), .ref (z + 17), .ref (z + 70), .ref (z + 123), .ref (z + 130), .ref (z + 141), .ref (z + 164), .ref (z + 167), .null, .int (hpI 0), .int (hpI 0), .int (hpI 0)]) C O8 11 (by decide) hp32_0 (by decide) rfl hnm rfl wd_360 rfl rfl (Nat.le_of_ble_eq_true rfl) rfl hP hS dX8_init_124 (fun H locs hP hS => ?_)
  obtain ⟨E33, e33⟩ : ∃ F, F = va_up E32 0 (.inr (8, [.ref (z + 1), .ref (z + 3), .ref (z + 9), .ref (z + 15), .ref (z + 16), .ref (z + 17), .ref (z + 70), .ref (z + 123), .ref (z + 130), .ref (z + 141), .ref (z + 164), .ref (z + 167), .null, .int (hpI 0), .int (hpI 0), .int (hpI 0)])) := ⟨_, rfl⟩
  rw [← e33] at hP
  have hO33 : ∀ j, j < 0 → E33 j = E0 j := fun j h => by rw [e33]; exact (hp_ne (by omega)).trans (hO32 j h)
  have hp33_15 : E33 15 = .inl (cy 14, 3, .inr (.inr (.inr (.inr (fun _ => none))))) := by rw [e33, hp_ne (by decide)]; exact hp32_15
  have hp33_16 : E33 16 = .inl (cy 16, 4, .inr (.inr (.inr (.inr (fun _ => none))))) := by rw [e33, hp_ne (by decide)]; exact hp32_16
  have hp33_0 : E33 0 = .inr (8, [.ref (z + 1), .ref (z + 3), .ref (z + 9), .ref (z + 15), .ref (z + 16), .ref (z + 17), .ref (z + 70), .ref (z + 123), .ref (z + 130), .ref (z + 141), .ref (z + 164), .ref (z + 167), .null, .int (hpI 0), .int (hpI 0), .int (hpI 0)]) := by rw [e33, hp_at]
  have hD33 : ∀ j, 0 < j → j < 168 → j ≠ 15 → j ≠ 16 → E33 j = hpE z cy j (hp0 j) := fun j h1 h2 hn15 hn16 => by
    rw [e33, hp_ne (by omega)]; exact hD32 j h1 (by omega) hn15 hn16
  refine lv_aload_n C.1 C.2.1 dX8_init_127 rfl (lv_at hl 0 rfl) ?_
  refine lv_bipush (v := hpI 8) C.1 C.2.1 dX8_init_128 (by decide) ?_
  refine n_size (n := 168) h0 rfl hS hP (fun hsz => ?_)
  refine n_newa (atype := .int) (ci := 11) (t0 := 1) (a0 := (8, .inl (fun i => hpI (hp0 168 i)))) C wd_135 rfl rfl (fun U h => h) (az_168) rfl (by decide) (Nat.le_of_ble_eq_true rfl) hP hS hsz (Nat.le_of_ble_eq_true rfl) (Nat.le_of_ble_eq_true rfl) dX8_init_130 (fun H hP hS => ?_)
  obtain ⟨E34, e34⟩ : ∃ F, F = va_up E33 168 (.inl (cy 11, 8, .inl (fun i => hpI (hp0 168 i)))) := ⟨_, rfl⟩
  rw [← e34] at hP
  have hO34 : ∀ j, j < 0 → E34 j = E0 j := fun j h => by rw [e34]; exact (hp_ne (by omega)).trans (hO33 j h)
  have hp34_15 : E34 15 = .inl (cy 14, 3, .inr (.inr (.inr (.inr (fun _ => none))))) := by rw [e34, hp_ne (by decide)]; exact hp33_15
  have hp34_16 : E34 16 = .inl (cy 16, 4, .inr (.inr (.inr (.inr (fun _ => none))))) := by rw [e34, hp_ne (by decide)]; exact hp33_16
  have hp34_0 : E34 0 = .inr (8, [.ref (z + 1), .ref (z + 3), .ref (z + 9), .ref (z + 15), .ref (z + 16), .ref (z + 17), .ref (z + 70), .ref (z + 123), .ref (z + 130), .ref (z + 141), .ref (z + 164), .ref (z + 167), .null, .int (hpI 0), .int (hpI 0), .int (hpI 0)]) := by rw [e34, hp_ne (by decide)]; exact hp33_0
  have hD34 : ∀ j, 0 < j → j < 169 → j ≠ 15 → j ≠ 16 → E34 j = hpE z cy j (hp0 j) := fun j h1 h2 hn15 hn16 => by
    rcases Nat.lt_or_ge j 168 with h | h
    · rw [e34, hp_ne (by omega)]; exact hD33 j h1 h hn15 hn16
    · obtain rfl : j = 168 := by omega
      rw [e34, hp_at, ea_168]
  refine n_putF (fs' := [.ref (z + 1), .ref (z + 3), .ref (z + 9), .ref (z + 15), .ref (z + 16), .ref (z + 17), .ref (z + 70), .ref (z + 123), .ref (z + 130), .ref (z + 141), .ref (z + 164), .ref (z + 167), .ref (z + 168), .int (hpI 0), .int (hpI 0), .int (hpI 0)]) C O8 12 (by decide) hp34_0 (by decide) rfl hnm rfl wd_361 rfl rfl (Nat.le_of_ble_eq_true rfl) rfl hP hS dX8_init_132 (fun H locs hP hS => ?_)
  obtain ⟨E35, e35⟩ : ∃ F, F = va_up E34 0 (.inr (8, [.ref (z + 1), .ref (z + 3), .ref (z + 9), .ref (z + 15), .ref (z + 16), .ref (z + 17), .ref (z + 70), .ref (z + 123), .ref (z + 130), .ref (z + 141), .ref (z + 164), .ref (z + 167), .ref (z + 168), .int (hpI 0), .int (hpI 0), .int (hpI 0)])) := ⟨_, rfl⟩
  rw [← e35] at hP
  have hO35 : ∀ j, j < 0 → E35 j = E0 j := fun j h => by rw [e35]; exact (hp_ne (by omega)).trans (hO34 j h)
  have hp35_15 : E35 15 = .inl (cy 14, 3, .inr (.inr (.inr (.inr (fun _ => none))))) := by rw [e35, hp_ne (by decide)]; exact hp34_15
  have hp35_16 : E35 16 = .inl (cy 16, 4, .inr (.inr (.inr (.inr (fun _ => none))))) := by rw [e35, hp_ne (by decide)]; exact hp34_16
  have hp35_0 : E35 0 = .inr (8, [.ref (z + 1), .ref (z + 3), .ref (z + 9), .ref (z + 15), .ref (z + 16), .ref (z + 17), .ref (z + 70), .ref (z + 123), .ref (z + 130), .ref (z + 141), .ref (z + 164), .ref (z + 167), .ref (z + 168), .int (hpI 0), .int (hpI 0), .int (hpI 0)]) := by rw [e35, hp_at]
  have hD35 : ∀ j, 0 < j → j < 169 → j ≠ 15 → j ≠ 16 → E35 j = hpE z cy j (hp0 j) := fun j h1 h2 hn15 hn16 => by
    rw [e35, hp_ne (by omega)]; exact hD34 j h1 (by omega) hn15 hn16
  refine lv_aload_n C.1 C.2.1 dX8_init_135 rfl (lv_at hl 0 rfl) ?_
  refine lv_iconst (v := hpI (-1)) C.1 C.2.1 dX8_init_136 rfl ?_
  refine n_put (fs' := [.ref (z + 1), .ref (z + 3), .ref (z + 9), .ref (z + 15), .ref (z + 16), .ref (z + 17), .ref (z + 70), .ref (z + 123), .ref (z + 130), .ref (z + 141), .ref (z + 164), .ref (z + 167), .ref (z + 168), .int (hpI 0), .int (hpI 0), .int (hpI (-1))]) C O8 15 (by decide) hp35_0 (by decide) rfl wd_364 rfl rfl (Nat.le_of_ble_eq_true rfl) rfl hP hS dX8_init_137 (fun H locs hP hS => ?_)
  obtain ⟨E36, e36⟩ : ∃ F, F = va_up E35 0 (.inr (8, [.ref (z + 1), .ref (z + 3), .ref (z + 9), .ref (z + 15), .ref (z + 16), .ref (z + 17), .ref (z + 70), .ref (z + 123), .ref (z + 130), .ref (z + 141), .ref (z + 164), .ref (z + 167), .ref (z + 168), .int (hpI 0), .int (hpI 0), .int (hpI (-1))])) := ⟨_, rfl⟩
  rw [← e36] at hP
  have hO36 : ∀ j, j < 0 → E36 j = E0 j := fun j h => by rw [e36]; exact (hp_ne (by omega)).trans (hO35 j h)
  have hp36_15 : E36 15 = .inl (cy 14, 3, .inr (.inr (.inr (.inr (fun _ => none))))) := by rw [e36, hp_ne (by decide)]; exact hp35_15
  have hp36_16 : E36 16 = .inl (cy 16, 4, .inr (.inr (.inr (.inr (fun _ => none))))) := by rw [e36, hp_ne (by decide)]; exact hp35_16
  have hp36_0 : E36 0 = .inr (8, [.ref (z + 1), .ref (z + 3), .ref (z + 9), .ref (z + 15), .ref (z + 16), .ref (z + 17), .ref (z + 70), .ref (z + 123), .ref (z + 130), .ref (z + 141), .ref (z + 164), .ref (z + 167), .ref (z + 168), .int (hpI 0), .int (hpI 0), .int (hpI (-1))]) := by rw [e36, hp_at]
  have hD36 : ∀ j, 0 < j → j < 169 → j ≠ 15 → j ≠ 16 → E36 j = hpE z cy j (hp0 j) := fun j h1 h2 hn15 hn16 => by
    rw [e36, hp_ne (by omega)]; exact hD35 j h1 (by omega) hn15 hn16
  refine lv_iconst (v := hpI 0) C.1 C.2.1 dX8_init_140 rfl ?_
  refine lv_istore_n (lv' := [(1, .int (hpI 0)), (0, .ref (z + 0))]) C.1 C.2.1 dX8_init_141 rfl hl (by decide) rfl (fun ls hl => ?_)
  refine lv_iload_n C.1 C.2.1 dX8_init_142 rfl (lv_at hl 0 rfl) ?_
  refine lv_iconst (v := hpI 3) C.1 C.2.1 dX8_init_143 rfl ?_
  refine lv_icmp_ge (tgt := 166) C.1 C.2.1 dX8_init_144 rfl (fun hc => absurd hc (by decide)) (fun hc => ?_)
  refine lv_aload_n C.1 C.2.1 dX8_init_147 rfl (lv_at hl 1 rfl) ?_
  refine n_get (fs := [.ref (z + 1), .ref (z + 3), .ref (z + 9), .ref (z + 15), .ref (z + 16), .ref (z + 17), .ref (z + 70), .ref (z + 123), .ref (z + 130), .ref (z + 141), .ref (z + 164), .ref (z + 167), .ref (z + 168), .int (hpI 0), .int (hpI 0), .int (hpI (-1))]) C O8 3 (by decide) hp36_0 (by decide) wd_352 rfl hP dX8_init_148 ?_
  refine lv_iload_n C.1 C.2.1 dX8_init_151 rfl (lv_at hl 0 rfl) ?_
  refine n_size (n := 169) h0 rfl hS hP (fun hsz => ?_)
  refine n_new (fs := [.null, .null, .null, .null, .null, .int (hpI 0), .int (hpI 0), .int (hpI 0), .int (hpI 0), .int (hpI 0), .int (hpI 0), .int (hpI 0), .int (hpI 0)]) C O1 bl_1 wd_58 wd_59 wd_3 hP hS hsz (Nat.le_of_ble_eq_true rfl) (Nat.le_of_ble_eq_true rfl) dX8_init_152 (fun H hP hS => ?_)
  obtain ⟨E37, e37⟩ : ∃ F, F = va_up E36 169 (.inr (1, [.null, .null, .null, .null, .null, .int (hpI 0), .int (hpI 0), .int (hpI 0), .int (hpI 0), .int (hpI 0), .int (hpI 0), .int (hpI 0), .int (hpI 0)])) := ⟨_, rfl⟩
  rw [← e37] at hP
  have hO37 : ∀ j, j < 0 → E37 j = E0 j := fun j h => by rw [e37]; exact (hp_ne (by omega)).trans (hO36 j h)
  have hp37_15 : E37 15 = .inl (cy 14, 3, .inr (.inr (.inr (.inr (fun _ => none))))) := by rw [e37, hp_ne (by decide)]; exact hp36_15
  have hp37_16 : E37 16 = .inl (cy 16, 4, .inr (.inr (.inr (.inr (fun _ => none))))) := by rw [e37, hp_ne (by decide)]; exact hp36_16
  have hp37_0 : E37 0 = .inr (8, [.ref (z + 1), .ref (z + 3), .ref (z + 9), .ref (z + 15), .ref (z + 16), .ref (z + 17), .ref (z + 70), .ref (z + 123), .ref (z + 130), .ref (z + 141), .ref (z + 164), .ref (z + 167), .ref (z + 168), .int (hpI 0), .int (hpI 0), .int (hpI (-1))]) := by rw [e37, hp_ne (by decide)]; exact hp36_0
  have hp37_169 : E37 169 = .inr (1, [.null, .null, .null, .null, .null, .int (hpI 0), .int (hpI 0), .int (hpI 0), .int (hpI 0), .int (hpI 0), .int (hpI 0), .int (hpI 0), .int (hpI 0)]) := by rw [e37, hp_at]
  have hD37 : ∀ j, 0 < j → j < 170 → j ≠ 15 → j ≠ 16 → j ≠ 169 → E37 j = hpE z cy j (hp0 j) := fun j h1 h2 hn15 hn16 hn169 => by
    rw [e37, hp_ne (by omega)]; exact hD36 j h1 (by omega) hn15 hn16
  refine lv_dup C.1 C.2.1 dX8_init_155 rfl ?_
  refine n_size (n := 170) h0 rfl hS hP (fun hsz => ?_)
  refine n_ctorN C A yk_1 nw_60 (kX1_169 l D cy z _ hp37_169) hl hP hS hsz ⟨rfl, rfl, Nat.le_of_ble_eq_true rfl, Nat.le_of_ble_eq_true rfl⟩ ⟨Nat.le_of_ble_eq_true rfl, Nat.le_of_ble_eq_true rfl⟩ (Nat.le_of_ble_eq_true rfl) dX8_init_156 (fun H locs E38 hP hS hj38 hi38 => ?_)
  have hO38 : ∀ j, j < 0 → E38 j = E0 j := fun j h => (hj38 j (by omega)).trans (hO37 j h)
  have hp38_15 : E38 15 = .inl (cy 14, 3, .inr (.inr (.inr (.inr (fun _ => none))))) := (hj38 15 (by decide)).trans hp37_15
  have hp38_16 : E38 16 = .inl (cy 16, 4, .inr (.inr (.inr (.inr (fun _ => none))))) := (hj38 16 (by decide)).trans hp37_16
  have hp38_0 : E38 0 = .inr (8, [.ref (z + 1), .ref (z + 3), .ref (z + 9), .ref (z + 15), .ref (z + 16), .ref (z + 17), .ref (z + 70), .ref (z + 123), .ref (z + 130), .ref (z + 141), .ref (z + 164), .ref (z + 167), .ref (z + 168), .int (hpI 0), .int (hpI 0), .int (hpI (-1))]) := (hj38 0 (by decide)).trans hp37_0
  have hD38 : ∀ j, 0 < j → j < 175 → j ≠ 15 → j ≠ 16 → E38 j = hpE z cy j (hp0 j) := fun j h1 h2 hn15 hn16 => by
    rcases Nat.lt_or_ge j 169 with h | h
    · exact (hj38 j h).trans (hD37 j h1 (by omega) hn15 hn16 (by omega))
    · exact hi38 j h h2
  refine n_aast (c0 := 14) (t0 := 4) C O1 (by decide) (by decide) hp38_15 rfl ((hD38 169 (by decide) (by decide) (by decide) (by decide)).trans eo_169) 0 rfl (by decide) (by decide) hP hS dX8_init_159 (fun H locs hP hS => ?_)
  obtain ⟨E39, e39⟩ : ∃ F, F = va_up E38 15 (.inl (cy 14, 3, .inr (.inr (.inr (.inr (va_up (fun _ => none) 0 (some (z + 169)))))))) := ⟨_, rfl⟩
  rw [← e39] at hP
  have hO39 : ∀ j, j < 0 → E39 j = E0 j := fun j h => by rw [e39]; exact (hp_ne (by omega)).trans (hO38 j h)
  have hp39_16 : E39 16 = .inl (cy 16, 4, .inr (.inr (.inr (.inr (fun _ => none))))) := by rw [e39, hp_ne (by decide)]; exact hp38_16
  have hp39_0 : E39 0 = .inr (8, [.ref (z + 1), .ref (z + 3), .ref (z + 9), .ref (z + 15), .ref (z + 16), .ref (z + 17), .ref (z + 70), .ref (z + 123), .ref (z + 130), .ref (z + 141), .ref (z + 164), .ref (z + 167), .ref (z + 168), .int (hpI 0), .int (hpI 0), .int (hpI (-1))]) := by rw [e39, hp_ne (by decide)]; exact hp38_0
  have hp39_15 : E39 15 = .inl (cy 14, 3, .inr (.inr (.inr (.inr (va_up (fun _ => none) 0 (some (z + 169))))))) := by rw [e39, hp_at]
  have hD39 : ∀ j, 0 < j → j < 175 → j ≠ 15 → j ≠ 16 → E39 j = hpE z cy j (hp0 j) := fun j h1 h2 hn15 hn16 => by
    rw [e39, hp_ne (by omega)]; exact hD38 j h1 (by omega) hn15 hn16
  refine lv_iinc (v := hpI 1) (lv' := [(1, .int (hpI 1)), (0, .ref (z + 0))]) C.1 C.2.1 dX8_init_160 hl (k := 0) rfl (by decide) (by decide) rfl (fun ls hl => ?_)
  refine lv_goto (tgt := 142) C.1 C.2.1 dX8_init_163 rfl ?_
  refine lv_iload_n C.1 C.2.1 dX8_init_142 rfl (lv_at hl 0 rfl) ?_
  refine lv_iconst (v := hpI 3) C.1 C.2.1 dX8_init_143 rfl ?_
  refine lv_icmp_ge (tgt := 166) C.1 C.2.1 dX8_init_144 rfl (fun hc => absurd hc (by decide)) (fun hc => ?_)
  refine lv_aload_n C.1 C.2.1 dX8_init_147 rfl (lv_at hl 1 rfl) ?_
  refine n_get (fs := [.ref (z + 1), .ref (z + 3), .ref (z + 9), .ref (z + 15), .ref (z + 16), .ref (z + 17), .ref (z + 70), .ref (z + 123), .ref (z + 130), .ref (z + 141), .ref (z + 164), .ref (z + 167), .ref (z + 168), .int (hpI 0), .int (hpI 0), .int (hpI (-1))]) C O8 3 (by decide) hp39_0 (by decide) wd_352 rfl hP dX8_init_148 ?_
  refine lv_iload_n C.1 C.2.1 dX8_init_151 rfl (lv_at hl 0 rfl) ?_
  refine n_size (n := 175) h0 rfl hS hP (fun hsz => ?_)
  refine n_new (fs := [.null, .null, .null, .null, .null, .int (hpI 0), .int (hpI 0), .int (hpI 0), .int (hpI 0), .int (hpI 0), .int (hpI 0), .int (hpI 0), .int (hpI 0)]) C O1 bl_1 wd_58 wd_59 wd_3 hP hS hsz (Nat.le_of_ble_eq_true rfl) (Nat.le_of_ble_eq_true rfl) dX8_init_152 (fun H hP hS => ?_)
  obtain ⟨E40, e40⟩ : ∃ F, F = va_up E39 175 (.inr (1, [.null, .null, .null, .null, .null, .int (hpI 0), .int (hpI 0), .int (hpI 0), .int (hpI 0), .int (hpI 0), .int (hpI 0), .int (hpI 0), .int (hpI 0)])) := ⟨_, rfl⟩
  rw [← e40] at hP
  have hO40 : ∀ j, j < 0 → E40 j = E0 j := fun j h => by rw [e40]; exact (hp_ne (by omega)).trans (hO39 j h)
  have hp40_16 : E40 16 = .inl (cy 16, 4, .inr (.inr (.inr (.inr (fun _ => none))))) := by rw [e40, hp_ne (by decide)]; exact hp39_16
  have hp40_0 : E40 0 = .inr (8, [.ref (z + 1), .ref (z + 3), .ref (z + 9), .ref (z + 15), .ref (z + 16), .ref (z + 17), .ref (z + 70), .ref (z + 123), .ref (z + 130), .ref (z + 141), .ref (z + 164), .ref (z + 167), .ref (z + 168), .int (hpI 0), .int (hpI 0), .int (hpI (-1))]) := by rw [e40, hp_ne (by decide)]; exact hp39_0
  have hp40_15 : E40 15 = .inl (cy 14, 3, .inr (.inr (.inr (.inr (va_up (fun _ => none) 0 (some (z + 169))))))) := by rw [e40, hp_ne (by decide)]; exact hp39_15
  have hp40_175 : E40 175 = .inr (1, [.null, .null, .null, .null, .null, .int (hpI 0), .int (hpI 0), .int (hpI 0), .int (hpI 0), .int (hpI 0), .int (hpI 0), .int (hpI 0), .int (hpI 0)]) := by rw [e40, hp_at]
  have hD40 : ∀ j, 0 < j → j < 176 → j ≠ 15 → j ≠ 16 → j ≠ 175 → E40 j = hpE z cy j (hp0 j) := fun j h1 h2 hn15 hn16 hn175 => by
    rw [e40, hp_ne (by omega)]; exact hD39 j h1 (by omega) hn15 hn16
  refine lv_dup C.1 C.2.1 dX8_init_155 rfl ?_
  refine n_size (n := 176) h0 rfl hS hP (fun hsz => ?_)
  refine n_ctorN C A yk_1 nw_60 (kX1_175 l D cy z _ hp40_175) hl hP hS hsz ⟨rfl, rfl, Nat.le_of_ble_eq_true rfl, Nat.le_of_ble_eq_true rfl⟩ ⟨Nat.le_of_ble_eq_true rfl, Nat.le_of_ble_eq_true rfl⟩ (Nat.le_of_ble_eq_true rfl) dX8_init_156 (fun H locs E41 hP hS hj41 hi41 => ?_)
  have hO41 : ∀ j, j < 0 → E41 j = E0 j := fun j h => (hj41 j (by omega)).trans (hO40 j h)
  have hp41_16 : E41 16 = .inl (cy 16, 4, .inr (.inr (.inr (.inr (fun _ => none))))) := (hj41 16 (by decide)).trans hp40_16
  have hp41_0 : E41 0 = .inr (8, [.ref (z + 1), .ref (z + 3), .ref (z + 9), .ref (z + 15), .ref (z + 16), .ref (z + 17), .ref (z + 70), .ref (z + 123), .ref (z + 130), .ref (z + 141), .ref (z + 164), .ref (z + 167), .ref (z + 168), .int (hpI 0), .int (hpI 0), .int (hpI (-1))]) := (hj41 0 (by decide)).trans hp40_0
  have hp41_15 : E41 15 = .inl (cy 14, 3, .inr (.inr (.inr (.inr (va_up (fun _ => none) 0 (some (z + 169))))))) := (hj41 15 (by decide)).trans hp40_15
  have hD41 : ∀ j, 0 < j → j < 181 → j ≠ 15 → j ≠ 16 → E41 j = hpE z cy j (hp0 j) := fun j h1 h2 hn15 hn16 => by
    rcases Nat.lt_or_ge j 175 with h | h
    · exact (hj41 j h).trans (hD40 j h1 (by omega) hn15 hn16 (by omega))
    · exact hi41 j h h2
  refine n_aast (c0 := 14) (t0 := 4) C O1 (by decide) (by decide) hp41_15 rfl ((hD41 175 (by decide) (by decide) (by decide) (by decide)).trans eo_175) 1 rfl (by decide) (by decide) hP hS dX8_init_159 (fun H locs hP hS => ?_)
  obtain ⟨E42, e42⟩ : ∃ F, F = va_up E41 15 (.inl (cy 14, 3, .inr (.inr (.inr (.inr (va_up (va_up (fun _ => none) 0 (some (z + 169))) 1 (some (z + 175)))))))) := ⟨_, rfl⟩
  rw [← e42] at hP
  have hO42 : ∀ j, j < 0 → E42 j = E0 j := fun j h => by rw [e42]; exact (hp_ne (by omega)).trans (hO41 j h)
  have hp42_16 : E42 16 = .inl (cy 16, 4, .inr (.inr (.inr (.inr (fun _ => none))))) := by rw [e42, hp_ne (by decide)]; exact hp41_16
  have hp42_0 : E42 0 = .inr (8, [.ref (z + 1), .ref (z + 3), .ref (z + 9), .ref (z + 15), .ref (z + 16), .ref (z + 17), .ref (z + 70), .ref (z + 123), .ref (z + 130), .ref (z + 141), .ref (z + 164), .ref (z + 167), .ref (z + 168), .int (hpI 0), .int (hpI 0), .int (hpI (-1))]) := by rw [e42, hp_ne (by decide)]; exact hp41_0
  have hp42_15 : E42 15 = .inl (cy 14, 3, .inr (.inr (.inr (.inr (va_up (va_up (fun _ => none) 0 (some (z + 169))) 1 (some (z + 175))))))) := by rw [e42, hp_at]
  have hD42 : ∀ j, 0 < j → j < 181 → j ≠ 15 → j ≠ 16 → E42 j = hpE z cy j (hp0 j) := fun j h1 h2 hn15 hn16 => by
    rw [e42, hp_ne (by omega)]; exact hD41 j h1 (by omega) hn15 hn16
  refine lv_iinc (v := hpI 2) (lv' := [(1, .int (hpI 2)), (0, .ref (z + 0))]) C.1 C.2.1 dX8_init_160 hl (k := 0) rfl (by decide) (by decide) rfl (fun ls hl => ?_)
  refine lv_goto (tgt := 142) C.1 C.2.1 dX8_init_163 rfl ?_
  refine lv_iload_n C.1 C.2.1 dX8_init_142 rfl (lv_at hl 0 rfl) ?_
  refine lv_iconst (v := hpI 3) C.1 C.2.1 dX8_init_143 rfl ?_
  refine lv_icmp_ge (tgt := 166) C.1 C.2.1 dX8_init_144 rfl (fun hc => absurd hc (by decide)) (fun hc => ?_)
  refine lv_aload_n C.1 C.2.1 dX8_init_147 rfl (lv_at hl 1 rfl) ?_
  refine n_get (fs := [.ref (z + 1), .ref (z + 3), .ref (z + 9), .ref (z + 15), .ref (z + 16), .ref (z + 17), .ref (z + 70), .ref (z + 123), .ref (z + 130), .ref (z + 141), .ref (z + 164), .ref (z + 167), .ref (z + 168), .int (hpI 0), .int (hpI 0), .int (hpI (-1))]) C O8 3 (by decide) hp42_0 (by decide) wd_352 rfl hP dX8_init_148 ?_
  refine lv_iload_n C.1 C.2.1 dX8_init_151 rfl (lv_at hl 0 rfl) ?_
  refine n_size (n := 181) h0 rfl hS hP (fun hsz => ?_)
  refine n_new (fs := [.null, .null, .null, .null, .null, .int (hpI 0), .int (hpI 0), .int (hpI 0), .int (hpI 0), .int (hpI 0), .int (hpI 0), .int (hpI 0), .int (hpI 0)]) C O1 bl_1 wd_58 wd_59 wd_3 hP hS hsz (Nat.le_of_ble_eq_true rfl) (Nat.le_of_ble_eq_true rfl) dX8_init_152 (fun H hP hS => ?_)
  obtain ⟨E43, e43⟩ : ∃ F, F = va_up E42 181 (.inr (1, [.null, .null, .null, .null, .null, .int (hpI 0), .int (hpI 0), .int (hpI 0), .int (hpI 0), .int (hpI 0), .int (hpI 0), .int (hpI 0), .int (hpI 0)])) := ⟨_, rfl⟩
  rw [← e43] at hP
  have hO43 : ∀ j, j < 0 → E43 j = E0 j := fun j h => by rw [e43]; exact (hp_ne (by omega)).trans (hO42 j h)
  have hp43_16 : E43 16 = .inl (cy 16, 4, .inr (.inr (.inr (.inr (fun _ => none))))) := by rw [e43, hp_ne (by decide)]; exact hp42_16
  have hp43_0 : E43 0 = .inr (8, [.ref (z + 1), .ref (z + 3), .ref (z + 9), .ref (z + 15), .ref (z + 16), .ref (z + 17), .ref (z + 70), .ref (z + 123), .ref (z + 130), .ref (z + 141), .ref (z + 164), .ref (z + 167), .ref (z + 168), .int (hpI 0), .int (hpI 0), .int (hpI (-1))]) := by rw [e43, hp_ne (by decide)]; exact hp42_0
  have hp43_15 : E43 15 = .inl (cy 14, 3, .inr (.inr (.inr (.inr (va_up (va_up (fun _ => none) 0 (some (z + 169))) 1 (some (z + 175))))))) := by rw [e43, hp_ne (by decide)]; exact hp42_15
  have hp43_181 : E43 181 = .inr (1, [.null, .null, .null, .null, .null, .int (hpI 0), .int (hpI 0), .int (hpI 0), .int (hpI 0), .int (hpI 0), .int (hpI 0), .int (hpI 0), .int (hpI 0)]) := by rw [e43, hp_at]
  have hD43 : ∀ j, 0 < j → j < 182 → j ≠ 15 → j ≠ 16 → j ≠ 181 → E43 j = hpE z cy j (hp0 j) := fun j h1 h2 hn15 hn16 hn181 => by
    rw [e43, hp_ne (by omega)]; exact hD42 j h1 (by omega) hn15 hn16
  refine lv_dup C.1 C.2.1 dX8_init_155 rfl ?_
  refine n_size (n := 182) h0 rfl hS hP (fun hsz => ?_)
  refine n_ctorN C A yk_1 nw_60 (kX1_181 l D cy z _ hp43_181) hl hP hS hsz ⟨rfl, rfl, Nat.le_of_ble_eq_true rfl, Nat.le_of_ble_eq_true rfl⟩ ⟨Nat.le_of_ble_eq_true rfl, Nat.le_of_ble_eq_true rfl⟩ (Nat.le_of_ble_eq_true rfl) dX8_init_156 (fun H locs E44 hP hS hj44 hi44 => ?_)
  have hO44 : ∀ j, j < 0 → E44 j = E0 j := fun j h => (hj44 j (by omega)).trans (hO43 j h)
  have hp44_16 : E44 16 = .inl (cy 16, 4, .inr (.inr (.inr (.inr (fun _ => none))))) := (hj44 16 (by decide)).trans hp43_16
  have hp44_0 : E44 0 = .inr (8, [.ref (z + 1), .ref (z + 3), .ref (z + 9), .ref (z + 15), .ref (z + 16), .ref (z + 17), .ref (z + 70), .ref (z + 123), .ref (z + 130), .ref (z + 141), .ref (z + 164), .ref (z + 167), .ref (z + 168), .int (hpI 0), .int (hpI 0), .int (hpI (-1))]) := (hj44 0 (by decide)).trans hp43_0
  have hp44_15 : E44 15 = .inl (cy 14, 3, .inr (.inr (.inr (.inr (va_up (va_up (fun _ => none) 0 (some (z + 169))) 1 (some (z + 175))))))) := (hj44 15 (by decide)).trans hp43_15
  have hD44 : ∀ j, 0 < j → j < 187 → j ≠ 15 → j ≠ 16 → E44 j = hpE z cy j (hp0 j) := fun j h1 h2 hn15 hn16 => by
    rcases Nat.lt_or_ge j 181 with h | h
    · exact (hj44 j h).trans (hD43 j h1 (by omega) hn15 hn16 (by omega))
    · exact hi44 j h h2
  refine n_aast (c0 := 14) (t0 := 4) C O1 (by decide) (by decide) hp44_15 rfl ((hD44 181 (by decide) (by decide) (by decide) (by decide)).trans eo_181) 2 rfl (by decide) (by decide) hP hS dX8_init_159 (fun H locs hP hS => ?_)
  obtain ⟨E45, e45⟩ : ∃ F, F = va_up E44 15 (.inl (cy 14, 3, .inr (.inr (.inr (.inr (va_up (va_up (va_up (fun _ => none) 0 (some (z + 169))) 1 (some (z + 175))) 2 (some (z + 181)))))))) := ⟨_, rfl⟩
  rw [← e45] at hP
  have hO45 : ∀ j, j < 0 → E45 j = E0 j := fun j h => by rw [e45]; exact (hp_ne (by omega)).trans (hO44 j h)
  have hp45_16 : E45 16 = .inl (cy 16, 4, .inr (.inr (.inr (.inr (fun _ => none))))) := by rw [e45, hp_ne (by decide)]; exact hp44_16
  have hp45_0 : E45 0 = .inr (8, [.ref (z + 1), .ref (z + 3), .ref (z + 9), .ref (z + 15), .ref (z + 16), .ref (z + 17), .ref (z + 70), .ref (z + 123), .ref (z + 130), .ref (z + 141), .ref (z + 164), .ref (z + 167), .ref (z + 168), .int (hpI 0), .int (hpI 0), .int (hpI (-1))]) := by rw [e45, hp_ne (by decide)]; exact hp44_0
  have hp45_15 : E45 15 = .inl (cy 14, 3, .inr (.inr (.inr (.inr (va_up (va_up (va_up (fun _ => none) 0 (some (z + 169))) 1 (some (z + 175))) 2 (some (z + 181))))))) := by rw [e45, hp_at]
  have hD45 : ∀ j, 0 < j → j < 187 → j ≠ 15 → j ≠ 16 → E45 j = hpE z cy j (hp0 j) := fun j h1 h2 hn15 hn16 => by
    rw [e45, hp_ne (by omega)]; exact hD44 j h1 (by omega) hn15 hn16
  have hP := hpWn_same (k := 15) (x := .inl (cy 14, 3, .inr (.inr (.inr (.inr (fun i => some (z + hprf 15 i))))))) hP (by decide) (fun h => by
    rw [hp45_15] at h
    refine hp_arrSame (fun i hi => ?_) h
    rcases (show i = 0 ∨ i = 1 ∨ i = 2 by omega) with rfl | rfl | rfl <;> rfl)
  obtain ⟨E46, e46⟩ : ∃ F, F = va_up E45 15 (.inl (cy 14, 3, .inr (.inr (.inr (.inr (fun i => some (z + hprf 15 i))))))) := ⟨_, rfl⟩
  rw [← e46] at hP
  have hO46 : ∀ j, j < 0 → E46 j = E0 j := fun j h => by rw [e46]; exact (hp_ne (by omega)).trans (hO45 j h)
  have hp46_16 : E46 16 = .inl (cy 16, 4, .inr (.inr (.inr (.inr (fun _ => none))))) := by rw [e46, hp_ne (by decide)]; exact hp45_16
  have hp46_0 : E46 0 = .inr (8, [.ref (z + 1), .ref (z + 3), .ref (z + 9), .ref (z + 15), .ref (z + 16), .ref (z + 17), .ref (z + 70), .ref (z + 123), .ref (z + 130), .ref (z + 141), .ref (z + 164), .ref (z + 167), .ref (z + 168), .int (hpI 0), .int (hpI 0), .int (hpI (-1))]) := by rw [e46, hp_ne (by decide)]; exact hp45_0
  have hp46_15 : E46 15 = .inl (cy 14, 3, .inr (.inr (.inr (.inr (fun i => some (z + hprf 15 i)))))) := by rw [e46, hp_at]
  have hD46 : ∀ j, 0 < j → j < 187 → j ≠ 15 → j ≠ 16 → E46 j = hpE z cy j (hp0 j) := fun j h1 h2 hn15 hn16 => by
    rw [e46, hp_ne (by omega)]; exact hD45 j h1 (by omega) hn15 hn16
  have hD47 : ∀ j, 0 < j → j < 187 → j ≠ 16 → E46 j = hpE z cy j (hp0 j) := fun j h1 h2 hn16 => by
    by_cases hn15 : j = 15
    · subst hn15; rw [hp46_15, ea_15]
    · exact hD46 j h1 h2 hn15 hn16
  refine lv_iinc (v := hpI 3) (lv' := [(1, .int (hpI 3)), (0, .ref (z + 0))]) C.1 C.2.1 dX8_init_160 hl (k := 0) rfl (by decide) (by decide) rfl (fun ls hl => ?_)
  refine lv_goto (tgt := 142) C.1 C.2.1 dX8_init_163 rfl ?_
  refine lv_iload_n C.1 C.2.1 dX8_init_142 rfl (lv_at hl 0 rfl) ?_
  refine lv_iconst (v := hpI 3) C.1 C.2.1 dX8_init_143 rfl ?_
  refine lv_icmp_ge (tgt := 166) C.1 C.2.1 dX8_init_144 rfl (fun hc => ?_) (fun hc => absurd (by decide) hc)
  refine lv_iconst (v := hpI 0) C.1 C.2.1 dX8_init_166 rfl ?_
  refine lv_istore_n (lv' := [(1, .int (hpI 0)), (0, .ref (z + 0))]) C.1 C.2.1 dX8_init_167 rfl hl (by decide) rfl (fun ls hl => ?_)
  refine lv_iload_n C.1 C.2.1 dX8_init_168 rfl (lv_at hl 0 rfl) ?_
  refine lv_iconst (v := hpI 4) C.1 C.2.1 dX8_init_169 rfl ?_
  refine lv_icmp_ge (tgt := 192) C.1 C.2.1 dX8_init_170 rfl (fun hc => absurd hc (by decide)) (fun hc => ?_)
  refine lv_aload_n C.1 C.2.1 dX8_init_173 rfl (lv_at hl 1 rfl) ?_
  refine n_get (fs := [.ref (z + 1), .ref (z + 3), .ref (z + 9), .ref (z + 15), .ref (z + 16), .ref (z + 17), .ref (z + 70), .ref (z + 123), .ref (z + 130), .ref (z + 141), .ref (z + 164), .ref (z + 167), .ref (z + 168), .int (hpI 0), .int (hpI 0), .int (hpI (-1))]) C O8 4 (by decide) hp46_0 (by decide) wd_353 rfl hP dX8_init_174 ?_
  refine lv_iload_n C.1 C.2.1 dX8_init_177 rfl (lv_at hl 0 rfl) ?_
  refine n_size (n := 187) h0 rfl hS hP (fun hsz => ?_)
  refine n_new (fs := [.null, .int (hpI 0), .int (hpI 0), .int (hpI 0)]) C O6 bl_6 wd_137 wd_327 wd_9 hP hS hsz (Nat.le_of_ble_eq_true rfl) (Nat.le_of_ble_eq_true rfl) dX8_init_178 (fun H hP hS => ?_)
  obtain ⟨E48, e48⟩ : ∃ F, F = va_up E46 187 (.inr (6, [.null, .int (hpI 0), .int (hpI 0), .int (hpI 0)])) := ⟨_, rfl⟩
  rw [← e48] at hP
  have hO48 : ∀ j, j < 0 → E48 j = E0 j := fun j h => by rw [e48]; exact (hp_ne (by omega)).trans (hO46 j h)
  have hp48_16 : E48 16 = .inl (cy 16, 4, .inr (.inr (.inr (.inr (fun _ => none))))) := by rw [e48, hp_ne (by decide)]; exact hp46_16
  have hp48_0 : E48 0 = .inr (8, [.ref (z + 1), .ref (z + 3), .ref (z + 9), .ref (z + 15), .ref (z + 16), .ref (z + 17), .ref (z + 70), .ref (z + 123), .ref (z + 130), .ref (z + 141), .ref (z + 164), .ref (z + 167), .ref (z + 168), .int (hpI 0), .int (hpI 0), .int (hpI (-1))]) := by rw [e48, hp_ne (by decide)]; exact hp46_0
  have hp48_187 : E48 187 = .inr (6, [.null, .int (hpI 0), .int (hpI 0), .int (hpI 0)]) := by rw [e48, hp_at]
  have hD48 : ∀ j, 0 < j → j < 188 → j ≠ 16 → j ≠ 187 → E48 j = hpE z cy j (hp0 j) := fun j h1 h2 hn16 hn187 => by
    rw [e48, hp_ne (by omega)]; exact hD47 j h1 (by omega) hn16
  refine lv_dup C.1 C.2.1 dX8_init_181 rfl ?_
  refine n_size (n := 188) h0 rfl hS hP (fun hsz => ?_)
  refine n_ctorN C A yk_6 nw_328 (kX6_187 l D cy z _ hp48_187) hl hP hS hsz ⟨rfl, rfl, Nat.le_of_ble_eq_true rfl, Nat.le_of_ble_eq_true rfl⟩ ⟨Nat.le_of_ble_eq_true rfl, Nat.le_of_ble_eq_true rfl⟩ (Nat.le_of_ble_eq_true rfl) dX8_init_182 (fun H locs E49 hP hS hj49 hi49 => ?_)
  have hO49 : ∀ j, j < 0 → E49 j = E0 j := fun j h => (hj49 j (by omega)).trans (hO48 j h)
  have hp49_16 : E49 16 = .inl (cy 16, 4, .inr (.inr (.inr (.inr (fun _ => none))))) := (hj49 16 (by decide)).trans hp48_16
  have hp49_0 : E49 0 = .inr (8, [.ref (z + 1), .ref (z + 3), .ref (z + 9), .ref (z + 15), .ref (z + 16), .ref (z + 17), .ref (z + 70), .ref (z + 123), .ref (z + 130), .ref (z + 141), .ref (z + 164), .ref (z + 167), .ref (z + 168), .int (hpI 0), .int (hpI 0), .int (hpI (-1))]) := (hj49 0 (by decide)).trans hp48_0
  have hD49 : ∀ j, 0 < j → j < 189 → j ≠ 16 → E49 j = hpE z cy j (hp0 j) := fun j h1 h2 hn16 => by
    rcases Nat.lt_or_ge j 187 with h | h
    · exact (hj49 j h).trans (hD48 j h1 (by omega) hn16 (by omega))
    · exact hi49 j h h2
  refine n_aast (c0 := 16) (t0 := 6) C O6 (by decide) (by decide) hp49_16 rfl ((hD49 187 (by decide) (by decide) (by decide)).trans eo_187) 0 rfl (by decide) (by decide) hP hS dX8_init_185 (fun H locs hP hS => ?_)
  obtain ⟨E50, e50⟩ : ∃ F, F = va_up E49 16 (.inl (cy 16, 4, .inr (.inr (.inr (.inr (va_up (fun _ => none) 0 (some (z + 187)))))))) := ⟨_, rfl⟩
  rw [← e50] at hP
  have hO50 : ∀ j, j < 0 → E50 j = E0 j := fun j h => by rw [e50]; exact (hp_ne (by omega)).trans (hO49 j h)
  have hp50_0 : E50 0 = .inr (8, [.ref (z + 1), .ref (z + 3), .ref (z + 9), .ref (z + 15), .ref (z + 16), .ref (z + 17), .ref (z + 70), .ref (z + 123), .ref (z + 130), .ref (z + 141), .ref (z + 164), .ref (z + 167), .ref (z + 168), .int (hpI 0), .int (hpI 0), .int (hpI (-1))]) := by rw [e50, hp_ne (by decide)]; exact hp49_0
  have hp50_16 : E50 16 = .inl (cy 16, 4, .inr (.inr (.inr (.inr (va_up (fun _ => none) 0 (some (z + 187))))))) := by rw [e50, hp_at]
  have hD50 : ∀ j, 0 < j → j < 189 → j ≠ 16 → E50 j = hpE z cy j (hp0 j) := fun j h1 h2 hn16 => by
    rw [e50, hp_ne (by omega)]; exact hD49 j h1 (by omega) hn16
  refine lv_iinc (v := hpI 1) (lv' := [(1, .int (hpI 1)), (0, .ref (z + 0))]) C.1 C.2.1 dX8_init_186 hl (k := 0) rfl (by decide) (by decide) rfl (fun ls hl => ?_)
  refine lv_goto (tgt := 168) C.1 C.2.1 dX8_init_189 rfl ?_
  refine lv_iload_n C.1 C.2.1 dX8_init_168 rfl (lv_at hl 0 rfl) ?_
  refine lv_iconst (v := hpI 4) C.1 C.2.1 dX8_init_169 rfl ?_
  refine lv_icmp_ge (tgt := 192) C.1 C.2.1 dX8_init_170 rfl (fun hc => absurd hc (by decide)) (fun hc => ?_)
  refine lv_aload_n C.1 C.2.1 dX8_init_173 rfl (lv_at hl 1 rfl) ?_
  refine n_get (fs := [.ref (z + 1), .ref (z + 3), .ref (z + 9), .ref (z + 15), .ref (z + 16), .ref (z + 17), .ref (z + 70), .ref (z + 123), .ref (z + 130), .ref (z + 141), .ref (z + 164), .ref (z + 167), .ref (z + 168), .int (hpI 0), .int (hpI 0), .int (hpI (-1))]) C O8 4 (by decide) hp50_0 (by decide) wd_353 rfl hP dX8_init_174 ?_
  refine lv_iload_n C.1 C.2.1 dX8_init_177 rfl (lv_at hl 0 rfl) ?_
  refine n_size (n := 189) h0 rfl hS hP (fun hsz => ?_)
  refine n_new (fs := [.null, .int (hpI 0), .int (hpI 0), .int (hpI 0)]) C O6 bl_6 wd_137 wd_327 wd_9 hP hS hsz (Nat.le_of_ble_eq_true rfl) (Nat.le_of_ble_eq_true rfl) dX8_init_178 (fun H hP hS => ?_)
  obtain ⟨E51, e51⟩ : ∃ F, F = va_up E50 189 (.inr (6, [.null, .int (hpI 0), .int (hpI 0), .int (hpI 0)])) := ⟨_, rfl⟩
  rw [← e51] at hP
  have hO51 : ∀ j, j < 0 → E51 j = E0 j := fun j h => by rw [e51]; exact (hp_ne (by omega)).trans (hO50 j h)
  have hp51_0 : E51 0 = .inr (8, [.ref (z + 1), .ref (z + 3), .ref (z + 9), .ref (z + 15), .ref (z + 16), .ref (z + 17), .ref (z + 70), .ref (z + 123), .ref (z + 130), .ref (z + 141), .ref (z + 164), .ref (z + 167), .ref (z + 168), .int (hpI 0), .int (hpI 0), .int (hpI (-1))]) := by rw [e51, hp_ne (by decide)]; exact hp50_0
  have hp51_16 : E51 16 = .inl (cy 16, 4, .inr (.inr (.inr (.inr (va_up (fun _ => none) 0 (some (z + 187))))))) := by rw [e51, hp_ne (by decide)]; exact hp50_16
  have hp51_189 : E51 189 = .inr (6, [.null, .int (hpI 0), .int (hpI 0), .int (hpI 0)]) := by rw [e51, hp_at]
  have hD51 : ∀ j, 0 < j → j < 190 → j ≠ 16 → j ≠ 189 → E51 j = hpE z cy j (hp0 j) := fun j h1 h2 hn16 hn189 => by
    rw [e51, hp_ne (by omega)]; exact hD50 j h1 (by omega) hn16
  refine lv_dup C.1 C.2.1 dX8_init_181 rfl ?_
  refine n_size (n := 190) h0 rfl hS hP (fun hsz => ?_)
  refine n_ctorN C A yk_6 nw_328 (kX6_189 l D cy z _ hp51_189) hl hP hS hsz ⟨rfl, rfl, Nat.le_of_ble_eq_true rfl, Nat.le_of_ble_eq_true rfl⟩ ⟨Nat.le_of_ble_eq_true rfl, Nat.le_of_ble_eq_true rfl⟩ (Nat.le_of_ble_eq_true rfl) dX8_init_182 (fun H locs E52 hP hS hj52 hi52 => ?_)
  have hO52 : ∀ j, j < 0 → E52 j = E0 j := fun j h => (hj52 j (by omega)).trans (hO51 j h)
  have hp52_0 : E52 0 = .inr (8, [.ref (z + 1), .ref (z + 3), .ref (z + 9), .ref (z + 15), .ref (z + 16), .ref (z + 17), .ref (z + 70), .ref (z + 123), .ref (z + 130), .ref (z + 141), .ref (z + 164), .ref (z + 167), .ref (z + 168), .int (hpI 0), .int (hpI 0), .int (hpI (-1))]) := (hj52 0 (by decide)).trans hp51_0
  have hp52_16 : E52 16 = .inl (cy 16, 4, .inr (.inr (.inr (.inr (va_up (fun _ => none) 0 (some (z + 187))))))) := (hj52 16 (by decide)).trans hp51_16
  have hD52 : ∀ j, 0 < j → j < 191 → j ≠ 16 → E52 j = hpE z cy j (hp0 j) := fun j h1 h2 hn16 => by
    rcases Nat.lt_or_ge j 189 with h | h
    · exact (hj52 j h).trans (hD51 j h1 (by omega) hn16 (by omega))
    · exact hi52 j h h2
  refine n_aast (c0 := 16) (t0 := 6) C O6 (by decide) (by decide) hp52_16 rfl ((hD52 189 (by decide) (by decide) (by decide)).trans eo_189) 1 rfl (by decide) (by decide) hP hS dX8_init_185 (fun H locs hP hS => ?_)
  obtain ⟨E53, e53⟩ : ∃ F, F = va_up E52 16 (.inl (cy 16, 4, .inr (.inr (.inr (.inr (va_up (va_up (fun _ => none) 0 (some (z + 187))) 1 (some (z + 189)))))))) := ⟨_, rfl⟩
  rw [← e53] at hP
  have hO53 : ∀ j, j < 0 → E53 j = E0 j := fun j h => by rw [e53]; exact (hp_ne (by omega)).trans (hO52 j h)
  have hp53_0 : E53 0 = .inr (8, [.ref (z + 1), .ref (z + 3), .ref (z + 9), .ref (z + 15), .ref (z + 16), .ref (z + 17), .ref (z + 70), .ref (z + 123), .ref (z + 130), .ref (z + 141), .ref (z + 164), .ref (z + 167), .ref (z + 168), .int (hpI 0), .int (hpI 0), .int (hpI (-1))]) := by rw [e53, hp_ne (by decide)]; exact hp52_0
  have hp53_16 : E53 16 = .inl (cy 16, 4, .inr (.inr (.inr (.inr (va_up (va_up (fun _ => none) 0 (some (z + 187))) 1 (some (z + 189))))))) := by rw [e53, hp_at]
  have hD53 : ∀ j, 0 < j → j < 191 → j ≠ 16 → E53 j = hpE z cy j (hp0 j) := fun j h1 h2 hn16 => by
    rw [e53, hp_ne (by omega)]; exact hD52 j h1 (by omega) hn16
  refine lv_iinc (v := hpI 2) (lv' := [(1, .int (hpI 2)), (0, .ref (z + 0))]) C.1 C.2.1 dX8_init_186 hl (k := 0) rfl (by decide) (by decide) rfl (fun ls hl => ?_)
  refine lv_goto (tgt := 168) C.1 C.2.1 dX8_init_189 rfl ?_
  refine lv_iload_n C.1 C.2.1 dX8_init_168 rfl (lv_at hl 0 rfl) ?_
  refine lv_iconst (v := hpI 4) C.1 C.2.1 dX8_init_169 rfl ?_
  refine lv_icmp_ge (tgt := 192) C.1 C.2.1 dX8_init_170 rfl (fun hc => absurd hc (by decide)) (fun hc => ?_)
  refine lv_aload_n C.1 C.2.1 dX8_init_173 rfl (lv_at hl 1 rfl) ?_
  refine n_get (fs := [.ref (z + 1), .ref (z + 3), .ref (z + 9), .ref (z + 15), .ref (z + 16), .ref (z + 17), .ref (z + 70), .ref (z + 123), .ref (z + 130), .ref (z + 141), .ref (z + 164), .ref (z + 167), .ref (z + 168), .int (hpI 0), .int (hpI 0), .int (hpI (-1))]) C O8 4 (by decide) hp53_0 (by decide) wd_353 rfl hP dX8_init_174 ?_
  refine lv_iload_n C.1 C.2.1 dX8_init_177 rfl (lv_at hl 0 rfl) ?_
  refine n_size (n := 191) h0 rfl hS hP (fun hsz => ?_)
  refine n_new (fs := [.null, .int (hpI 0), .int (hpI 0), .int (hpI 0)]) C O6 bl_6 wd_137 wd_327 wd_9 hP hS hsz (Nat.le_of_ble_eq_true rfl) (Nat.le_of_ble_eq_true rfl) dX8_init_178 (fun H hP hS => ?_)
  obtain ⟨E54, e54⟩ : ∃ F, F = va_up E53 191 (.inr (6, [.null, .int (hpI 0), .int (hpI 0), .int (hpI 0)])) := ⟨_, rfl⟩
  rw [← e54] at hP
  have hO54 : ∀ j, j < 0 → E54 j = E0 j := fun j h => by rw [e54]; exact (hp_ne (by omega)).trans (hO53 j h)
  have hp54_0 : E54 0 = .inr (8, [.ref (z + 1), .ref (z + 3), .ref (z + 9), .ref (z + 15), .ref (z + 16), .ref (z + 17), .ref (z + 70), .ref (z + 123), .ref (z + 130), .ref (z + 141), .ref (z + 164), .ref (z + 167), .ref (z + 168), .int (hpI 0), .int (hpI 0), .int (hpI (-1))]) := by rw [e54, hp_ne (by decide)]; exact hp53_0
  have hp54_16 : E54 16 = .inl (cy 16, 4, .inr (.inr (.inr (.inr (va_up (va_up (fun _ => none) 0 (some (z + 187))) 1 (some (z + 189))))))) := by rw [e54, hp_ne (by decide)]; exact hp53_16
  have hp54_191 : E54 191 = .inr (6, [.null, .int (hpI 0), .int (hpI 0), .int (hpI 0)]) := by rw [e54, hp_at]
  have hD54 : ∀ j, 0 < j → j < 192 → j ≠ 16 → j ≠ 191 → E54 j = hpE z cy j (hp0 j) := fun j h1 h2 hn16 hn191 => by
    rw [e54, hp_ne (by omega)]; exact hD53 j h1 (by omega) hn16
  refine lv_dup C.1 C.2.1 dX8_init_181 rfl ?_
  refine n_size (n := 192) h0 rfl hS hP (fun hsz => ?_)
  refine n_ctorN C A yk_6 nw_328 (kX6_191 l D cy z _ hp54_191) hl hP hS hsz ⟨rfl, rfl, Nat.le_of_ble_eq_true rfl, Nat.le_of_ble_eq_true rfl⟩ ⟨Nat.le_of_ble_eq_true rfl, Nat.le_of_ble_eq_true rfl⟩ (Nat.le_of_ble_eq_true rfl) dX8_init_182 (fun H locs E55 hP hS hj55 hi55 => ?_)
  have hO55 : ∀ j, j < 0 → E55 j = E0 j := fun j h => (hj55 j (by omega)).trans (hO54 j h)
  have hp55_0 : E55 0 = .inr (8, [.ref (z + 1), .ref (z + 3), .ref (z + 9), .ref (z + 15), .ref (z + 16), .ref (z + 17), .ref (z + 70), .ref (z + 123), .ref (z + 130), .ref (z + 141), .ref (z + 164), .ref (z + 167), .ref (z + 168), .int (hpI 0), .int (hpI 0), .int (hpI (-1))]) := (hj55 0 (by decide)).trans hp54_0
  have hp55_16 : E55 16 = .inl (cy 16, 4, .inr (.inr (.inr (.inr (va_up (va_up (fun _ => none) 0 (some (z + 187))) 1 (some (z + 189))))))) := (hj55 16 (by decide)).trans hp54_16
  have hD55 : ∀ j, 0 < j → j < 193 → j ≠ 16 → E55 j = hpE z cy j (hp0 j) := fun j h1 h2 hn16 => by
    rcases Nat.lt_or_ge j 191 with h | h
    · exact (hj55 j h).trans (hD54 j h1 (by omega) hn16 (by omega))
    · exact hi55 j h h2
  refine n_aast (c0 := 16) (t0 := 6) C O6 (by decide) (by decide) hp55_16 rfl ((hD55 191 (by decide) (by decide) (by decide)).trans eo_191) 2 rfl (by decide) (by decide) hP hS dX8_init_185 (fun H locs hP hS => ?_)
  obtain ⟨E56, e56⟩ : ∃ F, F = va_up E55 16 (.inl (cy 16, 4, .inr (.inr (.inr (.inr (va_up (va_up (va_up (fun _ => none) 0 (some (z + 187))) 1 (some (z + 189))) 2 (some (z + 191)))))))) := ⟨_, rfl⟩
  rw [← e56] at hP
  have hO56 : ∀ j, j < 0 → E56 j = E0 j := fun j h => by rw [e56]; exact (hp_ne (by omega)).trans (hO55 j h)
  have hp56_0 : E56 0 = .inr (8, [.ref (z + 1), .ref (z + 3), .ref (z + 9), .ref (z + 15), .ref (z + 16), .ref (z + 17), .ref (z + 70), .ref (z + 123), .ref (z + 130), .ref (z + 141), .ref (z + 164), .ref (z + 167), .ref (z + 168), .int (hpI 0), .int (hpI 0), .int (hpI (-1))]) := by rw [e56, hp_ne (by decide)]; exact hp55_0
  have hp56_16 : E56 16 = .inl (cy 16, 4, .inr (.inr (.inr (.inr (va_up (va_up (va_up (fun _ => none) 0 (some (z + 187))) 1 (some (z + 189))) 2 (some (z + 191))))))) := by rw [e56, hp_at]
  have hD56 : ∀ j, 0 < j → j < 193 → j ≠ 16 → E56 j = hpE z cy j (hp0 j) := fun j h1 h2 hn16 => by
    rw [e56, hp_ne (by omega)]; exact hD55 j h1 (by omega) hn16
  refine lv_iinc (v := hpI 3) (lv' := [(1, .int (hpI 3)), (0, .ref (z + 0))]) C.1 C.2.1 dX8_init_186 hl (k := 0) rfl (by decide) (by decide) rfl (fun ls hl => ?_)
  refine lv_goto (tgt := 168) C.1 C.2.1 dX8_init_189 rfl ?_
  refine lv_iload_n C.1 C.2.1 dX8_init_168 rfl (lv_at hl 0 rfl) ?_
  refine lv_iconst (v := hpI 4) C.1 C.2.1 dX8_init_169 rfl ?_
  refine lv_icmp_ge (tgt := 192) C.1 C.2.1 dX8_init_170 rfl (fun hc => absurd hc (by decide)) (fun hc => ?_)
  refine lv_aload_n C.1 C.2.1 dX8_init_173 rfl (lv_at hl 1 rfl) ?_
  refine n_get (fs := [.ref (z + 1), .ref (z + 3), .ref (z + 9), .ref (z + 15), .ref (z + 16), .ref (z + 17), .ref (z + 70), .ref (z + 123), .ref (z + 130), .ref (z + 141), .ref (z + 164), .ref (z + 167), .ref (z + 168), .int (hpI 0), .int (hpI 0), .int (hpI (-1))]) C O8 4 (by decide) hp56_0 (by decide) wd_353 rfl hP dX8_init_174 ?_
  refine lv_iload_n C.1 C.2.1 dX8_init_177 rfl (lv_at hl 0 rfl) ?_
  refine n_size (n := 193) h0 rfl hS hP (fun hsz => ?_)
  refine n_new (fs := [.null, .int (hpI 0), .int (hpI 0), .int (hpI 0)]) C O6 bl_6 wd_137 wd_327 wd_9 hP hS hsz (Nat.le_of_ble_eq_true rfl) (Nat.le_of_ble_eq_true rfl) dX8_init_178 (fun H hP hS => ?_)
  obtain ⟨E57, e57⟩ : ∃ F, F = va_up E56 193 (.inr (6, [.null, .int (hpI 0), .int (hpI 0), .int (hpI 0)])) := ⟨_, rfl⟩
  rw [← e57] at hP
  have hO57 : ∀ j, j < 0 → E57 j = E0 j := fun j h => by rw [e57]; exact (hp_ne (by omega)).trans (hO56 j h)
  have hp57_0 : E57 0 = .inr (8, [.ref (z + 1), .ref (z + 3), .ref (z + 9), .ref (z + 15), .ref (z + 16), .ref (z + 17), .ref (z + 70), .ref (z + 123), .ref (z + 130), .ref (z + 141), .ref (z + 164), .ref (z + 167), .ref (z + 168), .int (hpI 0), .int (hpI 0), .int (hpI (-1))]) := by rw [e57, hp_ne (by decide)]; exact hp56_0
  have hp57_16 : E57 16 = .inl (cy 16, 4, .inr (.inr (.inr (.inr (va_up (va_up (va_up (fun _ => none) 0 (some (z + 187))) 1 (some (z + 189))) 2 (some (z + 191))))))) := by rw [e57, hp_ne (by decide)]; exact hp56_16
  have hp57_193 : E57 193 = .inr (6, [.null, .int (hpI 0), .int (hpI 0), .int (hpI 0)]) := by rw [e57, hp_at]
  have hD57 : ∀ j, 0 < j → j < 194 → j ≠ 16 → j ≠ 193 → E57 j = hpE z cy j (hp0 j) := fun j h1 h2 hn16 hn193 => by
    rw [e57, hp_ne (by omega)]; exact hD56 j h1 (by omega) hn16
  refine lv_dup C.1 C.2.1 dX8_init_181 rfl ?_
  refine n_size (n := 194) h0 rfl hS hP (fun hsz => ?_)
  refine n_ctorN C A yk_6 nw_328 (kX6_193 l D cy z _ hp57_193) hl hP hS hsz ⟨rfl, rfl, Nat.le_of_ble_eq_true rfl, Nat.le_of_ble_eq_true rfl⟩ ⟨Nat.le_of_ble_eq_true rfl, Nat.le_of_ble_eq_true rfl⟩ (Nat.le_of_ble_eq_true rfl) dX8_init_182 (fun H locs E58 hP hS hj58 hi58 => ?_)
  have hO58 : ∀ j, j < 0 → E58 j = E0 j := fun j h => (hj58 j (by omega)).trans (hO57 j h)
  have hp58_0 : E58 0 = .inr (8, [.ref (z + 1), .ref (z + 3), .ref (z + 9), .ref (z + 15), .ref (z + 16), .ref (z + 17), .ref (z + 70), .ref (z + 123), .ref (z + 130), .ref (z + 141), .ref (z + 164), .ref (z + 167), .ref (z + 168), .int (hpI 0), .int (hpI 0), .int (hpI (-1))]) := (hj58 0 (by decide)).trans hp57_0
  have hp58_16 : E58 16 = .inl (cy 16, 4, .inr (.inr (.inr (.inr (va_up (va_up (va_up (fun _ => none) 0 (some (z + 187))) 1 (some (z + 189))) 2 (some (z + 191))))))) := (hj58 16 (by decide)).trans hp57_16
  have hD58 : ∀ j, 0 < j → j < 195 → j ≠ 16 → E58 j = hpE z cy j (hp0 j) := fun j h1 h2 hn16 => by
    rcases Nat.lt_or_ge j 193 with h | h
    · exact (hj58 j h).trans (hD57 j h1 (by omega) hn16 (by omega))
    · exact hi58 j h h2
  refine n_aast (c0 := 16) (t0 := 6) C O6 (by decide) (by decide) hp58_16 rfl ((hD58 193 (by decide) (by decide) (by decide)).trans eo_193) 3 rfl (by decide) (by decide) hP hS dX8_init_185 (fun H locs hP hS => ?_)
  obtain ⟨E59, e59⟩ : ∃ F, F = va_up E58 16 (.inl (cy 16, 4, .inr (.inr (.inr (.inr (va_up (va_up (va_up (va_up (fun _ => none) 0 (some (z + 187))) 1 (some (z + 189))) 2 (some (z + 191))) 3 (some (z + 193)))))))) := ⟨_, rfl⟩
  rw [← e59] at hP
  have hO59 : ∀ j, j < 0 → E59 j = E0 j := fun j h => by rw [e59]; exact (hp_ne (by omega)).trans (hO58 j h)
  have hp59_0 : E59 0 = .inr (8, [.ref (z + 1), .ref (z + 3), .ref (z + 9), .ref (z + 15), .ref (z + 16), .ref (z + 17), .ref (z + 70), .ref (z + 123), .ref (z + 130), .ref (z + 141), .ref (z + 164), .ref (z + 167), .ref (z + 168), .int (hpI 0), .int (hpI 0), .int (hpI (-1))]) := by rw [e59, hp_ne (by decide)]; exact hp58_0
  have hp59_16 : E59 16 = .inl (cy 16, 4, .inr (.inr (.inr (.inr (va_up (va_up (va_up (va_up (fun _ => none) 0 (some (z + 187))) 1 (some (z + 189))) 2 (some (z + 191))) 3 (some (z + 193))))))) := by rw [e59, hp_at]
  have hD59 : ∀ j, 0 < j → j < 195 → j ≠ 16 → E59 j = hpE z cy j (hp0 j) := fun j h1 h2 hn16 => by
    rw [e59, hp_ne (by omega)]; exact hD58 j h1 (by omega) hn16
  have hP := hpWn_same (k := 16) (x := .inl (cy 16, 4, .inr (.inr (.inr (.inr (fun i => some (z + hprf 16 i))))))) hP (by decide) (fun h => by
    rw [hp59_16] at h
    refine hp_arrSame (fun i hi => ?_) h
    rcases (show i = 0 ∨ i = 1 ∨ i = 2 ∨ i = 3 by omega) with rfl | rfl | rfl | rfl <;> rfl)
  obtain ⟨E60, e60⟩ : ∃ F, F = va_up E59 16 (.inl (cy 16, 4, .inr (.inr (.inr (.inr (fun i => some (z + hprf 16 i))))))) := ⟨_, rfl⟩
  rw [← e60] at hP
  have hO60 : ∀ j, j < 0 → E60 j = E0 j := fun j h => by rw [e60]; exact (hp_ne (by omega)).trans (hO59 j h)
  have hp60_0 : E60 0 = .inr (8, [.ref (z + 1), .ref (z + 3), .ref (z + 9), .ref (z + 15), .ref (z + 16), .ref (z + 17), .ref (z + 70), .ref (z + 123), .ref (z + 130), .ref (z + 141), .ref (z + 164), .ref (z + 167), .ref (z + 168), .int (hpI 0), .int (hpI 0), .int (hpI (-1))]) := by rw [e60, hp_ne (by decide)]; exact hp59_0
  have hp60_16 : E60 16 = .inl (cy 16, 4, .inr (.inr (.inr (.inr (fun i => some (z + hprf 16 i)))))) := by rw [e60, hp_at]
  have hD60 : ∀ j, 0 < j → j < 195 → j ≠ 16 → E60 j = hpE z cy j (hp0 j) := fun j h1 h2 hn16 => by
    rw [e60, hp_ne (by omega)]; exact hD59 j h1 (by omega) hn16
  have hD61 : ∀ j, 0 < j → j < 195 → E60 j = hpE z cy j (hp0 j) := fun j h1 h2 => by
    by_cases hn16 : j = 16
    · subst hn16; rw [hp60_16, ea_16]
    · exact hD60 j h1 h2 hn16
  refine lv_iinc (v := hpI 4) (lv' := [(1, .int (hpI 4)), (0, .ref (z + 0))]) C.1 C.2.1 dX8_init_186 hl (k := 0) rfl (by decide) (by decide) rfl (fun ls hl => ?_)
  refine lv_goto (tgt := 168) C.1 C.2.1 dX8_init_189 rfl ?_
  refine lv_iload_n C.1 C.2.1 dX8_init_168 rfl (lv_at hl 0 rfl) ?_
  refine lv_iconst (v := hpI 4) C.1 C.2.1 dX8_init_169 rfl ?_
  refine lv_icmp_ge (tgt := 192) C.1 C.2.1 dX8_init_170 rfl (fun hc => ?_) (fun hc => absurd (by decide) hc)
  refine W.vret C.1 C.2.1 hr (fun t ht _ => ⟨⟨rfl, E60, by rw [ht]; exact hP, hO60, fun j h1 h2 => ?_⟩, hS.F ht⟩) (fun q hq => hS.2.2 q hq) dX8_init_192 hk
  rcases Nat.lt_or_ge 0 j with h | h
  · exact hD61 j h h2
  · obtain rfl : j = 0 := by omega
    exact hp60_0.trans eo_0.symm
abbrev rK9 : Room := { frames := 1, cells := 21, slots := 18537, locals := 20 }
set_option maxHeartbeats 4000000 in
set_option maxRecDepth 20000 in
theorem kX9_195 (l : Launch) (D : va_G) (cy : Nat → ClassId) (z : Nat) (E0 : Nat → va_E) (hE0 : E0 195 = .inr (9, (.int (hpI 0) :: .null :: .null :: .null :: .null :: .int (hpI 0) :: .null :: .int (hpI 0) :: .int (hpI 0) :: .int (hpI 0) :: .int (hpI 0) :: .int (hpI 0) :: .int (hpI 0) :: .int (hpI 0) :: .null :: .null :: .int (hpI 0) :: .int (hpI 0) :: .int (hpI 0) :: .null :: .null :: .int (hpI 0) :: .int (hpI 0) :: .int (hpI 0) :: .int (hpI 0) :: .null :: .null :: .int (hpI 0) :: .int (hpI 0) :: .null :: .null :: .null :: .int (hpI 0) :: .int (hpI 0) :: .null :: .null :: .int (hpI 0) :: .int (hpI 0) :: .null :: .long (hpJ 0) :: .long (hpJ 0) :: .long (hpJ 0) :: .null :: .null :: .null :: .null :: []))) : hpK l D cy z yX9_init cX9_init 1 rK9 195 22 21 18537 E0 := by
  refine hp_metX rfl (Nat.le_of_ble_eq_true rfl) (fun p e s m below meth c ls C A hr hk hnm h0 hl hP hS => ?_)
  have hO0 : ∀ j, j < 195 → E0 j = E0 j := fun _ _ => rfl
  have hD0 : ∀ j, 195 < j → j < 196 → E0 j = hpE z cy j (hp0 j) := fun j h1 h2 => by omega
  refine lv_aload_n C.1 C.2.1 dX9_init_0 rfl (lv_at hl 0 rfl) ?_
  refine W.objInit C.1 C.2.1 C.2.2.2.1 (C.2.2.2.2.1 _ wd_1256) (C.2.2.2.2.1 _ wd_24) (C.2.2.2.2.1 _ wd_25) rfl (by rw [C.2.2.1]; exact hl.1) rfl dX9_init_1 (Nat.le_of_ble_eq_true rfl) (Nat.le_of_ble_eq_true rfl) ?_
  refine lv_aload_n C.1 C.2.1 dX9_init_4 rfl (lv_at hl 0 rfl) ?_
  refine lv_bipush (v := hpI 47) C.1 C.2.1 dX9_init_5 (by decide) ?_
  refine n_size (n := 196) h0 rfl hS hP (fun hsz => ?_)
  refine n_newa (atype := .int) (ci := 11) (t0 := 1) (a0 := (47, .inl (fun i => hpI (hp0 196 i)))) C wd_135 rfl rfl (fun U h => h) (az_196) rfl (by decide) (Nat.le_of_ble_eq_true rfl) hP hS hsz (Nat.le_of_ble_eq_true rfl) (Nat.le_of_ble_eq_true rfl) dX9_init_7 (fun H hP hS => ?_)
  obtain ⟨E1, e1⟩ : ∃ F, F = va_up E0 196 (.inl (cy 11, 47, .inl (fun i => hpI (hp0 196 i)))) := ⟨_, rfl⟩
  rw [← e1] at hP
  have hO1 : ∀ j, j < 195 → E1 j = E0 j := fun j h => by rw [e1]; exact (hp_ne (by omega)).trans (hO0 j h)
  have hp1_195 : E1 195 = .inr (9, (.int (hpI 0) :: .null :: .null :: .null :: .null :: .int (hpI 0) :: .null :: .int (hpI 0) :: .int (hpI 0) :: .int (hpI 0) :: .int (hpI 0) :: .int (hpI 0) :: .int (hpI 0) :: .int (hpI 0) :: .null :: .null :: .int (hpI 0) :: .int (hpI 0) :: .int (hpI 0) :: .null :: .null :: .int (hpI 0) :: .int (hpI 0) :: .int (hpI 0) :: .int (hpI 0) :: .null :: .null :: .int (hpI 0) :: .int (hpI 0) :: .null :: .null :: .null :: .int (hpI 0) :: .int (hpI 0) :: .null :: .null :: .int (hpI 0) :: .int (hpI 0) :: .null :: .long (hpJ 0) :: .long (hpJ 0) :: .long (hpJ 0) :: .null :: .null :: .null :: .null :: [])) := by rw [e1, hp_ne (by decide)]; exact hE0
  have hD1 : ∀ j, 195 < j → j < 197 → E1 j = hpE z cy j (hp0 j) := fun j h1 h2 => by
    rcases Nat.lt_or_ge j 196 with h | h
    · rw [e1, hp_ne (by omega)]; exact hD0 j h1 h
    · obtain rfl : j = 196 := by omega
      rw [e1, hp_at, ea_196]
  refine n_putF (fs' := (.int (hpI 0) :: .ref (z + 196) :: .null :: .null :: .null :: .int (hpI 0) :: .null :: .int (hpI 0) :: .int (hpI 0) :: .int (hpI 0) :: .int (hpI 0) :: .int (hpI 0) :: .int (hpI 0) :: .int (hpI 0) :: .null :: .null :: .int (hpI 0) :: .int (hpI 0) :: .int (hpI 0) :: .null :: .null :: .int (hpI 0) :: .int (hpI 0) :: .int (hpI 0) :: .int (hpI 0) :: .null :: .null :: .int (hpI 0) :: .int (hpI 0) :: .null :: .null :: .null :: .int (hpI 0) :: .int (hpI 0) :: .null :: .null :: .int (hpI 0) :: .int (hpI 0) :: .null :: .long (hpJ 0) :: .long (hpJ 0) :: .long (hpJ 0) :: .null :: .null :: .null :: .null :: [])) C O9 1 (by decide) hp1_195 (by decide) rfl hnm rfl wd_1257 rfl rfl (Nat.le_of_ble_eq_true rfl) rfl hP hS dX9_init_9 (fun H locs hP hS => ?_)
  obtain ⟨E2, e2⟩ : ∃ F, F = va_up E1 195 (.inr (9, (.int (hpI 0) :: .ref (z + 196) :: .null :: .null :: .null :: .int (hpI 0) :: .null :: .int (hpI 0) :: .int (hpI 0) :: .int (hpI 0) :: .int (hpI 0) :: .int (hpI 0) :: .int (hpI 0) :: .int (hpI 0) :: .null :: .null :: .int (hpI 0) :: .int (hpI 0) :: .int (hpI 0) :: .null :: .null :: .int (hpI 0) :: .int (hpI 0) :: .int (hpI 0) :: .int (hpI 0) :: .null :: .null :: .int (hpI 0) :: .int (hpI 0) :: .null :: .null :: .null :: .int (hpI 0) :: .int (hpI 0) :: .null :: .null :: .int (hpI 0) :: .int (hpI 0) :: .null :: .long (hpJ 0) :: .long (hpJ 0) :: .long (hpJ 0) :: .null :: .null :: .null :: .null :: []))) := ⟨_, rfl⟩
  rw [← e2] at hP
  have hO2 : ∀ j, j < 195 → E2 j = E0 j := fun j h => by rw [e2]; exact (hp_ne (by omega)).trans (hO1 j h)
  have hp2_195 : E2 195 = .inr (9, (.int (hpI 0) :: .ref (z + 196) :: .null :: .null :: .null :: .int (hpI 0) :: .null :: .int (hpI 0) :: .int (hpI 0) :: .int (hpI 0) :: .int (hpI 0) :: .int (hpI 0) :: .int (hpI 0) :: .int (hpI 0) :: .null :: .null :: .int (hpI 0) :: .int (hpI 0) :: .int (hpI 0) :: .null :: .null :: .int (hpI 0) :: .int (hpI 0) :: .int (hpI 0) :: .int (hpI 0) :: .null :: .null :: .int (hpI 0) :: .int (hpI 0) :: .null :: .null :: .null :: .int (hpI 0) :: .int (hpI 0) :: .null :: .null :: .int (hpI 0) :: .int (hpI 0) :: .null :: .long (hpJ 0) :: .long (hpJ 0) :: .long (hpJ 0) :: .null :: .null :: .null :: .null :: [])) := by rw [e2, hp_at]
  have hD2 : ∀ j, 195 < j → j < 197 → E2 j = hpE z cy j (hp0 j) := fun j h1 h2 => by
    rw [e2, hp_ne (by omega)]; exact hD1 j h1 (by omega)
  refine lv_aload_n C.1 C.2.1 dX9_init_12 rfl (lv_at hl 0 rfl) ?_
  refine lv_sipush (v := hpI 141) C.1 C.2.1 dX9_init_13 (by decide) ?_
  refine n_size (n := 197) h0 rfl hS hP (fun hsz => ?_)
  refine n_newa (atype := .int) (ci := 11) (t0 := 1) (a0 := (141, .inl (fun i => hpI (hp0 197 i)))) C wd_135 rfl rfl (fun U h => h) (az_197) rfl (by decide) (Nat.le_of_ble_eq_true rfl) hP hS hsz (Nat.le_of_ble_eq_true rfl) (Nat.le_of_ble_eq_true rfl) dX9_init_16 (fun H hP hS => ?_)
  obtain ⟨E3, e3⟩ : ∃ F, F = va_up E2 197 (.inl (cy 11, 141, .inl (fun i => hpI (hp0 197 i)))) := ⟨_, rfl⟩
  rw [← e3] at hP
  have hO3 : ∀ j, j < 195 → E3 j = E0 j := fun j h => by rw [e3]; exact (hp_ne (by omega)).trans (hO2 j h)
  have hp3_195 : E3 195 = .inr (9, (.int (hpI 0) :: .ref (z + 196) :: .null :: .null :: .null :: .int (hpI 0) :: .null :: .int (hpI 0) :: .int (hpI 0) :: .int (hpI 0) :: .int (hpI 0) :: .int (hpI 0) :: .int (hpI 0) :: .int (hpI 0) :: .null :: .null :: .int (hpI 0) :: .int (hpI 0) :: .int (hpI 0) :: .null :: .null :: .int (hpI 0) :: .int (hpI 0) :: .int (hpI 0) :: .int (hpI 0) :: .null :: .null :: .int (hpI 0) :: .int (hpI 0) :: .null :: .null :: .null :: .int (hpI 0) :: .int (hpI 0) :: .null :: .null :: .int (hpI 0) :: .int (hpI 0) :: .null :: .long (hpJ 0) :: .long (hpJ 0) :: .long (hpJ 0) :: .null :: .null :: .null :: .null :: [])) := by rw [e3, hp_ne (by decide)]; exact hp2_195
  have hD3 : ∀ j, 195 < j → j < 198 → E3 j = hpE z cy j (hp0 j) := fun j h1 h2 => by
    rcases Nat.lt_or_ge j 197 with h | h
    · rw [e3, hp_ne (by omega)]; exact hD2 j h1 h
    · obtain rfl : j = 197 := by omega
      rw [e3, hp_at, ea_197]
  refine n_putF (fs' := (.int (hpI 0) :: .ref (z + 196) :: .ref (z + 197) :: .null :: .null :: .int (hpI 0) :: .null :: .int (hpI 0) :: .int (hpI 0) :: .int (hpI 0) :: .int (hpI 0) :: .int (hpI 0) :: .int (hpI 0) :: .int (hpI 0) :: .null :: .null :: .int (hpI 0) :: .int (hpI 0) :: .int (hpI 0) :: .null :: .null :: .int (hpI 0) :: .int (hpI 0) :: .int (hpI 0) :: .int (hpI 0) :: .null :: .null :: .int (hpI 0) :: .int (hpI 0) :: .null :: .null :: .null :: .int (hpI 0) :: .int (hpI 0) :: .null :: .null :: .int (hpI 0) :: .int (hpI 0) :: .null :: .long (hpJ 0) :: .long (hpJ 0) :: .long (hpJ 0) :: .null :: .null :: .null :: .null :: [])) C O9 2 (by decide) hp3_195 (by decide) rfl hnm rfl wd_1258 rfl rfl (Nat.le_of_ble_eq_true rfl) rfl hP hS dX9_init_18 (fun H locs hP hS => ?_)
  obtain ⟨E4, e4⟩ : ∃ F, F = va_up E3 195 (.inr (9, (.int (hpI 0) :: .ref (z + 196) :: .ref (z + 197) :: .null :: .null :: .int (hpI 0) :: .null :: .int (hpI 0) :: .int (hpI 0) :: .int (hpI 0) :: .int (hpI 0) :: .int (hpI 0) :: .int (hpI 0) :: .int (hpI 0) :: .null :: .null :: .int (hpI 0) :: .int (hpI 0) :: .int (hpI 0) :: .null :: .null :: .int (hpI 0) :: .int (hpI 0) :: .int (hpI 0) :: .int (hpI 0) :: .null :: .null :: .int (hpI 0) :: .int (hpI 0) :: .null :: .null :: .null :: .int (hpI 0) :: .int (hpI 0) :: .null :: .null :: .int (hpI 0) :: .int (hpI 0) :: .null :: .long (hpJ 0) :: .long (hpJ 0) :: .long (hpJ 0) :: .null :: .null :: .null :: .null :: []))) := ⟨_, rfl⟩
  rw [← e4] at hP
  have hO4 : ∀ j, j < 195 → E4 j = E0 j := fun j h => by rw [e4]; exact (hp_ne (by omega)).trans (hO3 j h)
  have hp4_195 : E4 195 = .inr (9, (.int (hpI 0) :: .ref (z + 196) :: .ref (z + 197) :: .null :: .null :: .int (hpI 0) :: .null :: .int (hpI 0) :: .int (hpI 0) :: .int (hpI 0) :: .int (hpI 0) :: .int (hpI 0) :: .int (hpI 0) :: .int (hpI 0) :: .null :: .null :: .int (hpI 0) :: .int (hpI 0) :: .int (hpI 0) :: .null :: .null :: .int (hpI 0) :: .int (hpI 0) :: .int (hpI 0) :: .int (hpI 0) :: .null :: .null :: .int (hpI 0) :: .int (hpI 0) :: .null :: .null :: .null :: .int (hpI 0) :: .int (hpI 0) :: .null :: .null :: .int (hpI 0) :: .int (hpI 0) :: .null :: .long (hpJ 0) :: .long (hpJ 0) :: .long (hpJ 0) :: .null :: .null :: .null :: .null :: [])) := by rw [e4, hp_at]
  have hD4 : ∀ j, 195 < j → j < 198 → E4 j = hpE z cy j (hp0 j) := fun j h1 h2 => by
    rw [e4, hp_ne (by omega)]; exact hD3 j h1 (by omega)
  refine lv_aload_n C.1 C.2.1 dX9_init_21 rfl (lv_at hl 0 rfl) ?_
  refine lv_iconst (v := hpI 3) C.1 C.2.1 dX9_init_22 rfl ?_
  refine n_size (n := 198) h0 rfl hS hP (fun hsz => ?_)
  refine n_newa (atype := .boolean) (ci := 13) (t0 := 3) (a0 := (3, .inl (fun i => hpI (hp0 198 i)))) C wd_1395 rfl rfl (fun U h => h) (az_198) rfl (by decide) (Nat.le_of_ble_eq_true rfl) hP hS hsz (Nat.le_of_ble_eq_true rfl) (Nat.le_of_ble_eq_true rfl) dX9_init_23 (fun H hP hS => ?_)
  obtain ⟨E5, e5⟩ : ∃ F, F = va_up E4 198 (.inl (cy 13, 3, .inl (fun i => hpI (hp0 198 i)))) := ⟨_, rfl⟩
  rw [← e5] at hP
  have hO5 : ∀ j, j < 195 → E5 j = E0 j := fun j h => by rw [e5]; exact (hp_ne (by omega)).trans (hO4 j h)
  have hp5_195 : E5 195 = .inr (9, (.int (hpI 0) :: .ref (z + 196) :: .ref (z + 197) :: .null :: .null :: .int (hpI 0) :: .null :: .int (hpI 0) :: .int (hpI 0) :: .int (hpI 0) :: .int (hpI 0) :: .int (hpI 0) :: .int (hpI 0) :: .int (hpI 0) :: .null :: .null :: .int (hpI 0) :: .int (hpI 0) :: .int (hpI 0) :: .null :: .null :: .int (hpI 0) :: .int (hpI 0) :: .int (hpI 0) :: .int (hpI 0) :: .null :: .null :: .int (hpI 0) :: .int (hpI 0) :: .null :: .null :: .null :: .int (hpI 0) :: .int (hpI 0) :: .null :: .null :: .int (hpI 0) :: .int (hpI 0) :: .null :: .long (hpJ 0) :: .long (hpJ 0) :: .long (hpJ 0) :: .null :: .null :: .null :: .null :: [])) := by rw [e5, hp_ne (by decide)]; exact hp4_195
  have hD5 : ∀ j, 195 < j → j < 199 → E5 j = hpE z cy j (hp0 j) := fun j h1 h2 => by
    rcases Nat.lt_or_ge j 198 with h | h
    · rw [e5, hp_ne (by omega)]; exact hD4 j h1 h
    · obtain rfl : j = 198 := by omega
      rw [e5, hp_at, ea_198]
  refine n_putF (fs' := (.int (hpI 0) :: .ref (z + 196) :: .ref (z + 197) :: .ref (z + 198) :: .null :: .int (hpI 0) :: .null :: .int (hpI 0) :: .int (hpI 0) :: .int (hpI 0) :: .int (hpI 0) :: .int (hpI 0) :: .int (hpI 0) :: .int (hpI 0) :: .null :: .null :: .int (hpI 0) :: .int (hpI 0) :: .int (hpI 0) :: .null :: .null :: .int (hpI 0) :: .int (hpI 0) :: .int (hpI 0) :: .int (hpI 0) :: .null :: .null :: .int (hpI 0) :: .int (hpI 0) :: .null :: .null :: .null :: .int (hpI 0) :: .int (hpI 0) :: .null :: .null :: .int (hpI 0) :: .int (hpI 0) :: .null :: .long (hpJ 0) :: .long (hpJ 0) :: .long (hpJ 0) :: .null :: .null :: .null :: .null :: [])) C O9 3 (by decide) hp5_195 (by decide) rfl hnm rfl wd_1259 rfl rfl (Nat.le_of_ble_eq_true rfl) rfl hP hS dX9_init_25 (fun H locs hP hS => ?_)
  obtain ⟨E6, e6⟩ : ∃ F, F = va_up E5 195 (.inr (9, (.int (hpI 0) :: .ref (z + 196) :: .ref (z + 197) :: .ref (z + 198) :: .null :: .int (hpI 0) :: .null :: .int (hpI 0) :: .int (hpI 0) :: .int (hpI 0) :: .int (hpI 0) :: .int (hpI 0) :: .int (hpI 0) :: .int (hpI 0) :: .null :: .null :: .int (hpI 0) :: .int (hpI 0) :: .int (hpI 0) :: .null :: .null :: .int (hpI 0) :: .int (hpI 0) :: .int (hpI 0) :: .int (hpI 0) :: .null :: .null :: .int (hpI 0) :: .int (hpI 0) :: .null :: .null :: .null :: .int (hpI 0) :: .int (hpI 0) :: .null :: .null :: .int (hpI 0) :: .int (hpI 0) :: .null :: .long (hpJ 0) :: .long (hpJ 0) :: .long (hpJ 0) :: .null :: .null :: .null :: .null :: []))) := ⟨_, rfl⟩
  rw [← e6] at hP
  have hO6 : ∀ j, j < 195 → E6 j = E0 j := fun j h => by rw [e6]; exact (hp_ne (by omega)).trans (hO5 j h)
  have hp6_195 : E6 195 = .inr (9, (.int (hpI 0) :: .ref (z + 196) :: .ref (z + 197) :: .ref (z + 198) :: .null :: .int (hpI 0) :: .null :: .int (hpI 0) :: .int (hpI 0) :: .int (hpI 0) :: .int (hpI 0) :: .int (hpI 0) :: .int (hpI 0) :: .int (hpI 0) :: .null :: .null :: .int (hpI 0) :: .int (hpI 0) :: .int (hpI 0) :: .null :: .null :: .int (hpI 0) :: .int (hpI 0) :: .int (hpI 0) :: .int (hpI 0) :: .null :: .null :: .int (hpI 0) :: .int (hpI 0) :: .null :: .null :: .null :: .int (hpI 0) :: .int (hpI 0) :: .null :: .null :: .int (hpI 0) :: .int (hpI 0) :: .null :: .long (hpJ 0) :: .long (hpJ 0) :: .long (hpJ 0) :: .null :: .null :: .null :: .null :: [])) := by rw [e6, hp_at]
  have hD6 : ∀ j, 195 < j → j < 199 → E6 j = hpE z cy j (hp0 j) := fun j h1 h2 => by
    rw [e6, hp_ne (by omega)]; exact hD5 j h1 (by omega)
  refine lv_aload_n C.1 C.2.1 dX9_init_28 rfl (lv_at hl 0 rfl) ?_
  refine lv_sipush (v := hpI 500) C.1 C.2.1 dX9_init_29 (by decide) ?_
  refine n_size (n := 199) h0 rfl hS hP (fun hsz => ?_)
  refine n_newa (atype := .byte) (ci := 10) (t0 := 0) (a0 := (500, .inl (fun i => hpI (hp0 199 i)))) C wd_57 rfl rfl (fun U h => h) (az_199) rfl (by decide) (Nat.le_of_ble_eq_true rfl) hP hS hsz (Nat.le_of_ble_eq_true rfl) (Nat.le_of_ble_eq_true rfl) dX9_init_32 (fun H hP hS => ?_)
  obtain ⟨E7, e7⟩ : ∃ F, F = va_up E6 199 (.inl (cy 10, 500, .inl (fun i => hpI (hp0 199 i)))) := ⟨_, rfl⟩
  rw [← e7] at hP
  have hO7 : ∀ j, j < 195 → E7 j = E0 j := fun j h => by rw [e7]; exact (hp_ne (by omega)).trans (hO6 j h)
  have hp7_195 : E7 195 = .inr (9, (.int (hpI 0) :: .ref (z + 196) :: .ref (z + 197) :: .ref (z + 198) :: .null :: .int (hpI 0) :: .null :: .int (hpI 0) :: .int (hpI 0) :: .int (hpI 0) :: .int (hpI 0) :: .int (hpI 0) :: .int (hpI 0) :: .int (hpI 0) :: .null :: .null :: .int (hpI 0) :: .int (hpI 0) :: .int (hpI 0) :: .null :: .null :: .int (hpI 0) :: .int (hpI 0) :: .int (hpI 0) :: .int (hpI 0) :: .null :: .null :: .int (hpI 0) :: .int (hpI 0) :: .null :: .null :: .null :: .int (hpI 0) :: .int (hpI 0) :: .null :: .null :: .int (hpI 0) :: .int (hpI 0) :: .null :: .long (hpJ 0) :: .long (hpJ 0) :: .long (hpJ 0) :: .null :: .null :: .null :: .null :: [])) := by rw [e7, hp_ne (by decide)]; exact hp6_195
  have hD7 : ∀ j, 195 < j → j < 200 → E7 j = hpE z cy j (hp0 j) := fun j h1 h2 => by
    rcases Nat.lt_or_ge j 199 with h | h
    · rw [e7, hp_ne (by omega)]; exact hD6 j h1 h
    · obtain rfl : j = 199 := by omega
      rw [e7, hp_at, ea_199]
  refine n_putF (fs' := (.int (hpI 0) :: .ref (z + 196) :: .ref (z + 197) :: .ref (z + 198) :: .ref (z + 199) :: .int (hpI 0) :: .null :: .int (hpI 0) :: .int (hpI 0) :: .int (hpI 0) :: .int (hpI 0) :: .int (hpI 0) :: .int (hpI 0) :: .int (hpI 0) :: .null :: .null :: .int (hpI 0) :: .int (hpI 0) :: .int (hpI 0) :: .null :: .null :: .int (hpI 0) :: .int (hpI 0) :: .int (hpI 0) :: .int (hpI 0) :: .null :: .null :: .int (hpI 0) :: .int (hpI 0) :: .null :: .null :: .null :: .int (hpI 0) :: .int (hpI 0) :: .null :: .null :: .int (hpI 0) :: .int (hpI 0) :: .null :: .long (hpJ 0) :: .long (hpJ 0) :: .long (hpJ 0) :: .null :: .null :: .null :: .null :: [])) C O9 4 (by decide) hp7_195 (by decide) rfl hnm rfl wd_1260 rfl rfl (Nat.le_of_ble_eq_true rfl) rfl hP hS dX9_init_34 (fun H locs hP hS => ?_)
  obtain ⟨E8, e8⟩ : ∃ F, F = va_up E7 195 (.inr (9, (.int (hpI 0) :: .ref (z + 196) :: .ref (z + 197) :: .ref (z + 198) :: .ref (z + 199) :: .int (hpI 0) :: .null :: .int (hpI 0) :: .int (hpI 0) :: .int (hpI 0) :: .int (hpI 0) :: .int (hpI 0) :: .int (hpI 0) :: .int (hpI 0) :: .null :: .null :: .int (hpI 0) :: .int (hpI 0) :: .int (hpI 0) :: .null :: .null :: .int (hpI 0) :: .int (hpI 0) :: .int (hpI 0) :: .int (hpI 0) :: .null :: .null :: .int (hpI 0) :: .int (hpI 0) :: .null :: .null :: .null :: .int (hpI 0) :: .int (hpI 0) :: .null :: .null :: .int (hpI 0) :: .int (hpI 0) :: .null :: .long (hpJ 0) :: .long (hpJ 0) :: .long (hpJ 0) :: .null :: .null :: .null :: .null :: []))) := ⟨_, rfl⟩
  rw [← e8] at hP
  have hO8 : ∀ j, j < 195 → E8 j = E0 j := fun j h => by rw [e8]; exact (hp_ne (by omega)).trans (hO7 j h)
  have hp8_195 : E8 195 = .inr (9, (.int (hpI 0) :: .ref (z + 196) :: .ref (z + 197) :: .ref (z + 198) :: .ref (z + 199) :: .int (hpI 0) :: .null :: .int (hpI 0) :: .int (hpI 0) :: .int (hpI 0) :: .int (hpI 0) :: .int (hpI 0) :: .int (hpI 0) :: .int (hpI 0) :: .null :: .null :: .int (hpI 0) :: .int (hpI 0) :: .int (hpI 0) :: .null :: .null :: .int (hpI 0) :: .int (hpI 0) :: .int (hpI 0) :: .int (hpI 0) :: .null :: .null :: .int (hpI 0) :: .int (hpI 0) :: .null :: .null :: .null :: .int (hpI 0) :: .int (hpI 0) :: .null :: .null :: .int (hpI 0) :: .int (hpI 0) :: .null :: .long (hpJ 0) :: .long (hpJ 0) :: .long (hpJ 0) :: .null :: .null :: .null :: .null :: [])) := by rw [e8, hp_at]
  have hD8 : ∀ j, 195 < j → j < 200 → E8 j = hpE z cy j (hp0 j) := fun j h1 h2 => by
    rw [e8, hp_ne (by omega)]; exact hD7 j h1 (by omega)
  refine lv_aload_n C.1 C.2.1 dX9_init_37 rfl (lv_at hl 0 rfl) ?_
  refine lv_iconst (v := hpI 5) C.1 C.2.1 dX9_init_38 rfl ?_
  refine n_size (n := 200) h0 rfl hS hP (fun hsz => ?_)
  refine n_newa (atype := .int) (ci := 11) (t0 := 1) (a0 := (5, .inl (fun i => hpI (hp0 200 i)))) C wd_135 rfl rfl (fun U h => h) (az_200) rfl (by decide) (Nat.le_of_ble_eq_true rfl) hP hS hsz (Nat.le_of_ble_eq_true rfl) (Nat.le_of_ble_eq_true rfl) dX9_init_39 (fun H hP hS => ?_)
  obtain ⟨E9, e9⟩ : ∃ F, F = va_up E8 200 (.inl (cy 11, 5, .inl (fun i => hpI (hp0 200 i)))) := ⟨_, rfl⟩
  rw [← e9] at hP
  have hO9 : ∀ j, j < 195 → E9 j = E0 j := fun j h => by rw [e9]; exact (hp_ne (by omega)).trans (hO8 j h)
  have hp9_195 : E9 195 = .inr (9, (.int (hpI 0) :: .ref (z + 196) :: .ref (z + 197) :: .ref (z + 198) :: .ref (z + 199) :: .int (hpI 0) :: .null :: .int (hpI 0) :: .int (hpI 0) :: .int (hpI 0) :: .int (hpI 0) :: .int (hpI 0) :: .int (hpI 0) :: .int (hpI 0) :: .null :: .null :: .int (hpI 0) :: .int (hpI 0) :: .int (hpI 0) :: .null :: .null :: .int (hpI 0) :: .int (hpI 0) :: .int (hpI 0) :: .int (hpI 0) :: .null :: .null :: .int (hpI 0) :: .int (hpI 0) :: .null :: .null :: .null :: .int (hpI 0) :: .int (hpI 0) :: .null :: .null :: .int (hpI 0) :: .int (hpI 0) :: .null :: .long (hpJ 0) :: .long (hpJ 0) :: .long (hpJ 0) :: .null :: .null :: .null :: .null :: [])) := by rw [e9, hp_ne (by decide)]; exact hp8_195
  have hD9 : ∀ j, 195 < j → j < 201 → E9 j = hpE z cy j (hp0 j) := fun j h1 h2 => by
    rcases Nat.lt_or_ge j 200 with h | h
    · rw [e9, hp_ne (by omega)]; exact hD8 j h1 h
    · obtain rfl : j = 200 := by omega
      rw [e9, hp_at, ea_200]
  refine n_putF (fs' := (.int (hpI 0) :: .ref (z + 196) :: .ref (z + 197) :: .ref (z + 198) :: .ref (z + 199) :: .int (hpI 0) :: .ref (z + 200) :: .int (hpI 0) :: .int (hpI 0) :: .int (hpI 0) :: .int (hpI 0) :: .int (hpI 0) :: .int (hpI 0) :: .int (hpI 0) :: .null :: .null :: .int (hpI 0) :: .int (hpI 0) :: .int (hpI 0) :: .null :: .null :: .int (hpI 0) :: .int (hpI 0) :: .int (hpI 0) :: .int (hpI 0) :: .null :: .null :: .int (hpI 0) :: .int (hpI 0) :: .null :: .null :: .null :: .int (hpI 0) :: .int (hpI 0) :: .null :: .null :: .int (hpI 0) :: .int (hpI 0) :: .null :: .long (hpJ 0) :: .long (hpJ 0) :: .long (hpJ 0) :: .null :: .null :: .null :: .null :: [])) C O9 6 (by decide) hp9_195 (by decide) rfl hnm rfl wd_1262 rfl rfl (Nat.le_of_ble_eq_true rfl) rfl hP hS dX9_init_41 (fun H locs hP hS => ?_)
  obtain ⟨E10, e10⟩ : ∃ F, F = va_up E9 195 (.inr (9, (.int (hpI 0) :: .ref (z + 196) :: .ref (z + 197) :: .ref (z + 198) :: .ref (z + 199) :: .int (hpI 0) :: .ref (z + 200) :: .int (hpI 0) :: .int (hpI 0) :: .int (hpI 0) :: .int (hpI 0) :: .int (hpI 0) :: .int (hpI 0) :: .int (hpI 0) :: .null :: .null :: .int (hpI 0) :: .int (hpI 0) :: .int (hpI 0) :: .null :: .null :: .int (hpI 0) :: .int (hpI 0) :: .int (hpI 0) :: .int (hpI 0) :: .null :: .null :: .int (hpI 0) :: .int (hpI 0) :: .null :: .null :: .null :: .int (hpI 0) :: .int (hpI 0) :: .null :: .null :: .int (hpI 0) :: .int (hpI 0) :: .null :: .long (hpJ 0) :: .long (hpJ 0) :: .long (hpJ 0) :: .null :: .null :: .null :: .null :: []))) := ⟨_, rfl⟩
  rw [← e10] at hP
  have hO10 : ∀ j, j < 195 → E10 j = E0 j := fun j h => by rw [e10]; exact (hp_ne (by omega)).trans (hO9 j h)
  have hp10_195 : E10 195 = .inr (9, (.int (hpI 0) :: .ref (z + 196) :: .ref (z + 197) :: .ref (z + 198) :: .ref (z + 199) :: .int (hpI 0) :: .ref (z + 200) :: .int (hpI 0) :: .int (hpI 0) :: .int (hpI 0) :: .int (hpI 0) :: .int (hpI 0) :: .int (hpI 0) :: .int (hpI 0) :: .null :: .null :: .int (hpI 0) :: .int (hpI 0) :: .int (hpI 0) :: .null :: .null :: .int (hpI 0) :: .int (hpI 0) :: .int (hpI 0) :: .int (hpI 0) :: .null :: .null :: .int (hpI 0) :: .int (hpI 0) :: .null :: .null :: .null :: .int (hpI 0) :: .int (hpI 0) :: .null :: .null :: .int (hpI 0) :: .int (hpI 0) :: .null :: .long (hpJ 0) :: .long (hpJ 0) :: .long (hpJ 0) :: .null :: .null :: .null :: .null :: [])) := by rw [e10, hp_at]
  have hD10 : ∀ j, 195 < j → j < 201 → E10 j = hpE z cy j (hp0 j) := fun j h1 h2 => by
    rw [e10, hp_ne (by omega)]; exact hD9 j h1 (by omega)
  refine lv_aload_n C.1 C.2.1 dX9_init_44 rfl (lv_at hl 0 rfl) ?_
  refine lv_iconst (v := hpI (-1)) C.1 C.2.1 dX9_init_45 rfl ?_
  refine n_put (fs' := (.int (hpI 0) :: .ref (z + 196) :: .ref (z + 197) :: .ref (z + 198) :: .ref (z + 199) :: .int (hpI 0) :: .ref (z + 200) :: .int (hpI 0) :: .int (hpI 0) :: .int (hpI 0) :: .int (hpI 0) :: .int (hpI 0) :: .int (hpI 0) :: .int (hpI (-1)) :: .null :: .null :: .int (hpI 0) :: .int (hpI 0) :: .int (hpI 0) :: .null :: .null :: .int (hpI 0) :: .int (hpI 0) :: .int (hpI 0) :: .int (hpI 0) :: .null :: .null :: .int (hpI 0) :: .int (hpI 0) :: .null :: .null :: .null :: .int (hpI 0) :: .int (hpI 0) :: .null :: .null :: .int (hpI 0) :: .int (hpI 0) :: .null :: .long (hpJ 0) :: .long (hpJ 0) :: .long (hpJ 0) :: .null :: .null :: .null :: .null :: [])) C O9 13 (by decide) hp10_195 (by decide) rfl wd_1269 rfl rfl (Nat.le_of_ble_eq_true rfl) rfl hP hS dX9_init_46 (fun H locs hP hS => ?_)
  obtain ⟨E11, e11⟩ : ∃ F, F = va_up E10 195 (.inr (9, (.int (hpI 0) :: .ref (z + 196) :: .ref (z + 197) :: .ref (z + 198) :: .ref (z + 199) :: .int (hpI 0) :: .ref (z + 200) :: .int (hpI 0) :: .int (hpI 0) :: .int (hpI 0) :: .int (hpI 0) :: .int (hpI 0) :: .int (hpI 0) :: .int (hpI (-1)) :: .null :: .null :: .int (hpI 0) :: .int (hpI 0) :: .int (hpI 0) :: .null :: .null :: .int (hpI 0) :: .int (hpI 0) :: .int (hpI 0) :: .int (hpI 0) :: .null :: .null :: .int (hpI 0) :: .int (hpI 0) :: .null :: .null :: .null :: .int (hpI 0) :: .int (hpI 0) :: .null :: .null :: .int (hpI 0) :: .int (hpI 0) :: .null :: .long (hpJ 0) :: .long (hpJ 0) :: .long (hpJ 0) :: .null :: .null :: .null :: .null :: []))) := ⟨_, rfl⟩
  rw [← e11] at hP
  have hO11 : ∀ j, j < 195 → E11 j = E0 j := fun j h => by rw [e11]; exact (hp_ne (by omega)).trans (hO10 j h)
  have hp11_195 : E11 195 = .inr (9, (.int (hpI 0) :: .ref (z + 196) :: .ref (z + 197) :: .ref (z + 198) :: .ref (z + 199) :: .int (hpI 0) :: .ref (z + 200) :: .int (hpI 0) :: .int (hpI 0) :: .int (hpI 0) :: .int (hpI 0) :: .int (hpI 0) :: .int (hpI 0) :: .int (hpI (-1)) :: .null :: .null :: .int (hpI 0) :: .int (hpI 0) :: .int (hpI 0) :: .null :: .null :: .int (hpI 0) :: .int (hpI 0) :: .int (hpI 0) :: .int (hpI 0) :: .null :: .null :: .int (hpI 0) :: .int (hpI 0) :: .null :: .null :: .null :: .int (hpI 0) :: .int (hpI 0) :: .null :: .null :: .int (hpI 0) :: .int (hpI 0) :: .null :: .long (hpJ 0) :: .long (hpJ 0) :: .long (hpJ 0) :: .null :: .null :: .null :: .null :: [])) := by rw [e11, hp_at]
  have hD11 : ∀ j, 195 < j → j < 201 → E11 j = hpE z cy j (hp0 j) := fun j h1 h2 => by
    rw [e11, hp_ne (by omega)]; exact hD10 j h1 (by omega)
  refine lv_aload_n C.1 C.2.1 dX9_init_49 rfl (lv_at hl 0 rfl) ?_
  refine lv_bipush (v := hpI 47) C.1 C.2.1 dX9_init_50 (by decide) ?_
  refine n_size (n := 201) h0 rfl hS hP (fun hsz => ?_)
  refine n_newa (atype := .int) (ci := 11) (t0 := 1) (a0 := (47, .inl (fun i => hpI (hp0 201 i)))) C wd_135 rfl rfl (fun U h => h) (az_201) rfl (by decide) (Nat.le_of_ble_eq_true rfl) hP hS hsz (Nat.le_of_ble_eq_true rfl) (Nat.le_of_ble_eq_true rfl) dX9_init_52 (fun H hP hS => ?_)
  obtain ⟨E12, e12⟩ : ∃ F, F = va_up E11 201 (.inl (cy 11, 47, .inl (fun i => hpI (hp0 201 i)))) := ⟨_, rfl⟩
  rw [← e12] at hP
  have hO12 : ∀ j, j < 195 → E12 j = E0 j := fun j h => by rw [e12]; exact (hp_ne (by omega)).trans (hO11 j h)
  have hp12_195 : E12 195 = .inr (9, (.int (hpI 0) :: .ref (z + 196) :: .ref (z + 197) :: .ref (z + 198) :: .ref (z + 199) :: .int (hpI 0) :: .ref (z + 200) :: .int (hpI 0) :: .int (hpI 0) :: .int (hpI 0) :: .int (hpI 0) :: .int (hpI 0) :: .int (hpI 0) :: .int (hpI (-1)) :: .null :: .null :: .int (hpI 0) :: .int (hpI 0) :: .int (hpI 0) :: .null :: .null :: .int (hpI 0) :: .int (hpI 0) :: .int (hpI 0) :: .int (hpI 0) :: .null :: .null :: .int (hpI 0) :: .int (hpI 0) :: .null :: .null :: .null :: .int (hpI 0) :: .int (hpI 0) :: .null :: .null :: .int (hpI 0) :: .int (hpI 0) :: .null :: .long (hpJ 0) :: .long (hpJ 0) :: .long (hpJ 0) :: .null :: .null :: .null :: .null :: [])) := by rw [e12, hp_ne (by decide)]; exact hp11_195
  have hD12 : ∀ j, 195 < j → j < 202 → E12 j = hpE z cy j (hp0 j) := fun j h1 h2 => by
    rcases Nat.lt_or_ge j 201 with h | h
    · rw [e12, hp_ne (by omega)]; exact hD11 j h1 h
    · obtain rfl : j = 201 := by omega
      rw [e12, hp_at, ea_201]
  refine n_putF (fs' := (.int (hpI 0) :: .ref (z + 196) :: .ref (z + 197) :: .ref (z + 198) :: .ref (z + 199) :: .int (hpI 0) :: .ref (z + 200) :: .int (hpI 0) :: .int (hpI 0) :: .int (hpI 0) :: .int (hpI 0) :: .int (hpI 0) :: .int (hpI 0) :: .int (hpI (-1)) :: .ref (z + 201) :: .null :: .int (hpI 0) :: .int (hpI 0) :: .int (hpI 0) :: .null :: .null :: .int (hpI 0) :: .int (hpI 0) :: .int (hpI 0) :: .int (hpI 0) :: .null :: .null :: .int (hpI 0) :: .int (hpI 0) :: .null :: .null :: .null :: .int (hpI 0) :: .int (hpI 0) :: .null :: .null :: .int (hpI 0) :: .int (hpI 0) :: .null :: .long (hpJ 0) :: .long (hpJ 0) :: .long (hpJ 0) :: .null :: .null :: .null :: .null :: [])) C O9 14 (by decide) hp12_195 (by decide) rfl hnm rfl wd_1270 rfl rfl (Nat.le_of_ble_eq_true rfl) rfl hP hS dX9_init_54 (fun H locs hP hS => ?_)
  obtain ⟨E13, e13⟩ : ∃ F, F = va_up E12 195 (.inr (9, (.int (hpI 0) :: .ref (z + 196) :: .ref (z + 197) :: .ref (z + 198) :: .ref (z + 199) :: .int (hpI 0) :: .ref (z + 200) :: .int (hpI 0) :: .int (hpI 0) :: .int (hpI 0) :: .int (hpI 0) :: .int (hpI 0) :: .int (hpI 0) :: .int (hpI (-1)) :: .ref (z + 201) :: .null :: .int (hpI 0) :: .int (hpI 0) :: .int (hpI 0) :: .null :: .null :: .int (hpI 0) :: .int (hpI 0) :: .int (hpI 0) :: .int (hpI 0) :: .null :: .null :: .int (hpI 0) :: .int (hpI 0) :: .null :: .null :: .null :: .int (hpI 0) :: .int (hpI 0) :: .null :: .null :: .int (hpI 0) :: .int (hpI 0) :: .null :: .long (hpJ 0) :: .long (hpJ 0) :: .long (hpJ 0) :: .null :: .null :: .null :: .null :: []))) := ⟨_, rfl⟩
  rw [← e13] at hP
  have hO13 : ∀ j, j < 195 → E13 j = E0 j := fun j h => by rw [e13]; exact (hp_ne (by omega)).trans (hO12 j h)
  have hp13_195 : E13 195 = .inr (9, (.int (hpI 0) :: .ref (z + 196) :: .ref (z + 197) :: .ref (z + 198) :: .ref (z + 199) :: .int (hpI 0) :: .ref (z + 200) :: .int (hpI 0) :: .int (hpI 0) :: .int (hpI 0) :: .int (hpI 0) :: .int (hpI 0) :: .int (hpI 0) :: .int (hpI (-1)) :: .ref (z + 201) :: .null :: .int (hpI 0) :: .int (hpI 0) :: .int (hpI 0) :: .null :: .null :: .int (hpI 0) :: .int (hpI 0) :: .int (hpI 0) :: .int (hpI 0) :: .null :: .null :: .int (hpI 0) :: .int (hpI 0) :: .null :: .null :: .null :: .int (hpI 0) :: .int (hpI 0) :: .null :: .null :: .int (hpI 0) :: .int (hpI 0) :: .null :: .long (hpJ 0) :: .long (hpJ 0) :: .long (hpJ 0) :: .null :: .null :: .null :: .null :: [])) := by rw [e13, hp_at]
  have hD13 : ∀ j, 195 < j → j < 202 → E13 j = hpE z cy j (hp0 j) := fun j h1 h2 => by
    rw [e13, hp_ne (by omega)]; exact hD12 j h1 (by omega)
  refine lv_aload_n C.1 C.2.1 dX9_init_57 rfl (lv_at hl 0 rfl) ?_
  refine lv_sipush (v := hpI 14721) C.1 C.2.1 dX9_init_58 (by decide) ?_
  refine n_size (n := 202) h0 rfl hS hP (fun hsz => ?_)
  refine n_newa (atype := .int) (ci := 11) (t0 := 1) (a0 := (14721, .inl (fun i => hpI (hp0 202 i)))) C wd_135 rfl rfl (fun U h => h) (az_202) rfl (by decide) (Nat.le_of_ble_eq_true rfl) hP hS hsz (Nat.le_of_ble_eq_true rfl) (Nat.le_of_ble_eq_true rfl) dX9_init_61 (fun H hP hS => ?_)
  obtain ⟨E14, e14⟩ : ∃ F, F = va_up E13 202 (.inl (cy 11, 14721, .inl (fun i => hpI (hp0 202 i)))) := ⟨_, rfl⟩
  rw [← e14] at hP
  have hO14 : ∀ j, j < 195 → E14 j = E0 j := fun j h => by rw [e14]; exact (hp_ne (by omega)).trans (hO13 j h)
  have hp14_195 : E14 195 = .inr (9, (.int (hpI 0) :: .ref (z + 196) :: .ref (z + 197) :: .ref (z + 198) :: .ref (z + 199) :: .int (hpI 0) :: .ref (z + 200) :: .int (hpI 0) :: .int (hpI 0) :: .int (hpI 0) :: .int (hpI 0) :: .int (hpI 0) :: .int (hpI 0) :: .int (hpI (-1)) :: .ref (z + 201) :: .null :: .int (hpI 0) :: .int (hpI 0) :: .int (hpI 0) :: .null :: .null :: .int (hpI 0) :: .int (hpI 0) :: .int (hpI 0) :: .int (hpI 0) :: .null :: .null :: .int (hpI 0) :: .int (hpI 0) :: .null :: .null :: .null :: .int (hpI 0) :: .int (hpI 0) :: .null :: .null :: .int (hpI 0) :: .int (hpI 0) :: .null :: .long (hpJ 0) :: .long (hpJ 0) :: .long (hpJ 0) :: .null :: .null :: .null :: .null :: [])) := by rw [e14, hp_ne (by decide)]; exact hp13_195
  have hD14 : ∀ j, 195 < j → j < 203 → E14 j = hpE z cy j (hp0 j) := fun j h1 h2 => by
    rcases Nat.lt_or_ge j 202 with h | h
    · rw [e14, hp_ne (by omega)]; exact hD13 j h1 h
    · obtain rfl : j = 202 := by omega
      rw [e14, hp_at, ea_202]
  refine n_putF (fs' := (.int (hpI 0) :: .ref (z + 196) :: .ref (z + 197) :: .ref (z + 198) :: .ref (z + 199) :: .int (hpI 0) :: .ref (z + 200) :: .int (hpI 0) :: .int (hpI 0) :: .int (hpI 0) :: .int (hpI 0) :: .int (hpI 0) :: .int (hpI 0) :: .int (hpI (-1)) :: .ref (z + 201) :: .ref (z + 202) :: .int (hpI 0) :: .int (hpI 0) :: .int (hpI 0) :: .null :: .null :: .int (hpI 0) :: .int (hpI 0) :: .int (hpI 0) :: .int (hpI 0) :: .null :: .null :: .int (hpI 0) :: .int (hpI 0) :: .null :: .null :: .null :: .int (hpI 0) :: .int (hpI 0) :: .null :: .null :: .int (hpI 0) :: .int (hpI 0) :: .null :: .long (hpJ 0) :: .long (hpJ 0) :: .long (hpJ 0) :: .null :: .null :: .null :: .null :: [])) C O9 15 (by decide) hp14_195 (by decide) rfl hnm rfl wd_1271 rfl rfl (Nat.le_of_ble_eq_true rfl) rfl hP hS dX9_init_63 (fun H locs hP hS => ?_)
  obtain ⟨E15, e15⟩ : ∃ F, F = va_up E14 195 (.inr (9, (.int (hpI 0) :: .ref (z + 196) :: .ref (z + 197) :: .ref (z + 198) :: .ref (z + 199) :: .int (hpI 0) :: .ref (z + 200) :: .int (hpI 0) :: .int (hpI 0) :: .int (hpI 0) :: .int (hpI 0) :: .int (hpI 0) :: .int (hpI 0) :: .int (hpI (-1)) :: .ref (z + 201) :: .ref (z + 202) :: .int (hpI 0) :: .int (hpI 0) :: .int (hpI 0) :: .null :: .null :: .int (hpI 0) :: .int (hpI 0) :: .int (hpI 0) :: .int (hpI 0) :: .null :: .null :: .int (hpI 0) :: .int (hpI 0) :: .null :: .null :: .null :: .int (hpI 0) :: .int (hpI 0) :: .null :: .null :: .int (hpI 0) :: .int (hpI 0) :: .null :: .long (hpJ 0) :: .long (hpJ 0) :: .long (hpJ 0) :: .null :: .null :: .null :: .null :: []))) := ⟨_, rfl⟩
  rw [← e15] at hP
  have hO15 : ∀ j, j < 195 → E15 j = E0 j := fun j h => by rw [e15]; exact (hp_ne (by omega)).trans (hO14 j h)
  have hp15_195 : E15 195 = .inr (9, (.int (hpI 0) :: .ref (z + 196) :: .ref (z + 197) :: .ref (z + 198) :: .ref (z + 199) :: .int (hpI 0) :: .ref (z + 200) :: .int (hpI 0) :: .int (hpI 0) :: .int (hpI 0) :: .int (hpI 0) :: .int (hpI 0) :: .int (hpI 0) :: .int (hpI (-1)) :: .ref (z + 201) :: .ref (z + 202) :: .int (hpI 0) :: .int (hpI 0) :: .int (hpI 0) :: .null :: .null :: .int (hpI 0) :: .int (hpI 0) :: .int (hpI 0) :: .int (hpI 0) :: .null :: .null :: .int (hpI 0) :: .int (hpI 0) :: .null :: .null :: .null :: .int (hpI 0) :: .int (hpI 0) :: .null :: .null :: .int (hpI 0) :: .int (hpI 0) :: .null :: .long (hpJ 0) :: .long (hpJ 0) :: .long (hpJ 0) :: .null :: .null :: .null :: .null :: [])) := by rw [e15, hp_at]
  have hD15 : ∀ j, 195 < j → j < 203 → E15 j = hpE z cy j (hp0 j) := fun j h1 h2 => by
    rw [e15, hp_ne (by omega)]; exact hD14 j h1 (by omega)
  refine lv_aload_n C.1 C.2.1 dX9_init_66 rfl (lv_at hl 0 rfl) ?_
  refine lv_bipush (v := hpI 8) C.1 C.2.1 dX9_init_67 (by decide) ?_
  refine n_size (n := 203) h0 rfl hS hP (fun hsz => ?_)
  refine n_newa (atype := .int) (ci := 11) (t0 := 1) (a0 := (8, .inl (fun i => hpI (hp0 203 i)))) C wd_135 rfl rfl (fun U h => h) (az_203) rfl (by decide) (Nat.le_of_ble_eq_true rfl) hP hS hsz (Nat.le_of_ble_eq_true rfl) (Nat.le_of_ble_eq_true rfl) dX9_init_69 (fun H hP hS => ?_)
  obtain ⟨E16, e16⟩ : ∃ F, F = va_up E15 203 (.inl (cy 11, 8, .inl (fun i => hpI (hp0 203 i)))) := ⟨_, rfl⟩
  rw [← e16] at hP
  have hO16 : ∀ j, j < 195 → E16 j = E0 j := fun j h => by rw [e16]; exact (hp_ne (by omega)).trans (hO15 j h)
  have hp16_195 : E16 195 = .inr (9, (.int (hpI 0) :: .ref (z + 196) :: .ref (z + 197) :: .ref (z + 198) :: .ref (z + 199) :: .int (hpI 0) :: .ref (z + 200) :: .int (hpI 0) :: .int (hpI 0) :: .int (hpI 0) :: .int (hpI 0) :: .int (hpI 0) :: .int (hpI 0) :: .int (hpI (-1)) :: .ref (z + 201) :: .ref (z + 202) :: .int (hpI 0) :: .int (hpI 0) :: .int (hpI 0) :: .null :: .null :: .int (hpI 0) :: .int (hpI 0) :: .int (hpI 0) :: .int (hpI 0) :: .null :: .null :: .int (hpI 0) :: .int (hpI 0) :: .null :: .null :: .null :: .int (hpI 0) :: .int (hpI 0) :: .null :: .null :: .int (hpI 0) :: .int (hpI 0) :: .null :: .long (hpJ 0) :: .long (hpJ 0) :: .long (hpJ 0) :: .null :: .null :: .null :: .null :: [])) := by rw [e16, hp_ne (by decide)]; exact hp15_195
  have hD16 : ∀ j, 195 < j → j < 204 → E16 j = hpE z cy j (hp0 j) := fun j h1 h2 => by
    rcases Nat.lt_or_ge j 203 with h | h
    · rw [e16, hp_ne (by omega)]; exact hD15 j h1 h
    · obtain rfl : j = 203 := by omega
      rw [e16, hp_at, ea_203]
  refine n_putF (fs' := (.int (hpI 0) :: .ref (z + 196) :: .ref (z + 197) :: .ref (z + 198) :: .ref (z + 199) :: .int (hpI 0) :: .ref (z + 200) :: .int (hpI 0) :: .int (hpI 0) :: .int (hpI 0) :: .int (hpI 0) :: .int (hpI 0) :: .int (hpI 0) :: .int (hpI (-1)) :: .ref (z + 201) :: .ref (z + 202) :: .int (hpI 0) :: .int (hpI 0) :: .int (hpI 0) :: .ref (z + 203) :: .null :: .int (hpI 0) :: .int (hpI 0) :: .int (hpI 0) :: .int (hpI 0) :: .null :: .null :: .int (hpI 0) :: .int (hpI 0) :: .null :: .null :: .null :: .int (hpI 0) :: .int (hpI 0) :: .null :: .null :: .int (hpI 0) :: .int (hpI 0) :: .null :: .long (hpJ 0) :: .long (hpJ 0) :: .long (hpJ 0) :: .null :: .null :: .null :: .null :: [])) C O9 19 (by decide) hp16_195 (by decide) rfl hnm rfl wd_1275 rfl rfl (Nat.le_of_ble_eq_true rfl) rfl hP hS dX9_init_71 (fun H locs hP hS => ?_)
  obtain ⟨E17, e17⟩ : ∃ F, F = va_up E16 195 (.inr (9, (.int (hpI 0) :: .ref (z + 196) :: .ref (z + 197) :: .ref (z + 198) :: .ref (z + 199) :: .int (hpI 0) :: .ref (z + 200) :: .int (hpI 0) :: .int (hpI 0) :: .int (hpI 0) :: .int (hpI 0) :: .int (hpI 0) :: .int (hpI 0) :: .int (hpI (-1)) :: .ref (z + 201) :: .ref (z + 202) :: .int (hpI 0) :: .int (hpI 0) :: .int (hpI 0) :: .ref (z + 203) :: .null :: .int (hpI 0) :: .int (hpI 0) :: .int (hpI 0) :: .int (hpI 0) :: .null :: .null :: .int (hpI 0) :: .int (hpI 0) :: .null :: .null :: .null :: .int (hpI 0) :: .int (hpI 0) :: .null :: .null :: .int (hpI 0) :: .int (hpI 0) :: .null :: .long (hpJ 0) :: .long (hpJ 0) :: .long (hpJ 0) :: .null :: .null :: .null :: .null :: []))) := ⟨_, rfl⟩
  rw [← e17] at hP
  have hO17 : ∀ j, j < 195 → E17 j = E0 j := fun j h => by rw [e17]; exact (hp_ne (by omega)).trans (hO16 j h)
  have hp17_195 : E17 195 = .inr (9, (.int (hpI 0) :: .ref (z + 196) :: .ref (z + 197) :: .ref (z + 198) :: .ref (z + 199) :: .int (hpI 0) :: .ref (z + 200) :: .int (hpI 0) :: .int (hpI 0) :: .int (hpI 0) :: .int (hpI 0) :: .int (hpI 0) :: .int (hpI 0) :: .int (hpI (-1)) :: .ref (z + 201) :: .ref (z + 202) :: .int (hpI 0) :: .int (hpI 0) :: .int (hpI 0) :: .ref (z + 203) :: .null :: .int (hpI 0) :: .int (hpI 0) :: .int (hpI 0) :: .int (hpI 0) :: .null :: .null :: .int (hpI 0) :: .int (hpI 0) :: .null :: .null :: .null :: .int (hpI 0) :: .int (hpI 0) :: .null :: .null :: .int (hpI 0) :: .int (hpI 0) :: .null :: .long (hpJ 0) :: .long (hpJ 0) :: .long (hpJ 0) :: .null :: .null :: .null :: .null :: [])) := by rw [e17, hp_at]
  have hD17 : ∀ j, 195 < j → j < 204 → E17 j = hpE z cy j (hp0 j) := fun j h1 h2 => by
    rw [e17, hp_ne (by omega)]; exact hD16 j h1 (by omega)
  refine lv_aload_n C.1 C.2.1 dX9_init_74 rfl (lv_at hl 0 rfl) ?_
  refine lv_bipush (v := hpI 6) C.1 C.2.1 dX9_init_75 (by decide) ?_
  refine n_size (n := 204) h0 rfl hS hP (fun hsz => ?_)
  refine n_newa (atype := .int) (ci := 11) (t0 := 1) (a0 := (6, .inl (fun i => hpI (hp0 204 i)))) C wd_135 rfl rfl (fun U h => h) (az_204) rfl (by decide) (Nat.le_of_ble_eq_true rfl) hP hS hsz (Nat.le_of_ble_eq_true rfl) (Nat.le_of_ble_eq_true rfl) dX9_init_77 (fun H hP hS => ?_)
  obtain ⟨E18, e18⟩ : ∃ F, F = va_up E17 204 (.inl (cy 11, 6, .inl (fun i => hpI (hp0 204 i)))) := ⟨_, rfl⟩
  rw [← e18] at hP
  have hO18 : ∀ j, j < 195 → E18 j = E0 j := fun j h => by rw [e18]; exact (hp_ne (by omega)).trans (hO17 j h)
  have hp18_195 : E18 195 = .inr (9, (.int (hpI 0) :: .ref (z + 196) :: .ref (z + 197) :: .ref (z + 198) :: .ref (z + 199) :: .int (hpI 0) :: .ref (z + 200) :: .int (hpI 0) :: .int (hpI 0) :: .int (hpI 0) :: .int (hpI 0) :: .int (hpI 0) :: .int (hpI 0) :: .int (hpI (-1)) :: .ref (z + 201) :: .ref (z + 202) :: .int (hpI 0) :: .int (hpI 0) :: .int (hpI 0) :: .ref (z + 203) :: .null :: .int (hpI 0) :: .int (hpI 0) :: .int (hpI 0) :: .int (hpI 0) :: .null :: .null :: .int (hpI 0) :: .int (hpI 0) :: .null :: .null :: .null :: .int (hpI 0) :: .int (hpI 0) :: .null :: .null :: .int (hpI 0) :: .int (hpI 0) :: .null :: .long (hpJ 0) :: .long (hpJ 0) :: .long (hpJ 0) :: .null :: .null :: .null :: .null :: [])) := by rw [e18, hp_ne (by decide)]; exact hp17_195
  have hD18 : ∀ j, 195 < j → j < 205 → E18 j = hpE z cy j (hp0 j) := fun j h1 h2 => by
    rcases Nat.lt_or_ge j 204 with h | h
    · rw [e18, hp_ne (by omega)]; exact hD17 j h1 h
    · obtain rfl : j = 204 := by omega
      rw [e18, hp_at, ea_204]
  refine n_putF (fs' := (.int (hpI 0) :: .ref (z + 196) :: .ref (z + 197) :: .ref (z + 198) :: .ref (z + 199) :: .int (hpI 0) :: .ref (z + 200) :: .int (hpI 0) :: .int (hpI 0) :: .int (hpI 0) :: .int (hpI 0) :: .int (hpI 0) :: .int (hpI 0) :: .int (hpI (-1)) :: .ref (z + 201) :: .ref (z + 202) :: .int (hpI 0) :: .int (hpI 0) :: .int (hpI 0) :: .ref (z + 203) :: .ref (z + 204) :: .int (hpI 0) :: .int (hpI 0) :: .int (hpI 0) :: .int (hpI 0) :: .null :: .null :: .int (hpI 0) :: .int (hpI 0) :: .null :: .null :: .null :: .int (hpI 0) :: .int (hpI 0) :: .null :: .null :: .int (hpI 0) :: .int (hpI 0) :: .null :: .long (hpJ 0) :: .long (hpJ 0) :: .long (hpJ 0) :: .null :: .null :: .null :: .null :: [])) C O9 20 (by decide) hp18_195 (by decide) rfl hnm rfl wd_1276 rfl rfl (Nat.le_of_ble_eq_true rfl) rfl hP hS dX9_init_79 (fun H locs hP hS => ?_)
  obtain ⟨E19, e19⟩ : ∃ F, F = va_up E18 195 (.inr (9, (.int (hpI 0) :: .ref (z + 196) :: .ref (z + 197) :: .ref (z + 198) :: .ref (z + 199) :: .int (hpI 0) :: .ref (z + 200) :: .int (hpI 0) :: .int (hpI 0) :: .int (hpI 0) :: .int (hpI 0) :: .int (hpI 0) :: .int (hpI 0) :: .int (hpI (-1)) :: .ref (z + 201) :: .ref (z + 202) :: .int (hpI 0) :: .int (hpI 0) :: .int (hpI 0) :: .ref (z + 203) :: .ref (z + 204) :: .int (hpI 0) :: .int (hpI 0) :: .int (hpI 0) :: .int (hpI 0) :: .null :: .null :: .int (hpI 0) :: .int (hpI 0) :: .null :: .null :: .null :: .int (hpI 0) :: .int (hpI 0) :: .null :: .null :: .int (hpI 0) :: .int (hpI 0) :: .null :: .long (hpJ 0) :: .long (hpJ 0) :: .long (hpJ 0) :: .null :: .null :: .null :: .null :: []))) := ⟨_, rfl⟩
  rw [← e19] at hP
  have hO19 : ∀ j, j < 195 → E19 j = E0 j := fun j h => by rw [e19]; exact (hp_ne (by omega)).trans (hO18 j h)
  have hp19_195 : E19 195 = .inr (9, (.int (hpI 0) :: .ref (z + 196) :: .ref (z + 197) :: .ref (z + 198) :: .ref (z + 199) :: .int (hpI 0) :: .ref (z + 200) :: .int (hpI 0) :: .int (hpI 0) :: .int (hpI 0) :: .int (hpI 0) :: .int (hpI 0) :: .int (hpI 0) :: .int (hpI (-1)) :: .ref (z + 201) :: .ref (z + 202) :: .int (hpI 0) :: .int (hpI 0) :: .int (hpI 0) :: .ref (z + 203) :: .ref (z + 204) :: .int (hpI 0) :: .int (hpI 0) :: .int (hpI 0) :: .int (hpI 0) :: .null :: .null :: .int (hpI 0) :: .int (hpI 0) :: .null :: .null :: .null :: .int (hpI 0) :: .int (hpI 0) :: .null :: .null :: .int (hpI 0) :: .int (hpI 0) :: .null :: .long (hpJ 0) :: .long (hpJ 0) :: .long (hpJ 0) :: .null :: .null :: .null :: .null :: [])) := by rw [e19, hp_at]
  have hD19 : ∀ j, 195 < j → j < 205 → E19 j = hpE z cy j (hp0 j) := fun j h1 h2 => by
    rw [e19, hp_ne (by omega)]; exact hD18 j h1 (by omega)
  refine lv_aload_n C.1 C.2.1 dX9_init_82 rfl (lv_at hl 0 rfl) ?_
  refine lv_bipush (v := hpI 16) C.1 C.2.1 dX9_init_83 (by decide) ?_
  refine n_size (n := 205) h0 rfl hS hP (fun hsz => ?_)
  refine n_newa (atype := .int) (ci := 11) (t0 := 1) (a0 := (16, .inl (fun i => hpI (hp0 205 i)))) C wd_135 rfl rfl (fun U h => h) (az_205) rfl (by decide) (Nat.le_of_ble_eq_true rfl) hP hS hsz (Nat.le_of_ble_eq_true rfl) (Nat.le_of_ble_eq_true rfl) dX9_init_85 (fun H hP hS => ?_)
  obtain ⟨E20, e20⟩ : ∃ F, F = va_up E19 205 (.inl (cy 11, 16, .inl (fun i => hpI (hp0 205 i)))) := ⟨_, rfl⟩
  rw [← e20] at hP
  have hO20 : ∀ j, j < 195 → E20 j = E0 j := fun j h => by rw [e20]; exact (hp_ne (by omega)).trans (hO19 j h)
  have hp20_195 : E20 195 = .inr (9, (.int (hpI 0) :: .ref (z + 196) :: .ref (z + 197) :: .ref (z + 198) :: .ref (z + 199) :: .int (hpI 0) :: .ref (z + 200) :: .int (hpI 0) :: .int (hpI 0) :: .int (hpI 0) :: .int (hpI 0) :: .int (hpI 0) :: .int (hpI 0) :: .int (hpI (-1)) :: .ref (z + 201) :: .ref (z + 202) :: .int (hpI 0) :: .int (hpI 0) :: .int (hpI 0) :: .ref (z + 203) :: .ref (z + 204) :: .int (hpI 0) :: .int (hpI 0) :: .int (hpI 0) :: .int (hpI 0) :: .null :: .null :: .int (hpI 0) :: .int (hpI 0) :: .null :: .null :: .null :: .int (hpI 0) :: .int (hpI 0) :: .null :: .null :: .int (hpI 0) :: .int (hpI 0) :: .null :: .long (hpJ 0) :: .long (hpJ 0) :: .long (hpJ 0) :: .null :: .null :: .null :: .null :: [])) := by rw [e20, hp_ne (by decide)]; exact hp19_195
  have hD20 : ∀ j, 195 < j → j < 206 → E20 j = hpE z cy j (hp0 j) := fun j h1 h2 => by
    rcases Nat.lt_or_ge j 205 with h | h
    · rw [e20, hp_ne (by omega)]; exact hD19 j h1 h
    · obtain rfl : j = 205 := by omega
      rw [e20, hp_at, ea_205]
  refine n_putF (fs' := (.int (hpI 0) :: .ref (z + 196) :: .ref (z + 197) :: .ref (z + 198) :: .ref (z + 199) :: .int (hpI 0) :: .ref (z + 200) :: .int (hpI 0) :: .int (hpI 0) :: .int (hpI 0) :: .int (hpI 0) :: .int (hpI 0) :: .int (hpI 0) :: .int (hpI (-1)) :: .ref (z + 201) :: .ref (z + 202) :: .int (hpI 0) :: .int (hpI 0) :: .int (hpI 0) :: .ref (z + 203) :: .ref (z + 204) :: .int (hpI 0) :: .int (hpI 0) :: .int (hpI 0) :: .int (hpI 0) :: .ref (z + 205) :: .null :: .int (hpI 0) :: .int (hpI 0) :: .null :: .null :: .null :: .int (hpI 0) :: .int (hpI 0) :: .null :: .null :: .int (hpI 0) :: .int (hpI 0) :: .null :: .long (hpJ 0) :: .long (hpJ 0) :: .long (hpJ 0) :: .null :: .null :: .null :: .null :: [])) C O9 25 (by decide) hp20_195 (by decide) rfl hnm rfl wd_1281 rfl rfl (Nat.le_of_ble_eq_true rfl) rfl hP hS dX9_init_87 (fun H locs hP hS => ?_)
  obtain ⟨E21, e21⟩ : ∃ F, F = va_up E20 195 (.inr (9, (.int (hpI 0) :: .ref (z + 196) :: .ref (z + 197) :: .ref (z + 198) :: .ref (z + 199) :: .int (hpI 0) :: .ref (z + 200) :: .int (hpI 0) :: .int (hpI 0) :: .int (hpI 0) :: .int (hpI 0) :: .int (hpI 0) :: .int (hpI 0) :: .int (hpI (-1)) :: .ref (z + 201) :: .ref (z + 202) :: .int (hpI 0) :: .int (hpI 0) :: .int (hpI 0) :: .ref (z + 203) :: .ref (z + 204) :: .int (hpI 0) :: .int (hpI 0) :: .int (hpI 0) :: .int (hpI 0) :: .ref (z + 205) :: .null :: .int (hpI 0) :: .int (hpI 0) :: .null :: .null :: .null :: .int (hpI 0) :: .int (hpI 0) :: .null :: .null :: .int (hpI 0) :: .int (hpI 0) :: .null :: .long (hpJ 0) :: .long (hpJ 0) :: .long (hpJ 0) :: .null :: .null :: .null :: .null :: []))) := ⟨_, rfl⟩
  rw [← e21] at hP
  have hO21 : ∀ j, j < 195 → E21 j = E0 j := fun j h => by rw [e21]; exact (hp_ne (by omega)).trans (hO20 j h)
  have hp21_195 : E21 195 = .inr (9, (.int (hpI 0) :: .ref (z + 196) :: .ref (z + 197) :: .ref (z + 198) :: .ref (z + 199) :: .int (hpI 0) :: .ref (z + 200) :: .int (hpI 0) :: .int (hpI 0) :: .int (hpI 0) :: .int (hpI 0) :: .int (hpI 0) :: .int (hpI 0) :: .int (hpI (-1)) :: .ref (z + 201) :: .ref (z + 202) :: .int (hpI 0) :: .int (hpI 0) :: .int (hpI 0) :: .ref (z + 203) :: .ref (z + 204) :: .int (hpI 0) :: .int (hpI 0) :: .int (hpI 0) :: .int (hpI 0) :: .ref (z + 205) :: .null :: .int (hpI 0) :: .int (hpI 0) :: .null :: .null :: .null :: .int (hpI 0) :: .int (hpI 0) :: .null :: .null :: .int (hpI 0) :: .int (hpI 0) :: .null :: .long (hpJ 0) :: .long (hpJ 0) :: .long (hpJ 0) :: .null :: .null :: .null :: .null :: [])) := by rw [e21, hp_at]
  have hD21 : ∀ j, 195 < j → j < 206 → E21 j = hpE z cy j (hp0 j) := fun j h1 h2 => by
    rw [e21, hp_ne (by omega)]; exact hD20 j h1 (by omega)
  refine lv_aload_n C.1 C.2.1 dX9_init_90 rfl (lv_at hl 0 rfl) ?_
  refine lv_bipush (v := hpI 16) C.1 C.2.1 dX9_init_91 (by decide) ?_
  refine n_size (n := 206) h0 rfl hS hP (fun hsz => ?_)
  refine n_newa (atype := .int) (ci := 11) (t0 := 1) (a0 := (16, .inl (fun i => hpI (hp0 206 i)))) C wd_135 rfl rfl (fun U h => h) (az_206) rfl (by decide) (Nat.le_of_ble_eq_true rfl) hP hS hsz (Nat.le_of_ble_eq_true rfl) (Nat.le_of_ble_eq_true rfl) dX9_init_93 (fun H hP hS => ?_)
  obtain ⟨E22, e22⟩ : ∃ F, F = va_up E21 206 (.inl (cy 11, 16, .inl (fun i => hpI (hp0 206 i)))) := ⟨_, rfl⟩
  rw [← e22] at hP
  have hO22 : ∀ j, j < 195 → E22 j = E0 j := fun j h => by rw [e22]; exact (hp_ne (by omega)).trans (hO21 j h)
  have hp22_195 : E22 195 = .inr (9, (.int (hpI 0) :: .ref (z + 196) :: .ref (z + 197) :: .ref (z + 198) :: .ref (z + 199) :: .int (hpI 0) :: .ref (z + 200) :: .int (hpI 0) :: .int (hpI 0) :: .int (hpI 0) :: .int (hpI 0) :: .int (hpI 0) :: .int (hpI 0) :: .int (hpI (-1)) :: .ref (z + 201) :: .ref (z + 202) :: .int (hpI 0) :: .int (hpI 0) :: .int (hpI 0) :: .ref (z + 203) :: .ref (z + 204) :: .int (hpI 0) :: .int (hpI 0) :: .int (hpI 0) :: .int (hpI 0) :: .ref (z + 205) :: .null :: .int (hpI 0) :: .int (hpI 0) :: .null :: .null :: .null :: .int (hpI 0) :: .int (hpI 0) :: .null :: .null :: .int (hpI 0) :: .int (hpI 0) :: .null :: .long (hpJ 0) :: .long (hpJ 0) :: .long (hpJ 0) :: .null :: .null :: .null :: .null :: [])) := by rw [e22, hp_ne (by decide)]; exact hp21_195
  have hD22 : ∀ j, 195 < j → j < 207 → E22 j = hpE z cy j (hp0 j) := fun j h1 h2 => by
    rcases Nat.lt_or_ge j 206 with h | h
    · rw [e22, hp_ne (by omega)]; exact hD21 j h1 h
    · obtain rfl : j = 206 := by omega
      rw [e22, hp_at, ea_206]
  refine n_putF (fs' := (.int (hpI 0) :: .ref (z + 196) :: .ref (z + 197) :: .ref (z + 198) :: .ref (z + 199) :: .int (hpI 0) :: .ref (z + 200) :: .int (hpI 0) :: .int (hpI 0) :: .int (hpI 0) :: .int (hpI 0) :: .int (hpI 0) :: .int (hpI 0) :: .int (hpI (-1)) :: .ref (z + 201) :: .ref (z + 202) :: .int (hpI 0) :: .int (hpI 0) :: .int (hpI 0) :: .ref (z + 203) :: .ref (z + 204) :: .int (hpI 0) :: .int (hpI 0) :: .int (hpI 0) :: .int (hpI 0) :: .ref (z + 205) :: .ref (z + 206) :: .int (hpI 0) :: .int (hpI 0) :: .null :: .null :: .null :: .int (hpI 0) :: .int (hpI 0) :: .null :: .null :: .int (hpI 0) :: .int (hpI 0) :: .null :: .long (hpJ 0) :: .long (hpJ 0) :: .long (hpJ 0) :: .null :: .null :: .null :: .null :: [])) C O9 26 (by decide) hp22_195 (by decide) rfl hnm rfl wd_1282 rfl rfl (Nat.le_of_ble_eq_true rfl) rfl hP hS dX9_init_95 (fun H locs hP hS => ?_)
  obtain ⟨E23, e23⟩ : ∃ F, F = va_up E22 195 (.inr (9, (.int (hpI 0) :: .ref (z + 196) :: .ref (z + 197) :: .ref (z + 198) :: .ref (z + 199) :: .int (hpI 0) :: .ref (z + 200) :: .int (hpI 0) :: .int (hpI 0) :: .int (hpI 0) :: .int (hpI 0) :: .int (hpI 0) :: .int (hpI 0) :: .int (hpI (-1)) :: .ref (z + 201) :: .ref (z + 202) :: .int (hpI 0) :: .int (hpI 0) :: .int (hpI 0) :: .ref (z + 203) :: .ref (z + 204) :: .int (hpI 0) :: .int (hpI 0) :: .int (hpI 0) :: .int (hpI 0) :: .ref (z + 205) :: .ref (z + 206) :: .int (hpI 0) :: .int (hpI 0) :: .null :: .null :: .null :: .int (hpI 0) :: .int (hpI 0) :: .null :: .null :: .int (hpI 0) :: .int (hpI 0) :: .null :: .long (hpJ 0) :: .long (hpJ 0) :: .long (hpJ 0) :: .null :: .null :: .null :: .null :: []))) := ⟨_, rfl⟩
  rw [← e23] at hP
  have hO23 : ∀ j, j < 195 → E23 j = E0 j := fun j h => by rw [e23]; exact (hp_ne (by omega)).trans (hO22 j h)
  have hp23_195 : E23 195 = .inr (9, (.int (hpI 0) :: .ref (z + 196) :: .ref (z + 197) :: .ref (z + 198) :: .ref (z + 199) :: .int (hpI 0) :: .ref (z + 200) :: .int (hpI 0) :: .int (hpI 0) :: .int (hpI 0) :: .int (hpI 0) :: .int (hpI 0) :: .int (hpI 0) :: .int (hpI (-1)) :: .ref (z + 201) :: .ref (z + 202) :: .int (hpI 0) :: .int (hpI 0) :: .int (hpI 0) :: .ref (z + 203) :: .ref (z + 204) :: .int (hpI 0) :: .int (hpI 0) :: .int (hpI 0) :: .int (hpI 0) :: .ref (z + 205) :: .ref (z + 206) :: .int (hpI 0) :: .int (hpI 0) :: .null :: .null :: .null :: .int (hpI 0) :: .int (hpI 0) :: .null :: .null :: .int (hpI 0) :: .int (hpI 0) :: .null :: .long (hpJ 0) :: .long (hpJ 0) :: .long (hpJ 0) :: .null :: .null :: .null :: .null :: [])) := by rw [e23, hp_at]
  have hD23 : ∀ j, 195 < j → j < 207 → E23 j = hpE z cy j (hp0 j) := fun j h1 h2 => by
    rw [e23, hp_ne (by omega)]; exact hD22 j h1 (by omega)
  refine lv_aload_n C.1 C.2.1 dX9_init_98 rfl (lv_at hl 0 rfl) ?_
  refine lv_sipush (v := hpI 2025) C.1 C.2.1 dX9_init_99 (by decide) ?_
  refine n_size (n := 207) h0 rfl hS hP (fun hsz => ?_)
  refine n_newa (atype := .int) (ci := 11) (t0 := 1) (a0 := (2025, .inl (fun i => hpI (hp0 207 i)))) C wd_135 rfl rfl (fun U h => h) (az_207) rfl (by decide) (Nat.le_of_ble_eq_true rfl) hP hS hsz (Nat.le_of_ble_eq_true rfl) (Nat.le_of_ble_eq_true rfl) dX9_init_102 (fun H hP hS => ?_)
  obtain ⟨E24, e24⟩ : ∃ F, F = va_up E23 207 (.inl (cy 11, 2025, .inl (fun i => hpI (hp0 207 i)))) := ⟨_, rfl⟩
  rw [← e24] at hP
  have hO24 : ∀ j, j < 195 → E24 j = E0 j := fun j h => by rw [e24]; exact (hp_ne (by omega)).trans (hO23 j h)
  have hp24_195 : E24 195 = .inr (9, (.int (hpI 0) :: .ref (z + 196) :: .ref (z + 197) :: .ref (z + 198) :: .ref (z + 199) :: .int (hpI 0) :: .ref (z + 200) :: .int (hpI 0) :: .int (hpI 0) :: .int (hpI 0) :: .int (hpI 0) :: .int (hpI 0) :: .int (hpI 0) :: .int (hpI (-1)) :: .ref (z + 201) :: .ref (z + 202) :: .int (hpI 0) :: .int (hpI 0) :: .int (hpI 0) :: .ref (z + 203) :: .ref (z + 204) :: .int (hpI 0) :: .int (hpI 0) :: .int (hpI 0) :: .int (hpI 0) :: .ref (z + 205) :: .ref (z + 206) :: .int (hpI 0) :: .int (hpI 0) :: .null :: .null :: .null :: .int (hpI 0) :: .int (hpI 0) :: .null :: .null :: .int (hpI 0) :: .int (hpI 0) :: .null :: .long (hpJ 0) :: .long (hpJ 0) :: .long (hpJ 0) :: .null :: .null :: .null :: .null :: [])) := by rw [e24, hp_ne (by decide)]; exact hp23_195
  have hD24 : ∀ j, 195 < j → j < 208 → E24 j = hpE z cy j (hp0 j) := fun j h1 h2 => by
    rcases Nat.lt_or_ge j 207 with h | h
    · rw [e24, hp_ne (by omega)]; exact hD23 j h1 h
    · obtain rfl : j = 207 := by omega
      rw [e24, hp_at, ea_207]
  refine n_putF (fs' := (.int (hpI 0) :: .ref (z + 196) :: .ref (z + 197) :: .ref (z + 198) :: .ref (z + 199) :: .int (hpI 0) :: .ref (z + 200) :: .int (hpI 0) :: .int (hpI 0) :: .int (hpI 0) :: .int (hpI 0) :: .int (hpI 0) :: .int (hpI 0) :: .int (hpI (-1)) :: .ref (z + 201) :: .ref (z + 202) :: .int (hpI 0) :: .int (hpI 0) :: .int (hpI 0) :: .ref (z + 203) :: .ref (z + 204) :: .int (hpI 0) :: .int (hpI 0) :: .int (hpI 0) :: .int (hpI 0) :: .ref (z + 205) :: .ref (z + 206) :: .int (hpI 0) :: .int (hpI 0) :: .ref (z + 207) :: .null :: .null :: .int (hpI 0) :: .int (hpI 0) :: .null :: .null :: .int (hpI 0) :: .int (hpI 0) :: .null :: .long (hpJ 0) :: .long (hpJ 0) :: .long (hpJ 0) :: .null :: .null :: .null :: .null :: [])) C O9 29 (by decide) hp24_195 (by decide) rfl hnm rfl wd_1285 rfl rfl (Nat.le_of_ble_eq_true rfl) rfl hP hS dX9_init_104 (fun H locs hP hS => ?_)
  obtain ⟨E25, e25⟩ : ∃ F, F = va_up E24 195 (.inr (9, (.int (hpI 0) :: .ref (z + 196) :: .ref (z + 197) :: .ref (z + 198) :: .ref (z + 199) :: .int (hpI 0) :: .ref (z + 200) :: .int (hpI 0) :: .int (hpI 0) :: .int (hpI 0) :: .int (hpI 0) :: .int (hpI 0) :: .int (hpI 0) :: .int (hpI (-1)) :: .ref (z + 201) :: .ref (z + 202) :: .int (hpI 0) :: .int (hpI 0) :: .int (hpI 0) :: .ref (z + 203) :: .ref (z + 204) :: .int (hpI 0) :: .int (hpI 0) :: .int (hpI 0) :: .int (hpI 0) :: .ref (z + 205) :: .ref (z + 206) :: .int (hpI 0) :: .int (hpI 0) :: .ref (z + 207) :: .null :: .null :: .int (hpI 0) :: .int (hpI 0) :: .null :: .null :: .int (hpI 0) :: .int (hpI 0) :: .null :: .long (hpJ 0) :: .long (hpJ 0) :: .long (hpJ 0) :: .null :: .null :: .null :: .null :: []))) := ⟨_, rfl⟩
  rw [← e25] at hP
  have hO25 : ∀ j, j < 195 → E25 j = E0 j := fun j h => by rw [e25]; exact (hp_ne (by omega)).trans (hO24 j h)
  have hp25_195 : E25 195 = .inr (9, (.int (hpI 0) :: .ref (z + 196) :: .ref (z + 197) :: .ref (z + 198) :: .ref (z + 199) :: .int (hpI 0) :: .ref (z + 200) :: .int (hpI 0) :: .int (hpI 0) :: .int (hpI 0) :: .int (hpI 0) :: .int (hpI 0) :: .int (hpI 0) :: .int (hpI (-1)) :: .ref (z + 201) :: .ref (z + 202) :: .int (hpI 0) :: .int (hpI 0) :: .int (hpI 0) :: .ref (z + 203) :: .ref (z + 204) :: .int (hpI 0) :: .int (hpI 0) :: .int (hpI 0) :: .int (hpI 0) :: .ref (z + 205) :: .ref (z + 206) :: .int (hpI 0) :: .int (hpI 0) :: .ref (z + 207) :: .null :: .null :: .int (hpI 0) :: .int (hpI 0) :: .null :: .null :: .int (hpI 0) :: .int (hpI 0) :: .null :: .long (hpJ 0) :: .long (hpJ 0) :: .long (hpJ 0) :: .null :: .null :: .null :: .null :: [])) := by rw [e25, hp_at]
  have hD25 : ∀ j, 195 < j → j < 208 → E25 j = hpE z cy j (hp0 j) := fun j h1 h2 => by
    rw [e25, hp_ne (by omega)]; exact hD24 j h1 (by omega)
  refine lv_aload_n C.1 C.2.1 dX9_init_107 rfl (lv_at hl 0 rfl) ?_
  refine lv_sipush (v := hpI 135) C.1 C.2.1 dX9_init_108 (by decide) ?_
  refine n_size (n := 208) h0 rfl hS hP (fun hsz => ?_)
  refine n_newa (atype := .int) (ci := 11) (t0 := 1) (a0 := (135, .inl (fun i => hpI (hp0 208 i)))) C wd_135 rfl rfl (fun U h => h) (az_208) rfl (by decide) (Nat.le_of_ble_eq_true rfl) hP hS hsz (Nat.le_of_ble_eq_true rfl) (Nat.le_of_ble_eq_true rfl) dX9_init_111 (fun H hP hS => ?_)
  obtain ⟨E26, e26⟩ : ∃ F, F = va_up E25 208 (.inl (cy 11, 135, .inl (fun i => hpI (hp0 208 i)))) := ⟨_, rfl⟩
  rw [← e26] at hP
  have hO26 : ∀ j, j < 195 → E26 j = E0 j := fun j h => by rw [e26]; exact (hp_ne (by omega)).trans (hO25 j h)
  have hp26_195 : E26 195 = .inr (9, (.int (hpI 0) :: .ref (z + 196) :: .ref (z + 197) :: .ref (z + 198) :: .ref (z + 199) :: .int (hpI 0) :: .ref (z + 200) :: .int (hpI 0) :: .int (hpI 0) :: .int (hpI 0) :: .int (hpI 0) :: .int (hpI 0) :: .int (hpI 0) :: .int (hpI (-1)) :: .ref (z + 201) :: .ref (z + 202) :: .int (hpI 0) :: .int (hpI 0) :: .int (hpI 0) :: .ref (z + 203) :: .ref (z + 204) :: .int (hpI 0) :: .int (hpI 0) :: .int (hpI 0) :: .int (hpI 0) :: .ref (z + 205) :: .ref (z + 206) :: .int (hpI 0) :: .int (hpI 0) :: .ref (z + 207) :: .null :: .null :: .int (hpI 0) :: .int (hpI 0) :: .null :: .null :: .int (hpI 0) :: .int (hpI 0) :: .null :: .long (hpJ 0) :: .long (hpJ 0) :: .long (hpJ 0) :: .null :: .null :: .null :: .null :: [])) := by rw [e26, hp_ne (by decide)]; exact hp25_195
  have hD26 : ∀ j, 195 < j → j < 209 → E26 j = hpE z cy j (hp0 j) := fun j h1 h2 => by
    rcases Nat.lt_or_ge j 208 with h | h
    · rw [e26, hp_ne (by omega)]; exact hD25 j h1 h
    · obtain rfl : j = 208 := by omega
      rw [e26, hp_at, ea_208]
  refine n_putF (fs' := (.int (hpI 0) :: .ref (z + 196) :: .ref (z + 197) :: .ref (z + 198) :: .ref (z + 199) :: .int (hpI 0) :: .ref (z + 200) :: .int (hpI 0) :: .int (hpI 0) :: .int (hpI 0) :: .int (hpI 0) :: .int (hpI 0) :: .int (hpI 0) :: .int (hpI (-1)) :: .ref (z + 201) :: .ref (z + 202) :: .int (hpI 0) :: .int (hpI 0) :: .int (hpI 0) :: .ref (z + 203) :: .ref (z + 204) :: .int (hpI 0) :: .int (hpI 0) :: .int (hpI 0) :: .int (hpI 0) :: .ref (z + 205) :: .ref (z + 206) :: .int (hpI 0) :: .int (hpI 0) :: .ref (z + 207) :: .ref (z + 208) :: .null :: .int (hpI 0) :: .int (hpI 0) :: .null :: .null :: .int (hpI 0) :: .int (hpI 0) :: .null :: .long (hpJ 0) :: .long (hpJ 0) :: .long (hpJ 0) :: .null :: .null :: .null :: .null :: [])) C O9 30 (by decide) hp26_195 (by decide) rfl hnm rfl wd_1286 rfl rfl (Nat.le_of_ble_eq_true rfl) rfl hP hS dX9_init_113 (fun H locs hP hS => ?_)
  obtain ⟨E27, e27⟩ : ∃ F, F = va_up E26 195 (.inr (9, (.int (hpI 0) :: .ref (z + 196) :: .ref (z + 197) :: .ref (z + 198) :: .ref (z + 199) :: .int (hpI 0) :: .ref (z + 200) :: .int (hpI 0) :: .int (hpI 0) :: .int (hpI 0) :: .int (hpI 0) :: .int (hpI 0) :: .int (hpI 0) :: .int (hpI (-1)) :: .ref (z + 201) :: .ref (z + 202) :: .int (hpI 0) :: .int (hpI 0) :: .int (hpI 0) :: .ref (z + 203) :: .ref (z + 204) :: .int (hpI 0) :: .int (hpI 0) :: .int (hpI 0) :: .int (hpI 0) :: .ref (z + 205) :: .ref (z + 206) :: .int (hpI 0) :: .int (hpI 0) :: .ref (z + 207) :: .ref (z + 208) :: .null :: .int (hpI 0) :: .int (hpI 0) :: .null :: .null :: .int (hpI 0) :: .int (hpI 0) :: .null :: .long (hpJ 0) :: .long (hpJ 0) :: .long (hpJ 0) :: .null :: .null :: .null :: .null :: []))) := ⟨_, rfl⟩
  rw [← e27] at hP
  have hO27 : ∀ j, j < 195 → E27 j = E0 j := fun j h => by rw [e27]; exact (hp_ne (by omega)).trans (hO26 j h)
  have hp27_195 : E27 195 = .inr (9, (.int (hpI 0) :: .ref (z + 196) :: .ref (z + 197) :: .ref (z + 198) :: .ref (z + 199) :: .int (hpI 0) :: .ref (z + 200) :: .int (hpI 0) :: .int (hpI 0) :: .int (hpI 0) :: .int (hpI 0) :: .int (hpI 0) :: .int (hpI 0) :: .int (hpI (-1)) :: .ref (z + 201) :: .ref (z + 202) :: .int (hpI 0) :: .int (hpI 0) :: .int (hpI 0) :: .ref (z + 203) :: .ref (z + 204) :: .int (hpI 0) :: .int (hpI 0) :: .int (hpI 0) :: .int (hpI 0) :: .ref (z + 205) :: .ref (z + 206) :: .int (hpI 0) :: .int (hpI 0) :: .ref (z + 207) :: .ref (z + 208) :: .null :: .int (hpI 0) :: .int (hpI 0) :: .null :: .null :: .int (hpI 0) :: .int (hpI 0) :: .null :: .long (hpJ 0) :: .long (hpJ 0) :: .long (hpJ 0) :: .null :: .null :: .null :: .null :: [])) := by rw [e27, hp_at]
  have hD27 : ∀ j, 195 < j → j < 209 → E27 j = hpE z cy j (hp0 j) := fun j h1 h2 => by
    rw [e27, hp_ne (by omega)]; exact hD26 j h1 (by omega)
  refine lv_aload_n C.1 C.2.1 dX9_init_116 rfl (lv_at hl 0 rfl) ?_
  refine lv_sipush (v := hpI 135) C.1 C.2.1 dX9_init_117 (by decide) ?_
  refine n_size (n := 209) h0 rfl hS hP (fun hsz => ?_)
  refine n_newa (atype := .int) (ci := 11) (t0 := 1) (a0 := (135, .inl (fun i => hpI (hp0 209 i)))) C wd_135 rfl rfl (fun U h => h) (az_209) rfl (by decide) (Nat.le_of_ble_eq_true rfl) hP hS hsz (Nat.le_of_ble_eq_true rfl) (Nat.le_of_ble_eq_true rfl) dX9_init_120 (fun H hP hS => ?_)
  obtain ⟨E28, e28⟩ : ∃ F, F = va_up E27 209 (.inl (cy 11, 135, .inl (fun i => hpI (hp0 209 i)))) := ⟨_, rfl⟩
  rw [← e28] at hP
  have hO28 : ∀ j, j < 195 → E28 j = E0 j := fun j h => by rw [e28]; exact (hp_ne (by omega)).trans (hO27 j h)
  have hp28_195 : E28 195 = .inr (9, (.int (hpI 0) :: .ref (z + 196) :: .ref (z + 197) :: .ref (z + 198) :: .ref (z + 199) :: .int (hpI 0) :: .ref (z + 200) :: .int (hpI 0) :: .int (hpI 0) :: .int (hpI 0) :: .int (hpI 0) :: .int (hpI 0) :: .int (hpI 0) :: .int (hpI (-1)) :: .ref (z + 201) :: .ref (z + 202) :: .int (hpI 0) :: .int (hpI 0) :: .int (hpI 0) :: .ref (z + 203) :: .ref (z + 204) :: .int (hpI 0) :: .int (hpI 0) :: .int (hpI 0) :: .int (hpI 0) :: .ref (z + 205) :: .ref (z + 206) :: .int (hpI 0) :: .int (hpI 0) :: .ref (z + 207) :: .ref (z + 208) :: .null :: .int (hpI 0) :: .int (hpI 0) :: .null :: .null :: .int (hpI 0) :: .int (hpI 0) :: .null :: .long (hpJ 0) :: .long (hpJ 0) :: .long (hpJ 0) :: .null :: .null :: .null :: .null :: [])) := by rw [e28, hp_ne (by decide)]; exact hp27_195
  have hD28 : ∀ j, 195 < j → j < 210 → E28 j = hpE z cy j (hp0 j) := fun j h1 h2 => by
    rcases Nat.lt_or_ge j 209 with h | h
    · rw [e28, hp_ne (by omega)]; exact hD27 j h1 h
    · obtain rfl : j = 209 := by omega
      rw [e28, hp_at, ea_209]
  refine n_putF (fs' := (.int (hpI 0) :: .ref (z + 196) :: .ref (z + 197) :: .ref (z + 198) :: .ref (z + 199) :: .int (hpI 0) :: .ref (z + 200) :: .int (hpI 0) :: .int (hpI 0) :: .int (hpI 0) :: .int (hpI 0) :: .int (hpI 0) :: .int (hpI 0) :: .int (hpI (-1)) :: .ref (z + 201) :: .ref (z + 202) :: .int (hpI 0) :: .int (hpI 0) :: .int (hpI 0) :: .ref (z + 203) :: .ref (z + 204) :: .int (hpI 0) :: .int (hpI 0) :: .int (hpI 0) :: .int (hpI 0) :: .ref (z + 205) :: .ref (z + 206) :: .int (hpI 0) :: .int (hpI 0) :: .ref (z + 207) :: .ref (z + 208) :: .ref (z + 209) :: .int (hpI 0) :: .int (hpI 0) :: .null :: .null :: .int (hpI 0) :: .int (hpI 0) :: .null :: .long (hpJ 0) :: .long (hpJ 0) :: .long (hpJ 0) :: .null :: .null :: .null :: .null :: [])) C O9 31 (by decide) hp28_195 (by decide) rfl hnm rfl wd_1287 rfl rfl (Nat.le_of_ble_eq_true rfl) rfl hP hS dX9_init_122 (fun H locs hP hS => ?_)
  obtain ⟨E29, e29⟩ : ∃ F, F = va_up E28 195 (.inr (9, (.int (hpI 0) :: .ref (z + 196) :: .ref (z + 197) :: .ref (z + 198) :: .ref (z + 199) :: .int (hpI 0) :: .ref (z + 200) :: .int (hpI 0) :: .int (hpI 0) :: .int (hpI 0) :: .int (hpI 0) :: .int (hpI 0) :: .int (hpI 0) :: .int (hpI (-1)) :: .ref (z + 201) :: .ref (z + 202) :: .int (hpI 0) :: .int (hpI 0) :: .int (hpI 0) :: .ref (z + 203) :: .ref (z + 204) :: .int (hpI 0) :: .int (hpI 0) :: .int (hpI 0) :: .int (hpI 0) :: .ref (z + 205) :: .ref (z + 206) :: .int (hpI 0) :: .int (hpI 0) :: .ref (z + 207) :: .ref (z + 208) :: .ref (z + 209) :: .int (hpI 0) :: .int (hpI 0) :: .null :: .null :: .int (hpI 0) :: .int (hpI 0) :: .null :: .long (hpJ 0) :: .long (hpJ 0) :: .long (hpJ 0) :: .null :: .null :: .null :: .null :: []))) := ⟨_, rfl⟩
  rw [← e29] at hP
  have hO29 : ∀ j, j < 195 → E29 j = E0 j := fun j h => by rw [e29]; exact (hp_ne (by omega)).trans (hO28 j h)
  have hp29_195 : E29 195 = .inr (9, (.int (hpI 0) :: .ref (z + 196) :: .ref (z + 197) :: .ref (z + 198) :: .ref (z + 199) :: .int (hpI 0) :: .ref (z + 200) :: .int (hpI 0) :: .int (hpI 0) :: .int (hpI 0) :: .int (hpI 0) :: .int (hpI 0) :: .int (hpI 0) :: .int (hpI (-1)) :: .ref (z + 201) :: .ref (z + 202) :: .int (hpI 0) :: .int (hpI 0) :: .int (hpI 0) :: .ref (z + 203) :: .ref (z + 204) :: .int (hpI 0) :: .int (hpI 0) :: .int (hpI 0) :: .int (hpI 0) :: .ref (z + 205) :: .ref (z + 206) :: .int (hpI 0) :: .int (hpI 0) :: .ref (z + 207) :: .ref (z + 208) :: .ref (z + 209) :: .int (hpI 0) :: .int (hpI 0) :: .null :: .null :: .int (hpI 0) :: .int (hpI 0) :: .null :: .long (hpJ 0) :: .long (hpJ 0) :: .long (hpJ 0) :: .null :: .null :: .null :: .null :: [])) := by rw [e29, hp_at]
  have hD29 : ∀ j, 195 < j → j < 210 → E29 j = hpE z cy j (hp0 j) := fun j h1 h2 => by
    rw [e29, hp_ne (by omega)]; exact hD28 j h1 (by omega)
  refine lv_aload_n C.1 C.2.1 dX9_init_125 rfl (lv_at hl 0 rfl) ?_
  refine lv_bipush (v := hpI 20) C.1 C.2.1 dX9_init_126 (by decide) ?_
  refine n_size (n := 210) h0 rfl hS hP (fun hsz => ?_)
  refine n_newa (atype := .int) (ci := 11) (t0 := 1) (a0 := (20, .inl (fun i => hpI (hp0 210 i)))) C wd_135 rfl rfl (fun U h => h) (az_210) rfl (by decide) (Nat.le_of_ble_eq_true rfl) hP hS hsz (Nat.le_of_ble_eq_true rfl) (Nat.le_of_ble_eq_true rfl) dX9_init_128 (fun H hP hS => ?_)
  obtain ⟨E30, e30⟩ : ∃ F, F = va_up E29 210 (.inl (cy 11, 20, .inl (fun i => hpI (hp0 210 i)))) := ⟨_, rfl⟩
  rw [← e30] at hP
  have hO30 : ∀ j, j < 195 → E30 j = E0 j := fun j h => by rw [e30]; exact (hp_ne (by omega)).trans (hO29 j h)
  have hp30_195 : E30 195 = .inr (9, (.int (hpI 0) :: .ref (z + 196) :: .ref (z + 197) :: .ref (z + 198) :: .ref (z + 199) :: .int (hpI 0) :: .ref (z + 200) :: .int (hpI 0) :: .int (hpI 0) :: .int (hpI 0) :: .int (hpI 0) :: .int (hpI 0) :: .int (hpI 0) :: .int (hpI (-1)) :: .ref (z + 201) :: .ref (z + 202) :: .int (hpI 0) :: .int (hpI 0) :: .int (hpI 0) :: .ref (z + 203) :: .ref (z + 204) :: .int (hpI 0) :: .int (hpI 0) :: .int (hpI 0) :: .int (hpI 0) :: .ref (z + 205) :: .ref (z + 206) :: .int (hpI 0) :: .int (hpI 0) :: .ref (z + 207) :: .ref (z + 208) :: .ref (z + 209) :: .int (hpI 0) :: .int (hpI 0) :: .null :: .null :: .int (hpI 0) :: .int (hpI 0) :: .null :: .long (hpJ 0) :: .long (hpJ 0) :: .long (hpJ 0) :: .null :: .null :: .null :: .null :: [])) := by rw [e30, hp_ne (by decide)]; exact hp29_195
  have hD30 : ∀ j, 195 < j → j < 211 → E30 j = hpE z cy j (hp0 j) := fun j h1 h2 => by
    rcases Nat.lt_or_ge j 210 with h | h
    · rw [e30, hp_ne (by omega)]; exact hD29 j h1 h
    · obtain rfl : j = 210 := by omega
      rw [e30, hp_at, ea_210]
  refine n_putF (fs' := (.int (hpI 0) :: .ref (z + 196) :: .ref (z + 197) :: .ref (z + 198) :: .ref (z + 199) :: .int (hpI 0) :: .ref (z + 200) :: .int (hpI 0) :: .int (hpI 0) :: .int (hpI 0) :: .int (hpI 0) :: .int (hpI 0) :: .int (hpI 0) :: .int (hpI (-1)) :: .ref (z + 201) :: .ref (z + 202) :: .int (hpI 0) :: .int (hpI 0) :: .int (hpI 0) :: .ref (z + 203) :: .ref (z + 204) :: .int (hpI 0) :: .int (hpI 0) :: .int (hpI 0) :: .int (hpI 0) :: .ref (z + 205) :: .ref (z + 206) :: .int (hpI 0) :: .int (hpI 0) :: .ref (z + 207) :: .ref (z + 208) :: .ref (z + 209) :: .int (hpI 0) :: .int (hpI 0) :: .ref (z + 210) :: .null :: .int (hpI 0) :: .int (hpI 0) :: .null :: .long (hpJ 0) :: .long (hpJ 0) :: .long (hpJ 0) :: .null :: .null :: .null :: .null :: [])) C O9 34 (by decide) hp30_195 (by decide) rfl hnm rfl wd_1290 rfl rfl (Nat.le_of_ble_eq_true rfl) rfl hP hS dX9_init_130 (fun H locs hP hS => ?_)
  obtain ⟨E31, e31⟩ : ∃ F, F = va_up E30 195 (.inr (9, (.int (hpI 0) :: .ref (z + 196) :: .ref (z + 197) :: .ref (z + 198) :: .ref (z + 199) :: .int (hpI 0) :: .ref (z + 200) :: .int (hpI 0) :: .int (hpI 0) :: .int (hpI 0) :: .int (hpI 0) :: .int (hpI 0) :: .int (hpI 0) :: .int (hpI (-1)) :: .ref (z + 201) :: .ref (z + 202) :: .int (hpI 0) :: .int (hpI 0) :: .int (hpI 0) :: .ref (z + 203) :: .ref (z + 204) :: .int (hpI 0) :: .int (hpI 0) :: .int (hpI 0) :: .int (hpI 0) :: .ref (z + 205) :: .ref (z + 206) :: .int (hpI 0) :: .int (hpI 0) :: .ref (z + 207) :: .ref (z + 208) :: .ref (z + 209) :: .int (hpI 0) :: .int (hpI 0) :: .ref (z + 210) :: .null :: .int (hpI 0) :: .int (hpI 0) :: .null :: .long (hpJ 0) :: .long (hpJ 0) :: .long (hpJ 0) :: .null :: .null :: .null :: .null :: []))) := ⟨_, rfl⟩
  rw [← e31] at hP
  have hO31 : ∀ j, j < 195 → E31 j = E0 j := fun j h => by rw [e31]; exact (hp_ne (by omega)).trans (hO30 j h)
  have hp31_195 : E31 195 = .inr (9, (.int (hpI 0) :: .ref (z + 196) :: .ref (z + 197) :: .ref (z + 198) :: .ref (z + 199) :: .int (hpI 0) :: .ref (z + 200) :: .int (hpI 0) :: .int (hpI 0) :: .int (hpI 0) :: .int (hpI 0) :: .int (hpI 0) :: .int (hpI 0) :: .int (hpI (-1)) :: .ref (z + 201) :: .ref (z + 202) :: .int (hpI 0) :: .int (hpI 0) :: .int (hpI 0) :: .ref (z + 203) :: .ref (z + 204) :: .int (hpI 0) :: .int (hpI 0) :: .int (hpI 0) :: .int (hpI 0) :: .ref (z + 205) :: .ref (z + 206) :: .int (hpI 0) :: .int (hpI 0) :: .ref (z + 207) :: .ref (z + 208) :: .ref (z + 209) :: .int (hpI 0) :: .int (hpI 0) :: .ref (z + 210) :: .null :: .int (hpI 0) :: .int (hpI 0) :: .null :: .long (hpJ 0) :: .long (hpJ 0) :: .long (hpJ 0) :: .null :: .null :: .null :: .null :: [])) := by rw [e31, hp_at]
  have hD31 : ∀ j, 195 < j → j < 211 → E31 j = hpE z cy j (hp0 j) := fun j h1 h2 => by
    rw [e31, hp_ne (by omega)]; exact hD30 j h1 (by omega)
  refine lv_aload_n C.1 C.2.1 dX9_init_133 rfl (lv_at hl 0 rfl) ?_
  refine lv_sipush (v := hpI 340) C.1 C.2.1 dX9_init_134 (by decide) ?_
  refine n_size (n := 211) h0 rfl hS hP (fun hsz => ?_)
  refine n_newa (atype := .int) (ci := 11) (t0 := 1) (a0 := (340, .inl (fun i => hpI (hp0 211 i)))) C wd_135 rfl rfl (fun U h => h) (az_211) rfl (by decide) (Nat.le_of_ble_eq_true rfl) hP hS hsz (Nat.le_of_ble_eq_true rfl) (Nat.le_of_ble_eq_true rfl) dX9_init_137 (fun H hP hS => ?_)
  obtain ⟨E32, e32⟩ : ∃ F, F = va_up E31 211 (.inl (cy 11, 340, .inl (fun i => hpI (hp0 211 i)))) := ⟨_, rfl⟩
  rw [← e32] at hP
  have hO32 : ∀ j, j < 195 → E32 j = E0 j := fun j h => by rw [e32]; exact (hp_ne (by omega)).trans (hO31 j h)
  have hp32_195 : E32 195 = .inr (9, (.int (hpI 0) :: .ref (z + 196) :: .ref (z + 197) :: .ref (z + 198) :: .ref (z + 199) :: .int (hpI 0) :: .ref (z + 200) :: .int (hpI 0) :: .int (hpI 0) :: .int (hpI 0) :: .int (hpI 0) :: .int (hpI 0) :: .int (hpI 0) :: .int (hpI (-1)) :: .ref (z + 201) :: .ref (z + 202) :: .int (hpI 0) :: .int (hpI 0) :: .int (hpI 0) :: .ref (z + 203) :: .ref (z + 204) :: .int (hpI 0) :: .int (hpI 0) :: .int (hpI 0) :: .int (hpI 0) :: .ref (z + 205) :: .ref (z + 206) :: .int (hpI 0) :: .int (hpI 0) :: .ref (z + 207) :: .ref (z + 208) :: .ref (z + 209) :: .int (hpI 0) :: .int (hpI 0) :: .ref (z + 210) :: .null :: .int (hpI 0) :: .int (hpI 0) :: .null :: .long (hpJ 0) :: .long (hpJ 0) :: .long (hpJ 0) :: .null :: .null :: .null :: .null :: [])) := by rw [e32, hp_ne (by decide)]; exact hp31_195
  have hD32 : ∀ j, 195 < j → j < 212 → E32 j = hpE z cy j (hp0 j) := fun j h1 h2 => by
    rcases Nat.lt_or_ge j 211 with h | h
    · rw [e32, hp_ne (by omega)]; exact hD31 j h1 h
    · obtain rfl : j = 211 := by omega
      rw [e32, hp_at, ea_211]
  refine n_putF (fs' := (.int (hpI 0) :: .ref (z + 196) :: .ref (z + 197) :: .ref (z + 198) :: .ref (z + 199) :: .int (hpI 0) :: .ref (z + 200) :: .int (hpI 0) :: .int (hpI 0) :: .int (hpI 0) :: .int (hpI 0) :: .int (hpI 0) :: .int (hpI 0) :: .int (hpI (-1)) :: .ref (z + 201) :: .ref (z + 202) :: .int (hpI 0) :: .int (hpI 0) :: .int (hpI 0) :: .ref (z + 203) :: .ref (z + 204) :: .int (hpI 0) :: .int (hpI 0) :: .int (hpI 0) :: .int (hpI 0) :: .ref (z + 205) :: .ref (z + 206) :: .int (hpI 0) :: .int (hpI 0) :: .ref (z + 207) :: .ref (z + 208) :: .ref (z + 209) :: .int (hpI 0) :: .int (hpI 0) :: .ref (z + 210) :: .ref (z + 211) :: .int (hpI 0) :: .int (hpI 0) :: .null :: .long (hpJ 0) :: .long (hpJ 0) :: .long (hpJ 0) :: .null :: .null :: .null :: .null :: [])) C O9 35 (by decide) hp32_195 (by decide) rfl hnm rfl wd_1291 rfl rfl (Nat.le_of_ble_eq_true rfl) rfl hP hS dX9_init_139 (fun H locs hP hS => ?_)
  obtain ⟨E33, e33⟩ : ∃ F, F = va_up E32 195 (.inr (9, (.int (hpI 0) :: .ref (z + 196) :: .ref (z + 197) :: .ref (z + 198) :: .ref (z + 199) :: .int (hpI 0) :: .ref (z + 200) :: .int (hpI 0) :: .int (hpI 0) :: .int (hpI 0) :: .int (hpI 0) :: .int (hpI 0) :: .int (hpI 0) :: .int (hpI (-1)) :: .ref (z + 201) :: .ref (z + 202) :: .int (hpI 0) :: .int (hpI 0) :: .int (hpI 0) :: .ref (z + 203) :: .ref (z + 204) :: .int (hpI 0) :: .int (hpI 0) :: .int (hpI 0) :: .int (hpI 0) :: .ref (z + 205) :: .ref (z + 206) :: .int (hpI 0) :: .int (hpI 0) :: .ref (z + 207) :: .ref (z + 208) :: .ref (z + 209) :: .int (hpI 0) :: .int (hpI 0) :: .ref (z + 210) :: .ref (z + 211) :: .int (hpI 0) :: .int (hpI 0) :: .null :: .long (hpJ 0) :: .long (hpJ 0) :: .long (hpJ 0) :: .null :: .null :: .null :: .null :: []))) := ⟨_, rfl⟩
  rw [← e33] at hP
  have hO33 : ∀ j, j < 195 → E33 j = E0 j := fun j h => by rw [e33]; exact (hp_ne (by omega)).trans (hO32 j h)
  have hp33_195 : E33 195 = .inr (9, (.int (hpI 0) :: .ref (z + 196) :: .ref (z + 197) :: .ref (z + 198) :: .ref (z + 199) :: .int (hpI 0) :: .ref (z + 200) :: .int (hpI 0) :: .int (hpI 0) :: .int (hpI 0) :: .int (hpI 0) :: .int (hpI 0) :: .int (hpI 0) :: .int (hpI (-1)) :: .ref (z + 201) :: .ref (z + 202) :: .int (hpI 0) :: .int (hpI 0) :: .int (hpI 0) :: .ref (z + 203) :: .ref (z + 204) :: .int (hpI 0) :: .int (hpI 0) :: .int (hpI 0) :: .int (hpI 0) :: .ref (z + 205) :: .ref (z + 206) :: .int (hpI 0) :: .int (hpI 0) :: .ref (z + 207) :: .ref (z + 208) :: .ref (z + 209) :: .int (hpI 0) :: .int (hpI 0) :: .ref (z + 210) :: .ref (z + 211) :: .int (hpI 0) :: .int (hpI 0) :: .null :: .long (hpJ 0) :: .long (hpJ 0) :: .long (hpJ 0) :: .null :: .null :: .null :: .null :: [])) := by rw [e33, hp_at]
  have hD33 : ∀ j, 195 < j → j < 212 → E33 j = hpE z cy j (hp0 j) := fun j h1 h2 => by
    rw [e33, hp_ne (by omega)]; exact hD32 j h1 (by omega)
  refine lv_aload_n C.1 C.2.1 dX9_init_142 rfl (lv_at hl 0 rfl) ?_
  refine lv_bipush (v := hpI 64) C.1 C.2.1 dX9_init_143 (by decide) ?_
  refine n_size (n := 212) h0 rfl hS hP (fun hsz => ?_)
  refine n_newa (atype := .int) (ci := 11) (t0 := 1) (a0 := (64, .inl (fun i => hpI (hp0 212 i)))) C wd_135 rfl rfl (fun U h => h) (az_212) rfl (by decide) (Nat.le_of_ble_eq_true rfl) hP hS hsz (Nat.le_of_ble_eq_true rfl) (Nat.le_of_ble_eq_true rfl) dX9_init_145 (fun H hP hS => ?_)
  obtain ⟨E34, e34⟩ : ∃ F, F = va_up E33 212 (.inl (cy 11, 64, .inl (fun i => hpI (hp0 212 i)))) := ⟨_, rfl⟩
  rw [← e34] at hP
  have hO34 : ∀ j, j < 195 → E34 j = E0 j := fun j h => by rw [e34]; exact (hp_ne (by omega)).trans (hO33 j h)
  have hp34_195 : E34 195 = .inr (9, (.int (hpI 0) :: .ref (z + 196) :: .ref (z + 197) :: .ref (z + 198) :: .ref (z + 199) :: .int (hpI 0) :: .ref (z + 200) :: .int (hpI 0) :: .int (hpI 0) :: .int (hpI 0) :: .int (hpI 0) :: .int (hpI 0) :: .int (hpI 0) :: .int (hpI (-1)) :: .ref (z + 201) :: .ref (z + 202) :: .int (hpI 0) :: .int (hpI 0) :: .int (hpI 0) :: .ref (z + 203) :: .ref (z + 204) :: .int (hpI 0) :: .int (hpI 0) :: .int (hpI 0) :: .int (hpI 0) :: .ref (z + 205) :: .ref (z + 206) :: .int (hpI 0) :: .int (hpI 0) :: .ref (z + 207) :: .ref (z + 208) :: .ref (z + 209) :: .int (hpI 0) :: .int (hpI 0) :: .ref (z + 210) :: .ref (z + 211) :: .int (hpI 0) :: .int (hpI 0) :: .null :: .long (hpJ 0) :: .long (hpJ 0) :: .long (hpJ 0) :: .null :: .null :: .null :: .null :: [])) := by rw [e34, hp_ne (by decide)]; exact hp33_195
  have hD34 : ∀ j, 195 < j → j < 213 → E34 j = hpE z cy j (hp0 j) := fun j h1 h2 => by
    rcases Nat.lt_or_ge j 212 with h | h
    · rw [e34, hp_ne (by omega)]; exact hD33 j h1 h
    · obtain rfl : j = 212 := by omega
      rw [e34, hp_at, ea_212]
  refine n_putF (fs' := (.int (hpI 0) :: .ref (z + 196) :: .ref (z + 197) :: .ref (z + 198) :: .ref (z + 199) :: .int (hpI 0) :: .ref (z + 200) :: .int (hpI 0) :: .int (hpI 0) :: .int (hpI 0) :: .int (hpI 0) :: .int (hpI 0) :: .int (hpI 0) :: .int (hpI (-1)) :: .ref (z + 201) :: .ref (z + 202) :: .int (hpI 0) :: .int (hpI 0) :: .int (hpI 0) :: .ref (z + 203) :: .ref (z + 204) :: .int (hpI 0) :: .int (hpI 0) :: .int (hpI 0) :: .int (hpI 0) :: .ref (z + 205) :: .ref (z + 206) :: .int (hpI 0) :: .int (hpI 0) :: .ref (z + 207) :: .ref (z + 208) :: .ref (z + 209) :: .int (hpI 0) :: .int (hpI 0) :: .ref (z + 210) :: .ref (z + 211) :: .int (hpI 0) :: .int (hpI 0) :: .ref (z + 212) :: .long (hpJ 0) :: .long (hpJ 0) :: .long (hpJ 0) :: .null :: .null :: .null :: .null :: [])) C O9 38 (by decide) hp34_195 (by decide) rfl hnm rfl wd_1294 rfl rfl (Nat.le_of_ble_eq_true rfl) rfl hP hS dX9_init_147 (fun H locs hP hS => ?_)
  obtain ⟨E35, e35⟩ : ∃ F, F = va_up E34 195 (.inr (9, (.int (hpI 0) :: .ref (z + 196) :: .ref (z + 197) :: .ref (z + 198) :: .ref (z + 199) :: .int (hpI 0) :: .ref (z + 200) :: .int (hpI 0) :: .int (hpI 0) :: .int (hpI 0) :: .int (hpI 0) :: .int (hpI 0) :: .int (hpI 0) :: .int (hpI (-1)) :: .ref (z + 201) :: .ref (z + 202) :: .int (hpI 0) :: .int (hpI 0) :: .int (hpI 0) :: .ref (z + 203) :: .ref (z + 204) :: .int (hpI 0) :: .int (hpI 0) :: .int (hpI 0) :: .int (hpI 0) :: .ref (z + 205) :: .ref (z + 206) :: .int (hpI 0) :: .int (hpI 0) :: .ref (z + 207) :: .ref (z + 208) :: .ref (z + 209) :: .int (hpI 0) :: .int (hpI 0) :: .ref (z + 210) :: .ref (z + 211) :: .int (hpI 0) :: .int (hpI 0) :: .ref (z + 212) :: .long (hpJ 0) :: .long (hpJ 0) :: .long (hpJ 0) :: .null :: .null :: .null :: .null :: []))) := ⟨_, rfl⟩
  rw [← e35] at hP
  have hO35 : ∀ j, j < 195 → E35 j = E0 j := fun j h => by rw [e35]; exact (hp_ne (by omega)).trans (hO34 j h)
  have hp35_195 : E35 195 = .inr (9, (.int (hpI 0) :: .ref (z + 196) :: .ref (z + 197) :: .ref (z + 198) :: .ref (z + 199) :: .int (hpI 0) :: .ref (z + 200) :: .int (hpI 0) :: .int (hpI 0) :: .int (hpI 0) :: .int (hpI 0) :: .int (hpI 0) :: .int (hpI 0) :: .int (hpI (-1)) :: .ref (z + 201) :: .ref (z + 202) :: .int (hpI 0) :: .int (hpI 0) :: .int (hpI 0) :: .ref (z + 203) :: .ref (z + 204) :: .int (hpI 0) :: .int (hpI 0) :: .int (hpI 0) :: .int (hpI 0) :: .ref (z + 205) :: .ref (z + 206) :: .int (hpI 0) :: .int (hpI 0) :: .ref (z + 207) :: .ref (z + 208) :: .ref (z + 209) :: .int (hpI 0) :: .int (hpI 0) :: .ref (z + 210) :: .ref (z + 211) :: .int (hpI 0) :: .int (hpI 0) :: .ref (z + 212) :: .long (hpJ 0) :: .long (hpJ 0) :: .long (hpJ 0) :: .null :: .null :: .null :: .null :: [])) := by rw [e35, hp_at]
  have hD35 : ∀ j, 195 < j → j < 213 → E35 j = hpE z cy j (hp0 j) := fun j h1 h2 => by
    rw [e35, hp_ne (by omega)]; exact hD34 j h1 (by omega)
  refine lv_aload_n C.1 C.2.1 dX9_init_150 rfl (lv_at hl 0 rfl) ?_
  refine lv_iconst (v := hpI 4) C.1 C.2.1 dX9_init_151 rfl ?_
  refine n_size (n := 213) h0 rfl hS hP (fun hsz => ?_)
  refine n_newa (atype := .int) (ci := 11) (t0 := 1) (a0 := (4, .inl (fun i => hpI ((fun _ => (0 : Int)) i)))) C wd_135 rfl rfl (fun U h => h) (fun cA => rfl) rfl (by decide) (Nat.le_of_ble_eq_true rfl) hP hS hsz (Nat.le_of_ble_eq_true rfl) (Nat.le_of_ble_eq_true rfl) dX9_init_152 (fun H hP hS => ?_)
  obtain ⟨E36, e36⟩ : ∃ F, F = va_up E35 213 (.inl (cy 11, 4, .inl (fun i => hpI ((fun _ => (0 : Int)) i)))) := ⟨_, rfl⟩
  rw [← e36] at hP
  have hO36 : ∀ j, j < 195 → E36 j = E0 j := fun j h => by rw [e36]; exact (hp_ne (by omega)).trans (hO35 j h)
  have hp36_195 : E36 195 = .inr (9, (.int (hpI 0) :: .ref (z + 196) :: .ref (z + 197) :: .ref (z + 198) :: .ref (z + 199) :: .int (hpI 0) :: .ref (z + 200) :: .int (hpI 0) :: .int (hpI 0) :: .int (hpI 0) :: .int (hpI 0) :: .int (hpI 0) :: .int (hpI 0) :: .int (hpI (-1)) :: .ref (z + 201) :: .ref (z + 202) :: .int (hpI 0) :: .int (hpI 0) :: .int (hpI 0) :: .ref (z + 203) :: .ref (z + 204) :: .int (hpI 0) :: .int (hpI 0) :: .int (hpI 0) :: .int (hpI 0) :: .ref (z + 205) :: .ref (z + 206) :: .int (hpI 0) :: .int (hpI 0) :: .ref (z + 207) :: .ref (z + 208) :: .ref (z + 209) :: .int (hpI 0) :: .int (hpI 0) :: .ref (z + 210) :: .ref (z + 211) :: .int (hpI 0) :: .int (hpI 0) :: .ref (z + 212) :: .long (hpJ 0) :: .long (hpJ 0) :: .long (hpJ 0) :: .null :: .null :: .null :: .null :: [])) := by rw [e36, hp_ne (by decide)]; exact hp35_195
  have hp36_213 : E36 213 = .inl (cy 11, 4, .inl (fun i => hpI ((fun _ => (0 : Int)) i))) := by rw [e36, hp_at]
  have hD36 : ∀ j, 195 < j → j < 214 → j ≠ 213 → E36 j = hpE z cy j (hp0 j) := fun j h1 h2 hn213 => by
    rw [e36, hp_ne (by omega)]; exact hD35 j h1 (by omega)
  refine lv_dup C.1 C.2.1 dX9_init_154 rfl ?_
  refine lv_iconst (v := hpI 0) C.1 C.2.1 dX9_init_155 rfl ?_
  refine lv_iconst (v := hpI (-1)) C.1 C.2.1 dX9_init_156 rfl ?_
  refine n_iast (r := (fun _ => (0 : Int))) C (by decide) hp36_213 0 rfl (by decide) (by decide) hP hS dX9_init_157 (fun H locs hP hS => ?_)
  obtain ⟨E37, e37⟩ : ∃ F, F = va_up E36 213 (.inl (cy 11, 4, .inl (fun j => hpI ((hpu (fun _ => (0 : Int)) 0 (-1)) j)))) := ⟨_, rfl⟩
  rw [← e37] at hP
  have hO37 : ∀ j, j < 195 → E37 j = E0 j := fun j h => by rw [e37]; exact (hp_ne (by omega)).trans (hO36 j h)
  have hp37_195 : E37 195 = .inr (9, (.int (hpI 0) :: .ref (z + 196) :: .ref (z + 197) :: .ref (z + 198) :: .ref (z + 199) :: .int (hpI 0) :: .ref (z + 200) :: .int (hpI 0) :: .int (hpI 0) :: .int (hpI 0) :: .int (hpI 0) :: .int (hpI 0) :: .int (hpI 0) :: .int (hpI (-1)) :: .ref (z + 201) :: .ref (z + 202) :: .int (hpI 0) :: .int (hpI 0) :: .int (hpI 0) :: .ref (z + 203) :: .ref (z + 204) :: .int (hpI 0) :: .int (hpI 0) :: .int (hpI 0) :: .int (hpI 0) :: .ref (z + 205) :: .ref (z + 206) :: .int (hpI 0) :: .int (hpI 0) :: .ref (z + 207) :: .ref (z + 208) :: .ref (z + 209) :: .int (hpI 0) :: .int (hpI 0) :: .ref (z + 210) :: .ref (z + 211) :: .int (hpI 0) :: .int (hpI 0) :: .ref (z + 212) :: .long (hpJ 0) :: .long (hpJ 0) :: .long (hpJ 0) :: .null :: .null :: .null :: .null :: [])) := by rw [e37, hp_ne (by decide)]; exact hp36_195
  have hp37_213 : E37 213 = .inl (cy 11, 4, .inl (fun j => hpI ((hpu (fun _ => (0 : Int)) 0 (-1)) j))) := by rw [e37, hp_at]
  have hD37 : ∀ j, 195 < j → j < 214 → j ≠ 213 → E37 j = hpE z cy j (hp0 j) := fun j h1 h2 hn213 => by
    rw [e37, hp_ne (by omega)]; exact hD36 j h1 (by omega) hn213
  refine lv_dup C.1 C.2.1 dX9_init_158 rfl ?_
  refine lv_iconst (v := hpI 1) C.1 C.2.1 dX9_init_159 rfl ?_
  refine lv_iconst (v := hpI (-1)) C.1 C.2.1 dX9_init_160 rfl ?_
  refine n_iast (r := (hpu (fun _ => (0 : Int)) 0 (-1))) C (by decide) hp37_213 1 rfl (by decide) (by decide) hP hS dX9_init_161 (fun H locs hP hS => ?_)
  obtain ⟨E38, e38⟩ : ∃ F, F = va_up E37 213 (.inl (cy 11, 4, .inl (fun j => hpI ((hpu (hpu (fun _ => (0 : Int)) 0 (-1)) 1 (-1)) j)))) := ⟨_, rfl⟩
  rw [← e38] at hP
  have hO38 : ∀ j, j < 195 → E38 j = E0 j := fun j h => by rw [e38]; exact (hp_ne (by omega)).trans (hO37 j h)
  have hp38_195 : E38 195 = .inr (9, (.int (hpI 0) :: .ref (z + 196) :: .ref (z + 197) :: .ref (z + 198) :: .ref (z + 199) :: .int (hpI 0) :: .ref (z + 200) :: .int (hpI 0) :: .int (hpI 0) :: .int (hpI 0) :: .int (hpI 0) :: .int (hpI 0) :: .int (hpI 0) :: .int (hpI (-1)) :: .ref (z + 201) :: .ref (z + 202) :: .int (hpI 0) :: .int (hpI 0) :: .int (hpI 0) :: .ref (z + 203) :: .ref (z + 204) :: .int (hpI 0) :: .int (hpI 0) :: .int (hpI 0) :: .int (hpI 0) :: .ref (z + 205) :: .ref (z + 206) :: .int (hpI 0) :: .int (hpI 0) :: .ref (z + 207) :: .ref (z + 208) :: .ref (z + 209) :: .int (hpI 0) :: .int (hpI 0) :: .ref (z + 210) :: .ref (z + 211) :: .int (hpI 0) :: .int (hpI 0) :: .ref (z + 212) :: .long (hpJ 0) :: .long (hpJ 0) :: .long (hpJ 0) :: .null :: .null :: .null :: .null :: [])) := by rw [e38, hp_ne (by decide)]; exact hp37_195
  have hp38_213 : E38 213 = .inl (cy 11, 4, .inl (fun j => hpI ((hpu (hpu (fun _ => (0 : Int)) 0 (-1)) 1 (-1)) j))) := by rw [e38, hp_at]
  have hD38 : ∀ j, 195 < j → j < 214 → j ≠ 213 → E38 j = hpE z cy j (hp0 j) := fun j h1 h2 hn213 => by
    rw [e38, hp_ne (by omega)]; exact hD37 j h1 (by omega) hn213
  refine lv_dup C.1 C.2.1 dX9_init_162 rfl ?_
  refine lv_iconst (v := hpI 2) C.1 C.2.1 dX9_init_163 rfl ?_
  refine lv_iconst (v := hpI (-1)) C.1 C.2.1 dX9_init_164 rfl ?_
  refine n_iast (r := (hpu (hpu (fun _ => (0 : Int)) 0 (-1)) 1 (-1))) C (by decide) hp38_213 2 rfl (by decide) (by decide) hP hS dX9_init_165 (fun H locs hP hS => ?_)
  obtain ⟨E39, e39⟩ : ∃ F, F = va_up E38 213 (.inl (cy 11, 4, .inl (fun j => hpI ((hpu (hpu (hpu (fun _ => (0 : Int)) 0 (-1)) 1 (-1)) 2 (-1)) j)))) := ⟨_, rfl⟩
  rw [← e39] at hP
  have hO39 : ∀ j, j < 195 → E39 j = E0 j := fun j h => by rw [e39]; exact (hp_ne (by omega)).trans (hO38 j h)
  have hp39_195 : E39 195 = .inr (9, (.int (hpI 0) :: .ref (z + 196) :: .ref (z + 197) :: .ref (z + 198) :: .ref (z + 199) :: .int (hpI 0) :: .ref (z + 200) :: .int (hpI 0) :: .int (hpI 0) :: .int (hpI 0) :: .int (hpI 0) :: .int (hpI 0) :: .int (hpI 0) :: .int (hpI (-1)) :: .ref (z + 201) :: .ref (z + 202) :: .int (hpI 0) :: .int (hpI 0) :: .int (hpI 0) :: .ref (z + 203) :: .ref (z + 204) :: .int (hpI 0) :: .int (hpI 0) :: .int (hpI 0) :: .int (hpI 0) :: .ref (z + 205) :: .ref (z + 206) :: .int (hpI 0) :: .int (hpI 0) :: .ref (z + 207) :: .ref (z + 208) :: .ref (z + 209) :: .int (hpI 0) :: .int (hpI 0) :: .ref (z + 210) :: .ref (z + 211) :: .int (hpI 0) :: .int (hpI 0) :: .ref (z + 212) :: .long (hpJ 0) :: .long (hpJ 0) :: .long (hpJ 0) :: .null :: .null :: .null :: .null :: [])) := by rw [e39, hp_ne (by decide)]; exact hp38_195
  have hp39_213 : E39 213 = .inl (cy 11, 4, .inl (fun j => hpI ((hpu (hpu (hpu (fun _ => (0 : Int)) 0 (-1)) 1 (-1)) 2 (-1)) j))) := by rw [e39, hp_at]
  have hD39 : ∀ j, 195 < j → j < 214 → j ≠ 213 → E39 j = hpE z cy j (hp0 j) := fun j h1 h2 hn213 => by
    rw [e39, hp_ne (by omega)]; exact hD38 j h1 (by omega) hn213
  refine lv_dup C.1 C.2.1 dX9_init_166 rfl ?_
  refine lv_iconst (v := hpI 3) C.1 C.2.1 dX9_init_167 rfl ?_
  refine lv_iconst (v := hpI (-1)) C.1 C.2.1 dX9_init_168 rfl ?_
  refine n_iast (r := (hpu (hpu (hpu (fun _ => (0 : Int)) 0 (-1)) 1 (-1)) 2 (-1))) C (by decide) hp39_213 3 rfl (by decide) (by decide) hP hS dX9_init_169 (fun H locs hP hS => ?_)
  obtain ⟨E40, e40⟩ : ∃ F, F = va_up E39 213 (.inl (cy 11, 4, .inl (fun j => hpI ((hpu (hpu (hpu (hpu (fun _ => (0 : Int)) 0 (-1)) 1 (-1)) 2 (-1)) 3 (-1)) j)))) := ⟨_, rfl⟩
  rw [← e40] at hP
  have hO40 : ∀ j, j < 195 → E40 j = E0 j := fun j h => by rw [e40]; exact (hp_ne (by omega)).trans (hO39 j h)
  have hp40_195 : E40 195 = .inr (9, (.int (hpI 0) :: .ref (z + 196) :: .ref (z + 197) :: .ref (z + 198) :: .ref (z + 199) :: .int (hpI 0) :: .ref (z + 200) :: .int (hpI 0) :: .int (hpI 0) :: .int (hpI 0) :: .int (hpI 0) :: .int (hpI 0) :: .int (hpI 0) :: .int (hpI (-1)) :: .ref (z + 201) :: .ref (z + 202) :: .int (hpI 0) :: .int (hpI 0) :: .int (hpI 0) :: .ref (z + 203) :: .ref (z + 204) :: .int (hpI 0) :: .int (hpI 0) :: .int (hpI 0) :: .int (hpI 0) :: .ref (z + 205) :: .ref (z + 206) :: .int (hpI 0) :: .int (hpI 0) :: .ref (z + 207) :: .ref (z + 208) :: .ref (z + 209) :: .int (hpI 0) :: .int (hpI 0) :: .ref (z + 210) :: .ref (z + 211) :: .int (hpI 0) :: .int (hpI 0) :: .ref (z + 212) :: .long (hpJ 0) :: .long (hpJ 0) :: .long (hpJ 0) :: .null :: .null :: .null :: .null :: [])) := by rw [e40, hp_ne (by decide)]; exact hp39_195
  have hp40_213 : E40 213 = .inl (cy 11, 4, .inl (fun j => hpI ((hpu (hpu (hpu (hpu (fun _ => (0 : Int)) 0 (-1)) 1 (-1)) 2 (-1)) 3 (-1)) j))) := by rw [e40, hp_at]
  have hD40 : ∀ j, 195 < j → j < 214 → j ≠ 213 → E40 j = hpE z cy j (hp0 j) := fun j h1 h2 hn213 => by
    rw [e40, hp_ne (by omega)]; exact hD39 j h1 (by omega) hn213
  have hD41 : ∀ j, 195 < j → j < 214 → E40 j = hpE z cy j (hp0 j) := fun j h1 h2 => by
    by_cases hn213 : j = 213
    · subst hn213; rw [hp40_213, many_done]
    · exact hD40 j h1 h2 hn213
  refine n_putF (fs' := (.int (hpI 0) :: .ref (z + 196) :: .ref (z + 197) :: .ref (z + 198) :: .ref (z + 199) :: .int (hpI 0) :: .ref (z + 200) :: .int (hpI 0) :: .int (hpI 0) :: .int (hpI 0) :: .int (hpI 0) :: .int (hpI 0) :: .int (hpI 0) :: .int (hpI (-1)) :: .ref (z + 201) :: .ref (z + 202) :: .int (hpI 0) :: .int (hpI 0) :: .int (hpI 0) :: .ref (z + 203) :: .ref (z + 204) :: .int (hpI 0) :: .int (hpI 0) :: .int (hpI 0) :: .int (hpI 0) :: .ref (z + 205) :: .ref (z + 206) :: .int (hpI 0) :: .int (hpI 0) :: .ref (z + 207) :: .ref (z + 208) :: .ref (z + 209) :: .int (hpI 0) :: .int (hpI 0) :: .ref (z + 210) :: .ref (z + 211) :: .int (hpI 0) :: .int (hpI 0) :: .ref (z + 212) :: .long (hpJ 0) :: .long (hpJ 0) :: .long (hpJ 0) :: .ref (z + 213) :: .null :: .null :: .null :: [])) C O9 42 (by decide) hp40_195 (by decide) rfl hnm rfl wd_1298 rfl rfl (Nat.le_of_ble_eq_true rfl) rfl hP hS dX9_init_170 (fun H locs hP hS => ?_)
  obtain ⟨E42, e42⟩ : ∃ F, F = va_up E40 195 (.inr (9, (.int (hpI 0) :: .ref (z + 196) :: .ref (z + 197) :: .ref (z + 198) :: .ref (z + 199) :: .int (hpI 0) :: .ref (z + 200) :: .int (hpI 0) :: .int (hpI 0) :: .int (hpI 0) :: .int (hpI 0) :: .int (hpI 0) :: .int (hpI 0) :: .int (hpI (-1)) :: .ref (z + 201) :: .ref (z + 202) :: .int (hpI 0) :: .int (hpI 0) :: .int (hpI 0) :: .ref (z + 203) :: .ref (z + 204) :: .int (hpI 0) :: .int (hpI 0) :: .int (hpI 0) :: .int (hpI 0) :: .ref (z + 205) :: .ref (z + 206) :: .int (hpI 0) :: .int (hpI 0) :: .ref (z + 207) :: .ref (z + 208) :: .ref (z + 209) :: .int (hpI 0) :: .int (hpI 0) :: .ref (z + 210) :: .ref (z + 211) :: .int (hpI 0) :: .int (hpI 0) :: .ref (z + 212) :: .long (hpJ 0) :: .long (hpJ 0) :: .long (hpJ 0) :: .ref (z + 213) :: .null :: .null :: .null :: []))) := ⟨_, rfl⟩
  rw [← e42] at hP
  have hO42 : ∀ j, j < 195 → E42 j = E0 j := fun j h => by rw [e42]; exact (hp_ne (by omega)).trans (hO40 j h)
  have hp42_195 : E42 195 = .inr (9, (.int (hpI 0) :: .ref (z + 196) :: .ref (z + 197) :: .ref (z + 198) :: .ref (z + 199) :: .int (hpI 0) :: .ref (z + 200) :: .int (hpI 0) :: .int (hpI 0) :: .int (hpI 0) :: .int (hpI 0) :: .int (hpI 0) :: .int (hpI 0) :: .int (hpI (-1)) :: .ref (z + 201) :: .ref (z + 202) :: .int (hpI 0) :: .int (hpI 0) :: .int (hpI 0) :: .ref (z + 203) :: .ref (z + 204) :: .int (hpI 0) :: .int (hpI 0) :: .int (hpI 0) :: .int (hpI 0) :: .ref (z + 205) :: .ref (z + 206) :: .int (hpI 0) :: .int (hpI 0) :: .ref (z + 207) :: .ref (z + 208) :: .ref (z + 209) :: .int (hpI 0) :: .int (hpI 0) :: .ref (z + 210) :: .ref (z + 211) :: .int (hpI 0) :: .int (hpI 0) :: .ref (z + 212) :: .long (hpJ 0) :: .long (hpJ 0) :: .long (hpJ 0) :: .ref (z + 213) :: .null :: .null :: .null :: [])) := by rw [e42, hp_at]
  have hD42 : ∀ j, 195 < j → j < 214 → E42 j = hpE z cy j (hp0 j) := fun j h1 h2 => by
    rw [e42, hp_ne (by omega)]; exact hD41 j h1 (by omega)
  refine lv_aload_n C.1 C.2.1 dX9_init_173 rfl (lv_at hl 0 rfl) ?_
  refine lv_iconst (v := hpI 4) C.1 C.2.1 dX9_init_174 rfl ?_
  refine n_size (n := 214) h0 rfl hS hP (fun hsz => ?_)
  refine n_newa (atype := .int) (ci := 11) (t0 := 1) (a0 := (4, .inl (fun i => hpI (hp0 214 i)))) C wd_135 rfl rfl (fun U h => h) (az_214) rfl (by decide) (Nat.le_of_ble_eq_true rfl) hP hS hsz (Nat.le_of_ble_eq_true rfl) (Nat.le_of_ble_eq_true rfl) dX9_init_175 (fun H hP hS => ?_)
  obtain ⟨E43, e43⟩ : ∃ F, F = va_up E42 214 (.inl (cy 11, 4, .inl (fun i => hpI (hp0 214 i)))) := ⟨_, rfl⟩
  rw [← e43] at hP
  have hO43 : ∀ j, j < 195 → E43 j = E0 j := fun j h => by rw [e43]; exact (hp_ne (by omega)).trans (hO42 j h)
  have hp43_195 : E43 195 = .inr (9, (.int (hpI 0) :: .ref (z + 196) :: .ref (z + 197) :: .ref (z + 198) :: .ref (z + 199) :: .int (hpI 0) :: .ref (z + 200) :: .int (hpI 0) :: .int (hpI 0) :: .int (hpI 0) :: .int (hpI 0) :: .int (hpI 0) :: .int (hpI 0) :: .int (hpI (-1)) :: .ref (z + 201) :: .ref (z + 202) :: .int (hpI 0) :: .int (hpI 0) :: .int (hpI 0) :: .ref (z + 203) :: .ref (z + 204) :: .int (hpI 0) :: .int (hpI 0) :: .int (hpI 0) :: .int (hpI 0) :: .ref (z + 205) :: .ref (z + 206) :: .int (hpI 0) :: .int (hpI 0) :: .ref (z + 207) :: .ref (z + 208) :: .ref (z + 209) :: .int (hpI 0) :: .int (hpI 0) :: .ref (z + 210) :: .ref (z + 211) :: .int (hpI 0) :: .int (hpI 0) :: .ref (z + 212) :: .long (hpJ 0) :: .long (hpJ 0) :: .long (hpJ 0) :: .ref (z + 213) :: .null :: .null :: .null :: [])) := by rw [e43, hp_ne (by decide)]; exact hp42_195
  have hD43 : ∀ j, 195 < j → j < 215 → E43 j = hpE z cy j (hp0 j) := fun j h1 h2 => by
    rcases Nat.lt_or_ge j 214 with h | h
    · rw [e43, hp_ne (by omega)]; exact hD42 j h1 h
    · obtain rfl : j = 214 := by omega
      rw [e43, hp_at, ea_214]
  refine n_putF (fs' := (.int (hpI 0) :: .ref (z + 196) :: .ref (z + 197) :: .ref (z + 198) :: .ref (z + 199) :: .int (hpI 0) :: .ref (z + 200) :: .int (hpI 0) :: .int (hpI 0) :: .int (hpI 0) :: .int (hpI 0) :: .int (hpI 0) :: .int (hpI 0) :: .int (hpI (-1)) :: .ref (z + 201) :: .ref (z + 202) :: .int (hpI 0) :: .int (hpI 0) :: .int (hpI 0) :: .ref (z + 203) :: .ref (z + 204) :: .int (hpI 0) :: .int (hpI 0) :: .int (hpI 0) :: .int (hpI 0) :: .ref (z + 205) :: .ref (z + 206) :: .int (hpI 0) :: .int (hpI 0) :: .ref (z + 207) :: .ref (z + 208) :: .ref (z + 209) :: .int (hpI 0) :: .int (hpI 0) :: .ref (z + 210) :: .ref (z + 211) :: .int (hpI 0) :: .int (hpI 0) :: .ref (z + 212) :: .long (hpJ 0) :: .long (hpJ 0) :: .long (hpJ 0) :: .ref (z + 213) :: .ref (z + 214) :: .null :: .null :: [])) C O9 43 (by decide) hp43_195 (by decide) rfl hnm rfl wd_1299 rfl rfl (Nat.le_of_ble_eq_true rfl) rfl hP hS dX9_init_177 (fun H locs hP hS => ?_)
  obtain ⟨E44, e44⟩ : ∃ F, F = va_up E43 195 (.inr (9, (.int (hpI 0) :: .ref (z + 196) :: .ref (z + 197) :: .ref (z + 198) :: .ref (z + 199) :: .int (hpI 0) :: .ref (z + 200) :: .int (hpI 0) :: .int (hpI 0) :: .int (hpI 0) :: .int (hpI 0) :: .int (hpI 0) :: .int (hpI 0) :: .int (hpI (-1)) :: .ref (z + 201) :: .ref (z + 202) :: .int (hpI 0) :: .int (hpI 0) :: .int (hpI 0) :: .ref (z + 203) :: .ref (z + 204) :: .int (hpI 0) :: .int (hpI 0) :: .int (hpI 0) :: .int (hpI 0) :: .ref (z + 205) :: .ref (z + 206) :: .int (hpI 0) :: .int (hpI 0) :: .ref (z + 207) :: .ref (z + 208) :: .ref (z + 209) :: .int (hpI 0) :: .int (hpI 0) :: .ref (z + 210) :: .ref (z + 211) :: .int (hpI 0) :: .int (hpI 0) :: .ref (z + 212) :: .long (hpJ 0) :: .long (hpJ 0) :: .long (hpJ 0) :: .ref (z + 213) :: .ref (z + 214) :: .null :: .null :: []))) := ⟨_, rfl⟩
  rw [← e44] at hP
  have hO44 : ∀ j, j < 195 → E44 j = E0 j := fun j h => by rw [e44]; exact (hp_ne (by omega)).trans (hO43 j h)
  have hp44_195 : E44 195 = .inr (9, (.int (hpI 0) :: .ref (z + 196) :: .ref (z + 197) :: .ref (z + 198) :: .ref (z + 199) :: .int (hpI 0) :: .ref (z + 200) :: .int (hpI 0) :: .int (hpI 0) :: .int (hpI 0) :: .int (hpI 0) :: .int (hpI 0) :: .int (hpI 0) :: .int (hpI (-1)) :: .ref (z + 201) :: .ref (z + 202) :: .int (hpI 0) :: .int (hpI 0) :: .int (hpI 0) :: .ref (z + 203) :: .ref (z + 204) :: .int (hpI 0) :: .int (hpI 0) :: .int (hpI 0) :: .int (hpI 0) :: .ref (z + 205) :: .ref (z + 206) :: .int (hpI 0) :: .int (hpI 0) :: .ref (z + 207) :: .ref (z + 208) :: .ref (z + 209) :: .int (hpI 0) :: .int (hpI 0) :: .ref (z + 210) :: .ref (z + 211) :: .int (hpI 0) :: .int (hpI 0) :: .ref (z + 212) :: .long (hpJ 0) :: .long (hpJ 0) :: .long (hpJ 0) :: .ref (z + 213) :: .ref (z + 214) :: .null :: .null :: [])) := by rw [e44, hp_at]
  have hD44 : ∀ j, 195 < j → j < 215 → E44 j = hpE z cy j (hp0 j) := fun j h1 h2 => by
    rw [e44, hp_ne (by omega)]; exact hD43 j h1 (by omega)
  refine lv_aload_n C.1 C.2.1 dX9_init_180 rfl (lv_at hl 0 rfl) ?_
  refine lv_sipush (v := hpI 240) C.1 C.2.1 dX9_init_181 (by decide) ?_
  refine n_size (n := 215) h0 rfl hS hP (fun hsz => ?_)
  refine n_newa (atype := .long) (ci := 12) (t0 := 2) (a0 := (240, .inr (.inl (fun i => hpJ (hp0 215 i))))) C wd_305 rfl rfl (fun U h => h) (az_215) rfl (by decide) (Nat.le_of_ble_eq_true rfl) hP hS hsz (Nat.le_of_ble_eq_true rfl) (Nat.le_of_ble_eq_true rfl) dX9_init_184 (fun H hP hS => ?_)
  obtain ⟨E45, e45⟩ : ∃ F, F = va_up E44 215 (.inl (cy 12, 240, .inr (.inl (fun i => hpJ (hp0 215 i))))) := ⟨_, rfl⟩
  rw [← e45] at hP
  have hO45 : ∀ j, j < 195 → E45 j = E0 j := fun j h => by rw [e45]; exact (hp_ne (by omega)).trans (hO44 j h)
  have hp45_195 : E45 195 = .inr (9, (.int (hpI 0) :: .ref (z + 196) :: .ref (z + 197) :: .ref (z + 198) :: .ref (z + 199) :: .int (hpI 0) :: .ref (z + 200) :: .int (hpI 0) :: .int (hpI 0) :: .int (hpI 0) :: .int (hpI 0) :: .int (hpI 0) :: .int (hpI 0) :: .int (hpI (-1)) :: .ref (z + 201) :: .ref (z + 202) :: .int (hpI 0) :: .int (hpI 0) :: .int (hpI 0) :: .ref (z + 203) :: .ref (z + 204) :: .int (hpI 0) :: .int (hpI 0) :: .int (hpI 0) :: .int (hpI 0) :: .ref (z + 205) :: .ref (z + 206) :: .int (hpI 0) :: .int (hpI 0) :: .ref (z + 207) :: .ref (z + 208) :: .ref (z + 209) :: .int (hpI 0) :: .int (hpI 0) :: .ref (z + 210) :: .ref (z + 211) :: .int (hpI 0) :: .int (hpI 0) :: .ref (z + 212) :: .long (hpJ 0) :: .long (hpJ 0) :: .long (hpJ 0) :: .ref (z + 213) :: .ref (z + 214) :: .null :: .null :: [])) := by rw [e45, hp_ne (by decide)]; exact hp44_195
  have hD45 : ∀ j, 195 < j → j < 216 → E45 j = hpE z cy j (hp0 j) := fun j h1 h2 => by
    rcases Nat.lt_or_ge j 215 with h | h
    · rw [e45, hp_ne (by omega)]; exact hD44 j h1 h
    · obtain rfl : j = 215 := by omega
      rw [e45, hp_at, ea_215]
  refine n_putF (fs' := (.int (hpI 0) :: .ref (z + 196) :: .ref (z + 197) :: .ref (z + 198) :: .ref (z + 199) :: .int (hpI 0) :: .ref (z + 200) :: .int (hpI 0) :: .int (hpI 0) :: .int (hpI 0) :: .int (hpI 0) :: .int (hpI 0) :: .int (hpI 0) :: .int (hpI (-1)) :: .ref (z + 201) :: .ref (z + 202) :: .int (hpI 0) :: .int (hpI 0) :: .int (hpI 0) :: .ref (z + 203) :: .ref (z + 204) :: .int (hpI 0) :: .int (hpI 0) :: .int (hpI 0) :: .int (hpI 0) :: .ref (z + 205) :: .ref (z + 206) :: .int (hpI 0) :: .int (hpI 0) :: .ref (z + 207) :: .ref (z + 208) :: .ref (z + 209) :: .int (hpI 0) :: .int (hpI 0) :: .ref (z + 210) :: .ref (z + 211) :: .int (hpI 0) :: .int (hpI 0) :: .ref (z + 212) :: .long (hpJ 0) :: .long (hpJ 0) :: .long (hpJ 0) :: .ref (z + 213) :: .ref (z + 214) :: .ref (z + 215) :: .null :: [])) C O9 44 (by decide) hp45_195 (by decide) rfl hnm rfl wd_1300 rfl rfl (Nat.le_of_ble_eq_true rfl) rfl hP hS dX9_init_186 (fun H locs hP hS => ?_)
  obtain ⟨E46, e46⟩ : ∃ F, F = va_up E45 195 (.inr (9, (.int (hpI 0) :: .ref (z + 196) :: .ref (z + 197) :: .ref (z + 198) :: .ref (z + 199) :: .int (hpI 0) :: .ref (z + 200) :: .int (hpI 0) :: .int (hpI 0) :: .int (hpI 0) :: .int (hpI 0) :: .int (hpI 0) :: .int (hpI 0) :: .int (hpI (-1)) :: .ref (z + 201) :: .ref (z + 202) :: .int (hpI 0) :: .int (hpI 0) :: .int (hpI 0) :: .ref (z + 203) :: .ref (z + 204) :: .int (hpI 0) :: .int (hpI 0) :: .int (hpI 0) :: .int (hpI 0) :: .ref (z + 205) :: .ref (z + 206) :: .int (hpI 0) :: .int (hpI 0) :: .ref (z + 207) :: .ref (z + 208) :: .ref (z + 209) :: .int (hpI 0) :: .int (hpI 0) :: .ref (z + 210) :: .ref (z + 211) :: .int (hpI 0) :: .int (hpI 0) :: .ref (z + 212) :: .long (hpJ 0) :: .long (hpJ 0) :: .long (hpJ 0) :: .ref (z + 213) :: .ref (z + 214) :: .ref (z + 215) :: .null :: []))) := ⟨_, rfl⟩
  rw [← e46] at hP
  have hO46 : ∀ j, j < 195 → E46 j = E0 j := fun j h => by rw [e46]; exact (hp_ne (by omega)).trans (hO45 j h)
  have hp46_195 : E46 195 = .inr (9, (.int (hpI 0) :: .ref (z + 196) :: .ref (z + 197) :: .ref (z + 198) :: .ref (z + 199) :: .int (hpI 0) :: .ref (z + 200) :: .int (hpI 0) :: .int (hpI 0) :: .int (hpI 0) :: .int (hpI 0) :: .int (hpI 0) :: .int (hpI 0) :: .int (hpI (-1)) :: .ref (z + 201) :: .ref (z + 202) :: .int (hpI 0) :: .int (hpI 0) :: .int (hpI 0) :: .ref (z + 203) :: .ref (z + 204) :: .int (hpI 0) :: .int (hpI 0) :: .int (hpI 0) :: .int (hpI 0) :: .ref (z + 205) :: .ref (z + 206) :: .int (hpI 0) :: .int (hpI 0) :: .ref (z + 207) :: .ref (z + 208) :: .ref (z + 209) :: .int (hpI 0) :: .int (hpI 0) :: .ref (z + 210) :: .ref (z + 211) :: .int (hpI 0) :: .int (hpI 0) :: .ref (z + 212) :: .long (hpJ 0) :: .long (hpJ 0) :: .long (hpJ 0) :: .ref (z + 213) :: .ref (z + 214) :: .ref (z + 215) :: .null :: [])) := by rw [e46, hp_at]
  have hD46 : ∀ j, 195 < j → j < 216 → E46 j = hpE z cy j (hp0 j) := fun j h1 h2 => by
    rw [e46, hp_ne (by omega)]; exact hD45 j h1 (by omega)
  refine lv_aload_n C.1 C.2.1 dX9_init_189 rfl (lv_at hl 0 rfl) ?_
  refine lv_bipush (v := hpI 60) C.1 C.2.1 dX9_init_190 (by decide) ?_
  refine n_size (n := 216) h0 rfl hS hP (fun hsz => ?_)
  refine n_newa (atype := .long) (ci := 12) (t0 := 2) (a0 := (60, .inr (.inl (fun i => hpJ (hp0 216 i))))) C wd_305 rfl rfl (fun U h => h) (az_216) rfl (by decide) (Nat.le_of_ble_eq_true rfl) hP hS hsz (Nat.le_of_ble_eq_true rfl) (Nat.le_of_ble_eq_true rfl) dX9_init_192 (fun H hP hS => ?_)
  obtain ⟨E47, e47⟩ : ∃ F, F = va_up E46 216 (.inl (cy 12, 60, .inr (.inl (fun i => hpJ (hp0 216 i))))) := ⟨_, rfl⟩
  rw [← e47] at hP
  have hO47 : ∀ j, j < 195 → E47 j = E0 j := fun j h => by rw [e47]; exact (hp_ne (by omega)).trans (hO46 j h)
  have hp47_195 : E47 195 = .inr (9, (.int (hpI 0) :: .ref (z + 196) :: .ref (z + 197) :: .ref (z + 198) :: .ref (z + 199) :: .int (hpI 0) :: .ref (z + 200) :: .int (hpI 0) :: .int (hpI 0) :: .int (hpI 0) :: .int (hpI 0) :: .int (hpI 0) :: .int (hpI 0) :: .int (hpI (-1)) :: .ref (z + 201) :: .ref (z + 202) :: .int (hpI 0) :: .int (hpI 0) :: .int (hpI 0) :: .ref (z + 203) :: .ref (z + 204) :: .int (hpI 0) :: .int (hpI 0) :: .int (hpI 0) :: .int (hpI 0) :: .ref (z + 205) :: .ref (z + 206) :: .int (hpI 0) :: .int (hpI 0) :: .ref (z + 207) :: .ref (z + 208) :: .ref (z + 209) :: .int (hpI 0) :: .int (hpI 0) :: .ref (z + 210) :: .ref (z + 211) :: .int (hpI 0) :: .int (hpI 0) :: .ref (z + 212) :: .long (hpJ 0) :: .long (hpJ 0) :: .long (hpJ 0) :: .ref (z + 213) :: .ref (z + 214) :: .ref (z + 215) :: .null :: [])) := by rw [e47, hp_ne (by decide)]; exact hp46_195
  have hD47 : ∀ j, 195 < j → j < 217 → E47 j = hpE z cy j (hp0 j) := fun j h1 h2 => by
    rcases Nat.lt_or_ge j 216 with h | h
    · rw [e47, hp_ne (by omega)]; exact hD46 j h1 h
    · obtain rfl : j = 216 := by omega
      rw [e47, hp_at, ea_216]
  refine n_putF (fs' := (.int (hpI 0) :: .ref (z + 196) :: .ref (z + 197) :: .ref (z + 198) :: .ref (z + 199) :: .int (hpI 0) :: .ref (z + 200) :: .int (hpI 0) :: .int (hpI 0) :: .int (hpI 0) :: .int (hpI 0) :: .int (hpI 0) :: .int (hpI 0) :: .int (hpI (-1)) :: .ref (z + 201) :: .ref (z + 202) :: .int (hpI 0) :: .int (hpI 0) :: .int (hpI 0) :: .ref (z + 203) :: .ref (z + 204) :: .int (hpI 0) :: .int (hpI 0) :: .int (hpI 0) :: .int (hpI 0) :: .ref (z + 205) :: .ref (z + 206) :: .int (hpI 0) :: .int (hpI 0) :: .ref (z + 207) :: .ref (z + 208) :: .ref (z + 209) :: .int (hpI 0) :: .int (hpI 0) :: .ref (z + 210) :: .ref (z + 211) :: .int (hpI 0) :: .int (hpI 0) :: .ref (z + 212) :: .long (hpJ 0) :: .long (hpJ 0) :: .long (hpJ 0) :: .ref (z + 213) :: .ref (z + 214) :: .ref (z + 215) :: .ref (z + 216) :: [])) C O9 45 (by decide) hp47_195 (by decide) rfl hnm rfl wd_1301 rfl rfl (Nat.le_of_ble_eq_true rfl) rfl hP hS dX9_init_194 (fun H locs hP hS => ?_)
  obtain ⟨E48, e48⟩ : ∃ F, F = va_up E47 195 (.inr (9, (.int (hpI 0) :: .ref (z + 196) :: .ref (z + 197) :: .ref (z + 198) :: .ref (z + 199) :: .int (hpI 0) :: .ref (z + 200) :: .int (hpI 0) :: .int (hpI 0) :: .int (hpI 0) :: .int (hpI 0) :: .int (hpI 0) :: .int (hpI 0) :: .int (hpI (-1)) :: .ref (z + 201) :: .ref (z + 202) :: .int (hpI 0) :: .int (hpI 0) :: .int (hpI 0) :: .ref (z + 203) :: .ref (z + 204) :: .int (hpI 0) :: .int (hpI 0) :: .int (hpI 0) :: .int (hpI 0) :: .ref (z + 205) :: .ref (z + 206) :: .int (hpI 0) :: .int (hpI 0) :: .ref (z + 207) :: .ref (z + 208) :: .ref (z + 209) :: .int (hpI 0) :: .int (hpI 0) :: .ref (z + 210) :: .ref (z + 211) :: .int (hpI 0) :: .int (hpI 0) :: .ref (z + 212) :: .long (hpJ 0) :: .long (hpJ 0) :: .long (hpJ 0) :: .ref (z + 213) :: .ref (z + 214) :: .ref (z + 215) :: .ref (z + 216) :: []))) := ⟨_, rfl⟩
  rw [← e48] at hP
  have hO48 : ∀ j, j < 195 → E48 j = E0 j := fun j h => by rw [e48]; exact (hp_ne (by omega)).trans (hO47 j h)
  have hp48_195 : E48 195 = .inr (9, (.int (hpI 0) :: .ref (z + 196) :: .ref (z + 197) :: .ref (z + 198) :: .ref (z + 199) :: .int (hpI 0) :: .ref (z + 200) :: .int (hpI 0) :: .int (hpI 0) :: .int (hpI 0) :: .int (hpI 0) :: .int (hpI 0) :: .int (hpI 0) :: .int (hpI (-1)) :: .ref (z + 201) :: .ref (z + 202) :: .int (hpI 0) :: .int (hpI 0) :: .int (hpI 0) :: .ref (z + 203) :: .ref (z + 204) :: .int (hpI 0) :: .int (hpI 0) :: .int (hpI 0) :: .int (hpI 0) :: .ref (z + 205) :: .ref (z + 206) :: .int (hpI 0) :: .int (hpI 0) :: .ref (z + 207) :: .ref (z + 208) :: .ref (z + 209) :: .int (hpI 0) :: .int (hpI 0) :: .ref (z + 210) :: .ref (z + 211) :: .int (hpI 0) :: .int (hpI 0) :: .ref (z + 212) :: .long (hpJ 0) :: .long (hpJ 0) :: .long (hpJ 0) :: .ref (z + 213) :: .ref (z + 214) :: .ref (z + 215) :: .ref (z + 216) :: [])) := by rw [e48, hp_at]
  have hD48 : ∀ j, 195 < j → j < 217 → E48 j = hpE z cy j (hp0 j) := fun j h1 h2 => by
    rw [e48, hp_ne (by omega)]; exact hD47 j h1 (by omega)
  refine W.vret C.1 C.2.1 hr (fun t ht _ => ⟨⟨rfl, E48, by rw [ht]; exact hP, hO48, fun j h1 h2 => ?_⟩, hS.F ht⟩) (fun q hq => hS.2.2 q hq) dX9_init_197 hk
  rcases Nat.lt_or_ge 195 j with h | h
  · exact hD48 j h h2
  · obtain rfl : j = 195 := by omega
    exact hp48_195.trans eo_195.symm

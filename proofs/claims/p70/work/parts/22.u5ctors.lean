abbrev rK3 : Room := { frames := 1, cells := 2, slots := 80, locals := 20 }
set_option maxHeartbeats 4000000 in
set_option maxRecDepth 20000 in
theorem kX3_19 (l : Launch) (D : va_G) (cy : Nat → ClassId) (z : Nat) (E0 : Nat → va_E) (hE0 : E0 19 = .inr (3, [.null, .null, .int (hpI 0), .int (hpI 0), .int (hpI 0)])) : hpK l D cy z yX3_init cX3_init 1 rK3 19 3 2 80 E0 := by
  refine hp_metX rfl (Nat.le_of_ble_eq_true rfl) (fun p e s m below meth c ls C A hr hk hnm h0 hl hP hS => ?_)
  have hO0 : ∀ j, j < 19 → E0 j = E0 j := fun _ _ => rfl
  have hD0 : ∀ j, 19 < j → j < 20 → E0 j = hpE z cy j (hp0 j) := fun j h1 h2 => by omega
  refine lv_aload_n C.1 C.2.1 dX3_init_0 rfl (lv_at hl 0 rfl) ?_
  refine W.objInit C.1 C.2.1 C.2.2.2.1 (C.2.2.2.2.1 _ wd_151) (C.2.2.2.2.1 _ wd_24) (C.2.2.2.2.1 _ wd_25) rfl (by rw [C.2.2.1]; exact hl.1) rfl dX3_init_1 (Nat.le_of_ble_eq_true rfl) (Nat.le_of_ble_eq_true rfl) ?_
  refine lv_aload_n C.1 C.2.1 dX3_init_4 rfl (lv_at hl 0 rfl) ?_
  refine lv_bipush (v := hpI 40) C.1 C.2.1 dX3_init_5 (by decide) ?_
  refine n_size (n := 20) h0 rfl hS hP (fun hsz => ?_)
  refine n_newa (atype := .int) (ci := 11) (t0 := 1) (a0 := (40, .inl (fun i => hpI (hp0 20 i)))) C wd_135 rfl rfl (fun U h => h) (az_20) rfl (by decide) (Nat.le_of_ble_eq_true rfl) hP hS hsz (Nat.le_of_ble_eq_true rfl) (Nat.le_of_ble_eq_true rfl) dX3_init_7 (fun H hP hS => ?_)
  obtain ⟨E1, e1⟩ : ∃ F, F = va_up E0 20 (.inl (cy 11, 40, .inl (fun i => hpI (hp0 20 i)))) := ⟨_, rfl⟩
  rw [← e1] at hP
  have hO1 : ∀ j, j < 19 → E1 j = E0 j := fun j h => by rw [e1]; exact (hp_ne (by omega)).trans (hO0 j h)
  have hp1_19 : E1 19 = .inr (3, [.null, .null, .int (hpI 0), .int (hpI 0), .int (hpI 0)]) := by rw [e1, hp_ne (by decide)]; exact hE0
  have hD1 : ∀ j, 19 < j → j < 21 → E1 j = hpE z cy j (hp0 j) := fun j h1 h2 => by
    rcases Nat.lt_or_ge j 20 with h | h
    · rw [e1, hp_ne (by omega)]; exact hD0 j h1 h
    · obtain rfl : j = 20 := by omega
      rw [e1, hp_at, ea_20]
  refine n_putF (fs' := [.ref (z + 20), .null, .int (hpI 0), .int (hpI 0), .int (hpI 0)]) C O3 0 (by decide) hp1_19 (by decide) rfl hnm rfl wd_152 rfl rfl (Nat.le_of_ble_eq_true rfl) rfl hP hS dX3_init_9 (fun H locs hP hS => ?_)
  obtain ⟨E2, e2⟩ : ∃ F, F = va_up E1 19 (.inr (3, [.ref (z + 20), .null, .int (hpI 0), .int (hpI 0), .int (hpI 0)])) := ⟨_, rfl⟩
  rw [← e2] at hP
  have hO2 : ∀ j, j < 19 → E2 j = E0 j := fun j h => by rw [e2]; exact (hp_ne (by omega)).trans (hO1 j h)
  have hp2_19 : E2 19 = .inr (3, [.ref (z + 20), .null, .int (hpI 0), .int (hpI 0), .int (hpI 0)]) := by rw [e2, hp_at]
  have hD2 : ∀ j, 19 < j → j < 21 → E2 j = hpE z cy j (hp0 j) := fun j h1 h2 => by
    rw [e2, hp_ne (by omega)]; exact hD1 j h1 (by omega)
  refine lv_aload_n C.1 C.2.1 dX3_init_12 rfl (lv_at hl 0 rfl) ?_
  refine lv_bipush (v := hpI 40) C.1 C.2.1 dX3_init_13 (by decide) ?_
  refine n_size (n := 21) h0 rfl hS hP (fun hsz => ?_)
  refine n_newa (atype := .int) (ci := 11) (t0 := 1) (a0 := (40, .inl (fun i => hpI (hp0 21 i)))) C wd_135 rfl rfl (fun U h => h) (az_21) rfl (by decide) (Nat.le_of_ble_eq_true rfl) hP hS hsz (Nat.le_of_ble_eq_true rfl) (Nat.le_of_ble_eq_true rfl) dX3_init_15 (fun H hP hS => ?_)
  obtain ⟨E3, e3⟩ : ∃ F, F = va_up E2 21 (.inl (cy 11, 40, .inl (fun i => hpI (hp0 21 i)))) := ⟨_, rfl⟩
  rw [← e3] at hP
  have hO3 : ∀ j, j < 19 → E3 j = E0 j := fun j h => by rw [e3]; exact (hp_ne (by omega)).trans (hO2 j h)
  have hp3_19 : E3 19 = .inr (3, [.ref (z + 20), .null, .int (hpI 0), .int (hpI 0), .int (hpI 0)]) := by rw [e3, hp_ne (by decide)]; exact hp2_19
  have hD3 : ∀ j, 19 < j → j < 22 → E3 j = hpE z cy j (hp0 j) := fun j h1 h2 => by
    rcases Nat.lt_or_ge j 21 with h | h
    · rw [e3, hp_ne (by omega)]; exact hD2 j h1 h
    · obtain rfl : j = 21 := by omega
      rw [e3, hp_at, ea_21]
  refine n_putF (fs' := [.ref (z + 20), .ref (z + 21), .int (hpI 0), .int (hpI 0), .int (hpI 0)]) C O3 1 (by decide) hp3_19 (by decide) rfl hnm rfl wd_155 rfl rfl (Nat.le_of_ble_eq_true rfl) rfl hP hS dX3_init_17 (fun H locs hP hS => ?_)
  obtain ⟨E4, e4⟩ : ∃ F, F = va_up E3 19 (.inr (3, [.ref (z + 20), .ref (z + 21), .int (hpI 0), .int (hpI 0), .int (hpI 0)])) := ⟨_, rfl⟩
  rw [← e4] at hP
  have hO4 : ∀ j, j < 19 → E4 j = E0 j := fun j h => by rw [e4]; exact (hp_ne (by omega)).trans (hO3 j h)
  have hp4_19 : E4 19 = .inr (3, [.ref (z + 20), .ref (z + 21), .int (hpI 0), .int (hpI 0), .int (hpI 0)]) := by rw [e4, hp_at]
  have hD4 : ∀ j, 19 < j → j < 22 → E4 j = hpE z cy j (hp0 j) := fun j h1 h2 => by
    rw [e4, hp_ne (by omega)]; exact hD3 j h1 (by omega)
  refine W.vret C.1 C.2.1 hr (fun t ht _ => ⟨⟨rfl, E4, by rw [ht]; exact hP, hO4, fun j h1 h2 => ?_⟩, hS.F ht⟩) (fun q hq => hS.2.2 q hq) dX3_init_20 hk
  rcases Nat.lt_or_ge 19 j with h | h
  · exact hD4 j h h2
  · obtain rfl : j = 19 := by omega
    exact hp4_19.trans eo_19.symm
set_option maxHeartbeats 4000000 in
set_option maxRecDepth 20000 in
theorem kX3_22 (l : Launch) (D : va_G) (cy : Nat → ClassId) (z : Nat) (E0 : Nat → va_E) (hE0 : E0 22 = .inr (3, [.null, .null, .int (hpI 0), .int (hpI 0), .int (hpI 0)])) : hpK l D cy z yX3_init cX3_init 1 rK3 22 3 2 80 E0 := by
  refine hp_metX rfl (Nat.le_of_ble_eq_true rfl) (fun p e s m below meth c ls C A hr hk hnm h0 hl hP hS => ?_)
  have hO0 : ∀ j, j < 22 → E0 j = E0 j := fun _ _ => rfl
  have hD0 : ∀ j, 22 < j → j < 23 → E0 j = hpE z cy j (hp0 j) := fun j h1 h2 => by omega
  refine lv_aload_n C.1 C.2.1 dX3_init_0 rfl (lv_at hl 0 rfl) ?_
  refine W.objInit C.1 C.2.1 C.2.2.2.1 (C.2.2.2.2.1 _ wd_151) (C.2.2.2.2.1 _ wd_24) (C.2.2.2.2.1 _ wd_25) rfl (by rw [C.2.2.1]; exact hl.1) rfl dX3_init_1 (Nat.le_of_ble_eq_true rfl) (Nat.le_of_ble_eq_true rfl) ?_
  refine lv_aload_n C.1 C.2.1 dX3_init_4 rfl (lv_at hl 0 rfl) ?_
  refine lv_bipush (v := hpI 40) C.1 C.2.1 dX3_init_5 (by decide) ?_
  refine n_size (n := 23) h0 rfl hS hP (fun hsz => ?_)
  refine n_newa (atype := .int) (ci := 11) (t0 := 1) (a0 := (40, .inl (fun i => hpI (hp0 23 i)))) C wd_135 rfl rfl (fun U h => h) (az_23) rfl (by decide) (Nat.le_of_ble_eq_true rfl) hP hS hsz (Nat.le_of_ble_eq_true rfl) (Nat.le_of_ble_eq_true rfl) dX3_init_7 (fun H hP hS => ?_)
  obtain ⟨E1, e1⟩ : ∃ F, F = va_up E0 23 (.inl (cy 11, 40, .inl (fun i => hpI (hp0 23 i)))) := ⟨_, rfl⟩
  rw [← e1] at hP
  have hO1 : ∀ j, j < 22 → E1 j = E0 j := fun j h => by rw [e1]; exact (hp_ne (by omega)).trans (hO0 j h)
  have hp1_22 : E1 22 = .inr (3, [.null, .null, .int (hpI 0), .int (hpI 0), .int (hpI 0)]) := by rw [e1, hp_ne (by decide)]; exact hE0
  have hD1 : ∀ j, 22 < j → j < 24 → E1 j = hpE z cy j (hp0 j) := fun j h1 h2 => by
    rcases Nat.lt_or_ge j 23 with h | h
    · rw [e1, hp_ne (by omega)]; exact hD0 j h1 h
    · obtain rfl : j = 23 := by omega
      rw [e1, hp_at, ea_23]
  refine n_putF (fs' := [.ref (z + 23), .null, .int (hpI 0), .int (hpI 0), .int (hpI 0)]) C O3 0 (by decide) hp1_22 (by decide) rfl hnm rfl wd_152 rfl rfl (Nat.le_of_ble_eq_true rfl) rfl hP hS dX3_init_9 (fun H locs hP hS => ?_)
  obtain ⟨E2, e2⟩ : ∃ F, F = va_up E1 22 (.inr (3, [.ref (z + 23), .null, .int (hpI 0), .int (hpI 0), .int (hpI 0)])) := ⟨_, rfl⟩
  rw [← e2] at hP
  have hO2 : ∀ j, j < 22 → E2 j = E0 j := fun j h => by rw [e2]; exact (hp_ne (by omega)).trans (hO1 j h)
  have hp2_22 : E2 22 = .inr (3, [.ref (z + 23), .null, .int (hpI 0), .int (hpI 0), .int (hpI 0)]) := by rw [e2, hp_at]
  have hD2 : ∀ j, 22 < j → j < 24 → E2 j = hpE z cy j (hp0 j) := fun j h1 h2 => by
    rw [e2, hp_ne (by omega)]; exact hD1 j h1 (by omega)
  refine lv_aload_n C.1 C.2.1 dX3_init_12 rfl (lv_at hl 0 rfl) ?_
  refine lv_bipush (v := hpI 40) C.1 C.2.1 dX3_init_13 (by decide) ?_
  refine n_size (n := 24) h0 rfl hS hP (fun hsz => ?_)
  refine n_newa (atype := .int) (ci := 11) (t0 := 1) (a0 := (40, .inl (fun i => hpI (hp0 24 i)))) C wd_135 rfl rfl (fun U h => h) (az_24) rfl (by decide) (Nat.le_of_ble_eq_true rfl) hP hS hsz (Nat.le_of_ble_eq_true rfl) (Nat.le_of_ble_eq_true rfl) dX3_init_15 (fun H hP hS => ?_)
  obtain ⟨E3, e3⟩ : ∃ F, F = va_up E2 24 (.inl (cy 11, 40, .inl (fun i => hpI (hp0 24 i)))) := ⟨_, rfl⟩
  rw [← e3] at hP
  have hO3 : ∀ j, j < 22 → E3 j = E0 j := fun j h => by rw [e3]; exact (hp_ne (by omega)).trans (hO2 j h)
  have hp3_22 : E3 22 = .inr (3, [.ref (z + 23), .null, .int (hpI 0), .int (hpI 0), .int (hpI 0)]) := by rw [e3, hp_ne (by decide)]; exact hp2_22
  have hD3 : ∀ j, 22 < j → j < 25 → E3 j = hpE z cy j (hp0 j) := fun j h1 h2 => by
    rcases Nat.lt_or_ge j 24 with h | h
    · rw [e3, hp_ne (by omega)]; exact hD2 j h1 h
    · obtain rfl : j = 24 := by omega
      rw [e3, hp_at, ea_24]
  refine n_putF (fs' := [.ref (z + 23), .ref (z + 24), .int (hpI 0), .int (hpI 0), .int (hpI 0)]) C O3 1 (by decide) hp3_22 (by decide) rfl hnm rfl wd_155 rfl rfl (Nat.le_of_ble_eq_true rfl) rfl hP hS dX3_init_17 (fun H locs hP hS => ?_)
  obtain ⟨E4, e4⟩ : ∃ F, F = va_up E3 22 (.inr (3, [.ref (z + 23), .ref (z + 24), .int (hpI 0), .int (hpI 0), .int (hpI 0)])) := ⟨_, rfl⟩
  rw [← e4] at hP
  have hO4 : ∀ j, j < 22 → E4 j = E0 j := fun j h => by rw [e4]; exact (hp_ne (by omega)).trans (hO3 j h)
  have hp4_22 : E4 22 = .inr (3, [.ref (z + 23), .ref (z + 24), .int (hpI 0), .int (hpI 0), .int (hpI 0)]) := by rw [e4, hp_at]
  have hD4 : ∀ j, 22 < j → j < 25 → E4 j = hpE z cy j (hp0 j) := fun j h1 h2 => by
    rw [e4, hp_ne (by omega)]; exact hD3 j h1 (by omega)
  refine W.vret C.1 C.2.1 hr (fun t ht _ => ⟨⟨rfl, E4, by rw [ht]; exact hP, hO4, fun j h1 h2 => ?_⟩, hS.F ht⟩) (fun q hq => hS.2.2 q hq) dX3_init_20 hk
  rcases Nat.lt_or_ge 22 j with h | h
  · exact hD4 j h h2
  · obtain rfl : j = 22 := by omega
    exact hp4_22.trans eo_22.symm
set_option maxHeartbeats 4000000 in
set_option maxRecDepth 20000 in
theorem kX3_25 (l : Launch) (D : va_G) (cy : Nat → ClassId) (z : Nat) (E0 : Nat → va_E) (hE0 : E0 25 = .inr (3, [.null, .null, .int (hpI 0), .int (hpI 0), .int (hpI 0)])) : hpK l D cy z yX3_init cX3_init 1 rK3 25 3 2 80 E0 := by
  refine hp_metX rfl (Nat.le_of_ble_eq_true rfl) (fun p e s m below meth c ls C A hr hk hnm h0 hl hP hS => ?_)
  have hO0 : ∀ j, j < 25 → E0 j = E0 j := fun _ _ => rfl
  have hD0 : ∀ j, 25 < j → j < 26 → E0 j = hpE z cy j (hp0 j) := fun j h1 h2 => by omega
  refine lv_aload_n C.1 C.2.1 dX3_init_0 rfl (lv_at hl 0 rfl) ?_
  refine W.objInit C.1 C.2.1 C.2.2.2.1 (C.2.2.2.2.1 _ wd_151) (C.2.2.2.2.1 _ wd_24) (C.2.2.2.2.1 _ wd_25) rfl (by rw [C.2.2.1]; exact hl.1) rfl dX3_init_1 (Nat.le_of_ble_eq_true rfl) (Nat.le_of_ble_eq_true rfl) ?_
  refine lv_aload_n C.1 C.2.1 dX3_init_4 rfl (lv_at hl 0 rfl) ?_
  refine lv_bipush (v := hpI 40) C.1 C.2.1 dX3_init_5 (by decide) ?_
  refine n_size (n := 26) h0 rfl hS hP (fun hsz => ?_)
  refine n_newa (atype := .int) (ci := 11) (t0 := 1) (a0 := (40, .inl (fun i => hpI (hp0 26 i)))) C wd_135 rfl rfl (fun U h => h) (az_26) rfl (by decide) (Nat.le_of_ble_eq_true rfl) hP hS hsz (Nat.le_of_ble_eq_true rfl) (Nat.le_of_ble_eq_true rfl) dX3_init_7 (fun H hP hS => ?_)
  obtain ⟨E1, e1⟩ : ∃ F, F = va_up E0 26 (.inl (cy 11, 40, .inl (fun i => hpI (hp0 26 i)))) := ⟨_, rfl⟩
  rw [← e1] at hP
  have hO1 : ∀ j, j < 25 → E1 j = E0 j := fun j h => by rw [e1]; exact (hp_ne (by omega)).trans (hO0 j h)
  have hp1_25 : E1 25 = .inr (3, [.null, .null, .int (hpI 0), .int (hpI 0), .int (hpI 0)]) := by rw [e1, hp_ne (by decide)]; exact hE0
  have hD1 : ∀ j, 25 < j → j < 27 → E1 j = hpE z cy j (hp0 j) := fun j h1 h2 => by
    rcases Nat.lt_or_ge j 26 with h | h
    · rw [e1, hp_ne (by omega)]; exact hD0 j h1 h
    · obtain rfl : j = 26 := by omega
      rw [e1, hp_at, ea_26]
  refine n_putF (fs' := [.ref (z + 26), .null, .int (hpI 0), .int (hpI 0), .int (hpI 0)]) C O3 0 (by decide) hp1_25 (by decide) rfl hnm rfl wd_152 rfl rfl (Nat.le_of_ble_eq_true rfl) rfl hP hS dX3_init_9 (fun H locs hP hS => ?_)
  obtain ⟨E2, e2⟩ : ∃ F, F = va_up E1 25 (.inr (3, [.ref (z + 26), .null, .int (hpI 0), .int (hpI 0), .int (hpI 0)])) := ⟨_, rfl⟩
  rw [← e2] at hP
  have hO2 : ∀ j, j < 25 → E2 j = E0 j := fun j h => by rw [e2]; exact (hp_ne (by omega)).trans (hO1 j h)
  have hp2_25 : E2 25 = .inr (3, [.ref (z + 26), .null, .int (hpI 0), .int (hpI 0), .int (hpI 0)]) := by rw [e2, hp_at]
  have hD2 : ∀ j, 25 < j → j < 27 → E2 j = hpE z cy j (hp0 j) := fun j h1 h2 => by
    rw [e2, hp_ne (by omega)]; exact hD1 j h1 (by omega)
  refine lv_aload_n C.1 C.2.1 dX3_init_12 rfl (lv_at hl 0 rfl) ?_
  refine lv_bipush (v := hpI 40) C.1 C.2.1 dX3_init_13 (by decide) ?_
  refine n_size (n := 27) h0 rfl hS hP (fun hsz => ?_)
  refine n_newa (atype := .int) (ci := 11) (t0 := 1) (a0 := (40, .inl (fun i => hpI (hp0 27 i)))) C wd_135 rfl rfl (fun U h => h) (az_27) rfl (by decide) (Nat.le_of_ble_eq_true rfl) hP hS hsz (Nat.le_of_ble_eq_true rfl) (Nat.le_of_ble_eq_true rfl) dX3_init_15 (fun H hP hS => ?_)
  obtain ⟨E3, e3⟩ : ∃ F, F = va_up E2 27 (.inl (cy 11, 40, .inl (fun i => hpI (hp0 27 i)))) := ⟨_, rfl⟩
  rw [← e3] at hP
  have hO3 : ∀ j, j < 25 → E3 j = E0 j := fun j h => by rw [e3]; exact (hp_ne (by omega)).trans (hO2 j h)
  have hp3_25 : E3 25 = .inr (3, [.ref (z + 26), .null, .int (hpI 0), .int (hpI 0), .int (hpI 0)]) := by rw [e3, hp_ne (by decide)]; exact hp2_25
  have hD3 : ∀ j, 25 < j → j < 28 → E3 j = hpE z cy j (hp0 j) := fun j h1 h2 => by
    rcases Nat.lt_or_ge j 27 with h | h
    · rw [e3, hp_ne (by omega)]; exact hD2 j h1 h
    · obtain rfl : j = 27 := by omega
      rw [e3, hp_at, ea_27]
  refine n_putF (fs' := [.ref (z + 26), .ref (z + 27), .int (hpI 0), .int (hpI 0), .int (hpI 0)]) C O3 1 (by decide) hp3_25 (by decide) rfl hnm rfl wd_155 rfl rfl (Nat.le_of_ble_eq_true rfl) rfl hP hS dX3_init_17 (fun H locs hP hS => ?_)
  obtain ⟨E4, e4⟩ : ∃ F, F = va_up E3 25 (.inr (3, [.ref (z + 26), .ref (z + 27), .int (hpI 0), .int (hpI 0), .int (hpI 0)])) := ⟨_, rfl⟩
  rw [← e4] at hP
  have hO4 : ∀ j, j < 25 → E4 j = E0 j := fun j h => by rw [e4]; exact (hp_ne (by omega)).trans (hO3 j h)
  have hp4_25 : E4 25 = .inr (3, [.ref (z + 26), .ref (z + 27), .int (hpI 0), .int (hpI 0), .int (hpI 0)]) := by rw [e4, hp_at]
  have hD4 : ∀ j, 25 < j → j < 28 → E4 j = hpE z cy j (hp0 j) := fun j h1 h2 => by
    rw [e4, hp_ne (by omega)]; exact hD3 j h1 (by omega)
  refine W.vret C.1 C.2.1 hr (fun t ht _ => ⟨⟨rfl, E4, by rw [ht]; exact hP, hO4, fun j h1 h2 => ?_⟩, hS.F ht⟩) (fun q hq => hS.2.2 q hq) dX3_init_20 hk
  rcases Nat.lt_or_ge 25 j with h | h
  · exact hD4 j h h2
  · obtain rfl : j = 25 := by omega
    exact hp4_25.trans eo_25.symm
set_option maxHeartbeats 4000000 in
set_option maxRecDepth 20000 in
theorem kX3_28 (l : Launch) (D : va_G) (cy : Nat → ClassId) (z : Nat) (E0 : Nat → va_E) (hE0 : E0 28 = .inr (3, [.null, .null, .int (hpI 0), .int (hpI 0), .int (hpI 0)])) : hpK l D cy z yX3_init cX3_init 1 rK3 28 3 2 80 E0 := by
  refine hp_metX rfl (Nat.le_of_ble_eq_true rfl) (fun p e s m below meth c ls C A hr hk hnm h0 hl hP hS => ?_)
  have hO0 : ∀ j, j < 28 → E0 j = E0 j := fun _ _ => rfl
  have hD0 : ∀ j, 28 < j → j < 29 → E0 j = hpE z cy j (hp0 j) := fun j h1 h2 => by omega
  refine lv_aload_n C.1 C.2.1 dX3_init_0 rfl (lv_at hl 0 rfl) ?_
  refine W.objInit C.1 C.2.1 C.2.2.2.1 (C.2.2.2.2.1 _ wd_151) (C.2.2.2.2.1 _ wd_24) (C.2.2.2.2.1 _ wd_25) rfl (by rw [C.2.2.1]; exact hl.1) rfl dX3_init_1 (Nat.le_of_ble_eq_true rfl) (Nat.le_of_ble_eq_true rfl) ?_
  refine lv_aload_n C.1 C.2.1 dX3_init_4 rfl (lv_at hl 0 rfl) ?_
  refine lv_bipush (v := hpI 40) C.1 C.2.1 dX3_init_5 (by decide) ?_
  refine n_size (n := 29) h0 rfl hS hP (fun hsz => ?_)
  refine n_newa (atype := .int) (ci := 11) (t0 := 1) (a0 := (40, .inl (fun i => hpI (hp0 29 i)))) C wd_135 rfl rfl (fun U h => h) (az_29) rfl (by decide) (Nat.le_of_ble_eq_true rfl) hP hS hsz (Nat.le_of_ble_eq_true rfl) (Nat.le_of_ble_eq_true rfl) dX3_init_7 (fun H hP hS => ?_)
  obtain ⟨E1, e1⟩ : ∃ F, F = va_up E0 29 (.inl (cy 11, 40, .inl (fun i => hpI (hp0 29 i)))) := ⟨_, rfl⟩
  rw [← e1] at hP
  have hO1 : ∀ j, j < 28 → E1 j = E0 j := fun j h => by rw [e1]; exact (hp_ne (by omega)).trans (hO0 j h)
  have hp1_28 : E1 28 = .inr (3, [.null, .null, .int (hpI 0), .int (hpI 0), .int (hpI 0)]) := by rw [e1, hp_ne (by decide)]; exact hE0
  have hD1 : ∀ j, 28 < j → j < 30 → E1 j = hpE z cy j (hp0 j) := fun j h1 h2 => by
    rcases Nat.lt_or_ge j 29 with h | h
    · rw [e1, hp_ne (by omega)]; exact hD0 j h1 h
    · obtain rfl : j = 29 := by omega
      rw [e1, hp_at, ea_29]
  refine n_putF (fs' := [.ref (z + 29), .null, .int (hpI 0), .int (hpI 0), .int (hpI 0)]) C O3 0 (by decide) hp1_28 (by decide) rfl hnm rfl wd_152 rfl rfl (Nat.le_of_ble_eq_true rfl) rfl hP hS dX3_init_9 (fun H locs hP hS => ?_)
  obtain ⟨E2, e2⟩ : ∃ F, F = va_up E1 28 (.inr (3, [.ref (z + 29), .null, .int (hpI 0), .int (hpI 0), .int (hpI 0)])) := ⟨_, rfl⟩
  rw [← e2] at hP
  have hO2 : ∀ j, j < 28 → E2 j = E0 j := fun j h => by rw [e2]; exact (hp_ne (by omega)).trans (hO1 j h)
  have hp2_28 : E2 28 = .inr (3, [.ref (z + 29), .null, .int (hpI 0), .int (hpI 0), .int (hpI 0)]) := by rw [e2, hp_at]
  have hD2 : ∀ j, 28 < j → j < 30 → E2 j = hpE z cy j (hp0 j) := fun j h1 h2 => by
    rw [e2, hp_ne (by omega)]; exact hD1 j h1 (by omega)
  refine lv_aload_n C.1 C.2.1 dX3_init_12 rfl (lv_at hl 0 rfl) ?_
  refine lv_bipush (v := hpI 40) C.1 C.2.1 dX3_init_13 (by decide) ?_
  refine n_size (n := 30) h0 rfl hS hP (fun hsz => ?_)
  refine n_newa (atype := .int) (ci := 11) (t0 := 1) (a0 := (40, .inl (fun i => hpI (hp0 30 i)))) C wd_135 rfl rfl (fun U h => h) (az_30) rfl (by decide) (Nat.le_of_ble_eq_true rfl) hP hS hsz (Nat.le_of_ble_eq_true rfl) (Nat.le_of_ble_eq_true rfl) dX3_init_15 (fun H hP hS => ?_)
  obtain ⟨E3, e3⟩ : ∃ F, F = va_up E2 30 (.inl (cy 11, 40, .inl (fun i => hpI (hp0 30 i)))) := ⟨_, rfl⟩
  rw [← e3] at hP
  have hO3 : ∀ j, j < 28 → E3 j = E0 j := fun j h => by rw [e3]; exact (hp_ne (by omega)).trans (hO2 j h)
  have hp3_28 : E3 28 = .inr (3, [.ref (z + 29), .null, .int (hpI 0), .int (hpI 0), .int (hpI 0)]) := by rw [e3, hp_ne (by decide)]; exact hp2_28
  have hD3 : ∀ j, 28 < j → j < 31 → E3 j = hpE z cy j (hp0 j) := fun j h1 h2 => by
    rcases Nat.lt_or_ge j 30 with h | h
    · rw [e3, hp_ne (by omega)]; exact hD2 j h1 h
    · obtain rfl : j = 30 := by omega
      rw [e3, hp_at, ea_30]
  refine n_putF (fs' := [.ref (z + 29), .ref (z + 30), .int (hpI 0), .int (hpI 0), .int (hpI 0)]) C O3 1 (by decide) hp3_28 (by decide) rfl hnm rfl wd_155 rfl rfl (Nat.le_of_ble_eq_true rfl) rfl hP hS dX3_init_17 (fun H locs hP hS => ?_)
  obtain ⟨E4, e4⟩ : ∃ F, F = va_up E3 28 (.inr (3, [.ref (z + 29), .ref (z + 30), .int (hpI 0), .int (hpI 0), .int (hpI 0)])) := ⟨_, rfl⟩
  rw [← e4] at hP
  have hO4 : ∀ j, j < 28 → E4 j = E0 j := fun j h => by rw [e4]; exact (hp_ne (by omega)).trans (hO3 j h)
  have hp4_28 : E4 28 = .inr (3, [.ref (z + 29), .ref (z + 30), .int (hpI 0), .int (hpI 0), .int (hpI 0)]) := by rw [e4, hp_at]
  have hD4 : ∀ j, 28 < j → j < 31 → E4 j = hpE z cy j (hp0 j) := fun j h1 h2 => by
    rw [e4, hp_ne (by omega)]; exact hD3 j h1 (by omega)
  refine W.vret C.1 C.2.1 hr (fun t ht _ => ⟨⟨rfl, E4, by rw [ht]; exact hP, hO4, fun j h1 h2 => ?_⟩, hS.F ht⟩) (fun q hq => hS.2.2 q hq) dX3_init_20 hk
  rcases Nat.lt_or_ge 28 j with h | h
  · exact hD4 j h h2
  · obtain rfl : j = 28 := by omega
    exact hp4_28.trans eo_28.symm
set_option maxHeartbeats 4000000 in
set_option maxRecDepth 20000 in
theorem kX3_31 (l : Launch) (D : va_G) (cy : Nat → ClassId) (z : Nat) (E0 : Nat → va_E) (hE0 : E0 31 = .inr (3, [.null, .null, .int (hpI 0), .int (hpI 0), .int (hpI 0)])) : hpK l D cy z yX3_init cX3_init 1 rK3 31 3 2 80 E0 := by
  refine hp_metX rfl (Nat.le_of_ble_eq_true rfl) (fun p e s m below meth c ls C A hr hk hnm h0 hl hP hS => ?_)
  have hO0 : ∀ j, j < 31 → E0 j = E0 j := fun _ _ => rfl
  have hD0 : ∀ j, 31 < j → j < 32 → E0 j = hpE z cy j (hp0 j) := fun j h1 h2 => by omega
  refine lv_aload_n C.1 C.2.1 dX3_init_0 rfl (lv_at hl 0 rfl) ?_
  refine W.objInit C.1 C.2.1 C.2.2.2.1 (C.2.2.2.2.1 _ wd_151) (C.2.2.2.2.1 _ wd_24) (C.2.2.2.2.1 _ wd_25) rfl (by rw [C.2.2.1]; exact hl.1) rfl dX3_init_1 (Nat.le_of_ble_eq_true rfl) (Nat.le_of_ble_eq_true rfl) ?_
  refine lv_aload_n C.1 C.2.1 dX3_init_4 rfl (lv_at hl 0 rfl) ?_
  refine lv_bipush (v := hpI 40) C.1 C.2.1 dX3_init_5 (by decide) ?_
  refine n_size (n := 32) h0 rfl hS hP (fun hsz => ?_)
  refine n_newa (atype := .int) (ci := 11) (t0 := 1) (a0 := (40, .inl (fun i => hpI (hp0 32 i)))) C wd_135 rfl rfl (fun U h => h) (az_32) rfl (by decide) (Nat.le_of_ble_eq_true rfl) hP hS hsz (Nat.le_of_ble_eq_true rfl) (Nat.le_of_ble_eq_true rfl) dX3_init_7 (fun H hP hS => ?_)
  obtain ⟨E1, e1⟩ : ∃ F, F = va_up E0 32 (.inl (cy 11, 40, .inl (fun i => hpI (hp0 32 i)))) := ⟨_, rfl⟩
  rw [← e1] at hP
  have hO1 : ∀ j, j < 31 → E1 j = E0 j := fun j h => by rw [e1]; exact (hp_ne (by omega)).trans (hO0 j h)
  have hp1_31 : E1 31 = .inr (3, [.null, .null, .int (hpI 0), .int (hpI 0), .int (hpI 0)]) := by rw [e1, hp_ne (by decide)]; exact hE0
  have hD1 : ∀ j, 31 < j → j < 33 → E1 j = hpE z cy j (hp0 j) := fun j h1 h2 => by
    rcases Nat.lt_or_ge j 32 with h | h
    · rw [e1, hp_ne (by omega)]; exact hD0 j h1 h
    · obtain rfl : j = 32 := by omega
      rw [e1, hp_at, ea_32]
  refine n_putF (fs' := [.ref (z + 32), .null, .int (hpI 0), .int (hpI 0), .int (hpI 0)]) C O3 0 (by decide) hp1_31 (by decide) rfl hnm rfl wd_152 rfl rfl (Nat.le_of_ble_eq_true rfl) rfl hP hS dX3_init_9 (fun H locs hP hS => ?_)
  obtain ⟨E2, e2⟩ : ∃ F, F = va_up E1 31 (.inr (3, [.ref (z + 32), .null, .int (hpI 0), .int (hpI 0), .int (hpI 0)])) := ⟨_, rfl⟩
  rw [← e2] at hP
  have hO2 : ∀ j, j < 31 → E2 j = E0 j := fun j h => by rw [e2]; exact (hp_ne (by omega)).trans (hO1 j h)
  have hp2_31 : E2 31 = .inr (3, [.ref (z + 32), .null, .int (hpI 0), .int (hpI 0), .int (hpI 0)]) := by rw [e2, hp_at]
  have hD2 : ∀ j, 31 < j → j < 33 → E2 j = hpE z cy j (hp0 j) := fun j h1 h2 => by
    rw [e2, hp_ne (by omega)]; exact hD1 j h1 (by omega)
  refine lv_aload_n C.1 C.2.1 dX3_init_12 rfl (lv_at hl 0 rfl) ?_
  refine lv_bipush (v := hpI 40) C.1 C.2.1 dX3_init_13 (by decide) ?_
  refine n_size (n := 33) h0 rfl hS hP (fun hsz => ?_)
  refine n_newa (atype := .int) (ci := 11) (t0 := 1) (a0 := (40, .inl (fun i => hpI (hp0 33 i)))) C wd_135 rfl rfl (fun U h => h) (az_33) rfl (by decide) (Nat.le_of_ble_eq_true rfl) hP hS hsz (Nat.le_of_ble_eq_true rfl) (Nat.le_of_ble_eq_true rfl) dX3_init_15 (fun H hP hS => ?_)
  obtain ⟨E3, e3⟩ : ∃ F, F = va_up E2 33 (.inl (cy 11, 40, .inl (fun i => hpI (hp0 33 i)))) := ⟨_, rfl⟩
  rw [← e3] at hP
  have hO3 : ∀ j, j < 31 → E3 j = E0 j := fun j h => by rw [e3]; exact (hp_ne (by omega)).trans (hO2 j h)
  have hp3_31 : E3 31 = .inr (3, [.ref (z + 32), .null, .int (hpI 0), .int (hpI 0), .int (hpI 0)]) := by rw [e3, hp_ne (by decide)]; exact hp2_31
  have hD3 : ∀ j, 31 < j → j < 34 → E3 j = hpE z cy j (hp0 j) := fun j h1 h2 => by
    rcases Nat.lt_or_ge j 33 with h | h
    · rw [e3, hp_ne (by omega)]; exact hD2 j h1 h
    · obtain rfl : j = 33 := by omega
      rw [e3, hp_at, ea_33]
  refine n_putF (fs' := [.ref (z + 32), .ref (z + 33), .int (hpI 0), .int (hpI 0), .int (hpI 0)]) C O3 1 (by decide) hp3_31 (by decide) rfl hnm rfl wd_155 rfl rfl (Nat.le_of_ble_eq_true rfl) rfl hP hS dX3_init_17 (fun H locs hP hS => ?_)
  obtain ⟨E4, e4⟩ : ∃ F, F = va_up E3 31 (.inr (3, [.ref (z + 32), .ref (z + 33), .int (hpI 0), .int (hpI 0), .int (hpI 0)])) := ⟨_, rfl⟩
  rw [← e4] at hP
  have hO4 : ∀ j, j < 31 → E4 j = E0 j := fun j h => by rw [e4]; exact (hp_ne (by omega)).trans (hO3 j h)
  have hp4_31 : E4 31 = .inr (3, [.ref (z + 32), .ref (z + 33), .int (hpI 0), .int (hpI 0), .int (hpI 0)]) := by rw [e4, hp_at]
  have hD4 : ∀ j, 31 < j → j < 34 → E4 j = hpE z cy j (hp0 j) := fun j h1 h2 => by
    rw [e4, hp_ne (by omega)]; exact hD3 j h1 (by omega)
  refine W.vret C.1 C.2.1 hr (fun t ht _ => ⟨⟨rfl, E4, by rw [ht]; exact hP, hO4, fun j h1 h2 => ?_⟩, hS.F ht⟩) (fun q hq => hS.2.2 q hq) dX3_init_20 hk
  rcases Nat.lt_or_ge 31 j with h | h
  · exact hD4 j h h2
  · obtain rfl : j = 31 := by omega
    exact hp4_31.trans eo_31.symm
set_option maxHeartbeats 4000000 in
set_option maxRecDepth 20000 in
theorem kX3_34 (l : Launch) (D : va_G) (cy : Nat → ClassId) (z : Nat) (E0 : Nat → va_E) (hE0 : E0 34 = .inr (3, [.null, .null, .int (hpI 0), .int (hpI 0), .int (hpI 0)])) : hpK l D cy z yX3_init cX3_init 1 rK3 34 3 2 80 E0 := by
  refine hp_metX rfl (Nat.le_of_ble_eq_true rfl) (fun p e s m below meth c ls C A hr hk hnm h0 hl hP hS => ?_)
  have hO0 : ∀ j, j < 34 → E0 j = E0 j := fun _ _ => rfl
  have hD0 : ∀ j, 34 < j → j < 35 → E0 j = hpE z cy j (hp0 j) := fun j h1 h2 => by omega
  refine lv_aload_n C.1 C.2.1 dX3_init_0 rfl (lv_at hl 0 rfl) ?_
  refine W.objInit C.1 C.2.1 C.2.2.2.1 (C.2.2.2.2.1 _ wd_151) (C.2.2.2.2.1 _ wd_24) (C.2.2.2.2.1 _ wd_25) rfl (by rw [C.2.2.1]; exact hl.1) rfl dX3_init_1 (Nat.le_of_ble_eq_true rfl) (Nat.le_of_ble_eq_true rfl) ?_
  refine lv_aload_n C.1 C.2.1 dX3_init_4 rfl (lv_at hl 0 rfl) ?_
  refine lv_bipush (v := hpI 40) C.1 C.2.1 dX3_init_5 (by decide) ?_
  refine n_size (n := 35) h0 rfl hS hP (fun hsz => ?_)
  refine n_newa (atype := .int) (ci := 11) (t0 := 1) (a0 := (40, .inl (fun i => hpI (hp0 35 i)))) C wd_135 rfl rfl (fun U h => h) (az_35) rfl (by decide) (Nat.le_of_ble_eq_true rfl) hP hS hsz (Nat.le_of_ble_eq_true rfl) (Nat.le_of_ble_eq_true rfl) dX3_init_7 (fun H hP hS => ?_)
  obtain ⟨E1, e1⟩ : ∃ F, F = va_up E0 35 (.inl (cy 11, 40, .inl (fun i => hpI (hp0 35 i)))) := ⟨_, rfl⟩
  rw [← e1] at hP
  have hO1 : ∀ j, j < 34 → E1 j = E0 j := fun j h => by rw [e1]; exact (hp_ne (by omega)).trans (hO0 j h)
  have hp1_34 : E1 34 = .inr (3, [.null, .null, .int (hpI 0), .int (hpI 0), .int (hpI 0)]) := by rw [e1, hp_ne (by decide)]; exact hE0
  have hD1 : ∀ j, 34 < j → j < 36 → E1 j = hpE z cy j (hp0 j) := fun j h1 h2 => by
    rcases Nat.lt_or_ge j 35 with h | h
    · rw [e1, hp_ne (by omega)]; exact hD0 j h1 h
    · obtain rfl : j = 35 := by omega
      rw [e1, hp_at, ea_35]
  refine n_putF (fs' := [.ref (z + 35), .null, .int (hpI 0), .int (hpI 0), .int (hpI 0)]) C O3 0 (by decide) hp1_34 (by decide) rfl hnm rfl wd_152 rfl rfl (Nat.le_of_ble_eq_true rfl) rfl hP hS dX3_init_9 (fun H locs hP hS => ?_)
  obtain ⟨E2, e2⟩ : ∃ F, F = va_up E1 34 (.inr (3, [.ref (z + 35), .null, .int (hpI 0), .int (hpI 0), .int (hpI 0)])) := ⟨_, rfl⟩
  rw [← e2] at hP
  have hO2 : ∀ j, j < 34 → E2 j = E0 j := fun j h => by rw [e2]; exact (hp_ne (by omega)).trans (hO1 j h)
  have hp2_34 : E2 34 = .inr (3, [.ref (z + 35), .null, .int (hpI 0), .int (hpI 0), .int (hpI 0)]) := by rw [e2, hp_at]
  have hD2 : ∀ j, 34 < j → j < 36 → E2 j = hpE z cy j (hp0 j) := fun j h1 h2 => by
    rw [e2, hp_ne (by omega)]; exact hD1 j h1 (by omega)
  refine lv_aload_n C.1 C.2.1 dX3_init_12 rfl (lv_at hl 0 rfl) ?_
  refine lv_bipush (v := hpI 40) C.1 C.2.1 dX3_init_13 (by decide) ?_
  refine n_size (n := 36) h0 rfl hS hP (fun hsz => ?_)
  refine n_newa (atype := .int) (ci := 11) (t0 := 1) (a0 := (40, .inl (fun i => hpI (hp0 36 i)))) C wd_135 rfl rfl (fun U h => h) (az_36) rfl (by decide) (Nat.le_of_ble_eq_true rfl) hP hS hsz (Nat.le_of_ble_eq_true rfl) (Nat.le_of_ble_eq_true rfl) dX3_init_15 (fun H hP hS => ?_)
  obtain ⟨E3, e3⟩ : ∃ F, F = va_up E2 36 (.inl (cy 11, 40, .inl (fun i => hpI (hp0 36 i)))) := ⟨_, rfl⟩
  rw [← e3] at hP
  have hO3 : ∀ j, j < 34 → E3 j = E0 j := fun j h => by rw [e3]; exact (hp_ne (by omega)).trans (hO2 j h)
  have hp3_34 : E3 34 = .inr (3, [.ref (z + 35), .null, .int (hpI 0), .int (hpI 0), .int (hpI 0)]) := by rw [e3, hp_ne (by decide)]; exact hp2_34
  have hD3 : ∀ j, 34 < j → j < 37 → E3 j = hpE z cy j (hp0 j) := fun j h1 h2 => by
    rcases Nat.lt_or_ge j 36 with h | h
    · rw [e3, hp_ne (by omega)]; exact hD2 j h1 h
    · obtain rfl : j = 36 := by omega
      rw [e3, hp_at, ea_36]
  refine n_putF (fs' := [.ref (z + 35), .ref (z + 36), .int (hpI 0), .int (hpI 0), .int (hpI 0)]) C O3 1 (by decide) hp3_34 (by decide) rfl hnm rfl wd_155 rfl rfl (Nat.le_of_ble_eq_true rfl) rfl hP hS dX3_init_17 (fun H locs hP hS => ?_)
  obtain ⟨E4, e4⟩ : ∃ F, F = va_up E3 34 (.inr (3, [.ref (z + 35), .ref (z + 36), .int (hpI 0), .int (hpI 0), .int (hpI 0)])) := ⟨_, rfl⟩
  rw [← e4] at hP
  have hO4 : ∀ j, j < 34 → E4 j = E0 j := fun j h => by rw [e4]; exact (hp_ne (by omega)).trans (hO3 j h)
  have hp4_34 : E4 34 = .inr (3, [.ref (z + 35), .ref (z + 36), .int (hpI 0), .int (hpI 0), .int (hpI 0)]) := by rw [e4, hp_at]
  have hD4 : ∀ j, 34 < j → j < 37 → E4 j = hpE z cy j (hp0 j) := fun j h1 h2 => by
    rw [e4, hp_ne (by omega)]; exact hD3 j h1 (by omega)
  refine W.vret C.1 C.2.1 hr (fun t ht _ => ⟨⟨rfl, E4, by rw [ht]; exact hP, hO4, fun j h1 h2 => ?_⟩, hS.F ht⟩) (fun q hq => hS.2.2 q hq) dX3_init_20 hk
  rcases Nat.lt_or_ge 34 j with h | h
  · exact hD4 j h h2
  · obtain rfl : j = 34 := by omega
    exact hp4_34.trans eo_34.symm
set_option maxHeartbeats 4000000 in
set_option maxRecDepth 20000 in
theorem kX3_37 (l : Launch) (D : va_G) (cy : Nat → ClassId) (z : Nat) (E0 : Nat → va_E) (hE0 : E0 37 = .inr (3, [.null, .null, .int (hpI 0), .int (hpI 0), .int (hpI 0)])) : hpK l D cy z yX3_init cX3_init 1 rK3 37 3 2 80 E0 := by
  refine hp_metX rfl (Nat.le_of_ble_eq_true rfl) (fun p e s m below meth c ls C A hr hk hnm h0 hl hP hS => ?_)
  have hO0 : ∀ j, j < 37 → E0 j = E0 j := fun _ _ => rfl
  have hD0 : ∀ j, 37 < j → j < 38 → E0 j = hpE z cy j (hp0 j) := fun j h1 h2 => by omega
  refine lv_aload_n C.1 C.2.1 dX3_init_0 rfl (lv_at hl 0 rfl) ?_
  refine W.objInit C.1 C.2.1 C.2.2.2.1 (C.2.2.2.2.1 _ wd_151) (C.2.2.2.2.1 _ wd_24) (C.2.2.2.2.1 _ wd_25) rfl (by rw [C.2.2.1]; exact hl.1) rfl dX3_init_1 (Nat.le_of_ble_eq_true rfl) (Nat.le_of_ble_eq_true rfl) ?_
  refine lv_aload_n C.1 C.2.1 dX3_init_4 rfl (lv_at hl 0 rfl) ?_
  refine lv_bipush (v := hpI 40) C.1 C.2.1 dX3_init_5 (by decide) ?_
  refine n_size (n := 38) h0 rfl hS hP (fun hsz => ?_)
  refine n_newa (atype := .int) (ci := 11) (t0 := 1) (a0 := (40, .inl (fun i => hpI (hp0 38 i)))) C wd_135 rfl rfl (fun U h => h) (az_38) rfl (by decide) (Nat.le_of_ble_eq_true rfl) hP hS hsz (Nat.le_of_ble_eq_true rfl) (Nat.le_of_ble_eq_true rfl) dX3_init_7 (fun H hP hS => ?_)
  obtain ⟨E1, e1⟩ : ∃ F, F = va_up E0 38 (.inl (cy 11, 40, .inl (fun i => hpI (hp0 38 i)))) := ⟨_, rfl⟩
  rw [← e1] at hP
  have hO1 : ∀ j, j < 37 → E1 j = E0 j := fun j h => by rw [e1]; exact (hp_ne (by omega)).trans (hO0 j h)
  have hp1_37 : E1 37 = .inr (3, [.null, .null, .int (hpI 0), .int (hpI 0), .int (hpI 0)]) := by rw [e1, hp_ne (by decide)]; exact hE0
  have hD1 : ∀ j, 37 < j → j < 39 → E1 j = hpE z cy j (hp0 j) := fun j h1 h2 => by
    rcases Nat.lt_or_ge j 38 with h | h
    · rw [e1, hp_ne (by omega)]; exact hD0 j h1 h
    · obtain rfl : j = 38 := by omega
      rw [e1, hp_at, ea_38]
  refine n_putF (fs' := [.ref (z + 38), .null, .int (hpI 0), .int (hpI 0), .int (hpI 0)]) C O3 0 (by decide) hp1_37 (by decide) rfl hnm rfl wd_152 rfl rfl (Nat.le_of_ble_eq_true rfl) rfl hP hS dX3_init_9 (fun H locs hP hS => ?_)
  obtain ⟨E2, e2⟩ : ∃ F, F = va_up E1 37 (.inr (3, [.ref (z + 38), .null, .int (hpI 0), .int (hpI 0), .int (hpI 0)])) := ⟨_, rfl⟩
  rw [← e2] at hP
  have hO2 : ∀ j, j < 37 → E2 j = E0 j := fun j h => by rw [e2]; exact (hp_ne (by omega)).trans (hO1 j h)
  have hp2_37 : E2 37 = .inr (3, [.ref (z + 38), .null, .int (hpI 0), .int (hpI 0), .int (hpI 0)]) := by rw [e2, hp_at]
  have hD2 : ∀ j, 37 < j → j < 39 → E2 j = hpE z cy j (hp0 j) := fun j h1 h2 => by
    rw [e2, hp_ne (by omega)]; exact hD1 j h1 (by omega)
  refine lv_aload_n C.1 C.2.1 dX3_init_12 rfl (lv_at hl 0 rfl) ?_
  refine lv_bipush (v := hpI 40) C.1 C.2.1 dX3_init_13 (by decide) ?_
  refine n_size (n := 39) h0 rfl hS hP (fun hsz => ?_)
  refine n_newa (atype := .int) (ci := 11) (t0 := 1) (a0 := (40, .inl (fun i => hpI (hp0 39 i)))) C wd_135 rfl rfl (fun U h => h) (az_39) rfl (by decide) (Nat.le_of_ble_eq_true rfl) hP hS hsz (Nat.le_of_ble_eq_true rfl) (Nat.le_of_ble_eq_true rfl) dX3_init_15 (fun H hP hS => ?_)
  obtain ⟨E3, e3⟩ : ∃ F, F = va_up E2 39 (.inl (cy 11, 40, .inl (fun i => hpI (hp0 39 i)))) := ⟨_, rfl⟩
  rw [← e3] at hP
  have hO3 : ∀ j, j < 37 → E3 j = E0 j := fun j h => by rw [e3]; exact (hp_ne (by omega)).trans (hO2 j h)
  have hp3_37 : E3 37 = .inr (3, [.ref (z + 38), .null, .int (hpI 0), .int (hpI 0), .int (hpI 0)]) := by rw [e3, hp_ne (by decide)]; exact hp2_37
  have hD3 : ∀ j, 37 < j → j < 40 → E3 j = hpE z cy j (hp0 j) := fun j h1 h2 => by
    rcases Nat.lt_or_ge j 39 with h | h
    · rw [e3, hp_ne (by omega)]; exact hD2 j h1 h
    · obtain rfl : j = 39 := by omega
      rw [e3, hp_at, ea_39]
  refine n_putF (fs' := [.ref (z + 38), .ref (z + 39), .int (hpI 0), .int (hpI 0), .int (hpI 0)]) C O3 1 (by decide) hp3_37 (by decide) rfl hnm rfl wd_155 rfl rfl (Nat.le_of_ble_eq_true rfl) rfl hP hS dX3_init_17 (fun H locs hP hS => ?_)
  obtain ⟨E4, e4⟩ : ∃ F, F = va_up E3 37 (.inr (3, [.ref (z + 38), .ref (z + 39), .int (hpI 0), .int (hpI 0), .int (hpI 0)])) := ⟨_, rfl⟩
  rw [← e4] at hP
  have hO4 : ∀ j, j < 37 → E4 j = E0 j := fun j h => by rw [e4]; exact (hp_ne (by omega)).trans (hO3 j h)
  have hp4_37 : E4 37 = .inr (3, [.ref (z + 38), .ref (z + 39), .int (hpI 0), .int (hpI 0), .int (hpI 0)]) := by rw [e4, hp_at]
  have hD4 : ∀ j, 37 < j → j < 40 → E4 j = hpE z cy j (hp0 j) := fun j h1 h2 => by
    rw [e4, hp_ne (by omega)]; exact hD3 j h1 (by omega)
  refine W.vret C.1 C.2.1 hr (fun t ht _ => ⟨⟨rfl, E4, by rw [ht]; exact hP, hO4, fun j h1 h2 => ?_⟩, hS.F ht⟩) (fun q hq => hS.2.2 q hq) dX3_init_20 hk
  rcases Nat.lt_or_ge 37 j with h | h
  · exact hD4 j h h2
  · obtain rfl : j = 37 := by omega
    exact hp4_37.trans eo_37.symm
set_option maxHeartbeats 4000000 in
set_option maxRecDepth 20000 in
theorem kX3_40 (l : Launch) (D : va_G) (cy : Nat → ClassId) (z : Nat) (E0 : Nat → va_E) (hE0 : E0 40 = .inr (3, [.null, .null, .int (hpI 0), .int (hpI 0), .int (hpI 0)])) : hpK l D cy z yX3_init cX3_init 1 rK3 40 3 2 80 E0 := by
  refine hp_metX rfl (Nat.le_of_ble_eq_true rfl) (fun p e s m below meth c ls C A hr hk hnm h0 hl hP hS => ?_)
  have hO0 : ∀ j, j < 40 → E0 j = E0 j := fun _ _ => rfl
  have hD0 : ∀ j, 40 < j → j < 41 → E0 j = hpE z cy j (hp0 j) := fun j h1 h2 => by omega
  refine lv_aload_n C.1 C.2.1 dX3_init_0 rfl (lv_at hl 0 rfl) ?_
  refine W.objInit C.1 C.2.1 C.2.2.2.1 (C.2.2.2.2.1 _ wd_151) (C.2.2.2.2.1 _ wd_24) (C.2.2.2.2.1 _ wd_25) rfl (by rw [C.2.2.1]; exact hl.1) rfl dX3_init_1 (Nat.le_of_ble_eq_true rfl) (Nat.le_of_ble_eq_true rfl) ?_
  refine lv_aload_n C.1 C.2.1 dX3_init_4 rfl (lv_at hl 0 rfl) ?_
  refine lv_bipush (v := hpI 40) C.1 C.2.1 dX3_init_5 (by decide) ?_
  refine n_size (n := 41) h0 rfl hS hP (fun hsz => ?_)
  refine n_newa (atype := .int) (ci := 11) (t0 := 1) (a0 := (40, .inl (fun i => hpI (hp0 41 i)))) C wd_135 rfl rfl (fun U h => h) (az_41) rfl (by decide) (Nat.le_of_ble_eq_true rfl) hP hS hsz (Nat.le_of_ble_eq_true rfl) (Nat.le_of_ble_eq_true rfl) dX3_init_7 (fun H hP hS => ?_)
  obtain ⟨E1, e1⟩ : ∃ F, F = va_up E0 41 (.inl (cy 11, 40, .inl (fun i => hpI (hp0 41 i)))) := ⟨_, rfl⟩
  rw [← e1] at hP
  have hO1 : ∀ j, j < 40 → E1 j = E0 j := fun j h => by rw [e1]; exact (hp_ne (by omega)).trans (hO0 j h)
  have hp1_40 : E1 40 = .inr (3, [.null, .null, .int (hpI 0), .int (hpI 0), .int (hpI 0)]) := by rw [e1, hp_ne (by decide)]; exact hE0
  have hD1 : ∀ j, 40 < j → j < 42 → E1 j = hpE z cy j (hp0 j) := fun j h1 h2 => by
    rcases Nat.lt_or_ge j 41 with h | h
    · rw [e1, hp_ne (by omega)]; exact hD0 j h1 h
    · obtain rfl : j = 41 := by omega
      rw [e1, hp_at, ea_41]
  refine n_putF (fs' := [.ref (z + 41), .null, .int (hpI 0), .int (hpI 0), .int (hpI 0)]) C O3 0 (by decide) hp1_40 (by decide) rfl hnm rfl wd_152 rfl rfl (Nat.le_of_ble_eq_true rfl) rfl hP hS dX3_init_9 (fun H locs hP hS => ?_)
  obtain ⟨E2, e2⟩ : ∃ F, F = va_up E1 40 (.inr (3, [.ref (z + 41), .null, .int (hpI 0), .int (hpI 0), .int (hpI 0)])) := ⟨_, rfl⟩
  rw [← e2] at hP
  have hO2 : ∀ j, j < 40 → E2 j = E0 j := fun j h => by rw [e2]; exact (hp_ne (by omega)).trans (hO1 j h)
  have hp2_40 : E2 40 = .inr (3, [.ref (z + 41), .null, .int (hpI 0), .int (hpI 0), .int (hpI 0)]) := by rw [e2, hp_at]
  have hD2 : ∀ j, 40 < j → j < 42 → E2 j = hpE z cy j (hp0 j) := fun j h1 h2 => by
    rw [e2, hp_ne (by omega)]; exact hD1 j h1 (by omega)
  refine lv_aload_n C.1 C.2.1 dX3_init_12 rfl (lv_at hl 0 rfl) ?_
  refine lv_bipush (v := hpI 40) C.1 C.2.1 dX3_init_13 (by decide) ?_
  refine n_size (n := 42) h0 rfl hS hP (fun hsz => ?_)
  refine n_newa (atype := .int) (ci := 11) (t0 := 1) (a0 := (40, .inl (fun i => hpI (hp0 42 i)))) C wd_135 rfl rfl (fun U h => h) (az_42) rfl (by decide) (Nat.le_of_ble_eq_true rfl) hP hS hsz (Nat.le_of_ble_eq_true rfl) (Nat.le_of_ble_eq_true rfl) dX3_init_15 (fun H hP hS => ?_)
  obtain ⟨E3, e3⟩ : ∃ F, F = va_up E2 42 (.inl (cy 11, 40, .inl (fun i => hpI (hp0 42 i)))) := ⟨_, rfl⟩
  rw [← e3] at hP
  have hO3 : ∀ j, j < 40 → E3 j = E0 j := fun j h => by rw [e3]; exact (hp_ne (by omega)).trans (hO2 j h)
  have hp3_40 : E3 40 = .inr (3, [.ref (z + 41), .null, .int (hpI 0), .int (hpI 0), .int (hpI 0)]) := by rw [e3, hp_ne (by decide)]; exact hp2_40
  have hD3 : ∀ j, 40 < j → j < 43 → E3 j = hpE z cy j (hp0 j) := fun j h1 h2 => by
    rcases Nat.lt_or_ge j 42 with h | h
    · rw [e3, hp_ne (by omega)]; exact hD2 j h1 h
    · obtain rfl : j = 42 := by omega
      rw [e3, hp_at, ea_42]
  refine n_putF (fs' := [.ref (z + 41), .ref (z + 42), .int (hpI 0), .int (hpI 0), .int (hpI 0)]) C O3 1 (by decide) hp3_40 (by decide) rfl hnm rfl wd_155 rfl rfl (Nat.le_of_ble_eq_true rfl) rfl hP hS dX3_init_17 (fun H locs hP hS => ?_)
  obtain ⟨E4, e4⟩ : ∃ F, F = va_up E3 40 (.inr (3, [.ref (z + 41), .ref (z + 42), .int (hpI 0), .int (hpI 0), .int (hpI 0)])) := ⟨_, rfl⟩
  rw [← e4] at hP
  have hO4 : ∀ j, j < 40 → E4 j = E0 j := fun j h => by rw [e4]; exact (hp_ne (by omega)).trans (hO3 j h)
  have hp4_40 : E4 40 = .inr (3, [.ref (z + 41), .ref (z + 42), .int (hpI 0), .int (hpI 0), .int (hpI 0)]) := by rw [e4, hp_at]
  have hD4 : ∀ j, 40 < j → j < 43 → E4 j = hpE z cy j (hp0 j) := fun j h1 h2 => by
    rw [e4, hp_ne (by omega)]; exact hD3 j h1 (by omega)
  refine W.vret C.1 C.2.1 hr (fun t ht _ => ⟨⟨rfl, E4, by rw [ht]; exact hP, hO4, fun j h1 h2 => ?_⟩, hS.F ht⟩) (fun q hq => hS.2.2 q hq) dX3_init_20 hk
  rcases Nat.lt_or_ge 40 j with h | h
  · exact hD4 j h h2
  · obtain rfl : j = 40 := by omega
    exact hp4_40.trans eo_40.symm
set_option maxHeartbeats 4000000 in
set_option maxRecDepth 20000 in
theorem kX3_43 (l : Launch) (D : va_G) (cy : Nat → ClassId) (z : Nat) (E0 : Nat → va_E) (hE0 : E0 43 = .inr (3, [.null, .null, .int (hpI 0), .int (hpI 0), .int (hpI 0)])) : hpK l D cy z yX3_init cX3_init 1 rK3 43 3 2 80 E0 := by
  refine hp_metX rfl (Nat.le_of_ble_eq_true rfl) (fun p e s m below meth c ls C A hr hk hnm h0 hl hP hS => ?_)
  have hO0 : ∀ j, j < 43 → E0 j = E0 j := fun _ _ => rfl
  have hD0 : ∀ j, 43 < j → j < 44 → E0 j = hpE z cy j (hp0 j) := fun j h1 h2 => by omega
  refine lv_aload_n C.1 C.2.1 dX3_init_0 rfl (lv_at hl 0 rfl) ?_
  refine W.objInit C.1 C.2.1 C.2.2.2.1 (C.2.2.2.2.1 _ wd_151) (C.2.2.2.2.1 _ wd_24) (C.2.2.2.2.1 _ wd_25) rfl (by rw [C.2.2.1]; exact hl.1) rfl dX3_init_1 (Nat.le_of_ble_eq_true rfl) (Nat.le_of_ble_eq_true rfl) ?_
  refine lv_aload_n C.1 C.2.1 dX3_init_4 rfl (lv_at hl 0 rfl) ?_
  refine lv_bipush (v := hpI 40) C.1 C.2.1 dX3_init_5 (by decide) ?_
  refine n_size (n := 44) h0 rfl hS hP (fun hsz => ?_)
  refine n_newa (atype := .int) (ci := 11) (t0 := 1) (a0 := (40, .inl (fun i => hpI (hp0 44 i)))) C wd_135 rfl rfl (fun U h => h) (az_44) rfl (by decide) (Nat.le_of_ble_eq_true rfl) hP hS hsz (Nat.le_of_ble_eq_true rfl) (Nat.le_of_ble_eq_true rfl) dX3_init_7 (fun H hP hS => ?_)
  obtain ⟨E1, e1⟩ : ∃ F, F = va_up E0 44 (.inl (cy 11, 40, .inl (fun i => hpI (hp0 44 i)))) := ⟨_, rfl⟩
  rw [← e1] at hP
  have hO1 : ∀ j, j < 43 → E1 j = E0 j := fun j h => by rw [e1]; exact (hp_ne (by omega)).trans (hO0 j h)
  have hp1_43 : E1 43 = .inr (3, [.null, .null, .int (hpI 0), .int (hpI 0), .int (hpI 0)]) := by rw [e1, hp_ne (by decide)]; exact hE0
  have hD1 : ∀ j, 43 < j → j < 45 → E1 j = hpE z cy j (hp0 j) := fun j h1 h2 => by
    rcases Nat.lt_or_ge j 44 with h | h
    · rw [e1, hp_ne (by omega)]; exact hD0 j h1 h
    · obtain rfl : j = 44 := by omega
      rw [e1, hp_at, ea_44]
  refine n_putF (fs' := [.ref (z + 44), .null, .int (hpI 0), .int (hpI 0), .int (hpI 0)]) C O3 0 (by decide) hp1_43 (by decide) rfl hnm rfl wd_152 rfl rfl (Nat.le_of_ble_eq_true rfl) rfl hP hS dX3_init_9 (fun H locs hP hS => ?_)
  obtain ⟨E2, e2⟩ : ∃ F, F = va_up E1 43 (.inr (3, [.ref (z + 44), .null, .int (hpI 0), .int (hpI 0), .int (hpI 0)])) := ⟨_, rfl⟩
  rw [← e2] at hP
  have hO2 : ∀ j, j < 43 → E2 j = E0 j := fun j h => by rw [e2]; exact (hp_ne (by omega)).trans (hO1 j h)
  have hp2_43 : E2 43 = .inr (3, [.ref (z + 44), .null, .int (hpI 0), .int (hpI 0), .int (hpI 0)]) := by rw [e2, hp_at]
  have hD2 : ∀ j, 43 < j → j < 45 → E2 j = hpE z cy j (hp0 j) := fun j h1 h2 => by
    rw [e2, hp_ne (by omega)]; exact hD1 j h1 (by omega)
  refine lv_aload_n C.1 C.2.1 dX3_init_12 rfl (lv_at hl 0 rfl) ?_
  refine lv_bipush (v := hpI 40) C.1 C.2.1 dX3_init_13 (by decide) ?_
  refine n_size (n := 45) h0 rfl hS hP (fun hsz => ?_)
  refine n_newa (atype := .int) (ci := 11) (t0 := 1) (a0 := (40, .inl (fun i => hpI (hp0 45 i)))) C wd_135 rfl rfl (fun U h => h) (az_45) rfl (by decide) (Nat.le_of_ble_eq_true rfl) hP hS hsz (Nat.le_of_ble_eq_true rfl) (Nat.le_of_ble_eq_true rfl) dX3_init_15 (fun H hP hS => ?_)
  obtain ⟨E3, e3⟩ : ∃ F, F = va_up E2 45 (.inl (cy 11, 40, .inl (fun i => hpI (hp0 45 i)))) := ⟨_, rfl⟩
  rw [← e3] at hP
  have hO3 : ∀ j, j < 43 → E3 j = E0 j := fun j h => by rw [e3]; exact (hp_ne (by omega)).trans (hO2 j h)
  have hp3_43 : E3 43 = .inr (3, [.ref (z + 44), .null, .int (hpI 0), .int (hpI 0), .int (hpI 0)]) := by rw [e3, hp_ne (by decide)]; exact hp2_43
  have hD3 : ∀ j, 43 < j → j < 46 → E3 j = hpE z cy j (hp0 j) := fun j h1 h2 => by
    rcases Nat.lt_or_ge j 45 with h | h
    · rw [e3, hp_ne (by omega)]; exact hD2 j h1 h
    · obtain rfl : j = 45 := by omega
      rw [e3, hp_at, ea_45]
  refine n_putF (fs' := [.ref (z + 44), .ref (z + 45), .int (hpI 0), .int (hpI 0), .int (hpI 0)]) C O3 1 (by decide) hp3_43 (by decide) rfl hnm rfl wd_155 rfl rfl (Nat.le_of_ble_eq_true rfl) rfl hP hS dX3_init_17 (fun H locs hP hS => ?_)
  obtain ⟨E4, e4⟩ : ∃ F, F = va_up E3 43 (.inr (3, [.ref (z + 44), .ref (z + 45), .int (hpI 0), .int (hpI 0), .int (hpI 0)])) := ⟨_, rfl⟩
  rw [← e4] at hP
  have hO4 : ∀ j, j < 43 → E4 j = E0 j := fun j h => by rw [e4]; exact (hp_ne (by omega)).trans (hO3 j h)
  have hp4_43 : E4 43 = .inr (3, [.ref (z + 44), .ref (z + 45), .int (hpI 0), .int (hpI 0), .int (hpI 0)]) := by rw [e4, hp_at]
  have hD4 : ∀ j, 43 < j → j < 46 → E4 j = hpE z cy j (hp0 j) := fun j h1 h2 => by
    rw [e4, hp_ne (by omega)]; exact hD3 j h1 (by omega)
  refine W.vret C.1 C.2.1 hr (fun t ht _ => ⟨⟨rfl, E4, by rw [ht]; exact hP, hO4, fun j h1 h2 => ?_⟩, hS.F ht⟩) (fun q hq => hS.2.2 q hq) dX3_init_20 hk
  rcases Nat.lt_or_ge 43 j with h | h
  · exact hD4 j h h2
  · obtain rfl : j = 43 := by omega
    exact hp4_43.trans eo_43.symm
set_option maxHeartbeats 4000000 in
set_option maxRecDepth 20000 in
theorem kX3_46 (l : Launch) (D : va_G) (cy : Nat → ClassId) (z : Nat) (E0 : Nat → va_E) (hE0 : E0 46 = .inr (3, [.null, .null, .int (hpI 0), .int (hpI 0), .int (hpI 0)])) : hpK l D cy z yX3_init cX3_init 1 rK3 46 3 2 80 E0 := by
  refine hp_metX rfl (Nat.le_of_ble_eq_true rfl) (fun p e s m below meth c ls C A hr hk hnm h0 hl hP hS => ?_)
  have hO0 : ∀ j, j < 46 → E0 j = E0 j := fun _ _ => rfl
  have hD0 : ∀ j, 46 < j → j < 47 → E0 j = hpE z cy j (hp0 j) := fun j h1 h2 => by omega
  refine lv_aload_n C.1 C.2.1 dX3_init_0 rfl (lv_at hl 0 rfl) ?_
  refine W.objInit C.1 C.2.1 C.2.2.2.1 (C.2.2.2.2.1 _ wd_151) (C.2.2.2.2.1 _ wd_24) (C.2.2.2.2.1 _ wd_25) rfl (by rw [C.2.2.1]; exact hl.1) rfl dX3_init_1 (Nat.le_of_ble_eq_true rfl) (Nat.le_of_ble_eq_true rfl) ?_
  refine lv_aload_n C.1 C.2.1 dX3_init_4 rfl (lv_at hl 0 rfl) ?_
  refine lv_bipush (v := hpI 40) C.1 C.2.1 dX3_init_5 (by decide) ?_
  refine n_size (n := 47) h0 rfl hS hP (fun hsz => ?_)
  refine n_newa (atype := .int) (ci := 11) (t0 := 1) (a0 := (40, .inl (fun i => hpI (hp0 47 i)))) C wd_135 rfl rfl (fun U h => h) (az_47) rfl (by decide) (Nat.le_of_ble_eq_true rfl) hP hS hsz (Nat.le_of_ble_eq_true rfl) (Nat.le_of_ble_eq_true rfl) dX3_init_7 (fun H hP hS => ?_)
  obtain ⟨E1, e1⟩ : ∃ F, F = va_up E0 47 (.inl (cy 11, 40, .inl (fun i => hpI (hp0 47 i)))) := ⟨_, rfl⟩
  rw [← e1] at hP
  have hO1 : ∀ j, j < 46 → E1 j = E0 j := fun j h => by rw [e1]; exact (hp_ne (by omega)).trans (hO0 j h)
  have hp1_46 : E1 46 = .inr (3, [.null, .null, .int (hpI 0), .int (hpI 0), .int (hpI 0)]) := by rw [e1, hp_ne (by decide)]; exact hE0
  have hD1 : ∀ j, 46 < j → j < 48 → E1 j = hpE z cy j (hp0 j) := fun j h1 h2 => by
    rcases Nat.lt_or_ge j 47 with h | h
    · rw [e1, hp_ne (by omega)]; exact hD0 j h1 h
    · obtain rfl : j = 47 := by omega
      rw [e1, hp_at, ea_47]
  refine n_putF (fs' := [.ref (z + 47), .null, .int (hpI 0), .int (hpI 0), .int (hpI 0)]) C O3 0 (by decide) hp1_46 (by decide) rfl hnm rfl wd_152 rfl rfl (Nat.le_of_ble_eq_true rfl) rfl hP hS dX3_init_9 (fun H locs hP hS => ?_)
  obtain ⟨E2, e2⟩ : ∃ F, F = va_up E1 46 (.inr (3, [.ref (z + 47), .null, .int (hpI 0), .int (hpI 0), .int (hpI 0)])) := ⟨_, rfl⟩
  rw [← e2] at hP
  have hO2 : ∀ j, j < 46 → E2 j = E0 j := fun j h => by rw [e2]; exact (hp_ne (by omega)).trans (hO1 j h)
  have hp2_46 : E2 46 = .inr (3, [.ref (z + 47), .null, .int (hpI 0), .int (hpI 0), .int (hpI 0)]) := by rw [e2, hp_at]
  have hD2 : ∀ j, 46 < j → j < 48 → E2 j = hpE z cy j (hp0 j) := fun j h1 h2 => by
    rw [e2, hp_ne (by omega)]; exact hD1 j h1 (by omega)
  refine lv_aload_n C.1 C.2.1 dX3_init_12 rfl (lv_at hl 0 rfl) ?_
  refine lv_bipush (v := hpI 40) C.1 C.2.1 dX3_init_13 (by decide) ?_
  refine n_size (n := 48) h0 rfl hS hP (fun hsz => ?_)
  refine n_newa (atype := .int) (ci := 11) (t0 := 1) (a0 := (40, .inl (fun i => hpI (hp0 48 i)))) C wd_135 rfl rfl (fun U h => h) (az_48) rfl (by decide) (Nat.le_of_ble_eq_true rfl) hP hS hsz (Nat.le_of_ble_eq_true rfl) (Nat.le_of_ble_eq_true rfl) dX3_init_15 (fun H hP hS => ?_)
  obtain ⟨E3, e3⟩ : ∃ F, F = va_up E2 48 (.inl (cy 11, 40, .inl (fun i => hpI (hp0 48 i)))) := ⟨_, rfl⟩
  rw [← e3] at hP
  have hO3 : ∀ j, j < 46 → E3 j = E0 j := fun j h => by rw [e3]; exact (hp_ne (by omega)).trans (hO2 j h)
  have hp3_46 : E3 46 = .inr (3, [.ref (z + 47), .null, .int (hpI 0), .int (hpI 0), .int (hpI 0)]) := by rw [e3, hp_ne (by decide)]; exact hp2_46
  have hD3 : ∀ j, 46 < j → j < 49 → E3 j = hpE z cy j (hp0 j) := fun j h1 h2 => by
    rcases Nat.lt_or_ge j 48 with h | h
    · rw [e3, hp_ne (by omega)]; exact hD2 j h1 h
    · obtain rfl : j = 48 := by omega
      rw [e3, hp_at, ea_48]
  refine n_putF (fs' := [.ref (z + 47), .ref (z + 48), .int (hpI 0), .int (hpI 0), .int (hpI 0)]) C O3 1 (by decide) hp3_46 (by decide) rfl hnm rfl wd_155 rfl rfl (Nat.le_of_ble_eq_true rfl) rfl hP hS dX3_init_17 (fun H locs hP hS => ?_)
  obtain ⟨E4, e4⟩ : ∃ F, F = va_up E3 46 (.inr (3, [.ref (z + 47), .ref (z + 48), .int (hpI 0), .int (hpI 0), .int (hpI 0)])) := ⟨_, rfl⟩
  rw [← e4] at hP
  have hO4 : ∀ j, j < 46 → E4 j = E0 j := fun j h => by rw [e4]; exact (hp_ne (by omega)).trans (hO3 j h)
  have hp4_46 : E4 46 = .inr (3, [.ref (z + 47), .ref (z + 48), .int (hpI 0), .int (hpI 0), .int (hpI 0)]) := by rw [e4, hp_at]
  have hD4 : ∀ j, 46 < j → j < 49 → E4 j = hpE z cy j (hp0 j) := fun j h1 h2 => by
    rw [e4, hp_ne (by omega)]; exact hD3 j h1 (by omega)
  refine W.vret C.1 C.2.1 hr (fun t ht _ => ⟨⟨rfl, E4, by rw [ht]; exact hP, hO4, fun j h1 h2 => ?_⟩, hS.F ht⟩) (fun q hq => hS.2.2 q hq) dX3_init_20 hk
  rcases Nat.lt_or_ge 46 j with h | h
  · exact hD4 j h h2
  · obtain rfl : j = 46 := by omega
    exact hp4_46.trans eo_46.symm
set_option maxHeartbeats 4000000 in
set_option maxRecDepth 20000 in
theorem kX3_49 (l : Launch) (D : va_G) (cy : Nat → ClassId) (z : Nat) (E0 : Nat → va_E) (hE0 : E0 49 = .inr (3, [.null, .null, .int (hpI 0), .int (hpI 0), .int (hpI 0)])) : hpK l D cy z yX3_init cX3_init 1 rK3 49 3 2 80 E0 := by
  refine hp_metX rfl (Nat.le_of_ble_eq_true rfl) (fun p e s m below meth c ls C A hr hk hnm h0 hl hP hS => ?_)
  have hO0 : ∀ j, j < 49 → E0 j = E0 j := fun _ _ => rfl
  have hD0 : ∀ j, 49 < j → j < 50 → E0 j = hpE z cy j (hp0 j) := fun j h1 h2 => by omega
  refine lv_aload_n C.1 C.2.1 dX3_init_0 rfl (lv_at hl 0 rfl) ?_
  refine W.objInit C.1 C.2.1 C.2.2.2.1 (C.2.2.2.2.1 _ wd_151) (C.2.2.2.2.1 _ wd_24) (C.2.2.2.2.1 _ wd_25) rfl (by rw [C.2.2.1]; exact hl.1) rfl dX3_init_1 (Nat.le_of_ble_eq_true rfl) (Nat.le_of_ble_eq_true rfl) ?_
  refine lv_aload_n C.1 C.2.1 dX3_init_4 rfl (lv_at hl 0 rfl) ?_
  refine lv_bipush (v := hpI 40) C.1 C.2.1 dX3_init_5 (by decide) ?_
  refine n_size (n := 50) h0 rfl hS hP (fun hsz => ?_)
  refine n_newa (atype := .int) (ci := 11) (t0 := 1) (a0 := (40, .inl (fun i => hpI (hp0 50 i)))) C wd_135 rfl rfl (fun U h => h) (az_50) rfl (by decide) (Nat.le_of_ble_eq_true rfl) hP hS hsz (Nat.le_of_ble_eq_true rfl) (Nat.le_of_ble_eq_true rfl) dX3_init_7 (fun H hP hS => ?_)
  obtain ⟨E1, e1⟩ : ∃ F, F = va_up E0 50 (.inl (cy 11, 40, .inl (fun i => hpI (hp0 50 i)))) := ⟨_, rfl⟩
  rw [← e1] at hP
  have hO1 : ∀ j, j < 49 → E1 j = E0 j := fun j h => by rw [e1]; exact (hp_ne (by omega)).trans (hO0 j h)
  have hp1_49 : E1 49 = .inr (3, [.null, .null, .int (hpI 0), .int (hpI 0), .int (hpI 0)]) := by rw [e1, hp_ne (by decide)]; exact hE0
  have hD1 : ∀ j, 49 < j → j < 51 → E1 j = hpE z cy j (hp0 j) := fun j h1 h2 => by
    rcases Nat.lt_or_ge j 50 with h | h
    · rw [e1, hp_ne (by omega)]; exact hD0 j h1 h
    · obtain rfl : j = 50 := by omega
      rw [e1, hp_at, ea_50]
  refine n_putF (fs' := [.ref (z + 50), .null, .int (hpI 0), .int (hpI 0), .int (hpI 0)]) C O3 0 (by decide) hp1_49 (by decide) rfl hnm rfl wd_152 rfl rfl (Nat.le_of_ble_eq_true rfl) rfl hP hS dX3_init_9 (fun H locs hP hS => ?_)
  obtain ⟨E2, e2⟩ : ∃ F, F = va_up E1 49 (.inr (3, [.ref (z + 50), .null, .int (hpI 0), .int (hpI 0), .int (hpI 0)])) := ⟨_, rfl⟩
  rw [← e2] at hP
  have hO2 : ∀ j, j < 49 → E2 j = E0 j := fun j h => by rw [e2]; exact (hp_ne (by omega)).trans (hO1 j h)
  have hp2_49 : E2 49 = .inr (3, [.ref (z + 50), .null, .int (hpI 0), .int (hpI 0), .int (hpI 0)]) := by rw [e2, hp_at]
  have hD2 : ∀ j, 49 < j → j < 51 → E2 j = hpE z cy j (hp0 j) := fun j h1 h2 => by
    rw [e2, hp_ne (by omega)]; exact hD1 j h1 (by omega)
  refine lv_aload_n C.1 C.2.1 dX3_init_12 rfl (lv_at hl 0 rfl) ?_
  refine lv_bipush (v := hpI 40) C.1 C.2.1 dX3_init_13 (by decide) ?_
  refine n_size (n := 51) h0 rfl hS hP (fun hsz => ?_)
  refine n_newa (atype := .int) (ci := 11) (t0 := 1) (a0 := (40, .inl (fun i => hpI (hp0 51 i)))) C wd_135 rfl rfl (fun U h => h) (az_51) rfl (by decide) (Nat.le_of_ble_eq_true rfl) hP hS hsz (Nat.le_of_ble_eq_true rfl) (Nat.le_of_ble_eq_true rfl) dX3_init_15 (fun H hP hS => ?_)
  obtain ⟨E3, e3⟩ : ∃ F, F = va_up E2 51 (.inl (cy 11, 40, .inl (fun i => hpI (hp0 51 i)))) := ⟨_, rfl⟩
  rw [← e3] at hP
  have hO3 : ∀ j, j < 49 → E3 j = E0 j := fun j h => by rw [e3]; exact (hp_ne (by omega)).trans (hO2 j h)
  have hp3_49 : E3 49 = .inr (3, [.ref (z + 50), .null, .int (hpI 0), .int (hpI 0), .int (hpI 0)]) := by rw [e3, hp_ne (by decide)]; exact hp2_49
  have hD3 : ∀ j, 49 < j → j < 52 → E3 j = hpE z cy j (hp0 j) := fun j h1 h2 => by
    rcases Nat.lt_or_ge j 51 with h | h
    · rw [e3, hp_ne (by omega)]; exact hD2 j h1 h
    · obtain rfl : j = 51 := by omega
      rw [e3, hp_at, ea_51]
  refine n_putF (fs' := [.ref (z + 50), .ref (z + 51), .int (hpI 0), .int (hpI 0), .int (hpI 0)]) C O3 1 (by decide) hp3_49 (by decide) rfl hnm rfl wd_155 rfl rfl (Nat.le_of_ble_eq_true rfl) rfl hP hS dX3_init_17 (fun H locs hP hS => ?_)
  obtain ⟨E4, e4⟩ : ∃ F, F = va_up E3 49 (.inr (3, [.ref (z + 50), .ref (z + 51), .int (hpI 0), .int (hpI 0), .int (hpI 0)])) := ⟨_, rfl⟩
  rw [← e4] at hP
  have hO4 : ∀ j, j < 49 → E4 j = E0 j := fun j h => by rw [e4]; exact (hp_ne (by omega)).trans (hO3 j h)
  have hp4_49 : E4 49 = .inr (3, [.ref (z + 50), .ref (z + 51), .int (hpI 0), .int (hpI 0), .int (hpI 0)]) := by rw [e4, hp_at]
  have hD4 : ∀ j, 49 < j → j < 52 → E4 j = hpE z cy j (hp0 j) := fun j h1 h2 => by
    rw [e4, hp_ne (by omega)]; exact hD3 j h1 (by omega)
  refine W.vret C.1 C.2.1 hr (fun t ht _ => ⟨⟨rfl, E4, by rw [ht]; exact hP, hO4, fun j h1 h2 => ?_⟩, hS.F ht⟩) (fun q hq => hS.2.2 q hq) dX3_init_20 hk
  rcases Nat.lt_or_ge 49 j with h | h
  · exact hD4 j h h2
  · obtain rfl : j = 49 := by omega
    exact hp4_49.trans eo_49.symm
set_option maxHeartbeats 4000000 in
set_option maxRecDepth 20000 in
theorem kX3_52 (l : Launch) (D : va_G) (cy : Nat → ClassId) (z : Nat) (E0 : Nat → va_E) (hE0 : E0 52 = .inr (3, [.null, .null, .int (hpI 0), .int (hpI 0), .int (hpI 0)])) : hpK l D cy z yX3_init cX3_init 1 rK3 52 3 2 80 E0 := by
  refine hp_metX rfl (Nat.le_of_ble_eq_true rfl) (fun p e s m below meth c ls C A hr hk hnm h0 hl hP hS => ?_)
  have hO0 : ∀ j, j < 52 → E0 j = E0 j := fun _ _ => rfl
  have hD0 : ∀ j, 52 < j → j < 53 → E0 j = hpE z cy j (hp0 j) := fun j h1 h2 => by omega
  refine lv_aload_n C.1 C.2.1 dX3_init_0 rfl (lv_at hl 0 rfl) ?_
  refine W.objInit C.1 C.2.1 C.2.2.2.1 (C.2.2.2.2.1 _ wd_151) (C.2.2.2.2.1 _ wd_24) (C.2.2.2.2.1 _ wd_25) rfl (by rw [C.2.2.1]; exact hl.1) rfl dX3_init_1 (Nat.le_of_ble_eq_true rfl) (Nat.le_of_ble_eq_true rfl) ?_
  refine lv_aload_n C.1 C.2.1 dX3_init_4 rfl (lv_at hl 0 rfl) ?_
  refine lv_bipush (v := hpI 40) C.1 C.2.1 dX3_init_5 (by decide) ?_
  refine n_size (n := 53) h0 rfl hS hP (fun hsz => ?_)
  refine n_newa (atype := .int) (ci := 11) (t0 := 1) (a0 := (40, .inl (fun i => hpI (hp0 53 i)))) C wd_135 rfl rfl (fun U h => h) (az_53) rfl (by decide) (Nat.le_of_ble_eq_true rfl) hP hS hsz (Nat.le_of_ble_eq_true rfl) (Nat.le_of_ble_eq_true rfl) dX3_init_7 (fun H hP hS => ?_)
  obtain ⟨E1, e1⟩ : ∃ F, F = va_up E0 53 (.inl (cy 11, 40, .inl (fun i => hpI (hp0 53 i)))) := ⟨_, rfl⟩
  rw [← e1] at hP
  have hO1 : ∀ j, j < 52 → E1 j = E0 j := fun j h => by rw [e1]; exact (hp_ne (by omega)).trans (hO0 j h)
  have hp1_52 : E1 52 = .inr (3, [.null, .null, .int (hpI 0), .int (hpI 0), .int (hpI 0)]) := by rw [e1, hp_ne (by decide)]; exact hE0
  have hD1 : ∀ j, 52 < j → j < 54 → E1 j = hpE z cy j (hp0 j) := fun j h1 h2 => by
    rcases Nat.lt_or_ge j 53 with h | h
    · rw [e1, hp_ne (by omega)]; exact hD0 j h1 h
    · obtain rfl : j = 53 := by omega
      rw [e1, hp_at, ea_53]
  refine n_putF (fs' := [.ref (z + 53), .null, .int (hpI 0), .int (hpI 0), .int (hpI 0)]) C O3 0 (by decide) hp1_52 (by decide) rfl hnm rfl wd_152 rfl rfl (Nat.le_of_ble_eq_true rfl) rfl hP hS dX3_init_9 (fun H locs hP hS => ?_)
  obtain ⟨E2, e2⟩ : ∃ F, F = va_up E1 52 (.inr (3, [.ref (z + 53), .null, .int (hpI 0), .int (hpI 0), .int (hpI 0)])) := ⟨_, rfl⟩
  rw [← e2] at hP
  have hO2 : ∀ j, j < 52 → E2 j = E0 j := fun j h => by rw [e2]; exact (hp_ne (by omega)).trans (hO1 j h)
  have hp2_52 : E2 52 = .inr (3, [.ref (z + 53), .null, .int (hpI 0), .int (hpI 0), .int (hpI 0)]) := by rw [e2, hp_at]
  have hD2 : ∀ j, 52 < j → j < 54 → E2 j = hpE z cy j (hp0 j) := fun j h1 h2 => by
    rw [e2, hp_ne (by omega)]; exact hD1 j h1 (by omega)
  refine lv_aload_n C.1 C.2.1 dX3_init_12 rfl (lv_at hl 0 rfl) ?_
  refine lv_bipush (v := hpI 40) C.1 C.2.1 dX3_init_13 (by decide) ?_
  refine n_size (n := 54) h0 rfl hS hP (fun hsz => ?_)
  refine n_newa (atype := .int) (ci := 11) (t0 := 1) (a0 := (40, .inl (fun i => hpI (hp0 54 i)))) C wd_135 rfl rfl (fun U h => h) (az_54) rfl (by decide) (Nat.le_of_ble_eq_true rfl) hP hS hsz (Nat.le_of_ble_eq_true rfl) (Nat.le_of_ble_eq_true rfl) dX3_init_15 (fun H hP hS => ?_)
  obtain ⟨E3, e3⟩ : ∃ F, F = va_up E2 54 (.inl (cy 11, 40, .inl (fun i => hpI (hp0 54 i)))) := ⟨_, rfl⟩
  rw [← e3] at hP
  have hO3 : ∀ j, j < 52 → E3 j = E0 j := fun j h => by rw [e3]; exact (hp_ne (by omega)).trans (hO2 j h)
  have hp3_52 : E3 52 = .inr (3, [.ref (z + 53), .null, .int (hpI 0), .int (hpI 0), .int (hpI 0)]) := by rw [e3, hp_ne (by decide)]; exact hp2_52
  have hD3 : ∀ j, 52 < j → j < 55 → E3 j = hpE z cy j (hp0 j) := fun j h1 h2 => by
    rcases Nat.lt_or_ge j 54 with h | h
    · rw [e3, hp_ne (by omega)]; exact hD2 j h1 h
    · obtain rfl : j = 54 := by omega
      rw [e3, hp_at, ea_54]
  refine n_putF (fs' := [.ref (z + 53), .ref (z + 54), .int (hpI 0), .int (hpI 0), .int (hpI 0)]) C O3 1 (by decide) hp3_52 (by decide) rfl hnm rfl wd_155 rfl rfl (Nat.le_of_ble_eq_true rfl) rfl hP hS dX3_init_17 (fun H locs hP hS => ?_)
  obtain ⟨E4, e4⟩ : ∃ F, F = va_up E3 52 (.inr (3, [.ref (z + 53), .ref (z + 54), .int (hpI 0), .int (hpI 0), .int (hpI 0)])) := ⟨_, rfl⟩
  rw [← e4] at hP
  have hO4 : ∀ j, j < 52 → E4 j = E0 j := fun j h => by rw [e4]; exact (hp_ne (by omega)).trans (hO3 j h)
  have hp4_52 : E4 52 = .inr (3, [.ref (z + 53), .ref (z + 54), .int (hpI 0), .int (hpI 0), .int (hpI 0)]) := by rw [e4, hp_at]
  have hD4 : ∀ j, 52 < j → j < 55 → E4 j = hpE z cy j (hp0 j) := fun j h1 h2 => by
    rw [e4, hp_ne (by omega)]; exact hD3 j h1 (by omega)
  refine W.vret C.1 C.2.1 hr (fun t ht _ => ⟨⟨rfl, E4, by rw [ht]; exact hP, hO4, fun j h1 h2 => ?_⟩, hS.F ht⟩) (fun q hq => hS.2.2 q hq) dX3_init_20 hk
  rcases Nat.lt_or_ge 52 j with h | h
  · exact hD4 j h h2
  · obtain rfl : j = 52 := by omega
    exact hp4_52.trans eo_52.symm
set_option maxHeartbeats 4000000 in
set_option maxRecDepth 20000 in
theorem kX3_55 (l : Launch) (D : va_G) (cy : Nat → ClassId) (z : Nat) (E0 : Nat → va_E) (hE0 : E0 55 = .inr (3, [.null, .null, .int (hpI 0), .int (hpI 0), .int (hpI 0)])) : hpK l D cy z yX3_init cX3_init 1 rK3 55 3 2 80 E0 := by
  refine hp_metX rfl (Nat.le_of_ble_eq_true rfl) (fun p e s m below meth c ls C A hr hk hnm h0 hl hP hS => ?_)
  have hO0 : ∀ j, j < 55 → E0 j = E0 j := fun _ _ => rfl
  have hD0 : ∀ j, 55 < j → j < 56 → E0 j = hpE z cy j (hp0 j) := fun j h1 h2 => by omega
  refine lv_aload_n C.1 C.2.1 dX3_init_0 rfl (lv_at hl 0 rfl) ?_
  refine W.objInit C.1 C.2.1 C.2.2.2.1 (C.2.2.2.2.1 _ wd_151) (C.2.2.2.2.1 _ wd_24) (C.2.2.2.2.1 _ wd_25) rfl (by rw [C.2.2.1]; exact hl.1) rfl dX3_init_1 (Nat.le_of_ble_eq_true rfl) (Nat.le_of_ble_eq_true rfl) ?_
  refine lv_aload_n C.1 C.2.1 dX3_init_4 rfl (lv_at hl 0 rfl) ?_
  refine lv_bipush (v := hpI 40) C.1 C.2.1 dX3_init_5 (by decide) ?_
  refine n_size (n := 56) h0 rfl hS hP (fun hsz => ?_)
  refine n_newa (atype := .int) (ci := 11) (t0 := 1) (a0 := (40, .inl (fun i => hpI (hp0 56 i)))) C wd_135 rfl rfl (fun U h => h) (az_56) rfl (by decide) (Nat.le_of_ble_eq_true rfl) hP hS hsz (Nat.le_of_ble_eq_true rfl) (Nat.le_of_ble_eq_true rfl) dX3_init_7 (fun H hP hS => ?_)
  obtain ⟨E1, e1⟩ : ∃ F, F = va_up E0 56 (.inl (cy 11, 40, .inl (fun i => hpI (hp0 56 i)))) := ⟨_, rfl⟩
  rw [← e1] at hP
  have hO1 : ∀ j, j < 55 → E1 j = E0 j := fun j h => by rw [e1]; exact (hp_ne (by omega)).trans (hO0 j h)
  have hp1_55 : E1 55 = .inr (3, [.null, .null, .int (hpI 0), .int (hpI 0), .int (hpI 0)]) := by rw [e1, hp_ne (by decide)]; exact hE0
  have hD1 : ∀ j, 55 < j → j < 57 → E1 j = hpE z cy j (hp0 j) := fun j h1 h2 => by
    rcases Nat.lt_or_ge j 56 with h | h
    · rw [e1, hp_ne (by omega)]; exact hD0 j h1 h
    · obtain rfl : j = 56 := by omega
      rw [e1, hp_at, ea_56]
  refine n_putF (fs' := [.ref (z + 56), .null, .int (hpI 0), .int (hpI 0), .int (hpI 0)]) C O3 0 (by decide) hp1_55 (by decide) rfl hnm rfl wd_152 rfl rfl (Nat.le_of_ble_eq_true rfl) rfl hP hS dX3_init_9 (fun H locs hP hS => ?_)
  obtain ⟨E2, e2⟩ : ∃ F, F = va_up E1 55 (.inr (3, [.ref (z + 56), .null, .int (hpI 0), .int (hpI 0), .int (hpI 0)])) := ⟨_, rfl⟩
  rw [← e2] at hP
  have hO2 : ∀ j, j < 55 → E2 j = E0 j := fun j h => by rw [e2]; exact (hp_ne (by omega)).trans (hO1 j h)
  have hp2_55 : E2 55 = .inr (3, [.ref (z + 56), .null, .int (hpI 0), .int (hpI 0), .int (hpI 0)]) := by rw [e2, hp_at]
  have hD2 : ∀ j, 55 < j → j < 57 → E2 j = hpE z cy j (hp0 j) := fun j h1 h2 => by
    rw [e2, hp_ne (by omega)]; exact hD1 j h1 (by omega)
  refine lv_aload_n C.1 C.2.1 dX3_init_12 rfl (lv_at hl 0 rfl) ?_
  refine lv_bipush (v := hpI 40) C.1 C.2.1 dX3_init_13 (by decide) ?_
  refine n_size (n := 57) h0 rfl hS hP (fun hsz => ?_)
  refine n_newa (atype := .int) (ci := 11) (t0 := 1) (a0 := (40, .inl (fun i => hpI (hp0 57 i)))) C wd_135 rfl rfl (fun U h => h) (az_57) rfl (by decide) (Nat.le_of_ble_eq_true rfl) hP hS hsz (Nat.le_of_ble_eq_true rfl) (Nat.le_of_ble_eq_true rfl) dX3_init_15 (fun H hP hS => ?_)
  obtain ⟨E3, e3⟩ : ∃ F, F = va_up E2 57 (.inl (cy 11, 40, .inl (fun i => hpI (hp0 57 i)))) := ⟨_, rfl⟩
  rw [← e3] at hP
  have hO3 : ∀ j, j < 55 → E3 j = E0 j := fun j h => by rw [e3]; exact (hp_ne (by omega)).trans (hO2 j h)
  have hp3_55 : E3 55 = .inr (3, [.ref (z + 56), .null, .int (hpI 0), .int (hpI 0), .int (hpI 0)]) := by rw [e3, hp_ne (by decide)]; exact hp2_55
  have hD3 : ∀ j, 55 < j → j < 58 → E3 j = hpE z cy j (hp0 j) := fun j h1 h2 => by
    rcases Nat.lt_or_ge j 57 with h | h
    · rw [e3, hp_ne (by omega)]; exact hD2 j h1 h
    · obtain rfl : j = 57 := by omega
      rw [e3, hp_at, ea_57]
  refine n_putF (fs' := [.ref (z + 56), .ref (z + 57), .int (hpI 0), .int (hpI 0), .int (hpI 0)]) C O3 1 (by decide) hp3_55 (by decide) rfl hnm rfl wd_155 rfl rfl (Nat.le_of_ble_eq_true rfl) rfl hP hS dX3_init_17 (fun H locs hP hS => ?_)
  obtain ⟨E4, e4⟩ : ∃ F, F = va_up E3 55 (.inr (3, [.ref (z + 56), .ref (z + 57), .int (hpI 0), .int (hpI 0), .int (hpI 0)])) := ⟨_, rfl⟩
  rw [← e4] at hP
  have hO4 : ∀ j, j < 55 → E4 j = E0 j := fun j h => by rw [e4]; exact (hp_ne (by omega)).trans (hO3 j h)
  have hp4_55 : E4 55 = .inr (3, [.ref (z + 56), .ref (z + 57), .int (hpI 0), .int (hpI 0), .int (hpI 0)]) := by rw [e4, hp_at]
  have hD4 : ∀ j, 55 < j → j < 58 → E4 j = hpE z cy j (hp0 j) := fun j h1 h2 => by
    rw [e4, hp_ne (by omega)]; exact hD3 j h1 (by omega)
  refine W.vret C.1 C.2.1 hr (fun t ht _ => ⟨⟨rfl, E4, by rw [ht]; exact hP, hO4, fun j h1 h2 => ?_⟩, hS.F ht⟩) (fun q hq => hS.2.2 q hq) dX3_init_20 hk
  rcases Nat.lt_or_ge 55 j with h | h
  · exact hD4 j h h2
  · obtain rfl : j = 55 := by omega
    exact hp4_55.trans eo_55.symm
set_option maxHeartbeats 4000000 in
set_option maxRecDepth 20000 in
theorem kX3_58 (l : Launch) (D : va_G) (cy : Nat → ClassId) (z : Nat) (E0 : Nat → va_E) (hE0 : E0 58 = .inr (3, [.null, .null, .int (hpI 0), .int (hpI 0), .int (hpI 0)])) : hpK l D cy z yX3_init cX3_init 1 rK3 58 3 2 80 E0 := by
  refine hp_metX rfl (Nat.le_of_ble_eq_true rfl) (fun p e s m below meth c ls C A hr hk hnm h0 hl hP hS => ?_)
  have hO0 : ∀ j, j < 58 → E0 j = E0 j := fun _ _ => rfl
  have hD0 : ∀ j, 58 < j → j < 59 → E0 j = hpE z cy j (hp0 j) := fun j h1 h2 => by omega
  refine lv_aload_n C.1 C.2.1 dX3_init_0 rfl (lv_at hl 0 rfl) ?_
  refine W.objInit C.1 C.2.1 C.2.2.2.1 (C.2.2.2.2.1 _ wd_151) (C.2.2.2.2.1 _ wd_24) (C.2.2.2.2.1 _ wd_25) rfl (by rw [C.2.2.1]; exact hl.1) rfl dX3_init_1 (Nat.le_of_ble_eq_true rfl) (Nat.le_of_ble_eq_true rfl) ?_
  refine lv_aload_n C.1 C.2.1 dX3_init_4 rfl (lv_at hl 0 rfl) ?_
  refine lv_bipush (v := hpI 40) C.1 C.2.1 dX3_init_5 (by decide) ?_
  refine n_size (n := 59) h0 rfl hS hP (fun hsz => ?_)
  refine n_newa (atype := .int) (ci := 11) (t0 := 1) (a0 := (40, .inl (fun i => hpI (hp0 59 i)))) C wd_135 rfl rfl (fun U h => h) (az_59) rfl (by decide) (Nat.le_of_ble_eq_true rfl) hP hS hsz (Nat.le_of_ble_eq_true rfl) (Nat.le_of_ble_eq_true rfl) dX3_init_7 (fun H hP hS => ?_)
  obtain ⟨E1, e1⟩ : ∃ F, F = va_up E0 59 (.inl (cy 11, 40, .inl (fun i => hpI (hp0 59 i)))) := ⟨_, rfl⟩
  rw [← e1] at hP
  have hO1 : ∀ j, j < 58 → E1 j = E0 j := fun j h => by rw [e1]; exact (hp_ne (by omega)).trans (hO0 j h)
  have hp1_58 : E1 58 = .inr (3, [.null, .null, .int (hpI 0), .int (hpI 0), .int (hpI 0)]) := by rw [e1, hp_ne (by decide)]; exact hE0
  have hD1 : ∀ j, 58 < j → j < 60 → E1 j = hpE z cy j (hp0 j) := fun j h1 h2 => by
    rcases Nat.lt_or_ge j 59 with h | h
    · rw [e1, hp_ne (by omega)]; exact hD0 j h1 h
    · obtain rfl : j = 59 := by omega
      rw [e1, hp_at, ea_59]
  refine n_putF (fs' := [.ref (z + 59), .null, .int (hpI 0), .int (hpI 0), .int (hpI 0)]) C O3 0 (by decide) hp1_58 (by decide) rfl hnm rfl wd_152 rfl rfl (Nat.le_of_ble_eq_true rfl) rfl hP hS dX3_init_9 (fun H locs hP hS => ?_)
  obtain ⟨E2, e2⟩ : ∃ F, F = va_up E1 58 (.inr (3, [.ref (z + 59), .null, .int (hpI 0), .int (hpI 0), .int (hpI 0)])) := ⟨_, rfl⟩
  rw [← e2] at hP
  have hO2 : ∀ j, j < 58 → E2 j = E0 j := fun j h => by rw [e2]; exact (hp_ne (by omega)).trans (hO1 j h)
  have hp2_58 : E2 58 = .inr (3, [.ref (z + 59), .null, .int (hpI 0), .int (hpI 0), .int (hpI 0)]) := by rw [e2, hp_at]
  have hD2 : ∀ j, 58 < j → j < 60 → E2 j = hpE z cy j (hp0 j) := fun j h1 h2 => by
    rw [e2, hp_ne (by omega)]; exact hD1 j h1 (by omega)
  refine lv_aload_n C.1 C.2.1 dX3_init_12 rfl (lv_at hl 0 rfl) ?_
  refine lv_bipush (v := hpI 40) C.1 C.2.1 dX3_init_13 (by decide) ?_
  refine n_size (n := 60) h0 rfl hS hP (fun hsz => ?_)
  refine n_newa (atype := .int) (ci := 11) (t0 := 1) (a0 := (40, .inl (fun i => hpI (hp0 60 i)))) C wd_135 rfl rfl (fun U h => h) (az_60) rfl (by decide) (Nat.le_of_ble_eq_true rfl) hP hS hsz (Nat.le_of_ble_eq_true rfl) (Nat.le_of_ble_eq_true rfl) dX3_init_15 (fun H hP hS => ?_)
  obtain ⟨E3, e3⟩ : ∃ F, F = va_up E2 60 (.inl (cy 11, 40, .inl (fun i => hpI (hp0 60 i)))) := ⟨_, rfl⟩
  rw [← e3] at hP
  have hO3 : ∀ j, j < 58 → E3 j = E0 j := fun j h => by rw [e3]; exact (hp_ne (by omega)).trans (hO2 j h)
  have hp3_58 : E3 58 = .inr (3, [.ref (z + 59), .null, .int (hpI 0), .int (hpI 0), .int (hpI 0)]) := by rw [e3, hp_ne (by decide)]; exact hp2_58
  have hD3 : ∀ j, 58 < j → j < 61 → E3 j = hpE z cy j (hp0 j) := fun j h1 h2 => by
    rcases Nat.lt_or_ge j 60 with h | h
    · rw [e3, hp_ne (by omega)]; exact hD2 j h1 h
    · obtain rfl : j = 60 := by omega
      rw [e3, hp_at, ea_60]
  refine n_putF (fs' := [.ref (z + 59), .ref (z + 60), .int (hpI 0), .int (hpI 0), .int (hpI 0)]) C O3 1 (by decide) hp3_58 (by decide) rfl hnm rfl wd_155 rfl rfl (Nat.le_of_ble_eq_true rfl) rfl hP hS dX3_init_17 (fun H locs hP hS => ?_)
  obtain ⟨E4, e4⟩ : ∃ F, F = va_up E3 58 (.inr (3, [.ref (z + 59), .ref (z + 60), .int (hpI 0), .int (hpI 0), .int (hpI 0)])) := ⟨_, rfl⟩
  rw [← e4] at hP
  have hO4 : ∀ j, j < 58 → E4 j = E0 j := fun j h => by rw [e4]; exact (hp_ne (by omega)).trans (hO3 j h)
  have hp4_58 : E4 58 = .inr (3, [.ref (z + 59), .ref (z + 60), .int (hpI 0), .int (hpI 0), .int (hpI 0)]) := by rw [e4, hp_at]
  have hD4 : ∀ j, 58 < j → j < 61 → E4 j = hpE z cy j (hp0 j) := fun j h1 h2 => by
    rw [e4, hp_ne (by omega)]; exact hD3 j h1 (by omega)
  refine W.vret C.1 C.2.1 hr (fun t ht _ => ⟨⟨rfl, E4, by rw [ht]; exact hP, hO4, fun j h1 h2 => ?_⟩, hS.F ht⟩) (fun q hq => hS.2.2 q hq) dX3_init_20 hk
  rcases Nat.lt_or_ge 58 j with h | h
  · exact hD4 j h h2
  · obtain rfl : j = 58 := by omega
    exact hp4_58.trans eo_58.symm
set_option maxHeartbeats 4000000 in
set_option maxRecDepth 20000 in
theorem kX3_61 (l : Launch) (D : va_G) (cy : Nat → ClassId) (z : Nat) (E0 : Nat → va_E) (hE0 : E0 61 = .inr (3, [.null, .null, .int (hpI 0), .int (hpI 0), .int (hpI 0)])) : hpK l D cy z yX3_init cX3_init 1 rK3 61 3 2 80 E0 := by
  refine hp_metX rfl (Nat.le_of_ble_eq_true rfl) (fun p e s m below meth c ls C A hr hk hnm h0 hl hP hS => ?_)
  have hO0 : ∀ j, j < 61 → E0 j = E0 j := fun _ _ => rfl
  have hD0 : ∀ j, 61 < j → j < 62 → E0 j = hpE z cy j (hp0 j) := fun j h1 h2 => by omega
  refine lv_aload_n C.1 C.2.1 dX3_init_0 rfl (lv_at hl 0 rfl) ?_
  refine W.objInit C.1 C.2.1 C.2.2.2.1 (C.2.2.2.2.1 _ wd_151) (C.2.2.2.2.1 _ wd_24) (C.2.2.2.2.1 _ wd_25) rfl (by rw [C.2.2.1]; exact hl.1) rfl dX3_init_1 (Nat.le_of_ble_eq_true rfl) (Nat.le_of_ble_eq_true rfl) ?_
  refine lv_aload_n C.1 C.2.1 dX3_init_4 rfl (lv_at hl 0 rfl) ?_
  refine lv_bipush (v := hpI 40) C.1 C.2.1 dX3_init_5 (by decide) ?_
  refine n_size (n := 62) h0 rfl hS hP (fun hsz => ?_)
  refine n_newa (atype := .int) (ci := 11) (t0 := 1) (a0 := (40, .inl (fun i => hpI (hp0 62 i)))) C wd_135 rfl rfl (fun U h => h) (az_62) rfl (by decide) (Nat.le_of_ble_eq_true rfl) hP hS hsz (Nat.le_of_ble_eq_true rfl) (Nat.le_of_ble_eq_true rfl) dX3_init_7 (fun H hP hS => ?_)
  obtain ⟨E1, e1⟩ : ∃ F, F = va_up E0 62 (.inl (cy 11, 40, .inl (fun i => hpI (hp0 62 i)))) := ⟨_, rfl⟩
  rw [← e1] at hP
  have hO1 : ∀ j, j < 61 → E1 j = E0 j := fun j h => by rw [e1]; exact (hp_ne (by omega)).trans (hO0 j h)
  have hp1_61 : E1 61 = .inr (3, [.null, .null, .int (hpI 0), .int (hpI 0), .int (hpI 0)]) := by rw [e1, hp_ne (by decide)]; exact hE0
  have hD1 : ∀ j, 61 < j → j < 63 → E1 j = hpE z cy j (hp0 j) := fun j h1 h2 => by
    rcases Nat.lt_or_ge j 62 with h | h
    · rw [e1, hp_ne (by omega)]; exact hD0 j h1 h
    · obtain rfl : j = 62 := by omega
      rw [e1, hp_at, ea_62]
  refine n_putF (fs' := [.ref (z + 62), .null, .int (hpI 0), .int (hpI 0), .int (hpI 0)]) C O3 0 (by decide) hp1_61 (by decide) rfl hnm rfl wd_152 rfl rfl (Nat.le_of_ble_eq_true rfl) rfl hP hS dX3_init_9 (fun H locs hP hS => ?_)
  obtain ⟨E2, e2⟩ : ∃ F, F = va_up E1 61 (.inr (3, [.ref (z + 62), .null, .int (hpI 0), .int (hpI 0), .int (hpI 0)])) := ⟨_, rfl⟩
  rw [← e2] at hP
  have hO2 : ∀ j, j < 61 → E2 j = E0 j := fun j h => by rw [e2]; exact (hp_ne (by omega)).trans (hO1 j h)
  have hp2_61 : E2 61 = .inr (3, [.ref (z + 62), .null, .int (hpI 0), .int (hpI 0), .int (hpI 0)]) := by rw [e2, hp_at]
  have hD2 : ∀ j, 61 < j → j < 63 → E2 j = hpE z cy j (hp0 j) := fun j h1 h2 => by
    rw [e2, hp_ne (by omega)]; exact hD1 j h1 (by omega)
  refine lv_aload_n C.1 C.2.1 dX3_init_12 rfl (lv_at hl 0 rfl) ?_
  refine lv_bipush (v := hpI 40) C.1 C.2.1 dX3_init_13 (by decide) ?_
  refine n_size (n := 63) h0 rfl hS hP (fun hsz => ?_)
  refine n_newa (atype := .int) (ci := 11) (t0 := 1) (a0 := (40, .inl (fun i => hpI (hp0 63 i)))) C wd_135 rfl rfl (fun U h => h) (az_63) rfl (by decide) (Nat.le_of_ble_eq_true rfl) hP hS hsz (Nat.le_of_ble_eq_true rfl) (Nat.le_of_ble_eq_true rfl) dX3_init_15 (fun H hP hS => ?_)
  obtain ⟨E3, e3⟩ : ∃ F, F = va_up E2 63 (.inl (cy 11, 40, .inl (fun i => hpI (hp0 63 i)))) := ⟨_, rfl⟩
  rw [← e3] at hP
  have hO3 : ∀ j, j < 61 → E3 j = E0 j := fun j h => by rw [e3]; exact (hp_ne (by omega)).trans (hO2 j h)
  have hp3_61 : E3 61 = .inr (3, [.ref (z + 62), .null, .int (hpI 0), .int (hpI 0), .int (hpI 0)]) := by rw [e3, hp_ne (by decide)]; exact hp2_61
  have hD3 : ∀ j, 61 < j → j < 64 → E3 j = hpE z cy j (hp0 j) := fun j h1 h2 => by
    rcases Nat.lt_or_ge j 63 with h | h
    · rw [e3, hp_ne (by omega)]; exact hD2 j h1 h
    · obtain rfl : j = 63 := by omega
      rw [e3, hp_at, ea_63]
  refine n_putF (fs' := [.ref (z + 62), .ref (z + 63), .int (hpI 0), .int (hpI 0), .int (hpI 0)]) C O3 1 (by decide) hp3_61 (by decide) rfl hnm rfl wd_155 rfl rfl (Nat.le_of_ble_eq_true rfl) rfl hP hS dX3_init_17 (fun H locs hP hS => ?_)
  obtain ⟨E4, e4⟩ : ∃ F, F = va_up E3 61 (.inr (3, [.ref (z + 62), .ref (z + 63), .int (hpI 0), .int (hpI 0), .int (hpI 0)])) := ⟨_, rfl⟩
  rw [← e4] at hP
  have hO4 : ∀ j, j < 61 → E4 j = E0 j := fun j h => by rw [e4]; exact (hp_ne (by omega)).trans (hO3 j h)
  have hp4_61 : E4 61 = .inr (3, [.ref (z + 62), .ref (z + 63), .int (hpI 0), .int (hpI 0), .int (hpI 0)]) := by rw [e4, hp_at]
  have hD4 : ∀ j, 61 < j → j < 64 → E4 j = hpE z cy j (hp0 j) := fun j h1 h2 => by
    rw [e4, hp_ne (by omega)]; exact hD3 j h1 (by omega)
  refine W.vret C.1 C.2.1 hr (fun t ht _ => ⟨⟨rfl, E4, by rw [ht]; exact hP, hO4, fun j h1 h2 => ?_⟩, hS.F ht⟩) (fun q hq => hS.2.2 q hq) dX3_init_20 hk
  rcases Nat.lt_or_ge 61 j with h | h
  · exact hD4 j h h2
  · obtain rfl : j = 61 := by omega
    exact hp4_61.trans eo_61.symm
set_option maxHeartbeats 4000000 in
set_option maxRecDepth 20000 in
theorem kX3_64 (l : Launch) (D : va_G) (cy : Nat → ClassId) (z : Nat) (E0 : Nat → va_E) (hE0 : E0 64 = .inr (3, [.null, .null, .int (hpI 0), .int (hpI 0), .int (hpI 0)])) : hpK l D cy z yX3_init cX3_init 1 rK3 64 3 2 80 E0 := by
  refine hp_metX rfl (Nat.le_of_ble_eq_true rfl) (fun p e s m below meth c ls C A hr hk hnm h0 hl hP hS => ?_)
  have hO0 : ∀ j, j < 64 → E0 j = E0 j := fun _ _ => rfl
  have hD0 : ∀ j, 64 < j → j < 65 → E0 j = hpE z cy j (hp0 j) := fun j h1 h2 => by omega
  refine lv_aload_n C.1 C.2.1 dX3_init_0 rfl (lv_at hl 0 rfl) ?_
  refine W.objInit C.1 C.2.1 C.2.2.2.1 (C.2.2.2.2.1 _ wd_151) (C.2.2.2.2.1 _ wd_24) (C.2.2.2.2.1 _ wd_25) rfl (by rw [C.2.2.1]; exact hl.1) rfl dX3_init_1 (Nat.le_of_ble_eq_true rfl) (Nat.le_of_ble_eq_true rfl) ?_
  refine lv_aload_n C.1 C.2.1 dX3_init_4 rfl (lv_at hl 0 rfl) ?_
  refine lv_bipush (v := hpI 40) C.1 C.2.1 dX3_init_5 (by decide) ?_
  refine n_size (n := 65) h0 rfl hS hP (fun hsz => ?_)
  refine n_newa (atype := .int) (ci := 11) (t0 := 1) (a0 := (40, .inl (fun i => hpI (hp0 65 i)))) C wd_135 rfl rfl (fun U h => h) (az_65) rfl (by decide) (Nat.le_of_ble_eq_true rfl) hP hS hsz (Nat.le_of_ble_eq_true rfl) (Nat.le_of_ble_eq_true rfl) dX3_init_7 (fun H hP hS => ?_)
  obtain ⟨E1, e1⟩ : ∃ F, F = va_up E0 65 (.inl (cy 11, 40, .inl (fun i => hpI (hp0 65 i)))) := ⟨_, rfl⟩
  rw [← e1] at hP
  have hO1 : ∀ j, j < 64 → E1 j = E0 j := fun j h => by rw [e1]; exact (hp_ne (by omega)).trans (hO0 j h)
  have hp1_64 : E1 64 = .inr (3, [.null, .null, .int (hpI 0), .int (hpI 0), .int (hpI 0)]) := by rw [e1, hp_ne (by decide)]; exact hE0
  have hD1 : ∀ j, 64 < j → j < 66 → E1 j = hpE z cy j (hp0 j) := fun j h1 h2 => by
    rcases Nat.lt_or_ge j 65 with h | h
    · rw [e1, hp_ne (by omega)]; exact hD0 j h1 h
    · obtain rfl : j = 65 := by omega
      rw [e1, hp_at, ea_65]
  refine n_putF (fs' := [.ref (z + 65), .null, .int (hpI 0), .int (hpI 0), .int (hpI 0)]) C O3 0 (by decide) hp1_64 (by decide) rfl hnm rfl wd_152 rfl rfl (Nat.le_of_ble_eq_true rfl) rfl hP hS dX3_init_9 (fun H locs hP hS => ?_)
  obtain ⟨E2, e2⟩ : ∃ F, F = va_up E1 64 (.inr (3, [.ref (z + 65), .null, .int (hpI 0), .int (hpI 0), .int (hpI 0)])) := ⟨_, rfl⟩
  rw [← e2] at hP
  have hO2 : ∀ j, j < 64 → E2 j = E0 j := fun j h => by rw [e2]; exact (hp_ne (by omega)).trans (hO1 j h)
  have hp2_64 : E2 64 = .inr (3, [.ref (z + 65), .null, .int (hpI 0), .int (hpI 0), .int (hpI 0)]) := by rw [e2, hp_at]
  have hD2 : ∀ j, 64 < j → j < 66 → E2 j = hpE z cy j (hp0 j) := fun j h1 h2 => by
    rw [e2, hp_ne (by omega)]; exact hD1 j h1 (by omega)
  refine lv_aload_n C.1 C.2.1 dX3_init_12 rfl (lv_at hl 0 rfl) ?_
  refine lv_bipush (v := hpI 40) C.1 C.2.1 dX3_init_13 (by decide) ?_
  refine n_size (n := 66) h0 rfl hS hP (fun hsz => ?_)
  refine n_newa (atype := .int) (ci := 11) (t0 := 1) (a0 := (40, .inl (fun i => hpI (hp0 66 i)))) C wd_135 rfl rfl (fun U h => h) (az_66) rfl (by decide) (Nat.le_of_ble_eq_true rfl) hP hS hsz (Nat.le_of_ble_eq_true rfl) (Nat.le_of_ble_eq_true rfl) dX3_init_15 (fun H hP hS => ?_)
  obtain ⟨E3, e3⟩ : ∃ F, F = va_up E2 66 (.inl (cy 11, 40, .inl (fun i => hpI (hp0 66 i)))) := ⟨_, rfl⟩
  rw [← e3] at hP
  have hO3 : ∀ j, j < 64 → E3 j = E0 j := fun j h => by rw [e3]; exact (hp_ne (by omega)).trans (hO2 j h)
  have hp3_64 : E3 64 = .inr (3, [.ref (z + 65), .null, .int (hpI 0), .int (hpI 0), .int (hpI 0)]) := by rw [e3, hp_ne (by decide)]; exact hp2_64
  have hD3 : ∀ j, 64 < j → j < 67 → E3 j = hpE z cy j (hp0 j) := fun j h1 h2 => by
    rcases Nat.lt_or_ge j 66 with h | h
    · rw [e3, hp_ne (by omega)]; exact hD2 j h1 h
    · obtain rfl : j = 66 := by omega
      rw [e3, hp_at, ea_66]
  refine n_putF (fs' := [.ref (z + 65), .ref (z + 66), .int (hpI 0), .int (hpI 0), .int (hpI 0)]) C O3 1 (by decide) hp3_64 (by decide) rfl hnm rfl wd_155 rfl rfl (Nat.le_of_ble_eq_true rfl) rfl hP hS dX3_init_17 (fun H locs hP hS => ?_)
  obtain ⟨E4, e4⟩ : ∃ F, F = va_up E3 64 (.inr (3, [.ref (z + 65), .ref (z + 66), .int (hpI 0), .int (hpI 0), .int (hpI 0)])) := ⟨_, rfl⟩
  rw [← e4] at hP
  have hO4 : ∀ j, j < 64 → E4 j = E0 j := fun j h => by rw [e4]; exact (hp_ne (by omega)).trans (hO3 j h)
  have hp4_64 : E4 64 = .inr (3, [.ref (z + 65), .ref (z + 66), .int (hpI 0), .int (hpI 0), .int (hpI 0)]) := by rw [e4, hp_at]
  have hD4 : ∀ j, 64 < j → j < 67 → E4 j = hpE z cy j (hp0 j) := fun j h1 h2 => by
    rw [e4, hp_ne (by omega)]; exact hD3 j h1 (by omega)
  refine W.vret C.1 C.2.1 hr (fun t ht _ => ⟨⟨rfl, E4, by rw [ht]; exact hP, hO4, fun j h1 h2 => ?_⟩, hS.F ht⟩) (fun q hq => hS.2.2 q hq) dX3_init_20 hk
  rcases Nat.lt_or_ge 64 j with h | h
  · exact hD4 j h h2
  · obtain rfl : j = 64 := by omega
    exact hp4_64.trans eo_64.symm
set_option maxHeartbeats 4000000 in
set_option maxRecDepth 20000 in
theorem kX3_67 (l : Launch) (D : va_G) (cy : Nat → ClassId) (z : Nat) (E0 : Nat → va_E) (hE0 : E0 67 = .inr (3, [.null, .null, .int (hpI 0), .int (hpI 0), .int (hpI 0)])) : hpK l D cy z yX3_init cX3_init 1 rK3 67 3 2 80 E0 := by
  refine hp_metX rfl (Nat.le_of_ble_eq_true rfl) (fun p e s m below meth c ls C A hr hk hnm h0 hl hP hS => ?_)
  have hO0 : ∀ j, j < 67 → E0 j = E0 j := fun _ _ => rfl
  have hD0 : ∀ j, 67 < j → j < 68 → E0 j = hpE z cy j (hp0 j) := fun j h1 h2 => by omega
  refine lv_aload_n C.1 C.2.1 dX3_init_0 rfl (lv_at hl 0 rfl) ?_
  refine W.objInit C.1 C.2.1 C.2.2.2.1 (C.2.2.2.2.1 _ wd_151) (C.2.2.2.2.1 _ wd_24) (C.2.2.2.2.1 _ wd_25) rfl (by rw [C.2.2.1]; exact hl.1) rfl dX3_init_1 (Nat.le_of_ble_eq_true rfl) (Nat.le_of_ble_eq_true rfl) ?_
  refine lv_aload_n C.1 C.2.1 dX3_init_4 rfl (lv_at hl 0 rfl) ?_
  refine lv_bipush (v := hpI 40) C.1 C.2.1 dX3_init_5 (by decide) ?_
  refine n_size (n := 68) h0 rfl hS hP (fun hsz => ?_)
  refine n_newa (atype := .int) (ci := 11) (t0 := 1) (a0 := (40, .inl (fun i => hpI (hp0 68 i)))) C wd_135 rfl rfl (fun U h => h) (az_68) rfl (by decide) (Nat.le_of_ble_eq_true rfl) hP hS hsz (Nat.le_of_ble_eq_true rfl) (Nat.le_of_ble_eq_true rfl) dX3_init_7 (fun H hP hS => ?_)
  obtain ⟨E1, e1⟩ : ∃ F, F = va_up E0 68 (.inl (cy 11, 40, .inl (fun i => hpI (hp0 68 i)))) := ⟨_, rfl⟩
  rw [← e1] at hP
  have hO1 : ∀ j, j < 67 → E1 j = E0 j := fun j h => by rw [e1]; exact (hp_ne (by omega)).trans (hO0 j h)
  have hp1_67 : E1 67 = .inr (3, [.null, .null, .int (hpI 0), .int (hpI 0), .int (hpI 0)]) := by rw [e1, hp_ne (by decide)]; exact hE0
  have hD1 : ∀ j, 67 < j → j < 69 → E1 j = hpE z cy j (hp0 j) := fun j h1 h2 => by
    rcases Nat.lt_or_ge j 68 with h | h
    · rw [e1, hp_ne (by omega)]; exact hD0 j h1 h
    · obtain rfl : j = 68 := by omega
      rw [e1, hp_at, ea_68]
  refine n_putF (fs' := [.ref (z + 68), .null, .int (hpI 0), .int (hpI 0), .int (hpI 0)]) C O3 0 (by decide) hp1_67 (by decide) rfl hnm rfl wd_152 rfl rfl (Nat.le_of_ble_eq_true rfl) rfl hP hS dX3_init_9 (fun H locs hP hS => ?_)
  obtain ⟨E2, e2⟩ : ∃ F, F = va_up E1 67 (.inr (3, [.ref (z + 68), .null, .int (hpI 0), .int (hpI 0), .int (hpI 0)])) := ⟨_, rfl⟩
  rw [← e2] at hP
  have hO2 : ∀ j, j < 67 → E2 j = E0 j := fun j h => by rw [e2]; exact (hp_ne (by omega)).trans (hO1 j h)
  have hp2_67 : E2 67 = .inr (3, [.ref (z + 68), .null, .int (hpI 0), .int (hpI 0), .int (hpI 0)]) := by rw [e2, hp_at]
  have hD2 : ∀ j, 67 < j → j < 69 → E2 j = hpE z cy j (hp0 j) := fun j h1 h2 => by
    rw [e2, hp_ne (by omega)]; exact hD1 j h1 (by omega)
  refine lv_aload_n C.1 C.2.1 dX3_init_12 rfl (lv_at hl 0 rfl) ?_
  refine lv_bipush (v := hpI 40) C.1 C.2.1 dX3_init_13 (by decide) ?_
  refine n_size (n := 69) h0 rfl hS hP (fun hsz => ?_)
  refine n_newa (atype := .int) (ci := 11) (t0 := 1) (a0 := (40, .inl (fun i => hpI (hp0 69 i)))) C wd_135 rfl rfl (fun U h => h) (az_69) rfl (by decide) (Nat.le_of_ble_eq_true rfl) hP hS hsz (Nat.le_of_ble_eq_true rfl) (Nat.le_of_ble_eq_true rfl) dX3_init_15 (fun H hP hS => ?_)
  obtain ⟨E3, e3⟩ : ∃ F, F = va_up E2 69 (.inl (cy 11, 40, .inl (fun i => hpI (hp0 69 i)))) := ⟨_, rfl⟩
  rw [← e3] at hP
  have hO3 : ∀ j, j < 67 → E3 j = E0 j := fun j h => by rw [e3]; exact (hp_ne (by omega)).trans (hO2 j h)
  have hp3_67 : E3 67 = .inr (3, [.ref (z + 68), .null, .int (hpI 0), .int (hpI 0), .int (hpI 0)]) := by rw [e3, hp_ne (by decide)]; exact hp2_67
  have hD3 : ∀ j, 67 < j → j < 70 → E3 j = hpE z cy j (hp0 j) := fun j h1 h2 => by
    rcases Nat.lt_or_ge j 69 with h | h
    · rw [e3, hp_ne (by omega)]; exact hD2 j h1 h
    · obtain rfl : j = 69 := by omega
      rw [e3, hp_at, ea_69]
  refine n_putF (fs' := [.ref (z + 68), .ref (z + 69), .int (hpI 0), .int (hpI 0), .int (hpI 0)]) C O3 1 (by decide) hp3_67 (by decide) rfl hnm rfl wd_155 rfl rfl (Nat.le_of_ble_eq_true rfl) rfl hP hS dX3_init_17 (fun H locs hP hS => ?_)
  obtain ⟨E4, e4⟩ : ∃ F, F = va_up E3 67 (.inr (3, [.ref (z + 68), .ref (z + 69), .int (hpI 0), .int (hpI 0), .int (hpI 0)])) := ⟨_, rfl⟩
  rw [← e4] at hP
  have hO4 : ∀ j, j < 67 → E4 j = E0 j := fun j h => by rw [e4]; exact (hp_ne (by omega)).trans (hO3 j h)
  have hp4_67 : E4 67 = .inr (3, [.ref (z + 68), .ref (z + 69), .int (hpI 0), .int (hpI 0), .int (hpI 0)]) := by rw [e4, hp_at]
  have hD4 : ∀ j, 67 < j → j < 70 → E4 j = hpE z cy j (hp0 j) := fun j h1 h2 => by
    rw [e4, hp_ne (by omega)]; exact hD3 j h1 (by omega)
  refine W.vret C.1 C.2.1 hr (fun t ht _ => ⟨⟨rfl, E4, by rw [ht]; exact hP, hO4, fun j h1 h2 => ?_⟩, hS.F ht⟩) (fun q hq => hS.2.2 q hq) dX3_init_20 hk
  rcases Nat.lt_or_ge 67 j with h | h
  · exact hD4 j h h2
  · obtain rfl : j = 67 := by omega
    exact hp4_67.trans eo_67.symm
set_option maxHeartbeats 4000000 in
set_option maxRecDepth 20000 in
theorem kX3_72 (l : Launch) (D : va_G) (cy : Nat → ClassId) (z : Nat) (E0 : Nat → va_E) (hE0 : E0 72 = .inr (3, [.null, .null, .int (hpI 0), .int (hpI 0), .int (hpI 0)])) : hpK l D cy z yX3_init cX3_init 1 rK3 72 3 2 80 E0 := by
  refine hp_metX rfl (Nat.le_of_ble_eq_true rfl) (fun p e s m below meth c ls C A hr hk hnm h0 hl hP hS => ?_)
  have hO0 : ∀ j, j < 72 → E0 j = E0 j := fun _ _ => rfl
  have hD0 : ∀ j, 72 < j → j < 73 → E0 j = hpE z cy j (hp0 j) := fun j h1 h2 => by omega
  refine lv_aload_n C.1 C.2.1 dX3_init_0 rfl (lv_at hl 0 rfl) ?_
  refine W.objInit C.1 C.2.1 C.2.2.2.1 (C.2.2.2.2.1 _ wd_151) (C.2.2.2.2.1 _ wd_24) (C.2.2.2.2.1 _ wd_25) rfl (by rw [C.2.2.1]; exact hl.1) rfl dX3_init_1 (Nat.le_of_ble_eq_true rfl) (Nat.le_of_ble_eq_true rfl) ?_
  refine lv_aload_n C.1 C.2.1 dX3_init_4 rfl (lv_at hl 0 rfl) ?_
  refine lv_bipush (v := hpI 40) C.1 C.2.1 dX3_init_5 (by decide) ?_
  refine n_size (n := 73) h0 rfl hS hP (fun hsz => ?_)
  refine n_newa (atype := .int) (ci := 11) (t0 := 1) (a0 := (40, .inl (fun i => hpI (hp0 73 i)))) C wd_135 rfl rfl (fun U h => h) (az_73) rfl (by decide) (Nat.le_of_ble_eq_true rfl) hP hS hsz (Nat.le_of_ble_eq_true rfl) (Nat.le_of_ble_eq_true rfl) dX3_init_7 (fun H hP hS => ?_)
  obtain ⟨E1, e1⟩ : ∃ F, F = va_up E0 73 (.inl (cy 11, 40, .inl (fun i => hpI (hp0 73 i)))) := ⟨_, rfl⟩
  rw [← e1] at hP
  have hO1 : ∀ j, j < 72 → E1 j = E0 j := fun j h => by rw [e1]; exact (hp_ne (by omega)).trans (hO0 j h)
  have hp1_72 : E1 72 = .inr (3, [.null, .null, .int (hpI 0), .int (hpI 0), .int (hpI 0)]) := by rw [e1, hp_ne (by decide)]; exact hE0
  have hD1 : ∀ j, 72 < j → j < 74 → E1 j = hpE z cy j (hp0 j) := fun j h1 h2 => by
    rcases Nat.lt_or_ge j 73 with h | h
    · rw [e1, hp_ne (by omega)]; exact hD0 j h1 h
    · obtain rfl : j = 73 := by omega
      rw [e1, hp_at, ea_73]
  refine n_putF (fs' := [.ref (z + 73), .null, .int (hpI 0), .int (hpI 0), .int (hpI 0)]) C O3 0 (by decide) hp1_72 (by decide) rfl hnm rfl wd_152 rfl rfl (Nat.le_of_ble_eq_true rfl) rfl hP hS dX3_init_9 (fun H locs hP hS => ?_)
  obtain ⟨E2, e2⟩ : ∃ F, F = va_up E1 72 (.inr (3, [.ref (z + 73), .null, .int (hpI 0), .int (hpI 0), .int (hpI 0)])) := ⟨_, rfl⟩
  rw [← e2] at hP
  have hO2 : ∀ j, j < 72 → E2 j = E0 j := fun j h => by rw [e2]; exact (hp_ne (by omega)).trans (hO1 j h)
  have hp2_72 : E2 72 = .inr (3, [.ref (z + 73), .null, .int (hpI 0), .int (hpI 0), .int (hpI 0)]) := by rw [e2, hp_at]
  have hD2 : ∀ j, 72 < j → j < 74 → E2 j = hpE z cy j (hp0 j) := fun j h1 h2 => by
    rw [e2, hp_ne (by omega)]; exact hD1 j h1 (by omega)
  refine lv_aload_n C.1 C.2.1 dX3_init_12 rfl (lv_at hl 0 rfl) ?_
  refine lv_bipush (v := hpI 40) C.1 C.2.1 dX3_init_13 (by decide) ?_
  refine n_size (n := 74) h0 rfl hS hP (fun hsz => ?_)
  refine n_newa (atype := .int) (ci := 11) (t0 := 1) (a0 := (40, .inl (fun i => hpI (hp0 74 i)))) C wd_135 rfl rfl (fun U h => h) (az_74) rfl (by decide) (Nat.le_of_ble_eq_true rfl) hP hS hsz (Nat.le_of_ble_eq_true rfl) (Nat.le_of_ble_eq_true rfl) dX3_init_15 (fun H hP hS => ?_)
  obtain ⟨E3, e3⟩ : ∃ F, F = va_up E2 74 (.inl (cy 11, 40, .inl (fun i => hpI (hp0 74 i)))) := ⟨_, rfl⟩
  rw [← e3] at hP
  have hO3 : ∀ j, j < 72 → E3 j = E0 j := fun j h => by rw [e3]; exact (hp_ne (by omega)).trans (hO2 j h)
  have hp3_72 : E3 72 = .inr (3, [.ref (z + 73), .null, .int (hpI 0), .int (hpI 0), .int (hpI 0)]) := by rw [e3, hp_ne (by decide)]; exact hp2_72
  have hD3 : ∀ j, 72 < j → j < 75 → E3 j = hpE z cy j (hp0 j) := fun j h1 h2 => by
    rcases Nat.lt_or_ge j 74 with h | h
    · rw [e3, hp_ne (by omega)]; exact hD2 j h1 h
    · obtain rfl : j = 74 := by omega
      rw [e3, hp_at, ea_74]
  refine n_putF (fs' := [.ref (z + 73), .ref (z + 74), .int (hpI 0), .int (hpI 0), .int (hpI 0)]) C O3 1 (by decide) hp3_72 (by decide) rfl hnm rfl wd_155 rfl rfl (Nat.le_of_ble_eq_true rfl) rfl hP hS dX3_init_17 (fun H locs hP hS => ?_)
  obtain ⟨E4, e4⟩ : ∃ F, F = va_up E3 72 (.inr (3, [.ref (z + 73), .ref (z + 74), .int (hpI 0), .int (hpI 0), .int (hpI 0)])) := ⟨_, rfl⟩
  rw [← e4] at hP
  have hO4 : ∀ j, j < 72 → E4 j = E0 j := fun j h => by rw [e4]; exact (hp_ne (by omega)).trans (hO3 j h)
  have hp4_72 : E4 72 = .inr (3, [.ref (z + 73), .ref (z + 74), .int (hpI 0), .int (hpI 0), .int (hpI 0)]) := by rw [e4, hp_at]
  have hD4 : ∀ j, 72 < j → j < 75 → E4 j = hpE z cy j (hp0 j) := fun j h1 h2 => by
    rw [e4, hp_ne (by omega)]; exact hD3 j h1 (by omega)
  refine W.vret C.1 C.2.1 hr (fun t ht _ => ⟨⟨rfl, E4, by rw [ht]; exact hP, hO4, fun j h1 h2 => ?_⟩, hS.F ht⟩) (fun q hq => hS.2.2 q hq) dX3_init_20 hk
  rcases Nat.lt_or_ge 72 j with h | h
  · exact hD4 j h h2
  · obtain rfl : j = 72 := by omega
    exact hp4_72.trans eo_72.symm
set_option maxHeartbeats 4000000 in
set_option maxRecDepth 20000 in
theorem kX3_75 (l : Launch) (D : va_G) (cy : Nat → ClassId) (z : Nat) (E0 : Nat → va_E) (hE0 : E0 75 = .inr (3, [.null, .null, .int (hpI 0), .int (hpI 0), .int (hpI 0)])) : hpK l D cy z yX3_init cX3_init 1 rK3 75 3 2 80 E0 := by
  refine hp_metX rfl (Nat.le_of_ble_eq_true rfl) (fun p e s m below meth c ls C A hr hk hnm h0 hl hP hS => ?_)
  have hO0 : ∀ j, j < 75 → E0 j = E0 j := fun _ _ => rfl
  have hD0 : ∀ j, 75 < j → j < 76 → E0 j = hpE z cy j (hp0 j) := fun j h1 h2 => by omega
  refine lv_aload_n C.1 C.2.1 dX3_init_0 rfl (lv_at hl 0 rfl) ?_
  refine W.objInit C.1 C.2.1 C.2.2.2.1 (C.2.2.2.2.1 _ wd_151) (C.2.2.2.2.1 _ wd_24) (C.2.2.2.2.1 _ wd_25) rfl (by rw [C.2.2.1]; exact hl.1) rfl dX3_init_1 (Nat.le_of_ble_eq_true rfl) (Nat.le_of_ble_eq_true rfl) ?_
  refine lv_aload_n C.1 C.2.1 dX3_init_4 rfl (lv_at hl 0 rfl) ?_
  refine lv_bipush (v := hpI 40) C.1 C.2.1 dX3_init_5 (by decide) ?_
  refine n_size (n := 76) h0 rfl hS hP (fun hsz => ?_)
  refine n_newa (atype := .int) (ci := 11) (t0 := 1) (a0 := (40, .inl (fun i => hpI (hp0 76 i)))) C wd_135 rfl rfl (fun U h => h) (az_76) rfl (by decide) (Nat.le_of_ble_eq_true rfl) hP hS hsz (Nat.le_of_ble_eq_true rfl) (Nat.le_of_ble_eq_true rfl) dX3_init_7 (fun H hP hS => ?_)
  obtain ⟨E1, e1⟩ : ∃ F, F = va_up E0 76 (.inl (cy 11, 40, .inl (fun i => hpI (hp0 76 i)))) := ⟨_, rfl⟩
  rw [← e1] at hP
  have hO1 : ∀ j, j < 75 → E1 j = E0 j := fun j h => by rw [e1]; exact (hp_ne (by omega)).trans (hO0 j h)
  have hp1_75 : E1 75 = .inr (3, [.null, .null, .int (hpI 0), .int (hpI 0), .int (hpI 0)]) := by rw [e1, hp_ne (by decide)]; exact hE0
  have hD1 : ∀ j, 75 < j → j < 77 → E1 j = hpE z cy j (hp0 j) := fun j h1 h2 => by
    rcases Nat.lt_or_ge j 76 with h | h
    · rw [e1, hp_ne (by omega)]; exact hD0 j h1 h
    · obtain rfl : j = 76 := by omega
      rw [e1, hp_at, ea_76]
  refine n_putF (fs' := [.ref (z + 76), .null, .int (hpI 0), .int (hpI 0), .int (hpI 0)]) C O3 0 (by decide) hp1_75 (by decide) rfl hnm rfl wd_152 rfl rfl (Nat.le_of_ble_eq_true rfl) rfl hP hS dX3_init_9 (fun H locs hP hS => ?_)
  obtain ⟨E2, e2⟩ : ∃ F, F = va_up E1 75 (.inr (3, [.ref (z + 76), .null, .int (hpI 0), .int (hpI 0), .int (hpI 0)])) := ⟨_, rfl⟩
  rw [← e2] at hP
  have hO2 : ∀ j, j < 75 → E2 j = E0 j := fun j h => by rw [e2]; exact (hp_ne (by omega)).trans (hO1 j h)
  have hp2_75 : E2 75 = .inr (3, [.ref (z + 76), .null, .int (hpI 0), .int (hpI 0), .int (hpI 0)]) := by rw [e2, hp_at]
  have hD2 : ∀ j, 75 < j → j < 77 → E2 j = hpE z cy j (hp0 j) := fun j h1 h2 => by
    rw [e2, hp_ne (by omega)]; exact hD1 j h1 (by omega)
  refine lv_aload_n C.1 C.2.1 dX3_init_12 rfl (lv_at hl 0 rfl) ?_
  refine lv_bipush (v := hpI 40) C.1 C.2.1 dX3_init_13 (by decide) ?_
  refine n_size (n := 77) h0 rfl hS hP (fun hsz => ?_)
  refine n_newa (atype := .int) (ci := 11) (t0 := 1) (a0 := (40, .inl (fun i => hpI (hp0 77 i)))) C wd_135 rfl rfl (fun U h => h) (az_77) rfl (by decide) (Nat.le_of_ble_eq_true rfl) hP hS hsz (Nat.le_of_ble_eq_true rfl) (Nat.le_of_ble_eq_true rfl) dX3_init_15 (fun H hP hS => ?_)
  obtain ⟨E3, e3⟩ : ∃ F, F = va_up E2 77 (.inl (cy 11, 40, .inl (fun i => hpI (hp0 77 i)))) := ⟨_, rfl⟩
  rw [← e3] at hP
  have hO3 : ∀ j, j < 75 → E3 j = E0 j := fun j h => by rw [e3]; exact (hp_ne (by omega)).trans (hO2 j h)
  have hp3_75 : E3 75 = .inr (3, [.ref (z + 76), .null, .int (hpI 0), .int (hpI 0), .int (hpI 0)]) := by rw [e3, hp_ne (by decide)]; exact hp2_75
  have hD3 : ∀ j, 75 < j → j < 78 → E3 j = hpE z cy j (hp0 j) := fun j h1 h2 => by
    rcases Nat.lt_or_ge j 77 with h | h
    · rw [e3, hp_ne (by omega)]; exact hD2 j h1 h
    · obtain rfl : j = 77 := by omega
      rw [e3, hp_at, ea_77]
  refine n_putF (fs' := [.ref (z + 76), .ref (z + 77), .int (hpI 0), .int (hpI 0), .int (hpI 0)]) C O3 1 (by decide) hp3_75 (by decide) rfl hnm rfl wd_155 rfl rfl (Nat.le_of_ble_eq_true rfl) rfl hP hS dX3_init_17 (fun H locs hP hS => ?_)
  obtain ⟨E4, e4⟩ : ∃ F, F = va_up E3 75 (.inr (3, [.ref (z + 76), .ref (z + 77), .int (hpI 0), .int (hpI 0), .int (hpI 0)])) := ⟨_, rfl⟩
  rw [← e4] at hP
  have hO4 : ∀ j, j < 75 → E4 j = E0 j := fun j h => by rw [e4]; exact (hp_ne (by omega)).trans (hO3 j h)
  have hp4_75 : E4 75 = .inr (3, [.ref (z + 76), .ref (z + 77), .int (hpI 0), .int (hpI 0), .int (hpI 0)]) := by rw [e4, hp_at]
  have hD4 : ∀ j, 75 < j → j < 78 → E4 j = hpE z cy j (hp0 j) := fun j h1 h2 => by
    rw [e4, hp_ne (by omega)]; exact hD3 j h1 (by omega)
  refine W.vret C.1 C.2.1 hr (fun t ht _ => ⟨⟨rfl, E4, by rw [ht]; exact hP, hO4, fun j h1 h2 => ?_⟩, hS.F ht⟩) (fun q hq => hS.2.2 q hq) dX3_init_20 hk
  rcases Nat.lt_or_ge 75 j with h | h
  · exact hD4 j h h2
  · obtain rfl : j = 75 := by omega
    exact hp4_75.trans eo_75.symm
set_option maxHeartbeats 4000000 in
set_option maxRecDepth 20000 in
theorem kX3_78 (l : Launch) (D : va_G) (cy : Nat → ClassId) (z : Nat) (E0 : Nat → va_E) (hE0 : E0 78 = .inr (3, [.null, .null, .int (hpI 0), .int (hpI 0), .int (hpI 0)])) : hpK l D cy z yX3_init cX3_init 1 rK3 78 3 2 80 E0 := by
  refine hp_metX rfl (Nat.le_of_ble_eq_true rfl) (fun p e s m below meth c ls C A hr hk hnm h0 hl hP hS => ?_)
  have hO0 : ∀ j, j < 78 → E0 j = E0 j := fun _ _ => rfl
  have hD0 : ∀ j, 78 < j → j < 79 → E0 j = hpE z cy j (hp0 j) := fun j h1 h2 => by omega
  refine lv_aload_n C.1 C.2.1 dX3_init_0 rfl (lv_at hl 0 rfl) ?_
  refine W.objInit C.1 C.2.1 C.2.2.2.1 (C.2.2.2.2.1 _ wd_151) (C.2.2.2.2.1 _ wd_24) (C.2.2.2.2.1 _ wd_25) rfl (by rw [C.2.2.1]; exact hl.1) rfl dX3_init_1 (Nat.le_of_ble_eq_true rfl) (Nat.le_of_ble_eq_true rfl) ?_
  refine lv_aload_n C.1 C.2.1 dX3_init_4 rfl (lv_at hl 0 rfl) ?_
  refine lv_bipush (v := hpI 40) C.1 C.2.1 dX3_init_5 (by decide) ?_
  refine n_size (n := 79) h0 rfl hS hP (fun hsz => ?_)
  refine n_newa (atype := .int) (ci := 11) (t0 := 1) (a0 := (40, .inl (fun i => hpI (hp0 79 i)))) C wd_135 rfl rfl (fun U h => h) (az_79) rfl (by decide) (Nat.le_of_ble_eq_true rfl) hP hS hsz (Nat.le_of_ble_eq_true rfl) (Nat.le_of_ble_eq_true rfl) dX3_init_7 (fun H hP hS => ?_)
  obtain ⟨E1, e1⟩ : ∃ F, F = va_up E0 79 (.inl (cy 11, 40, .inl (fun i => hpI (hp0 79 i)))) := ⟨_, rfl⟩
  rw [← e1] at hP
  have hO1 : ∀ j, j < 78 → E1 j = E0 j := fun j h => by rw [e1]; exact (hp_ne (by omega)).trans (hO0 j h)
  have hp1_78 : E1 78 = .inr (3, [.null, .null, .int (hpI 0), .int (hpI 0), .int (hpI 0)]) := by rw [e1, hp_ne (by decide)]; exact hE0
  have hD1 : ∀ j, 78 < j → j < 80 → E1 j = hpE z cy j (hp0 j) := fun j h1 h2 => by
    rcases Nat.lt_or_ge j 79 with h | h
    · rw [e1, hp_ne (by omega)]; exact hD0 j h1 h
    · obtain rfl : j = 79 := by omega
      rw [e1, hp_at, ea_79]
  refine n_putF (fs' := [.ref (z + 79), .null, .int (hpI 0), .int (hpI 0), .int (hpI 0)]) C O3 0 (by decide) hp1_78 (by decide) rfl hnm rfl wd_152 rfl rfl (Nat.le_of_ble_eq_true rfl) rfl hP hS dX3_init_9 (fun H locs hP hS => ?_)
  obtain ⟨E2, e2⟩ : ∃ F, F = va_up E1 78 (.inr (3, [.ref (z + 79), .null, .int (hpI 0), .int (hpI 0), .int (hpI 0)])) := ⟨_, rfl⟩
  rw [← e2] at hP
  have hO2 : ∀ j, j < 78 → E2 j = E0 j := fun j h => by rw [e2]; exact (hp_ne (by omega)).trans (hO1 j h)
  have hp2_78 : E2 78 = .inr (3, [.ref (z + 79), .null, .int (hpI 0), .int (hpI 0), .int (hpI 0)]) := by rw [e2, hp_at]
  have hD2 : ∀ j, 78 < j → j < 80 → E2 j = hpE z cy j (hp0 j) := fun j h1 h2 => by
    rw [e2, hp_ne (by omega)]; exact hD1 j h1 (by omega)
  refine lv_aload_n C.1 C.2.1 dX3_init_12 rfl (lv_at hl 0 rfl) ?_
  refine lv_bipush (v := hpI 40) C.1 C.2.1 dX3_init_13 (by decide) ?_
  refine n_size (n := 80) h0 rfl hS hP (fun hsz => ?_)
  refine n_newa (atype := .int) (ci := 11) (t0 := 1) (a0 := (40, .inl (fun i => hpI (hp0 80 i)))) C wd_135 rfl rfl (fun U h => h) (az_80) rfl (by decide) (Nat.le_of_ble_eq_true rfl) hP hS hsz (Nat.le_of_ble_eq_true rfl) (Nat.le_of_ble_eq_true rfl) dX3_init_15 (fun H hP hS => ?_)
  obtain ⟨E3, e3⟩ : ∃ F, F = va_up E2 80 (.inl (cy 11, 40, .inl (fun i => hpI (hp0 80 i)))) := ⟨_, rfl⟩
  rw [← e3] at hP
  have hO3 : ∀ j, j < 78 → E3 j = E0 j := fun j h => by rw [e3]; exact (hp_ne (by omega)).trans (hO2 j h)
  have hp3_78 : E3 78 = .inr (3, [.ref (z + 79), .null, .int (hpI 0), .int (hpI 0), .int (hpI 0)]) := by rw [e3, hp_ne (by decide)]; exact hp2_78
  have hD3 : ∀ j, 78 < j → j < 81 → E3 j = hpE z cy j (hp0 j) := fun j h1 h2 => by
    rcases Nat.lt_or_ge j 80 with h | h
    · rw [e3, hp_ne (by omega)]; exact hD2 j h1 h
    · obtain rfl : j = 80 := by omega
      rw [e3, hp_at, ea_80]
  refine n_putF (fs' := [.ref (z + 79), .ref (z + 80), .int (hpI 0), .int (hpI 0), .int (hpI 0)]) C O3 1 (by decide) hp3_78 (by decide) rfl hnm rfl wd_155 rfl rfl (Nat.le_of_ble_eq_true rfl) rfl hP hS dX3_init_17 (fun H locs hP hS => ?_)
  obtain ⟨E4, e4⟩ : ∃ F, F = va_up E3 78 (.inr (3, [.ref (z + 79), .ref (z + 80), .int (hpI 0), .int (hpI 0), .int (hpI 0)])) := ⟨_, rfl⟩
  rw [← e4] at hP
  have hO4 : ∀ j, j < 78 → E4 j = E0 j := fun j h => by rw [e4]; exact (hp_ne (by omega)).trans (hO3 j h)
  have hp4_78 : E4 78 = .inr (3, [.ref (z + 79), .ref (z + 80), .int (hpI 0), .int (hpI 0), .int (hpI 0)]) := by rw [e4, hp_at]
  have hD4 : ∀ j, 78 < j → j < 81 → E4 j = hpE z cy j (hp0 j) := fun j h1 h2 => by
    rw [e4, hp_ne (by omega)]; exact hD3 j h1 (by omega)
  refine W.vret C.1 C.2.1 hr (fun t ht _ => ⟨⟨rfl, E4, by rw [ht]; exact hP, hO4, fun j h1 h2 => ?_⟩, hS.F ht⟩) (fun q hq => hS.2.2 q hq) dX3_init_20 hk
  rcases Nat.lt_or_ge 78 j with h | h
  · exact hD4 j h h2
  · obtain rfl : j = 78 := by omega
    exact hp4_78.trans eo_78.symm
set_option maxHeartbeats 4000000 in
set_option maxRecDepth 20000 in
theorem kX3_81 (l : Launch) (D : va_G) (cy : Nat → ClassId) (z : Nat) (E0 : Nat → va_E) (hE0 : E0 81 = .inr (3, [.null, .null, .int (hpI 0), .int (hpI 0), .int (hpI 0)])) : hpK l D cy z yX3_init cX3_init 1 rK3 81 3 2 80 E0 := by
  refine hp_metX rfl (Nat.le_of_ble_eq_true rfl) (fun p e s m below meth c ls C A hr hk hnm h0 hl hP hS => ?_)
  have hO0 : ∀ j, j < 81 → E0 j = E0 j := fun _ _ => rfl
  have hD0 : ∀ j, 81 < j → j < 82 → E0 j = hpE z cy j (hp0 j) := fun j h1 h2 => by omega
  refine lv_aload_n C.1 C.2.1 dX3_init_0 rfl (lv_at hl 0 rfl) ?_
  refine W.objInit C.1 C.2.1 C.2.2.2.1 (C.2.2.2.2.1 _ wd_151) (C.2.2.2.2.1 _ wd_24) (C.2.2.2.2.1 _ wd_25) rfl (by rw [C.2.2.1]; exact hl.1) rfl dX3_init_1 (Nat.le_of_ble_eq_true rfl) (Nat.le_of_ble_eq_true rfl) ?_
  refine lv_aload_n C.1 C.2.1 dX3_init_4 rfl (lv_at hl 0 rfl) ?_
  refine lv_bipush (v := hpI 40) C.1 C.2.1 dX3_init_5 (by decide) ?_
  refine n_size (n := 82) h0 rfl hS hP (fun hsz => ?_)
  refine n_newa (atype := .int) (ci := 11) (t0 := 1) (a0 := (40, .inl (fun i => hpI (hp0 82 i)))) C wd_135 rfl rfl (fun U h => h) (az_82) rfl (by decide) (Nat.le_of_ble_eq_true rfl) hP hS hsz (Nat.le_of_ble_eq_true rfl) (Nat.le_of_ble_eq_true rfl) dX3_init_7 (fun H hP hS => ?_)
  obtain ⟨E1, e1⟩ : ∃ F, F = va_up E0 82 (.inl (cy 11, 40, .inl (fun i => hpI (hp0 82 i)))) := ⟨_, rfl⟩
  rw [← e1] at hP
  have hO1 : ∀ j, j < 81 → E1 j = E0 j := fun j h => by rw [e1]; exact (hp_ne (by omega)).trans (hO0 j h)
  have hp1_81 : E1 81 = .inr (3, [.null, .null, .int (hpI 0), .int (hpI 0), .int (hpI 0)]) := by rw [e1, hp_ne (by decide)]; exact hE0
  have hD1 : ∀ j, 81 < j → j < 83 → E1 j = hpE z cy j (hp0 j) := fun j h1 h2 => by
    rcases Nat.lt_or_ge j 82 with h | h
    · rw [e1, hp_ne (by omega)]; exact hD0 j h1 h
    · obtain rfl : j = 82 := by omega
      rw [e1, hp_at, ea_82]
  refine n_putF (fs' := [.ref (z + 82), .null, .int (hpI 0), .int (hpI 0), .int (hpI 0)]) C O3 0 (by decide) hp1_81 (by decide) rfl hnm rfl wd_152 rfl rfl (Nat.le_of_ble_eq_true rfl) rfl hP hS dX3_init_9 (fun H locs hP hS => ?_)
  obtain ⟨E2, e2⟩ : ∃ F, F = va_up E1 81 (.inr (3, [.ref (z + 82), .null, .int (hpI 0), .int (hpI 0), .int (hpI 0)])) := ⟨_, rfl⟩
  rw [← e2] at hP
  have hO2 : ∀ j, j < 81 → E2 j = E0 j := fun j h => by rw [e2]; exact (hp_ne (by omega)).trans (hO1 j h)
  have hp2_81 : E2 81 = .inr (3, [.ref (z + 82), .null, .int (hpI 0), .int (hpI 0), .int (hpI 0)]) := by rw [e2, hp_at]
  have hD2 : ∀ j, 81 < j → j < 83 → E2 j = hpE z cy j (hp0 j) := fun j h1 h2 => by
    rw [e2, hp_ne (by omega)]; exact hD1 j h1 (by omega)
  refine lv_aload_n C.1 C.2.1 dX3_init_12 rfl (lv_at hl 0 rfl) ?_
  refine lv_bipush (v := hpI 40) C.1 C.2.1 dX3_init_13 (by decide) ?_
  refine n_size (n := 83) h0 rfl hS hP (fun hsz => ?_)
  refine n_newa (atype := .int) (ci := 11) (t0 := 1) (a0 := (40, .inl (fun i => hpI (hp0 83 i)))) C wd_135 rfl rfl (fun U h => h) (az_83) rfl (by decide) (Nat.le_of_ble_eq_true rfl) hP hS hsz (Nat.le_of_ble_eq_true rfl) (Nat.le_of_ble_eq_true rfl) dX3_init_15 (fun H hP hS => ?_)
  obtain ⟨E3, e3⟩ : ∃ F, F = va_up E2 83 (.inl (cy 11, 40, .inl (fun i => hpI (hp0 83 i)))) := ⟨_, rfl⟩
  rw [← e3] at hP
  have hO3 : ∀ j, j < 81 → E3 j = E0 j := fun j h => by rw [e3]; exact (hp_ne (by omega)).trans (hO2 j h)
  have hp3_81 : E3 81 = .inr (3, [.ref (z + 82), .null, .int (hpI 0), .int (hpI 0), .int (hpI 0)]) := by rw [e3, hp_ne (by decide)]; exact hp2_81
  have hD3 : ∀ j, 81 < j → j < 84 → E3 j = hpE z cy j (hp0 j) := fun j h1 h2 => by
    rcases Nat.lt_or_ge j 83 with h | h
    · rw [e3, hp_ne (by omega)]; exact hD2 j h1 h
    · obtain rfl : j = 83 := by omega
      rw [e3, hp_at, ea_83]
  refine n_putF (fs' := [.ref (z + 82), .ref (z + 83), .int (hpI 0), .int (hpI 0), .int (hpI 0)]) C O3 1 (by decide) hp3_81 (by decide) rfl hnm rfl wd_155 rfl rfl (Nat.le_of_ble_eq_true rfl) rfl hP hS dX3_init_17 (fun H locs hP hS => ?_)
  obtain ⟨E4, e4⟩ : ∃ F, F = va_up E3 81 (.inr (3, [.ref (z + 82), .ref (z + 83), .int (hpI 0), .int (hpI 0), .int (hpI 0)])) := ⟨_, rfl⟩
  rw [← e4] at hP
  have hO4 : ∀ j, j < 81 → E4 j = E0 j := fun j h => by rw [e4]; exact (hp_ne (by omega)).trans (hO3 j h)
  have hp4_81 : E4 81 = .inr (3, [.ref (z + 82), .ref (z + 83), .int (hpI 0), .int (hpI 0), .int (hpI 0)]) := by rw [e4, hp_at]
  have hD4 : ∀ j, 81 < j → j < 84 → E4 j = hpE z cy j (hp0 j) := fun j h1 h2 => by
    rw [e4, hp_ne (by omega)]; exact hD3 j h1 (by omega)
  refine W.vret C.1 C.2.1 hr (fun t ht _ => ⟨⟨rfl, E4, by rw [ht]; exact hP, hO4, fun j h1 h2 => ?_⟩, hS.F ht⟩) (fun q hq => hS.2.2 q hq) dX3_init_20 hk
  rcases Nat.lt_or_ge 81 j with h | h
  · exact hD4 j h h2
  · obtain rfl : j = 81 := by omega
    exact hp4_81.trans eo_81.symm
set_option maxHeartbeats 4000000 in
set_option maxRecDepth 20000 in
theorem kX3_84 (l : Launch) (D : va_G) (cy : Nat → ClassId) (z : Nat) (E0 : Nat → va_E) (hE0 : E0 84 = .inr (3, [.null, .null, .int (hpI 0), .int (hpI 0), .int (hpI 0)])) : hpK l D cy z yX3_init cX3_init 1 rK3 84 3 2 80 E0 := by
  refine hp_metX rfl (Nat.le_of_ble_eq_true rfl) (fun p e s m below meth c ls C A hr hk hnm h0 hl hP hS => ?_)
  have hO0 : ∀ j, j < 84 → E0 j = E0 j := fun _ _ => rfl
  have hD0 : ∀ j, 84 < j → j < 85 → E0 j = hpE z cy j (hp0 j) := fun j h1 h2 => by omega
  refine lv_aload_n C.1 C.2.1 dX3_init_0 rfl (lv_at hl 0 rfl) ?_
  refine W.objInit C.1 C.2.1 C.2.2.2.1 (C.2.2.2.2.1 _ wd_151) (C.2.2.2.2.1 _ wd_24) (C.2.2.2.2.1 _ wd_25) rfl (by rw [C.2.2.1]; exact hl.1) rfl dX3_init_1 (Nat.le_of_ble_eq_true rfl) (Nat.le_of_ble_eq_true rfl) ?_
  refine lv_aload_n C.1 C.2.1 dX3_init_4 rfl (lv_at hl 0 rfl) ?_
  refine lv_bipush (v := hpI 40) C.1 C.2.1 dX3_init_5 (by decide) ?_
  refine n_size (n := 85) h0 rfl hS hP (fun hsz => ?_)
  refine n_newa (atype := .int) (ci := 11) (t0 := 1) (a0 := (40, .inl (fun i => hpI (hp0 85 i)))) C wd_135 rfl rfl (fun U h => h) (az_85) rfl (by decide) (Nat.le_of_ble_eq_true rfl) hP hS hsz (Nat.le_of_ble_eq_true rfl) (Nat.le_of_ble_eq_true rfl) dX3_init_7 (fun H hP hS => ?_)
  obtain ⟨E1, e1⟩ : ∃ F, F = va_up E0 85 (.inl (cy 11, 40, .inl (fun i => hpI (hp0 85 i)))) := ⟨_, rfl⟩
  rw [← e1] at hP
  have hO1 : ∀ j, j < 84 → E1 j = E0 j := fun j h => by rw [e1]; exact (hp_ne (by omega)).trans (hO0 j h)
  have hp1_84 : E1 84 = .inr (3, [.null, .null, .int (hpI 0), .int (hpI 0), .int (hpI 0)]) := by rw [e1, hp_ne (by decide)]; exact hE0
  have hD1 : ∀ j, 84 < j → j < 86 → E1 j = hpE z cy j (hp0 j) := fun j h1 h2 => by
    rcases Nat.lt_or_ge j 85 with h | h
    · rw [e1, hp_ne (by omega)]; exact hD0 j h1 h
    · obtain rfl : j = 85 := by omega
      rw [e1, hp_at, ea_85]
  refine n_putF (fs' := [.ref (z + 85), .null, .int (hpI 0), .int (hpI 0), .int (hpI 0)]) C O3 0 (by decide) hp1_84 (by decide) rfl hnm rfl wd_152 rfl rfl (Nat.le_of_ble_eq_true rfl) rfl hP hS dX3_init_9 (fun H locs hP hS => ?_)
  obtain ⟨E2, e2⟩ : ∃ F, F = va_up E1 84 (.inr (3, [.ref (z + 85), .null, .int (hpI 0), .int (hpI 0), .int (hpI 0)])) := ⟨_, rfl⟩
  rw [← e2] at hP
  have hO2 : ∀ j, j < 84 → E2 j = E0 j := fun j h => by rw [e2]; exact (hp_ne (by omega)).trans (hO1 j h)
  have hp2_84 : E2 84 = .inr (3, [.ref (z + 85), .null, .int (hpI 0), .int (hpI 0), .int (hpI 0)]) := by rw [e2, hp_at]
  have hD2 : ∀ j, 84 < j → j < 86 → E2 j = hpE z cy j (hp0 j) := fun j h1 h2 => by
    rw [e2, hp_ne (by omega)]; exact hD1 j h1 (by omega)
  refine lv_aload_n C.1 C.2.1 dX3_init_12 rfl (lv_at hl 0 rfl) ?_
  refine lv_bipush (v := hpI 40) C.1 C.2.1 dX3_init_13 (by decide) ?_
  refine n_size (n := 86) h0 rfl hS hP (fun hsz => ?_)
  refine n_newa (atype := .int) (ci := 11) (t0 := 1) (a0 := (40, .inl (fun i => hpI (hp0 86 i)))) C wd_135 rfl rfl (fun U h => h) (az_86) rfl (by decide) (Nat.le_of_ble_eq_true rfl) hP hS hsz (Nat.le_of_ble_eq_true rfl) (Nat.le_of_ble_eq_true rfl) dX3_init_15 (fun H hP hS => ?_)
  obtain ⟨E3, e3⟩ : ∃ F, F = va_up E2 86 (.inl (cy 11, 40, .inl (fun i => hpI (hp0 86 i)))) := ⟨_, rfl⟩
  rw [← e3] at hP
  have hO3 : ∀ j, j < 84 → E3 j = E0 j := fun j h => by rw [e3]; exact (hp_ne (by omega)).trans (hO2 j h)
  have hp3_84 : E3 84 = .inr (3, [.ref (z + 85), .null, .int (hpI 0), .int (hpI 0), .int (hpI 0)]) := by rw [e3, hp_ne (by decide)]; exact hp2_84
  have hD3 : ∀ j, 84 < j → j < 87 → E3 j = hpE z cy j (hp0 j) := fun j h1 h2 => by
    rcases Nat.lt_or_ge j 86 with h | h
    · rw [e3, hp_ne (by omega)]; exact hD2 j h1 h
    · obtain rfl : j = 86 := by omega
      rw [e3, hp_at, ea_86]
  refine n_putF (fs' := [.ref (z + 85), .ref (z + 86), .int (hpI 0), .int (hpI 0), .int (hpI 0)]) C O3 1 (by decide) hp3_84 (by decide) rfl hnm rfl wd_155 rfl rfl (Nat.le_of_ble_eq_true rfl) rfl hP hS dX3_init_17 (fun H locs hP hS => ?_)
  obtain ⟨E4, e4⟩ : ∃ F, F = va_up E3 84 (.inr (3, [.ref (z + 85), .ref (z + 86), .int (hpI 0), .int (hpI 0), .int (hpI 0)])) := ⟨_, rfl⟩
  rw [← e4] at hP
  have hO4 : ∀ j, j < 84 → E4 j = E0 j := fun j h => by rw [e4]; exact (hp_ne (by omega)).trans (hO3 j h)
  have hp4_84 : E4 84 = .inr (3, [.ref (z + 85), .ref (z + 86), .int (hpI 0), .int (hpI 0), .int (hpI 0)]) := by rw [e4, hp_at]
  have hD4 : ∀ j, 84 < j → j < 87 → E4 j = hpE z cy j (hp0 j) := fun j h1 h2 => by
    rw [e4, hp_ne (by omega)]; exact hD3 j h1 (by omega)
  refine W.vret C.1 C.2.1 hr (fun t ht _ => ⟨⟨rfl, E4, by rw [ht]; exact hP, hO4, fun j h1 h2 => ?_⟩, hS.F ht⟩) (fun q hq => hS.2.2 q hq) dX3_init_20 hk
  rcases Nat.lt_or_ge 84 j with h | h
  · exact hD4 j h h2
  · obtain rfl : j = 84 := by omega
    exact hp4_84.trans eo_84.symm
set_option maxHeartbeats 4000000 in
set_option maxRecDepth 20000 in
theorem kX3_87 (l : Launch) (D : va_G) (cy : Nat → ClassId) (z : Nat) (E0 : Nat → va_E) (hE0 : E0 87 = .inr (3, [.null, .null, .int (hpI 0), .int (hpI 0), .int (hpI 0)])) : hpK l D cy z yX3_init cX3_init 1 rK3 87 3 2 80 E0 := by
  refine hp_metX rfl (Nat.le_of_ble_eq_true rfl) (fun p e s m below meth c ls C A hr hk hnm h0 hl hP hS => ?_)
  have hO0 : ∀ j, j < 87 → E0 j = E0 j := fun _ _ => rfl
  have hD0 : ∀ j, 87 < j → j < 88 → E0 j = hpE z cy j (hp0 j) := fun j h1 h2 => by omega
  refine lv_aload_n C.1 C.2.1 dX3_init_0 rfl (lv_at hl 0 rfl) ?_
  refine W.objInit C.1 C.2.1 C.2.2.2.1 (C.2.2.2.2.1 _ wd_151) (C.2.2.2.2.1 _ wd_24) (C.2.2.2.2.1 _ wd_25) rfl (by rw [C.2.2.1]; exact hl.1) rfl dX3_init_1 (Nat.le_of_ble_eq_true rfl) (Nat.le_of_ble_eq_true rfl) ?_
  refine lv_aload_n C.1 C.2.1 dX3_init_4 rfl (lv_at hl 0 rfl) ?_
  refine lv_bipush (v := hpI 40) C.1 C.2.1 dX3_init_5 (by decide) ?_
  refine n_size (n := 88) h0 rfl hS hP (fun hsz => ?_)
  refine n_newa (atype := .int) (ci := 11) (t0 := 1) (a0 := (40, .inl (fun i => hpI (hp0 88 i)))) C wd_135 rfl rfl (fun U h => h) (az_88) rfl (by decide) (Nat.le_of_ble_eq_true rfl) hP hS hsz (Nat.le_of_ble_eq_true rfl) (Nat.le_of_ble_eq_true rfl) dX3_init_7 (fun H hP hS => ?_)
  obtain ⟨E1, e1⟩ : ∃ F, F = va_up E0 88 (.inl (cy 11, 40, .inl (fun i => hpI (hp0 88 i)))) := ⟨_, rfl⟩
  rw [← e1] at hP
  have hO1 : ∀ j, j < 87 → E1 j = E0 j := fun j h => by rw [e1]; exact (hp_ne (by omega)).trans (hO0 j h)
  have hp1_87 : E1 87 = .inr (3, [.null, .null, .int (hpI 0), .int (hpI 0), .int (hpI 0)]) := by rw [e1, hp_ne (by decide)]; exact hE0
  have hD1 : ∀ j, 87 < j → j < 89 → E1 j = hpE z cy j (hp0 j) := fun j h1 h2 => by
    rcases Nat.lt_or_ge j 88 with h | h
    · rw [e1, hp_ne (by omega)]; exact hD0 j h1 h
    · obtain rfl : j = 88 := by omega
      rw [e1, hp_at, ea_88]
  refine n_putF (fs' := [.ref (z + 88), .null, .int (hpI 0), .int (hpI 0), .int (hpI 0)]) C O3 0 (by decide) hp1_87 (by decide) rfl hnm rfl wd_152 rfl rfl (Nat.le_of_ble_eq_true rfl) rfl hP hS dX3_init_9 (fun H locs hP hS => ?_)
  obtain ⟨E2, e2⟩ : ∃ F, F = va_up E1 87 (.inr (3, [.ref (z + 88), .null, .int (hpI 0), .int (hpI 0), .int (hpI 0)])) := ⟨_, rfl⟩
  rw [← e2] at hP
  have hO2 : ∀ j, j < 87 → E2 j = E0 j := fun j h => by rw [e2]; exact (hp_ne (by omega)).trans (hO1 j h)
  have hp2_87 : E2 87 = .inr (3, [.ref (z + 88), .null, .int (hpI 0), .int (hpI 0), .int (hpI 0)]) := by rw [e2, hp_at]
  have hD2 : ∀ j, 87 < j → j < 89 → E2 j = hpE z cy j (hp0 j) := fun j h1 h2 => by
    rw [e2, hp_ne (by omega)]; exact hD1 j h1 (by omega)
  refine lv_aload_n C.1 C.2.1 dX3_init_12 rfl (lv_at hl 0 rfl) ?_
  refine lv_bipush (v := hpI 40) C.1 C.2.1 dX3_init_13 (by decide) ?_
  refine n_size (n := 89) h0 rfl hS hP (fun hsz => ?_)
  refine n_newa (atype := .int) (ci := 11) (t0 := 1) (a0 := (40, .inl (fun i => hpI (hp0 89 i)))) C wd_135 rfl rfl (fun U h => h) (az_89) rfl (by decide) (Nat.le_of_ble_eq_true rfl) hP hS hsz (Nat.le_of_ble_eq_true rfl) (Nat.le_of_ble_eq_true rfl) dX3_init_15 (fun H hP hS => ?_)
  obtain ⟨E3, e3⟩ : ∃ F, F = va_up E2 89 (.inl (cy 11, 40, .inl (fun i => hpI (hp0 89 i)))) := ⟨_, rfl⟩
  rw [← e3] at hP
  have hO3 : ∀ j, j < 87 → E3 j = E0 j := fun j h => by rw [e3]; exact (hp_ne (by omega)).trans (hO2 j h)
  have hp3_87 : E3 87 = .inr (3, [.ref (z + 88), .null, .int (hpI 0), .int (hpI 0), .int (hpI 0)]) := by rw [e3, hp_ne (by decide)]; exact hp2_87
  have hD3 : ∀ j, 87 < j → j < 90 → E3 j = hpE z cy j (hp0 j) := fun j h1 h2 => by
    rcases Nat.lt_or_ge j 89 with h | h
    · rw [e3, hp_ne (by omega)]; exact hD2 j h1 h
    · obtain rfl : j = 89 := by omega
      rw [e3, hp_at, ea_89]
  refine n_putF (fs' := [.ref (z + 88), .ref (z + 89), .int (hpI 0), .int (hpI 0), .int (hpI 0)]) C O3 1 (by decide) hp3_87 (by decide) rfl hnm rfl wd_155 rfl rfl (Nat.le_of_ble_eq_true rfl) rfl hP hS dX3_init_17 (fun H locs hP hS => ?_)
  obtain ⟨E4, e4⟩ : ∃ F, F = va_up E3 87 (.inr (3, [.ref (z + 88), .ref (z + 89), .int (hpI 0), .int (hpI 0), .int (hpI 0)])) := ⟨_, rfl⟩
  rw [← e4] at hP
  have hO4 : ∀ j, j < 87 → E4 j = E0 j := fun j h => by rw [e4]; exact (hp_ne (by omega)).trans (hO3 j h)
  have hp4_87 : E4 87 = .inr (3, [.ref (z + 88), .ref (z + 89), .int (hpI 0), .int (hpI 0), .int (hpI 0)]) := by rw [e4, hp_at]
  have hD4 : ∀ j, 87 < j → j < 90 → E4 j = hpE z cy j (hp0 j) := fun j h1 h2 => by
    rw [e4, hp_ne (by omega)]; exact hD3 j h1 (by omega)
  refine W.vret C.1 C.2.1 hr (fun t ht _ => ⟨⟨rfl, E4, by rw [ht]; exact hP, hO4, fun j h1 h2 => ?_⟩, hS.F ht⟩) (fun q hq => hS.2.2 q hq) dX3_init_20 hk
  rcases Nat.lt_or_ge 87 j with h | h
  · exact hD4 j h h2
  · obtain rfl : j = 87 := by omega
    exact hp4_87.trans eo_87.symm
set_option maxHeartbeats 4000000 in
set_option maxRecDepth 20000 in
theorem kX3_90 (l : Launch) (D : va_G) (cy : Nat → ClassId) (z : Nat) (E0 : Nat → va_E) (hE0 : E0 90 = .inr (3, [.null, .null, .int (hpI 0), .int (hpI 0), .int (hpI 0)])) : hpK l D cy z yX3_init cX3_init 1 rK3 90 3 2 80 E0 := by
  refine hp_metX rfl (Nat.le_of_ble_eq_true rfl) (fun p e s m below meth c ls C A hr hk hnm h0 hl hP hS => ?_)
  have hO0 : ∀ j, j < 90 → E0 j = E0 j := fun _ _ => rfl
  have hD0 : ∀ j, 90 < j → j < 91 → E0 j = hpE z cy j (hp0 j) := fun j h1 h2 => by omega
  refine lv_aload_n C.1 C.2.1 dX3_init_0 rfl (lv_at hl 0 rfl) ?_
  refine W.objInit C.1 C.2.1 C.2.2.2.1 (C.2.2.2.2.1 _ wd_151) (C.2.2.2.2.1 _ wd_24) (C.2.2.2.2.1 _ wd_25) rfl (by rw [C.2.2.1]; exact hl.1) rfl dX3_init_1 (Nat.le_of_ble_eq_true rfl) (Nat.le_of_ble_eq_true rfl) ?_
  refine lv_aload_n C.1 C.2.1 dX3_init_4 rfl (lv_at hl 0 rfl) ?_
  refine lv_bipush (v := hpI 40) C.1 C.2.1 dX3_init_5 (by decide) ?_
  refine n_size (n := 91) h0 rfl hS hP (fun hsz => ?_)
  refine n_newa (atype := .int) (ci := 11) (t0 := 1) (a0 := (40, .inl (fun i => hpI (hp0 91 i)))) C wd_135 rfl rfl (fun U h => h) (az_91) rfl (by decide) (Nat.le_of_ble_eq_true rfl) hP hS hsz (Nat.le_of_ble_eq_true rfl) (Nat.le_of_ble_eq_true rfl) dX3_init_7 (fun H hP hS => ?_)
  obtain ⟨E1, e1⟩ : ∃ F, F = va_up E0 91 (.inl (cy 11, 40, .inl (fun i => hpI (hp0 91 i)))) := ⟨_, rfl⟩
  rw [← e1] at hP
  have hO1 : ∀ j, j < 90 → E1 j = E0 j := fun j h => by rw [e1]; exact (hp_ne (by omega)).trans (hO0 j h)
  have hp1_90 : E1 90 = .inr (3, [.null, .null, .int (hpI 0), .int (hpI 0), .int (hpI 0)]) := by rw [e1, hp_ne (by decide)]; exact hE0
  have hD1 : ∀ j, 90 < j → j < 92 → E1 j = hpE z cy j (hp0 j) := fun j h1 h2 => by
    rcases Nat.lt_or_ge j 91 with h | h
    · rw [e1, hp_ne (by omega)]; exact hD0 j h1 h
    · obtain rfl : j = 91 := by omega
      rw [e1, hp_at, ea_91]
  refine n_putF (fs' := [.ref (z + 91), .null, .int (hpI 0), .int (hpI 0), .int (hpI 0)]) C O3 0 (by decide) hp1_90 (by decide) rfl hnm rfl wd_152 rfl rfl (Nat.le_of_ble_eq_true rfl) rfl hP hS dX3_init_9 (fun H locs hP hS => ?_)
  obtain ⟨E2, e2⟩ : ∃ F, F = va_up E1 90 (.inr (3, [.ref (z + 91), .null, .int (hpI 0), .int (hpI 0), .int (hpI 0)])) := ⟨_, rfl⟩
  rw [← e2] at hP
  have hO2 : ∀ j, j < 90 → E2 j = E0 j := fun j h => by rw [e2]; exact (hp_ne (by omega)).trans (hO1 j h)
  have hp2_90 : E2 90 = .inr (3, [.ref (z + 91), .null, .int (hpI 0), .int (hpI 0), .int (hpI 0)]) := by rw [e2, hp_at]
  have hD2 : ∀ j, 90 < j → j < 92 → E2 j = hpE z cy j (hp0 j) := fun j h1 h2 => by
    rw [e2, hp_ne (by omega)]; exact hD1 j h1 (by omega)
  refine lv_aload_n C.1 C.2.1 dX3_init_12 rfl (lv_at hl 0 rfl) ?_
  refine lv_bipush (v := hpI 40) C.1 C.2.1 dX3_init_13 (by decide) ?_
  refine n_size (n := 92) h0 rfl hS hP (fun hsz => ?_)
  refine n_newa (atype := .int) (ci := 11) (t0 := 1) (a0 := (40, .inl (fun i => hpI (hp0 92 i)))) C wd_135 rfl rfl (fun U h => h) (az_92) rfl (by decide) (Nat.le_of_ble_eq_true rfl) hP hS hsz (Nat.le_of_ble_eq_true rfl) (Nat.le_of_ble_eq_true rfl) dX3_init_15 (fun H hP hS => ?_)
  obtain ⟨E3, e3⟩ : ∃ F, F = va_up E2 92 (.inl (cy 11, 40, .inl (fun i => hpI (hp0 92 i)))) := ⟨_, rfl⟩
  rw [← e3] at hP
  have hO3 : ∀ j, j < 90 → E3 j = E0 j := fun j h => by rw [e3]; exact (hp_ne (by omega)).trans (hO2 j h)
  have hp3_90 : E3 90 = .inr (3, [.ref (z + 91), .null, .int (hpI 0), .int (hpI 0), .int (hpI 0)]) := by rw [e3, hp_ne (by decide)]; exact hp2_90
  have hD3 : ∀ j, 90 < j → j < 93 → E3 j = hpE z cy j (hp0 j) := fun j h1 h2 => by
    rcases Nat.lt_or_ge j 92 with h | h
    · rw [e3, hp_ne (by omega)]; exact hD2 j h1 h
    · obtain rfl : j = 92 := by omega
      rw [e3, hp_at, ea_92]
  refine n_putF (fs' := [.ref (z + 91), .ref (z + 92), .int (hpI 0), .int (hpI 0), .int (hpI 0)]) C O3 1 (by decide) hp3_90 (by decide) rfl hnm rfl wd_155 rfl rfl (Nat.le_of_ble_eq_true rfl) rfl hP hS dX3_init_17 (fun H locs hP hS => ?_)
  obtain ⟨E4, e4⟩ : ∃ F, F = va_up E3 90 (.inr (3, [.ref (z + 91), .ref (z + 92), .int (hpI 0), .int (hpI 0), .int (hpI 0)])) := ⟨_, rfl⟩
  rw [← e4] at hP
  have hO4 : ∀ j, j < 90 → E4 j = E0 j := fun j h => by rw [e4]; exact (hp_ne (by omega)).trans (hO3 j h)
  have hp4_90 : E4 90 = .inr (3, [.ref (z + 91), .ref (z + 92), .int (hpI 0), .int (hpI 0), .int (hpI 0)]) := by rw [e4, hp_at]
  have hD4 : ∀ j, 90 < j → j < 93 → E4 j = hpE z cy j (hp0 j) := fun j h1 h2 => by
    rw [e4, hp_ne (by omega)]; exact hD3 j h1 (by omega)
  refine W.vret C.1 C.2.1 hr (fun t ht _ => ⟨⟨rfl, E4, by rw [ht]; exact hP, hO4, fun j h1 h2 => ?_⟩, hS.F ht⟩) (fun q hq => hS.2.2 q hq) dX3_init_20 hk
  rcases Nat.lt_or_ge 90 j with h | h
  · exact hD4 j h h2
  · obtain rfl : j = 90 := by omega
    exact hp4_90.trans eo_90.symm
set_option maxHeartbeats 4000000 in
set_option maxRecDepth 20000 in
theorem kX3_93 (l : Launch) (D : va_G) (cy : Nat → ClassId) (z : Nat) (E0 : Nat → va_E) (hE0 : E0 93 = .inr (3, [.null, .null, .int (hpI 0), .int (hpI 0), .int (hpI 0)])) : hpK l D cy z yX3_init cX3_init 1 rK3 93 3 2 80 E0 := by
  refine hp_metX rfl (Nat.le_of_ble_eq_true rfl) (fun p e s m below meth c ls C A hr hk hnm h0 hl hP hS => ?_)
  have hO0 : ∀ j, j < 93 → E0 j = E0 j := fun _ _ => rfl
  have hD0 : ∀ j, 93 < j → j < 94 → E0 j = hpE z cy j (hp0 j) := fun j h1 h2 => by omega
  refine lv_aload_n C.1 C.2.1 dX3_init_0 rfl (lv_at hl 0 rfl) ?_
  refine W.objInit C.1 C.2.1 C.2.2.2.1 (C.2.2.2.2.1 _ wd_151) (C.2.2.2.2.1 _ wd_24) (C.2.2.2.2.1 _ wd_25) rfl (by rw [C.2.2.1]; exact hl.1) rfl dX3_init_1 (Nat.le_of_ble_eq_true rfl) (Nat.le_of_ble_eq_true rfl) ?_
  refine lv_aload_n C.1 C.2.1 dX3_init_4 rfl (lv_at hl 0 rfl) ?_
  refine lv_bipush (v := hpI 40) C.1 C.2.1 dX3_init_5 (by decide) ?_
  refine n_size (n := 94) h0 rfl hS hP (fun hsz => ?_)
  refine n_newa (atype := .int) (ci := 11) (t0 := 1) (a0 := (40, .inl (fun i => hpI (hp0 94 i)))) C wd_135 rfl rfl (fun U h => h) (az_94) rfl (by decide) (Nat.le_of_ble_eq_true rfl) hP hS hsz (Nat.le_of_ble_eq_true rfl) (Nat.le_of_ble_eq_true rfl) dX3_init_7 (fun H hP hS => ?_)
  obtain ⟨E1, e1⟩ : ∃ F, F = va_up E0 94 (.inl (cy 11, 40, .inl (fun i => hpI (hp0 94 i)))) := ⟨_, rfl⟩
  rw [← e1] at hP
  have hO1 : ∀ j, j < 93 → E1 j = E0 j := fun j h => by rw [e1]; exact (hp_ne (by omega)).trans (hO0 j h)
  have hp1_93 : E1 93 = .inr (3, [.null, .null, .int (hpI 0), .int (hpI 0), .int (hpI 0)]) := by rw [e1, hp_ne (by decide)]; exact hE0
  have hD1 : ∀ j, 93 < j → j < 95 → E1 j = hpE z cy j (hp0 j) := fun j h1 h2 => by
    rcases Nat.lt_or_ge j 94 with h | h
    · rw [e1, hp_ne (by omega)]; exact hD0 j h1 h
    · obtain rfl : j = 94 := by omega
      rw [e1, hp_at, ea_94]
  refine n_putF (fs' := [.ref (z + 94), .null, .int (hpI 0), .int (hpI 0), .int (hpI 0)]) C O3 0 (by decide) hp1_93 (by decide) rfl hnm rfl wd_152 rfl rfl (Nat.le_of_ble_eq_true rfl) rfl hP hS dX3_init_9 (fun H locs hP hS => ?_)
  obtain ⟨E2, e2⟩ : ∃ F, F = va_up E1 93 (.inr (3, [.ref (z + 94), .null, .int (hpI 0), .int (hpI 0), .int (hpI 0)])) := ⟨_, rfl⟩
  rw [← e2] at hP
  have hO2 : ∀ j, j < 93 → E2 j = E0 j := fun j h => by rw [e2]; exact (hp_ne (by omega)).trans (hO1 j h)
  have hp2_93 : E2 93 = .inr (3, [.ref (z + 94), .null, .int (hpI 0), .int (hpI 0), .int (hpI 0)]) := by rw [e2, hp_at]
  have hD2 : ∀ j, 93 < j → j < 95 → E2 j = hpE z cy j (hp0 j) := fun j h1 h2 => by
    rw [e2, hp_ne (by omega)]; exact hD1 j h1 (by omega)
  refine lv_aload_n C.1 C.2.1 dX3_init_12 rfl (lv_at hl 0 rfl) ?_
  refine lv_bipush (v := hpI 40) C.1 C.2.1 dX3_init_13 (by decide) ?_
  refine n_size (n := 95) h0 rfl hS hP (fun hsz => ?_)
  refine n_newa (atype := .int) (ci := 11) (t0 := 1) (a0 := (40, .inl (fun i => hpI (hp0 95 i)))) C wd_135 rfl rfl (fun U h => h) (az_95) rfl (by decide) (Nat.le_of_ble_eq_true rfl) hP hS hsz (Nat.le_of_ble_eq_true rfl) (Nat.le_of_ble_eq_true rfl) dX3_init_15 (fun H hP hS => ?_)
  obtain ⟨E3, e3⟩ : ∃ F, F = va_up E2 95 (.inl (cy 11, 40, .inl (fun i => hpI (hp0 95 i)))) := ⟨_, rfl⟩
  rw [← e3] at hP
  have hO3 : ∀ j, j < 93 → E3 j = E0 j := fun j h => by rw [e3]; exact (hp_ne (by omega)).trans (hO2 j h)
  have hp3_93 : E3 93 = .inr (3, [.ref (z + 94), .null, .int (hpI 0), .int (hpI 0), .int (hpI 0)]) := by rw [e3, hp_ne (by decide)]; exact hp2_93
  have hD3 : ∀ j, 93 < j → j < 96 → E3 j = hpE z cy j (hp0 j) := fun j h1 h2 => by
    rcases Nat.lt_or_ge j 95 with h | h
    · rw [e3, hp_ne (by omega)]; exact hD2 j h1 h
    · obtain rfl : j = 95 := by omega
      rw [e3, hp_at, ea_95]
  refine n_putF (fs' := [.ref (z + 94), .ref (z + 95), .int (hpI 0), .int (hpI 0), .int (hpI 0)]) C O3 1 (by decide) hp3_93 (by decide) rfl hnm rfl wd_155 rfl rfl (Nat.le_of_ble_eq_true rfl) rfl hP hS dX3_init_17 (fun H locs hP hS => ?_)
  obtain ⟨E4, e4⟩ : ∃ F, F = va_up E3 93 (.inr (3, [.ref (z + 94), .ref (z + 95), .int (hpI 0), .int (hpI 0), .int (hpI 0)])) := ⟨_, rfl⟩
  rw [← e4] at hP
  have hO4 : ∀ j, j < 93 → E4 j = E0 j := fun j h => by rw [e4]; exact (hp_ne (by omega)).trans (hO3 j h)
  have hp4_93 : E4 93 = .inr (3, [.ref (z + 94), .ref (z + 95), .int (hpI 0), .int (hpI 0), .int (hpI 0)]) := by rw [e4, hp_at]
  have hD4 : ∀ j, 93 < j → j < 96 → E4 j = hpE z cy j (hp0 j) := fun j h1 h2 => by
    rw [e4, hp_ne (by omega)]; exact hD3 j h1 (by omega)
  refine W.vret C.1 C.2.1 hr (fun t ht _ => ⟨⟨rfl, E4, by rw [ht]; exact hP, hO4, fun j h1 h2 => ?_⟩, hS.F ht⟩) (fun q hq => hS.2.2 q hq) dX3_init_20 hk
  rcases Nat.lt_or_ge 93 j with h | h
  · exact hD4 j h h2
  · obtain rfl : j = 93 := by omega
    exact hp4_93.trans eo_93.symm
set_option maxHeartbeats 4000000 in
set_option maxRecDepth 20000 in
theorem kX3_96 (l : Launch) (D : va_G) (cy : Nat → ClassId) (z : Nat) (E0 : Nat → va_E) (hE0 : E0 96 = .inr (3, [.null, .null, .int (hpI 0), .int (hpI 0), .int (hpI 0)])) : hpK l D cy z yX3_init cX3_init 1 rK3 96 3 2 80 E0 := by
  refine hp_metX rfl (Nat.le_of_ble_eq_true rfl) (fun p e s m below meth c ls C A hr hk hnm h0 hl hP hS => ?_)
  have hO0 : ∀ j, j < 96 → E0 j = E0 j := fun _ _ => rfl
  have hD0 : ∀ j, 96 < j → j < 97 → E0 j = hpE z cy j (hp0 j) := fun j h1 h2 => by omega
  refine lv_aload_n C.1 C.2.1 dX3_init_0 rfl (lv_at hl 0 rfl) ?_
  refine W.objInit C.1 C.2.1 C.2.2.2.1 (C.2.2.2.2.1 _ wd_151) (C.2.2.2.2.1 _ wd_24) (C.2.2.2.2.1 _ wd_25) rfl (by rw [C.2.2.1]; exact hl.1) rfl dX3_init_1 (Nat.le_of_ble_eq_true rfl) (Nat.le_of_ble_eq_true rfl) ?_
  refine lv_aload_n C.1 C.2.1 dX3_init_4 rfl (lv_at hl 0 rfl) ?_
  refine lv_bipush (v := hpI 40) C.1 C.2.1 dX3_init_5 (by decide) ?_
  refine n_size (n := 97) h0 rfl hS hP (fun hsz => ?_)
  refine n_newa (atype := .int) (ci := 11) (t0 := 1) (a0 := (40, .inl (fun i => hpI (hp0 97 i)))) C wd_135 rfl rfl (fun U h => h) (az_97) rfl (by decide) (Nat.le_of_ble_eq_true rfl) hP hS hsz (Nat.le_of_ble_eq_true rfl) (Nat.le_of_ble_eq_true rfl) dX3_init_7 (fun H hP hS => ?_)
  obtain ⟨E1, e1⟩ : ∃ F, F = va_up E0 97 (.inl (cy 11, 40, .inl (fun i => hpI (hp0 97 i)))) := ⟨_, rfl⟩
  rw [← e1] at hP
  have hO1 : ∀ j, j < 96 → E1 j = E0 j := fun j h => by rw [e1]; exact (hp_ne (by omega)).trans (hO0 j h)
  have hp1_96 : E1 96 = .inr (3, [.null, .null, .int (hpI 0), .int (hpI 0), .int (hpI 0)]) := by rw [e1, hp_ne (by decide)]; exact hE0
  have hD1 : ∀ j, 96 < j → j < 98 → E1 j = hpE z cy j (hp0 j) := fun j h1 h2 => by
    rcases Nat.lt_or_ge j 97 with h | h
    · rw [e1, hp_ne (by omega)]; exact hD0 j h1 h
    · obtain rfl : j = 97 := by omega
      rw [e1, hp_at, ea_97]
  refine n_putF (fs' := [.ref (z + 97), .null, .int (hpI 0), .int (hpI 0), .int (hpI 0)]) C O3 0 (by decide) hp1_96 (by decide) rfl hnm rfl wd_152 rfl rfl (Nat.le_of_ble_eq_true rfl) rfl hP hS dX3_init_9 (fun H locs hP hS => ?_)
  obtain ⟨E2, e2⟩ : ∃ F, F = va_up E1 96 (.inr (3, [.ref (z + 97), .null, .int (hpI 0), .int (hpI 0), .int (hpI 0)])) := ⟨_, rfl⟩
  rw [← e2] at hP
  have hO2 : ∀ j, j < 96 → E2 j = E0 j := fun j h => by rw [e2]; exact (hp_ne (by omega)).trans (hO1 j h)
  have hp2_96 : E2 96 = .inr (3, [.ref (z + 97), .null, .int (hpI 0), .int (hpI 0), .int (hpI 0)]) := by rw [e2, hp_at]
  have hD2 : ∀ j, 96 < j → j < 98 → E2 j = hpE z cy j (hp0 j) := fun j h1 h2 => by
    rw [e2, hp_ne (by omega)]; exact hD1 j h1 (by omega)
  refine lv_aload_n C.1 C.2.1 dX3_init_12 rfl (lv_at hl 0 rfl) ?_
  refine lv_bipush (v := hpI 40) C.1 C.2.1 dX3_init_13 (by decide) ?_
  refine n_size (n := 98) h0 rfl hS hP (fun hsz => ?_)
  refine n_newa (atype := .int) (ci := 11) (t0 := 1) (a0 := (40, .inl (fun i => hpI (hp0 98 i)))) C wd_135 rfl rfl (fun U h => h) (az_98) rfl (by decide) (Nat.le_of_ble_eq_true rfl) hP hS hsz (Nat.le_of_ble_eq_true rfl) (Nat.le_of_ble_eq_true rfl) dX3_init_15 (fun H hP hS => ?_)
  obtain ⟨E3, e3⟩ : ∃ F, F = va_up E2 98 (.inl (cy 11, 40, .inl (fun i => hpI (hp0 98 i)))) := ⟨_, rfl⟩
  rw [← e3] at hP
  have hO3 : ∀ j, j < 96 → E3 j = E0 j := fun j h => by rw [e3]; exact (hp_ne (by omega)).trans (hO2 j h)
  have hp3_96 : E3 96 = .inr (3, [.ref (z + 97), .null, .int (hpI 0), .int (hpI 0), .int (hpI 0)]) := by rw [e3, hp_ne (by decide)]; exact hp2_96
  have hD3 : ∀ j, 96 < j → j < 99 → E3 j = hpE z cy j (hp0 j) := fun j h1 h2 => by
    rcases Nat.lt_or_ge j 98 with h | h
    · rw [e3, hp_ne (by omega)]; exact hD2 j h1 h
    · obtain rfl : j = 98 := by omega
      rw [e3, hp_at, ea_98]
  refine n_putF (fs' := [.ref (z + 97), .ref (z + 98), .int (hpI 0), .int (hpI 0), .int (hpI 0)]) C O3 1 (by decide) hp3_96 (by decide) rfl hnm rfl wd_155 rfl rfl (Nat.le_of_ble_eq_true rfl) rfl hP hS dX3_init_17 (fun H locs hP hS => ?_)
  obtain ⟨E4, e4⟩ : ∃ F, F = va_up E3 96 (.inr (3, [.ref (z + 97), .ref (z + 98), .int (hpI 0), .int (hpI 0), .int (hpI 0)])) := ⟨_, rfl⟩
  rw [← e4] at hP
  have hO4 : ∀ j, j < 96 → E4 j = E0 j := fun j h => by rw [e4]; exact (hp_ne (by omega)).trans (hO3 j h)
  have hp4_96 : E4 96 = .inr (3, [.ref (z + 97), .ref (z + 98), .int (hpI 0), .int (hpI 0), .int (hpI 0)]) := by rw [e4, hp_at]
  have hD4 : ∀ j, 96 < j → j < 99 → E4 j = hpE z cy j (hp0 j) := fun j h1 h2 => by
    rw [e4, hp_ne (by omega)]; exact hD3 j h1 (by omega)
  refine W.vret C.1 C.2.1 hr (fun t ht _ => ⟨⟨rfl, E4, by rw [ht]; exact hP, hO4, fun j h1 h2 => ?_⟩, hS.F ht⟩) (fun q hq => hS.2.2 q hq) dX3_init_20 hk
  rcases Nat.lt_or_ge 96 j with h | h
  · exact hD4 j h h2
  · obtain rfl : j = 96 := by omega
    exact hp4_96.trans eo_96.symm
set_option maxHeartbeats 4000000 in
set_option maxRecDepth 20000 in
theorem kX3_99 (l : Launch) (D : va_G) (cy : Nat → ClassId) (z : Nat) (E0 : Nat → va_E) (hE0 : E0 99 = .inr (3, [.null, .null, .int (hpI 0), .int (hpI 0), .int (hpI 0)])) : hpK l D cy z yX3_init cX3_init 1 rK3 99 3 2 80 E0 := by
  refine hp_metX rfl (Nat.le_of_ble_eq_true rfl) (fun p e s m below meth c ls C A hr hk hnm h0 hl hP hS => ?_)
  have hO0 : ∀ j, j < 99 → E0 j = E0 j := fun _ _ => rfl
  have hD0 : ∀ j, 99 < j → j < 100 → E0 j = hpE z cy j (hp0 j) := fun j h1 h2 => by omega
  refine lv_aload_n C.1 C.2.1 dX3_init_0 rfl (lv_at hl 0 rfl) ?_
  refine W.objInit C.1 C.2.1 C.2.2.2.1 (C.2.2.2.2.1 _ wd_151) (C.2.2.2.2.1 _ wd_24) (C.2.2.2.2.1 _ wd_25) rfl (by rw [C.2.2.1]; exact hl.1) rfl dX3_init_1 (Nat.le_of_ble_eq_true rfl) (Nat.le_of_ble_eq_true rfl) ?_
  refine lv_aload_n C.1 C.2.1 dX3_init_4 rfl (lv_at hl 0 rfl) ?_
  refine lv_bipush (v := hpI 40) C.1 C.2.1 dX3_init_5 (by decide) ?_
  refine n_size (n := 100) h0 rfl hS hP (fun hsz => ?_)
  refine n_newa (atype := .int) (ci := 11) (t0 := 1) (a0 := (40, .inl (fun i => hpI (hp0 100 i)))) C wd_135 rfl rfl (fun U h => h) (az_100) rfl (by decide) (Nat.le_of_ble_eq_true rfl) hP hS hsz (Nat.le_of_ble_eq_true rfl) (Nat.le_of_ble_eq_true rfl) dX3_init_7 (fun H hP hS => ?_)
  obtain ⟨E1, e1⟩ : ∃ F, F = va_up E0 100 (.inl (cy 11, 40, .inl (fun i => hpI (hp0 100 i)))) := ⟨_, rfl⟩
  rw [← e1] at hP
  have hO1 : ∀ j, j < 99 → E1 j = E0 j := fun j h => by rw [e1]; exact (hp_ne (by omega)).trans (hO0 j h)
  have hp1_99 : E1 99 = .inr (3, [.null, .null, .int (hpI 0), .int (hpI 0), .int (hpI 0)]) := by rw [e1, hp_ne (by decide)]; exact hE0
  have hD1 : ∀ j, 99 < j → j < 101 → E1 j = hpE z cy j (hp0 j) := fun j h1 h2 => by
    rcases Nat.lt_or_ge j 100 with h | h
    · rw [e1, hp_ne (by omega)]; exact hD0 j h1 h
    · obtain rfl : j = 100 := by omega
      rw [e1, hp_at, ea_100]
  refine n_putF (fs' := [.ref (z + 100), .null, .int (hpI 0), .int (hpI 0), .int (hpI 0)]) C O3 0 (by decide) hp1_99 (by decide) rfl hnm rfl wd_152 rfl rfl (Nat.le_of_ble_eq_true rfl) rfl hP hS dX3_init_9 (fun H locs hP hS => ?_)
  obtain ⟨E2, e2⟩ : ∃ F, F = va_up E1 99 (.inr (3, [.ref (z + 100), .null, .int (hpI 0), .int (hpI 0), .int (hpI 0)])) := ⟨_, rfl⟩
  rw [← e2] at hP
  have hO2 : ∀ j, j < 99 → E2 j = E0 j := fun j h => by rw [e2]; exact (hp_ne (by omega)).trans (hO1 j h)
  have hp2_99 : E2 99 = .inr (3, [.ref (z + 100), .null, .int (hpI 0), .int (hpI 0), .int (hpI 0)]) := by rw [e2, hp_at]
  have hD2 : ∀ j, 99 < j → j < 101 → E2 j = hpE z cy j (hp0 j) := fun j h1 h2 => by
    rw [e2, hp_ne (by omega)]; exact hD1 j h1 (by omega)
  refine lv_aload_n C.1 C.2.1 dX3_init_12 rfl (lv_at hl 0 rfl) ?_
  refine lv_bipush (v := hpI 40) C.1 C.2.1 dX3_init_13 (by decide) ?_
  refine n_size (n := 101) h0 rfl hS hP (fun hsz => ?_)
  refine n_newa (atype := .int) (ci := 11) (t0 := 1) (a0 := (40, .inl (fun i => hpI (hp0 101 i)))) C wd_135 rfl rfl (fun U h => h) (az_101) rfl (by decide) (Nat.le_of_ble_eq_true rfl) hP hS hsz (Nat.le_of_ble_eq_true rfl) (Nat.le_of_ble_eq_true rfl) dX3_init_15 (fun H hP hS => ?_)
  obtain ⟨E3, e3⟩ : ∃ F, F = va_up E2 101 (.inl (cy 11, 40, .inl (fun i => hpI (hp0 101 i)))) := ⟨_, rfl⟩
  rw [← e3] at hP
  have hO3 : ∀ j, j < 99 → E3 j = E0 j := fun j h => by rw [e3]; exact (hp_ne (by omega)).trans (hO2 j h)
  have hp3_99 : E3 99 = .inr (3, [.ref (z + 100), .null, .int (hpI 0), .int (hpI 0), .int (hpI 0)]) := by rw [e3, hp_ne (by decide)]; exact hp2_99
  have hD3 : ∀ j, 99 < j → j < 102 → E3 j = hpE z cy j (hp0 j) := fun j h1 h2 => by
    rcases Nat.lt_or_ge j 101 with h | h
    · rw [e3, hp_ne (by omega)]; exact hD2 j h1 h
    · obtain rfl : j = 101 := by omega
      rw [e3, hp_at, ea_101]
  refine n_putF (fs' := [.ref (z + 100), .ref (z + 101), .int (hpI 0), .int (hpI 0), .int (hpI 0)]) C O3 1 (by decide) hp3_99 (by decide) rfl hnm rfl wd_155 rfl rfl (Nat.le_of_ble_eq_true rfl) rfl hP hS dX3_init_17 (fun H locs hP hS => ?_)
  obtain ⟨E4, e4⟩ : ∃ F, F = va_up E3 99 (.inr (3, [.ref (z + 100), .ref (z + 101), .int (hpI 0), .int (hpI 0), .int (hpI 0)])) := ⟨_, rfl⟩
  rw [← e4] at hP
  have hO4 : ∀ j, j < 99 → E4 j = E0 j := fun j h => by rw [e4]; exact (hp_ne (by omega)).trans (hO3 j h)
  have hp4_99 : E4 99 = .inr (3, [.ref (z + 100), .ref (z + 101), .int (hpI 0), .int (hpI 0), .int (hpI 0)]) := by rw [e4, hp_at]
  have hD4 : ∀ j, 99 < j → j < 102 → E4 j = hpE z cy j (hp0 j) := fun j h1 h2 => by
    rw [e4, hp_ne (by omega)]; exact hD3 j h1 (by omega)
  refine W.vret C.1 C.2.1 hr (fun t ht _ => ⟨⟨rfl, E4, by rw [ht]; exact hP, hO4, fun j h1 h2 => ?_⟩, hS.F ht⟩) (fun q hq => hS.2.2 q hq) dX3_init_20 hk
  rcases Nat.lt_or_ge 99 j with h | h
  · exact hD4 j h h2
  · obtain rfl : j = 99 := by omega
    exact hp4_99.trans eo_99.symm
set_option maxHeartbeats 4000000 in
set_option maxRecDepth 20000 in
theorem kX3_102 (l : Launch) (D : va_G) (cy : Nat → ClassId) (z : Nat) (E0 : Nat → va_E) (hE0 : E0 102 = .inr (3, [.null, .null, .int (hpI 0), .int (hpI 0), .int (hpI 0)])) : hpK l D cy z yX3_init cX3_init 1 rK3 102 3 2 80 E0 := by
  refine hp_metX rfl (Nat.le_of_ble_eq_true rfl) (fun p e s m below meth c ls C A hr hk hnm h0 hl hP hS => ?_)
  have hO0 : ∀ j, j < 102 → E0 j = E0 j := fun _ _ => rfl
  have hD0 : ∀ j, 102 < j → j < 103 → E0 j = hpE z cy j (hp0 j) := fun j h1 h2 => by omega
  refine lv_aload_n C.1 C.2.1 dX3_init_0 rfl (lv_at hl 0 rfl) ?_
  refine W.objInit C.1 C.2.1 C.2.2.2.1 (C.2.2.2.2.1 _ wd_151) (C.2.2.2.2.1 _ wd_24) (C.2.2.2.2.1 _ wd_25) rfl (by rw [C.2.2.1]; exact hl.1) rfl dX3_init_1 (Nat.le_of_ble_eq_true rfl) (Nat.le_of_ble_eq_true rfl) ?_
  refine lv_aload_n C.1 C.2.1 dX3_init_4 rfl (lv_at hl 0 rfl) ?_
  refine lv_bipush (v := hpI 40) C.1 C.2.1 dX3_init_5 (by decide) ?_
  refine n_size (n := 103) h0 rfl hS hP (fun hsz => ?_)
  refine n_newa (atype := .int) (ci := 11) (t0 := 1) (a0 := (40, .inl (fun i => hpI (hp0 103 i)))) C wd_135 rfl rfl (fun U h => h) (az_103) rfl (by decide) (Nat.le_of_ble_eq_true rfl) hP hS hsz (Nat.le_of_ble_eq_true rfl) (Nat.le_of_ble_eq_true rfl) dX3_init_7 (fun H hP hS => ?_)
  obtain ⟨E1, e1⟩ : ∃ F, F = va_up E0 103 (.inl (cy 11, 40, .inl (fun i => hpI (hp0 103 i)))) := ⟨_, rfl⟩
  rw [← e1] at hP
  have hO1 : ∀ j, j < 102 → E1 j = E0 j := fun j h => by rw [e1]; exact (hp_ne (by omega)).trans (hO0 j h)
  have hp1_102 : E1 102 = .inr (3, [.null, .null, .int (hpI 0), .int (hpI 0), .int (hpI 0)]) := by rw [e1, hp_ne (by decide)]; exact hE0
  have hD1 : ∀ j, 102 < j → j < 104 → E1 j = hpE z cy j (hp0 j) := fun j h1 h2 => by
    rcases Nat.lt_or_ge j 103 with h | h
    · rw [e1, hp_ne (by omega)]; exact hD0 j h1 h
    · obtain rfl : j = 103 := by omega
      rw [e1, hp_at, ea_103]
  refine n_putF (fs' := [.ref (z + 103), .null, .int (hpI 0), .int (hpI 0), .int (hpI 0)]) C O3 0 (by decide) hp1_102 (by decide) rfl hnm rfl wd_152 rfl rfl (Nat.le_of_ble_eq_true rfl) rfl hP hS dX3_init_9 (fun H locs hP hS => ?_)
  obtain ⟨E2, e2⟩ : ∃ F, F = va_up E1 102 (.inr (3, [.ref (z + 103), .null, .int (hpI 0), .int (hpI 0), .int (hpI 0)])) := ⟨_, rfl⟩
  rw [← e2] at hP
  have hO2 : ∀ j, j < 102 → E2 j = E0 j := fun j h => by rw [e2]; exact (hp_ne (by omega)).trans (hO1 j h)
  have hp2_102 : E2 102 = .inr (3, [.ref (z + 103), .null, .int (hpI 0), .int (hpI 0), .int (hpI 0)]) := by rw [e2, hp_at]
  have hD2 : ∀ j, 102 < j → j < 104 → E2 j = hpE z cy j (hp0 j) := fun j h1 h2 => by
    rw [e2, hp_ne (by omega)]; exact hD1 j h1 (by omega)
  refine lv_aload_n C.1 C.2.1 dX3_init_12 rfl (lv_at hl 0 rfl) ?_
  refine lv_bipush (v := hpI 40) C.1 C.2.1 dX3_init_13 (by decide) ?_
  refine n_size (n := 104) h0 rfl hS hP (fun hsz => ?_)
  refine n_newa (atype := .int) (ci := 11) (t0 := 1) (a0 := (40, .inl (fun i => hpI (hp0 104 i)))) C wd_135 rfl rfl (fun U h => h) (az_104) rfl (by decide) (Nat.le_of_ble_eq_true rfl) hP hS hsz (Nat.le_of_ble_eq_true rfl) (Nat.le_of_ble_eq_true rfl) dX3_init_15 (fun H hP hS => ?_)
  obtain ⟨E3, e3⟩ : ∃ F, F = va_up E2 104 (.inl (cy 11, 40, .inl (fun i => hpI (hp0 104 i)))) := ⟨_, rfl⟩
  rw [← e3] at hP
  have hO3 : ∀ j, j < 102 → E3 j = E0 j := fun j h => by rw [e3]; exact (hp_ne (by omega)).trans (hO2 j h)
  have hp3_102 : E3 102 = .inr (3, [.ref (z + 103), .null, .int (hpI 0), .int (hpI 0), .int (hpI 0)]) := by rw [e3, hp_ne (by decide)]; exact hp2_102
  have hD3 : ∀ j, 102 < j → j < 105 → E3 j = hpE z cy j (hp0 j) := fun j h1 h2 => by
    rcases Nat.lt_or_ge j 104 with h | h
    · rw [e3, hp_ne (by omega)]; exact hD2 j h1 h
    · obtain rfl : j = 104 := by omega
      rw [e3, hp_at, ea_104]
  refine n_putF (fs' := [.ref (z + 103), .ref (z + 104), .int (hpI 0), .int (hpI 0), .int (hpI 0)]) C O3 1 (by decide) hp3_102 (by decide) rfl hnm rfl wd_155 rfl rfl (Nat.le_of_ble_eq_true rfl) rfl hP hS dX3_init_17 (fun H locs hP hS => ?_)
  obtain ⟨E4, e4⟩ : ∃ F, F = va_up E3 102 (.inr (3, [.ref (z + 103), .ref (z + 104), .int (hpI 0), .int (hpI 0), .int (hpI 0)])) := ⟨_, rfl⟩
  rw [← e4] at hP
  have hO4 : ∀ j, j < 102 → E4 j = E0 j := fun j h => by rw [e4]; exact (hp_ne (by omega)).trans (hO3 j h)
  have hp4_102 : E4 102 = .inr (3, [.ref (z + 103), .ref (z + 104), .int (hpI 0), .int (hpI 0), .int (hpI 0)]) := by rw [e4, hp_at]
  have hD4 : ∀ j, 102 < j → j < 105 → E4 j = hpE z cy j (hp0 j) := fun j h1 h2 => by
    rw [e4, hp_ne (by omega)]; exact hD3 j h1 (by omega)
  refine W.vret C.1 C.2.1 hr (fun t ht _ => ⟨⟨rfl, E4, by rw [ht]; exact hP, hO4, fun j h1 h2 => ?_⟩, hS.F ht⟩) (fun q hq => hS.2.2 q hq) dX3_init_20 hk
  rcases Nat.lt_or_ge 102 j with h | h
  · exact hD4 j h h2
  · obtain rfl : j = 102 := by omega
    exact hp4_102.trans eo_102.symm
set_option maxHeartbeats 4000000 in
set_option maxRecDepth 20000 in
theorem kX3_105 (l : Launch) (D : va_G) (cy : Nat → ClassId) (z : Nat) (E0 : Nat → va_E) (hE0 : E0 105 = .inr (3, [.null, .null, .int (hpI 0), .int (hpI 0), .int (hpI 0)])) : hpK l D cy z yX3_init cX3_init 1 rK3 105 3 2 80 E0 := by
  refine hp_metX rfl (Nat.le_of_ble_eq_true rfl) (fun p e s m below meth c ls C A hr hk hnm h0 hl hP hS => ?_)
  have hO0 : ∀ j, j < 105 → E0 j = E0 j := fun _ _ => rfl
  have hD0 : ∀ j, 105 < j → j < 106 → E0 j = hpE z cy j (hp0 j) := fun j h1 h2 => by omega
  refine lv_aload_n C.1 C.2.1 dX3_init_0 rfl (lv_at hl 0 rfl) ?_
  refine W.objInit C.1 C.2.1 C.2.2.2.1 (C.2.2.2.2.1 _ wd_151) (C.2.2.2.2.1 _ wd_24) (C.2.2.2.2.1 _ wd_25) rfl (by rw [C.2.2.1]; exact hl.1) rfl dX3_init_1 (Nat.le_of_ble_eq_true rfl) (Nat.le_of_ble_eq_true rfl) ?_
  refine lv_aload_n C.1 C.2.1 dX3_init_4 rfl (lv_at hl 0 rfl) ?_
  refine lv_bipush (v := hpI 40) C.1 C.2.1 dX3_init_5 (by decide) ?_
  refine n_size (n := 106) h0 rfl hS hP (fun hsz => ?_)
  refine n_newa (atype := .int) (ci := 11) (t0 := 1) (a0 := (40, .inl (fun i => hpI (hp0 106 i)))) C wd_135 rfl rfl (fun U h => h) (az_106) rfl (by decide) (Nat.le_of_ble_eq_true rfl) hP hS hsz (Nat.le_of_ble_eq_true rfl) (Nat.le_of_ble_eq_true rfl) dX3_init_7 (fun H hP hS => ?_)
  obtain ⟨E1, e1⟩ : ∃ F, F = va_up E0 106 (.inl (cy 11, 40, .inl (fun i => hpI (hp0 106 i)))) := ⟨_, rfl⟩
  rw [← e1] at hP
  have hO1 : ∀ j, j < 105 → E1 j = E0 j := fun j h => by rw [e1]; exact (hp_ne (by omega)).trans (hO0 j h)
  have hp1_105 : E1 105 = .inr (3, [.null, .null, .int (hpI 0), .int (hpI 0), .int (hpI 0)]) := by rw [e1, hp_ne (by decide)]; exact hE0
  have hD1 : ∀ j, 105 < j → j < 107 → E1 j = hpE z cy j (hp0 j) := fun j h1 h2 => by
    rcases Nat.lt_or_ge j 106 with h | h
    · rw [e1, hp_ne (by omega)]; exact hD0 j h1 h
    · obtain rfl : j = 106 := by omega
      rw [e1, hp_at, ea_106]
  refine n_putF (fs' := [.ref (z + 106), .null, .int (hpI 0), .int (hpI 0), .int (hpI 0)]) C O3 0 (by decide) hp1_105 (by decide) rfl hnm rfl wd_152 rfl rfl (Nat.le_of_ble_eq_true rfl) rfl hP hS dX3_init_9 (fun H locs hP hS => ?_)
  obtain ⟨E2, e2⟩ : ∃ F, F = va_up E1 105 (.inr (3, [.ref (z + 106), .null, .int (hpI 0), .int (hpI 0), .int (hpI 0)])) := ⟨_, rfl⟩
  rw [← e2] at hP
  have hO2 : ∀ j, j < 105 → E2 j = E0 j := fun j h => by rw [e2]; exact (hp_ne (by omega)).trans (hO1 j h)
  have hp2_105 : E2 105 = .inr (3, [.ref (z + 106), .null, .int (hpI 0), .int (hpI 0), .int (hpI 0)]) := by rw [e2, hp_at]
  have hD2 : ∀ j, 105 < j → j < 107 → E2 j = hpE z cy j (hp0 j) := fun j h1 h2 => by
    rw [e2, hp_ne (by omega)]; exact hD1 j h1 (by omega)
  refine lv_aload_n C.1 C.2.1 dX3_init_12 rfl (lv_at hl 0 rfl) ?_
  refine lv_bipush (v := hpI 40) C.1 C.2.1 dX3_init_13 (by decide) ?_
  refine n_size (n := 107) h0 rfl hS hP (fun hsz => ?_)
  refine n_newa (atype := .int) (ci := 11) (t0 := 1) (a0 := (40, .inl (fun i => hpI (hp0 107 i)))) C wd_135 rfl rfl (fun U h => h) (az_107) rfl (by decide) (Nat.le_of_ble_eq_true rfl) hP hS hsz (Nat.le_of_ble_eq_true rfl) (Nat.le_of_ble_eq_true rfl) dX3_init_15 (fun H hP hS => ?_)
  obtain ⟨E3, e3⟩ : ∃ F, F = va_up E2 107 (.inl (cy 11, 40, .inl (fun i => hpI (hp0 107 i)))) := ⟨_, rfl⟩
  rw [← e3] at hP
  have hO3 : ∀ j, j < 105 → E3 j = E0 j := fun j h => by rw [e3]; exact (hp_ne (by omega)).trans (hO2 j h)
  have hp3_105 : E3 105 = .inr (3, [.ref (z + 106), .null, .int (hpI 0), .int (hpI 0), .int (hpI 0)]) := by rw [e3, hp_ne (by decide)]; exact hp2_105
  have hD3 : ∀ j, 105 < j → j < 108 → E3 j = hpE z cy j (hp0 j) := fun j h1 h2 => by
    rcases Nat.lt_or_ge j 107 with h | h
    · rw [e3, hp_ne (by omega)]; exact hD2 j h1 h
    · obtain rfl : j = 107 := by omega
      rw [e3, hp_at, ea_107]
  refine n_putF (fs' := [.ref (z + 106), .ref (z + 107), .int (hpI 0), .int (hpI 0), .int (hpI 0)]) C O3 1 (by decide) hp3_105 (by decide) rfl hnm rfl wd_155 rfl rfl (Nat.le_of_ble_eq_true rfl) rfl hP hS dX3_init_17 (fun H locs hP hS => ?_)
  obtain ⟨E4, e4⟩ : ∃ F, F = va_up E3 105 (.inr (3, [.ref (z + 106), .ref (z + 107), .int (hpI 0), .int (hpI 0), .int (hpI 0)])) := ⟨_, rfl⟩
  rw [← e4] at hP
  have hO4 : ∀ j, j < 105 → E4 j = E0 j := fun j h => by rw [e4]; exact (hp_ne (by omega)).trans (hO3 j h)
  have hp4_105 : E4 105 = .inr (3, [.ref (z + 106), .ref (z + 107), .int (hpI 0), .int (hpI 0), .int (hpI 0)]) := by rw [e4, hp_at]
  have hD4 : ∀ j, 105 < j → j < 108 → E4 j = hpE z cy j (hp0 j) := fun j h1 h2 => by
    rw [e4, hp_ne (by omega)]; exact hD3 j h1 (by omega)
  refine W.vret C.1 C.2.1 hr (fun t ht _ => ⟨⟨rfl, E4, by rw [ht]; exact hP, hO4, fun j h1 h2 => ?_⟩, hS.F ht⟩) (fun q hq => hS.2.2 q hq) dX3_init_20 hk
  rcases Nat.lt_or_ge 105 j with h | h
  · exact hD4 j h h2
  · obtain rfl : j = 105 := by omega
    exact hp4_105.trans eo_105.symm
set_option maxHeartbeats 4000000 in
set_option maxRecDepth 20000 in
theorem kX3_108 (l : Launch) (D : va_G) (cy : Nat → ClassId) (z : Nat) (E0 : Nat → va_E) (hE0 : E0 108 = .inr (3, [.null, .null, .int (hpI 0), .int (hpI 0), .int (hpI 0)])) : hpK l D cy z yX3_init cX3_init 1 rK3 108 3 2 80 E0 := by
  refine hp_metX rfl (Nat.le_of_ble_eq_true rfl) (fun p e s m below meth c ls C A hr hk hnm h0 hl hP hS => ?_)
  have hO0 : ∀ j, j < 108 → E0 j = E0 j := fun _ _ => rfl
  have hD0 : ∀ j, 108 < j → j < 109 → E0 j = hpE z cy j (hp0 j) := fun j h1 h2 => by omega
  refine lv_aload_n C.1 C.2.1 dX3_init_0 rfl (lv_at hl 0 rfl) ?_
  refine W.objInit C.1 C.2.1 C.2.2.2.1 (C.2.2.2.2.1 _ wd_151) (C.2.2.2.2.1 _ wd_24) (C.2.2.2.2.1 _ wd_25) rfl (by rw [C.2.2.1]; exact hl.1) rfl dX3_init_1 (Nat.le_of_ble_eq_true rfl) (Nat.le_of_ble_eq_true rfl) ?_
  refine lv_aload_n C.1 C.2.1 dX3_init_4 rfl (lv_at hl 0 rfl) ?_
  refine lv_bipush (v := hpI 40) C.1 C.2.1 dX3_init_5 (by decide) ?_
  refine n_size (n := 109) h0 rfl hS hP (fun hsz => ?_)
  refine n_newa (atype := .int) (ci := 11) (t0 := 1) (a0 := (40, .inl (fun i => hpI (hp0 109 i)))) C wd_135 rfl rfl (fun U h => h) (az_109) rfl (by decide) (Nat.le_of_ble_eq_true rfl) hP hS hsz (Nat.le_of_ble_eq_true rfl) (Nat.le_of_ble_eq_true rfl) dX3_init_7 (fun H hP hS => ?_)
  obtain ⟨E1, e1⟩ : ∃ F, F = va_up E0 109 (.inl (cy 11, 40, .inl (fun i => hpI (hp0 109 i)))) := ⟨_, rfl⟩
  rw [← e1] at hP
  have hO1 : ∀ j, j < 108 → E1 j = E0 j := fun j h => by rw [e1]; exact (hp_ne (by omega)).trans (hO0 j h)
  have hp1_108 : E1 108 = .inr (3, [.null, .null, .int (hpI 0), .int (hpI 0), .int (hpI 0)]) := by rw [e1, hp_ne (by decide)]; exact hE0
  have hD1 : ∀ j, 108 < j → j < 110 → E1 j = hpE z cy j (hp0 j) := fun j h1 h2 => by
    rcases Nat.lt_or_ge j 109 with h | h
    · rw [e1, hp_ne (by omega)]; exact hD0 j h1 h
    · obtain rfl : j = 109 := by omega
      rw [e1, hp_at, ea_109]
  refine n_putF (fs' := [.ref (z + 109), .null, .int (hpI 0), .int (hpI 0), .int (hpI 0)]) C O3 0 (by decide) hp1_108 (by decide) rfl hnm rfl wd_152 rfl rfl (Nat.le_of_ble_eq_true rfl) rfl hP hS dX3_init_9 (fun H locs hP hS => ?_)
  obtain ⟨E2, e2⟩ : ∃ F, F = va_up E1 108 (.inr (3, [.ref (z + 109), .null, .int (hpI 0), .int (hpI 0), .int (hpI 0)])) := ⟨_, rfl⟩
  rw [← e2] at hP
  have hO2 : ∀ j, j < 108 → E2 j = E0 j := fun j h => by rw [e2]; exact (hp_ne (by omega)).trans (hO1 j h)
  have hp2_108 : E2 108 = .inr (3, [.ref (z + 109), .null, .int (hpI 0), .int (hpI 0), .int (hpI 0)]) := by rw [e2, hp_at]
  have hD2 : ∀ j, 108 < j → j < 110 → E2 j = hpE z cy j (hp0 j) := fun j h1 h2 => by
    rw [e2, hp_ne (by omega)]; exact hD1 j h1 (by omega)
  refine lv_aload_n C.1 C.2.1 dX3_init_12 rfl (lv_at hl 0 rfl) ?_
  refine lv_bipush (v := hpI 40) C.1 C.2.1 dX3_init_13 (by decide) ?_
  refine n_size (n := 110) h0 rfl hS hP (fun hsz => ?_)
  refine n_newa (atype := .int) (ci := 11) (t0 := 1) (a0 := (40, .inl (fun i => hpI (hp0 110 i)))) C wd_135 rfl rfl (fun U h => h) (az_110) rfl (by decide) (Nat.le_of_ble_eq_true rfl) hP hS hsz (Nat.le_of_ble_eq_true rfl) (Nat.le_of_ble_eq_true rfl) dX3_init_15 (fun H hP hS => ?_)
  obtain ⟨E3, e3⟩ : ∃ F, F = va_up E2 110 (.inl (cy 11, 40, .inl (fun i => hpI (hp0 110 i)))) := ⟨_, rfl⟩
  rw [← e3] at hP
  have hO3 : ∀ j, j < 108 → E3 j = E0 j := fun j h => by rw [e3]; exact (hp_ne (by omega)).trans (hO2 j h)
  have hp3_108 : E3 108 = .inr (3, [.ref (z + 109), .null, .int (hpI 0), .int (hpI 0), .int (hpI 0)]) := by rw [e3, hp_ne (by decide)]; exact hp2_108
  have hD3 : ∀ j, 108 < j → j < 111 → E3 j = hpE z cy j (hp0 j) := fun j h1 h2 => by
    rcases Nat.lt_or_ge j 110 with h | h
    · rw [e3, hp_ne (by omega)]; exact hD2 j h1 h
    · obtain rfl : j = 110 := by omega
      rw [e3, hp_at, ea_110]
  refine n_putF (fs' := [.ref (z + 109), .ref (z + 110), .int (hpI 0), .int (hpI 0), .int (hpI 0)]) C O3 1 (by decide) hp3_108 (by decide) rfl hnm rfl wd_155 rfl rfl (Nat.le_of_ble_eq_true rfl) rfl hP hS dX3_init_17 (fun H locs hP hS => ?_)
  obtain ⟨E4, e4⟩ : ∃ F, F = va_up E3 108 (.inr (3, [.ref (z + 109), .ref (z + 110), .int (hpI 0), .int (hpI 0), .int (hpI 0)])) := ⟨_, rfl⟩
  rw [← e4] at hP
  have hO4 : ∀ j, j < 108 → E4 j = E0 j := fun j h => by rw [e4]; exact (hp_ne (by omega)).trans (hO3 j h)
  have hp4_108 : E4 108 = .inr (3, [.ref (z + 109), .ref (z + 110), .int (hpI 0), .int (hpI 0), .int (hpI 0)]) := by rw [e4, hp_at]
  have hD4 : ∀ j, 108 < j → j < 111 → E4 j = hpE z cy j (hp0 j) := fun j h1 h2 => by
    rw [e4, hp_ne (by omega)]; exact hD3 j h1 (by omega)
  refine W.vret C.1 C.2.1 hr (fun t ht _ => ⟨⟨rfl, E4, by rw [ht]; exact hP, hO4, fun j h1 h2 => ?_⟩, hS.F ht⟩) (fun q hq => hS.2.2 q hq) dX3_init_20 hk
  rcases Nat.lt_or_ge 108 j with h | h
  · exact hD4 j h h2
  · obtain rfl : j = 108 := by omega
    exact hp4_108.trans eo_108.symm
set_option maxHeartbeats 4000000 in
set_option maxRecDepth 20000 in
theorem kX3_111 (l : Launch) (D : va_G) (cy : Nat → ClassId) (z : Nat) (E0 : Nat → va_E) (hE0 : E0 111 = .inr (3, [.null, .null, .int (hpI 0), .int (hpI 0), .int (hpI 0)])) : hpK l D cy z yX3_init cX3_init 1 rK3 111 3 2 80 E0 := by
  refine hp_metX rfl (Nat.le_of_ble_eq_true rfl) (fun p e s m below meth c ls C A hr hk hnm h0 hl hP hS => ?_)
  have hO0 : ∀ j, j < 111 → E0 j = E0 j := fun _ _ => rfl
  have hD0 : ∀ j, 111 < j → j < 112 → E0 j = hpE z cy j (hp0 j) := fun j h1 h2 => by omega
  refine lv_aload_n C.1 C.2.1 dX3_init_0 rfl (lv_at hl 0 rfl) ?_
  refine W.objInit C.1 C.2.1 C.2.2.2.1 (C.2.2.2.2.1 _ wd_151) (C.2.2.2.2.1 _ wd_24) (C.2.2.2.2.1 _ wd_25) rfl (by rw [C.2.2.1]; exact hl.1) rfl dX3_init_1 (Nat.le_of_ble_eq_true rfl) (Nat.le_of_ble_eq_true rfl) ?_
  refine lv_aload_n C.1 C.2.1 dX3_init_4 rfl (lv_at hl 0 rfl) ?_
  refine lv_bipush (v := hpI 40) C.1 C.2.1 dX3_init_5 (by decide) ?_
  refine n_size (n := 112) h0 rfl hS hP (fun hsz => ?_)
  refine n_newa (atype := .int) (ci := 11) (t0 := 1) (a0 := (40, .inl (fun i => hpI (hp0 112 i)))) C wd_135 rfl rfl (fun U h => h) (az_112) rfl (by decide) (Nat.le_of_ble_eq_true rfl) hP hS hsz (Nat.le_of_ble_eq_true rfl) (Nat.le_of_ble_eq_true rfl) dX3_init_7 (fun H hP hS => ?_)
  obtain ⟨E1, e1⟩ : ∃ F, F = va_up E0 112 (.inl (cy 11, 40, .inl (fun i => hpI (hp0 112 i)))) := ⟨_, rfl⟩
  rw [← e1] at hP
  have hO1 : ∀ j, j < 111 → E1 j = E0 j := fun j h => by rw [e1]; exact (hp_ne (by omega)).trans (hO0 j h)
  have hp1_111 : E1 111 = .inr (3, [.null, .null, .int (hpI 0), .int (hpI 0), .int (hpI 0)]) := by rw [e1, hp_ne (by decide)]; exact hE0
  have hD1 : ∀ j, 111 < j → j < 113 → E1 j = hpE z cy j (hp0 j) := fun j h1 h2 => by
    rcases Nat.lt_or_ge j 112 with h | h
    · rw [e1, hp_ne (by omega)]; exact hD0 j h1 h
    · obtain rfl : j = 112 := by omega
      rw [e1, hp_at, ea_112]
  refine n_putF (fs' := [.ref (z + 112), .null, .int (hpI 0), .int (hpI 0), .int (hpI 0)]) C O3 0 (by decide) hp1_111 (by decide) rfl hnm rfl wd_152 rfl rfl (Nat.le_of_ble_eq_true rfl) rfl hP hS dX3_init_9 (fun H locs hP hS => ?_)
  obtain ⟨E2, e2⟩ : ∃ F, F = va_up E1 111 (.inr (3, [.ref (z + 112), .null, .int (hpI 0), .int (hpI 0), .int (hpI 0)])) := ⟨_, rfl⟩
  rw [← e2] at hP
  have hO2 : ∀ j, j < 111 → E2 j = E0 j := fun j h => by rw [e2]; exact (hp_ne (by omega)).trans (hO1 j h)
  have hp2_111 : E2 111 = .inr (3, [.ref (z + 112), .null, .int (hpI 0), .int (hpI 0), .int (hpI 0)]) := by rw [e2, hp_at]
  have hD2 : ∀ j, 111 < j → j < 113 → E2 j = hpE z cy j (hp0 j) := fun j h1 h2 => by
    rw [e2, hp_ne (by omega)]; exact hD1 j h1 (by omega)
  refine lv_aload_n C.1 C.2.1 dX3_init_12 rfl (lv_at hl 0 rfl) ?_
  refine lv_bipush (v := hpI 40) C.1 C.2.1 dX3_init_13 (by decide) ?_
  refine n_size (n := 113) h0 rfl hS hP (fun hsz => ?_)
  refine n_newa (atype := .int) (ci := 11) (t0 := 1) (a0 := (40, .inl (fun i => hpI (hp0 113 i)))) C wd_135 rfl rfl (fun U h => h) (az_113) rfl (by decide) (Nat.le_of_ble_eq_true rfl) hP hS hsz (Nat.le_of_ble_eq_true rfl) (Nat.le_of_ble_eq_true rfl) dX3_init_15 (fun H hP hS => ?_)
  obtain ⟨E3, e3⟩ : ∃ F, F = va_up E2 113 (.inl (cy 11, 40, .inl (fun i => hpI (hp0 113 i)))) := ⟨_, rfl⟩
  rw [← e3] at hP
  have hO3 : ∀ j, j < 111 → E3 j = E0 j := fun j h => by rw [e3]; exact (hp_ne (by omega)).trans (hO2 j h)
  have hp3_111 : E3 111 = .inr (3, [.ref (z + 112), .null, .int (hpI 0), .int (hpI 0), .int (hpI 0)]) := by rw [e3, hp_ne (by decide)]; exact hp2_111
  have hD3 : ∀ j, 111 < j → j < 114 → E3 j = hpE z cy j (hp0 j) := fun j h1 h2 => by
    rcases Nat.lt_or_ge j 113 with h | h
    · rw [e3, hp_ne (by omega)]; exact hD2 j h1 h
    · obtain rfl : j = 113 := by omega
      rw [e3, hp_at, ea_113]
  refine n_putF (fs' := [.ref (z + 112), .ref (z + 113), .int (hpI 0), .int (hpI 0), .int (hpI 0)]) C O3 1 (by decide) hp3_111 (by decide) rfl hnm rfl wd_155 rfl rfl (Nat.le_of_ble_eq_true rfl) rfl hP hS dX3_init_17 (fun H locs hP hS => ?_)
  obtain ⟨E4, e4⟩ : ∃ F, F = va_up E3 111 (.inr (3, [.ref (z + 112), .ref (z + 113), .int (hpI 0), .int (hpI 0), .int (hpI 0)])) := ⟨_, rfl⟩
  rw [← e4] at hP
  have hO4 : ∀ j, j < 111 → E4 j = E0 j := fun j h => by rw [e4]; exact (hp_ne (by omega)).trans (hO3 j h)
  have hp4_111 : E4 111 = .inr (3, [.ref (z + 112), .ref (z + 113), .int (hpI 0), .int (hpI 0), .int (hpI 0)]) := by rw [e4, hp_at]
  have hD4 : ∀ j, 111 < j → j < 114 → E4 j = hpE z cy j (hp0 j) := fun j h1 h2 => by
    rw [e4, hp_ne (by omega)]; exact hD3 j h1 (by omega)
  refine W.vret C.1 C.2.1 hr (fun t ht _ => ⟨⟨rfl, E4, by rw [ht]; exact hP, hO4, fun j h1 h2 => ?_⟩, hS.F ht⟩) (fun q hq => hS.2.2 q hq) dX3_init_20 hk
  rcases Nat.lt_or_ge 111 j with h | h
  · exact hD4 j h h2
  · obtain rfl : j = 111 := by omega
    exact hp4_111.trans eo_111.symm
set_option maxHeartbeats 4000000 in
set_option maxRecDepth 20000 in
theorem kX3_114 (l : Launch) (D : va_G) (cy : Nat → ClassId) (z : Nat) (E0 : Nat → va_E) (hE0 : E0 114 = .inr (3, [.null, .null, .int (hpI 0), .int (hpI 0), .int (hpI 0)])) : hpK l D cy z yX3_init cX3_init 1 rK3 114 3 2 80 E0 := by
  refine hp_metX rfl (Nat.le_of_ble_eq_true rfl) (fun p e s m below meth c ls C A hr hk hnm h0 hl hP hS => ?_)
  have hO0 : ∀ j, j < 114 → E0 j = E0 j := fun _ _ => rfl
  have hD0 : ∀ j, 114 < j → j < 115 → E0 j = hpE z cy j (hp0 j) := fun j h1 h2 => by omega
  refine lv_aload_n C.1 C.2.1 dX3_init_0 rfl (lv_at hl 0 rfl) ?_
  refine W.objInit C.1 C.2.1 C.2.2.2.1 (C.2.2.2.2.1 _ wd_151) (C.2.2.2.2.1 _ wd_24) (C.2.2.2.2.1 _ wd_25) rfl (by rw [C.2.2.1]; exact hl.1) rfl dX3_init_1 (Nat.le_of_ble_eq_true rfl) (Nat.le_of_ble_eq_true rfl) ?_
  refine lv_aload_n C.1 C.2.1 dX3_init_4 rfl (lv_at hl 0 rfl) ?_
  refine lv_bipush (v := hpI 40) C.1 C.2.1 dX3_init_5 (by decide) ?_
  refine n_size (n := 115) h0 rfl hS hP (fun hsz => ?_)
  refine n_newa (atype := .int) (ci := 11) (t0 := 1) (a0 := (40, .inl (fun i => hpI (hp0 115 i)))) C wd_135 rfl rfl (fun U h => h) (az_115) rfl (by decide) (Nat.le_of_ble_eq_true rfl) hP hS hsz (Nat.le_of_ble_eq_true rfl) (Nat.le_of_ble_eq_true rfl) dX3_init_7 (fun H hP hS => ?_)
  obtain ⟨E1, e1⟩ : ∃ F, F = va_up E0 115 (.inl (cy 11, 40, .inl (fun i => hpI (hp0 115 i)))) := ⟨_, rfl⟩
  rw [← e1] at hP
  have hO1 : ∀ j, j < 114 → E1 j = E0 j := fun j h => by rw [e1]; exact (hp_ne (by omega)).trans (hO0 j h)
  have hp1_114 : E1 114 = .inr (3, [.null, .null, .int (hpI 0), .int (hpI 0), .int (hpI 0)]) := by rw [e1, hp_ne (by decide)]; exact hE0
  have hD1 : ∀ j, 114 < j → j < 116 → E1 j = hpE z cy j (hp0 j) := fun j h1 h2 => by
    rcases Nat.lt_or_ge j 115 with h | h
    · rw [e1, hp_ne (by omega)]; exact hD0 j h1 h
    · obtain rfl : j = 115 := by omega
      rw [e1, hp_at, ea_115]
  refine n_putF (fs' := [.ref (z + 115), .null, .int (hpI 0), .int (hpI 0), .int (hpI 0)]) C O3 0 (by decide) hp1_114 (by decide) rfl hnm rfl wd_152 rfl rfl (Nat.le_of_ble_eq_true rfl) rfl hP hS dX3_init_9 (fun H locs hP hS => ?_)
  obtain ⟨E2, e2⟩ : ∃ F, F = va_up E1 114 (.inr (3, [.ref (z + 115), .null, .int (hpI 0), .int (hpI 0), .int (hpI 0)])) := ⟨_, rfl⟩
  rw [← e2] at hP
  have hO2 : ∀ j, j < 114 → E2 j = E0 j := fun j h => by rw [e2]; exact (hp_ne (by omega)).trans (hO1 j h)
  have hp2_114 : E2 114 = .inr (3, [.ref (z + 115), .null, .int (hpI 0), .int (hpI 0), .int (hpI 0)]) := by rw [e2, hp_at]
  have hD2 : ∀ j, 114 < j → j < 116 → E2 j = hpE z cy j (hp0 j) := fun j h1 h2 => by
    rw [e2, hp_ne (by omega)]; exact hD1 j h1 (by omega)
  refine lv_aload_n C.1 C.2.1 dX3_init_12 rfl (lv_at hl 0 rfl) ?_
  refine lv_bipush (v := hpI 40) C.1 C.2.1 dX3_init_13 (by decide) ?_
  refine n_size (n := 116) h0 rfl hS hP (fun hsz => ?_)
  refine n_newa (atype := .int) (ci := 11) (t0 := 1) (a0 := (40, .inl (fun i => hpI (hp0 116 i)))) C wd_135 rfl rfl (fun U h => h) (az_116) rfl (by decide) (Nat.le_of_ble_eq_true rfl) hP hS hsz (Nat.le_of_ble_eq_true rfl) (Nat.le_of_ble_eq_true rfl) dX3_init_15 (fun H hP hS => ?_)
  obtain ⟨E3, e3⟩ : ∃ F, F = va_up E2 116 (.inl (cy 11, 40, .inl (fun i => hpI (hp0 116 i)))) := ⟨_, rfl⟩
  rw [← e3] at hP
  have hO3 : ∀ j, j < 114 → E3 j = E0 j := fun j h => by rw [e3]; exact (hp_ne (by omega)).trans (hO2 j h)
  have hp3_114 : E3 114 = .inr (3, [.ref (z + 115), .null, .int (hpI 0), .int (hpI 0), .int (hpI 0)]) := by rw [e3, hp_ne (by decide)]; exact hp2_114
  have hD3 : ∀ j, 114 < j → j < 117 → E3 j = hpE z cy j (hp0 j) := fun j h1 h2 => by
    rcases Nat.lt_or_ge j 116 with h | h
    · rw [e3, hp_ne (by omega)]; exact hD2 j h1 h
    · obtain rfl : j = 116 := by omega
      rw [e3, hp_at, ea_116]
  refine n_putF (fs' := [.ref (z + 115), .ref (z + 116), .int (hpI 0), .int (hpI 0), .int (hpI 0)]) C O3 1 (by decide) hp3_114 (by decide) rfl hnm rfl wd_155 rfl rfl (Nat.le_of_ble_eq_true rfl) rfl hP hS dX3_init_17 (fun H locs hP hS => ?_)
  obtain ⟨E4, e4⟩ : ∃ F, F = va_up E3 114 (.inr (3, [.ref (z + 115), .ref (z + 116), .int (hpI 0), .int (hpI 0), .int (hpI 0)])) := ⟨_, rfl⟩
  rw [← e4] at hP
  have hO4 : ∀ j, j < 114 → E4 j = E0 j := fun j h => by rw [e4]; exact (hp_ne (by omega)).trans (hO3 j h)
  have hp4_114 : E4 114 = .inr (3, [.ref (z + 115), .ref (z + 116), .int (hpI 0), .int (hpI 0), .int (hpI 0)]) := by rw [e4, hp_at]
  have hD4 : ∀ j, 114 < j → j < 117 → E4 j = hpE z cy j (hp0 j) := fun j h1 h2 => by
    rw [e4, hp_ne (by omega)]; exact hD3 j h1 (by omega)
  refine W.vret C.1 C.2.1 hr (fun t ht _ => ⟨⟨rfl, E4, by rw [ht]; exact hP, hO4, fun j h1 h2 => ?_⟩, hS.F ht⟩) (fun q hq => hS.2.2 q hq) dX3_init_20 hk
  rcases Nat.lt_or_ge 114 j with h | h
  · exact hD4 j h h2
  · obtain rfl : j = 114 := by omega
    exact hp4_114.trans eo_114.symm
set_option maxHeartbeats 4000000 in
set_option maxRecDepth 20000 in
theorem kX3_117 (l : Launch) (D : va_G) (cy : Nat → ClassId) (z : Nat) (E0 : Nat → va_E) (hE0 : E0 117 = .inr (3, [.null, .null, .int (hpI 0), .int (hpI 0), .int (hpI 0)])) : hpK l D cy z yX3_init cX3_init 1 rK3 117 3 2 80 E0 := by
  refine hp_metX rfl (Nat.le_of_ble_eq_true rfl) (fun p e s m below meth c ls C A hr hk hnm h0 hl hP hS => ?_)
  have hO0 : ∀ j, j < 117 → E0 j = E0 j := fun _ _ => rfl
  have hD0 : ∀ j, 117 < j → j < 118 → E0 j = hpE z cy j (hp0 j) := fun j h1 h2 => by omega
  refine lv_aload_n C.1 C.2.1 dX3_init_0 rfl (lv_at hl 0 rfl) ?_
  refine W.objInit C.1 C.2.1 C.2.2.2.1 (C.2.2.2.2.1 _ wd_151) (C.2.2.2.2.1 _ wd_24) (C.2.2.2.2.1 _ wd_25) rfl (by rw [C.2.2.1]; exact hl.1) rfl dX3_init_1 (Nat.le_of_ble_eq_true rfl) (Nat.le_of_ble_eq_true rfl) ?_
  refine lv_aload_n C.1 C.2.1 dX3_init_4 rfl (lv_at hl 0 rfl) ?_
  refine lv_bipush (v := hpI 40) C.1 C.2.1 dX3_init_5 (by decide) ?_
  refine n_size (n := 118) h0 rfl hS hP (fun hsz => ?_)
  refine n_newa (atype := .int) (ci := 11) (t0 := 1) (a0 := (40, .inl (fun i => hpI (hp0 118 i)))) C wd_135 rfl rfl (fun U h => h) (az_118) rfl (by decide) (Nat.le_of_ble_eq_true rfl) hP hS hsz (Nat.le_of_ble_eq_true rfl) (Nat.le_of_ble_eq_true rfl) dX3_init_7 (fun H hP hS => ?_)
  obtain ⟨E1, e1⟩ : ∃ F, F = va_up E0 118 (.inl (cy 11, 40, .inl (fun i => hpI (hp0 118 i)))) := ⟨_, rfl⟩
  rw [← e1] at hP
  have hO1 : ∀ j, j < 117 → E1 j = E0 j := fun j h => by rw [e1]; exact (hp_ne (by omega)).trans (hO0 j h)
  have hp1_117 : E1 117 = .inr (3, [.null, .null, .int (hpI 0), .int (hpI 0), .int (hpI 0)]) := by rw [e1, hp_ne (by decide)]; exact hE0
  have hD1 : ∀ j, 117 < j → j < 119 → E1 j = hpE z cy j (hp0 j) := fun j h1 h2 => by
    rcases Nat.lt_or_ge j 118 with h | h
    · rw [e1, hp_ne (by omega)]; exact hD0 j h1 h
    · obtain rfl : j = 118 := by omega
      rw [e1, hp_at, ea_118]
  refine n_putF (fs' := [.ref (z + 118), .null, .int (hpI 0), .int (hpI 0), .int (hpI 0)]) C O3 0 (by decide) hp1_117 (by decide) rfl hnm rfl wd_152 rfl rfl (Nat.le_of_ble_eq_true rfl) rfl hP hS dX3_init_9 (fun H locs hP hS => ?_)
  obtain ⟨E2, e2⟩ : ∃ F, F = va_up E1 117 (.inr (3, [.ref (z + 118), .null, .int (hpI 0), .int (hpI 0), .int (hpI 0)])) := ⟨_, rfl⟩
  rw [← e2] at hP
  have hO2 : ∀ j, j < 117 → E2 j = E0 j := fun j h => by rw [e2]; exact (hp_ne (by omega)).trans (hO1 j h)
  have hp2_117 : E2 117 = .inr (3, [.ref (z + 118), .null, .int (hpI 0), .int (hpI 0), .int (hpI 0)]) := by rw [e2, hp_at]
  have hD2 : ∀ j, 117 < j → j < 119 → E2 j = hpE z cy j (hp0 j) := fun j h1 h2 => by
    rw [e2, hp_ne (by omega)]; exact hD1 j h1 (by omega)
  refine lv_aload_n C.1 C.2.1 dX3_init_12 rfl (lv_at hl 0 rfl) ?_
  refine lv_bipush (v := hpI 40) C.1 C.2.1 dX3_init_13 (by decide) ?_
  refine n_size (n := 119) h0 rfl hS hP (fun hsz => ?_)
  refine n_newa (atype := .int) (ci := 11) (t0 := 1) (a0 := (40, .inl (fun i => hpI (hp0 119 i)))) C wd_135 rfl rfl (fun U h => h) (az_119) rfl (by decide) (Nat.le_of_ble_eq_true rfl) hP hS hsz (Nat.le_of_ble_eq_true rfl) (Nat.le_of_ble_eq_true rfl) dX3_init_15 (fun H hP hS => ?_)
  obtain ⟨E3, e3⟩ : ∃ F, F = va_up E2 119 (.inl (cy 11, 40, .inl (fun i => hpI (hp0 119 i)))) := ⟨_, rfl⟩
  rw [← e3] at hP
  have hO3 : ∀ j, j < 117 → E3 j = E0 j := fun j h => by rw [e3]; exact (hp_ne (by omega)).trans (hO2 j h)
  have hp3_117 : E3 117 = .inr (3, [.ref (z + 118), .null, .int (hpI 0), .int (hpI 0), .int (hpI 0)]) := by rw [e3, hp_ne (by decide)]; exact hp2_117
  have hD3 : ∀ j, 117 < j → j < 120 → E3 j = hpE z cy j (hp0 j) := fun j h1 h2 => by
    rcases Nat.lt_or_ge j 119 with h | h
    · rw [e3, hp_ne (by omega)]; exact hD2 j h1 h
    · obtain rfl : j = 119 := by omega
      rw [e3, hp_at, ea_119]
  refine n_putF (fs' := [.ref (z + 118), .ref (z + 119), .int (hpI 0), .int (hpI 0), .int (hpI 0)]) C O3 1 (by decide) hp3_117 (by decide) rfl hnm rfl wd_155 rfl rfl (Nat.le_of_ble_eq_true rfl) rfl hP hS dX3_init_17 (fun H locs hP hS => ?_)
  obtain ⟨E4, e4⟩ : ∃ F, F = va_up E3 117 (.inr (3, [.ref (z + 118), .ref (z + 119), .int (hpI 0), .int (hpI 0), .int (hpI 0)])) := ⟨_, rfl⟩
  rw [← e4] at hP
  have hO4 : ∀ j, j < 117 → E4 j = E0 j := fun j h => by rw [e4]; exact (hp_ne (by omega)).trans (hO3 j h)
  have hp4_117 : E4 117 = .inr (3, [.ref (z + 118), .ref (z + 119), .int (hpI 0), .int (hpI 0), .int (hpI 0)]) := by rw [e4, hp_at]
  have hD4 : ∀ j, 117 < j → j < 120 → E4 j = hpE z cy j (hp0 j) := fun j h1 h2 => by
    rw [e4, hp_ne (by omega)]; exact hD3 j h1 (by omega)
  refine W.vret C.1 C.2.1 hr (fun t ht _ => ⟨⟨rfl, E4, by rw [ht]; exact hP, hO4, fun j h1 h2 => ?_⟩, hS.F ht⟩) (fun q hq => hS.2.2 q hq) dX3_init_20 hk
  rcases Nat.lt_or_ge 117 j with h | h
  · exact hD4 j h h2
  · obtain rfl : j = 117 := by omega
    exact hp4_117.trans eo_117.symm
set_option maxHeartbeats 4000000 in
set_option maxRecDepth 20000 in
theorem kX3_120 (l : Launch) (D : va_G) (cy : Nat → ClassId) (z : Nat) (E0 : Nat → va_E) (hE0 : E0 120 = .inr (3, [.null, .null, .int (hpI 0), .int (hpI 0), .int (hpI 0)])) : hpK l D cy z yX3_init cX3_init 1 rK3 120 3 2 80 E0 := by
  refine hp_metX rfl (Nat.le_of_ble_eq_true rfl) (fun p e s m below meth c ls C A hr hk hnm h0 hl hP hS => ?_)
  have hO0 : ∀ j, j < 120 → E0 j = E0 j := fun _ _ => rfl
  have hD0 : ∀ j, 120 < j → j < 121 → E0 j = hpE z cy j (hp0 j) := fun j h1 h2 => by omega
  refine lv_aload_n C.1 C.2.1 dX3_init_0 rfl (lv_at hl 0 rfl) ?_
  refine W.objInit C.1 C.2.1 C.2.2.2.1 (C.2.2.2.2.1 _ wd_151) (C.2.2.2.2.1 _ wd_24) (C.2.2.2.2.1 _ wd_25) rfl (by rw [C.2.2.1]; exact hl.1) rfl dX3_init_1 (Nat.le_of_ble_eq_true rfl) (Nat.le_of_ble_eq_true rfl) ?_
  refine lv_aload_n C.1 C.2.1 dX3_init_4 rfl (lv_at hl 0 rfl) ?_
  refine lv_bipush (v := hpI 40) C.1 C.2.1 dX3_init_5 (by decide) ?_
  refine n_size (n := 121) h0 rfl hS hP (fun hsz => ?_)
  refine n_newa (atype := .int) (ci := 11) (t0 := 1) (a0 := (40, .inl (fun i => hpI (hp0 121 i)))) C wd_135 rfl rfl (fun U h => h) (az_121) rfl (by decide) (Nat.le_of_ble_eq_true rfl) hP hS hsz (Nat.le_of_ble_eq_true rfl) (Nat.le_of_ble_eq_true rfl) dX3_init_7 (fun H hP hS => ?_)
  obtain ⟨E1, e1⟩ : ∃ F, F = va_up E0 121 (.inl (cy 11, 40, .inl (fun i => hpI (hp0 121 i)))) := ⟨_, rfl⟩
  rw [← e1] at hP
  have hO1 : ∀ j, j < 120 → E1 j = E0 j := fun j h => by rw [e1]; exact (hp_ne (by omega)).trans (hO0 j h)
  have hp1_120 : E1 120 = .inr (3, [.null, .null, .int (hpI 0), .int (hpI 0), .int (hpI 0)]) := by rw [e1, hp_ne (by decide)]; exact hE0
  have hD1 : ∀ j, 120 < j → j < 122 → E1 j = hpE z cy j (hp0 j) := fun j h1 h2 => by
    rcases Nat.lt_or_ge j 121 with h | h
    · rw [e1, hp_ne (by omega)]; exact hD0 j h1 h
    · obtain rfl : j = 121 := by omega
      rw [e1, hp_at, ea_121]
  refine n_putF (fs' := [.ref (z + 121), .null, .int (hpI 0), .int (hpI 0), .int (hpI 0)]) C O3 0 (by decide) hp1_120 (by decide) rfl hnm rfl wd_152 rfl rfl (Nat.le_of_ble_eq_true rfl) rfl hP hS dX3_init_9 (fun H locs hP hS => ?_)
  obtain ⟨E2, e2⟩ : ∃ F, F = va_up E1 120 (.inr (3, [.ref (z + 121), .null, .int (hpI 0), .int (hpI 0), .int (hpI 0)])) := ⟨_, rfl⟩
  rw [← e2] at hP
  have hO2 : ∀ j, j < 120 → E2 j = E0 j := fun j h => by rw [e2]; exact (hp_ne (by omega)).trans (hO1 j h)
  have hp2_120 : E2 120 = .inr (3, [.ref (z + 121), .null, .int (hpI 0), .int (hpI 0), .int (hpI 0)]) := by rw [e2, hp_at]
  have hD2 : ∀ j, 120 < j → j < 122 → E2 j = hpE z cy j (hp0 j) := fun j h1 h2 => by
    rw [e2, hp_ne (by omega)]; exact hD1 j h1 (by omega)
  refine lv_aload_n C.1 C.2.1 dX3_init_12 rfl (lv_at hl 0 rfl) ?_
  refine lv_bipush (v := hpI 40) C.1 C.2.1 dX3_init_13 (by decide) ?_
  refine n_size (n := 122) h0 rfl hS hP (fun hsz => ?_)
  refine n_newa (atype := .int) (ci := 11) (t0 := 1) (a0 := (40, .inl (fun i => hpI (hp0 122 i)))) C wd_135 rfl rfl (fun U h => h) (az_122) rfl (by decide) (Nat.le_of_ble_eq_true rfl) hP hS hsz (Nat.le_of_ble_eq_true rfl) (Nat.le_of_ble_eq_true rfl) dX3_init_15 (fun H hP hS => ?_)
  obtain ⟨E3, e3⟩ : ∃ F, F = va_up E2 122 (.inl (cy 11, 40, .inl (fun i => hpI (hp0 122 i)))) := ⟨_, rfl⟩
  rw [← e3] at hP
  have hO3 : ∀ j, j < 120 → E3 j = E0 j := fun j h => by rw [e3]; exact (hp_ne (by omega)).trans (hO2 j h)
  have hp3_120 : E3 120 = .inr (3, [.ref (z + 121), .null, .int (hpI 0), .int (hpI 0), .int (hpI 0)]) := by rw [e3, hp_ne (by decide)]; exact hp2_120
  have hD3 : ∀ j, 120 < j → j < 123 → E3 j = hpE z cy j (hp0 j) := fun j h1 h2 => by
    rcases Nat.lt_or_ge j 122 with h | h
    · rw [e3, hp_ne (by omega)]; exact hD2 j h1 h
    · obtain rfl : j = 122 := by omega
      rw [e3, hp_at, ea_122]
  refine n_putF (fs' := [.ref (z + 121), .ref (z + 122), .int (hpI 0), .int (hpI 0), .int (hpI 0)]) C O3 1 (by decide) hp3_120 (by decide) rfl hnm rfl wd_155 rfl rfl (Nat.le_of_ble_eq_true rfl) rfl hP hS dX3_init_17 (fun H locs hP hS => ?_)
  obtain ⟨E4, e4⟩ : ∃ F, F = va_up E3 120 (.inr (3, [.ref (z + 121), .ref (z + 122), .int (hpI 0), .int (hpI 0), .int (hpI 0)])) := ⟨_, rfl⟩
  rw [← e4] at hP
  have hO4 : ∀ j, j < 120 → E4 j = E0 j := fun j h => by rw [e4]; exact (hp_ne (by omega)).trans (hO3 j h)
  have hp4_120 : E4 120 = .inr (3, [.ref (z + 121), .ref (z + 122), .int (hpI 0), .int (hpI 0), .int (hpI 0)]) := by rw [e4, hp_at]
  have hD4 : ∀ j, 120 < j → j < 123 → E4 j = hpE z cy j (hp0 j) := fun j h1 h2 => by
    rw [e4, hp_ne (by omega)]; exact hD3 j h1 (by omega)
  refine W.vret C.1 C.2.1 hr (fun t ht _ => ⟨⟨rfl, E4, by rw [ht]; exact hP, hO4, fun j h1 h2 => ?_⟩, hS.F ht⟩) (fun q hq => hS.2.2 q hq) dX3_init_20 hk
  rcases Nat.lt_or_ge 120 j with h | h
  · exact hD4 j h h2
  · obtain rfl : j = 120 := by omega
    exact hp4_120.trans eo_120.symm
set_option maxHeartbeats 4000000 in
set_option maxRecDepth 20000 in
theorem kX3_124 (l : Launch) (D : va_G) (cy : Nat → ClassId) (z : Nat) (E0 : Nat → va_E) (hE0 : E0 124 = .inr (3, [.null, .null, .int (hpI 0), .int (hpI 0), .int (hpI 0)])) : hpK l D cy z yX3_init cX3_init 1 rK3 124 3 2 80 E0 := by
  refine hp_metX rfl (Nat.le_of_ble_eq_true rfl) (fun p e s m below meth c ls C A hr hk hnm h0 hl hP hS => ?_)
  have hO0 : ∀ j, j < 124 → E0 j = E0 j := fun _ _ => rfl
  have hD0 : ∀ j, 124 < j → j < 125 → E0 j = hpE z cy j (hp0 j) := fun j h1 h2 => by omega
  refine lv_aload_n C.1 C.2.1 dX3_init_0 rfl (lv_at hl 0 rfl) ?_
  refine W.objInit C.1 C.2.1 C.2.2.2.1 (C.2.2.2.2.1 _ wd_151) (C.2.2.2.2.1 _ wd_24) (C.2.2.2.2.1 _ wd_25) rfl (by rw [C.2.2.1]; exact hl.1) rfl dX3_init_1 (Nat.le_of_ble_eq_true rfl) (Nat.le_of_ble_eq_true rfl) ?_
  refine lv_aload_n C.1 C.2.1 dX3_init_4 rfl (lv_at hl 0 rfl) ?_
  refine lv_bipush (v := hpI 40) C.1 C.2.1 dX3_init_5 (by decide) ?_
  refine n_size (n := 125) h0 rfl hS hP (fun hsz => ?_)
  refine n_newa (atype := .int) (ci := 11) (t0 := 1) (a0 := (40, .inl (fun i => hpI (hp0 125 i)))) C wd_135 rfl rfl (fun U h => h) (az_125) rfl (by decide) (Nat.le_of_ble_eq_true rfl) hP hS hsz (Nat.le_of_ble_eq_true rfl) (Nat.le_of_ble_eq_true rfl) dX3_init_7 (fun H hP hS => ?_)
  obtain ⟨E1, e1⟩ : ∃ F, F = va_up E0 125 (.inl (cy 11, 40, .inl (fun i => hpI (hp0 125 i)))) := ⟨_, rfl⟩
  rw [← e1] at hP
  have hO1 : ∀ j, j < 124 → E1 j = E0 j := fun j h => by rw [e1]; exact (hp_ne (by omega)).trans (hO0 j h)
  have hp1_124 : E1 124 = .inr (3, [.null, .null, .int (hpI 0), .int (hpI 0), .int (hpI 0)]) := by rw [e1, hp_ne (by decide)]; exact hE0
  have hD1 : ∀ j, 124 < j → j < 126 → E1 j = hpE z cy j (hp0 j) := fun j h1 h2 => by
    rcases Nat.lt_or_ge j 125 with h | h
    · rw [e1, hp_ne (by omega)]; exact hD0 j h1 h
    · obtain rfl : j = 125 := by omega
      rw [e1, hp_at, ea_125]
  refine n_putF (fs' := [.ref (z + 125), .null, .int (hpI 0), .int (hpI 0), .int (hpI 0)]) C O3 0 (by decide) hp1_124 (by decide) rfl hnm rfl wd_152 rfl rfl (Nat.le_of_ble_eq_true rfl) rfl hP hS dX3_init_9 (fun H locs hP hS => ?_)
  obtain ⟨E2, e2⟩ : ∃ F, F = va_up E1 124 (.inr (3, [.ref (z + 125), .null, .int (hpI 0), .int (hpI 0), .int (hpI 0)])) := ⟨_, rfl⟩
  rw [← e2] at hP
  have hO2 : ∀ j, j < 124 → E2 j = E0 j := fun j h => by rw [e2]; exact (hp_ne (by omega)).trans (hO1 j h)
  have hp2_124 : E2 124 = .inr (3, [.ref (z + 125), .null, .int (hpI 0), .int (hpI 0), .int (hpI 0)]) := by rw [e2, hp_at]
  have hD2 : ∀ j, 124 < j → j < 126 → E2 j = hpE z cy j (hp0 j) := fun j h1 h2 => by
    rw [e2, hp_ne (by omega)]; exact hD1 j h1 (by omega)
  refine lv_aload_n C.1 C.2.1 dX3_init_12 rfl (lv_at hl 0 rfl) ?_
  refine lv_bipush (v := hpI 40) C.1 C.2.1 dX3_init_13 (by decide) ?_
  refine n_size (n := 126) h0 rfl hS hP (fun hsz => ?_)
  refine n_newa (atype := .int) (ci := 11) (t0 := 1) (a0 := (40, .inl (fun i => hpI (hp0 126 i)))) C wd_135 rfl rfl (fun U h => h) (az_126) rfl (by decide) (Nat.le_of_ble_eq_true rfl) hP hS hsz (Nat.le_of_ble_eq_true rfl) (Nat.le_of_ble_eq_true rfl) dX3_init_15 (fun H hP hS => ?_)
  obtain ⟨E3, e3⟩ : ∃ F, F = va_up E2 126 (.inl (cy 11, 40, .inl (fun i => hpI (hp0 126 i)))) := ⟨_, rfl⟩
  rw [← e3] at hP
  have hO3 : ∀ j, j < 124 → E3 j = E0 j := fun j h => by rw [e3]; exact (hp_ne (by omega)).trans (hO2 j h)
  have hp3_124 : E3 124 = .inr (3, [.ref (z + 125), .null, .int (hpI 0), .int (hpI 0), .int (hpI 0)]) := by rw [e3, hp_ne (by decide)]; exact hp2_124
  have hD3 : ∀ j, 124 < j → j < 127 → E3 j = hpE z cy j (hp0 j) := fun j h1 h2 => by
    rcases Nat.lt_or_ge j 126 with h | h
    · rw [e3, hp_ne (by omega)]; exact hD2 j h1 h
    · obtain rfl : j = 126 := by omega
      rw [e3, hp_at, ea_126]
  refine n_putF (fs' := [.ref (z + 125), .ref (z + 126), .int (hpI 0), .int (hpI 0), .int (hpI 0)]) C O3 1 (by decide) hp3_124 (by decide) rfl hnm rfl wd_155 rfl rfl (Nat.le_of_ble_eq_true rfl) rfl hP hS dX3_init_17 (fun H locs hP hS => ?_)
  obtain ⟨E4, e4⟩ : ∃ F, F = va_up E3 124 (.inr (3, [.ref (z + 125), .ref (z + 126), .int (hpI 0), .int (hpI 0), .int (hpI 0)])) := ⟨_, rfl⟩
  rw [← e4] at hP
  have hO4 : ∀ j, j < 124 → E4 j = E0 j := fun j h => by rw [e4]; exact (hp_ne (by omega)).trans (hO3 j h)
  have hp4_124 : E4 124 = .inr (3, [.ref (z + 125), .ref (z + 126), .int (hpI 0), .int (hpI 0), .int (hpI 0)]) := by rw [e4, hp_at]
  have hD4 : ∀ j, 124 < j → j < 127 → E4 j = hpE z cy j (hp0 j) := fun j h1 h2 => by
    rw [e4, hp_ne (by omega)]; exact hD3 j h1 (by omega)
  refine W.vret C.1 C.2.1 hr (fun t ht _ => ⟨⟨rfl, E4, by rw [ht]; exact hP, hO4, fun j h1 h2 => ?_⟩, hS.F ht⟩) (fun q hq => hS.2.2 q hq) dX3_init_20 hk
  rcases Nat.lt_or_ge 124 j with h | h
  · exact hD4 j h h2
  · obtain rfl : j = 124 := by omega
    exact hp4_124.trans eo_124.symm
set_option maxHeartbeats 4000000 in
set_option maxRecDepth 20000 in
theorem kX3_127 (l : Launch) (D : va_G) (cy : Nat → ClassId) (z : Nat) (E0 : Nat → va_E) (hE0 : E0 127 = .inr (3, [.null, .null, .int (hpI 0), .int (hpI 0), .int (hpI 0)])) : hpK l D cy z yX3_init cX3_init 1 rK3 127 3 2 80 E0 := by
  refine hp_metX rfl (Nat.le_of_ble_eq_true rfl) (fun p e s m below meth c ls C A hr hk hnm h0 hl hP hS => ?_)
  have hO0 : ∀ j, j < 127 → E0 j = E0 j := fun _ _ => rfl
  have hD0 : ∀ j, 127 < j → j < 128 → E0 j = hpE z cy j (hp0 j) := fun j h1 h2 => by omega
  refine lv_aload_n C.1 C.2.1 dX3_init_0 rfl (lv_at hl 0 rfl) ?_
  refine W.objInit C.1 C.2.1 C.2.2.2.1 (C.2.2.2.2.1 _ wd_151) (C.2.2.2.2.1 _ wd_24) (C.2.2.2.2.1 _ wd_25) rfl (by rw [C.2.2.1]; exact hl.1) rfl dX3_init_1 (Nat.le_of_ble_eq_true rfl) (Nat.le_of_ble_eq_true rfl) ?_
  refine lv_aload_n C.1 C.2.1 dX3_init_4 rfl (lv_at hl 0 rfl) ?_
  refine lv_bipush (v := hpI 40) C.1 C.2.1 dX3_init_5 (by decide) ?_
  refine n_size (n := 128) h0 rfl hS hP (fun hsz => ?_)
  refine n_newa (atype := .int) (ci := 11) (t0 := 1) (a0 := (40, .inl (fun i => hpI (hp0 128 i)))) C wd_135 rfl rfl (fun U h => h) (az_128) rfl (by decide) (Nat.le_of_ble_eq_true rfl) hP hS hsz (Nat.le_of_ble_eq_true rfl) (Nat.le_of_ble_eq_true rfl) dX3_init_7 (fun H hP hS => ?_)
  obtain ⟨E1, e1⟩ : ∃ F, F = va_up E0 128 (.inl (cy 11, 40, .inl (fun i => hpI (hp0 128 i)))) := ⟨_, rfl⟩
  rw [← e1] at hP
  have hO1 : ∀ j, j < 127 → E1 j = E0 j := fun j h => by rw [e1]; exact (hp_ne (by omega)).trans (hO0 j h)
  have hp1_127 : E1 127 = .inr (3, [.null, .null, .int (hpI 0), .int (hpI 0), .int (hpI 0)]) := by rw [e1, hp_ne (by decide)]; exact hE0
  have hD1 : ∀ j, 127 < j → j < 129 → E1 j = hpE z cy j (hp0 j) := fun j h1 h2 => by
    rcases Nat.lt_or_ge j 128 with h | h
    · rw [e1, hp_ne (by omega)]; exact hD0 j h1 h
    · obtain rfl : j = 128 := by omega
      rw [e1, hp_at, ea_128]
  refine n_putF (fs' := [.ref (z + 128), .null, .int (hpI 0), .int (hpI 0), .int (hpI 0)]) C O3 0 (by decide) hp1_127 (by decide) rfl hnm rfl wd_152 rfl rfl (Nat.le_of_ble_eq_true rfl) rfl hP hS dX3_init_9 (fun H locs hP hS => ?_)
  obtain ⟨E2, e2⟩ : ∃ F, F = va_up E1 127 (.inr (3, [.ref (z + 128), .null, .int (hpI 0), .int (hpI 0), .int (hpI 0)])) := ⟨_, rfl⟩
  rw [← e2] at hP
  have hO2 : ∀ j, j < 127 → E2 j = E0 j := fun j h => by rw [e2]; exact (hp_ne (by omega)).trans (hO1 j h)
  have hp2_127 : E2 127 = .inr (3, [.ref (z + 128), .null, .int (hpI 0), .int (hpI 0), .int (hpI 0)]) := by rw [e2, hp_at]
  have hD2 : ∀ j, 127 < j → j < 129 → E2 j = hpE z cy j (hp0 j) := fun j h1 h2 => by
    rw [e2, hp_ne (by omega)]; exact hD1 j h1 (by omega)
  refine lv_aload_n C.1 C.2.1 dX3_init_12 rfl (lv_at hl 0 rfl) ?_
  refine lv_bipush (v := hpI 40) C.1 C.2.1 dX3_init_13 (by decide) ?_
  refine n_size (n := 129) h0 rfl hS hP (fun hsz => ?_)
  refine n_newa (atype := .int) (ci := 11) (t0 := 1) (a0 := (40, .inl (fun i => hpI (hp0 129 i)))) C wd_135 rfl rfl (fun U h => h) (az_129) rfl (by decide) (Nat.le_of_ble_eq_true rfl) hP hS hsz (Nat.le_of_ble_eq_true rfl) (Nat.le_of_ble_eq_true rfl) dX3_init_15 (fun H hP hS => ?_)
  obtain ⟨E3, e3⟩ : ∃ F, F = va_up E2 129 (.inl (cy 11, 40, .inl (fun i => hpI (hp0 129 i)))) := ⟨_, rfl⟩
  rw [← e3] at hP
  have hO3 : ∀ j, j < 127 → E3 j = E0 j := fun j h => by rw [e3]; exact (hp_ne (by omega)).trans (hO2 j h)
  have hp3_127 : E3 127 = .inr (3, [.ref (z + 128), .null, .int (hpI 0), .int (hpI 0), .int (hpI 0)]) := by rw [e3, hp_ne (by decide)]; exact hp2_127
  have hD3 : ∀ j, 127 < j → j < 130 → E3 j = hpE z cy j (hp0 j) := fun j h1 h2 => by
    rcases Nat.lt_or_ge j 129 with h | h
    · rw [e3, hp_ne (by omega)]; exact hD2 j h1 h
    · obtain rfl : j = 129 := by omega
      rw [e3, hp_at, ea_129]
  refine n_putF (fs' := [.ref (z + 128), .ref (z + 129), .int (hpI 0), .int (hpI 0), .int (hpI 0)]) C O3 1 (by decide) hp3_127 (by decide) rfl hnm rfl wd_155 rfl rfl (Nat.le_of_ble_eq_true rfl) rfl hP hS dX3_init_17 (fun H locs hP hS => ?_)
  obtain ⟨E4, e4⟩ : ∃ F, F = va_up E3 127 (.inr (3, [.ref (z + 128), .ref (z + 129), .int (hpI 0), .int (hpI 0), .int (hpI 0)])) := ⟨_, rfl⟩
  rw [← e4] at hP
  have hO4 : ∀ j, j < 127 → E4 j = E0 j := fun j h => by rw [e4]; exact (hp_ne (by omega)).trans (hO3 j h)
  have hp4_127 : E4 127 = .inr (3, [.ref (z + 128), .ref (z + 129), .int (hpI 0), .int (hpI 0), .int (hpI 0)]) := by rw [e4, hp_at]
  have hD4 : ∀ j, 127 < j → j < 130 → E4 j = hpE z cy j (hp0 j) := fun j h1 h2 => by
    rw [e4, hp_ne (by omega)]; exact hD3 j h1 (by omega)
  refine W.vret C.1 C.2.1 hr (fun t ht _ => ⟨⟨rfl, E4, by rw [ht]; exact hP, hO4, fun j h1 h2 => ?_⟩, hS.F ht⟩) (fun q hq => hS.2.2 q hq) dX3_init_20 hk
  rcases Nat.lt_or_ge 127 j with h | h
  · exact hD4 j h h2
  · obtain rfl : j = 127 := by omega
    exact hp4_127.trans eo_127.symm
set_option maxHeartbeats 4000000 in
set_option maxRecDepth 20000 in
theorem kX3_138 (l : Launch) (D : va_G) (cy : Nat → ClassId) (z : Nat) (E0 : Nat → va_E) (hE0 : E0 138 = .inr (3, [.null, .null, .int (hpI 0), .int (hpI 0), .int (hpI 0)])) : hpK l D cy z yX3_init cX3_init 1 rK3 138 3 2 80 E0 := by
  refine hp_metX rfl (Nat.le_of_ble_eq_true rfl) (fun p e s m below meth c ls C A hr hk hnm h0 hl hP hS => ?_)
  have hO0 : ∀ j, j < 138 → E0 j = E0 j := fun _ _ => rfl
  have hD0 : ∀ j, 138 < j → j < 139 → E0 j = hpE z cy j (hp0 j) := fun j h1 h2 => by omega
  refine lv_aload_n C.1 C.2.1 dX3_init_0 rfl (lv_at hl 0 rfl) ?_
  refine W.objInit C.1 C.2.1 C.2.2.2.1 (C.2.2.2.2.1 _ wd_151) (C.2.2.2.2.1 _ wd_24) (C.2.2.2.2.1 _ wd_25) rfl (by rw [C.2.2.1]; exact hl.1) rfl dX3_init_1 (Nat.le_of_ble_eq_true rfl) (Nat.le_of_ble_eq_true rfl) ?_
  refine lv_aload_n C.1 C.2.1 dX3_init_4 rfl (lv_at hl 0 rfl) ?_
  refine lv_bipush (v := hpI 40) C.1 C.2.1 dX3_init_5 (by decide) ?_
  refine n_size (n := 139) h0 rfl hS hP (fun hsz => ?_)
  refine n_newa (atype := .int) (ci := 11) (t0 := 1) (a0 := (40, .inl (fun i => hpI (hp0 139 i)))) C wd_135 rfl rfl (fun U h => h) (az_139) rfl (by decide) (Nat.le_of_ble_eq_true rfl) hP hS hsz (Nat.le_of_ble_eq_true rfl) (Nat.le_of_ble_eq_true rfl) dX3_init_7 (fun H hP hS => ?_)
  obtain ⟨E1, e1⟩ : ∃ F, F = va_up E0 139 (.inl (cy 11, 40, .inl (fun i => hpI (hp0 139 i)))) := ⟨_, rfl⟩
  rw [← e1] at hP
  have hO1 : ∀ j, j < 138 → E1 j = E0 j := fun j h => by rw [e1]; exact (hp_ne (by omega)).trans (hO0 j h)
  have hp1_138 : E1 138 = .inr (3, [.null, .null, .int (hpI 0), .int (hpI 0), .int (hpI 0)]) := by rw [e1, hp_ne (by decide)]; exact hE0
  have hD1 : ∀ j, 138 < j → j < 140 → E1 j = hpE z cy j (hp0 j) := fun j h1 h2 => by
    rcases Nat.lt_or_ge j 139 with h | h
    · rw [e1, hp_ne (by omega)]; exact hD0 j h1 h
    · obtain rfl : j = 139 := by omega
      rw [e1, hp_at, ea_139]
  refine n_putF (fs' := [.ref (z + 139), .null, .int (hpI 0), .int (hpI 0), .int (hpI 0)]) C O3 0 (by decide) hp1_138 (by decide) rfl hnm rfl wd_152 rfl rfl (Nat.le_of_ble_eq_true rfl) rfl hP hS dX3_init_9 (fun H locs hP hS => ?_)
  obtain ⟨E2, e2⟩ : ∃ F, F = va_up E1 138 (.inr (3, [.ref (z + 139), .null, .int (hpI 0), .int (hpI 0), .int (hpI 0)])) := ⟨_, rfl⟩
  rw [← e2] at hP
  have hO2 : ∀ j, j < 138 → E2 j = E0 j := fun j h => by rw [e2]; exact (hp_ne (by omega)).trans (hO1 j h)
  have hp2_138 : E2 138 = .inr (3, [.ref (z + 139), .null, .int (hpI 0), .int (hpI 0), .int (hpI 0)]) := by rw [e2, hp_at]
  have hD2 : ∀ j, 138 < j → j < 140 → E2 j = hpE z cy j (hp0 j) := fun j h1 h2 => by
    rw [e2, hp_ne (by omega)]; exact hD1 j h1 (by omega)
  refine lv_aload_n C.1 C.2.1 dX3_init_12 rfl (lv_at hl 0 rfl) ?_
  refine lv_bipush (v := hpI 40) C.1 C.2.1 dX3_init_13 (by decide) ?_
  refine n_size (n := 140) h0 rfl hS hP (fun hsz => ?_)
  refine n_newa (atype := .int) (ci := 11) (t0 := 1) (a0 := (40, .inl (fun i => hpI (hp0 140 i)))) C wd_135 rfl rfl (fun U h => h) (az_140) rfl (by decide) (Nat.le_of_ble_eq_true rfl) hP hS hsz (Nat.le_of_ble_eq_true rfl) (Nat.le_of_ble_eq_true rfl) dX3_init_15 (fun H hP hS => ?_)
  obtain ⟨E3, e3⟩ : ∃ F, F = va_up E2 140 (.inl (cy 11, 40, .inl (fun i => hpI (hp0 140 i)))) := ⟨_, rfl⟩
  rw [← e3] at hP
  have hO3 : ∀ j, j < 138 → E3 j = E0 j := fun j h => by rw [e3]; exact (hp_ne (by omega)).trans (hO2 j h)
  have hp3_138 : E3 138 = .inr (3, [.ref (z + 139), .null, .int (hpI 0), .int (hpI 0), .int (hpI 0)]) := by rw [e3, hp_ne (by decide)]; exact hp2_138
  have hD3 : ∀ j, 138 < j → j < 141 → E3 j = hpE z cy j (hp0 j) := fun j h1 h2 => by
    rcases Nat.lt_or_ge j 140 with h | h
    · rw [e3, hp_ne (by omega)]; exact hD2 j h1 h
    · obtain rfl : j = 140 := by omega
      rw [e3, hp_at, ea_140]
  refine n_putF (fs' := [.ref (z + 139), .ref (z + 140), .int (hpI 0), .int (hpI 0), .int (hpI 0)]) C O3 1 (by decide) hp3_138 (by decide) rfl hnm rfl wd_155 rfl rfl (Nat.le_of_ble_eq_true rfl) rfl hP hS dX3_init_17 (fun H locs hP hS => ?_)
  obtain ⟨E4, e4⟩ : ∃ F, F = va_up E3 138 (.inr (3, [.ref (z + 139), .ref (z + 140), .int (hpI 0), .int (hpI 0), .int (hpI 0)])) := ⟨_, rfl⟩
  rw [← e4] at hP
  have hO4 : ∀ j, j < 138 → E4 j = E0 j := fun j h => by rw [e4]; exact (hp_ne (by omega)).trans (hO3 j h)
  have hp4_138 : E4 138 = .inr (3, [.ref (z + 139), .ref (z + 140), .int (hpI 0), .int (hpI 0), .int (hpI 0)]) := by rw [e4, hp_at]
  have hD4 : ∀ j, 138 < j → j < 141 → E4 j = hpE z cy j (hp0 j) := fun j h1 h2 => by
    rw [e4, hp_ne (by omega)]; exact hD3 j h1 (by omega)
  refine W.vret C.1 C.2.1 hr (fun t ht _ => ⟨⟨rfl, E4, by rw [ht]; exact hP, hO4, fun j h1 h2 => ?_⟩, hS.F ht⟩) (fun q hq => hS.2.2 q hq) dX3_init_20 hk
  rcases Nat.lt_or_ge 138 j with h | h
  · exact hD4 j h h2
  · obtain rfl : j = 138 := by omega
    exact hp4_138.trans eo_138.symm
set_option maxHeartbeats 4000000 in
set_option maxRecDepth 20000 in
theorem kX3_164 (l : Launch) (D : va_G) (cy : Nat → ClassId) (z : Nat) (E0 : Nat → va_E) (hE0 : E0 164 = .inr (3, [.null, .null, .int (hpI 0), .int (hpI 0), .int (hpI 0)])) : hpK l D cy z yX3_init cX3_init 1 rK3 164 3 2 80 E0 := by
  refine hp_metX rfl (Nat.le_of_ble_eq_true rfl) (fun p e s m below meth c ls C A hr hk hnm h0 hl hP hS => ?_)
  have hO0 : ∀ j, j < 164 → E0 j = E0 j := fun _ _ => rfl
  have hD0 : ∀ j, 164 < j → j < 165 → E0 j = hpE z cy j (hp0 j) := fun j h1 h2 => by omega
  refine lv_aload_n C.1 C.2.1 dX3_init_0 rfl (lv_at hl 0 rfl) ?_
  refine W.objInit C.1 C.2.1 C.2.2.2.1 (C.2.2.2.2.1 _ wd_151) (C.2.2.2.2.1 _ wd_24) (C.2.2.2.2.1 _ wd_25) rfl (by rw [C.2.2.1]; exact hl.1) rfl dX3_init_1 (Nat.le_of_ble_eq_true rfl) (Nat.le_of_ble_eq_true rfl) ?_
  refine lv_aload_n C.1 C.2.1 dX3_init_4 rfl (lv_at hl 0 rfl) ?_
  refine lv_bipush (v := hpI 40) C.1 C.2.1 dX3_init_5 (by decide) ?_
  refine n_size (n := 165) h0 rfl hS hP (fun hsz => ?_)
  refine n_newa (atype := .int) (ci := 11) (t0 := 1) (a0 := (40, .inl (fun i => hpI (hp0 165 i)))) C wd_135 rfl rfl (fun U h => h) (az_165) rfl (by decide) (Nat.le_of_ble_eq_true rfl) hP hS hsz (Nat.le_of_ble_eq_true rfl) (Nat.le_of_ble_eq_true rfl) dX3_init_7 (fun H hP hS => ?_)
  obtain ⟨E1, e1⟩ : ∃ F, F = va_up E0 165 (.inl (cy 11, 40, .inl (fun i => hpI (hp0 165 i)))) := ⟨_, rfl⟩
  rw [← e1] at hP
  have hO1 : ∀ j, j < 164 → E1 j = E0 j := fun j h => by rw [e1]; exact (hp_ne (by omega)).trans (hO0 j h)
  have hp1_164 : E1 164 = .inr (3, [.null, .null, .int (hpI 0), .int (hpI 0), .int (hpI 0)]) := by rw [e1, hp_ne (by decide)]; exact hE0
  have hD1 : ∀ j, 164 < j → j < 166 → E1 j = hpE z cy j (hp0 j) := fun j h1 h2 => by
    rcases Nat.lt_or_ge j 165 with h | h
    · rw [e1, hp_ne (by omega)]; exact hD0 j h1 h
    · obtain rfl : j = 165 := by omega
      rw [e1, hp_at, ea_165]
  refine n_putF (fs' := [.ref (z + 165), .null, .int (hpI 0), .int (hpI 0), .int (hpI 0)]) C O3 0 (by decide) hp1_164 (by decide) rfl hnm rfl wd_152 rfl rfl (Nat.le_of_ble_eq_true rfl) rfl hP hS dX3_init_9 (fun H locs hP hS => ?_)
  obtain ⟨E2, e2⟩ : ∃ F, F = va_up E1 164 (.inr (3, [.ref (z + 165), .null, .int (hpI 0), .int (hpI 0), .int (hpI 0)])) := ⟨_, rfl⟩
  rw [← e2] at hP
  have hO2 : ∀ j, j < 164 → E2 j = E0 j := fun j h => by rw [e2]; exact (hp_ne (by omega)).trans (hO1 j h)
  have hp2_164 : E2 164 = .inr (3, [.ref (z + 165), .null, .int (hpI 0), .int (hpI 0), .int (hpI 0)]) := by rw [e2, hp_at]
  have hD2 : ∀ j, 164 < j → j < 166 → E2 j = hpE z cy j (hp0 j) := fun j h1 h2 => by
    rw [e2, hp_ne (by omega)]; exact hD1 j h1 (by omega)
  refine lv_aload_n C.1 C.2.1 dX3_init_12 rfl (lv_at hl 0 rfl) ?_
  refine lv_bipush (v := hpI 40) C.1 C.2.1 dX3_init_13 (by decide) ?_
  refine n_size (n := 166) h0 rfl hS hP (fun hsz => ?_)
  refine n_newa (atype := .int) (ci := 11) (t0 := 1) (a0 := (40, .inl (fun i => hpI (hp0 166 i)))) C wd_135 rfl rfl (fun U h => h) (az_166) rfl (by decide) (Nat.le_of_ble_eq_true rfl) hP hS hsz (Nat.le_of_ble_eq_true rfl) (Nat.le_of_ble_eq_true rfl) dX3_init_15 (fun H hP hS => ?_)
  obtain ⟨E3, e3⟩ : ∃ F, F = va_up E2 166 (.inl (cy 11, 40, .inl (fun i => hpI (hp0 166 i)))) := ⟨_, rfl⟩
  rw [← e3] at hP
  have hO3 : ∀ j, j < 164 → E3 j = E0 j := fun j h => by rw [e3]; exact (hp_ne (by omega)).trans (hO2 j h)
  have hp3_164 : E3 164 = .inr (3, [.ref (z + 165), .null, .int (hpI 0), .int (hpI 0), .int (hpI 0)]) := by rw [e3, hp_ne (by decide)]; exact hp2_164
  have hD3 : ∀ j, 164 < j → j < 167 → E3 j = hpE z cy j (hp0 j) := fun j h1 h2 => by
    rcases Nat.lt_or_ge j 166 with h | h
    · rw [e3, hp_ne (by omega)]; exact hD2 j h1 h
    · obtain rfl : j = 166 := by omega
      rw [e3, hp_at, ea_166]
  refine n_putF (fs' := [.ref (z + 165), .ref (z + 166), .int (hpI 0), .int (hpI 0), .int (hpI 0)]) C O3 1 (by decide) hp3_164 (by decide) rfl hnm rfl wd_155 rfl rfl (Nat.le_of_ble_eq_true rfl) rfl hP hS dX3_init_17 (fun H locs hP hS => ?_)
  obtain ⟨E4, e4⟩ : ∃ F, F = va_up E3 164 (.inr (3, [.ref (z + 165), .ref (z + 166), .int (hpI 0), .int (hpI 0), .int (hpI 0)])) := ⟨_, rfl⟩
  rw [← e4] at hP
  have hO4 : ∀ j, j < 164 → E4 j = E0 j := fun j h => by rw [e4]; exact (hp_ne (by omega)).trans (hO3 j h)
  have hp4_164 : E4 164 = .inr (3, [.ref (z + 165), .ref (z + 166), .int (hpI 0), .int (hpI 0), .int (hpI 0)]) := by rw [e4, hp_at]
  have hD4 : ∀ j, 164 < j → j < 167 → E4 j = hpE z cy j (hp0 j) := fun j h1 h2 => by
    rw [e4, hp_ne (by omega)]; exact hD3 j h1 (by omega)
  refine W.vret C.1 C.2.1 hr (fun t ht _ => ⟨⟨rfl, E4, by rw [ht]; exact hP, hO4, fun j h1 h2 => ?_⟩, hS.F ht⟩) (fun q hq => hS.2.2 q hq) dX3_init_20 hk
  rcases Nat.lt_or_ge 164 j with h | h
  · exact hD4 j h h2
  · obtain rfl : j = 164 := by omega
    exact hp4_164.trans eo_164.symm
abbrev rK1 : Room := { frames := 1, cells := 5, slots := 60, locals := 20 }
set_option maxHeartbeats 4000000 in
set_option maxRecDepth 20000 in
theorem kX1_3 (l : Launch) (D : va_G) (cy : Nat → ClassId) (z : Nat) (E0 : Nat → va_E) (hE0 : E0 3 = .inr (1, [.null, .null, .null, .null, .null, .int (hpI 0), .int (hpI 0), .int (hpI 0), .int (hpI 0), .int (hpI 0), .int (hpI 0), .int (hpI 0), .int (hpI 0)])) : hpK l D cy z yX1_init cX1_init 1 rK1 3 6 5 60 E0 := by
  refine hp_metX rfl (Nat.le_of_ble_eq_true rfl) (fun p e s m below meth c ls C A hr hk hnm h0 hl hP hS => ?_)
  have hO0 : ∀ j, j < 3 → E0 j = E0 j := fun _ _ => rfl
  have hD0 : ∀ j, 3 < j → j < 4 → E0 j = hpE z cy j (hp0 j) := fun j h1 h2 => by omega
  refine lv_aload_n C.1 C.2.1 dX1_init_0 rfl (lv_at hl 0 rfl) ?_
  refine W.objInit C.1 C.2.1 C.2.2.2.1 (C.2.2.2.2.1 _ wd_63) (C.2.2.2.2.1 _ wd_24) (C.2.2.2.2.1 _ wd_25) rfl (by rw [C.2.2.1]; exact hl.1) rfl dX1_init_1 (Nat.le_of_ble_eq_true rfl) (Nat.le_of_ble_eq_true rfl) ?_
  refine lv_aload_n C.1 C.2.1 dX1_init_4 rfl (lv_at hl 0 rfl) ?_
  refine lv_bipush (v := hpI 8) C.1 C.2.1 dX1_init_5 (by decide) ?_
  refine n_size (n := 4) h0 rfl hS hP (fun hsz => ?_)
  refine n_newa (atype := .int) (ci := 11) (t0 := 1) (a0 := (8, .inl (fun i => hpI (hp0 4 i)))) C wd_135 rfl rfl (fun U h => h) (az_4) rfl (by decide) (Nat.le_of_ble_eq_true rfl) hP hS hsz (Nat.le_of_ble_eq_true rfl) (Nat.le_of_ble_eq_true rfl) dX1_init_7 (fun H hP hS => ?_)
  obtain ⟨E1, e1⟩ : ∃ F, F = va_up E0 4 (.inl (cy 11, 8, .inl (fun i => hpI (hp0 4 i)))) := ⟨_, rfl⟩
  rw [← e1] at hP
  have hO1 : ∀ j, j < 3 → E1 j = E0 j := fun j h => by rw [e1]; exact (hp_ne (by omega)).trans (hO0 j h)
  have hp1_3 : E1 3 = .inr (1, [.null, .null, .null, .null, .null, .int (hpI 0), .int (hpI 0), .int (hpI 0), .int (hpI 0), .int (hpI 0), .int (hpI 0), .int (hpI 0), .int (hpI 0)]) := by rw [e1, hp_ne (by decide)]; exact hE0
  have hD1 : ∀ j, 3 < j → j < 5 → E1 j = hpE z cy j (hp0 j) := fun j h1 h2 => by
    rcases Nat.lt_or_ge j 4 with h | h
    · rw [e1, hp_ne (by omega)]; exact hD0 j h1 h
    · obtain rfl : j = 4 := by omega
      rw [e1, hp_at, ea_4]
  refine n_putF (fs' := [.ref (z + 4), .null, .null, .null, .null, .int (hpI 0), .int (hpI 0), .int (hpI 0), .int (hpI 0), .int (hpI 0), .int (hpI 0), .int (hpI 0), .int (hpI 0)]) C O1 0 (by decide) hp1_3 (by decide) rfl hnm rfl wd_64 rfl rfl (Nat.le_of_ble_eq_true rfl) rfl hP hS dX1_init_9 (fun H locs hP hS => ?_)
  obtain ⟨E2, e2⟩ : ∃ F, F = va_up E1 3 (.inr (1, [.ref (z + 4), .null, .null, .null, .null, .int (hpI 0), .int (hpI 0), .int (hpI 0), .int (hpI 0), .int (hpI 0), .int (hpI 0), .int (hpI 0), .int (hpI 0)])) := ⟨_, rfl⟩
  rw [← e2] at hP
  have hO2 : ∀ j, j < 3 → E2 j = E0 j := fun j h => by rw [e2]; exact (hp_ne (by omega)).trans (hO1 j h)
  have hp2_3 : E2 3 = .inr (1, [.ref (z + 4), .null, .null, .null, .null, .int (hpI 0), .int (hpI 0), .int (hpI 0), .int (hpI 0), .int (hpI 0), .int (hpI 0), .int (hpI 0), .int (hpI 0)]) := by rw [e2, hp_at]
  have hD2 : ∀ j, 3 < j → j < 5 → E2 j = hpE z cy j (hp0 j) := fun j h1 h2 => by
    rw [e2, hp_ne (by omega)]; exact hD1 j h1 (by omega)
  refine lv_aload_n C.1 C.2.1 dX1_init_12 rfl (lv_at hl 0 rfl) ?_
  refine lv_bipush (v := hpI 6) C.1 C.2.1 dX1_init_13 (by decide) ?_
  refine n_size (n := 5) h0 rfl hS hP (fun hsz => ?_)
  refine n_newa (atype := .int) (ci := 11) (t0 := 1) (a0 := (6, .inl (fun i => hpI (hp0 5 i)))) C wd_135 rfl rfl (fun U h => h) (az_5) rfl (by decide) (Nat.le_of_ble_eq_true rfl) hP hS hsz (Nat.le_of_ble_eq_true rfl) (Nat.le_of_ble_eq_true rfl) dX1_init_15 (fun H hP hS => ?_)
  obtain ⟨E3, e3⟩ : ∃ F, F = va_up E2 5 (.inl (cy 11, 6, .inl (fun i => hpI (hp0 5 i)))) := ⟨_, rfl⟩
  rw [← e3] at hP
  have hO3 : ∀ j, j < 3 → E3 j = E0 j := fun j h => by rw [e3]; exact (hp_ne (by omega)).trans (hO2 j h)
  have hp3_3 : E3 3 = .inr (1, [.ref (z + 4), .null, .null, .null, .null, .int (hpI 0), .int (hpI 0), .int (hpI 0), .int (hpI 0), .int (hpI 0), .int (hpI 0), .int (hpI 0), .int (hpI 0)]) := by rw [e3, hp_ne (by decide)]; exact hp2_3
  have hD3 : ∀ j, 3 < j → j < 6 → E3 j = hpE z cy j (hp0 j) := fun j h1 h2 => by
    rcases Nat.lt_or_ge j 5 with h | h
    · rw [e3, hp_ne (by omega)]; exact hD2 j h1 h
    · obtain rfl : j = 5 := by omega
      rw [e3, hp_at, ea_5]
  refine n_putF (fs' := [.ref (z + 4), .ref (z + 5), .null, .null, .null, .int (hpI 0), .int (hpI 0), .int (hpI 0), .int (hpI 0), .int (hpI 0), .int (hpI 0), .int (hpI 0), .int (hpI 0)]) C O1 1 (by decide) hp3_3 (by decide) rfl hnm rfl wd_68 rfl rfl (Nat.le_of_ble_eq_true rfl) rfl hP hS dX1_init_17 (fun H locs hP hS => ?_)
  obtain ⟨E4, e4⟩ : ∃ F, F = va_up E3 3 (.inr (1, [.ref (z + 4), .ref (z + 5), .null, .null, .null, .int (hpI 0), .int (hpI 0), .int (hpI 0), .int (hpI 0), .int (hpI 0), .int (hpI 0), .int (hpI 0), .int (hpI 0)])) := ⟨_, rfl⟩
  rw [← e4] at hP
  have hO4 : ∀ j, j < 3 → E4 j = E0 j := fun j h => by rw [e4]; exact (hp_ne (by omega)).trans (hO3 j h)
  have hp4_3 : E4 3 = .inr (1, [.ref (z + 4), .ref (z + 5), .null, .null, .null, .int (hpI 0), .int (hpI 0), .int (hpI 0), .int (hpI 0), .int (hpI 0), .int (hpI 0), .int (hpI 0), .int (hpI 0)]) := by rw [e4, hp_at]
  have hD4 : ∀ j, 3 < j → j < 6 → E4 j = hpE z cy j (hp0 j) := fun j h1 h2 => by
    rw [e4, hp_ne (by omega)]; exact hD3 j h1 (by omega)
  refine lv_aload_n C.1 C.2.1 dX1_init_20 rfl (lv_at hl 0 rfl) ?_
  refine lv_bipush (v := hpI 6) C.1 C.2.1 dX1_init_21 (by decide) ?_
  refine n_size (n := 6) h0 rfl hS hP (fun hsz => ?_)
  refine n_newa (atype := .int) (ci := 11) (t0 := 1) (a0 := (6, .inl (fun i => hpI (hp0 6 i)))) C wd_135 rfl rfl (fun U h => h) (az_6) rfl (by decide) (Nat.le_of_ble_eq_true rfl) hP hS hsz (Nat.le_of_ble_eq_true rfl) (Nat.le_of_ble_eq_true rfl) dX1_init_23 (fun H hP hS => ?_)
  obtain ⟨E5, e5⟩ : ∃ F, F = va_up E4 6 (.inl (cy 11, 6, .inl (fun i => hpI (hp0 6 i)))) := ⟨_, rfl⟩
  rw [← e5] at hP
  have hO5 : ∀ j, j < 3 → E5 j = E0 j := fun j h => by rw [e5]; exact (hp_ne (by omega)).trans (hO4 j h)
  have hp5_3 : E5 3 = .inr (1, [.ref (z + 4), .ref (z + 5), .null, .null, .null, .int (hpI 0), .int (hpI 0), .int (hpI 0), .int (hpI 0), .int (hpI 0), .int (hpI 0), .int (hpI 0), .int (hpI 0)]) := by rw [e5, hp_ne (by decide)]; exact hp4_3
  have hD5 : ∀ j, 3 < j → j < 7 → E5 j = hpE z cy j (hp0 j) := fun j h1 h2 => by
    rcases Nat.lt_or_ge j 6 with h | h
    · rw [e5, hp_ne (by omega)]; exact hD4 j h1 h
    · obtain rfl : j = 6 := by omega
      rw [e5, hp_at, ea_6]
  refine n_putF (fs' := [.ref (z + 4), .ref (z + 5), .ref (z + 6), .null, .null, .int (hpI 0), .int (hpI 0), .int (hpI 0), .int (hpI 0), .int (hpI 0), .int (hpI 0), .int (hpI 0), .int (hpI 0)]) C O1 2 (by decide) hp5_3 (by decide) rfl hnm rfl wd_72 rfl rfl (Nat.le_of_ble_eq_true rfl) rfl hP hS dX1_init_25 (fun H locs hP hS => ?_)
  obtain ⟨E6, e6⟩ : ∃ F, F = va_up E5 3 (.inr (1, [.ref (z + 4), .ref (z + 5), .ref (z + 6), .null, .null, .int (hpI 0), .int (hpI 0), .int (hpI 0), .int (hpI 0), .int (hpI 0), .int (hpI 0), .int (hpI 0), .int (hpI 0)])) := ⟨_, rfl⟩
  rw [← e6] at hP
  have hO6 : ∀ j, j < 3 → E6 j = E0 j := fun j h => by rw [e6]; exact (hp_ne (by omega)).trans (hO5 j h)
  have hp6_3 : E6 3 = .inr (1, [.ref (z + 4), .ref (z + 5), .ref (z + 6), .null, .null, .int (hpI 0), .int (hpI 0), .int (hpI 0), .int (hpI 0), .int (hpI 0), .int (hpI 0), .int (hpI 0), .int (hpI 0)]) := by rw [e6, hp_at]
  have hD6 : ∀ j, 3 < j → j < 7 → E6 j = hpE z cy j (hp0 j) := fun j h1 h2 => by
    rw [e6, hp_ne (by omega)]; exact hD5 j h1 (by omega)
  refine lv_aload_n C.1 C.2.1 dX1_init_28 rfl (lv_at hl 0 rfl) ?_
  refine lv_bipush (v := hpI 20) C.1 C.2.1 dX1_init_29 (by decide) ?_
  refine n_size (n := 7) h0 rfl hS hP (fun hsz => ?_)
  refine n_newa (atype := .int) (ci := 11) (t0 := 1) (a0 := (20, .inl (fun i => hpI (hp0 7 i)))) C wd_135 rfl rfl (fun U h => h) (az_7) rfl (by decide) (Nat.le_of_ble_eq_true rfl) hP hS hsz (Nat.le_of_ble_eq_true rfl) (Nat.le_of_ble_eq_true rfl) dX1_init_31 (fun H hP hS => ?_)
  obtain ⟨E7, e7⟩ : ∃ F, F = va_up E6 7 (.inl (cy 11, 20, .inl (fun i => hpI (hp0 7 i)))) := ⟨_, rfl⟩
  rw [← e7] at hP
  have hO7 : ∀ j, j < 3 → E7 j = E0 j := fun j h => by rw [e7]; exact (hp_ne (by omega)).trans (hO6 j h)
  have hp7_3 : E7 3 = .inr (1, [.ref (z + 4), .ref (z + 5), .ref (z + 6), .null, .null, .int (hpI 0), .int (hpI 0), .int (hpI 0), .int (hpI 0), .int (hpI 0), .int (hpI 0), .int (hpI 0), .int (hpI 0)]) := by rw [e7, hp_ne (by decide)]; exact hp6_3
  have hD7 : ∀ j, 3 < j → j < 8 → E7 j = hpE z cy j (hp0 j) := fun j h1 h2 => by
    rcases Nat.lt_or_ge j 7 with h | h
    · rw [e7, hp_ne (by omega)]; exact hD6 j h1 h
    · obtain rfl : j = 7 := by omega
      rw [e7, hp_at, ea_7]
  refine n_putF (fs' := [.ref (z + 4), .ref (z + 5), .ref (z + 6), .ref (z + 7), .null, .int (hpI 0), .int (hpI 0), .int (hpI 0), .int (hpI 0), .int (hpI 0), .int (hpI 0), .int (hpI 0), .int (hpI 0)]) C O1 3 (by decide) hp7_3 (by decide) rfl hnm rfl wd_76 rfl rfl (Nat.le_of_ble_eq_true rfl) rfl hP hS dX1_init_33 (fun H locs hP hS => ?_)
  obtain ⟨E8, e8⟩ : ∃ F, F = va_up E7 3 (.inr (1, [.ref (z + 4), .ref (z + 5), .ref (z + 6), .ref (z + 7), .null, .int (hpI 0), .int (hpI 0), .int (hpI 0), .int (hpI 0), .int (hpI 0), .int (hpI 0), .int (hpI 0), .int (hpI 0)])) := ⟨_, rfl⟩
  rw [← e8] at hP
  have hO8 : ∀ j, j < 3 → E8 j = E0 j := fun j h => by rw [e8]; exact (hp_ne (by omega)).trans (hO7 j h)
  have hp8_3 : E8 3 = .inr (1, [.ref (z + 4), .ref (z + 5), .ref (z + 6), .ref (z + 7), .null, .int (hpI 0), .int (hpI 0), .int (hpI 0), .int (hpI 0), .int (hpI 0), .int (hpI 0), .int (hpI 0), .int (hpI 0)]) := by rw [e8, hp_at]
  have hD8 : ∀ j, 3 < j → j < 8 → E8 j = hpE z cy j (hp0 j) := fun j h1 h2 => by
    rw [e8, hp_ne (by omega)]; exact hD7 j h1 (by omega)
  refine lv_aload_n C.1 C.2.1 dX1_init_36 rfl (lv_at hl 0 rfl) ?_
  refine lv_bipush (v := hpI 20) C.1 C.2.1 dX1_init_37 (by decide) ?_
  refine n_size (n := 8) h0 rfl hS hP (fun hsz => ?_)
  refine n_newa (atype := .int) (ci := 11) (t0 := 1) (a0 := (20, .inl (fun i => hpI (hp0 8 i)))) C wd_135 rfl rfl (fun U h => h) (az_8) rfl (by decide) (Nat.le_of_ble_eq_true rfl) hP hS hsz (Nat.le_of_ble_eq_true rfl) (Nat.le_of_ble_eq_true rfl) dX1_init_39 (fun H hP hS => ?_)
  obtain ⟨E9, e9⟩ : ∃ F, F = va_up E8 8 (.inl (cy 11, 20, .inl (fun i => hpI (hp0 8 i)))) := ⟨_, rfl⟩
  rw [← e9] at hP
  have hO9 : ∀ j, j < 3 → E9 j = E0 j := fun j h => by rw [e9]; exact (hp_ne (by omega)).trans (hO8 j h)
  have hp9_3 : E9 3 = .inr (1, [.ref (z + 4), .ref (z + 5), .ref (z + 6), .ref (z + 7), .null, .int (hpI 0), .int (hpI 0), .int (hpI 0), .int (hpI 0), .int (hpI 0), .int (hpI 0), .int (hpI 0), .int (hpI 0)]) := by rw [e9, hp_ne (by decide)]; exact hp8_3
  have hD9 : ∀ j, 3 < j → j < 9 → E9 j = hpE z cy j (hp0 j) := fun j h1 h2 => by
    rcases Nat.lt_or_ge j 8 with h | h
    · rw [e9, hp_ne (by omega)]; exact hD8 j h1 h
    · obtain rfl : j = 8 := by omega
      rw [e9, hp_at, ea_8]
  refine n_putF (fs' := [.ref (z + 4), .ref (z + 5), .ref (z + 6), .ref (z + 7), .ref (z + 8), .int (hpI 0), .int (hpI 0), .int (hpI 0), .int (hpI 0), .int (hpI 0), .int (hpI 0), .int (hpI 0), .int (hpI 0)]) C O1 4 (by decide) hp9_3 (by decide) rfl hnm rfl wd_79 rfl rfl (Nat.le_of_ble_eq_true rfl) rfl hP hS dX1_init_41 (fun H locs hP hS => ?_)
  obtain ⟨E10, e10⟩ : ∃ F, F = va_up E9 3 (.inr (1, [.ref (z + 4), .ref (z + 5), .ref (z + 6), .ref (z + 7), .ref (z + 8), .int (hpI 0), .int (hpI 0), .int (hpI 0), .int (hpI 0), .int (hpI 0), .int (hpI 0), .int (hpI 0), .int (hpI 0)])) := ⟨_, rfl⟩
  rw [← e10] at hP
  have hO10 : ∀ j, j < 3 → E10 j = E0 j := fun j h => by rw [e10]; exact (hp_ne (by omega)).trans (hO9 j h)
  have hp10_3 : E10 3 = .inr (1, [.ref (z + 4), .ref (z + 5), .ref (z + 6), .ref (z + 7), .ref (z + 8), .int (hpI 0), .int (hpI 0), .int (hpI 0), .int (hpI 0), .int (hpI 0), .int (hpI 0), .int (hpI 0), .int (hpI 0)]) := by rw [e10, hp_at]
  have hD10 : ∀ j, 3 < j → j < 9 → E10 j = hpE z cy j (hp0 j) := fun j h1 h2 => by
    rw [e10, hp_ne (by omega)]; exact hD9 j h1 (by omega)
  refine W.vret C.1 C.2.1 hr (fun t ht _ => ⟨⟨rfl, E10, by rw [ht]; exact hP, hO10, fun j h1 h2 => ?_⟩, hS.F ht⟩) (fun q hq => hS.2.2 q hq) dX1_init_44 hk
  rcases Nat.lt_or_ge 3 j with h | h
  · exact hD10 j h h2
  · obtain rfl : j = 3 := by omega
    exact hp10_3.trans eo_3.symm
set_option maxHeartbeats 4000000 in
set_option maxRecDepth 20000 in
theorem kX1_9 (l : Launch) (D : va_G) (cy : Nat → ClassId) (z : Nat) (E0 : Nat → va_E) (hE0 : E0 9 = .inr (1, [.null, .null, .null, .null, .null, .int (hpI 0), .int (hpI 0), .int (hpI 0), .int (hpI 0), .int (hpI 0), .int (hpI 0), .int (hpI 0), .int (hpI 0)])) : hpK l D cy z yX1_init cX1_init 1 rK1 9 6 5 60 E0 := by
  refine hp_metX rfl (Nat.le_of_ble_eq_true rfl) (fun p e s m below meth c ls C A hr hk hnm h0 hl hP hS => ?_)
  have hO0 : ∀ j, j < 9 → E0 j = E0 j := fun _ _ => rfl
  have hD0 : ∀ j, 9 < j → j < 10 → E0 j = hpE z cy j (hp0 j) := fun j h1 h2 => by omega
  refine lv_aload_n C.1 C.2.1 dX1_init_0 rfl (lv_at hl 0 rfl) ?_
  refine W.objInit C.1 C.2.1 C.2.2.2.1 (C.2.2.2.2.1 _ wd_63) (C.2.2.2.2.1 _ wd_24) (C.2.2.2.2.1 _ wd_25) rfl (by rw [C.2.2.1]; exact hl.1) rfl dX1_init_1 (Nat.le_of_ble_eq_true rfl) (Nat.le_of_ble_eq_true rfl) ?_
  refine lv_aload_n C.1 C.2.1 dX1_init_4 rfl (lv_at hl 0 rfl) ?_
  refine lv_bipush (v := hpI 8) C.1 C.2.1 dX1_init_5 (by decide) ?_
  refine n_size (n := 10) h0 rfl hS hP (fun hsz => ?_)
  refine n_newa (atype := .int) (ci := 11) (t0 := 1) (a0 := (8, .inl (fun i => hpI (hp0 10 i)))) C wd_135 rfl rfl (fun U h => h) (az_10) rfl (by decide) (Nat.le_of_ble_eq_true rfl) hP hS hsz (Nat.le_of_ble_eq_true rfl) (Nat.le_of_ble_eq_true rfl) dX1_init_7 (fun H hP hS => ?_)
  obtain ⟨E1, e1⟩ : ∃ F, F = va_up E0 10 (.inl (cy 11, 8, .inl (fun i => hpI (hp0 10 i)))) := ⟨_, rfl⟩
  rw [← e1] at hP
  have hO1 : ∀ j, j < 9 → E1 j = E0 j := fun j h => by rw [e1]; exact (hp_ne (by omega)).trans (hO0 j h)
  have hp1_9 : E1 9 = .inr (1, [.null, .null, .null, .null, .null, .int (hpI 0), .int (hpI 0), .int (hpI 0), .int (hpI 0), .int (hpI 0), .int (hpI 0), .int (hpI 0), .int (hpI 0)]) := by rw [e1, hp_ne (by decide)]; exact hE0
  have hD1 : ∀ j, 9 < j → j < 11 → E1 j = hpE z cy j (hp0 j) := fun j h1 h2 => by
    rcases Nat.lt_or_ge j 10 with h | h
    · rw [e1, hp_ne (by omega)]; exact hD0 j h1 h
    · obtain rfl : j = 10 := by omega
      rw [e1, hp_at, ea_10]
  refine n_putF (fs' := [.ref (z + 10), .null, .null, .null, .null, .int (hpI 0), .int (hpI 0), .int (hpI 0), .int (hpI 0), .int (hpI 0), .int (hpI 0), .int (hpI 0), .int (hpI 0)]) C O1 0 (by decide) hp1_9 (by decide) rfl hnm rfl wd_64 rfl rfl (Nat.le_of_ble_eq_true rfl) rfl hP hS dX1_init_9 (fun H locs hP hS => ?_)
  obtain ⟨E2, e2⟩ : ∃ F, F = va_up E1 9 (.inr (1, [.ref (z + 10), .null, .null, .null, .null, .int (hpI 0), .int (hpI 0), .int (hpI 0), .int (hpI 0), .int (hpI 0), .int (hpI 0), .int (hpI 0), .int (hpI 0)])) := ⟨_, rfl⟩
  rw [← e2] at hP
  have hO2 : ∀ j, j < 9 → E2 j = E0 j := fun j h => by rw [e2]; exact (hp_ne (by omega)).trans (hO1 j h)
  have hp2_9 : E2 9 = .inr (1, [.ref (z + 10), .null, .null, .null, .null, .int (hpI 0), .int (hpI 0), .int (hpI 0), .int (hpI 0), .int (hpI 0), .int (hpI 0), .int (hpI 0), .int (hpI 0)]) := by rw [e2, hp_at]
  have hD2 : ∀ j, 9 < j → j < 11 → E2 j = hpE z cy j (hp0 j) := fun j h1 h2 => by
    rw [e2, hp_ne (by omega)]; exact hD1 j h1 (by omega)
  refine lv_aload_n C.1 C.2.1 dX1_init_12 rfl (lv_at hl 0 rfl) ?_
  refine lv_bipush (v := hpI 6) C.1 C.2.1 dX1_init_13 (by decide) ?_
  refine n_size (n := 11) h0 rfl hS hP (fun hsz => ?_)
  refine n_newa (atype := .int) (ci := 11) (t0 := 1) (a0 := (6, .inl (fun i => hpI (hp0 11 i)))) C wd_135 rfl rfl (fun U h => h) (az_11) rfl (by decide) (Nat.le_of_ble_eq_true rfl) hP hS hsz (Nat.le_of_ble_eq_true rfl) (Nat.le_of_ble_eq_true rfl) dX1_init_15 (fun H hP hS => ?_)
  obtain ⟨E3, e3⟩ : ∃ F, F = va_up E2 11 (.inl (cy 11, 6, .inl (fun i => hpI (hp0 11 i)))) := ⟨_, rfl⟩
  rw [← e3] at hP
  have hO3 : ∀ j, j < 9 → E3 j = E0 j := fun j h => by rw [e3]; exact (hp_ne (by omega)).trans (hO2 j h)
  have hp3_9 : E3 9 = .inr (1, [.ref (z + 10), .null, .null, .null, .null, .int (hpI 0), .int (hpI 0), .int (hpI 0), .int (hpI 0), .int (hpI 0), .int (hpI 0), .int (hpI 0), .int (hpI 0)]) := by rw [e3, hp_ne (by decide)]; exact hp2_9
  have hD3 : ∀ j, 9 < j → j < 12 → E3 j = hpE z cy j (hp0 j) := fun j h1 h2 => by
    rcases Nat.lt_or_ge j 11 with h | h
    · rw [e3, hp_ne (by omega)]; exact hD2 j h1 h
    · obtain rfl : j = 11 := by omega
      rw [e3, hp_at, ea_11]
  refine n_putF (fs' := [.ref (z + 10), .ref (z + 11), .null, .null, .null, .int (hpI 0), .int (hpI 0), .int (hpI 0), .int (hpI 0), .int (hpI 0), .int (hpI 0), .int (hpI 0), .int (hpI 0)]) C O1 1 (by decide) hp3_9 (by decide) rfl hnm rfl wd_68 rfl rfl (Nat.le_of_ble_eq_true rfl) rfl hP hS dX1_init_17 (fun H locs hP hS => ?_)
  obtain ⟨E4, e4⟩ : ∃ F, F = va_up E3 9 (.inr (1, [.ref (z + 10), .ref (z + 11), .null, .null, .null, .int (hpI 0), .int (hpI 0), .int (hpI 0), .int (hpI 0), .int (hpI 0), .int (hpI 0), .int (hpI 0), .int (hpI 0)])) := ⟨_, rfl⟩
  rw [← e4] at hP
  have hO4 : ∀ j, j < 9 → E4 j = E0 j := fun j h => by rw [e4]; exact (hp_ne (by omega)).trans (hO3 j h)
  have hp4_9 : E4 9 = .inr (1, [.ref (z + 10), .ref (z + 11), .null, .null, .null, .int (hpI 0), .int (hpI 0), .int (hpI 0), .int (hpI 0), .int (hpI 0), .int (hpI 0), .int (hpI 0), .int (hpI 0)]) := by rw [e4, hp_at]
  have hD4 : ∀ j, 9 < j → j < 12 → E4 j = hpE z cy j (hp0 j) := fun j h1 h2 => by
    rw [e4, hp_ne (by omega)]; exact hD3 j h1 (by omega)
  refine lv_aload_n C.1 C.2.1 dX1_init_20 rfl (lv_at hl 0 rfl) ?_
  refine lv_bipush (v := hpI 6) C.1 C.2.1 dX1_init_21 (by decide) ?_
  refine n_size (n := 12) h0 rfl hS hP (fun hsz => ?_)
  refine n_newa (atype := .int) (ci := 11) (t0 := 1) (a0 := (6, .inl (fun i => hpI (hp0 12 i)))) C wd_135 rfl rfl (fun U h => h) (az_12) rfl (by decide) (Nat.le_of_ble_eq_true rfl) hP hS hsz (Nat.le_of_ble_eq_true rfl) (Nat.le_of_ble_eq_true rfl) dX1_init_23 (fun H hP hS => ?_)
  obtain ⟨E5, e5⟩ : ∃ F, F = va_up E4 12 (.inl (cy 11, 6, .inl (fun i => hpI (hp0 12 i)))) := ⟨_, rfl⟩
  rw [← e5] at hP
  have hO5 : ∀ j, j < 9 → E5 j = E0 j := fun j h => by rw [e5]; exact (hp_ne (by omega)).trans (hO4 j h)
  have hp5_9 : E5 9 = .inr (1, [.ref (z + 10), .ref (z + 11), .null, .null, .null, .int (hpI 0), .int (hpI 0), .int (hpI 0), .int (hpI 0), .int (hpI 0), .int (hpI 0), .int (hpI 0), .int (hpI 0)]) := by rw [e5, hp_ne (by decide)]; exact hp4_9
  have hD5 : ∀ j, 9 < j → j < 13 → E5 j = hpE z cy j (hp0 j) := fun j h1 h2 => by
    rcases Nat.lt_or_ge j 12 with h | h
    · rw [e5, hp_ne (by omega)]; exact hD4 j h1 h
    · obtain rfl : j = 12 := by omega
      rw [e5, hp_at, ea_12]
  refine n_putF (fs' := [.ref (z + 10), .ref (z + 11), .ref (z + 12), .null, .null, .int (hpI 0), .int (hpI 0), .int (hpI 0), .int (hpI 0), .int (hpI 0), .int (hpI 0), .int (hpI 0), .int (hpI 0)]) C O1 2 (by decide) hp5_9 (by decide) rfl hnm rfl wd_72 rfl rfl (Nat.le_of_ble_eq_true rfl) rfl hP hS dX1_init_25 (fun H locs hP hS => ?_)
  obtain ⟨E6, e6⟩ : ∃ F, F = va_up E5 9 (.inr (1, [.ref (z + 10), .ref (z + 11), .ref (z + 12), .null, .null, .int (hpI 0), .int (hpI 0), .int (hpI 0), .int (hpI 0), .int (hpI 0), .int (hpI 0), .int (hpI 0), .int (hpI 0)])) := ⟨_, rfl⟩
  rw [← e6] at hP
  have hO6 : ∀ j, j < 9 → E6 j = E0 j := fun j h => by rw [e6]; exact (hp_ne (by omega)).trans (hO5 j h)
  have hp6_9 : E6 9 = .inr (1, [.ref (z + 10), .ref (z + 11), .ref (z + 12), .null, .null, .int (hpI 0), .int (hpI 0), .int (hpI 0), .int (hpI 0), .int (hpI 0), .int (hpI 0), .int (hpI 0), .int (hpI 0)]) := by rw [e6, hp_at]
  have hD6 : ∀ j, 9 < j → j < 13 → E6 j = hpE z cy j (hp0 j) := fun j h1 h2 => by
    rw [e6, hp_ne (by omega)]; exact hD5 j h1 (by omega)
  refine lv_aload_n C.1 C.2.1 dX1_init_28 rfl (lv_at hl 0 rfl) ?_
  refine lv_bipush (v := hpI 20) C.1 C.2.1 dX1_init_29 (by decide) ?_
  refine n_size (n := 13) h0 rfl hS hP (fun hsz => ?_)
  refine n_newa (atype := .int) (ci := 11) (t0 := 1) (a0 := (20, .inl (fun i => hpI (hp0 13 i)))) C wd_135 rfl rfl (fun U h => h) (az_13) rfl (by decide) (Nat.le_of_ble_eq_true rfl) hP hS hsz (Nat.le_of_ble_eq_true rfl) (Nat.le_of_ble_eq_true rfl) dX1_init_31 (fun H hP hS => ?_)
  obtain ⟨E7, e7⟩ : ∃ F, F = va_up E6 13 (.inl (cy 11, 20, .inl (fun i => hpI (hp0 13 i)))) := ⟨_, rfl⟩
  rw [← e7] at hP
  have hO7 : ∀ j, j < 9 → E7 j = E0 j := fun j h => by rw [e7]; exact (hp_ne (by omega)).trans (hO6 j h)
  have hp7_9 : E7 9 = .inr (1, [.ref (z + 10), .ref (z + 11), .ref (z + 12), .null, .null, .int (hpI 0), .int (hpI 0), .int (hpI 0), .int (hpI 0), .int (hpI 0), .int (hpI 0), .int (hpI 0), .int (hpI 0)]) := by rw [e7, hp_ne (by decide)]; exact hp6_9
  have hD7 : ∀ j, 9 < j → j < 14 → E7 j = hpE z cy j (hp0 j) := fun j h1 h2 => by
    rcases Nat.lt_or_ge j 13 with h | h
    · rw [e7, hp_ne (by omega)]; exact hD6 j h1 h
    · obtain rfl : j = 13 := by omega
      rw [e7, hp_at, ea_13]
  refine n_putF (fs' := [.ref (z + 10), .ref (z + 11), .ref (z + 12), .ref (z + 13), .null, .int (hpI 0), .int (hpI 0), .int (hpI 0), .int (hpI 0), .int (hpI 0), .int (hpI 0), .int (hpI 0), .int (hpI 0)]) C O1 3 (by decide) hp7_9 (by decide) rfl hnm rfl wd_76 rfl rfl (Nat.le_of_ble_eq_true rfl) rfl hP hS dX1_init_33 (fun H locs hP hS => ?_)
  obtain ⟨E8, e8⟩ : ∃ F, F = va_up E7 9 (.inr (1, [.ref (z + 10), .ref (z + 11), .ref (z + 12), .ref (z + 13), .null, .int (hpI 0), .int (hpI 0), .int (hpI 0), .int (hpI 0), .int (hpI 0), .int (hpI 0), .int (hpI 0), .int (hpI 0)])) := ⟨_, rfl⟩
  rw [← e8] at hP
  have hO8 : ∀ j, j < 9 → E8 j = E0 j := fun j h => by rw [e8]; exact (hp_ne (by omega)).trans (hO7 j h)
  have hp8_9 : E8 9 = .inr (1, [.ref (z + 10), .ref (z + 11), .ref (z + 12), .ref (z + 13), .null, .int (hpI 0), .int (hpI 0), .int (hpI 0), .int (hpI 0), .int (hpI 0), .int (hpI 0), .int (hpI 0), .int (hpI 0)]) := by rw [e8, hp_at]
  have hD8 : ∀ j, 9 < j → j < 14 → E8 j = hpE z cy j (hp0 j) := fun j h1 h2 => by
    rw [e8, hp_ne (by omega)]; exact hD7 j h1 (by omega)
  refine lv_aload_n C.1 C.2.1 dX1_init_36 rfl (lv_at hl 0 rfl) ?_
  refine lv_bipush (v := hpI 20) C.1 C.2.1 dX1_init_37 (by decide) ?_
  refine n_size (n := 14) h0 rfl hS hP (fun hsz => ?_)
  refine n_newa (atype := .int) (ci := 11) (t0 := 1) (a0 := (20, .inl (fun i => hpI (hp0 14 i)))) C wd_135 rfl rfl (fun U h => h) (az_14) rfl (by decide) (Nat.le_of_ble_eq_true rfl) hP hS hsz (Nat.le_of_ble_eq_true rfl) (Nat.le_of_ble_eq_true rfl) dX1_init_39 (fun H hP hS => ?_)
  obtain ⟨E9, e9⟩ : ∃ F, F = va_up E8 14 (.inl (cy 11, 20, .inl (fun i => hpI (hp0 14 i)))) := ⟨_, rfl⟩
  rw [← e9] at hP
  have hO9 : ∀ j, j < 9 → E9 j = E0 j := fun j h => by rw [e9]; exact (hp_ne (by omega)).trans (hO8 j h)
  have hp9_9 : E9 9 = .inr (1, [.ref (z + 10), .ref (z + 11), .ref (z + 12), .ref (z + 13), .null, .int (hpI 0), .int (hpI 0), .int (hpI 0), .int (hpI 0), .int (hpI 0), .int (hpI 0), .int (hpI 0), .int (hpI 0)]) := by rw [e9, hp_ne (by decide)]; exact hp8_9
  have hD9 : ∀ j, 9 < j → j < 15 → E9 j = hpE z cy j (hp0 j) := fun j h1 h2 => by
    rcases Nat.lt_or_ge j 14 with h | h
    · rw [e9, hp_ne (by omega)]; exact hD8 j h1 h
    · obtain rfl : j = 14 := by omega
      rw [e9, hp_at, ea_14]
  refine n_putF (fs' := [.ref (z + 10), .ref (z + 11), .ref (z + 12), .ref (z + 13), .ref (z + 14), .int (hpI 0), .int (hpI 0), .int (hpI 0), .int (hpI 0), .int (hpI 0), .int (hpI 0), .int (hpI 0), .int (hpI 0)]) C O1 4 (by decide) hp9_9 (by decide) rfl hnm rfl wd_79 rfl rfl (Nat.le_of_ble_eq_true rfl) rfl hP hS dX1_init_41 (fun H locs hP hS => ?_)
  obtain ⟨E10, e10⟩ : ∃ F, F = va_up E9 9 (.inr (1, [.ref (z + 10), .ref (z + 11), .ref (z + 12), .ref (z + 13), .ref (z + 14), .int (hpI 0), .int (hpI 0), .int (hpI 0), .int (hpI 0), .int (hpI 0), .int (hpI 0), .int (hpI 0), .int (hpI 0)])) := ⟨_, rfl⟩
  rw [← e10] at hP
  have hO10 : ∀ j, j < 9 → E10 j = E0 j := fun j h => by rw [e10]; exact (hp_ne (by omega)).trans (hO9 j h)
  have hp10_9 : E10 9 = .inr (1, [.ref (z + 10), .ref (z + 11), .ref (z + 12), .ref (z + 13), .ref (z + 14), .int (hpI 0), .int (hpI 0), .int (hpI 0), .int (hpI 0), .int (hpI 0), .int (hpI 0), .int (hpI 0), .int (hpI 0)]) := by rw [e10, hp_at]
  have hD10 : ∀ j, 9 < j → j < 15 → E10 j = hpE z cy j (hp0 j) := fun j h1 h2 => by
    rw [e10, hp_ne (by omega)]; exact hD9 j h1 (by omega)
  refine W.vret C.1 C.2.1 hr (fun t ht _ => ⟨⟨rfl, E10, by rw [ht]; exact hP, hO10, fun j h1 h2 => ?_⟩, hS.F ht⟩) (fun q hq => hS.2.2 q hq) dX1_init_44 hk
  rcases Nat.lt_or_ge 9 j with h | h
  · exact hD10 j h h2
  · obtain rfl : j = 9 := by omega
    exact hp10_9.trans eo_9.symm
set_option maxHeartbeats 4000000 in
set_option maxRecDepth 20000 in
theorem kX1_169 (l : Launch) (D : va_G) (cy : Nat → ClassId) (z : Nat) (E0 : Nat → va_E) (hE0 : E0 169 = .inr (1, [.null, .null, .null, .null, .null, .int (hpI 0), .int (hpI 0), .int (hpI 0), .int (hpI 0), .int (hpI 0), .int (hpI 0), .int (hpI 0), .int (hpI 0)])) : hpK l D cy z yX1_init cX1_init 1 rK1 169 6 5 60 E0 := by
  refine hp_metX rfl (Nat.le_of_ble_eq_true rfl) (fun p e s m below meth c ls C A hr hk hnm h0 hl hP hS => ?_)
  have hO0 : ∀ j, j < 169 → E0 j = E0 j := fun _ _ => rfl
  have hD0 : ∀ j, 169 < j → j < 170 → E0 j = hpE z cy j (hp0 j) := fun j h1 h2 => by omega
  refine lv_aload_n C.1 C.2.1 dX1_init_0 rfl (lv_at hl 0 rfl) ?_
  refine W.objInit C.1 C.2.1 C.2.2.2.1 (C.2.2.2.2.1 _ wd_63) (C.2.2.2.2.1 _ wd_24) (C.2.2.2.2.1 _ wd_25) rfl (by rw [C.2.2.1]; exact hl.1) rfl dX1_init_1 (Nat.le_of_ble_eq_true rfl) (Nat.le_of_ble_eq_true rfl) ?_
  refine lv_aload_n C.1 C.2.1 dX1_init_4 rfl (lv_at hl 0 rfl) ?_
  refine lv_bipush (v := hpI 8) C.1 C.2.1 dX1_init_5 (by decide) ?_
  refine n_size (n := 170) h0 rfl hS hP (fun hsz => ?_)
  refine n_newa (atype := .int) (ci := 11) (t0 := 1) (a0 := (8, .inl (fun i => hpI (hp0 170 i)))) C wd_135 rfl rfl (fun U h => h) (az_170) rfl (by decide) (Nat.le_of_ble_eq_true rfl) hP hS hsz (Nat.le_of_ble_eq_true rfl) (Nat.le_of_ble_eq_true rfl) dX1_init_7 (fun H hP hS => ?_)
  obtain ⟨E1, e1⟩ : ∃ F, F = va_up E0 170 (.inl (cy 11, 8, .inl (fun i => hpI (hp0 170 i)))) := ⟨_, rfl⟩
  rw [← e1] at hP
  have hO1 : ∀ j, j < 169 → E1 j = E0 j := fun j h => by rw [e1]; exact (hp_ne (by omega)).trans (hO0 j h)
  have hp1_169 : E1 169 = .inr (1, [.null, .null, .null, .null, .null, .int (hpI 0), .int (hpI 0), .int (hpI 0), .int (hpI 0), .int (hpI 0), .int (hpI 0), .int (hpI 0), .int (hpI 0)]) := by rw [e1, hp_ne (by decide)]; exact hE0
  have hD1 : ∀ j, 169 < j → j < 171 → E1 j = hpE z cy j (hp0 j) := fun j h1 h2 => by
    rcases Nat.lt_or_ge j 170 with h | h
    · rw [e1, hp_ne (by omega)]; exact hD0 j h1 h
    · obtain rfl : j = 170 := by omega
      rw [e1, hp_at, ea_170]
  refine n_putF (fs' := [.ref (z + 170), .null, .null, .null, .null, .int (hpI 0), .int (hpI 0), .int (hpI 0), .int (hpI 0), .int (hpI 0), .int (hpI 0), .int (hpI 0), .int (hpI 0)]) C O1 0 (by decide) hp1_169 (by decide) rfl hnm rfl wd_64 rfl rfl (Nat.le_of_ble_eq_true rfl) rfl hP hS dX1_init_9 (fun H locs hP hS => ?_)
  obtain ⟨E2, e2⟩ : ∃ F, F = va_up E1 169 (.inr (1, [.ref (z + 170), .null, .null, .null, .null, .int (hpI 0), .int (hpI 0), .int (hpI 0), .int (hpI 0), .int (hpI 0), .int (hpI 0), .int (hpI 0), .int (hpI 0)])) := ⟨_, rfl⟩
  rw [← e2] at hP
  have hO2 : ∀ j, j < 169 → E2 j = E0 j := fun j h => by rw [e2]; exact (hp_ne (by omega)).trans (hO1 j h)
  have hp2_169 : E2 169 = .inr (1, [.ref (z + 170), .null, .null, .null, .null, .int (hpI 0), .int (hpI 0), .int (hpI 0), .int (hpI 0), .int (hpI 0), .int (hpI 0), .int (hpI 0), .int (hpI 0)]) := by rw [e2, hp_at]
  have hD2 : ∀ j, 169 < j → j < 171 → E2 j = hpE z cy j (hp0 j) := fun j h1 h2 => by
    rw [e2, hp_ne (by omega)]; exact hD1 j h1 (by omega)
  refine lv_aload_n C.1 C.2.1 dX1_init_12 rfl (lv_at hl 0 rfl) ?_
  refine lv_bipush (v := hpI 6) C.1 C.2.1 dX1_init_13 (by decide) ?_
  refine n_size (n := 171) h0 rfl hS hP (fun hsz => ?_)
  refine n_newa (atype := .int) (ci := 11) (t0 := 1) (a0 := (6, .inl (fun i => hpI (hp0 171 i)))) C wd_135 rfl rfl (fun U h => h) (az_171) rfl (by decide) (Nat.le_of_ble_eq_true rfl) hP hS hsz (Nat.le_of_ble_eq_true rfl) (Nat.le_of_ble_eq_true rfl) dX1_init_15 (fun H hP hS => ?_)
  obtain ⟨E3, e3⟩ : ∃ F, F = va_up E2 171 (.inl (cy 11, 6, .inl (fun i => hpI (hp0 171 i)))) := ⟨_, rfl⟩
  rw [← e3] at hP
  have hO3 : ∀ j, j < 169 → E3 j = E0 j := fun j h => by rw [e3]; exact (hp_ne (by omega)).trans (hO2 j h)
  have hp3_169 : E3 169 = .inr (1, [.ref (z + 170), .null, .null, .null, .null, .int (hpI 0), .int (hpI 0), .int (hpI 0), .int (hpI 0), .int (hpI 0), .int (hpI 0), .int (hpI 0), .int (hpI 0)]) := by rw [e3, hp_ne (by decide)]; exact hp2_169
  have hD3 : ∀ j, 169 < j → j < 172 → E3 j = hpE z cy j (hp0 j) := fun j h1 h2 => by
    rcases Nat.lt_or_ge j 171 with h | h
    · rw [e3, hp_ne (by omega)]; exact hD2 j h1 h
    · obtain rfl : j = 171 := by omega
      rw [e3, hp_at, ea_171]
  refine n_putF (fs' := [.ref (z + 170), .ref (z + 171), .null, .null, .null, .int (hpI 0), .int (hpI 0), .int (hpI 0), .int (hpI 0), .int (hpI 0), .int (hpI 0), .int (hpI 0), .int (hpI 0)]) C O1 1 (by decide) hp3_169 (by decide) rfl hnm rfl wd_68 rfl rfl (Nat.le_of_ble_eq_true rfl) rfl hP hS dX1_init_17 (fun H locs hP hS => ?_)
  obtain ⟨E4, e4⟩ : ∃ F, F = va_up E3 169 (.inr (1, [.ref (z + 170), .ref (z + 171), .null, .null, .null, .int (hpI 0), .int (hpI 0), .int (hpI 0), .int (hpI 0), .int (hpI 0), .int (hpI 0), .int (hpI 0), .int (hpI 0)])) := ⟨_, rfl⟩
  rw [← e4] at hP
  have hO4 : ∀ j, j < 169 → E4 j = E0 j := fun j h => by rw [e4]; exact (hp_ne (by omega)).trans (hO3 j h)
  have hp4_169 : E4 169 = .inr (1, [.ref (z + 170), .ref (z + 171), .null, .null, .null, .int (hpI 0), .int (hpI 0), .int (hpI 0), .int (hpI 0), .int (hpI 0), .int (hpI 0), .int (hpI 0), .int (hpI 0)]) := by rw [e4, hp_at]
  have hD4 : ∀ j, 169 < j → j < 172 → E4 j = hpE z cy j (hp0 j) := fun j h1 h2 => by
    rw [e4, hp_ne (by omega)]; exact hD3 j h1 (by omega)
  refine lv_aload_n C.1 C.2.1 dX1_init_20 rfl (lv_at hl 0 rfl) ?_
  refine lv_bipush (v := hpI 6) C.1 C.2.1 dX1_init_21 (by decide) ?_
  refine n_size (n := 172) h0 rfl hS hP (fun hsz => ?_)
  refine n_newa (atype := .int) (ci := 11) (t0 := 1) (a0 := (6, .inl (fun i => hpI (hp0 172 i)))) C wd_135 rfl rfl (fun U h => h) (az_172) rfl (by decide) (Nat.le_of_ble_eq_true rfl) hP hS hsz (Nat.le_of_ble_eq_true rfl) (Nat.le_of_ble_eq_true rfl) dX1_init_23 (fun H hP hS => ?_)
  obtain ⟨E5, e5⟩ : ∃ F, F = va_up E4 172 (.inl (cy 11, 6, .inl (fun i => hpI (hp0 172 i)))) := ⟨_, rfl⟩
  rw [← e5] at hP
  have hO5 : ∀ j, j < 169 → E5 j = E0 j := fun j h => by rw [e5]; exact (hp_ne (by omega)).trans (hO4 j h)
  have hp5_169 : E5 169 = .inr (1, [.ref (z + 170), .ref (z + 171), .null, .null, .null, .int (hpI 0), .int (hpI 0), .int (hpI 0), .int (hpI 0), .int (hpI 0), .int (hpI 0), .int (hpI 0), .int (hpI 0)]) := by rw [e5, hp_ne (by decide)]; exact hp4_169
  have hD5 : ∀ j, 169 < j → j < 173 → E5 j = hpE z cy j (hp0 j) := fun j h1 h2 => by
    rcases Nat.lt_or_ge j 172 with h | h
    · rw [e5, hp_ne (by omega)]; exact hD4 j h1 h
    · obtain rfl : j = 172 := by omega
      rw [e5, hp_at, ea_172]
  refine n_putF (fs' := [.ref (z + 170), .ref (z + 171), .ref (z + 172), .null, .null, .int (hpI 0), .int (hpI 0), .int (hpI 0), .int (hpI 0), .int (hpI 0), .int (hpI 0), .int (hpI 0), .int (hpI 0)]) C O1 2 (by decide) hp5_169 (by decide) rfl hnm rfl wd_72 rfl rfl (Nat.le_of_ble_eq_true rfl) rfl hP hS dX1_init_25 (fun H locs hP hS => ?_)
  obtain ⟨E6, e6⟩ : ∃ F, F = va_up E5 169 (.inr (1, [.ref (z + 170), .ref (z + 171), .ref (z + 172), .null, .null, .int (hpI 0), .int (hpI 0), .int (hpI 0), .int (hpI 0), .int (hpI 0), .int (hpI 0), .int (hpI 0), .int (hpI 0)])) := ⟨_, rfl⟩
  rw [← e6] at hP
  have hO6 : ∀ j, j < 169 → E6 j = E0 j := fun j h => by rw [e6]; exact (hp_ne (by omega)).trans (hO5 j h)
  have hp6_169 : E6 169 = .inr (1, [.ref (z + 170), .ref (z + 171), .ref (z + 172), .null, .null, .int (hpI 0), .int (hpI 0), .int (hpI 0), .int (hpI 0), .int (hpI 0), .int (hpI 0), .int (hpI 0), .int (hpI 0)]) := by rw [e6, hp_at]
  have hD6 : ∀ j, 169 < j → j < 173 → E6 j = hpE z cy j (hp0 j) := fun j h1 h2 => by
    rw [e6, hp_ne (by omega)]; exact hD5 j h1 (by omega)
  refine lv_aload_n C.1 C.2.1 dX1_init_28 rfl (lv_at hl 0 rfl) ?_
  refine lv_bipush (v := hpI 20) C.1 C.2.1 dX1_init_29 (by decide) ?_
  refine n_size (n := 173) h0 rfl hS hP (fun hsz => ?_)
  refine n_newa (atype := .int) (ci := 11) (t0 := 1) (a0 := (20, .inl (fun i => hpI (hp0 173 i)))) C wd_135 rfl rfl (fun U h => h) (az_173) rfl (by decide) (Nat.le_of_ble_eq_true rfl) hP hS hsz (Nat.le_of_ble_eq_true rfl) (Nat.le_of_ble_eq_true rfl) dX1_init_31 (fun H hP hS => ?_)
  obtain ⟨E7, e7⟩ : ∃ F, F = va_up E6 173 (.inl (cy 11, 20, .inl (fun i => hpI (hp0 173 i)))) := ⟨_, rfl⟩
  rw [← e7] at hP
  have hO7 : ∀ j, j < 169 → E7 j = E0 j := fun j h => by rw [e7]; exact (hp_ne (by omega)).trans (hO6 j h)
  have hp7_169 : E7 169 = .inr (1, [.ref (z + 170), .ref (z + 171), .ref (z + 172), .null, .null, .int (hpI 0), .int (hpI 0), .int (hpI 0), .int (hpI 0), .int (hpI 0), .int (hpI 0), .int (hpI 0), .int (hpI 0)]) := by rw [e7, hp_ne (by decide)]; exact hp6_169
  have hD7 : ∀ j, 169 < j → j < 174 → E7 j = hpE z cy j (hp0 j) := fun j h1 h2 => by
    rcases Nat.lt_or_ge j 173 with h | h
    · rw [e7, hp_ne (by omega)]; exact hD6 j h1 h
    · obtain rfl : j = 173 := by omega
      rw [e7, hp_at, ea_173]
  refine n_putF (fs' := [.ref (z + 170), .ref (z + 171), .ref (z + 172), .ref (z + 173), .null, .int (hpI 0), .int (hpI 0), .int (hpI 0), .int (hpI 0), .int (hpI 0), .int (hpI 0), .int (hpI 0), .int (hpI 0)]) C O1 3 (by decide) hp7_169 (by decide) rfl hnm rfl wd_76 rfl rfl (Nat.le_of_ble_eq_true rfl) rfl hP hS dX1_init_33 (fun H locs hP hS => ?_)
  obtain ⟨E8, e8⟩ : ∃ F, F = va_up E7 169 (.inr (1, [.ref (z + 170), .ref (z + 171), .ref (z + 172), .ref (z + 173), .null, .int (hpI 0), .int (hpI 0), .int (hpI 0), .int (hpI 0), .int (hpI 0), .int (hpI 0), .int (hpI 0), .int (hpI 0)])) := ⟨_, rfl⟩
  rw [← e8] at hP
  have hO8 : ∀ j, j < 169 → E8 j = E0 j := fun j h => by rw [e8]; exact (hp_ne (by omega)).trans (hO7 j h)
  have hp8_169 : E8 169 = .inr (1, [.ref (z + 170), .ref (z + 171), .ref (z + 172), .ref (z + 173), .null, .int (hpI 0), .int (hpI 0), .int (hpI 0), .int (hpI 0), .int (hpI 0), .int (hpI 0), .int (hpI 0), .int (hpI 0)]) := by rw [e8, hp_at]
  have hD8 : ∀ j, 169 < j → j < 174 → E8 j = hpE z cy j (hp0 j) := fun j h1 h2 => by
    rw [e8, hp_ne (by omega)]; exact hD7 j h1 (by omega)
  refine lv_aload_n C.1 C.2.1 dX1_init_36 rfl (lv_at hl 0 rfl) ?_
  refine lv_bipush (v := hpI 20) C.1 C.2.1 dX1_init_37 (by decide) ?_
  refine n_size (n := 174) h0 rfl hS hP (fun hsz => ?_)
  refine n_newa (atype := .int) (ci := 11) (t0 := 1) (a0 := (20, .inl (fun i => hpI (hp0 174 i)))) C wd_135 rfl rfl (fun U h => h) (az_174) rfl (by decide) (Nat.le_of_ble_eq_true rfl) hP hS hsz (Nat.le_of_ble_eq_true rfl) (Nat.le_of_ble_eq_true rfl) dX1_init_39 (fun H hP hS => ?_)
  obtain ⟨E9, e9⟩ : ∃ F, F = va_up E8 174 (.inl (cy 11, 20, .inl (fun i => hpI (hp0 174 i)))) := ⟨_, rfl⟩
  rw [← e9] at hP
  have hO9 : ∀ j, j < 169 → E9 j = E0 j := fun j h => by rw [e9]; exact (hp_ne (by omega)).trans (hO8 j h)
  have hp9_169 : E9 169 = .inr (1, [.ref (z + 170), .ref (z + 171), .ref (z + 172), .ref (z + 173), .null, .int (hpI 0), .int (hpI 0), .int (hpI 0), .int (hpI 0), .int (hpI 0), .int (hpI 0), .int (hpI 0), .int (hpI 0)]) := by rw [e9, hp_ne (by decide)]; exact hp8_169
  have hD9 : ∀ j, 169 < j → j < 175 → E9 j = hpE z cy j (hp0 j) := fun j h1 h2 => by
    rcases Nat.lt_or_ge j 174 with h | h
    · rw [e9, hp_ne (by omega)]; exact hD8 j h1 h
    · obtain rfl : j = 174 := by omega
      rw [e9, hp_at, ea_174]
  refine n_putF (fs' := [.ref (z + 170), .ref (z + 171), .ref (z + 172), .ref (z + 173), .ref (z + 174), .int (hpI 0), .int (hpI 0), .int (hpI 0), .int (hpI 0), .int (hpI 0), .int (hpI 0), .int (hpI 0), .int (hpI 0)]) C O1 4 (by decide) hp9_169 (by decide) rfl hnm rfl wd_79 rfl rfl (Nat.le_of_ble_eq_true rfl) rfl hP hS dX1_init_41 (fun H locs hP hS => ?_)
  obtain ⟨E10, e10⟩ : ∃ F, F = va_up E9 169 (.inr (1, [.ref (z + 170), .ref (z + 171), .ref (z + 172), .ref (z + 173), .ref (z + 174), .int (hpI 0), .int (hpI 0), .int (hpI 0), .int (hpI 0), .int (hpI 0), .int (hpI 0), .int (hpI 0), .int (hpI 0)])) := ⟨_, rfl⟩
  rw [← e10] at hP
  have hO10 : ∀ j, j < 169 → E10 j = E0 j := fun j h => by rw [e10]; exact (hp_ne (by omega)).trans (hO9 j h)
  have hp10_169 : E10 169 = .inr (1, [.ref (z + 170), .ref (z + 171), .ref (z + 172), .ref (z + 173), .ref (z + 174), .int (hpI 0), .int (hpI 0), .int (hpI 0), .int (hpI 0), .int (hpI 0), .int (hpI 0), .int (hpI 0), .int (hpI 0)]) := by rw [e10, hp_at]
  have hD10 : ∀ j, 169 < j → j < 175 → E10 j = hpE z cy j (hp0 j) := fun j h1 h2 => by
    rw [e10, hp_ne (by omega)]; exact hD9 j h1 (by omega)
  refine W.vret C.1 C.2.1 hr (fun t ht _ => ⟨⟨rfl, E10, by rw [ht]; exact hP, hO10, fun j h1 h2 => ?_⟩, hS.F ht⟩) (fun q hq => hS.2.2 q hq) dX1_init_44 hk
  rcases Nat.lt_or_ge 169 j with h | h
  · exact hD10 j h h2
  · obtain rfl : j = 169 := by omega
    exact hp10_169.trans eo_169.symm
set_option maxHeartbeats 4000000 in
set_option maxRecDepth 20000 in
theorem kX1_175 (l : Launch) (D : va_G) (cy : Nat → ClassId) (z : Nat) (E0 : Nat → va_E) (hE0 : E0 175 = .inr (1, [.null, .null, .null, .null, .null, .int (hpI 0), .int (hpI 0), .int (hpI 0), .int (hpI 0), .int (hpI 0), .int (hpI 0), .int (hpI 0), .int (hpI 0)])) : hpK l D cy z yX1_init cX1_init 1 rK1 175 6 5 60 E0 := by
  refine hp_metX rfl (Nat.le_of_ble_eq_true rfl) (fun p e s m below meth c ls C A hr hk hnm h0 hl hP hS => ?_)
  have hO0 : ∀ j, j < 175 → E0 j = E0 j := fun _ _ => rfl
  have hD0 : ∀ j, 175 < j → j < 176 → E0 j = hpE z cy j (hp0 j) := fun j h1 h2 => by omega
  refine lv_aload_n C.1 C.2.1 dX1_init_0 rfl (lv_at hl 0 rfl) ?_
  refine W.objInit C.1 C.2.1 C.2.2.2.1 (C.2.2.2.2.1 _ wd_63) (C.2.2.2.2.1 _ wd_24) (C.2.2.2.2.1 _ wd_25) rfl (by rw [C.2.2.1]; exact hl.1) rfl dX1_init_1 (Nat.le_of_ble_eq_true rfl) (Nat.le_of_ble_eq_true rfl) ?_
  refine lv_aload_n C.1 C.2.1 dX1_init_4 rfl (lv_at hl 0 rfl) ?_
  refine lv_bipush (v := hpI 8) C.1 C.2.1 dX1_init_5 (by decide) ?_
  refine n_size (n := 176) h0 rfl hS hP (fun hsz => ?_)
  refine n_newa (atype := .int) (ci := 11) (t0 := 1) (a0 := (8, .inl (fun i => hpI (hp0 176 i)))) C wd_135 rfl rfl (fun U h => h) (az_176) rfl (by decide) (Nat.le_of_ble_eq_true rfl) hP hS hsz (Nat.le_of_ble_eq_true rfl) (Nat.le_of_ble_eq_true rfl) dX1_init_7 (fun H hP hS => ?_)
  obtain ⟨E1, e1⟩ : ∃ F, F = va_up E0 176 (.inl (cy 11, 8, .inl (fun i => hpI (hp0 176 i)))) := ⟨_, rfl⟩
  rw [← e1] at hP
  have hO1 : ∀ j, j < 175 → E1 j = E0 j := fun j h => by rw [e1]; exact (hp_ne (by omega)).trans (hO0 j h)
  have hp1_175 : E1 175 = .inr (1, [.null, .null, .null, .null, .null, .int (hpI 0), .int (hpI 0), .int (hpI 0), .int (hpI 0), .int (hpI 0), .int (hpI 0), .int (hpI 0), .int (hpI 0)]) := by rw [e1, hp_ne (by decide)]; exact hE0
  have hD1 : ∀ j, 175 < j → j < 177 → E1 j = hpE z cy j (hp0 j) := fun j h1 h2 => by
    rcases Nat.lt_or_ge j 176 with h | h
    · rw [e1, hp_ne (by omega)]; exact hD0 j h1 h
    · obtain rfl : j = 176 := by omega
      rw [e1, hp_at, ea_176]
  refine n_putF (fs' := [.ref (z + 176), .null, .null, .null, .null, .int (hpI 0), .int (hpI 0), .int (hpI 0), .int (hpI 0), .int (hpI 0), .int (hpI 0), .int (hpI 0), .int (hpI 0)]) C O1 0 (by decide) hp1_175 (by decide) rfl hnm rfl wd_64 rfl rfl (Nat.le_of_ble_eq_true rfl) rfl hP hS dX1_init_9 (fun H locs hP hS => ?_)
  obtain ⟨E2, e2⟩ : ∃ F, F = va_up E1 175 (.inr (1, [.ref (z + 176), .null, .null, .null, .null, .int (hpI 0), .int (hpI 0), .int (hpI 0), .int (hpI 0), .int (hpI 0), .int (hpI 0), .int (hpI 0), .int (hpI 0)])) := ⟨_, rfl⟩
  rw [← e2] at hP
  have hO2 : ∀ j, j < 175 → E2 j = E0 j := fun j h => by rw [e2]; exact (hp_ne (by omega)).trans (hO1 j h)
  have hp2_175 : E2 175 = .inr (1, [.ref (z + 176), .null, .null, .null, .null, .int (hpI 0), .int (hpI 0), .int (hpI 0), .int (hpI 0), .int (hpI 0), .int (hpI 0), .int (hpI 0), .int (hpI 0)]) := by rw [e2, hp_at]
  have hD2 : ∀ j, 175 < j → j < 177 → E2 j = hpE z cy j (hp0 j) := fun j h1 h2 => by
    rw [e2, hp_ne (by omega)]; exact hD1 j h1 (by omega)
  refine lv_aload_n C.1 C.2.1 dX1_init_12 rfl (lv_at hl 0 rfl) ?_
  refine lv_bipush (v := hpI 6) C.1 C.2.1 dX1_init_13 (by decide) ?_
  refine n_size (n := 177) h0 rfl hS hP (fun hsz => ?_)
  refine n_newa (atype := .int) (ci := 11) (t0 := 1) (a0 := (6, .inl (fun i => hpI (hp0 177 i)))) C wd_135 rfl rfl (fun U h => h) (az_177) rfl (by decide) (Nat.le_of_ble_eq_true rfl) hP hS hsz (Nat.le_of_ble_eq_true rfl) (Nat.le_of_ble_eq_true rfl) dX1_init_15 (fun H hP hS => ?_)
  obtain ⟨E3, e3⟩ : ∃ F, F = va_up E2 177 (.inl (cy 11, 6, .inl (fun i => hpI (hp0 177 i)))) := ⟨_, rfl⟩
  rw [← e3] at hP
  have hO3 : ∀ j, j < 175 → E3 j = E0 j := fun j h => by rw [e3]; exact (hp_ne (by omega)).trans (hO2 j h)
  have hp3_175 : E3 175 = .inr (1, [.ref (z + 176), .null, .null, .null, .null, .int (hpI 0), .int (hpI 0), .int (hpI 0), .int (hpI 0), .int (hpI 0), .int (hpI 0), .int (hpI 0), .int (hpI 0)]) := by rw [e3, hp_ne (by decide)]; exact hp2_175
  have hD3 : ∀ j, 175 < j → j < 178 → E3 j = hpE z cy j (hp0 j) := fun j h1 h2 => by
    rcases Nat.lt_or_ge j 177 with h | h
    · rw [e3, hp_ne (by omega)]; exact hD2 j h1 h
    · obtain rfl : j = 177 := by omega
      rw [e3, hp_at, ea_177]
  refine n_putF (fs' := [.ref (z + 176), .ref (z + 177), .null, .null, .null, .int (hpI 0), .int (hpI 0), .int (hpI 0), .int (hpI 0), .int (hpI 0), .int (hpI 0), .int (hpI 0), .int (hpI 0)]) C O1 1 (by decide) hp3_175 (by decide) rfl hnm rfl wd_68 rfl rfl (Nat.le_of_ble_eq_true rfl) rfl hP hS dX1_init_17 (fun H locs hP hS => ?_)
  obtain ⟨E4, e4⟩ : ∃ F, F = va_up E3 175 (.inr (1, [.ref (z + 176), .ref (z + 177), .null, .null, .null, .int (hpI 0), .int (hpI 0), .int (hpI 0), .int (hpI 0), .int (hpI 0), .int (hpI 0), .int (hpI 0), .int (hpI 0)])) := ⟨_, rfl⟩
  rw [← e4] at hP
  have hO4 : ∀ j, j < 175 → E4 j = E0 j := fun j h => by rw [e4]; exact (hp_ne (by omega)).trans (hO3 j h)
  have hp4_175 : E4 175 = .inr (1, [.ref (z + 176), .ref (z + 177), .null, .null, .null, .int (hpI 0), .int (hpI 0), .int (hpI 0), .int (hpI 0), .int (hpI 0), .int (hpI 0), .int (hpI 0), .int (hpI 0)]) := by rw [e4, hp_at]
  have hD4 : ∀ j, 175 < j → j < 178 → E4 j = hpE z cy j (hp0 j) := fun j h1 h2 => by
    rw [e4, hp_ne (by omega)]; exact hD3 j h1 (by omega)
  refine lv_aload_n C.1 C.2.1 dX1_init_20 rfl (lv_at hl 0 rfl) ?_
  refine lv_bipush (v := hpI 6) C.1 C.2.1 dX1_init_21 (by decide) ?_
  refine n_size (n := 178) h0 rfl hS hP (fun hsz => ?_)
  refine n_newa (atype := .int) (ci := 11) (t0 := 1) (a0 := (6, .inl (fun i => hpI (hp0 178 i)))) C wd_135 rfl rfl (fun U h => h) (az_178) rfl (by decide) (Nat.le_of_ble_eq_true rfl) hP hS hsz (Nat.le_of_ble_eq_true rfl) (Nat.le_of_ble_eq_true rfl) dX1_init_23 (fun H hP hS => ?_)
  obtain ⟨E5, e5⟩ : ∃ F, F = va_up E4 178 (.inl (cy 11, 6, .inl (fun i => hpI (hp0 178 i)))) := ⟨_, rfl⟩
  rw [← e5] at hP
  have hO5 : ∀ j, j < 175 → E5 j = E0 j := fun j h => by rw [e5]; exact (hp_ne (by omega)).trans (hO4 j h)
  have hp5_175 : E5 175 = .inr (1, [.ref (z + 176), .ref (z + 177), .null, .null, .null, .int (hpI 0), .int (hpI 0), .int (hpI 0), .int (hpI 0), .int (hpI 0), .int (hpI 0), .int (hpI 0), .int (hpI 0)]) := by rw [e5, hp_ne (by decide)]; exact hp4_175
  have hD5 : ∀ j, 175 < j → j < 179 → E5 j = hpE z cy j (hp0 j) := fun j h1 h2 => by
    rcases Nat.lt_or_ge j 178 with h | h
    · rw [e5, hp_ne (by omega)]; exact hD4 j h1 h
    · obtain rfl : j = 178 := by omega
      rw [e5, hp_at, ea_178]
  refine n_putF (fs' := [.ref (z + 176), .ref (z + 177), .ref (z + 178), .null, .null, .int (hpI 0), .int (hpI 0), .int (hpI 0), .int (hpI 0), .int (hpI 0), .int (hpI 0), .int (hpI 0), .int (hpI 0)]) C O1 2 (by decide) hp5_175 (by decide) rfl hnm rfl wd_72 rfl rfl (Nat.le_of_ble_eq_true rfl) rfl hP hS dX1_init_25 (fun H locs hP hS => ?_)
  obtain ⟨E6, e6⟩ : ∃ F, F = va_up E5 175 (.inr (1, [.ref (z + 176), .ref (z + 177), .ref (z + 178), .null, .null, .int (hpI 0), .int (hpI 0), .int (hpI 0), .int (hpI 0), .int (hpI 0), .int (hpI 0), .int (hpI 0), .int (hpI 0)])) := ⟨_, rfl⟩
  rw [← e6] at hP
  have hO6 : ∀ j, j < 175 → E6 j = E0 j := fun j h => by rw [e6]; exact (hp_ne (by omega)).trans (hO5 j h)
  have hp6_175 : E6 175 = .inr (1, [.ref (z + 176), .ref (z + 177), .ref (z + 178), .null, .null, .int (hpI 0), .int (hpI 0), .int (hpI 0), .int (hpI 0), .int (hpI 0), .int (hpI 0), .int (hpI 0), .int (hpI 0)]) := by rw [e6, hp_at]
  have hD6 : ∀ j, 175 < j → j < 179 → E6 j = hpE z cy j (hp0 j) := fun j h1 h2 => by
    rw [e6, hp_ne (by omega)]; exact hD5 j h1 (by omega)
  refine lv_aload_n C.1 C.2.1 dX1_init_28 rfl (lv_at hl 0 rfl) ?_
  refine lv_bipush (v := hpI 20) C.1 C.2.1 dX1_init_29 (by decide) ?_
  refine n_size (n := 179) h0 rfl hS hP (fun hsz => ?_)
  refine n_newa (atype := .int) (ci := 11) (t0 := 1) (a0 := (20, .inl (fun i => hpI (hp0 179 i)))) C wd_135 rfl rfl (fun U h => h) (az_179) rfl (by decide) (Nat.le_of_ble_eq_true rfl) hP hS hsz (Nat.le_of_ble_eq_true rfl) (Nat.le_of_ble_eq_true rfl) dX1_init_31 (fun H hP hS => ?_)
  obtain ⟨E7, e7⟩ : ∃ F, F = va_up E6 179 (.inl (cy 11, 20, .inl (fun i => hpI (hp0 179 i)))) := ⟨_, rfl⟩
  rw [← e7] at hP
  have hO7 : ∀ j, j < 175 → E7 j = E0 j := fun j h => by rw [e7]; exact (hp_ne (by omega)).trans (hO6 j h)
  have hp7_175 : E7 175 = .inr (1, [.ref (z + 176), .ref (z + 177), .ref (z + 178), .null, .null, .int (hpI 0), .int (hpI 0), .int (hpI 0), .int (hpI 0), .int (hpI 0), .int (hpI 0), .int (hpI 0), .int (hpI 0)]) := by rw [e7, hp_ne (by decide)]; exact hp6_175
  have hD7 : ∀ j, 175 < j → j < 180 → E7 j = hpE z cy j (hp0 j) := fun j h1 h2 => by
    rcases Nat.lt_or_ge j 179 with h | h
    · rw [e7, hp_ne (by omega)]; exact hD6 j h1 h
    · obtain rfl : j = 179 := by omega
      rw [e7, hp_at, ea_179]
  refine n_putF (fs' := [.ref (z + 176), .ref (z + 177), .ref (z + 178), .ref (z + 179), .null, .int (hpI 0), .int (hpI 0), .int (hpI 0), .int (hpI 0), .int (hpI 0), .int (hpI 0), .int (hpI 0), .int (hpI 0)]) C O1 3 (by decide) hp7_175 (by decide) rfl hnm rfl wd_76 rfl rfl (Nat.le_of_ble_eq_true rfl) rfl hP hS dX1_init_33 (fun H locs hP hS => ?_)
  obtain ⟨E8, e8⟩ : ∃ F, F = va_up E7 175 (.inr (1, [.ref (z + 176), .ref (z + 177), .ref (z + 178), .ref (z + 179), .null, .int (hpI 0), .int (hpI 0), .int (hpI 0), .int (hpI 0), .int (hpI 0), .int (hpI 0), .int (hpI 0), .int (hpI 0)])) := ⟨_, rfl⟩
  rw [← e8] at hP
  have hO8 : ∀ j, j < 175 → E8 j = E0 j := fun j h => by rw [e8]; exact (hp_ne (by omega)).trans (hO7 j h)
  have hp8_175 : E8 175 = .inr (1, [.ref (z + 176), .ref (z + 177), .ref (z + 178), .ref (z + 179), .null, .int (hpI 0), .int (hpI 0), .int (hpI 0), .int (hpI 0), .int (hpI 0), .int (hpI 0), .int (hpI 0), .int (hpI 0)]) := by rw [e8, hp_at]
  have hD8 : ∀ j, 175 < j → j < 180 → E8 j = hpE z cy j (hp0 j) := fun j h1 h2 => by
    rw [e8, hp_ne (by omega)]; exact hD7 j h1 (by omega)
  refine lv_aload_n C.1 C.2.1 dX1_init_36 rfl (lv_at hl 0 rfl) ?_
  refine lv_bipush (v := hpI 20) C.1 C.2.1 dX1_init_37 (by decide) ?_
  refine n_size (n := 180) h0 rfl hS hP (fun hsz => ?_)
  refine n_newa (atype := .int) (ci := 11) (t0 := 1) (a0 := (20, .inl (fun i => hpI (hp0 180 i)))) C wd_135 rfl rfl (fun U h => h) (az_180) rfl (by decide) (Nat.le_of_ble_eq_true rfl) hP hS hsz (Nat.le_of_ble_eq_true rfl) (Nat.le_of_ble_eq_true rfl) dX1_init_39 (fun H hP hS => ?_)
  obtain ⟨E9, e9⟩ : ∃ F, F = va_up E8 180 (.inl (cy 11, 20, .inl (fun i => hpI (hp0 180 i)))) := ⟨_, rfl⟩
  rw [← e9] at hP
  have hO9 : ∀ j, j < 175 → E9 j = E0 j := fun j h => by rw [e9]; exact (hp_ne (by omega)).trans (hO8 j h)
  have hp9_175 : E9 175 = .inr (1, [.ref (z + 176), .ref (z + 177), .ref (z + 178), .ref (z + 179), .null, .int (hpI 0), .int (hpI 0), .int (hpI 0), .int (hpI 0), .int (hpI 0), .int (hpI 0), .int (hpI 0), .int (hpI 0)]) := by rw [e9, hp_ne (by decide)]; exact hp8_175
  have hD9 : ∀ j, 175 < j → j < 181 → E9 j = hpE z cy j (hp0 j) := fun j h1 h2 => by
    rcases Nat.lt_or_ge j 180 with h | h
    · rw [e9, hp_ne (by omega)]; exact hD8 j h1 h
    · obtain rfl : j = 180 := by omega
      rw [e9, hp_at, ea_180]
  refine n_putF (fs' := [.ref (z + 176), .ref (z + 177), .ref (z + 178), .ref (z + 179), .ref (z + 180), .int (hpI 0), .int (hpI 0), .int (hpI 0), .int (hpI 0), .int (hpI 0), .int (hpI 0), .int (hpI 0), .int (hpI 0)]) C O1 4 (by decide) hp9_175 (by decide) rfl hnm rfl wd_79 rfl rfl (Nat.le_of_ble_eq_true rfl) rfl hP hS dX1_init_41 (fun H locs hP hS => ?_)
  obtain ⟨E10, e10⟩ : ∃ F, F = va_up E9 175 (.inr (1, [.ref (z + 176), .ref (z + 177), .ref (z + 178), .ref (z + 179), .ref (z + 180), .int (hpI 0), .int (hpI 0), .int (hpI 0), .int (hpI 0), .int (hpI 0), .int (hpI 0), .int (hpI 0), .int (hpI 0)])) := ⟨_, rfl⟩
  rw [← e10] at hP
  have hO10 : ∀ j, j < 175 → E10 j = E0 j := fun j h => by rw [e10]; exact (hp_ne (by omega)).trans (hO9 j h)
  have hp10_175 : E10 175 = .inr (1, [.ref (z + 176), .ref (z + 177), .ref (z + 178), .ref (z + 179), .ref (z + 180), .int (hpI 0), .int (hpI 0), .int (hpI 0), .int (hpI 0), .int (hpI 0), .int (hpI 0), .int (hpI 0), .int (hpI 0)]) := by rw [e10, hp_at]
  have hD10 : ∀ j, 175 < j → j < 181 → E10 j = hpE z cy j (hp0 j) := fun j h1 h2 => by
    rw [e10, hp_ne (by omega)]; exact hD9 j h1 (by omega)
  refine W.vret C.1 C.2.1 hr (fun t ht _ => ⟨⟨rfl, E10, by rw [ht]; exact hP, hO10, fun j h1 h2 => ?_⟩, hS.F ht⟩) (fun q hq => hS.2.2 q hq) dX1_init_44 hk
  rcases Nat.lt_or_ge 175 j with h | h
  · exact hD10 j h h2
  · obtain rfl : j = 175 := by omega
    exact hp10_175.trans eo_175.symm
set_option maxHeartbeats 4000000 in
set_option maxRecDepth 20000 in
theorem kX1_181 (l : Launch) (D : va_G) (cy : Nat → ClassId) (z : Nat) (E0 : Nat → va_E) (hE0 : E0 181 = .inr (1, [.null, .null, .null, .null, .null, .int (hpI 0), .int (hpI 0), .int (hpI 0), .int (hpI 0), .int (hpI 0), .int (hpI 0), .int (hpI 0), .int (hpI 0)])) : hpK l D cy z yX1_init cX1_init 1 rK1 181 6 5 60 E0 := by
  refine hp_metX rfl (Nat.le_of_ble_eq_true rfl) (fun p e s m below meth c ls C A hr hk hnm h0 hl hP hS => ?_)
  have hO0 : ∀ j, j < 181 → E0 j = E0 j := fun _ _ => rfl
  have hD0 : ∀ j, 181 < j → j < 182 → E0 j = hpE z cy j (hp0 j) := fun j h1 h2 => by omega
  refine lv_aload_n C.1 C.2.1 dX1_init_0 rfl (lv_at hl 0 rfl) ?_
  refine W.objInit C.1 C.2.1 C.2.2.2.1 (C.2.2.2.2.1 _ wd_63) (C.2.2.2.2.1 _ wd_24) (C.2.2.2.2.1 _ wd_25) rfl (by rw [C.2.2.1]; exact hl.1) rfl dX1_init_1 (Nat.le_of_ble_eq_true rfl) (Nat.le_of_ble_eq_true rfl) ?_
  refine lv_aload_n C.1 C.2.1 dX1_init_4 rfl (lv_at hl 0 rfl) ?_
  refine lv_bipush (v := hpI 8) C.1 C.2.1 dX1_init_5 (by decide) ?_
  refine n_size (n := 182) h0 rfl hS hP (fun hsz => ?_)
  refine n_newa (atype := .int) (ci := 11) (t0 := 1) (a0 := (8, .inl (fun i => hpI (hp0 182 i)))) C wd_135 rfl rfl (fun U h => h) (az_182) rfl (by decide) (Nat.le_of_ble_eq_true rfl) hP hS hsz (Nat.le_of_ble_eq_true rfl) (Nat.le_of_ble_eq_true rfl) dX1_init_7 (fun H hP hS => ?_)
  obtain ⟨E1, e1⟩ : ∃ F, F = va_up E0 182 (.inl (cy 11, 8, .inl (fun i => hpI (hp0 182 i)))) := ⟨_, rfl⟩
  rw [← e1] at hP
  have hO1 : ∀ j, j < 181 → E1 j = E0 j := fun j h => by rw [e1]; exact (hp_ne (by omega)).trans (hO0 j h)
  have hp1_181 : E1 181 = .inr (1, [.null, .null, .null, .null, .null, .int (hpI 0), .int (hpI 0), .int (hpI 0), .int (hpI 0), .int (hpI 0), .int (hpI 0), .int (hpI 0), .int (hpI 0)]) := by rw [e1, hp_ne (by decide)]; exact hE0
  have hD1 : ∀ j, 181 < j → j < 183 → E1 j = hpE z cy j (hp0 j) := fun j h1 h2 => by
    rcases Nat.lt_or_ge j 182 with h | h
    · rw [e1, hp_ne (by omega)]; exact hD0 j h1 h
    · obtain rfl : j = 182 := by omega
      rw [e1, hp_at, ea_182]
  refine n_putF (fs' := [.ref (z + 182), .null, .null, .null, .null, .int (hpI 0), .int (hpI 0), .int (hpI 0), .int (hpI 0), .int (hpI 0), .int (hpI 0), .int (hpI 0), .int (hpI 0)]) C O1 0 (by decide) hp1_181 (by decide) rfl hnm rfl wd_64 rfl rfl (Nat.le_of_ble_eq_true rfl) rfl hP hS dX1_init_9 (fun H locs hP hS => ?_)
  obtain ⟨E2, e2⟩ : ∃ F, F = va_up E1 181 (.inr (1, [.ref (z + 182), .null, .null, .null, .null, .int (hpI 0), .int (hpI 0), .int (hpI 0), .int (hpI 0), .int (hpI 0), .int (hpI 0), .int (hpI 0), .int (hpI 0)])) := ⟨_, rfl⟩
  rw [← e2] at hP
  have hO2 : ∀ j, j < 181 → E2 j = E0 j := fun j h => by rw [e2]; exact (hp_ne (by omega)).trans (hO1 j h)
  have hp2_181 : E2 181 = .inr (1, [.ref (z + 182), .null, .null, .null, .null, .int (hpI 0), .int (hpI 0), .int (hpI 0), .int (hpI 0), .int (hpI 0), .int (hpI 0), .int (hpI 0), .int (hpI 0)]) := by rw [e2, hp_at]
  have hD2 : ∀ j, 181 < j → j < 183 → E2 j = hpE z cy j (hp0 j) := fun j h1 h2 => by
    rw [e2, hp_ne (by omega)]; exact hD1 j h1 (by omega)
  refine lv_aload_n C.1 C.2.1 dX1_init_12 rfl (lv_at hl 0 rfl) ?_
  refine lv_bipush (v := hpI 6) C.1 C.2.1 dX1_init_13 (by decide) ?_
  refine n_size (n := 183) h0 rfl hS hP (fun hsz => ?_)
  refine n_newa (atype := .int) (ci := 11) (t0 := 1) (a0 := (6, .inl (fun i => hpI (hp0 183 i)))) C wd_135 rfl rfl (fun U h => h) (az_183) rfl (by decide) (Nat.le_of_ble_eq_true rfl) hP hS hsz (Nat.le_of_ble_eq_true rfl) (Nat.le_of_ble_eq_true rfl) dX1_init_15 (fun H hP hS => ?_)
  obtain ⟨E3, e3⟩ : ∃ F, F = va_up E2 183 (.inl (cy 11, 6, .inl (fun i => hpI (hp0 183 i)))) := ⟨_, rfl⟩
  rw [← e3] at hP
  have hO3 : ∀ j, j < 181 → E3 j = E0 j := fun j h => by rw [e3]; exact (hp_ne (by omega)).trans (hO2 j h)
  have hp3_181 : E3 181 = .inr (1, [.ref (z + 182), .null, .null, .null, .null, .int (hpI 0), .int (hpI 0), .int (hpI 0), .int (hpI 0), .int (hpI 0), .int (hpI 0), .int (hpI 0), .int (hpI 0)]) := by rw [e3, hp_ne (by decide)]; exact hp2_181
  have hD3 : ∀ j, 181 < j → j < 184 → E3 j = hpE z cy j (hp0 j) := fun j h1 h2 => by
    rcases Nat.lt_or_ge j 183 with h | h
    · rw [e3, hp_ne (by omega)]; exact hD2 j h1 h
    · obtain rfl : j = 183 := by omega
      rw [e3, hp_at, ea_183]
  refine n_putF (fs' := [.ref (z + 182), .ref (z + 183), .null, .null, .null, .int (hpI 0), .int (hpI 0), .int (hpI 0), .int (hpI 0), .int (hpI 0), .int (hpI 0), .int (hpI 0), .int (hpI 0)]) C O1 1 (by decide) hp3_181 (by decide) rfl hnm rfl wd_68 rfl rfl (Nat.le_of_ble_eq_true rfl) rfl hP hS dX1_init_17 (fun H locs hP hS => ?_)
  obtain ⟨E4, e4⟩ : ∃ F, F = va_up E3 181 (.inr (1, [.ref (z + 182), .ref (z + 183), .null, .null, .null, .int (hpI 0), .int (hpI 0), .int (hpI 0), .int (hpI 0), .int (hpI 0), .int (hpI 0), .int (hpI 0), .int (hpI 0)])) := ⟨_, rfl⟩
  rw [← e4] at hP
  have hO4 : ∀ j, j < 181 → E4 j = E0 j := fun j h => by rw [e4]; exact (hp_ne (by omega)).trans (hO3 j h)
  have hp4_181 : E4 181 = .inr (1, [.ref (z + 182), .ref (z + 183), .null, .null, .null, .int (hpI 0), .int (hpI 0), .int (hpI 0), .int (hpI 0), .int (hpI 0), .int (hpI 0), .int (hpI 0), .int (hpI 0)]) := by rw [e4, hp_at]
  have hD4 : ∀ j, 181 < j → j < 184 → E4 j = hpE z cy j (hp0 j) := fun j h1 h2 => by
    rw [e4, hp_ne (by omega)]; exact hD3 j h1 (by omega)
  refine lv_aload_n C.1 C.2.1 dX1_init_20 rfl (lv_at hl 0 rfl) ?_
  refine lv_bipush (v := hpI 6) C.1 C.2.1 dX1_init_21 (by decide) ?_
  refine n_size (n := 184) h0 rfl hS hP (fun hsz => ?_)
  refine n_newa (atype := .int) (ci := 11) (t0 := 1) (a0 := (6, .inl (fun i => hpI (hp0 184 i)))) C wd_135 rfl rfl (fun U h => h) (az_184) rfl (by decide) (Nat.le_of_ble_eq_true rfl) hP hS hsz (Nat.le_of_ble_eq_true rfl) (Nat.le_of_ble_eq_true rfl) dX1_init_23 (fun H hP hS => ?_)
  obtain ⟨E5, e5⟩ : ∃ F, F = va_up E4 184 (.inl (cy 11, 6, .inl (fun i => hpI (hp0 184 i)))) := ⟨_, rfl⟩
  rw [← e5] at hP
  have hO5 : ∀ j, j < 181 → E5 j = E0 j := fun j h => by rw [e5]; exact (hp_ne (by omega)).trans (hO4 j h)
  have hp5_181 : E5 181 = .inr (1, [.ref (z + 182), .ref (z + 183), .null, .null, .null, .int (hpI 0), .int (hpI 0), .int (hpI 0), .int (hpI 0), .int (hpI 0), .int (hpI 0), .int (hpI 0), .int (hpI 0)]) := by rw [e5, hp_ne (by decide)]; exact hp4_181
  have hD5 : ∀ j, 181 < j → j < 185 → E5 j = hpE z cy j (hp0 j) := fun j h1 h2 => by
    rcases Nat.lt_or_ge j 184 with h | h
    · rw [e5, hp_ne (by omega)]; exact hD4 j h1 h
    · obtain rfl : j = 184 := by omega
      rw [e5, hp_at, ea_184]
  refine n_putF (fs' := [.ref (z + 182), .ref (z + 183), .ref (z + 184), .null, .null, .int (hpI 0), .int (hpI 0), .int (hpI 0), .int (hpI 0), .int (hpI 0), .int (hpI 0), .int (hpI 0), .int (hpI 0)]) C O1 2 (by decide) hp5_181 (by decide) rfl hnm rfl wd_72 rfl rfl (Nat.le_of_ble_eq_true rfl) rfl hP hS dX1_init_25 (fun H locs hP hS => ?_)
  obtain ⟨E6, e6⟩ : ∃ F, F = va_up E5 181 (.inr (1, [.ref (z + 182), .ref (z + 183), .ref (z + 184), .null, .null, .int (hpI 0), .int (hpI 0), .int (hpI 0), .int (hpI 0), .int (hpI 0), .int (hpI 0), .int (hpI 0), .int (hpI 0)])) := ⟨_, rfl⟩
  rw [← e6] at hP
  have hO6 : ∀ j, j < 181 → E6 j = E0 j := fun j h => by rw [e6]; exact (hp_ne (by omega)).trans (hO5 j h)
  have hp6_181 : E6 181 = .inr (1, [.ref (z + 182), .ref (z + 183), .ref (z + 184), .null, .null, .int (hpI 0), .int (hpI 0), .int (hpI 0), .int (hpI 0), .int (hpI 0), .int (hpI 0), .int (hpI 0), .int (hpI 0)]) := by rw [e6, hp_at]
  have hD6 : ∀ j, 181 < j → j < 185 → E6 j = hpE z cy j (hp0 j) := fun j h1 h2 => by
    rw [e6, hp_ne (by omega)]; exact hD5 j h1 (by omega)
  refine lv_aload_n C.1 C.2.1 dX1_init_28 rfl (lv_at hl 0 rfl) ?_
  refine lv_bipush (v := hpI 20) C.1 C.2.1 dX1_init_29 (by decide) ?_
  refine n_size (n := 185) h0 rfl hS hP (fun hsz => ?_)
  refine n_newa (atype := .int) (ci := 11) (t0 := 1) (a0 := (20, .inl (fun i => hpI (hp0 185 i)))) C wd_135 rfl rfl (fun U h => h) (az_185) rfl (by decide) (Nat.le_of_ble_eq_true rfl) hP hS hsz (Nat.le_of_ble_eq_true rfl) (Nat.le_of_ble_eq_true rfl) dX1_init_31 (fun H hP hS => ?_)
  obtain ⟨E7, e7⟩ : ∃ F, F = va_up E6 185 (.inl (cy 11, 20, .inl (fun i => hpI (hp0 185 i)))) := ⟨_, rfl⟩
  rw [← e7] at hP
  have hO7 : ∀ j, j < 181 → E7 j = E0 j := fun j h => by rw [e7]; exact (hp_ne (by omega)).trans (hO6 j h)
  have hp7_181 : E7 181 = .inr (1, [.ref (z + 182), .ref (z + 183), .ref (z + 184), .null, .null, .int (hpI 0), .int (hpI 0), .int (hpI 0), .int (hpI 0), .int (hpI 0), .int (hpI 0), .int (hpI 0), .int (hpI 0)]) := by rw [e7, hp_ne (by decide)]; exact hp6_181
  have hD7 : ∀ j, 181 < j → j < 186 → E7 j = hpE z cy j (hp0 j) := fun j h1 h2 => by
    rcases Nat.lt_or_ge j 185 with h | h
    · rw [e7, hp_ne (by omega)]; exact hD6 j h1 h
    · obtain rfl : j = 185 := by omega
      rw [e7, hp_at, ea_185]
  refine n_putF (fs' := [.ref (z + 182), .ref (z + 183), .ref (z + 184), .ref (z + 185), .null, .int (hpI 0), .int (hpI 0), .int (hpI 0), .int (hpI 0), .int (hpI 0), .int (hpI 0), .int (hpI 0), .int (hpI 0)]) C O1 3 (by decide) hp7_181 (by decide) rfl hnm rfl wd_76 rfl rfl (Nat.le_of_ble_eq_true rfl) rfl hP hS dX1_init_33 (fun H locs hP hS => ?_)
  obtain ⟨E8, e8⟩ : ∃ F, F = va_up E7 181 (.inr (1, [.ref (z + 182), .ref (z + 183), .ref (z + 184), .ref (z + 185), .null, .int (hpI 0), .int (hpI 0), .int (hpI 0), .int (hpI 0), .int (hpI 0), .int (hpI 0), .int (hpI 0), .int (hpI 0)])) := ⟨_, rfl⟩
  rw [← e8] at hP
  have hO8 : ∀ j, j < 181 → E8 j = E0 j := fun j h => by rw [e8]; exact (hp_ne (by omega)).trans (hO7 j h)
  have hp8_181 : E8 181 = .inr (1, [.ref (z + 182), .ref (z + 183), .ref (z + 184), .ref (z + 185), .null, .int (hpI 0), .int (hpI 0), .int (hpI 0), .int (hpI 0), .int (hpI 0), .int (hpI 0), .int (hpI 0), .int (hpI 0)]) := by rw [e8, hp_at]
  have hD8 : ∀ j, 181 < j → j < 186 → E8 j = hpE z cy j (hp0 j) := fun j h1 h2 => by
    rw [e8, hp_ne (by omega)]; exact hD7 j h1 (by omega)
  refine lv_aload_n C.1 C.2.1 dX1_init_36 rfl (lv_at hl 0 rfl) ?_
  refine lv_bipush (v := hpI 20) C.1 C.2.1 dX1_init_37 (by decide) ?_
  refine n_size (n := 186) h0 rfl hS hP (fun hsz => ?_)
  refine n_newa (atype := .int) (ci := 11) (t0 := 1) (a0 := (20, .inl (fun i => hpI (hp0 186 i)))) C wd_135 rfl rfl (fun U h => h) (az_186) rfl (by decide) (Nat.le_of_ble_eq_true rfl) hP hS hsz (Nat.le_of_ble_eq_true rfl) (Nat.le_of_ble_eq_true rfl) dX1_init_39 (fun H hP hS => ?_)
  obtain ⟨E9, e9⟩ : ∃ F, F = va_up E8 186 (.inl (cy 11, 20, .inl (fun i => hpI (hp0 186 i)))) := ⟨_, rfl⟩
  rw [← e9] at hP
  have hO9 : ∀ j, j < 181 → E9 j = E0 j := fun j h => by rw [e9]; exact (hp_ne (by omega)).trans (hO8 j h)
  have hp9_181 : E9 181 = .inr (1, [.ref (z + 182), .ref (z + 183), .ref (z + 184), .ref (z + 185), .null, .int (hpI 0), .int (hpI 0), .int (hpI 0), .int (hpI 0), .int (hpI 0), .int (hpI 0), .int (hpI 0), .int (hpI 0)]) := by rw [e9, hp_ne (by decide)]; exact hp8_181
  have hD9 : ∀ j, 181 < j → j < 187 → E9 j = hpE z cy j (hp0 j) := fun j h1 h2 => by
    rcases Nat.lt_or_ge j 186 with h | h
    · rw [e9, hp_ne (by omega)]; exact hD8 j h1 h
    · obtain rfl : j = 186 := by omega
      rw [e9, hp_at, ea_186]
  refine n_putF (fs' := [.ref (z + 182), .ref (z + 183), .ref (z + 184), .ref (z + 185), .ref (z + 186), .int (hpI 0), .int (hpI 0), .int (hpI 0), .int (hpI 0), .int (hpI 0), .int (hpI 0), .int (hpI 0), .int (hpI 0)]) C O1 4 (by decide) hp9_181 (by decide) rfl hnm rfl wd_79 rfl rfl (Nat.le_of_ble_eq_true rfl) rfl hP hS dX1_init_41 (fun H locs hP hS => ?_)
  obtain ⟨E10, e10⟩ : ∃ F, F = va_up E9 181 (.inr (1, [.ref (z + 182), .ref (z + 183), .ref (z + 184), .ref (z + 185), .ref (z + 186), .int (hpI 0), .int (hpI 0), .int (hpI 0), .int (hpI 0), .int (hpI 0), .int (hpI 0), .int (hpI 0), .int (hpI 0)])) := ⟨_, rfl⟩
  rw [← e10] at hP
  have hO10 : ∀ j, j < 181 → E10 j = E0 j := fun j h => by rw [e10]; exact (hp_ne (by omega)).trans (hO9 j h)
  have hp10_181 : E10 181 = .inr (1, [.ref (z + 182), .ref (z + 183), .ref (z + 184), .ref (z + 185), .ref (z + 186), .int (hpI 0), .int (hpI 0), .int (hpI 0), .int (hpI 0), .int (hpI 0), .int (hpI 0), .int (hpI 0), .int (hpI 0)]) := by rw [e10, hp_at]
  have hD10 : ∀ j, 181 < j → j < 187 → E10 j = hpE z cy j (hp0 j) := fun j h1 h2 => by
    rw [e10, hp_ne (by omega)]; exact hD9 j h1 (by omega)
  refine W.vret C.1 C.2.1 hr (fun t ht _ => ⟨⟨rfl, E10, by rw [ht]; exact hP, hO10, fun j h1 h2 => ?_⟩, hS.F ht⟩) (fun q hq => hS.2.2 q hq) dX1_init_44 hk
  rcases Nat.lt_or_ge 181 j with h | h
  · exact hD10 j h h2
  · obtain rfl : j = 181 := by omega
    exact hp10_181.trans eo_181.symm
abbrev rK6 : Room := { frames := 1, cells := 1, slots := 60, locals := 20 }
set_option maxHeartbeats 4000000 in
set_option maxRecDepth 20000 in
theorem kX6_187 (l : Launch) (D : va_G) (cy : Nat → ClassId) (z : Nat) (E0 : Nat → va_E) (hE0 : E0 187 = .inr (6, [.null, .int (hpI 0), .int (hpI 0), .int (hpI 0)])) : hpK l D cy z yX6_init cX6_init 1 rK6 187 2 1 60 E0 := by
  refine hp_metX rfl (Nat.le_of_ble_eq_true rfl) (fun p e s m below meth c ls C A hr hk hnm h0 hl hP hS => ?_)
  have hO0 : ∀ j, j < 187 → E0 j = E0 j := fun _ _ => rfl
  have hD0 : ∀ j, 187 < j → j < 188 → E0 j = hpE z cy j (hp0 j) := fun j h1 h2 => by omega
  refine lv_aload_n C.1 C.2.1 dX6_init_0 rfl (lv_at hl 0 rfl) ?_
  refine W.objInit C.1 C.2.1 C.2.2.2.1 (C.2.2.2.2.1 _ wd_331) (C.2.2.2.2.1 _ wd_24) (C.2.2.2.2.1 _ wd_25) rfl (by rw [C.2.2.1]; exact hl.1) rfl dX6_init_1 (Nat.le_of_ble_eq_true rfl) (Nat.le_of_ble_eq_true rfl) ?_
  refine lv_aload_n C.1 C.2.1 dX6_init_4 rfl (lv_at hl 0 rfl) ?_
  refine lv_bipush (v := hpI 60) C.1 C.2.1 dX6_init_5 (by decide) ?_
  refine n_size (n := 188) h0 rfl hS hP (fun hsz => ?_)
  refine n_newa (atype := .long) (ci := 12) (t0 := 2) (a0 := (60, .inr (.inl (fun i => hpJ (hp0 188 i))))) C wd_305 rfl rfl (fun U h => h) (az_188) rfl (by decide) (Nat.le_of_ble_eq_true rfl) hP hS hsz (Nat.le_of_ble_eq_true rfl) (Nat.le_of_ble_eq_true rfl) dX6_init_7 (fun H hP hS => ?_)
  obtain ⟨E1, e1⟩ : ∃ F, F = va_up E0 188 (.inl (cy 12, 60, .inr (.inl (fun i => hpJ (hp0 188 i))))) := ⟨_, rfl⟩
  rw [← e1] at hP
  have hO1 : ∀ j, j < 187 → E1 j = E0 j := fun j h => by rw [e1]; exact (hp_ne (by omega)).trans (hO0 j h)
  have hp1_187 : E1 187 = .inr (6, [.null, .int (hpI 0), .int (hpI 0), .int (hpI 0)]) := by rw [e1, hp_ne (by decide)]; exact hE0
  have hD1 : ∀ j, 187 < j → j < 189 → E1 j = hpE z cy j (hp0 j) := fun j h1 h2 => by
    rcases Nat.lt_or_ge j 188 with h | h
    · rw [e1, hp_ne (by omega)]; exact hD0 j h1 h
    · obtain rfl : j = 188 := by omega
      rw [e1, hp_at, ea_188]
  refine n_putF (fs' := [.ref (z + 188), .int (hpI 0), .int (hpI 0), .int (hpI 0)]) C O6 0 (by decide) hp1_187 (by decide) rfl hnm rfl wd_332 rfl rfl (Nat.le_of_ble_eq_true rfl) rfl hP hS dX6_init_9 (fun H locs hP hS => ?_)
  obtain ⟨E2, e2⟩ : ∃ F, F = va_up E1 187 (.inr (6, [.ref (z + 188), .int (hpI 0), .int (hpI 0), .int (hpI 0)])) := ⟨_, rfl⟩
  rw [← e2] at hP
  have hO2 : ∀ j, j < 187 → E2 j = E0 j := fun j h => by rw [e2]; exact (hp_ne (by omega)).trans (hO1 j h)
  have hp2_187 : E2 187 = .inr (6, [.ref (z + 188), .int (hpI 0), .int (hpI 0), .int (hpI 0)]) := by rw [e2, hp_at]
  have hD2 : ∀ j, 187 < j → j < 189 → E2 j = hpE z cy j (hp0 j) := fun j h1 h2 => by
    rw [e2, hp_ne (by omega)]; exact hD1 j h1 (by omega)
  refine W.vret C.1 C.2.1 hr (fun t ht _ => ⟨⟨rfl, E2, by rw [ht]; exact hP, hO2, fun j h1 h2 => ?_⟩, hS.F ht⟩) (fun q hq => hS.2.2 q hq) dX6_init_12 hk
  rcases Nat.lt_or_ge 187 j with h | h
  · exact hD2 j h h2
  · obtain rfl : j = 187 := by omega
    exact hp2_187.trans eo_187.symm
set_option maxHeartbeats 4000000 in
set_option maxRecDepth 20000 in
theorem kX6_189 (l : Launch) (D : va_G) (cy : Nat → ClassId) (z : Nat) (E0 : Nat → va_E) (hE0 : E0 189 = .inr (6, [.null, .int (hpI 0), .int (hpI 0), .int (hpI 0)])) : hpK l D cy z yX6_init cX6_init 1 rK6 189 2 1 60 E0 := by
  refine hp_metX rfl (Nat.le_of_ble_eq_true rfl) (fun p e s m below meth c ls C A hr hk hnm h0 hl hP hS => ?_)
  have hO0 : ∀ j, j < 189 → E0 j = E0 j := fun _ _ => rfl
  have hD0 : ∀ j, 189 < j → j < 190 → E0 j = hpE z cy j (hp0 j) := fun j h1 h2 => by omega
  refine lv_aload_n C.1 C.2.1 dX6_init_0 rfl (lv_at hl 0 rfl) ?_
  refine W.objInit C.1 C.2.1 C.2.2.2.1 (C.2.2.2.2.1 _ wd_331) (C.2.2.2.2.1 _ wd_24) (C.2.2.2.2.1 _ wd_25) rfl (by rw [C.2.2.1]; exact hl.1) rfl dX6_init_1 (Nat.le_of_ble_eq_true rfl) (Nat.le_of_ble_eq_true rfl) ?_
  refine lv_aload_n C.1 C.2.1 dX6_init_4 rfl (lv_at hl 0 rfl) ?_
  refine lv_bipush (v := hpI 60) C.1 C.2.1 dX6_init_5 (by decide) ?_
  refine n_size (n := 190) h0 rfl hS hP (fun hsz => ?_)
  refine n_newa (atype := .long) (ci := 12) (t0 := 2) (a0 := (60, .inr (.inl (fun i => hpJ (hp0 190 i))))) C wd_305 rfl rfl (fun U h => h) (az_190) rfl (by decide) (Nat.le_of_ble_eq_true rfl) hP hS hsz (Nat.le_of_ble_eq_true rfl) (Nat.le_of_ble_eq_true rfl) dX6_init_7 (fun H hP hS => ?_)
  obtain ⟨E1, e1⟩ : ∃ F, F = va_up E0 190 (.inl (cy 12, 60, .inr (.inl (fun i => hpJ (hp0 190 i))))) := ⟨_, rfl⟩
  rw [← e1] at hP
  have hO1 : ∀ j, j < 189 → E1 j = E0 j := fun j h => by rw [e1]; exact (hp_ne (by omega)).trans (hO0 j h)
  have hp1_189 : E1 189 = .inr (6, [.null, .int (hpI 0), .int (hpI 0), .int (hpI 0)]) := by rw [e1, hp_ne (by decide)]; exact hE0
  have hD1 : ∀ j, 189 < j → j < 191 → E1 j = hpE z cy j (hp0 j) := fun j h1 h2 => by
    rcases Nat.lt_or_ge j 190 with h | h
    · rw [e1, hp_ne (by omega)]; exact hD0 j h1 h
    · obtain rfl : j = 190 := by omega
      rw [e1, hp_at, ea_190]
  refine n_putF (fs' := [.ref (z + 190), .int (hpI 0), .int (hpI 0), .int (hpI 0)]) C O6 0 (by decide) hp1_189 (by decide) rfl hnm rfl wd_332 rfl rfl (Nat.le_of_ble_eq_true rfl) rfl hP hS dX6_init_9 (fun H locs hP hS => ?_)
  obtain ⟨E2, e2⟩ : ∃ F, F = va_up E1 189 (.inr (6, [.ref (z + 190), .int (hpI 0), .int (hpI 0), .int (hpI 0)])) := ⟨_, rfl⟩
  rw [← e2] at hP
  have hO2 : ∀ j, j < 189 → E2 j = E0 j := fun j h => by rw [e2]; exact (hp_ne (by omega)).trans (hO1 j h)
  have hp2_189 : E2 189 = .inr (6, [.ref (z + 190), .int (hpI 0), .int (hpI 0), .int (hpI 0)]) := by rw [e2, hp_at]
  have hD2 : ∀ j, 189 < j → j < 191 → E2 j = hpE z cy j (hp0 j) := fun j h1 h2 => by
    rw [e2, hp_ne (by omega)]; exact hD1 j h1 (by omega)
  refine W.vret C.1 C.2.1 hr (fun t ht _ => ⟨⟨rfl, E2, by rw [ht]; exact hP, hO2, fun j h1 h2 => ?_⟩, hS.F ht⟩) (fun q hq => hS.2.2 q hq) dX6_init_12 hk
  rcases Nat.lt_or_ge 189 j with h | h
  · exact hD2 j h h2
  · obtain rfl : j = 189 := by omega
    exact hp2_189.trans eo_189.symm
set_option maxHeartbeats 4000000 in
set_option maxRecDepth 20000 in
theorem kX6_191 (l : Launch) (D : va_G) (cy : Nat → ClassId) (z : Nat) (E0 : Nat → va_E) (hE0 : E0 191 = .inr (6, [.null, .int (hpI 0), .int (hpI 0), .int (hpI 0)])) : hpK l D cy z yX6_init cX6_init 1 rK6 191 2 1 60 E0 := by
  refine hp_metX rfl (Nat.le_of_ble_eq_true rfl) (fun p e s m below meth c ls C A hr hk hnm h0 hl hP hS => ?_)
  have hO0 : ∀ j, j < 191 → E0 j = E0 j := fun _ _ => rfl
  have hD0 : ∀ j, 191 < j → j < 192 → E0 j = hpE z cy j (hp0 j) := fun j h1 h2 => by omega
  refine lv_aload_n C.1 C.2.1 dX6_init_0 rfl (lv_at hl 0 rfl) ?_
  refine W.objInit C.1 C.2.1 C.2.2.2.1 (C.2.2.2.2.1 _ wd_331) (C.2.2.2.2.1 _ wd_24) (C.2.2.2.2.1 _ wd_25) rfl (by rw [C.2.2.1]; exact hl.1) rfl dX6_init_1 (Nat.le_of_ble_eq_true rfl) (Nat.le_of_ble_eq_true rfl) ?_
  refine lv_aload_n C.1 C.2.1 dX6_init_4 rfl (lv_at hl 0 rfl) ?_
  refine lv_bipush (v := hpI 60) C.1 C.2.1 dX6_init_5 (by decide) ?_
  refine n_size (n := 192) h0 rfl hS hP (fun hsz => ?_)
  refine n_newa (atype := .long) (ci := 12) (t0 := 2) (a0 := (60, .inr (.inl (fun i => hpJ (hp0 192 i))))) C wd_305 rfl rfl (fun U h => h) (az_192) rfl (by decide) (Nat.le_of_ble_eq_true rfl) hP hS hsz (Nat.le_of_ble_eq_true rfl) (Nat.le_of_ble_eq_true rfl) dX6_init_7 (fun H hP hS => ?_)
  obtain ⟨E1, e1⟩ : ∃ F, F = va_up E0 192 (.inl (cy 12, 60, .inr (.inl (fun i => hpJ (hp0 192 i))))) := ⟨_, rfl⟩
  rw [← e1] at hP
  have hO1 : ∀ j, j < 191 → E1 j = E0 j := fun j h => by rw [e1]; exact (hp_ne (by omega)).trans (hO0 j h)
  have hp1_191 : E1 191 = .inr (6, [.null, .int (hpI 0), .int (hpI 0), .int (hpI 0)]) := by rw [e1, hp_ne (by decide)]; exact hE0
  have hD1 : ∀ j, 191 < j → j < 193 → E1 j = hpE z cy j (hp0 j) := fun j h1 h2 => by
    rcases Nat.lt_or_ge j 192 with h | h
    · rw [e1, hp_ne (by omega)]; exact hD0 j h1 h
    · obtain rfl : j = 192 := by omega
      rw [e1, hp_at, ea_192]
  refine n_putF (fs' := [.ref (z + 192), .int (hpI 0), .int (hpI 0), .int (hpI 0)]) C O6 0 (by decide) hp1_191 (by decide) rfl hnm rfl wd_332 rfl rfl (Nat.le_of_ble_eq_true rfl) rfl hP hS dX6_init_9 (fun H locs hP hS => ?_)
  obtain ⟨E2, e2⟩ : ∃ F, F = va_up E1 191 (.inr (6, [.ref (z + 192), .int (hpI 0), .int (hpI 0), .int (hpI 0)])) := ⟨_, rfl⟩
  rw [← e2] at hP
  have hO2 : ∀ j, j < 191 → E2 j = E0 j := fun j h => by rw [e2]; exact (hp_ne (by omega)).trans (hO1 j h)
  have hp2_191 : E2 191 = .inr (6, [.ref (z + 192), .int (hpI 0), .int (hpI 0), .int (hpI 0)]) := by rw [e2, hp_at]
  have hD2 : ∀ j, 191 < j → j < 193 → E2 j = hpE z cy j (hp0 j) := fun j h1 h2 => by
    rw [e2, hp_ne (by omega)]; exact hD1 j h1 (by omega)
  refine W.vret C.1 C.2.1 hr (fun t ht _ => ⟨⟨rfl, E2, by rw [ht]; exact hP, hO2, fun j h1 h2 => ?_⟩, hS.F ht⟩) (fun q hq => hS.2.2 q hq) dX6_init_12 hk
  rcases Nat.lt_or_ge 191 j with h | h
  · exact hD2 j h h2
  · obtain rfl : j = 191 := by omega
    exact hp2_191.trans eo_191.symm
set_option maxHeartbeats 4000000 in
set_option maxRecDepth 20000 in
theorem kX6_193 (l : Launch) (D : va_G) (cy : Nat → ClassId) (z : Nat) (E0 : Nat → va_E) (hE0 : E0 193 = .inr (6, [.null, .int (hpI 0), .int (hpI 0), .int (hpI 0)])) : hpK l D cy z yX6_init cX6_init 1 rK6 193 2 1 60 E0 := by
  refine hp_metX rfl (Nat.le_of_ble_eq_true rfl) (fun p e s m below meth c ls C A hr hk hnm h0 hl hP hS => ?_)
  have hO0 : ∀ j, j < 193 → E0 j = E0 j := fun _ _ => rfl
  have hD0 : ∀ j, 193 < j → j < 194 → E0 j = hpE z cy j (hp0 j) := fun j h1 h2 => by omega
  refine lv_aload_n C.1 C.2.1 dX6_init_0 rfl (lv_at hl 0 rfl) ?_
  refine W.objInit C.1 C.2.1 C.2.2.2.1 (C.2.2.2.2.1 _ wd_331) (C.2.2.2.2.1 _ wd_24) (C.2.2.2.2.1 _ wd_25) rfl (by rw [C.2.2.1]; exact hl.1) rfl dX6_init_1 (Nat.le_of_ble_eq_true rfl) (Nat.le_of_ble_eq_true rfl) ?_
  refine lv_aload_n C.1 C.2.1 dX6_init_4 rfl (lv_at hl 0 rfl) ?_
  refine lv_bipush (v := hpI 60) C.1 C.2.1 dX6_init_5 (by decide) ?_
  refine n_size (n := 194) h0 rfl hS hP (fun hsz => ?_)
  refine n_newa (atype := .long) (ci := 12) (t0 := 2) (a0 := (60, .inr (.inl (fun i => hpJ (hp0 194 i))))) C wd_305 rfl rfl (fun U h => h) (az_194) rfl (by decide) (Nat.le_of_ble_eq_true rfl) hP hS hsz (Nat.le_of_ble_eq_true rfl) (Nat.le_of_ble_eq_true rfl) dX6_init_7 (fun H hP hS => ?_)
  obtain ⟨E1, e1⟩ : ∃ F, F = va_up E0 194 (.inl (cy 12, 60, .inr (.inl (fun i => hpJ (hp0 194 i))))) := ⟨_, rfl⟩
  rw [← e1] at hP
  have hO1 : ∀ j, j < 193 → E1 j = E0 j := fun j h => by rw [e1]; exact (hp_ne (by omega)).trans (hO0 j h)
  have hp1_193 : E1 193 = .inr (6, [.null, .int (hpI 0), .int (hpI 0), .int (hpI 0)]) := by rw [e1, hp_ne (by decide)]; exact hE0
  have hD1 : ∀ j, 193 < j → j < 195 → E1 j = hpE z cy j (hp0 j) := fun j h1 h2 => by
    rcases Nat.lt_or_ge j 194 with h | h
    · rw [e1, hp_ne (by omega)]; exact hD0 j h1 h
    · obtain rfl : j = 194 := by omega
      rw [e1, hp_at, ea_194]
  refine n_putF (fs' := [.ref (z + 194), .int (hpI 0), .int (hpI 0), .int (hpI 0)]) C O6 0 (by decide) hp1_193 (by decide) rfl hnm rfl wd_332 rfl rfl (Nat.le_of_ble_eq_true rfl) rfl hP hS dX6_init_9 (fun H locs hP hS => ?_)
  obtain ⟨E2, e2⟩ : ∃ F, F = va_up E1 193 (.inr (6, [.ref (z + 194), .int (hpI 0), .int (hpI 0), .int (hpI 0)])) := ⟨_, rfl⟩
  rw [← e2] at hP
  have hO2 : ∀ j, j < 193 → E2 j = E0 j := fun j h => by rw [e2]; exact (hp_ne (by omega)).trans (hO1 j h)
  have hp2_193 : E2 193 = .inr (6, [.ref (z + 194), .int (hpI 0), .int (hpI 0), .int (hpI 0)]) := by rw [e2, hp_at]
  have hD2 : ∀ j, 193 < j → j < 195 → E2 j = hpE z cy j (hp0 j) := fun j h1 h2 => by
    rw [e2, hp_ne (by omega)]; exact hD1 j h1 (by omega)
  refine W.vret C.1 C.2.1 hr (fun t ht _ => ⟨⟨rfl, E2, by rw [ht]; exact hP, hO2, fun j h1 h2 => ?_⟩, hS.F ht⟩) (fun q hq => hS.2.2 q hq) dX6_init_12 hk
  rcases Nat.lt_or_ge 193 j with h | h
  · exact hD2 j h h2
  · obtain rfl : j = 193 := by omega
    exact hp2_193.trans eo_193.symm
abbrev rK7 : Room := { frames := 1, cells := 1, slots := 500, locals := 20 }
set_option maxHeartbeats 4000000 in
set_option maxRecDepth 20000 in
theorem kX7_1 (l : Launch) (D : va_G) (cy : Nat → ClassId) (z : Nat) (E0 : Nat → va_E) (hE0 : E0 1 = .inr (7, [.null, .int (hpI 0), .int (hpI 0), .int (hpI 0), .int (hpI 0), .int (hpI 0), .int (hpI 0)])) : hpK l D cy z yX7_init cX7_init 1 rK7 1 2 1 500 E0 := by
  refine hp_metX rfl (Nat.le_of_ble_eq_true rfl) (fun p e s m below meth c ls C A hr hk hnm h0 hl hP hS => ?_)
  have hO0 : ∀ j, j < 1 → E0 j = E0 j := fun _ _ => rfl
  have hD0 : ∀ j, 1 < j → j < 2 → E0 j = hpE z cy j (hp0 j) := fun j h1 h2 => by omega
  refine lv_aload_n C.1 C.2.1 dX7_init_0 rfl (lv_at hl 0 rfl) ?_
  refine W.objInit C.1 C.2.1 C.2.2.2.1 (C.2.2.2.2.1 _ wd_31) (C.2.2.2.2.1 _ wd_24) (C.2.2.2.2.1 _ wd_25) rfl (by rw [C.2.2.1]; exact hl.1) rfl dX7_init_1 (Nat.le_of_ble_eq_true rfl) (Nat.le_of_ble_eq_true rfl) ?_
  refine lv_aload_n C.1 C.2.1 dX7_init_4 rfl (lv_at hl 0 rfl) ?_
  refine lv_sipush (v := hpI 500) C.1 C.2.1 dX7_init_5 (by decide) ?_
  refine n_size (n := 2) h0 rfl hS hP (fun hsz => ?_)
  refine n_newa (atype := .byte) (ci := 10) (t0 := 0) (a0 := (500, .inl (fun i => hpI (hp0 2 i)))) C wd_57 rfl rfl (fun U h => h) (az_2) rfl (by decide) (Nat.le_of_ble_eq_true rfl) hP hS hsz (Nat.le_of_ble_eq_true rfl) (Nat.le_of_ble_eq_true rfl) dX7_init_8 (fun H hP hS => ?_)
  obtain ⟨E1, e1⟩ : ∃ F, F = va_up E0 2 (.inl (cy 10, 500, .inl (fun i => hpI (hp0 2 i)))) := ⟨_, rfl⟩
  rw [← e1] at hP
  have hO1 : ∀ j, j < 1 → E1 j = E0 j := fun j h => by rw [e1]; exact (hp_ne (by omega)).trans (hO0 j h)
  have hp1_1 : E1 1 = .inr (7, [.null, .int (hpI 0), .int (hpI 0), .int (hpI 0), .int (hpI 0), .int (hpI 0), .int (hpI 0)]) := by rw [e1, hp_ne (by decide)]; exact hE0
  have hD1 : ∀ j, 1 < j → j < 3 → E1 j = hpE z cy j (hp0 j) := fun j h1 h2 => by
    rcases Nat.lt_or_ge j 2 with h | h
    · rw [e1, hp_ne (by omega)]; exact hD0 j h1 h
    · obtain rfl : j = 2 := by omega
      rw [e1, hp_at, ea_2]
  refine n_putF (fs' := [.ref (z + 2), .int (hpI 0), .int (hpI 0), .int (hpI 0), .int (hpI 0), .int (hpI 0), .int (hpI 0)]) C O7 0 (by decide) hp1_1 (by decide) rfl hnm rfl wd_32 rfl rfl (Nat.le_of_ble_eq_true rfl) rfl hP hS dX7_init_10 (fun H locs hP hS => ?_)
  obtain ⟨E2, e2⟩ : ∃ F, F = va_up E1 1 (.inr (7, [.ref (z + 2), .int (hpI 0), .int (hpI 0), .int (hpI 0), .int (hpI 0), .int (hpI 0), .int (hpI 0)])) := ⟨_, rfl⟩
  rw [← e2] at hP
  have hO2 : ∀ j, j < 1 → E2 j = E0 j := fun j h => by rw [e2]; exact (hp_ne (by omega)).trans (hO1 j h)
  have hp2_1 : E2 1 = .inr (7, [.ref (z + 2), .int (hpI 0), .int (hpI 0), .int (hpI 0), .int (hpI 0), .int (hpI 0), .int (hpI 0)]) := by rw [e2, hp_at]
  have hD2 : ∀ j, 1 < j → j < 3 → E2 j = hpE z cy j (hp0 j) := fun j h1 h2 => by
    rw [e2, hp_ne (by omega)]; exact hD1 j h1 (by omega)
  refine lv_aload_n C.1 C.2.1 dX7_init_13 rfl (lv_at hl 0 rfl) ?_
  refine lv_iconst (v := hpI (-1)) C.1 C.2.1 dX7_init_14 rfl ?_
  refine n_put (fs' := [.ref (z + 2), .int (hpI 0), .int (hpI 0), .int (hpI (-1)), .int (hpI 0), .int (hpI 0), .int (hpI 0)]) C O7 3 (by decide) hp2_1 (by decide) rfl wd_37 rfl rfl (Nat.le_of_ble_eq_true rfl) rfl hP hS dX7_init_15 (fun H locs hP hS => ?_)
  obtain ⟨E3, e3⟩ : ∃ F, F = va_up E2 1 (.inr (7, [.ref (z + 2), .int (hpI 0), .int (hpI 0), .int (hpI (-1)), .int (hpI 0), .int (hpI 0), .int (hpI 0)])) := ⟨_, rfl⟩
  rw [← e3] at hP
  have hO3 : ∀ j, j < 1 → E3 j = E0 j := fun j h => by rw [e3]; exact (hp_ne (by omega)).trans (hO2 j h)
  have hp3_1 : E3 1 = .inr (7, [.ref (z + 2), .int (hpI 0), .int (hpI 0), .int (hpI (-1)), .int (hpI 0), .int (hpI 0), .int (hpI 0)]) := by rw [e3, hp_at]
  have hD3 : ∀ j, 1 < j → j < 3 → E3 j = hpE z cy j (hp0 j) := fun j h1 h2 => by
    rw [e3, hp_ne (by omega)]; exact hD2 j h1 (by omega)
  refine W.vret C.1 C.2.1 hr (fun t ht _ => ⟨⟨rfl, E3, by rw [ht]; exact hP, hO3, fun j h1 h2 => ?_⟩, hS.F ht⟩) (fun q hq => hS.2.2 q hq) dX7_init_18 hk
  rcases Nat.lt_or_ge 1 j with h | h
  · exact hD3 j h h2
  · obtain rfl : j = 1 := by omega
    exact hp3_1.trans eo_1.symm
abbrev rK4 : Room := { frames := 2, cells := 52, slots := 1462, locals := 40 }
set_option maxHeartbeats 4000000 in
set_option maxRecDepth 20000 in
theorem kX4_17 (l : Launch) (D : va_G) (cy : Nat → ClassId) (z : Nat) (E0 : Nat → va_E) (hE0 : E0 17 = .inr (4, [.null, .int (hpI 0), .int (hpI 0), .int (hpI 0), .int (hpI 0), .int (hpI 0), .int (hpI 0), .int (hpI 0), .int (hpI 0)])) : hpK l D cy z yX4_init cX4_init 2 rK4 17 53 52 1462 E0 := by
  refine hp_metX rfl (Nat.le_of_ble_eq_true rfl) (fun p e s m below meth c ls C A hr hk hnm h0 hl hP hS => ?_)
  have hO0 : ∀ j, j < 17 → E0 j = E0 j := fun _ _ => rfl
  have hD0 : ∀ j, 17 < j → j < 18 → E0 j = hpE z cy j (hp0 j) := fun j h1 h2 => by omega
  refine lv_aload_n C.1 C.2.1 dX4_init_0 rfl (lv_at hl 0 rfl) ?_
  refine W.objInit C.1 C.2.1 C.2.2.2.1 (C.2.2.2.2.1 _ wd_144) (C.2.2.2.2.1 _ wd_24) (C.2.2.2.2.1 _ wd_25) rfl (by rw [C.2.2.1]; exact hl.1) rfl dX4_init_1 (Nat.le_of_ble_eq_true rfl) (Nat.le_of_ble_eq_true rfl) ?_
  refine lv_aload_n C.1 C.2.1 dX4_init_4 rfl (lv_at hl 0 rfl) ?_
  refine lv_bipush (v := hpI 17) C.1 C.2.1 dX4_init_5 (by decide) ?_
  refine n_size (n := 18) h0 rfl hS hP (fun hsz => ?_)
  refine n_newq (ci := 15) (t0 := 5) (N := 17) C wd_145 (hpA_of (w := .arrayOver (.object "TurfHeaps$Row")) 146 (by decide +kernel) rfl A) rfl rfl (by decide) hP hS hsz (Nat.le_of_ble_eq_true rfl) (Nat.le_of_ble_eq_true rfl) dX4_init_7 (fun H hP hS => ?_)
  obtain ⟨E1, e1⟩ : ∃ F, F = va_up E0 18 (.inl (cy 15, 17, .inr (.inr (.inr (.inr (fun _ => none)))))) := ⟨_, rfl⟩
  rw [← e1] at hP
  have hO1 : ∀ j, j < 17 → E1 j = E0 j := fun j h => by rw [e1]; exact (hp_ne (by omega)).trans (hO0 j h)
  have hp1_17 : E1 17 = .inr (4, [.null, .int (hpI 0), .int (hpI 0), .int (hpI 0), .int (hpI 0), .int (hpI 0), .int (hpI 0), .int (hpI 0), .int (hpI 0)]) := by rw [e1, hp_ne (by decide)]; exact hE0
  have hp1_18 : E1 18 = .inl (cy 15, 17, .inr (.inr (.inr (.inr (fun _ => none))))) := by rw [e1, hp_at]
  have hD1 : ∀ j, 17 < j → j < 19 → j ≠ 18 → E1 j = hpE z cy j (hp0 j) := fun j h1 h2 hn18 => by
    rw [e1, hp_ne (by omega)]; exact hD0 j h1 (by omega)
  refine n_putF (fs' := [.ref (z + 18), .int (hpI 0), .int (hpI 0), .int (hpI 0), .int (hpI 0), .int (hpI 0), .int (hpI 0), .int (hpI 0), .int (hpI 0)]) C O4 0 (by decide) hp1_17 (by decide) rfl hnm rfl wd_179 rfl rfl (Nat.le_of_ble_eq_true rfl) rfl hP hS dX4_init_10 (fun H locs hP hS => ?_)
  obtain ⟨E2, e2⟩ : ∃ F, F = va_up E1 17 (.inr (4, [.ref (z + 18), .int (hpI 0), .int (hpI 0), .int (hpI 0), .int (hpI 0), .int (hpI 0), .int (hpI 0), .int (hpI 0), .int (hpI 0)])) := ⟨_, rfl⟩
  rw [← e2] at hP
  have hO2 : ∀ j, j < 17 → E2 j = E0 j := fun j h => by rw [e2]; exact (hp_ne (by omega)).trans (hO1 j h)
  have hp2_18 : E2 18 = .inl (cy 15, 17, .inr (.inr (.inr (.inr (fun _ => none))))) := by rw [e2, hp_ne (by decide)]; exact hp1_18
  have hp2_17 : E2 17 = .inr (4, [.ref (z + 18), .int (hpI 0), .int (hpI 0), .int (hpI 0), .int (hpI 0), .int (hpI 0), .int (hpI 0), .int (hpI 0), .int (hpI 0)]) := by rw [e2, hp_at]
  have hD2 : ∀ j, 17 < j → j < 19 → j ≠ 18 → E2 j = hpE z cy j (hp0 j) := fun j h1 h2 hn18 => by
    rw [e2, hp_ne (by omega)]; exact hD1 j h1 (by omega) hn18
  refine lv_iconst (v := hpI 0) C.1 C.2.1 dX4_init_13 rfl ?_
  refine lv_istore_n (lv' := [(1, .int (hpI 0)), (0, .ref (z + 17))]) C.1 C.2.1 dX4_init_14 rfl hl (by decide) rfl (fun ls hl => ?_)
  refine lv_iload_n C.1 C.2.1 dX4_init_15 rfl (lv_at hl 0 rfl) ?_
  refine lv_bipush (v := hpI 16) C.1 C.2.1 dX4_init_16 (by decide) ?_
  refine lv_icmp_gt (tgt := 40) C.1 C.2.1 dX4_init_18 rfl (fun hc => absurd hc (by decide)) (fun hc => ?_)
  refine lv_aload_n C.1 C.2.1 dX4_init_21 rfl (lv_at hl 1 rfl) ?_
  refine n_get (fs := [.ref (z + 18), .int (hpI 0), .int (hpI 0), .int (hpI 0), .int (hpI 0), .int (hpI 0), .int (hpI 0), .int (hpI 0), .int (hpI 0)]) C O4 0 (by decide) hp2_17 (by decide) wd_179 rfl hP dX4_init_22 ?_
  refine lv_iload_n C.1 C.2.1 dX4_init_25 rfl (lv_at hl 0 rfl) ?_
  refine n_size (n := 19) h0 rfl hS hP (fun hsz => ?_)
  refine n_new (fs := [.null, .null, .int (hpI 0), .int (hpI 0), .int (hpI 0)]) C O3 bl_3 wd_145 wd_147 wd_5 hP hS hsz (Nat.le_of_ble_eq_true rfl) (Nat.le_of_ble_eq_true rfl) dX4_init_26 (fun H hP hS => ?_)
  obtain ⟨E3, e3⟩ : ∃ F, F = va_up E2 19 (.inr (3, [.null, .null, .int (hpI 0), .int (hpI 0), .int (hpI 0)])) := ⟨_, rfl⟩
  rw [← e3] at hP
  have hO3 : ∀ j, j < 17 → E3 j = E0 j := fun j h => by rw [e3]; exact (hp_ne (by omega)).trans (hO2 j h)
  have hp3_18 : E3 18 = .inl (cy 15, 17, .inr (.inr (.inr (.inr (fun _ => none))))) := by rw [e3, hp_ne (by decide)]; exact hp2_18
  have hp3_17 : E3 17 = .inr (4, [.ref (z + 18), .int (hpI 0), .int (hpI 0), .int (hpI 0), .int (hpI 0), .int (hpI 0), .int (hpI 0), .int (hpI 0), .int (hpI 0)]) := by rw [e3, hp_ne (by decide)]; exact hp2_17
  have hp3_19 : E3 19 = .inr (3, [.null, .null, .int (hpI 0), .int (hpI 0), .int (hpI 0)]) := by rw [e3, hp_at]
  have hD3 : ∀ j, 17 < j → j < 20 → j ≠ 18 → j ≠ 19 → E3 j = hpE z cy j (hp0 j) := fun j h1 h2 hn18 hn19 => by
    rw [e3, hp_ne (by omega)]; exact hD2 j h1 (by omega) hn18
  refine lv_dup C.1 C.2.1 dX4_init_29 rfl ?_
  refine n_size (n := 20) h0 rfl hS hP (fun hsz => ?_)
  refine n_ctorN C A yk_3 nw_148 (kX3_19 l D cy z _ hp3_19) hl hP hS hsz ⟨rfl, rfl, Nat.le_of_ble_eq_true rfl, Nat.le_of_ble_eq_true rfl⟩ ⟨Nat.le_of_ble_eq_true rfl, Nat.le_of_ble_eq_true rfl⟩ (Nat.le_of_ble_eq_true rfl) dX4_init_30 (fun H locs E4 hP hS hj4 hi4 => ?_)
  have hO4 : ∀ j, j < 17 → E4 j = E0 j := fun j h => (hj4 j (by omega)).trans (hO3 j h)
  have hp4_18 : E4 18 = .inl (cy 15, 17, .inr (.inr (.inr (.inr (fun _ => none))))) := (hj4 18 (by decide)).trans hp3_18
  have hp4_17 : E4 17 = .inr (4, [.ref (z + 18), .int (hpI 0), .int (hpI 0), .int (hpI 0), .int (hpI 0), .int (hpI 0), .int (hpI 0), .int (hpI 0), .int (hpI 0)]) := (hj4 17 (by decide)).trans hp3_17
  have hD4 : ∀ j, 17 < j → j < 22 → j ≠ 18 → E4 j = hpE z cy j (hp0 j) := fun j h1 h2 hn18 => by
    rcases Nat.lt_or_ge j 19 with h | h
    · exact (hj4 j h).trans (hD3 j h1 (by omega) hn18 (by omega))
    · exact hi4 j h h2
  refine n_aast (c0 := 15) (t0 := 5) C O3 (by decide) (by decide) hp4_18 rfl ((hD4 19 (by decide) (by decide) (by decide)).trans eo_19) 0 rfl (by decide) (by decide) hP hS dX4_init_33 (fun H locs hP hS => ?_)
  obtain ⟨E5, e5⟩ : ∃ F, F = va_up E4 18 (.inl (cy 15, 17, .inr (.inr (.inr (.inr (va_up (fun _ => none) 0 (some (z + 19)))))))) := ⟨_, rfl⟩
  rw [← e5] at hP
  have hO5 : ∀ j, j < 17 → E5 j = E0 j := fun j h => by rw [e5]; exact (hp_ne (by omega)).trans (hO4 j h)
  have hp5_17 : E5 17 = .inr (4, [.ref (z + 18), .int (hpI 0), .int (hpI 0), .int (hpI 0), .int (hpI 0), .int (hpI 0), .int (hpI 0), .int (hpI 0), .int (hpI 0)]) := by rw [e5, hp_ne (by decide)]; exact hp4_17
  have hp5_18 : E5 18 = .inl (cy 15, 17, .inr (.inr (.inr (.inr (va_up (fun _ => none) 0 (some (z + 19))))))) := by rw [e5, hp_at]
  have hD5 : ∀ j, 17 < j → j < 22 → j ≠ 18 → E5 j = hpE z cy j (hp0 j) := fun j h1 h2 hn18 => by
    rw [e5, hp_ne (by omega)]; exact hD4 j h1 (by omega) hn18
  refine lv_iinc (v := hpI 1) (lv' := [(1, .int (hpI 1)), (0, .ref (z + 17))]) C.1 C.2.1 dX4_init_34 hl (k := 0) rfl (by decide) (by decide) rfl (fun ls hl => ?_)
  refine lv_goto (tgt := 15) C.1 C.2.1 dX4_init_37 rfl ?_
  refine lv_iload_n C.1 C.2.1 dX4_init_15 rfl (lv_at hl 0 rfl) ?_
  refine lv_bipush (v := hpI 16) C.1 C.2.1 dX4_init_16 (by decide) ?_
  refine lv_icmp_gt (tgt := 40) C.1 C.2.1 dX4_init_18 rfl (fun hc => absurd hc (by decide)) (fun hc => ?_)
  refine lv_aload_n C.1 C.2.1 dX4_init_21 rfl (lv_at hl 1 rfl) ?_
  refine n_get (fs := [.ref (z + 18), .int (hpI 0), .int (hpI 0), .int (hpI 0), .int (hpI 0), .int (hpI 0), .int (hpI 0), .int (hpI 0), .int (hpI 0)]) C O4 0 (by decide) hp5_17 (by decide) wd_179 rfl hP dX4_init_22 ?_
  refine lv_iload_n C.1 C.2.1 dX4_init_25 rfl (lv_at hl 0 rfl) ?_
  refine n_size (n := 22) h0 rfl hS hP (fun hsz => ?_)
  refine n_new (fs := [.null, .null, .int (hpI 0), .int (hpI 0), .int (hpI 0)]) C O3 bl_3 wd_145 wd_147 wd_5 hP hS hsz (Nat.le_of_ble_eq_true rfl) (Nat.le_of_ble_eq_true rfl) dX4_init_26 (fun H hP hS => ?_)
  obtain ⟨E6, e6⟩ : ∃ F, F = va_up E5 22 (.inr (3, [.null, .null, .int (hpI 0), .int (hpI 0), .int (hpI 0)])) := ⟨_, rfl⟩
  rw [← e6] at hP
  have hO6 : ∀ j, j < 17 → E6 j = E0 j := fun j h => by rw [e6]; exact (hp_ne (by omega)).trans (hO5 j h)
  have hp6_17 : E6 17 = .inr (4, [.ref (z + 18), .int (hpI 0), .int (hpI 0), .int (hpI 0), .int (hpI 0), .int (hpI 0), .int (hpI 0), .int (hpI 0), .int (hpI 0)]) := by rw [e6, hp_ne (by decide)]; exact hp5_17
  have hp6_18 : E6 18 = .inl (cy 15, 17, .inr (.inr (.inr (.inr (va_up (fun _ => none) 0 (some (z + 19))))))) := by rw [e6, hp_ne (by decide)]; exact hp5_18
  have hp6_22 : E6 22 = .inr (3, [.null, .null, .int (hpI 0), .int (hpI 0), .int (hpI 0)]) := by rw [e6, hp_at]
  have hD6 : ∀ j, 17 < j → j < 23 → j ≠ 18 → j ≠ 22 → E6 j = hpE z cy j (hp0 j) := fun j h1 h2 hn18 hn22 => by
    rw [e6, hp_ne (by omega)]; exact hD5 j h1 (by omega) hn18
  refine lv_dup C.1 C.2.1 dX4_init_29 rfl ?_
  refine n_size (n := 23) h0 rfl hS hP (fun hsz => ?_)
  refine n_ctorN C A yk_3 nw_148 (kX3_22 l D cy z _ hp6_22) hl hP hS hsz ⟨rfl, rfl, Nat.le_of_ble_eq_true rfl, Nat.le_of_ble_eq_true rfl⟩ ⟨Nat.le_of_ble_eq_true rfl, Nat.le_of_ble_eq_true rfl⟩ (Nat.le_of_ble_eq_true rfl) dX4_init_30 (fun H locs E7 hP hS hj7 hi7 => ?_)
  have hO7 : ∀ j, j < 17 → E7 j = E0 j := fun j h => (hj7 j (by omega)).trans (hO6 j h)
  have hp7_17 : E7 17 = .inr (4, [.ref (z + 18), .int (hpI 0), .int (hpI 0), .int (hpI 0), .int (hpI 0), .int (hpI 0), .int (hpI 0), .int (hpI 0), .int (hpI 0)]) := (hj7 17 (by decide)).trans hp6_17
  have hp7_18 : E7 18 = .inl (cy 15, 17, .inr (.inr (.inr (.inr (va_up (fun _ => none) 0 (some (z + 19))))))) := (hj7 18 (by decide)).trans hp6_18
  have hD7 : ∀ j, 17 < j → j < 25 → j ≠ 18 → E7 j = hpE z cy j (hp0 j) := fun j h1 h2 hn18 => by
    rcases Nat.lt_or_ge j 22 with h | h
    · exact (hj7 j h).trans (hD6 j h1 (by omega) hn18 (by omega))
    · exact hi7 j h h2
  refine n_aast (c0 := 15) (t0 := 5) C O3 (by decide) (by decide) hp7_18 rfl ((hD7 22 (by decide) (by decide) (by decide)).trans eo_22) 1 rfl (by decide) (by decide) hP hS dX4_init_33 (fun H locs hP hS => ?_)
  obtain ⟨E8, e8⟩ : ∃ F, F = va_up E7 18 (.inl (cy 15, 17, .inr (.inr (.inr (.inr (va_up (va_up (fun _ => none) 0 (some (z + 19))) 1 (some (z + 22)))))))) := ⟨_, rfl⟩
  rw [← e8] at hP
  have hO8 : ∀ j, j < 17 → E8 j = E0 j := fun j h => by rw [e8]; exact (hp_ne (by omega)).trans (hO7 j h)
  have hp8_17 : E8 17 = .inr (4, [.ref (z + 18), .int (hpI 0), .int (hpI 0), .int (hpI 0), .int (hpI 0), .int (hpI 0), .int (hpI 0), .int (hpI 0), .int (hpI 0)]) := by rw [e8, hp_ne (by decide)]; exact hp7_17
  have hp8_18 : E8 18 = .inl (cy 15, 17, .inr (.inr (.inr (.inr (va_up (va_up (fun _ => none) 0 (some (z + 19))) 1 (some (z + 22))))))) := by rw [e8, hp_at]
  have hD8 : ∀ j, 17 < j → j < 25 → j ≠ 18 → E8 j = hpE z cy j (hp0 j) := fun j h1 h2 hn18 => by
    rw [e8, hp_ne (by omega)]; exact hD7 j h1 (by omega) hn18
  refine lv_iinc (v := hpI 2) (lv' := [(1, .int (hpI 2)), (0, .ref (z + 17))]) C.1 C.2.1 dX4_init_34 hl (k := 0) rfl (by decide) (by decide) rfl (fun ls hl => ?_)
  refine lv_goto (tgt := 15) C.1 C.2.1 dX4_init_37 rfl ?_
  refine lv_iload_n C.1 C.2.1 dX4_init_15 rfl (lv_at hl 0 rfl) ?_
  refine lv_bipush (v := hpI 16) C.1 C.2.1 dX4_init_16 (by decide) ?_
  refine lv_icmp_gt (tgt := 40) C.1 C.2.1 dX4_init_18 rfl (fun hc => absurd hc (by decide)) (fun hc => ?_)
  refine lv_aload_n C.1 C.2.1 dX4_init_21 rfl (lv_at hl 1 rfl) ?_
  refine n_get (fs := [.ref (z + 18), .int (hpI 0), .int (hpI 0), .int (hpI 0), .int (hpI 0), .int (hpI 0), .int (hpI 0), .int (hpI 0), .int (hpI 0)]) C O4 0 (by decide) hp8_17 (by decide) wd_179 rfl hP dX4_init_22 ?_
  refine lv_iload_n C.1 C.2.1 dX4_init_25 rfl (lv_at hl 0 rfl) ?_
  refine n_size (n := 25) h0 rfl hS hP (fun hsz => ?_)
  refine n_new (fs := [.null, .null, .int (hpI 0), .int (hpI 0), .int (hpI 0)]) C O3 bl_3 wd_145 wd_147 wd_5 hP hS hsz (Nat.le_of_ble_eq_true rfl) (Nat.le_of_ble_eq_true rfl) dX4_init_26 (fun H hP hS => ?_)
  obtain ⟨E9, e9⟩ : ∃ F, F = va_up E8 25 (.inr (3, [.null, .null, .int (hpI 0), .int (hpI 0), .int (hpI 0)])) := ⟨_, rfl⟩
  rw [← e9] at hP
  have hO9 : ∀ j, j < 17 → E9 j = E0 j := fun j h => by rw [e9]; exact (hp_ne (by omega)).trans (hO8 j h)
  have hp9_17 : E9 17 = .inr (4, [.ref (z + 18), .int (hpI 0), .int (hpI 0), .int (hpI 0), .int (hpI 0), .int (hpI 0), .int (hpI 0), .int (hpI 0), .int (hpI 0)]) := by rw [e9, hp_ne (by decide)]; exact hp8_17
  have hp9_18 : E9 18 = .inl (cy 15, 17, .inr (.inr (.inr (.inr (va_up (va_up (fun _ => none) 0 (some (z + 19))) 1 (some (z + 22))))))) := by rw [e9, hp_ne (by decide)]; exact hp8_18
  have hp9_25 : E9 25 = .inr (3, [.null, .null, .int (hpI 0), .int (hpI 0), .int (hpI 0)]) := by rw [e9, hp_at]
  have hD9 : ∀ j, 17 < j → j < 26 → j ≠ 18 → j ≠ 25 → E9 j = hpE z cy j (hp0 j) := fun j h1 h2 hn18 hn25 => by
    rw [e9, hp_ne (by omega)]; exact hD8 j h1 (by omega) hn18
  refine lv_dup C.1 C.2.1 dX4_init_29 rfl ?_
  refine n_size (n := 26) h0 rfl hS hP (fun hsz => ?_)
  refine n_ctorN C A yk_3 nw_148 (kX3_25 l D cy z _ hp9_25) hl hP hS hsz ⟨rfl, rfl, Nat.le_of_ble_eq_true rfl, Nat.le_of_ble_eq_true rfl⟩ ⟨Nat.le_of_ble_eq_true rfl, Nat.le_of_ble_eq_true rfl⟩ (Nat.le_of_ble_eq_true rfl) dX4_init_30 (fun H locs E10 hP hS hj10 hi10 => ?_)
  have hO10 : ∀ j, j < 17 → E10 j = E0 j := fun j h => (hj10 j (by omega)).trans (hO9 j h)
  have hp10_17 : E10 17 = .inr (4, [.ref (z + 18), .int (hpI 0), .int (hpI 0), .int (hpI 0), .int (hpI 0), .int (hpI 0), .int (hpI 0), .int (hpI 0), .int (hpI 0)]) := (hj10 17 (by decide)).trans hp9_17
  have hp10_18 : E10 18 = .inl (cy 15, 17, .inr (.inr (.inr (.inr (va_up (va_up (fun _ => none) 0 (some (z + 19))) 1 (some (z + 22))))))) := (hj10 18 (by decide)).trans hp9_18
  have hD10 : ∀ j, 17 < j → j < 28 → j ≠ 18 → E10 j = hpE z cy j (hp0 j) := fun j h1 h2 hn18 => by
    rcases Nat.lt_or_ge j 25 with h | h
    · exact (hj10 j h).trans (hD9 j h1 (by omega) hn18 (by omega))
    · exact hi10 j h h2
  refine n_aast (c0 := 15) (t0 := 5) C O3 (by decide) (by decide) hp10_18 rfl ((hD10 25 (by decide) (by decide) (by decide)).trans eo_25) 2 rfl (by decide) (by decide) hP hS dX4_init_33 (fun H locs hP hS => ?_)
  obtain ⟨E11, e11⟩ : ∃ F, F = va_up E10 18 (.inl (cy 15, 17, .inr (.inr (.inr (.inr (va_up (va_up (va_up (fun _ => none) 0 (some (z + 19))) 1 (some (z + 22))) 2 (some (z + 25)))))))) := ⟨_, rfl⟩
  rw [← e11] at hP
  have hO11 : ∀ j, j < 17 → E11 j = E0 j := fun j h => by rw [e11]; exact (hp_ne (by omega)).trans (hO10 j h)
  have hp11_17 : E11 17 = .inr (4, [.ref (z + 18), .int (hpI 0), .int (hpI 0), .int (hpI 0), .int (hpI 0), .int (hpI 0), .int (hpI 0), .int (hpI 0), .int (hpI 0)]) := by rw [e11, hp_ne (by decide)]; exact hp10_17
  have hp11_18 : E11 18 = .inl (cy 15, 17, .inr (.inr (.inr (.inr (va_up (va_up (va_up (fun _ => none) 0 (some (z + 19))) 1 (some (z + 22))) 2 (some (z + 25))))))) := by rw [e11, hp_at]
  have hD11 : ∀ j, 17 < j → j < 28 → j ≠ 18 → E11 j = hpE z cy j (hp0 j) := fun j h1 h2 hn18 => by
    rw [e11, hp_ne (by omega)]; exact hD10 j h1 (by omega) hn18
  refine lv_iinc (v := hpI 3) (lv' := [(1, .int (hpI 3)), (0, .ref (z + 17))]) C.1 C.2.1 dX4_init_34 hl (k := 0) rfl (by decide) (by decide) rfl (fun ls hl => ?_)
  refine lv_goto (tgt := 15) C.1 C.2.1 dX4_init_37 rfl ?_
  refine lv_iload_n C.1 C.2.1 dX4_init_15 rfl (lv_at hl 0 rfl) ?_
  refine lv_bipush (v := hpI 16) C.1 C.2.1 dX4_init_16 (by decide) ?_
  refine lv_icmp_gt (tgt := 40) C.1 C.2.1 dX4_init_18 rfl (fun hc => absurd hc (by decide)) (fun hc => ?_)
  refine lv_aload_n C.1 C.2.1 dX4_init_21 rfl (lv_at hl 1 rfl) ?_
  refine n_get (fs := [.ref (z + 18), .int (hpI 0), .int (hpI 0), .int (hpI 0), .int (hpI 0), .int (hpI 0), .int (hpI 0), .int (hpI 0), .int (hpI 0)]) C O4 0 (by decide) hp11_17 (by decide) wd_179 rfl hP dX4_init_22 ?_
  refine lv_iload_n C.1 C.2.1 dX4_init_25 rfl (lv_at hl 0 rfl) ?_
  refine n_size (n := 28) h0 rfl hS hP (fun hsz => ?_)
  refine n_new (fs := [.null, .null, .int (hpI 0), .int (hpI 0), .int (hpI 0)]) C O3 bl_3 wd_145 wd_147 wd_5 hP hS hsz (Nat.le_of_ble_eq_true rfl) (Nat.le_of_ble_eq_true rfl) dX4_init_26 (fun H hP hS => ?_)
  obtain ⟨E12, e12⟩ : ∃ F, F = va_up E11 28 (.inr (3, [.null, .null, .int (hpI 0), .int (hpI 0), .int (hpI 0)])) := ⟨_, rfl⟩
  rw [← e12] at hP
  have hO12 : ∀ j, j < 17 → E12 j = E0 j := fun j h => by rw [e12]; exact (hp_ne (by omega)).trans (hO11 j h)
  have hp12_17 : E12 17 = .inr (4, [.ref (z + 18), .int (hpI 0), .int (hpI 0), .int (hpI 0), .int (hpI 0), .int (hpI 0), .int (hpI 0), .int (hpI 0), .int (hpI 0)]) := by rw [e12, hp_ne (by decide)]; exact hp11_17
  have hp12_18 : E12 18 = .inl (cy 15, 17, .inr (.inr (.inr (.inr (va_up (va_up (va_up (fun _ => none) 0 (some (z + 19))) 1 (some (z + 22))) 2 (some (z + 25))))))) := by rw [e12, hp_ne (by decide)]; exact hp11_18
  have hp12_28 : E12 28 = .inr (3, [.null, .null, .int (hpI 0), .int (hpI 0), .int (hpI 0)]) := by rw [e12, hp_at]
  have hD12 : ∀ j, 17 < j → j < 29 → j ≠ 18 → j ≠ 28 → E12 j = hpE z cy j (hp0 j) := fun j h1 h2 hn18 hn28 => by
    rw [e12, hp_ne (by omega)]; exact hD11 j h1 (by omega) hn18
  refine lv_dup C.1 C.2.1 dX4_init_29 rfl ?_
  refine n_size (n := 29) h0 rfl hS hP (fun hsz => ?_)
  refine n_ctorN C A yk_3 nw_148 (kX3_28 l D cy z _ hp12_28) hl hP hS hsz ⟨rfl, rfl, Nat.le_of_ble_eq_true rfl, Nat.le_of_ble_eq_true rfl⟩ ⟨Nat.le_of_ble_eq_true rfl, Nat.le_of_ble_eq_true rfl⟩ (Nat.le_of_ble_eq_true rfl) dX4_init_30 (fun H locs E13 hP hS hj13 hi13 => ?_)
  have hO13 : ∀ j, j < 17 → E13 j = E0 j := fun j h => (hj13 j (by omega)).trans (hO12 j h)
  have hp13_17 : E13 17 = .inr (4, [.ref (z + 18), .int (hpI 0), .int (hpI 0), .int (hpI 0), .int (hpI 0), .int (hpI 0), .int (hpI 0), .int (hpI 0), .int (hpI 0)]) := (hj13 17 (by decide)).trans hp12_17
  have hp13_18 : E13 18 = .inl (cy 15, 17, .inr (.inr (.inr (.inr (va_up (va_up (va_up (fun _ => none) 0 (some (z + 19))) 1 (some (z + 22))) 2 (some (z + 25))))))) := (hj13 18 (by decide)).trans hp12_18
  have hD13 : ∀ j, 17 < j → j < 31 → j ≠ 18 → E13 j = hpE z cy j (hp0 j) := fun j h1 h2 hn18 => by
    rcases Nat.lt_or_ge j 28 with h | h
    · exact (hj13 j h).trans (hD12 j h1 (by omega) hn18 (by omega))
    · exact hi13 j h h2
  refine n_aast (c0 := 15) (t0 := 5) C O3 (by decide) (by decide) hp13_18 rfl ((hD13 28 (by decide) (by decide) (by decide)).trans eo_28) 3 rfl (by decide) (by decide) hP hS dX4_init_33 (fun H locs hP hS => ?_)
  obtain ⟨E14, e14⟩ : ∃ F, F = va_up E13 18 (.inl (cy 15, 17, .inr (.inr (.inr (.inr (va_up (va_up (va_up (va_up (fun _ => none) 0 (some (z + 19))) 1 (some (z + 22))) 2 (some (z + 25))) 3 (some (z + 28)))))))) := ⟨_, rfl⟩
  rw [← e14] at hP
  have hO14 : ∀ j, j < 17 → E14 j = E0 j := fun j h => by rw [e14]; exact (hp_ne (by omega)).trans (hO13 j h)
  have hp14_17 : E14 17 = .inr (4, [.ref (z + 18), .int (hpI 0), .int (hpI 0), .int (hpI 0), .int (hpI 0), .int (hpI 0), .int (hpI 0), .int (hpI 0), .int (hpI 0)]) := by rw [e14, hp_ne (by decide)]; exact hp13_17
  have hp14_18 : E14 18 = .inl (cy 15, 17, .inr (.inr (.inr (.inr (va_up (va_up (va_up (va_up (fun _ => none) 0 (some (z + 19))) 1 (some (z + 22))) 2 (some (z + 25))) 3 (some (z + 28))))))) := by rw [e14, hp_at]
  have hD14 : ∀ j, 17 < j → j < 31 → j ≠ 18 → E14 j = hpE z cy j (hp0 j) := fun j h1 h2 hn18 => by
    rw [e14, hp_ne (by omega)]; exact hD13 j h1 (by omega) hn18
  refine lv_iinc (v := hpI 4) (lv' := [(1, .int (hpI 4)), (0, .ref (z + 17))]) C.1 C.2.1 dX4_init_34 hl (k := 0) rfl (by decide) (by decide) rfl (fun ls hl => ?_)
  refine lv_goto (tgt := 15) C.1 C.2.1 dX4_init_37 rfl ?_
  refine lv_iload_n C.1 C.2.1 dX4_init_15 rfl (lv_at hl 0 rfl) ?_
  refine lv_bipush (v := hpI 16) C.1 C.2.1 dX4_init_16 (by decide) ?_
  refine lv_icmp_gt (tgt := 40) C.1 C.2.1 dX4_init_18 rfl (fun hc => absurd hc (by decide)) (fun hc => ?_)
  refine lv_aload_n C.1 C.2.1 dX4_init_21 rfl (lv_at hl 1 rfl) ?_
  refine n_get (fs := [.ref (z + 18), .int (hpI 0), .int (hpI 0), .int (hpI 0), .int (hpI 0), .int (hpI 0), .int (hpI 0), .int (hpI 0), .int (hpI 0)]) C O4 0 (by decide) hp14_17 (by decide) wd_179 rfl hP dX4_init_22 ?_
  refine lv_iload_n C.1 C.2.1 dX4_init_25 rfl (lv_at hl 0 rfl) ?_
  refine n_size (n := 31) h0 rfl hS hP (fun hsz => ?_)
  refine n_new (fs := [.null, .null, .int (hpI 0), .int (hpI 0), .int (hpI 0)]) C O3 bl_3 wd_145 wd_147 wd_5 hP hS hsz (Nat.le_of_ble_eq_true rfl) (Nat.le_of_ble_eq_true rfl) dX4_init_26 (fun H hP hS => ?_)
  obtain ⟨E15, e15⟩ : ∃ F, F = va_up E14 31 (.inr (3, [.null, .null, .int (hpI 0), .int (hpI 0), .int (hpI 0)])) := ⟨_, rfl⟩
  rw [← e15] at hP
  have hO15 : ∀ j, j < 17 → E15 j = E0 j := fun j h => by rw [e15]; exact (hp_ne (by omega)).trans (hO14 j h)
  have hp15_17 : E15 17 = .inr (4, [.ref (z + 18), .int (hpI 0), .int (hpI 0), .int (hpI 0), .int (hpI 0), .int (hpI 0), .int (hpI 0), .int (hpI 0), .int (hpI 0)]) := by rw [e15, hp_ne (by decide)]; exact hp14_17
  have hp15_18 : E15 18 = .inl (cy 15, 17, .inr (.inr (.inr (.inr (va_up (va_up (va_up (va_up (fun _ => none) 0 (some (z + 19))) 1 (some (z + 22))) 2 (some (z + 25))) 3 (some (z + 28))))))) := by rw [e15, hp_ne (by decide)]; exact hp14_18
  have hp15_31 : E15 31 = .inr (3, [.null, .null, .int (hpI 0), .int (hpI 0), .int (hpI 0)]) := by rw [e15, hp_at]
  have hD15 : ∀ j, 17 < j → j < 32 → j ≠ 18 → j ≠ 31 → E15 j = hpE z cy j (hp0 j) := fun j h1 h2 hn18 hn31 => by
    rw [e15, hp_ne (by omega)]; exact hD14 j h1 (by omega) hn18
  refine lv_dup C.1 C.2.1 dX4_init_29 rfl ?_
  refine n_size (n := 32) h0 rfl hS hP (fun hsz => ?_)
  refine n_ctorN C A yk_3 nw_148 (kX3_31 l D cy z _ hp15_31) hl hP hS hsz ⟨rfl, rfl, Nat.le_of_ble_eq_true rfl, Nat.le_of_ble_eq_true rfl⟩ ⟨Nat.le_of_ble_eq_true rfl, Nat.le_of_ble_eq_true rfl⟩ (Nat.le_of_ble_eq_true rfl) dX4_init_30 (fun H locs E16 hP hS hj16 hi16 => ?_)
  have hO16 : ∀ j, j < 17 → E16 j = E0 j := fun j h => (hj16 j (by omega)).trans (hO15 j h)
  have hp16_17 : E16 17 = .inr (4, [.ref (z + 18), .int (hpI 0), .int (hpI 0), .int (hpI 0), .int (hpI 0), .int (hpI 0), .int (hpI 0), .int (hpI 0), .int (hpI 0)]) := (hj16 17 (by decide)).trans hp15_17
  have hp16_18 : E16 18 = .inl (cy 15, 17, .inr (.inr (.inr (.inr (va_up (va_up (va_up (va_up (fun _ => none) 0 (some (z + 19))) 1 (some (z + 22))) 2 (some (z + 25))) 3 (some (z + 28))))))) := (hj16 18 (by decide)).trans hp15_18
  have hD16 : ∀ j, 17 < j → j < 34 → j ≠ 18 → E16 j = hpE z cy j (hp0 j) := fun j h1 h2 hn18 => by
    rcases Nat.lt_or_ge j 31 with h | h
    · exact (hj16 j h).trans (hD15 j h1 (by omega) hn18 (by omega))
    · exact hi16 j h h2
  refine n_aast (c0 := 15) (t0 := 5) C O3 (by decide) (by decide) hp16_18 rfl ((hD16 31 (by decide) (by decide) (by decide)).trans eo_31) 4 rfl (by decide) (by decide) hP hS dX4_init_33 (fun H locs hP hS => ?_)
  obtain ⟨E17, e17⟩ : ∃ F, F = va_up E16 18 (.inl (cy 15, 17, .inr (.inr (.inr (.inr (va_up (va_up (va_up (va_up (va_up (fun _ => none) 0 (some (z + 19))) 1 (some (z + 22))) 2 (some (z + 25))) 3 (some (z + 28))) 4 (some (z + 31)))))))) := ⟨_, rfl⟩
  rw [← e17] at hP
  have hO17 : ∀ j, j < 17 → E17 j = E0 j := fun j h => by rw [e17]; exact (hp_ne (by omega)).trans (hO16 j h)
  have hp17_17 : E17 17 = .inr (4, [.ref (z + 18), .int (hpI 0), .int (hpI 0), .int (hpI 0), .int (hpI 0), .int (hpI 0), .int (hpI 0), .int (hpI 0), .int (hpI 0)]) := by rw [e17, hp_ne (by decide)]; exact hp16_17
  have hp17_18 : E17 18 = .inl (cy 15, 17, .inr (.inr (.inr (.inr (va_up (va_up (va_up (va_up (va_up (fun _ => none) 0 (some (z + 19))) 1 (some (z + 22))) 2 (some (z + 25))) 3 (some (z + 28))) 4 (some (z + 31))))))) := by rw [e17, hp_at]
  have hD17 : ∀ j, 17 < j → j < 34 → j ≠ 18 → E17 j = hpE z cy j (hp0 j) := fun j h1 h2 hn18 => by
    rw [e17, hp_ne (by omega)]; exact hD16 j h1 (by omega) hn18
  refine lv_iinc (v := hpI 5) (lv' := [(1, .int (hpI 5)), (0, .ref (z + 17))]) C.1 C.2.1 dX4_init_34 hl (k := 0) rfl (by decide) (by decide) rfl (fun ls hl => ?_)
  refine lv_goto (tgt := 15) C.1 C.2.1 dX4_init_37 rfl ?_
  refine lv_iload_n C.1 C.2.1 dX4_init_15 rfl (lv_at hl 0 rfl) ?_
  refine lv_bipush (v := hpI 16) C.1 C.2.1 dX4_init_16 (by decide) ?_
  refine lv_icmp_gt (tgt := 40) C.1 C.2.1 dX4_init_18 rfl (fun hc => absurd hc (by decide)) (fun hc => ?_)
  refine lv_aload_n C.1 C.2.1 dX4_init_21 rfl (lv_at hl 1 rfl) ?_
  refine n_get (fs := [.ref (z + 18), .int (hpI 0), .int (hpI 0), .int (hpI 0), .int (hpI 0), .int (hpI 0), .int (hpI 0), .int (hpI 0), .int (hpI 0)]) C O4 0 (by decide) hp17_17 (by decide) wd_179 rfl hP dX4_init_22 ?_
  refine lv_iload_n C.1 C.2.1 dX4_init_25 rfl (lv_at hl 0 rfl) ?_
  refine n_size (n := 34) h0 rfl hS hP (fun hsz => ?_)
  refine n_new (fs := [.null, .null, .int (hpI 0), .int (hpI 0), .int (hpI 0)]) C O3 bl_3 wd_145 wd_147 wd_5 hP hS hsz (Nat.le_of_ble_eq_true rfl) (Nat.le_of_ble_eq_true rfl) dX4_init_26 (fun H hP hS => ?_)
  obtain ⟨E18, e18⟩ : ∃ F, F = va_up E17 34 (.inr (3, [.null, .null, .int (hpI 0), .int (hpI 0), .int (hpI 0)])) := ⟨_, rfl⟩
  rw [← e18] at hP
  have hO18 : ∀ j, j < 17 → E18 j = E0 j := fun j h => by rw [e18]; exact (hp_ne (by omega)).trans (hO17 j h)
  have hp18_17 : E18 17 = .inr (4, [.ref (z + 18), .int (hpI 0), .int (hpI 0), .int (hpI 0), .int (hpI 0), .int (hpI 0), .int (hpI 0), .int (hpI 0), .int (hpI 0)]) := by rw [e18, hp_ne (by decide)]; exact hp17_17
  have hp18_18 : E18 18 = .inl (cy 15, 17, .inr (.inr (.inr (.inr (va_up (va_up (va_up (va_up (va_up (fun _ => none) 0 (some (z + 19))) 1 (some (z + 22))) 2 (some (z + 25))) 3 (some (z + 28))) 4 (some (z + 31))))))) := by rw [e18, hp_ne (by decide)]; exact hp17_18
  have hp18_34 : E18 34 = .inr (3, [.null, .null, .int (hpI 0), .int (hpI 0), .int (hpI 0)]) := by rw [e18, hp_at]
  have hD18 : ∀ j, 17 < j → j < 35 → j ≠ 18 → j ≠ 34 → E18 j = hpE z cy j (hp0 j) := fun j h1 h2 hn18 hn34 => by
    rw [e18, hp_ne (by omega)]; exact hD17 j h1 (by omega) hn18
  refine lv_dup C.1 C.2.1 dX4_init_29 rfl ?_
  refine n_size (n := 35) h0 rfl hS hP (fun hsz => ?_)
  refine n_ctorN C A yk_3 nw_148 (kX3_34 l D cy z _ hp18_34) hl hP hS hsz ⟨rfl, rfl, Nat.le_of_ble_eq_true rfl, Nat.le_of_ble_eq_true rfl⟩ ⟨Nat.le_of_ble_eq_true rfl, Nat.le_of_ble_eq_true rfl⟩ (Nat.le_of_ble_eq_true rfl) dX4_init_30 (fun H locs E19 hP hS hj19 hi19 => ?_)
  have hO19 : ∀ j, j < 17 → E19 j = E0 j := fun j h => (hj19 j (by omega)).trans (hO18 j h)
  have hp19_17 : E19 17 = .inr (4, [.ref (z + 18), .int (hpI 0), .int (hpI 0), .int (hpI 0), .int (hpI 0), .int (hpI 0), .int (hpI 0), .int (hpI 0), .int (hpI 0)]) := (hj19 17 (by decide)).trans hp18_17
  have hp19_18 : E19 18 = .inl (cy 15, 17, .inr (.inr (.inr (.inr (va_up (va_up (va_up (va_up (va_up (fun _ => none) 0 (some (z + 19))) 1 (some (z + 22))) 2 (some (z + 25))) 3 (some (z + 28))) 4 (some (z + 31))))))) := (hj19 18 (by decide)).trans hp18_18
  have hD19 : ∀ j, 17 < j → j < 37 → j ≠ 18 → E19 j = hpE z cy j (hp0 j) := fun j h1 h2 hn18 => by
    rcases Nat.lt_or_ge j 34 with h | h
    · exact (hj19 j h).trans (hD18 j h1 (by omega) hn18 (by omega))
    · exact hi19 j h h2
  refine n_aast (c0 := 15) (t0 := 5) C O3 (by decide) (by decide) hp19_18 rfl ((hD19 34 (by decide) (by decide) (by decide)).trans eo_34) 5 rfl (by decide) (by decide) hP hS dX4_init_33 (fun H locs hP hS => ?_)
  obtain ⟨E20, e20⟩ : ∃ F, F = va_up E19 18 (.inl (cy 15, 17, .inr (.inr (.inr (.inr (va_up (va_up (va_up (va_up (va_up (va_up (fun _ => none) 0 (some (z + 19))) 1 (some (z + 22))) 2 (some (z + 25))) 3 (some (z + 28))) 4 (some (z + 31))) 5 (some (z + 34)))))))) := ⟨_, rfl⟩
  rw [← e20] at hP
  have hO20 : ∀ j, j < 17 → E20 j = E0 j := fun j h => by rw [e20]; exact (hp_ne (by omega)).trans (hO19 j h)
  have hp20_17 : E20 17 = .inr (4, [.ref (z + 18), .int (hpI 0), .int (hpI 0), .int (hpI 0), .int (hpI 0), .int (hpI 0), .int (hpI 0), .int (hpI 0), .int (hpI 0)]) := by rw [e20, hp_ne (by decide)]; exact hp19_17
  have hp20_18 : E20 18 = .inl (cy 15, 17, .inr (.inr (.inr (.inr (va_up (va_up (va_up (va_up (va_up (va_up (fun _ => none) 0 (some (z + 19))) 1 (some (z + 22))) 2 (some (z + 25))) 3 (some (z + 28))) 4 (some (z + 31))) 5 (some (z + 34))))))) := by rw [e20, hp_at]
  have hD20 : ∀ j, 17 < j → j < 37 → j ≠ 18 → E20 j = hpE z cy j (hp0 j) := fun j h1 h2 hn18 => by
    rw [e20, hp_ne (by omega)]; exact hD19 j h1 (by omega) hn18
  refine lv_iinc (v := hpI 6) (lv' := [(1, .int (hpI 6)), (0, .ref (z + 17))]) C.1 C.2.1 dX4_init_34 hl (k := 0) rfl (by decide) (by decide) rfl (fun ls hl => ?_)
  refine lv_goto (tgt := 15) C.1 C.2.1 dX4_init_37 rfl ?_
  refine lv_iload_n C.1 C.2.1 dX4_init_15 rfl (lv_at hl 0 rfl) ?_
  refine lv_bipush (v := hpI 16) C.1 C.2.1 dX4_init_16 (by decide) ?_
  refine lv_icmp_gt (tgt := 40) C.1 C.2.1 dX4_init_18 rfl (fun hc => absurd hc (by decide)) (fun hc => ?_)
  refine lv_aload_n C.1 C.2.1 dX4_init_21 rfl (lv_at hl 1 rfl) ?_
  refine n_get (fs := [.ref (z + 18), .int (hpI 0), .int (hpI 0), .int (hpI 0), .int (hpI 0), .int (hpI 0), .int (hpI 0), .int (hpI 0), .int (hpI 0)]) C O4 0 (by decide) hp20_17 (by decide) wd_179 rfl hP dX4_init_22 ?_
  refine lv_iload_n C.1 C.2.1 dX4_init_25 rfl (lv_at hl 0 rfl) ?_
  refine n_size (n := 37) h0 rfl hS hP (fun hsz => ?_)
  refine n_new (fs := [.null, .null, .int (hpI 0), .int (hpI 0), .int (hpI 0)]) C O3 bl_3 wd_145 wd_147 wd_5 hP hS hsz (Nat.le_of_ble_eq_true rfl) (Nat.le_of_ble_eq_true rfl) dX4_init_26 (fun H hP hS => ?_)
  obtain ⟨E21, e21⟩ : ∃ F, F = va_up E20 37 (.inr (3, [.null, .null, .int (hpI 0), .int (hpI 0), .int (hpI 0)])) := ⟨_, rfl⟩
  rw [← e21] at hP
  have hO21 : ∀ j, j < 17 → E21 j = E0 j := fun j h => by rw [e21]; exact (hp_ne (by omega)).trans (hO20 j h)
  have hp21_17 : E21 17 = .inr (4, [.ref (z + 18), .int (hpI 0), .int (hpI 0), .int (hpI 0), .int (hpI 0), .int (hpI 0), .int (hpI 0), .int (hpI 0), .int (hpI 0)]) := by rw [e21, hp_ne (by decide)]; exact hp20_17
  have hp21_18 : E21 18 = .inl (cy 15, 17, .inr (.inr (.inr (.inr (va_up (va_up (va_up (va_up (va_up (va_up (fun _ => none) 0 (some (z + 19))) 1 (some (z + 22))) 2 (some (z + 25))) 3 (some (z + 28))) 4 (some (z + 31))) 5 (some (z + 34))))))) := by rw [e21, hp_ne (by decide)]; exact hp20_18
  have hp21_37 : E21 37 = .inr (3, [.null, .null, .int (hpI 0), .int (hpI 0), .int (hpI 0)]) := by rw [e21, hp_at]
  have hD21 : ∀ j, 17 < j → j < 38 → j ≠ 18 → j ≠ 37 → E21 j = hpE z cy j (hp0 j) := fun j h1 h2 hn18 hn37 => by
    rw [e21, hp_ne (by omega)]; exact hD20 j h1 (by omega) hn18
  refine lv_dup C.1 C.2.1 dX4_init_29 rfl ?_
  refine n_size (n := 38) h0 rfl hS hP (fun hsz => ?_)
  refine n_ctorN C A yk_3 nw_148 (kX3_37 l D cy z _ hp21_37) hl hP hS hsz ⟨rfl, rfl, Nat.le_of_ble_eq_true rfl, Nat.le_of_ble_eq_true rfl⟩ ⟨Nat.le_of_ble_eq_true rfl, Nat.le_of_ble_eq_true rfl⟩ (Nat.le_of_ble_eq_true rfl) dX4_init_30 (fun H locs E22 hP hS hj22 hi22 => ?_)
  have hO22 : ∀ j, j < 17 → E22 j = E0 j := fun j h => (hj22 j (by omega)).trans (hO21 j h)
  have hp22_17 : E22 17 = .inr (4, [.ref (z + 18), .int (hpI 0), .int (hpI 0), .int (hpI 0), .int (hpI 0), .int (hpI 0), .int (hpI 0), .int (hpI 0), .int (hpI 0)]) := (hj22 17 (by decide)).trans hp21_17
  have hp22_18 : E22 18 = .inl (cy 15, 17, .inr (.inr (.inr (.inr (va_up (va_up (va_up (va_up (va_up (va_up (fun _ => none) 0 (some (z + 19))) 1 (some (z + 22))) 2 (some (z + 25))) 3 (some (z + 28))) 4 (some (z + 31))) 5 (some (z + 34))))))) := (hj22 18 (by decide)).trans hp21_18
  have hD22 : ∀ j, 17 < j → j < 40 → j ≠ 18 → E22 j = hpE z cy j (hp0 j) := fun j h1 h2 hn18 => by
    rcases Nat.lt_or_ge j 37 with h | h
    · exact (hj22 j h).trans (hD21 j h1 (by omega) hn18 (by omega))
    · exact hi22 j h h2
  refine n_aast (c0 := 15) (t0 := 5) C O3 (by decide) (by decide) hp22_18 rfl ((hD22 37 (by decide) (by decide) (by decide)).trans eo_37) 6 rfl (by decide) (by decide) hP hS dX4_init_33 (fun H locs hP hS => ?_)
  obtain ⟨E23, e23⟩ : ∃ F, F = va_up E22 18 (.inl (cy 15, 17, .inr (.inr (.inr (.inr (va_up (va_up (va_up (va_up (va_up (va_up (va_up (fun _ => none) 0 (some (z + 19))) 1 (some (z + 22))) 2 (some (z + 25))) 3 (some (z + 28))) 4 (some (z + 31))) 5 (some (z + 34))) 6 (some (z + 37)))))))) := ⟨_, rfl⟩
  rw [← e23] at hP
  have hO23 : ∀ j, j < 17 → E23 j = E0 j := fun j h => by rw [e23]; exact (hp_ne (by omega)).trans (hO22 j h)
  have hp23_17 : E23 17 = .inr (4, [.ref (z + 18), .int (hpI 0), .int (hpI 0), .int (hpI 0), .int (hpI 0), .int (hpI 0), .int (hpI 0), .int (hpI 0), .int (hpI 0)]) := by rw [e23, hp_ne (by decide)]; exact hp22_17
  have hp23_18 : E23 18 = .inl (cy 15, 17, .inr (.inr (.inr (.inr (va_up (va_up (va_up (va_up (va_up (va_up (va_up (fun _ => none) 0 (some (z + 19))) 1 (some (z + 22))) 2 (some (z + 25))) 3 (some (z + 28))) 4 (some (z + 31))) 5 (some (z + 34))) 6 (some (z + 37))))))) := by rw [e23, hp_at]
  have hD23 : ∀ j, 17 < j → j < 40 → j ≠ 18 → E23 j = hpE z cy j (hp0 j) := fun j h1 h2 hn18 => by
    rw [e23, hp_ne (by omega)]; exact hD22 j h1 (by omega) hn18
  refine lv_iinc (v := hpI 7) (lv' := [(1, .int (hpI 7)), (0, .ref (z + 17))]) C.1 C.2.1 dX4_init_34 hl (k := 0) rfl (by decide) (by decide) rfl (fun ls hl => ?_)
  refine lv_goto (tgt := 15) C.1 C.2.1 dX4_init_37 rfl ?_
  refine lv_iload_n C.1 C.2.1 dX4_init_15 rfl (lv_at hl 0 rfl) ?_
  refine lv_bipush (v := hpI 16) C.1 C.2.1 dX4_init_16 (by decide) ?_
  refine lv_icmp_gt (tgt := 40) C.1 C.2.1 dX4_init_18 rfl (fun hc => absurd hc (by decide)) (fun hc => ?_)
  refine lv_aload_n C.1 C.2.1 dX4_init_21 rfl (lv_at hl 1 rfl) ?_
  refine n_get (fs := [.ref (z + 18), .int (hpI 0), .int (hpI 0), .int (hpI 0), .int (hpI 0), .int (hpI 0), .int (hpI 0), .int (hpI 0), .int (hpI 0)]) C O4 0 (by decide) hp23_17 (by decide) wd_179 rfl hP dX4_init_22 ?_
  refine lv_iload_n C.1 C.2.1 dX4_init_25 rfl (lv_at hl 0 rfl) ?_
  refine n_size (n := 40) h0 rfl hS hP (fun hsz => ?_)
  refine n_new (fs := [.null, .null, .int (hpI 0), .int (hpI 0), .int (hpI 0)]) C O3 bl_3 wd_145 wd_147 wd_5 hP hS hsz (Nat.le_of_ble_eq_true rfl) (Nat.le_of_ble_eq_true rfl) dX4_init_26 (fun H hP hS => ?_)
  obtain ⟨E24, e24⟩ : ∃ F, F = va_up E23 40 (.inr (3, [.null, .null, .int (hpI 0), .int (hpI 0), .int (hpI 0)])) := ⟨_, rfl⟩
  rw [← e24] at hP
  have hO24 : ∀ j, j < 17 → E24 j = E0 j := fun j h => by rw [e24]; exact (hp_ne (by omega)).trans (hO23 j h)
  have hp24_17 : E24 17 = .inr (4, [.ref (z + 18), .int (hpI 0), .int (hpI 0), .int (hpI 0), .int (hpI 0), .int (hpI 0), .int (hpI 0), .int (hpI 0), .int (hpI 0)]) := by rw [e24, hp_ne (by decide)]; exact hp23_17
  have hp24_18 : E24 18 = .inl (cy 15, 17, .inr (.inr (.inr (.inr (va_up (va_up (va_up (va_up (va_up (va_up (va_up (fun _ => none) 0 (some (z + 19))) 1 (some (z + 22))) 2 (some (z + 25))) 3 (some (z + 28))) 4 (some (z + 31))) 5 (some (z + 34))) 6 (some (z + 37))))))) := by rw [e24, hp_ne (by decide)]; exact hp23_18
  have hp24_40 : E24 40 = .inr (3, [.null, .null, .int (hpI 0), .int (hpI 0), .int (hpI 0)]) := by rw [e24, hp_at]
  have hD24 : ∀ j, 17 < j → j < 41 → j ≠ 18 → j ≠ 40 → E24 j = hpE z cy j (hp0 j) := fun j h1 h2 hn18 hn40 => by
    rw [e24, hp_ne (by omega)]; exact hD23 j h1 (by omega) hn18
  refine lv_dup C.1 C.2.1 dX4_init_29 rfl ?_
  refine n_size (n := 41) h0 rfl hS hP (fun hsz => ?_)
  refine n_ctorN C A yk_3 nw_148 (kX3_40 l D cy z _ hp24_40) hl hP hS hsz ⟨rfl, rfl, Nat.le_of_ble_eq_true rfl, Nat.le_of_ble_eq_true rfl⟩ ⟨Nat.le_of_ble_eq_true rfl, Nat.le_of_ble_eq_true rfl⟩ (Nat.le_of_ble_eq_true rfl) dX4_init_30 (fun H locs E25 hP hS hj25 hi25 => ?_)
  have hO25 : ∀ j, j < 17 → E25 j = E0 j := fun j h => (hj25 j (by omega)).trans (hO24 j h)
  have hp25_17 : E25 17 = .inr (4, [.ref (z + 18), .int (hpI 0), .int (hpI 0), .int (hpI 0), .int (hpI 0), .int (hpI 0), .int (hpI 0), .int (hpI 0), .int (hpI 0)]) := (hj25 17 (by decide)).trans hp24_17
  have hp25_18 : E25 18 = .inl (cy 15, 17, .inr (.inr (.inr (.inr (va_up (va_up (va_up (va_up (va_up (va_up (va_up (fun _ => none) 0 (some (z + 19))) 1 (some (z + 22))) 2 (some (z + 25))) 3 (some (z + 28))) 4 (some (z + 31))) 5 (some (z + 34))) 6 (some (z + 37))))))) := (hj25 18 (by decide)).trans hp24_18
  have hD25 : ∀ j, 17 < j → j < 43 → j ≠ 18 → E25 j = hpE z cy j (hp0 j) := fun j h1 h2 hn18 => by
    rcases Nat.lt_or_ge j 40 with h | h
    · exact (hj25 j h).trans (hD24 j h1 (by omega) hn18 (by omega))
    · exact hi25 j h h2
  refine n_aast (c0 := 15) (t0 := 5) C O3 (by decide) (by decide) hp25_18 rfl ((hD25 40 (by decide) (by decide) (by decide)).trans eo_40) 7 rfl (by decide) (by decide) hP hS dX4_init_33 (fun H locs hP hS => ?_)
  obtain ⟨E26, e26⟩ : ∃ F, F = va_up E25 18 (.inl (cy 15, 17, .inr (.inr (.inr (.inr (va_up (va_up (va_up (va_up (va_up (va_up (va_up (va_up (fun _ => none) 0 (some (z + 19))) 1 (some (z + 22))) 2 (some (z + 25))) 3 (some (z + 28))) 4 (some (z + 31))) 5 (some (z + 34))) 6 (some (z + 37))) 7 (some (z + 40)))))))) := ⟨_, rfl⟩
  rw [← e26] at hP
  have hO26 : ∀ j, j < 17 → E26 j = E0 j := fun j h => by rw [e26]; exact (hp_ne (by omega)).trans (hO25 j h)
  have hp26_17 : E26 17 = .inr (4, [.ref (z + 18), .int (hpI 0), .int (hpI 0), .int (hpI 0), .int (hpI 0), .int (hpI 0), .int (hpI 0), .int (hpI 0), .int (hpI 0)]) := by rw [e26, hp_ne (by decide)]; exact hp25_17
  have hp26_18 : E26 18 = .inl (cy 15, 17, .inr (.inr (.inr (.inr (va_up (va_up (va_up (va_up (va_up (va_up (va_up (va_up (fun _ => none) 0 (some (z + 19))) 1 (some (z + 22))) 2 (some (z + 25))) 3 (some (z + 28))) 4 (some (z + 31))) 5 (some (z + 34))) 6 (some (z + 37))) 7 (some (z + 40))))))) := by rw [e26, hp_at]
  have hD26 : ∀ j, 17 < j → j < 43 → j ≠ 18 → E26 j = hpE z cy j (hp0 j) := fun j h1 h2 hn18 => by
    rw [e26, hp_ne (by omega)]; exact hD25 j h1 (by omega) hn18
  refine lv_iinc (v := hpI 8) (lv' := [(1, .int (hpI 8)), (0, .ref (z + 17))]) C.1 C.2.1 dX4_init_34 hl (k := 0) rfl (by decide) (by decide) rfl (fun ls hl => ?_)
  refine lv_goto (tgt := 15) C.1 C.2.1 dX4_init_37 rfl ?_
  refine lv_iload_n C.1 C.2.1 dX4_init_15 rfl (lv_at hl 0 rfl) ?_
  refine lv_bipush (v := hpI 16) C.1 C.2.1 dX4_init_16 (by decide) ?_
  refine lv_icmp_gt (tgt := 40) C.1 C.2.1 dX4_init_18 rfl (fun hc => absurd hc (by decide)) (fun hc => ?_)
  refine lv_aload_n C.1 C.2.1 dX4_init_21 rfl (lv_at hl 1 rfl) ?_
  refine n_get (fs := [.ref (z + 18), .int (hpI 0), .int (hpI 0), .int (hpI 0), .int (hpI 0), .int (hpI 0), .int (hpI 0), .int (hpI 0), .int (hpI 0)]) C O4 0 (by decide) hp26_17 (by decide) wd_179 rfl hP dX4_init_22 ?_
  refine lv_iload_n C.1 C.2.1 dX4_init_25 rfl (lv_at hl 0 rfl) ?_
  refine n_size (n := 43) h0 rfl hS hP (fun hsz => ?_)
  refine n_new (fs := [.null, .null, .int (hpI 0), .int (hpI 0), .int (hpI 0)]) C O3 bl_3 wd_145 wd_147 wd_5 hP hS hsz (Nat.le_of_ble_eq_true rfl) (Nat.le_of_ble_eq_true rfl) dX4_init_26 (fun H hP hS => ?_)
  obtain ⟨E27, e27⟩ : ∃ F, F = va_up E26 43 (.inr (3, [.null, .null, .int (hpI 0), .int (hpI 0), .int (hpI 0)])) := ⟨_, rfl⟩
  rw [← e27] at hP
  have hO27 : ∀ j, j < 17 → E27 j = E0 j := fun j h => by rw [e27]; exact (hp_ne (by omega)).trans (hO26 j h)
  have hp27_17 : E27 17 = .inr (4, [.ref (z + 18), .int (hpI 0), .int (hpI 0), .int (hpI 0), .int (hpI 0), .int (hpI 0), .int (hpI 0), .int (hpI 0), .int (hpI 0)]) := by rw [e27, hp_ne (by decide)]; exact hp26_17
  have hp27_18 : E27 18 = .inl (cy 15, 17, .inr (.inr (.inr (.inr (va_up (va_up (va_up (va_up (va_up (va_up (va_up (va_up (fun _ => none) 0 (some (z + 19))) 1 (some (z + 22))) 2 (some (z + 25))) 3 (some (z + 28))) 4 (some (z + 31))) 5 (some (z + 34))) 6 (some (z + 37))) 7 (some (z + 40))))))) := by rw [e27, hp_ne (by decide)]; exact hp26_18
  have hp27_43 : E27 43 = .inr (3, [.null, .null, .int (hpI 0), .int (hpI 0), .int (hpI 0)]) := by rw [e27, hp_at]
  have hD27 : ∀ j, 17 < j → j < 44 → j ≠ 18 → j ≠ 43 → E27 j = hpE z cy j (hp0 j) := fun j h1 h2 hn18 hn43 => by
    rw [e27, hp_ne (by omega)]; exact hD26 j h1 (by omega) hn18
  refine lv_dup C.1 C.2.1 dX4_init_29 rfl ?_
  refine n_size (n := 44) h0 rfl hS hP (fun hsz => ?_)
  refine n_ctorN C A yk_3 nw_148 (kX3_43 l D cy z _ hp27_43) hl hP hS hsz ⟨rfl, rfl, Nat.le_of_ble_eq_true rfl, Nat.le_of_ble_eq_true rfl⟩ ⟨Nat.le_of_ble_eq_true rfl, Nat.le_of_ble_eq_true rfl⟩ (Nat.le_of_ble_eq_true rfl) dX4_init_30 (fun H locs E28 hP hS hj28 hi28 => ?_)
  have hO28 : ∀ j, j < 17 → E28 j = E0 j := fun j h => (hj28 j (by omega)).trans (hO27 j h)
  have hp28_17 : E28 17 = .inr (4, [.ref (z + 18), .int (hpI 0), .int (hpI 0), .int (hpI 0), .int (hpI 0), .int (hpI 0), .int (hpI 0), .int (hpI 0), .int (hpI 0)]) := (hj28 17 (by decide)).trans hp27_17
  have hp28_18 : E28 18 = .inl (cy 15, 17, .inr (.inr (.inr (.inr (va_up (va_up (va_up (va_up (va_up (va_up (va_up (va_up (fun _ => none) 0 (some (z + 19))) 1 (some (z + 22))) 2 (some (z + 25))) 3 (some (z + 28))) 4 (some (z + 31))) 5 (some (z + 34))) 6 (some (z + 37))) 7 (some (z + 40))))))) := (hj28 18 (by decide)).trans hp27_18
  have hD28 : ∀ j, 17 < j → j < 46 → j ≠ 18 → E28 j = hpE z cy j (hp0 j) := fun j h1 h2 hn18 => by
    rcases Nat.lt_or_ge j 43 with h | h
    · exact (hj28 j h).trans (hD27 j h1 (by omega) hn18 (by omega))
    · exact hi28 j h h2
  refine n_aast (c0 := 15) (t0 := 5) C O3 (by decide) (by decide) hp28_18 rfl ((hD28 43 (by decide) (by decide) (by decide)).trans eo_43) 8 rfl (by decide) (by decide) hP hS dX4_init_33 (fun H locs hP hS => ?_)
  obtain ⟨E29, e29⟩ : ∃ F, F = va_up E28 18 (.inl (cy 15, 17, .inr (.inr (.inr (.inr (va_up (va_up (va_up (va_up (va_up (va_up (va_up (va_up (va_up (fun _ => none) 0 (some (z + 19))) 1 (some (z + 22))) 2 (some (z + 25))) 3 (some (z + 28))) 4 (some (z + 31))) 5 (some (z + 34))) 6 (some (z + 37))) 7 (some (z + 40))) 8 (some (z + 43)))))))) := ⟨_, rfl⟩
  rw [← e29] at hP
  have hO29 : ∀ j, j < 17 → E29 j = E0 j := fun j h => by rw [e29]; exact (hp_ne (by omega)).trans (hO28 j h)
  have hp29_17 : E29 17 = .inr (4, [.ref (z + 18), .int (hpI 0), .int (hpI 0), .int (hpI 0), .int (hpI 0), .int (hpI 0), .int (hpI 0), .int (hpI 0), .int (hpI 0)]) := by rw [e29, hp_ne (by decide)]; exact hp28_17
  have hp29_18 : E29 18 = .inl (cy 15, 17, .inr (.inr (.inr (.inr (va_up (va_up (va_up (va_up (va_up (va_up (va_up (va_up (va_up (fun _ => none) 0 (some (z + 19))) 1 (some (z + 22))) 2 (some (z + 25))) 3 (some (z + 28))) 4 (some (z + 31))) 5 (some (z + 34))) 6 (some (z + 37))) 7 (some (z + 40))) 8 (some (z + 43))))))) := by rw [e29, hp_at]
  have hD29 : ∀ j, 17 < j → j < 46 → j ≠ 18 → E29 j = hpE z cy j (hp0 j) := fun j h1 h2 hn18 => by
    rw [e29, hp_ne (by omega)]; exact hD28 j h1 (by omega) hn18
  refine lv_iinc (v := hpI 9) (lv' := [(1, .int (hpI 9)), (0, .ref (z + 17))]) C.1 C.2.1 dX4_init_34 hl (k := 0) rfl (by decide) (by decide) rfl (fun ls hl => ?_)
  refine lv_goto (tgt := 15) C.1 C.2.1 dX4_init_37 rfl ?_
  refine lv_iload_n C.1 C.2.1 dX4_init_15 rfl (lv_at hl 0 rfl) ?_
  refine lv_bipush (v := hpI 16) C.1 C.2.1 dX4_init_16 (by decide) ?_
  refine lv_icmp_gt (tgt := 40) C.1 C.2.1 dX4_init_18 rfl (fun hc => absurd hc (by decide)) (fun hc => ?_)
  refine lv_aload_n C.1 C.2.1 dX4_init_21 rfl (lv_at hl 1 rfl) ?_
  refine n_get (fs := [.ref (z + 18), .int (hpI 0), .int (hpI 0), .int (hpI 0), .int (hpI 0), .int (hpI 0), .int (hpI 0), .int (hpI 0), .int (hpI 0)]) C O4 0 (by decide) hp29_17 (by decide) wd_179 rfl hP dX4_init_22 ?_
  refine lv_iload_n C.1 C.2.1 dX4_init_25 rfl (lv_at hl 0 rfl) ?_
  refine n_size (n := 46) h0 rfl hS hP (fun hsz => ?_)
  refine n_new (fs := [.null, .null, .int (hpI 0), .int (hpI 0), .int (hpI 0)]) C O3 bl_3 wd_145 wd_147 wd_5 hP hS hsz (Nat.le_of_ble_eq_true rfl) (Nat.le_of_ble_eq_true rfl) dX4_init_26 (fun H hP hS => ?_)
  obtain ⟨E30, e30⟩ : ∃ F, F = va_up E29 46 (.inr (3, [.null, .null, .int (hpI 0), .int (hpI 0), .int (hpI 0)])) := ⟨_, rfl⟩
  rw [← e30] at hP
  have hO30 : ∀ j, j < 17 → E30 j = E0 j := fun j h => by rw [e30]; exact (hp_ne (by omega)).trans (hO29 j h)
  have hp30_17 : E30 17 = .inr (4, [.ref (z + 18), .int (hpI 0), .int (hpI 0), .int (hpI 0), .int (hpI 0), .int (hpI 0), .int (hpI 0), .int (hpI 0), .int (hpI 0)]) := by rw [e30, hp_ne (by decide)]; exact hp29_17
  have hp30_18 : E30 18 = .inl (cy 15, 17, .inr (.inr (.inr (.inr (va_up (va_up (va_up (va_up (va_up (va_up (va_up (va_up (va_up (fun _ => none) 0 (some (z + 19))) 1 (some (z + 22))) 2 (some (z + 25))) 3 (some (z + 28))) 4 (some (z + 31))) 5 (some (z + 34))) 6 (some (z + 37))) 7 (some (z + 40))) 8 (some (z + 43))))))) := by rw [e30, hp_ne (by decide)]; exact hp29_18
  have hp30_46 : E30 46 = .inr (3, [.null, .null, .int (hpI 0), .int (hpI 0), .int (hpI 0)]) := by rw [e30, hp_at]
  have hD30 : ∀ j, 17 < j → j < 47 → j ≠ 18 → j ≠ 46 → E30 j = hpE z cy j (hp0 j) := fun j h1 h2 hn18 hn46 => by
    rw [e30, hp_ne (by omega)]; exact hD29 j h1 (by omega) hn18
  refine lv_dup C.1 C.2.1 dX4_init_29 rfl ?_
  refine n_size (n := 47) h0 rfl hS hP (fun hsz => ?_)
  refine n_ctorN C A yk_3 nw_148 (kX3_46 l D cy z _ hp30_46) hl hP hS hsz ⟨rfl, rfl, Nat.le_of_ble_eq_true rfl, Nat.le_of_ble_eq_true rfl⟩ ⟨Nat.le_of_ble_eq_true rfl, Nat.le_of_ble_eq_true rfl⟩ (Nat.le_of_ble_eq_true rfl) dX4_init_30 (fun H locs E31 hP hS hj31 hi31 => ?_)
  have hO31 : ∀ j, j < 17 → E31 j = E0 j := fun j h => (hj31 j (by omega)).trans (hO30 j h)
  have hp31_17 : E31 17 = .inr (4, [.ref (z + 18), .int (hpI 0), .int (hpI 0), .int (hpI 0), .int (hpI 0), .int (hpI 0), .int (hpI 0), .int (hpI 0), .int (hpI 0)]) := (hj31 17 (by decide)).trans hp30_17
  have hp31_18 : E31 18 = .inl (cy 15, 17, .inr (.inr (.inr (.inr (va_up (va_up (va_up (va_up (va_up (va_up (va_up (va_up (va_up (fun _ => none) 0 (some (z + 19))) 1 (some (z + 22))) 2 (some (z + 25))) 3 (some (z + 28))) 4 (some (z + 31))) 5 (some (z + 34))) 6 (some (z + 37))) 7 (some (z + 40))) 8 (some (z + 43))))))) := (hj31 18 (by decide)).trans hp30_18
  have hD31 : ∀ j, 17 < j → j < 49 → j ≠ 18 → E31 j = hpE z cy j (hp0 j) := fun j h1 h2 hn18 => by
    rcases Nat.lt_or_ge j 46 with h | h
    · exact (hj31 j h).trans (hD30 j h1 (by omega) hn18 (by omega))
    · exact hi31 j h h2
  refine n_aast (c0 := 15) (t0 := 5) C O3 (by decide) (by decide) hp31_18 rfl ((hD31 46 (by decide) (by decide) (by decide)).trans eo_46) 9 rfl (by decide) (by decide) hP hS dX4_init_33 (fun H locs hP hS => ?_)
  obtain ⟨E32, e32⟩ : ∃ F, F = va_up E31 18 (.inl (cy 15, 17, .inr (.inr (.inr (.inr (va_up (va_up (va_up (va_up (va_up (va_up (va_up (va_up (va_up (va_up (fun _ => none) 0 (some (z + 19))) 1 (some (z + 22))) 2 (some (z + 25))) 3 (some (z + 28))) 4 (some (z + 31))) 5 (some (z + 34))) 6 (some (z + 37))) 7 (some (z + 40))) 8 (some (z + 43))) 9 (some (z + 46)))))))) := ⟨_, rfl⟩
  rw [← e32] at hP
  have hO32 : ∀ j, j < 17 → E32 j = E0 j := fun j h => by rw [e32]; exact (hp_ne (by omega)).trans (hO31 j h)
  have hp32_17 : E32 17 = .inr (4, [.ref (z + 18), .int (hpI 0), .int (hpI 0), .int (hpI 0), .int (hpI 0), .int (hpI 0), .int (hpI 0), .int (hpI 0), .int (hpI 0)]) := by rw [e32, hp_ne (by decide)]; exact hp31_17
  have hp32_18 : E32 18 = .inl (cy 15, 17, .inr (.inr (.inr (.inr (va_up (va_up (va_up (va_up (va_up (va_up (va_up (va_up (va_up (va_up (fun _ => none) 0 (some (z + 19))) 1 (some (z + 22))) 2 (some (z + 25))) 3 (some (z + 28))) 4 (some (z + 31))) 5 (some (z + 34))) 6 (some (z + 37))) 7 (some (z + 40))) 8 (some (z + 43))) 9 (some (z + 46))))))) := by rw [e32, hp_at]
  have hD32 : ∀ j, 17 < j → j < 49 → j ≠ 18 → E32 j = hpE z cy j (hp0 j) := fun j h1 h2 hn18 => by
    rw [e32, hp_ne (by omega)]; exact hD31 j h1 (by omega) hn18
  refine lv_iinc (v := hpI 10) (lv' := [(1, .int (hpI 10)), (0, .ref (z + 17))]) C.1 C.2.1 dX4_init_34 hl (k := 0) rfl (by decide) (by decide) rfl (fun ls hl => ?_)
  refine lv_goto (tgt := 15) C.1 C.2.1 dX4_init_37 rfl ?_
  refine lv_iload_n C.1 C.2.1 dX4_init_15 rfl (lv_at hl 0 rfl) ?_
  refine lv_bipush (v := hpI 16) C.1 C.2.1 dX4_init_16 (by decide) ?_
  refine lv_icmp_gt (tgt := 40) C.1 C.2.1 dX4_init_18 rfl (fun hc => absurd hc (by decide)) (fun hc => ?_)
  refine lv_aload_n C.1 C.2.1 dX4_init_21 rfl (lv_at hl 1 rfl) ?_
  refine n_get (fs := [.ref (z + 18), .int (hpI 0), .int (hpI 0), .int (hpI 0), .int (hpI 0), .int (hpI 0), .int (hpI 0), .int (hpI 0), .int (hpI 0)]) C O4 0 (by decide) hp32_17 (by decide) wd_179 rfl hP dX4_init_22 ?_
  refine lv_iload_n C.1 C.2.1 dX4_init_25 rfl (lv_at hl 0 rfl) ?_
  refine n_size (n := 49) h0 rfl hS hP (fun hsz => ?_)
  refine n_new (fs := [.null, .null, .int (hpI 0), .int (hpI 0), .int (hpI 0)]) C O3 bl_3 wd_145 wd_147 wd_5 hP hS hsz (Nat.le_of_ble_eq_true rfl) (Nat.le_of_ble_eq_true rfl) dX4_init_26 (fun H hP hS => ?_)
  obtain ⟨E33, e33⟩ : ∃ F, F = va_up E32 49 (.inr (3, [.null, .null, .int (hpI 0), .int (hpI 0), .int (hpI 0)])) := ⟨_, rfl⟩
  rw [← e33] at hP
  have hO33 : ∀ j, j < 17 → E33 j = E0 j := fun j h => by rw [e33]; exact (hp_ne (by omega)).trans (hO32 j h)
  have hp33_17 : E33 17 = .inr (4, [.ref (z + 18), .int (hpI 0), .int (hpI 0), .int (hpI 0), .int (hpI 0), .int (hpI 0), .int (hpI 0), .int (hpI 0), .int (hpI 0)]) := by rw [e33, hp_ne (by decide)]; exact hp32_17
  have hp33_18 : E33 18 = .inl (cy 15, 17, .inr (.inr (.inr (.inr (va_up (va_up (va_up (va_up (va_up (va_up (va_up (va_up (va_up (va_up (fun _ => none) 0 (some (z + 19))) 1 (some (z + 22))) 2 (some (z + 25))) 3 (some (z + 28))) 4 (some (z + 31))) 5 (some (z + 34))) 6 (some (z + 37))) 7 (some (z + 40))) 8 (some (z + 43))) 9 (some (z + 46))))))) := by rw [e33, hp_ne (by decide)]; exact hp32_18
  have hp33_49 : E33 49 = .inr (3, [.null, .null, .int (hpI 0), .int (hpI 0), .int (hpI 0)]) := by rw [e33, hp_at]
  have hD33 : ∀ j, 17 < j → j < 50 → j ≠ 18 → j ≠ 49 → E33 j = hpE z cy j (hp0 j) := fun j h1 h2 hn18 hn49 => by
    rw [e33, hp_ne (by omega)]; exact hD32 j h1 (by omega) hn18
  refine lv_dup C.1 C.2.1 dX4_init_29 rfl ?_
  refine n_size (n := 50) h0 rfl hS hP (fun hsz => ?_)
  refine n_ctorN C A yk_3 nw_148 (kX3_49 l D cy z _ hp33_49) hl hP hS hsz ⟨rfl, rfl, Nat.le_of_ble_eq_true rfl, Nat.le_of_ble_eq_true rfl⟩ ⟨Nat.le_of_ble_eq_true rfl, Nat.le_of_ble_eq_true rfl⟩ (Nat.le_of_ble_eq_true rfl) dX4_init_30 (fun H locs E34 hP hS hj34 hi34 => ?_)
  have hO34 : ∀ j, j < 17 → E34 j = E0 j := fun j h => (hj34 j (by omega)).trans (hO33 j h)
  have hp34_17 : E34 17 = .inr (4, [.ref (z + 18), .int (hpI 0), .int (hpI 0), .int (hpI 0), .int (hpI 0), .int (hpI 0), .int (hpI 0), .int (hpI 0), .int (hpI 0)]) := (hj34 17 (by decide)).trans hp33_17
  have hp34_18 : E34 18 = .inl (cy 15, 17, .inr (.inr (.inr (.inr (va_up (va_up (va_up (va_up (va_up (va_up (va_up (va_up (va_up (va_up (fun _ => none) 0 (some (z + 19))) 1 (some (z + 22))) 2 (some (z + 25))) 3 (some (z + 28))) 4 (some (z + 31))) 5 (some (z + 34))) 6 (some (z + 37))) 7 (some (z + 40))) 8 (some (z + 43))) 9 (some (z + 46))))))) := (hj34 18 (by decide)).trans hp33_18
  have hD34 : ∀ j, 17 < j → j < 52 → j ≠ 18 → E34 j = hpE z cy j (hp0 j) := fun j h1 h2 hn18 => by
    rcases Nat.lt_or_ge j 49 with h | h
    · exact (hj34 j h).trans (hD33 j h1 (by omega) hn18 (by omega))
    · exact hi34 j h h2
  refine n_aast (c0 := 15) (t0 := 5) C O3 (by decide) (by decide) hp34_18 rfl ((hD34 49 (by decide) (by decide) (by decide)).trans eo_49) 10 rfl (by decide) (by decide) hP hS dX4_init_33 (fun H locs hP hS => ?_)
  obtain ⟨E35, e35⟩ : ∃ F, F = va_up E34 18 (.inl (cy 15, 17, .inr (.inr (.inr (.inr (va_up (va_up (va_up (va_up (va_up (va_up (va_up (va_up (va_up (va_up (va_up (fun _ => none) 0 (some (z + 19))) 1 (some (z + 22))) 2 (some (z + 25))) 3 (some (z + 28))) 4 (some (z + 31))) 5 (some (z + 34))) 6 (some (z + 37))) 7 (some (z + 40))) 8 (some (z + 43))) 9 (some (z + 46))) 10 (some (z + 49)))))))) := ⟨_, rfl⟩
  rw [← e35] at hP
  have hO35 : ∀ j, j < 17 → E35 j = E0 j := fun j h => by rw [e35]; exact (hp_ne (by omega)).trans (hO34 j h)
  have hp35_17 : E35 17 = .inr (4, [.ref (z + 18), .int (hpI 0), .int (hpI 0), .int (hpI 0), .int (hpI 0), .int (hpI 0), .int (hpI 0), .int (hpI 0), .int (hpI 0)]) := by rw [e35, hp_ne (by decide)]; exact hp34_17
  have hp35_18 : E35 18 = .inl (cy 15, 17, .inr (.inr (.inr (.inr (va_up (va_up (va_up (va_up (va_up (va_up (va_up (va_up (va_up (va_up (va_up (fun _ => none) 0 (some (z + 19))) 1 (some (z + 22))) 2 (some (z + 25))) 3 (some (z + 28))) 4 (some (z + 31))) 5 (some (z + 34))) 6 (some (z + 37))) 7 (some (z + 40))) 8 (some (z + 43))) 9 (some (z + 46))) 10 (some (z + 49))))))) := by rw [e35, hp_at]
  have hD35 : ∀ j, 17 < j → j < 52 → j ≠ 18 → E35 j = hpE z cy j (hp0 j) := fun j h1 h2 hn18 => by
    rw [e35, hp_ne (by omega)]; exact hD34 j h1 (by omega) hn18
  refine lv_iinc (v := hpI 11) (lv' := [(1, .int (hpI 11)), (0, .ref (z + 17))]) C.1 C.2.1 dX4_init_34 hl (k := 0) rfl (by decide) (by decide) rfl (fun ls hl => ?_)
  refine lv_goto (tgt := 15) C.1 C.2.1 dX4_init_37 rfl ?_
  refine lv_iload_n C.1 C.2.1 dX4_init_15 rfl (lv_at hl 0 rfl) ?_
  refine lv_bipush (v := hpI 16) C.1 C.2.1 dX4_init_16 (by decide) ?_
  refine lv_icmp_gt (tgt := 40) C.1 C.2.1 dX4_init_18 rfl (fun hc => absurd hc (by decide)) (fun hc => ?_)
  refine lv_aload_n C.1 C.2.1 dX4_init_21 rfl (lv_at hl 1 rfl) ?_
  refine n_get (fs := [.ref (z + 18), .int (hpI 0), .int (hpI 0), .int (hpI 0), .int (hpI 0), .int (hpI 0), .int (hpI 0), .int (hpI 0), .int (hpI 0)]) C O4 0 (by decide) hp35_17 (by decide) wd_179 rfl hP dX4_init_22 ?_
  refine lv_iload_n C.1 C.2.1 dX4_init_25 rfl (lv_at hl 0 rfl) ?_
  refine n_size (n := 52) h0 rfl hS hP (fun hsz => ?_)
  refine n_new (fs := [.null, .null, .int (hpI 0), .int (hpI 0), .int (hpI 0)]) C O3 bl_3 wd_145 wd_147 wd_5 hP hS hsz (Nat.le_of_ble_eq_true rfl) (Nat.le_of_ble_eq_true rfl) dX4_init_26 (fun H hP hS => ?_)
  obtain ⟨E36, e36⟩ : ∃ F, F = va_up E35 52 (.inr (3, [.null, .null, .int (hpI 0), .int (hpI 0), .int (hpI 0)])) := ⟨_, rfl⟩
  rw [← e36] at hP
  have hO36 : ∀ j, j < 17 → E36 j = E0 j := fun j h => by rw [e36]; exact (hp_ne (by omega)).trans (hO35 j h)
  have hp36_17 : E36 17 = .inr (4, [.ref (z + 18), .int (hpI 0), .int (hpI 0), .int (hpI 0), .int (hpI 0), .int (hpI 0), .int (hpI 0), .int (hpI 0), .int (hpI 0)]) := by rw [e36, hp_ne (by decide)]; exact hp35_17
  have hp36_18 : E36 18 = .inl (cy 15, 17, .inr (.inr (.inr (.inr (va_up (va_up (va_up (va_up (va_up (va_up (va_up (va_up (va_up (va_up (va_up (fun _ => none) 0 (some (z + 19))) 1 (some (z + 22))) 2 (some (z + 25))) 3 (some (z + 28))) 4 (some (z + 31))) 5 (some (z + 34))) 6 (some (z + 37))) 7 (some (z + 40))) 8 (some (z + 43))) 9 (some (z + 46))) 10 (some (z + 49))))))) := by rw [e36, hp_ne (by decide)]; exact hp35_18
  have hp36_52 : E36 52 = .inr (3, [.null, .null, .int (hpI 0), .int (hpI 0), .int (hpI 0)]) := by rw [e36, hp_at]
  have hD36 : ∀ j, 17 < j → j < 53 → j ≠ 18 → j ≠ 52 → E36 j = hpE z cy j (hp0 j) := fun j h1 h2 hn18 hn52 => by
    rw [e36, hp_ne (by omega)]; exact hD35 j h1 (by omega) hn18
  refine lv_dup C.1 C.2.1 dX4_init_29 rfl ?_
  refine n_size (n := 53) h0 rfl hS hP (fun hsz => ?_)
  refine n_ctorN C A yk_3 nw_148 (kX3_52 l D cy z _ hp36_52) hl hP hS hsz ⟨rfl, rfl, Nat.le_of_ble_eq_true rfl, Nat.le_of_ble_eq_true rfl⟩ ⟨Nat.le_of_ble_eq_true rfl, Nat.le_of_ble_eq_true rfl⟩ (Nat.le_of_ble_eq_true rfl) dX4_init_30 (fun H locs E37 hP hS hj37 hi37 => ?_)
  have hO37 : ∀ j, j < 17 → E37 j = E0 j := fun j h => (hj37 j (by omega)).trans (hO36 j h)
  have hp37_17 : E37 17 = .inr (4, [.ref (z + 18), .int (hpI 0), .int (hpI 0), .int (hpI 0), .int (hpI 0), .int (hpI 0), .int (hpI 0), .int (hpI 0), .int (hpI 0)]) := (hj37 17 (by decide)).trans hp36_17
  have hp37_18 : E37 18 = .inl (cy 15, 17, .inr (.inr (.inr (.inr (va_up (va_up (va_up (va_up (va_up (va_up (va_up (va_up (va_up (va_up (va_up (fun _ => none) 0 (some (z + 19))) 1 (some (z + 22))) 2 (some (z + 25))) 3 (some (z + 28))) 4 (some (z + 31))) 5 (some (z + 34))) 6 (some (z + 37))) 7 (some (z + 40))) 8 (some (z + 43))) 9 (some (z + 46))) 10 (some (z + 49))))))) := (hj37 18 (by decide)).trans hp36_18
  have hD37 : ∀ j, 17 < j → j < 55 → j ≠ 18 → E37 j = hpE z cy j (hp0 j) := fun j h1 h2 hn18 => by
    rcases Nat.lt_or_ge j 52 with h | h
    · exact (hj37 j h).trans (hD36 j h1 (by omega) hn18 (by omega))
    · exact hi37 j h h2
  refine n_aast (c0 := 15) (t0 := 5) C O3 (by decide) (by decide) hp37_18 rfl ((hD37 52 (by decide) (by decide) (by decide)).trans eo_52) 11 rfl (by decide) (by decide) hP hS dX4_init_33 (fun H locs hP hS => ?_)
  obtain ⟨E38, e38⟩ : ∃ F, F = va_up E37 18 (.inl (cy 15, 17, .inr (.inr (.inr (.inr (va_up (va_up (va_up (va_up (va_up (va_up (va_up (va_up (va_up (va_up (va_up (va_up (fun _ => none) 0 (some (z + 19))) 1 (some (z + 22))) 2 (some (z + 25))) 3 (some (z + 28))) 4 (some (z + 31))) 5 (some (z + 34))) 6 (some (z + 37))) 7 (some (z + 40))) 8 (some (z + 43))) 9 (some (z + 46))) 10 (some (z + 49))) 11 (some (z + 52)))))))) := ⟨_, rfl⟩
  rw [← e38] at hP
  have hO38 : ∀ j, j < 17 → E38 j = E0 j := fun j h => by rw [e38]; exact (hp_ne (by omega)).trans (hO37 j h)
  have hp38_17 : E38 17 = .inr (4, [.ref (z + 18), .int (hpI 0), .int (hpI 0), .int (hpI 0), .int (hpI 0), .int (hpI 0), .int (hpI 0), .int (hpI 0), .int (hpI 0)]) := by rw [e38, hp_ne (by decide)]; exact hp37_17
  have hp38_18 : E38 18 = .inl (cy 15, 17, .inr (.inr (.inr (.inr (va_up (va_up (va_up (va_up (va_up (va_up (va_up (va_up (va_up (va_up (va_up (va_up (fun _ => none) 0 (some (z + 19))) 1 (some (z + 22))) 2 (some (z + 25))) 3 (some (z + 28))) 4 (some (z + 31))) 5 (some (z + 34))) 6 (some (z + 37))) 7 (some (z + 40))) 8 (some (z + 43))) 9 (some (z + 46))) 10 (some (z + 49))) 11 (some (z + 52))))))) := by rw [e38, hp_at]
  have hD38 : ∀ j, 17 < j → j < 55 → j ≠ 18 → E38 j = hpE z cy j (hp0 j) := fun j h1 h2 hn18 => by
    rw [e38, hp_ne (by omega)]; exact hD37 j h1 (by omega) hn18
  refine lv_iinc (v := hpI 12) (lv' := [(1, .int (hpI 12)), (0, .ref (z + 17))]) C.1 C.2.1 dX4_init_34 hl (k := 0) rfl (by decide) (by decide) rfl (fun ls hl => ?_)
  refine lv_goto (tgt := 15) C.1 C.2.1 dX4_init_37 rfl ?_
  refine lv_iload_n C.1 C.2.1 dX4_init_15 rfl (lv_at hl 0 rfl) ?_
  refine lv_bipush (v := hpI 16) C.1 C.2.1 dX4_init_16 (by decide) ?_
  refine lv_icmp_gt (tgt := 40) C.1 C.2.1 dX4_init_18 rfl (fun hc => absurd hc (by decide)) (fun hc => ?_)
  refine lv_aload_n C.1 C.2.1 dX4_init_21 rfl (lv_at hl 1 rfl) ?_
  refine n_get (fs := [.ref (z + 18), .int (hpI 0), .int (hpI 0), .int (hpI 0), .int (hpI 0), .int (hpI 0), .int (hpI 0), .int (hpI 0), .int (hpI 0)]) C O4 0 (by decide) hp38_17 (by decide) wd_179 rfl hP dX4_init_22 ?_
  refine lv_iload_n C.1 C.2.1 dX4_init_25 rfl (lv_at hl 0 rfl) ?_
  refine n_size (n := 55) h0 rfl hS hP (fun hsz => ?_)
  refine n_new (fs := [.null, .null, .int (hpI 0), .int (hpI 0), .int (hpI 0)]) C O3 bl_3 wd_145 wd_147 wd_5 hP hS hsz (Nat.le_of_ble_eq_true rfl) (Nat.le_of_ble_eq_true rfl) dX4_init_26 (fun H hP hS => ?_)
  obtain ⟨E39, e39⟩ : ∃ F, F = va_up E38 55 (.inr (3, [.null, .null, .int (hpI 0), .int (hpI 0), .int (hpI 0)])) := ⟨_, rfl⟩
  rw [← e39] at hP
  have hO39 : ∀ j, j < 17 → E39 j = E0 j := fun j h => by rw [e39]; exact (hp_ne (by omega)).trans (hO38 j h)
  have hp39_17 : E39 17 = .inr (4, [.ref (z + 18), .int (hpI 0), .int (hpI 0), .int (hpI 0), .int (hpI 0), .int (hpI 0), .int (hpI 0), .int (hpI 0), .int (hpI 0)]) := by rw [e39, hp_ne (by decide)]; exact hp38_17
  have hp39_18 : E39 18 = .inl (cy 15, 17, .inr (.inr (.inr (.inr (va_up (va_up (va_up (va_up (va_up (va_up (va_up (va_up (va_up (va_up (va_up (va_up (fun _ => none) 0 (some (z + 19))) 1 (some (z + 22))) 2 (some (z + 25))) 3 (some (z + 28))) 4 (some (z + 31))) 5 (some (z + 34))) 6 (some (z + 37))) 7 (some (z + 40))) 8 (some (z + 43))) 9 (some (z + 46))) 10 (some (z + 49))) 11 (some (z + 52))))))) := by rw [e39, hp_ne (by decide)]; exact hp38_18
  have hp39_55 : E39 55 = .inr (3, [.null, .null, .int (hpI 0), .int (hpI 0), .int (hpI 0)]) := by rw [e39, hp_at]
  have hD39 : ∀ j, 17 < j → j < 56 → j ≠ 18 → j ≠ 55 → E39 j = hpE z cy j (hp0 j) := fun j h1 h2 hn18 hn55 => by
    rw [e39, hp_ne (by omega)]; exact hD38 j h1 (by omega) hn18
  refine lv_dup C.1 C.2.1 dX4_init_29 rfl ?_
  refine n_size (n := 56) h0 rfl hS hP (fun hsz => ?_)
  refine n_ctorN C A yk_3 nw_148 (kX3_55 l D cy z _ hp39_55) hl hP hS hsz ⟨rfl, rfl, Nat.le_of_ble_eq_true rfl, Nat.le_of_ble_eq_true rfl⟩ ⟨Nat.le_of_ble_eq_true rfl, Nat.le_of_ble_eq_true rfl⟩ (Nat.le_of_ble_eq_true rfl) dX4_init_30 (fun H locs E40 hP hS hj40 hi40 => ?_)
  have hO40 : ∀ j, j < 17 → E40 j = E0 j := fun j h => (hj40 j (by omega)).trans (hO39 j h)
  have hp40_17 : E40 17 = .inr (4, [.ref (z + 18), .int (hpI 0), .int (hpI 0), .int (hpI 0), .int (hpI 0), .int (hpI 0), .int (hpI 0), .int (hpI 0), .int (hpI 0)]) := (hj40 17 (by decide)).trans hp39_17
  have hp40_18 : E40 18 = .inl (cy 15, 17, .inr (.inr (.inr (.inr (va_up (va_up (va_up (va_up (va_up (va_up (va_up (va_up (va_up (va_up (va_up (va_up (fun _ => none) 0 (some (z + 19))) 1 (some (z + 22))) 2 (some (z + 25))) 3 (some (z + 28))) 4 (some (z + 31))) 5 (some (z + 34))) 6 (some (z + 37))) 7 (some (z + 40))) 8 (some (z + 43))) 9 (some (z + 46))) 10 (some (z + 49))) 11 (some (z + 52))))))) := (hj40 18 (by decide)).trans hp39_18
  have hD40 : ∀ j, 17 < j → j < 58 → j ≠ 18 → E40 j = hpE z cy j (hp0 j) := fun j h1 h2 hn18 => by
    rcases Nat.lt_or_ge j 55 with h | h
    · exact (hj40 j h).trans (hD39 j h1 (by omega) hn18 (by omega))
    · exact hi40 j h h2
  refine n_aast (c0 := 15) (t0 := 5) C O3 (by decide) (by decide) hp40_18 rfl ((hD40 55 (by decide) (by decide) (by decide)).trans eo_55) 12 rfl (by decide) (by decide) hP hS dX4_init_33 (fun H locs hP hS => ?_)
  obtain ⟨E41, e41⟩ : ∃ F, F = va_up E40 18 (.inl (cy 15, 17, .inr (.inr (.inr (.inr (va_up (va_up (va_up (va_up (va_up (va_up (va_up (va_up (va_up (va_up (va_up (va_up (va_up (fun _ => none) 0 (some (z + 19))) 1 (some (z + 22))) 2 (some (z + 25))) 3 (some (z + 28))) 4 (some (z + 31))) 5 (some (z + 34))) 6 (some (z + 37))) 7 (some (z + 40))) 8 (some (z + 43))) 9 (some (z + 46))) 10 (some (z + 49))) 11 (some (z + 52))) 12 (some (z + 55)))))))) := ⟨_, rfl⟩
  rw [← e41] at hP
  have hO41 : ∀ j, j < 17 → E41 j = E0 j := fun j h => by rw [e41]; exact (hp_ne (by omega)).trans (hO40 j h)
  have hp41_17 : E41 17 = .inr (4, [.ref (z + 18), .int (hpI 0), .int (hpI 0), .int (hpI 0), .int (hpI 0), .int (hpI 0), .int (hpI 0), .int (hpI 0), .int (hpI 0)]) := by rw [e41, hp_ne (by decide)]; exact hp40_17
  have hp41_18 : E41 18 = .inl (cy 15, 17, .inr (.inr (.inr (.inr (va_up (va_up (va_up (va_up (va_up (va_up (va_up (va_up (va_up (va_up (va_up (va_up (va_up (fun _ => none) 0 (some (z + 19))) 1 (some (z + 22))) 2 (some (z + 25))) 3 (some (z + 28))) 4 (some (z + 31))) 5 (some (z + 34))) 6 (some (z + 37))) 7 (some (z + 40))) 8 (some (z + 43))) 9 (some (z + 46))) 10 (some (z + 49))) 11 (some (z + 52))) 12 (some (z + 55))))))) := by rw [e41, hp_at]
  have hD41 : ∀ j, 17 < j → j < 58 → j ≠ 18 → E41 j = hpE z cy j (hp0 j) := fun j h1 h2 hn18 => by
    rw [e41, hp_ne (by omega)]; exact hD40 j h1 (by omega) hn18
  refine lv_iinc (v := hpI 13) (lv' := [(1, .int (hpI 13)), (0, .ref (z + 17))]) C.1 C.2.1 dX4_init_34 hl (k := 0) rfl (by decide) (by decide) rfl (fun ls hl => ?_)
  refine lv_goto (tgt := 15) C.1 C.2.1 dX4_init_37 rfl ?_
  refine lv_iload_n C.1 C.2.1 dX4_init_15 rfl (lv_at hl 0 rfl) ?_
  refine lv_bipush (v := hpI 16) C.1 C.2.1 dX4_init_16 (by decide) ?_
  refine lv_icmp_gt (tgt := 40) C.1 C.2.1 dX4_init_18 rfl (fun hc => absurd hc (by decide)) (fun hc => ?_)
  refine lv_aload_n C.1 C.2.1 dX4_init_21 rfl (lv_at hl 1 rfl) ?_
  refine n_get (fs := [.ref (z + 18), .int (hpI 0), .int (hpI 0), .int (hpI 0), .int (hpI 0), .int (hpI 0), .int (hpI 0), .int (hpI 0), .int (hpI 0)]) C O4 0 (by decide) hp41_17 (by decide) wd_179 rfl hP dX4_init_22 ?_
  refine lv_iload_n C.1 C.2.1 dX4_init_25 rfl (lv_at hl 0 rfl) ?_
  refine n_size (n := 58) h0 rfl hS hP (fun hsz => ?_)
  refine n_new (fs := [.null, .null, .int (hpI 0), .int (hpI 0), .int (hpI 0)]) C O3 bl_3 wd_145 wd_147 wd_5 hP hS hsz (Nat.le_of_ble_eq_true rfl) (Nat.le_of_ble_eq_true rfl) dX4_init_26 (fun H hP hS => ?_)
  obtain ⟨E42, e42⟩ : ∃ F, F = va_up E41 58 (.inr (3, [.null, .null, .int (hpI 0), .int (hpI 0), .int (hpI 0)])) := ⟨_, rfl⟩
  rw [← e42] at hP
  have hO42 : ∀ j, j < 17 → E42 j = E0 j := fun j h => by rw [e42]; exact (hp_ne (by omega)).trans (hO41 j h)
  have hp42_17 : E42 17 = .inr (4, [.ref (z + 18), .int (hpI 0), .int (hpI 0), .int (hpI 0), .int (hpI 0), .int (hpI 0), .int (hpI 0), .int (hpI 0), .int (hpI 0)]) := by rw [e42, hp_ne (by decide)]; exact hp41_17
  have hp42_18 : E42 18 = .inl (cy 15, 17, .inr (.inr (.inr (.inr (va_up (va_up (va_up (va_up (va_up (va_up (va_up (va_up (va_up (va_up (va_up (va_up (va_up (fun _ => none) 0 (some (z + 19))) 1 (some (z + 22))) 2 (some (z + 25))) 3 (some (z + 28))) 4 (some (z + 31))) 5 (some (z + 34))) 6 (some (z + 37))) 7 (some (z + 40))) 8 (some (z + 43))) 9 (some (z + 46))) 10 (some (z + 49))) 11 (some (z + 52))) 12 (some (z + 55))))))) := by rw [e42, hp_ne (by decide)]; exact hp41_18
  have hp42_58 : E42 58 = .inr (3, [.null, .null, .int (hpI 0), .int (hpI 0), .int (hpI 0)]) := by rw [e42, hp_at]
  have hD42 : ∀ j, 17 < j → j < 59 → j ≠ 18 → j ≠ 58 → E42 j = hpE z cy j (hp0 j) := fun j h1 h2 hn18 hn58 => by
    rw [e42, hp_ne (by omega)]; exact hD41 j h1 (by omega) hn18
  refine lv_dup C.1 C.2.1 dX4_init_29 rfl ?_
  refine n_size (n := 59) h0 rfl hS hP (fun hsz => ?_)
  refine n_ctorN C A yk_3 nw_148 (kX3_58 l D cy z _ hp42_58) hl hP hS hsz ⟨rfl, rfl, Nat.le_of_ble_eq_true rfl, Nat.le_of_ble_eq_true rfl⟩ ⟨Nat.le_of_ble_eq_true rfl, Nat.le_of_ble_eq_true rfl⟩ (Nat.le_of_ble_eq_true rfl) dX4_init_30 (fun H locs E43 hP hS hj43 hi43 => ?_)
  have hO43 : ∀ j, j < 17 → E43 j = E0 j := fun j h => (hj43 j (by omega)).trans (hO42 j h)
  have hp43_17 : E43 17 = .inr (4, [.ref (z + 18), .int (hpI 0), .int (hpI 0), .int (hpI 0), .int (hpI 0), .int (hpI 0), .int (hpI 0), .int (hpI 0), .int (hpI 0)]) := (hj43 17 (by decide)).trans hp42_17
  have hp43_18 : E43 18 = .inl (cy 15, 17, .inr (.inr (.inr (.inr (va_up (va_up (va_up (va_up (va_up (va_up (va_up (va_up (va_up (va_up (va_up (va_up (va_up (fun _ => none) 0 (some (z + 19))) 1 (some (z + 22))) 2 (some (z + 25))) 3 (some (z + 28))) 4 (some (z + 31))) 5 (some (z + 34))) 6 (some (z + 37))) 7 (some (z + 40))) 8 (some (z + 43))) 9 (some (z + 46))) 10 (some (z + 49))) 11 (some (z + 52))) 12 (some (z + 55))))))) := (hj43 18 (by decide)).trans hp42_18
  have hD43 : ∀ j, 17 < j → j < 61 → j ≠ 18 → E43 j = hpE z cy j (hp0 j) := fun j h1 h2 hn18 => by
    rcases Nat.lt_or_ge j 58 with h | h
    · exact (hj43 j h).trans (hD42 j h1 (by omega) hn18 (by omega))
    · exact hi43 j h h2
  refine n_aast (c0 := 15) (t0 := 5) C O3 (by decide) (by decide) hp43_18 rfl ((hD43 58 (by decide) (by decide) (by decide)).trans eo_58) 13 rfl (by decide) (by decide) hP hS dX4_init_33 (fun H locs hP hS => ?_)
  obtain ⟨E44, e44⟩ : ∃ F, F = va_up E43 18 (.inl (cy 15, 17, .inr (.inr (.inr (.inr (va_up (va_up (va_up (va_up (va_up (va_up (va_up (va_up (va_up (va_up (va_up (va_up (va_up (va_up (fun _ => none) 0 (some (z + 19))) 1 (some (z + 22))) 2 (some (z + 25))) 3 (some (z + 28))) 4 (some (z + 31))) 5 (some (z + 34))) 6 (some (z + 37))) 7 (some (z + 40))) 8 (some (z + 43))) 9 (some (z + 46))) 10 (some (z + 49))) 11 (some (z + 52))) 12 (some (z + 55))) 13 (some (z + 58)))))))) := ⟨_, rfl⟩
  rw [← e44] at hP
  have hO44 : ∀ j, j < 17 → E44 j = E0 j := fun j h => by rw [e44]; exact (hp_ne (by omega)).trans (hO43 j h)
  have hp44_17 : E44 17 = .inr (4, [.ref (z + 18), .int (hpI 0), .int (hpI 0), .int (hpI 0), .int (hpI 0), .int (hpI 0), .int (hpI 0), .int (hpI 0), .int (hpI 0)]) := by rw [e44, hp_ne (by decide)]; exact hp43_17
  have hp44_18 : E44 18 = .inl (cy 15, 17, .inr (.inr (.inr (.inr (va_up (va_up (va_up (va_up (va_up (va_up (va_up (va_up (va_up (va_up (va_up (va_up (va_up (va_up (fun _ => none) 0 (some (z + 19))) 1 (some (z + 22))) 2 (some (z + 25))) 3 (some (z + 28))) 4 (some (z + 31))) 5 (some (z + 34))) 6 (some (z + 37))) 7 (some (z + 40))) 8 (some (z + 43))) 9 (some (z + 46))) 10 (some (z + 49))) 11 (some (z + 52))) 12 (some (z + 55))) 13 (some (z + 58))))))) := by rw [e44, hp_at]
  have hD44 : ∀ j, 17 < j → j < 61 → j ≠ 18 → E44 j = hpE z cy j (hp0 j) := fun j h1 h2 hn18 => by
    rw [e44, hp_ne (by omega)]; exact hD43 j h1 (by omega) hn18
  refine lv_iinc (v := hpI 14) (lv' := [(1, .int (hpI 14)), (0, .ref (z + 17))]) C.1 C.2.1 dX4_init_34 hl (k := 0) rfl (by decide) (by decide) rfl (fun ls hl => ?_)
  refine lv_goto (tgt := 15) C.1 C.2.1 dX4_init_37 rfl ?_
  refine lv_iload_n C.1 C.2.1 dX4_init_15 rfl (lv_at hl 0 rfl) ?_
  refine lv_bipush (v := hpI 16) C.1 C.2.1 dX4_init_16 (by decide) ?_
  refine lv_icmp_gt (tgt := 40) C.1 C.2.1 dX4_init_18 rfl (fun hc => absurd hc (by decide)) (fun hc => ?_)
  refine lv_aload_n C.1 C.2.1 dX4_init_21 rfl (lv_at hl 1 rfl) ?_
  refine n_get (fs := [.ref (z + 18), .int (hpI 0), .int (hpI 0), .int (hpI 0), .int (hpI 0), .int (hpI 0), .int (hpI 0), .int (hpI 0), .int (hpI 0)]) C O4 0 (by decide) hp44_17 (by decide) wd_179 rfl hP dX4_init_22 ?_
  refine lv_iload_n C.1 C.2.1 dX4_init_25 rfl (lv_at hl 0 rfl) ?_
  refine n_size (n := 61) h0 rfl hS hP (fun hsz => ?_)
  refine n_new (fs := [.null, .null, .int (hpI 0), .int (hpI 0), .int (hpI 0)]) C O3 bl_3 wd_145 wd_147 wd_5 hP hS hsz (Nat.le_of_ble_eq_true rfl) (Nat.le_of_ble_eq_true rfl) dX4_init_26 (fun H hP hS => ?_)
  obtain ⟨E45, e45⟩ : ∃ F, F = va_up E44 61 (.inr (3, [.null, .null, .int (hpI 0), .int (hpI 0), .int (hpI 0)])) := ⟨_, rfl⟩
  rw [← e45] at hP
  have hO45 : ∀ j, j < 17 → E45 j = E0 j := fun j h => by rw [e45]; exact (hp_ne (by omega)).trans (hO44 j h)
  have hp45_17 : E45 17 = .inr (4, [.ref (z + 18), .int (hpI 0), .int (hpI 0), .int (hpI 0), .int (hpI 0), .int (hpI 0), .int (hpI 0), .int (hpI 0), .int (hpI 0)]) := by rw [e45, hp_ne (by decide)]; exact hp44_17
  have hp45_18 : E45 18 = .inl (cy 15, 17, .inr (.inr (.inr (.inr (va_up (va_up (va_up (va_up (va_up (va_up (va_up (va_up (va_up (va_up (va_up (va_up (va_up (va_up (fun _ => none) 0 (some (z + 19))) 1 (some (z + 22))) 2 (some (z + 25))) 3 (some (z + 28))) 4 (some (z + 31))) 5 (some (z + 34))) 6 (some (z + 37))) 7 (some (z + 40))) 8 (some (z + 43))) 9 (some (z + 46))) 10 (some (z + 49))) 11 (some (z + 52))) 12 (some (z + 55))) 13 (some (z + 58))))))) := by rw [e45, hp_ne (by decide)]; exact hp44_18
  have hp45_61 : E45 61 = .inr (3, [.null, .null, .int (hpI 0), .int (hpI 0), .int (hpI 0)]) := by rw [e45, hp_at]
  have hD45 : ∀ j, 17 < j → j < 62 → j ≠ 18 → j ≠ 61 → E45 j = hpE z cy j (hp0 j) := fun j h1 h2 hn18 hn61 => by
    rw [e45, hp_ne (by omega)]; exact hD44 j h1 (by omega) hn18
  refine lv_dup C.1 C.2.1 dX4_init_29 rfl ?_
  refine n_size (n := 62) h0 rfl hS hP (fun hsz => ?_)
  refine n_ctorN C A yk_3 nw_148 (kX3_61 l D cy z _ hp45_61) hl hP hS hsz ⟨rfl, rfl, Nat.le_of_ble_eq_true rfl, Nat.le_of_ble_eq_true rfl⟩ ⟨Nat.le_of_ble_eq_true rfl, Nat.le_of_ble_eq_true rfl⟩ (Nat.le_of_ble_eq_true rfl) dX4_init_30 (fun H locs E46 hP hS hj46 hi46 => ?_)
  have hO46 : ∀ j, j < 17 → E46 j = E0 j := fun j h => (hj46 j (by omega)).trans (hO45 j h)
  have hp46_17 : E46 17 = .inr (4, [.ref (z + 18), .int (hpI 0), .int (hpI 0), .int (hpI 0), .int (hpI 0), .int (hpI 0), .int (hpI 0), .int (hpI 0), .int (hpI 0)]) := (hj46 17 (by decide)).trans hp45_17
  have hp46_18 : E46 18 = .inl (cy 15, 17, .inr (.inr (.inr (.inr (va_up (va_up (va_up (va_up (va_up (va_up (va_up (va_up (va_up (va_up (va_up (va_up (va_up (va_up (fun _ => none) 0 (some (z + 19))) 1 (some (z + 22))) 2 (some (z + 25))) 3 (some (z + 28))) 4 (some (z + 31))) 5 (some (z + 34))) 6 (some (z + 37))) 7 (some (z + 40))) 8 (some (z + 43))) 9 (some (z + 46))) 10 (some (z + 49))) 11 (some (z + 52))) 12 (some (z + 55))) 13 (some (z + 58))))))) := (hj46 18 (by decide)).trans hp45_18
  have hD46 : ∀ j, 17 < j → j < 64 → j ≠ 18 → E46 j = hpE z cy j (hp0 j) := fun j h1 h2 hn18 => by
    rcases Nat.lt_or_ge j 61 with h | h
    · exact (hj46 j h).trans (hD45 j h1 (by omega) hn18 (by omega))
    · exact hi46 j h h2
  refine n_aast (c0 := 15) (t0 := 5) C O3 (by decide) (by decide) hp46_18 rfl ((hD46 61 (by decide) (by decide) (by decide)).trans eo_61) 14 rfl (by decide) (by decide) hP hS dX4_init_33 (fun H locs hP hS => ?_)
  obtain ⟨E47, e47⟩ : ∃ F, F = va_up E46 18 (.inl (cy 15, 17, .inr (.inr (.inr (.inr (va_up (va_up (va_up (va_up (va_up (va_up (va_up (va_up (va_up (va_up (va_up (va_up (va_up (va_up (va_up (fun _ => none) 0 (some (z + 19))) 1 (some (z + 22))) 2 (some (z + 25))) 3 (some (z + 28))) 4 (some (z + 31))) 5 (some (z + 34))) 6 (some (z + 37))) 7 (some (z + 40))) 8 (some (z + 43))) 9 (some (z + 46))) 10 (some (z + 49))) 11 (some (z + 52))) 12 (some (z + 55))) 13 (some (z + 58))) 14 (some (z + 61)))))))) := ⟨_, rfl⟩
  rw [← e47] at hP
  have hO47 : ∀ j, j < 17 → E47 j = E0 j := fun j h => by rw [e47]; exact (hp_ne (by omega)).trans (hO46 j h)
  have hp47_17 : E47 17 = .inr (4, [.ref (z + 18), .int (hpI 0), .int (hpI 0), .int (hpI 0), .int (hpI 0), .int (hpI 0), .int (hpI 0), .int (hpI 0), .int (hpI 0)]) := by rw [e47, hp_ne (by decide)]; exact hp46_17
  have hp47_18 : E47 18 = .inl (cy 15, 17, .inr (.inr (.inr (.inr (va_up (va_up (va_up (va_up (va_up (va_up (va_up (va_up (va_up (va_up (va_up (va_up (va_up (va_up (va_up (fun _ => none) 0 (some (z + 19))) 1 (some (z + 22))) 2 (some (z + 25))) 3 (some (z + 28))) 4 (some (z + 31))) 5 (some (z + 34))) 6 (some (z + 37))) 7 (some (z + 40))) 8 (some (z + 43))) 9 (some (z + 46))) 10 (some (z + 49))) 11 (some (z + 52))) 12 (some (z + 55))) 13 (some (z + 58))) 14 (some (z + 61))))))) := by rw [e47, hp_at]
  have hD47 : ∀ j, 17 < j → j < 64 → j ≠ 18 → E47 j = hpE z cy j (hp0 j) := fun j h1 h2 hn18 => by
    rw [e47, hp_ne (by omega)]; exact hD46 j h1 (by omega) hn18
  refine lv_iinc (v := hpI 15) (lv' := [(1, .int (hpI 15)), (0, .ref (z + 17))]) C.1 C.2.1 dX4_init_34 hl (k := 0) rfl (by decide) (by decide) rfl (fun ls hl => ?_)
  refine lv_goto (tgt := 15) C.1 C.2.1 dX4_init_37 rfl ?_
  refine lv_iload_n C.1 C.2.1 dX4_init_15 rfl (lv_at hl 0 rfl) ?_
  refine lv_bipush (v := hpI 16) C.1 C.2.1 dX4_init_16 (by decide) ?_
  refine lv_icmp_gt (tgt := 40) C.1 C.2.1 dX4_init_18 rfl (fun hc => absurd hc (by decide)) (fun hc => ?_)
  refine lv_aload_n C.1 C.2.1 dX4_init_21 rfl (lv_at hl 1 rfl) ?_
  refine n_get (fs := [.ref (z + 18), .int (hpI 0), .int (hpI 0), .int (hpI 0), .int (hpI 0), .int (hpI 0), .int (hpI 0), .int (hpI 0), .int (hpI 0)]) C O4 0 (by decide) hp47_17 (by decide) wd_179 rfl hP dX4_init_22 ?_
  refine lv_iload_n C.1 C.2.1 dX4_init_25 rfl (lv_at hl 0 rfl) ?_
  refine n_size (n := 64) h0 rfl hS hP (fun hsz => ?_)
  refine n_new (fs := [.null, .null, .int (hpI 0), .int (hpI 0), .int (hpI 0)]) C O3 bl_3 wd_145 wd_147 wd_5 hP hS hsz (Nat.le_of_ble_eq_true rfl) (Nat.le_of_ble_eq_true rfl) dX4_init_26 (fun H hP hS => ?_)
  obtain ⟨E48, e48⟩ : ∃ F, F = va_up E47 64 (.inr (3, [.null, .null, .int (hpI 0), .int (hpI 0), .int (hpI 0)])) := ⟨_, rfl⟩
  rw [← e48] at hP
  have hO48 : ∀ j, j < 17 → E48 j = E0 j := fun j h => by rw [e48]; exact (hp_ne (by omega)).trans (hO47 j h)
  have hp48_17 : E48 17 = .inr (4, [.ref (z + 18), .int (hpI 0), .int (hpI 0), .int (hpI 0), .int (hpI 0), .int (hpI 0), .int (hpI 0), .int (hpI 0), .int (hpI 0)]) := by rw [e48, hp_ne (by decide)]; exact hp47_17
  have hp48_18 : E48 18 = .inl (cy 15, 17, .inr (.inr (.inr (.inr (va_up (va_up (va_up (va_up (va_up (va_up (va_up (va_up (va_up (va_up (va_up (va_up (va_up (va_up (va_up (fun _ => none) 0 (some (z + 19))) 1 (some (z + 22))) 2 (some (z + 25))) 3 (some (z + 28))) 4 (some (z + 31))) 5 (some (z + 34))) 6 (some (z + 37))) 7 (some (z + 40))) 8 (some (z + 43))) 9 (some (z + 46))) 10 (some (z + 49))) 11 (some (z + 52))) 12 (some (z + 55))) 13 (some (z + 58))) 14 (some (z + 61))))))) := by rw [e48, hp_ne (by decide)]; exact hp47_18
  have hp48_64 : E48 64 = .inr (3, [.null, .null, .int (hpI 0), .int (hpI 0), .int (hpI 0)]) := by rw [e48, hp_at]
  have hD48 : ∀ j, 17 < j → j < 65 → j ≠ 18 → j ≠ 64 → E48 j = hpE z cy j (hp0 j) := fun j h1 h2 hn18 hn64 => by
    rw [e48, hp_ne (by omega)]; exact hD47 j h1 (by omega) hn18
  refine lv_dup C.1 C.2.1 dX4_init_29 rfl ?_
  refine n_size (n := 65) h0 rfl hS hP (fun hsz => ?_)
  refine n_ctorN C A yk_3 nw_148 (kX3_64 l D cy z _ hp48_64) hl hP hS hsz ⟨rfl, rfl, Nat.le_of_ble_eq_true rfl, Nat.le_of_ble_eq_true rfl⟩ ⟨Nat.le_of_ble_eq_true rfl, Nat.le_of_ble_eq_true rfl⟩ (Nat.le_of_ble_eq_true rfl) dX4_init_30 (fun H locs E49 hP hS hj49 hi49 => ?_)
  have hO49 : ∀ j, j < 17 → E49 j = E0 j := fun j h => (hj49 j (by omega)).trans (hO48 j h)
  have hp49_17 : E49 17 = .inr (4, [.ref (z + 18), .int (hpI 0), .int (hpI 0), .int (hpI 0), .int (hpI 0), .int (hpI 0), .int (hpI 0), .int (hpI 0), .int (hpI 0)]) := (hj49 17 (by decide)).trans hp48_17
  have hp49_18 : E49 18 = .inl (cy 15, 17, .inr (.inr (.inr (.inr (va_up (va_up (va_up (va_up (va_up (va_up (va_up (va_up (va_up (va_up (va_up (va_up (va_up (va_up (va_up (fun _ => none) 0 (some (z + 19))) 1 (some (z + 22))) 2 (some (z + 25))) 3 (some (z + 28))) 4 (some (z + 31))) 5 (some (z + 34))) 6 (some (z + 37))) 7 (some (z + 40))) 8 (some (z + 43))) 9 (some (z + 46))) 10 (some (z + 49))) 11 (some (z + 52))) 12 (some (z + 55))) 13 (some (z + 58))) 14 (some (z + 61))))))) := (hj49 18 (by decide)).trans hp48_18
  have hD49 : ∀ j, 17 < j → j < 67 → j ≠ 18 → E49 j = hpE z cy j (hp0 j) := fun j h1 h2 hn18 => by
    rcases Nat.lt_or_ge j 64 with h | h
    · exact (hj49 j h).trans (hD48 j h1 (by omega) hn18 (by omega))
    · exact hi49 j h h2
  refine n_aast (c0 := 15) (t0 := 5) C O3 (by decide) (by decide) hp49_18 rfl ((hD49 64 (by decide) (by decide) (by decide)).trans eo_64) 15 rfl (by decide) (by decide) hP hS dX4_init_33 (fun H locs hP hS => ?_)
  obtain ⟨E50, e50⟩ : ∃ F, F = va_up E49 18 (.inl (cy 15, 17, .inr (.inr (.inr (.inr (va_up (va_up (va_up (va_up (va_up (va_up (va_up (va_up (va_up (va_up (va_up (va_up (va_up (va_up (va_up (va_up (fun _ => none) 0 (some (z + 19))) 1 (some (z + 22))) 2 (some (z + 25))) 3 (some (z + 28))) 4 (some (z + 31))) 5 (some (z + 34))) 6 (some (z + 37))) 7 (some (z + 40))) 8 (some (z + 43))) 9 (some (z + 46))) 10 (some (z + 49))) 11 (some (z + 52))) 12 (some (z + 55))) 13 (some (z + 58))) 14 (some (z + 61))) 15 (some (z + 64)))))))) := ⟨_, rfl⟩
  rw [← e50] at hP
  have hO50 : ∀ j, j < 17 → E50 j = E0 j := fun j h => by rw [e50]; exact (hp_ne (by omega)).trans (hO49 j h)
  have hp50_17 : E50 17 = .inr (4, [.ref (z + 18), .int (hpI 0), .int (hpI 0), .int (hpI 0), .int (hpI 0), .int (hpI 0), .int (hpI 0), .int (hpI 0), .int (hpI 0)]) := by rw [e50, hp_ne (by decide)]; exact hp49_17
  have hp50_18 : E50 18 = .inl (cy 15, 17, .inr (.inr (.inr (.inr (va_up (va_up (va_up (va_up (va_up (va_up (va_up (va_up (va_up (va_up (va_up (va_up (va_up (va_up (va_up (va_up (fun _ => none) 0 (some (z + 19))) 1 (some (z + 22))) 2 (some (z + 25))) 3 (some (z + 28))) 4 (some (z + 31))) 5 (some (z + 34))) 6 (some (z + 37))) 7 (some (z + 40))) 8 (some (z + 43))) 9 (some (z + 46))) 10 (some (z + 49))) 11 (some (z + 52))) 12 (some (z + 55))) 13 (some (z + 58))) 14 (some (z + 61))) 15 (some (z + 64))))))) := by rw [e50, hp_at]
  have hD50 : ∀ j, 17 < j → j < 67 → j ≠ 18 → E50 j = hpE z cy j (hp0 j) := fun j h1 h2 hn18 => by
    rw [e50, hp_ne (by omega)]; exact hD49 j h1 (by omega) hn18
  refine lv_iinc (v := hpI 16) (lv' := [(1, .int (hpI 16)), (0, .ref (z + 17))]) C.1 C.2.1 dX4_init_34 hl (k := 0) rfl (by decide) (by decide) rfl (fun ls hl => ?_)
  refine lv_goto (tgt := 15) C.1 C.2.1 dX4_init_37 rfl ?_
  refine lv_iload_n C.1 C.2.1 dX4_init_15 rfl (lv_at hl 0 rfl) ?_
  refine lv_bipush (v := hpI 16) C.1 C.2.1 dX4_init_16 (by decide) ?_
  refine lv_icmp_gt (tgt := 40) C.1 C.2.1 dX4_init_18 rfl (fun hc => absurd hc (by decide)) (fun hc => ?_)
  refine lv_aload_n C.1 C.2.1 dX4_init_21 rfl (lv_at hl 1 rfl) ?_
  refine n_get (fs := [.ref (z + 18), .int (hpI 0), .int (hpI 0), .int (hpI 0), .int (hpI 0), .int (hpI 0), .int (hpI 0), .int (hpI 0), .int (hpI 0)]) C O4 0 (by decide) hp50_17 (by decide) wd_179 rfl hP dX4_init_22 ?_
  refine lv_iload_n C.1 C.2.1 dX4_init_25 rfl (lv_at hl 0 rfl) ?_
  refine n_size (n := 67) h0 rfl hS hP (fun hsz => ?_)
  refine n_new (fs := [.null, .null, .int (hpI 0), .int (hpI 0), .int (hpI 0)]) C O3 bl_3 wd_145 wd_147 wd_5 hP hS hsz (Nat.le_of_ble_eq_true rfl) (Nat.le_of_ble_eq_true rfl) dX4_init_26 (fun H hP hS => ?_)
  obtain ⟨E51, e51⟩ : ∃ F, F = va_up E50 67 (.inr (3, [.null, .null, .int (hpI 0), .int (hpI 0), .int (hpI 0)])) := ⟨_, rfl⟩
  rw [← e51] at hP
  have hO51 : ∀ j, j < 17 → E51 j = E0 j := fun j h => by rw [e51]; exact (hp_ne (by omega)).trans (hO50 j h)
  have hp51_17 : E51 17 = .inr (4, [.ref (z + 18), .int (hpI 0), .int (hpI 0), .int (hpI 0), .int (hpI 0), .int (hpI 0), .int (hpI 0), .int (hpI 0), .int (hpI 0)]) := by rw [e51, hp_ne (by decide)]; exact hp50_17
  have hp51_18 : E51 18 = .inl (cy 15, 17, .inr (.inr (.inr (.inr (va_up (va_up (va_up (va_up (va_up (va_up (va_up (va_up (va_up (va_up (va_up (va_up (va_up (va_up (va_up (va_up (fun _ => none) 0 (some (z + 19))) 1 (some (z + 22))) 2 (some (z + 25))) 3 (some (z + 28))) 4 (some (z + 31))) 5 (some (z + 34))) 6 (some (z + 37))) 7 (some (z + 40))) 8 (some (z + 43))) 9 (some (z + 46))) 10 (some (z + 49))) 11 (some (z + 52))) 12 (some (z + 55))) 13 (some (z + 58))) 14 (some (z + 61))) 15 (some (z + 64))))))) := by rw [e51, hp_ne (by decide)]; exact hp50_18
  have hp51_67 : E51 67 = .inr (3, [.null, .null, .int (hpI 0), .int (hpI 0), .int (hpI 0)]) := by rw [e51, hp_at]
  have hD51 : ∀ j, 17 < j → j < 68 → j ≠ 18 → j ≠ 67 → E51 j = hpE z cy j (hp0 j) := fun j h1 h2 hn18 hn67 => by
    rw [e51, hp_ne (by omega)]; exact hD50 j h1 (by omega) hn18
  refine lv_dup C.1 C.2.1 dX4_init_29 rfl ?_
  refine n_size (n := 68) h0 rfl hS hP (fun hsz => ?_)
  refine n_ctorN C A yk_3 nw_148 (kX3_67 l D cy z _ hp51_67) hl hP hS hsz ⟨rfl, rfl, Nat.le_of_ble_eq_true rfl, Nat.le_of_ble_eq_true rfl⟩ ⟨Nat.le_of_ble_eq_true rfl, Nat.le_of_ble_eq_true rfl⟩ (Nat.le_of_ble_eq_true rfl) dX4_init_30 (fun H locs E52 hP hS hj52 hi52 => ?_)
  have hO52 : ∀ j, j < 17 → E52 j = E0 j := fun j h => (hj52 j (by omega)).trans (hO51 j h)
  have hp52_17 : E52 17 = .inr (4, [.ref (z + 18), .int (hpI 0), .int (hpI 0), .int (hpI 0), .int (hpI 0), .int (hpI 0), .int (hpI 0), .int (hpI 0), .int (hpI 0)]) := (hj52 17 (by decide)).trans hp51_17
  have hp52_18 : E52 18 = .inl (cy 15, 17, .inr (.inr (.inr (.inr (va_up (va_up (va_up (va_up (va_up (va_up (va_up (va_up (va_up (va_up (va_up (va_up (va_up (va_up (va_up (va_up (fun _ => none) 0 (some (z + 19))) 1 (some (z + 22))) 2 (some (z + 25))) 3 (some (z + 28))) 4 (some (z + 31))) 5 (some (z + 34))) 6 (some (z + 37))) 7 (some (z + 40))) 8 (some (z + 43))) 9 (some (z + 46))) 10 (some (z + 49))) 11 (some (z + 52))) 12 (some (z + 55))) 13 (some (z + 58))) 14 (some (z + 61))) 15 (some (z + 64))))))) := (hj52 18 (by decide)).trans hp51_18
  have hD52 : ∀ j, 17 < j → j < 70 → j ≠ 18 → E52 j = hpE z cy j (hp0 j) := fun j h1 h2 hn18 => by
    rcases Nat.lt_or_ge j 67 with h | h
    · exact (hj52 j h).trans (hD51 j h1 (by omega) hn18 (by omega))
    · exact hi52 j h h2
  refine n_aast (c0 := 15) (t0 := 5) C O3 (by decide) (by decide) hp52_18 rfl ((hD52 67 (by decide) (by decide) (by decide)).trans eo_67) 16 rfl (by decide) (by decide) hP hS dX4_init_33 (fun H locs hP hS => ?_)
  obtain ⟨E53, e53⟩ : ∃ F, F = va_up E52 18 (.inl (cy 15, 17, .inr (.inr (.inr (.inr (va_up (va_up (va_up (va_up (va_up (va_up (va_up (va_up (va_up (va_up (va_up (va_up (va_up (va_up (va_up (va_up (va_up (fun _ => none) 0 (some (z + 19))) 1 (some (z + 22))) 2 (some (z + 25))) 3 (some (z + 28))) 4 (some (z + 31))) 5 (some (z + 34))) 6 (some (z + 37))) 7 (some (z + 40))) 8 (some (z + 43))) 9 (some (z + 46))) 10 (some (z + 49))) 11 (some (z + 52))) 12 (some (z + 55))) 13 (some (z + 58))) 14 (some (z + 61))) 15 (some (z + 64))) 16 (some (z + 67)))))))) := ⟨_, rfl⟩
  rw [← e53] at hP
  have hO53 : ∀ j, j < 17 → E53 j = E0 j := fun j h => by rw [e53]; exact (hp_ne (by omega)).trans (hO52 j h)
  have hp53_17 : E53 17 = .inr (4, [.ref (z + 18), .int (hpI 0), .int (hpI 0), .int (hpI 0), .int (hpI 0), .int (hpI 0), .int (hpI 0), .int (hpI 0), .int (hpI 0)]) := by rw [e53, hp_ne (by decide)]; exact hp52_17
  have hp53_18 : E53 18 = .inl (cy 15, 17, .inr (.inr (.inr (.inr (va_up (va_up (va_up (va_up (va_up (va_up (va_up (va_up (va_up (va_up (va_up (va_up (va_up (va_up (va_up (va_up (va_up (fun _ => none) 0 (some (z + 19))) 1 (some (z + 22))) 2 (some (z + 25))) 3 (some (z + 28))) 4 (some (z + 31))) 5 (some (z + 34))) 6 (some (z + 37))) 7 (some (z + 40))) 8 (some (z + 43))) 9 (some (z + 46))) 10 (some (z + 49))) 11 (some (z + 52))) 12 (some (z + 55))) 13 (some (z + 58))) 14 (some (z + 61))) 15 (some (z + 64))) 16 (some (z + 67))))))) := by rw [e53, hp_at]
  have hD53 : ∀ j, 17 < j → j < 70 → j ≠ 18 → E53 j = hpE z cy j (hp0 j) := fun j h1 h2 hn18 => by
    rw [e53, hp_ne (by omega)]; exact hD52 j h1 (by omega) hn18
  have hP := hpWn_same (k := 18) (x := .inl (cy 15, 17, .inr (.inr (.inr (.inr (fun i => some (z + hprf 18 i))))))) hP (by decide) (fun h => by
    rw [hp53_18] at h
    refine hp_arrSame (fun i hi => ?_) h
    rcases (show i = 0 ∨ i = 1 ∨ i = 2 ∨ i = 3 ∨ i = 4 ∨ i = 5 ∨ i = 6 ∨ i = 7 ∨ i = 8 ∨ i = 9 ∨ i = 10 ∨ i = 11 ∨ i = 12 ∨ i = 13 ∨ i = 14 ∨ i = 15 ∨ i = 16 by omega) with rfl | rfl | rfl | rfl | rfl | rfl | rfl | rfl | rfl | rfl | rfl | rfl | rfl | rfl | rfl | rfl | rfl <;> rfl)
  obtain ⟨E54, e54⟩ : ∃ F, F = va_up E53 18 (.inl (cy 15, 17, .inr (.inr (.inr (.inr (fun i => some (z + hprf 18 i))))))) := ⟨_, rfl⟩
  rw [← e54] at hP
  have hO54 : ∀ j, j < 17 → E54 j = E0 j := fun j h => by rw [e54]; exact (hp_ne (by omega)).trans (hO53 j h)
  have hp54_17 : E54 17 = .inr (4, [.ref (z + 18), .int (hpI 0), .int (hpI 0), .int (hpI 0), .int (hpI 0), .int (hpI 0), .int (hpI 0), .int (hpI 0), .int (hpI 0)]) := by rw [e54, hp_ne (by decide)]; exact hp53_17
  have hp54_18 : E54 18 = .inl (cy 15, 17, .inr (.inr (.inr (.inr (fun i => some (z + hprf 18 i)))))) := by rw [e54, hp_at]
  have hD54 : ∀ j, 17 < j → j < 70 → j ≠ 18 → E54 j = hpE z cy j (hp0 j) := fun j h1 h2 hn18 => by
    rw [e54, hp_ne (by omega)]; exact hD53 j h1 (by omega) hn18
  have hD55 : ∀ j, 17 < j → j < 70 → E54 j = hpE z cy j (hp0 j) := fun j h1 h2 => by
    by_cases hn18 : j = 18
    · subst hn18; rw [hp54_18, ea_18]
    · exact hD54 j h1 h2 hn18
  refine lv_iinc (v := hpI 17) (lv' := [(1, .int (hpI 17)), (0, .ref (z + 17))]) C.1 C.2.1 dX4_init_34 hl (k := 0) rfl (by decide) (by decide) rfl (fun ls hl => ?_)
  refine lv_goto (tgt := 15) C.1 C.2.1 dX4_init_37 rfl ?_
  refine lv_iload_n C.1 C.2.1 dX4_init_15 rfl (lv_at hl 0 rfl) ?_
  refine lv_bipush (v := hpI 16) C.1 C.2.1 dX4_init_16 (by decide) ?_
  refine lv_icmp_gt (tgt := 40) C.1 C.2.1 dX4_init_18 rfl (fun hc => ?_) (fun hc => absurd (by decide) hc)
  refine W.vret C.1 C.2.1 hr (fun t ht _ => ⟨⟨rfl, E54, by rw [ht]; exact hP, hO54, fun j h1 h2 => ?_⟩, hS.F ht⟩) (fun q hq => hS.2.2 q hq) dX4_init_40 hk
  rcases Nat.lt_or_ge 17 j with h | h
  · exact hD55 j h h2
  · obtain rfl : j = 17 := by omega
    exact hp54_17.trans eo_17.symm
set_option maxHeartbeats 4000000 in
set_option maxRecDepth 20000 in
theorem kX4_70 (l : Launch) (D : va_G) (cy : Nat → ClassId) (z : Nat) (E0 : Nat → va_E) (hE0 : E0 70 = .inr (4, [.null, .int (hpI 0), .int (hpI 0), .int (hpI 0), .int (hpI 0), .int (hpI 0), .int (hpI 0), .int (hpI 0), .int (hpI 0)])) : hpK l D cy z yX4_init cX4_init 2 rK4 70 53 52 1462 E0 := by
  refine hp_metX rfl (Nat.le_of_ble_eq_true rfl) (fun p e s m below meth c ls C A hr hk hnm h0 hl hP hS => ?_)
  have hO0 : ∀ j, j < 70 → E0 j = E0 j := fun _ _ => rfl
  have hD0 : ∀ j, 70 < j → j < 71 → E0 j = hpE z cy j (hp0 j) := fun j h1 h2 => by omega
  refine lv_aload_n C.1 C.2.1 dX4_init_0 rfl (lv_at hl 0 rfl) ?_
  refine W.objInit C.1 C.2.1 C.2.2.2.1 (C.2.2.2.2.1 _ wd_144) (C.2.2.2.2.1 _ wd_24) (C.2.2.2.2.1 _ wd_25) rfl (by rw [C.2.2.1]; exact hl.1) rfl dX4_init_1 (Nat.le_of_ble_eq_true rfl) (Nat.le_of_ble_eq_true rfl) ?_
  refine lv_aload_n C.1 C.2.1 dX4_init_4 rfl (lv_at hl 0 rfl) ?_
  refine lv_bipush (v := hpI 17) C.1 C.2.1 dX4_init_5 (by decide) ?_
  refine n_size (n := 71) h0 rfl hS hP (fun hsz => ?_)
  refine n_newq (ci := 15) (t0 := 5) (N := 17) C wd_145 (hpA_of (w := .arrayOver (.object "TurfHeaps$Row")) 146 (by decide +kernel) rfl A) rfl rfl (by decide) hP hS hsz (Nat.le_of_ble_eq_true rfl) (Nat.le_of_ble_eq_true rfl) dX4_init_7 (fun H hP hS => ?_)
  obtain ⟨E1, e1⟩ : ∃ F, F = va_up E0 71 (.inl (cy 15, 17, .inr (.inr (.inr (.inr (fun _ => none)))))) := ⟨_, rfl⟩
  rw [← e1] at hP
  have hO1 : ∀ j, j < 70 → E1 j = E0 j := fun j h => by rw [e1]; exact (hp_ne (by omega)).trans (hO0 j h)
  have hp1_70 : E1 70 = .inr (4, [.null, .int (hpI 0), .int (hpI 0), .int (hpI 0), .int (hpI 0), .int (hpI 0), .int (hpI 0), .int (hpI 0), .int (hpI 0)]) := by rw [e1, hp_ne (by decide)]; exact hE0
  have hp1_71 : E1 71 = .inl (cy 15, 17, .inr (.inr (.inr (.inr (fun _ => none))))) := by rw [e1, hp_at]
  have hD1 : ∀ j, 70 < j → j < 72 → j ≠ 71 → E1 j = hpE z cy j (hp0 j) := fun j h1 h2 hn71 => by
    rw [e1, hp_ne (by omega)]; exact hD0 j h1 (by omega)
  refine n_putF (fs' := [.ref (z + 71), .int (hpI 0), .int (hpI 0), .int (hpI 0), .int (hpI 0), .int (hpI 0), .int (hpI 0), .int (hpI 0), .int (hpI 0)]) C O4 0 (by decide) hp1_70 (by decide) rfl hnm rfl wd_179 rfl rfl (Nat.le_of_ble_eq_true rfl) rfl hP hS dX4_init_10 (fun H locs hP hS => ?_)
  obtain ⟨E2, e2⟩ : ∃ F, F = va_up E1 70 (.inr (4, [.ref (z + 71), .int (hpI 0), .int (hpI 0), .int (hpI 0), .int (hpI 0), .int (hpI 0), .int (hpI 0), .int (hpI 0), .int (hpI 0)])) := ⟨_, rfl⟩
  rw [← e2] at hP
  have hO2 : ∀ j, j < 70 → E2 j = E0 j := fun j h => by rw [e2]; exact (hp_ne (by omega)).trans (hO1 j h)
  have hp2_71 : E2 71 = .inl (cy 15, 17, .inr (.inr (.inr (.inr (fun _ => none))))) := by rw [e2, hp_ne (by decide)]; exact hp1_71
  have hp2_70 : E2 70 = .inr (4, [.ref (z + 71), .int (hpI 0), .int (hpI 0), .int (hpI 0), .int (hpI 0), .int (hpI 0), .int (hpI 0), .int (hpI 0), .int (hpI 0)]) := by rw [e2, hp_at]
  have hD2 : ∀ j, 70 < j → j < 72 → j ≠ 71 → E2 j = hpE z cy j (hp0 j) := fun j h1 h2 hn71 => by
    rw [e2, hp_ne (by omega)]; exact hD1 j h1 (by omega) hn71
  refine lv_iconst (v := hpI 0) C.1 C.2.1 dX4_init_13 rfl ?_
  refine lv_istore_n (lv' := [(1, .int (hpI 0)), (0, .ref (z + 70))]) C.1 C.2.1 dX4_init_14 rfl hl (by decide) rfl (fun ls hl => ?_)
  refine lv_iload_n C.1 C.2.1 dX4_init_15 rfl (lv_at hl 0 rfl) ?_
  refine lv_bipush (v := hpI 16) C.1 C.2.1 dX4_init_16 (by decide) ?_
  refine lv_icmp_gt (tgt := 40) C.1 C.2.1 dX4_init_18 rfl (fun hc => absurd hc (by decide)) (fun hc => ?_)
  refine lv_aload_n C.1 C.2.1 dX4_init_21 rfl (lv_at hl 1 rfl) ?_
  refine n_get (fs := [.ref (z + 71), .int (hpI 0), .int (hpI 0), .int (hpI 0), .int (hpI 0), .int (hpI 0), .int (hpI 0), .int (hpI 0), .int (hpI 0)]) C O4 0 (by decide) hp2_70 (by decide) wd_179 rfl hP dX4_init_22 ?_
  refine lv_iload_n C.1 C.2.1 dX4_init_25 rfl (lv_at hl 0 rfl) ?_
  refine n_size (n := 72) h0 rfl hS hP (fun hsz => ?_)
  refine n_new (fs := [.null, .null, .int (hpI 0), .int (hpI 0), .int (hpI 0)]) C O3 bl_3 wd_145 wd_147 wd_5 hP hS hsz (Nat.le_of_ble_eq_true rfl) (Nat.le_of_ble_eq_true rfl) dX4_init_26 (fun H hP hS => ?_)
  obtain ⟨E3, e3⟩ : ∃ F, F = va_up E2 72 (.inr (3, [.null, .null, .int (hpI 0), .int (hpI 0), .int (hpI 0)])) := ⟨_, rfl⟩
  rw [← e3] at hP
  have hO3 : ∀ j, j < 70 → E3 j = E0 j := fun j h => by rw [e3]; exact (hp_ne (by omega)).trans (hO2 j h)
  have hp3_71 : E3 71 = .inl (cy 15, 17, .inr (.inr (.inr (.inr (fun _ => none))))) := by rw [e3, hp_ne (by decide)]; exact hp2_71
  have hp3_70 : E3 70 = .inr (4, [.ref (z + 71), .int (hpI 0), .int (hpI 0), .int (hpI 0), .int (hpI 0), .int (hpI 0), .int (hpI 0), .int (hpI 0), .int (hpI 0)]) := by rw [e3, hp_ne (by decide)]; exact hp2_70
  have hp3_72 : E3 72 = .inr (3, [.null, .null, .int (hpI 0), .int (hpI 0), .int (hpI 0)]) := by rw [e3, hp_at]
  have hD3 : ∀ j, 70 < j → j < 73 → j ≠ 71 → j ≠ 72 → E3 j = hpE z cy j (hp0 j) := fun j h1 h2 hn71 hn72 => by
    rw [e3, hp_ne (by omega)]; exact hD2 j h1 (by omega) hn71
  refine lv_dup C.1 C.2.1 dX4_init_29 rfl ?_
  refine n_size (n := 73) h0 rfl hS hP (fun hsz => ?_)
  refine n_ctorN C A yk_3 nw_148 (kX3_72 l D cy z _ hp3_72) hl hP hS hsz ⟨rfl, rfl, Nat.le_of_ble_eq_true rfl, Nat.le_of_ble_eq_true rfl⟩ ⟨Nat.le_of_ble_eq_true rfl, Nat.le_of_ble_eq_true rfl⟩ (Nat.le_of_ble_eq_true rfl) dX4_init_30 (fun H locs E4 hP hS hj4 hi4 => ?_)
  have hO4 : ∀ j, j < 70 → E4 j = E0 j := fun j h => (hj4 j (by omega)).trans (hO3 j h)
  have hp4_71 : E4 71 = .inl (cy 15, 17, .inr (.inr (.inr (.inr (fun _ => none))))) := (hj4 71 (by decide)).trans hp3_71
  have hp4_70 : E4 70 = .inr (4, [.ref (z + 71), .int (hpI 0), .int (hpI 0), .int (hpI 0), .int (hpI 0), .int (hpI 0), .int (hpI 0), .int (hpI 0), .int (hpI 0)]) := (hj4 70 (by decide)).trans hp3_70
  have hD4 : ∀ j, 70 < j → j < 75 → j ≠ 71 → E4 j = hpE z cy j (hp0 j) := fun j h1 h2 hn71 => by
    rcases Nat.lt_or_ge j 72 with h | h
    · exact (hj4 j h).trans (hD3 j h1 (by omega) hn71 (by omega))
    · exact hi4 j h h2
  refine n_aast (c0 := 15) (t0 := 5) C O3 (by decide) (by decide) hp4_71 rfl ((hD4 72 (by decide) (by decide) (by decide)).trans eo_72) 0 rfl (by decide) (by decide) hP hS dX4_init_33 (fun H locs hP hS => ?_)
  obtain ⟨E5, e5⟩ : ∃ F, F = va_up E4 71 (.inl (cy 15, 17, .inr (.inr (.inr (.inr (va_up (fun _ => none) 0 (some (z + 72)))))))) := ⟨_, rfl⟩
  rw [← e5] at hP
  have hO5 : ∀ j, j < 70 → E5 j = E0 j := fun j h => by rw [e5]; exact (hp_ne (by omega)).trans (hO4 j h)
  have hp5_70 : E5 70 = .inr (4, [.ref (z + 71), .int (hpI 0), .int (hpI 0), .int (hpI 0), .int (hpI 0), .int (hpI 0), .int (hpI 0), .int (hpI 0), .int (hpI 0)]) := by rw [e5, hp_ne (by decide)]; exact hp4_70
  have hp5_71 : E5 71 = .inl (cy 15, 17, .inr (.inr (.inr (.inr (va_up (fun _ => none) 0 (some (z + 72))))))) := by rw [e5, hp_at]
  have hD5 : ∀ j, 70 < j → j < 75 → j ≠ 71 → E5 j = hpE z cy j (hp0 j) := fun j h1 h2 hn71 => by
    rw [e5, hp_ne (by omega)]; exact hD4 j h1 (by omega) hn71
  refine lv_iinc (v := hpI 1) (lv' := [(1, .int (hpI 1)), (0, .ref (z + 70))]) C.1 C.2.1 dX4_init_34 hl (k := 0) rfl (by decide) (by decide) rfl (fun ls hl => ?_)
  refine lv_goto (tgt := 15) C.1 C.2.1 dX4_init_37 rfl ?_
  refine lv_iload_n C.1 C.2.1 dX4_init_15 rfl (lv_at hl 0 rfl) ?_
  refine lv_bipush (v := hpI 16) C.1 C.2.1 dX4_init_16 (by decide) ?_
  refine lv_icmp_gt (tgt := 40) C.1 C.2.1 dX4_init_18 rfl (fun hc => absurd hc (by decide)) (fun hc => ?_)
  refine lv_aload_n C.1 C.2.1 dX4_init_21 rfl (lv_at hl 1 rfl) ?_
  refine n_get (fs := [.ref (z + 71), .int (hpI 0), .int (hpI 0), .int (hpI 0), .int (hpI 0), .int (hpI 0), .int (hpI 0), .int (hpI 0), .int (hpI 0)]) C O4 0 (by decide) hp5_70 (by decide) wd_179 rfl hP dX4_init_22 ?_
  refine lv_iload_n C.1 C.2.1 dX4_init_25 rfl (lv_at hl 0 rfl) ?_
  refine n_size (n := 75) h0 rfl hS hP (fun hsz => ?_)
  refine n_new (fs := [.null, .null, .int (hpI 0), .int (hpI 0), .int (hpI 0)]) C O3 bl_3 wd_145 wd_147 wd_5 hP hS hsz (Nat.le_of_ble_eq_true rfl) (Nat.le_of_ble_eq_true rfl) dX4_init_26 (fun H hP hS => ?_)
  obtain ⟨E6, e6⟩ : ∃ F, F = va_up E5 75 (.inr (3, [.null, .null, .int (hpI 0), .int (hpI 0), .int (hpI 0)])) := ⟨_, rfl⟩
  rw [← e6] at hP
  have hO6 : ∀ j, j < 70 → E6 j = E0 j := fun j h => by rw [e6]; exact (hp_ne (by omega)).trans (hO5 j h)
  have hp6_70 : E6 70 = .inr (4, [.ref (z + 71), .int (hpI 0), .int (hpI 0), .int (hpI 0), .int (hpI 0), .int (hpI 0), .int (hpI 0), .int (hpI 0), .int (hpI 0)]) := by rw [e6, hp_ne (by decide)]; exact hp5_70
  have hp6_71 : E6 71 = .inl (cy 15, 17, .inr (.inr (.inr (.inr (va_up (fun _ => none) 0 (some (z + 72))))))) := by rw [e6, hp_ne (by decide)]; exact hp5_71
  have hp6_75 : E6 75 = .inr (3, [.null, .null, .int (hpI 0), .int (hpI 0), .int (hpI 0)]) := by rw [e6, hp_at]
  have hD6 : ∀ j, 70 < j → j < 76 → j ≠ 71 → j ≠ 75 → E6 j = hpE z cy j (hp0 j) := fun j h1 h2 hn71 hn75 => by
    rw [e6, hp_ne (by omega)]; exact hD5 j h1 (by omega) hn71
  refine lv_dup C.1 C.2.1 dX4_init_29 rfl ?_
  refine n_size (n := 76) h0 rfl hS hP (fun hsz => ?_)
  refine n_ctorN C A yk_3 nw_148 (kX3_75 l D cy z _ hp6_75) hl hP hS hsz ⟨rfl, rfl, Nat.le_of_ble_eq_true rfl, Nat.le_of_ble_eq_true rfl⟩ ⟨Nat.le_of_ble_eq_true rfl, Nat.le_of_ble_eq_true rfl⟩ (Nat.le_of_ble_eq_true rfl) dX4_init_30 (fun H locs E7 hP hS hj7 hi7 => ?_)
  have hO7 : ∀ j, j < 70 → E7 j = E0 j := fun j h => (hj7 j (by omega)).trans (hO6 j h)
  have hp7_70 : E7 70 = .inr (4, [.ref (z + 71), .int (hpI 0), .int (hpI 0), .int (hpI 0), .int (hpI 0), .int (hpI 0), .int (hpI 0), .int (hpI 0), .int (hpI 0)]) := (hj7 70 (by decide)).trans hp6_70
  have hp7_71 : E7 71 = .inl (cy 15, 17, .inr (.inr (.inr (.inr (va_up (fun _ => none) 0 (some (z + 72))))))) := (hj7 71 (by decide)).trans hp6_71
  have hD7 : ∀ j, 70 < j → j < 78 → j ≠ 71 → E7 j = hpE z cy j (hp0 j) := fun j h1 h2 hn71 => by
    rcases Nat.lt_or_ge j 75 with h | h
    · exact (hj7 j h).trans (hD6 j h1 (by omega) hn71 (by omega))
    · exact hi7 j h h2
  refine n_aast (c0 := 15) (t0 := 5) C O3 (by decide) (by decide) hp7_71 rfl ((hD7 75 (by decide) (by decide) (by decide)).trans eo_75) 1 rfl (by decide) (by decide) hP hS dX4_init_33 (fun H locs hP hS => ?_)
  obtain ⟨E8, e8⟩ : ∃ F, F = va_up E7 71 (.inl (cy 15, 17, .inr (.inr (.inr (.inr (va_up (va_up (fun _ => none) 0 (some (z + 72))) 1 (some (z + 75)))))))) := ⟨_, rfl⟩
  rw [← e8] at hP
  have hO8 : ∀ j, j < 70 → E8 j = E0 j := fun j h => by rw [e8]; exact (hp_ne (by omega)).trans (hO7 j h)
  have hp8_70 : E8 70 = .inr (4, [.ref (z + 71), .int (hpI 0), .int (hpI 0), .int (hpI 0), .int (hpI 0), .int (hpI 0), .int (hpI 0), .int (hpI 0), .int (hpI 0)]) := by rw [e8, hp_ne (by decide)]; exact hp7_70
  have hp8_71 : E8 71 = .inl (cy 15, 17, .inr (.inr (.inr (.inr (va_up (va_up (fun _ => none) 0 (some (z + 72))) 1 (some (z + 75))))))) := by rw [e8, hp_at]
  have hD8 : ∀ j, 70 < j → j < 78 → j ≠ 71 → E8 j = hpE z cy j (hp0 j) := fun j h1 h2 hn71 => by
    rw [e8, hp_ne (by omega)]; exact hD7 j h1 (by omega) hn71
  refine lv_iinc (v := hpI 2) (lv' := [(1, .int (hpI 2)), (0, .ref (z + 70))]) C.1 C.2.1 dX4_init_34 hl (k := 0) rfl (by decide) (by decide) rfl (fun ls hl => ?_)
  refine lv_goto (tgt := 15) C.1 C.2.1 dX4_init_37 rfl ?_
  refine lv_iload_n C.1 C.2.1 dX4_init_15 rfl (lv_at hl 0 rfl) ?_
  refine lv_bipush (v := hpI 16) C.1 C.2.1 dX4_init_16 (by decide) ?_
  refine lv_icmp_gt (tgt := 40) C.1 C.2.1 dX4_init_18 rfl (fun hc => absurd hc (by decide)) (fun hc => ?_)
  refine lv_aload_n C.1 C.2.1 dX4_init_21 rfl (lv_at hl 1 rfl) ?_
  refine n_get (fs := [.ref (z + 71), .int (hpI 0), .int (hpI 0), .int (hpI 0), .int (hpI 0), .int (hpI 0), .int (hpI 0), .int (hpI 0), .int (hpI 0)]) C O4 0 (by decide) hp8_70 (by decide) wd_179 rfl hP dX4_init_22 ?_
  refine lv_iload_n C.1 C.2.1 dX4_init_25 rfl (lv_at hl 0 rfl) ?_
  refine n_size (n := 78) h0 rfl hS hP (fun hsz => ?_)
  refine n_new (fs := [.null, .null, .int (hpI 0), .int (hpI 0), .int (hpI 0)]) C O3 bl_3 wd_145 wd_147 wd_5 hP hS hsz (Nat.le_of_ble_eq_true rfl) (Nat.le_of_ble_eq_true rfl) dX4_init_26 (fun H hP hS => ?_)
  obtain ⟨E9, e9⟩ : ∃ F, F = va_up E8 78 (.inr (3, [.null, .null, .int (hpI 0), .int (hpI 0), .int (hpI 0)])) := ⟨_, rfl⟩
  rw [← e9] at hP
  have hO9 : ∀ j, j < 70 → E9 j = E0 j := fun j h => by rw [e9]; exact (hp_ne (by omega)).trans (hO8 j h)
  have hp9_70 : E9 70 = .inr (4, [.ref (z + 71), .int (hpI 0), .int (hpI 0), .int (hpI 0), .int (hpI 0), .int (hpI 0), .int (hpI 0), .int (hpI 0), .int (hpI 0)]) := by rw [e9, hp_ne (by decide)]; exact hp8_70
  have hp9_71 : E9 71 = .inl (cy 15, 17, .inr (.inr (.inr (.inr (va_up (va_up (fun _ => none) 0 (some (z + 72))) 1 (some (z + 75))))))) := by rw [e9, hp_ne (by decide)]; exact hp8_71
  have hp9_78 : E9 78 = .inr (3, [.null, .null, .int (hpI 0), .int (hpI 0), .int (hpI 0)]) := by rw [e9, hp_at]
  have hD9 : ∀ j, 70 < j → j < 79 → j ≠ 71 → j ≠ 78 → E9 j = hpE z cy j (hp0 j) := fun j h1 h2 hn71 hn78 => by
    rw [e9, hp_ne (by omega)]; exact hD8 j h1 (by omega) hn71
  refine lv_dup C.1 C.2.1 dX4_init_29 rfl ?_
  refine n_size (n := 79) h0 rfl hS hP (fun hsz => ?_)
  refine n_ctorN C A yk_3 nw_148 (kX3_78 l D cy z _ hp9_78) hl hP hS hsz ⟨rfl, rfl, Nat.le_of_ble_eq_true rfl, Nat.le_of_ble_eq_true rfl⟩ ⟨Nat.le_of_ble_eq_true rfl, Nat.le_of_ble_eq_true rfl⟩ (Nat.le_of_ble_eq_true rfl) dX4_init_30 (fun H locs E10 hP hS hj10 hi10 => ?_)
  have hO10 : ∀ j, j < 70 → E10 j = E0 j := fun j h => (hj10 j (by omega)).trans (hO9 j h)
  have hp10_70 : E10 70 = .inr (4, [.ref (z + 71), .int (hpI 0), .int (hpI 0), .int (hpI 0), .int (hpI 0), .int (hpI 0), .int (hpI 0), .int (hpI 0), .int (hpI 0)]) := (hj10 70 (by decide)).trans hp9_70
  have hp10_71 : E10 71 = .inl (cy 15, 17, .inr (.inr (.inr (.inr (va_up (va_up (fun _ => none) 0 (some (z + 72))) 1 (some (z + 75))))))) := (hj10 71 (by decide)).trans hp9_71
  have hD10 : ∀ j, 70 < j → j < 81 → j ≠ 71 → E10 j = hpE z cy j (hp0 j) := fun j h1 h2 hn71 => by
    rcases Nat.lt_or_ge j 78 with h | h
    · exact (hj10 j h).trans (hD9 j h1 (by omega) hn71 (by omega))
    · exact hi10 j h h2
  refine n_aast (c0 := 15) (t0 := 5) C O3 (by decide) (by decide) hp10_71 rfl ((hD10 78 (by decide) (by decide) (by decide)).trans eo_78) 2 rfl (by decide) (by decide) hP hS dX4_init_33 (fun H locs hP hS => ?_)
  obtain ⟨E11, e11⟩ : ∃ F, F = va_up E10 71 (.inl (cy 15, 17, .inr (.inr (.inr (.inr (va_up (va_up (va_up (fun _ => none) 0 (some (z + 72))) 1 (some (z + 75))) 2 (some (z + 78)))))))) := ⟨_, rfl⟩
  rw [← e11] at hP
  have hO11 : ∀ j, j < 70 → E11 j = E0 j := fun j h => by rw [e11]; exact (hp_ne (by omega)).trans (hO10 j h)
  have hp11_70 : E11 70 = .inr (4, [.ref (z + 71), .int (hpI 0), .int (hpI 0), .int (hpI 0), .int (hpI 0), .int (hpI 0), .int (hpI 0), .int (hpI 0), .int (hpI 0)]) := by rw [e11, hp_ne (by decide)]; exact hp10_70
  have hp11_71 : E11 71 = .inl (cy 15, 17, .inr (.inr (.inr (.inr (va_up (va_up (va_up (fun _ => none) 0 (some (z + 72))) 1 (some (z + 75))) 2 (some (z + 78))))))) := by rw [e11, hp_at]
  have hD11 : ∀ j, 70 < j → j < 81 → j ≠ 71 → E11 j = hpE z cy j (hp0 j) := fun j h1 h2 hn71 => by
    rw [e11, hp_ne (by omega)]; exact hD10 j h1 (by omega) hn71
  refine lv_iinc (v := hpI 3) (lv' := [(1, .int (hpI 3)), (0, .ref (z + 70))]) C.1 C.2.1 dX4_init_34 hl (k := 0) rfl (by decide) (by decide) rfl (fun ls hl => ?_)
  refine lv_goto (tgt := 15) C.1 C.2.1 dX4_init_37 rfl ?_
  refine lv_iload_n C.1 C.2.1 dX4_init_15 rfl (lv_at hl 0 rfl) ?_
  refine lv_bipush (v := hpI 16) C.1 C.2.1 dX4_init_16 (by decide) ?_
  refine lv_icmp_gt (tgt := 40) C.1 C.2.1 dX4_init_18 rfl (fun hc => absurd hc (by decide)) (fun hc => ?_)
  refine lv_aload_n C.1 C.2.1 dX4_init_21 rfl (lv_at hl 1 rfl) ?_
  refine n_get (fs := [.ref (z + 71), .int (hpI 0), .int (hpI 0), .int (hpI 0), .int (hpI 0), .int (hpI 0), .int (hpI 0), .int (hpI 0), .int (hpI 0)]) C O4 0 (by decide) hp11_70 (by decide) wd_179 rfl hP dX4_init_22 ?_
  refine lv_iload_n C.1 C.2.1 dX4_init_25 rfl (lv_at hl 0 rfl) ?_
  refine n_size (n := 81) h0 rfl hS hP (fun hsz => ?_)
  refine n_new (fs := [.null, .null, .int (hpI 0), .int (hpI 0), .int (hpI 0)]) C O3 bl_3 wd_145 wd_147 wd_5 hP hS hsz (Nat.le_of_ble_eq_true rfl) (Nat.le_of_ble_eq_true rfl) dX4_init_26 (fun H hP hS => ?_)
  obtain ⟨E12, e12⟩ : ∃ F, F = va_up E11 81 (.inr (3, [.null, .null, .int (hpI 0), .int (hpI 0), .int (hpI 0)])) := ⟨_, rfl⟩
  rw [← e12] at hP
  have hO12 : ∀ j, j < 70 → E12 j = E0 j := fun j h => by rw [e12]; exact (hp_ne (by omega)).trans (hO11 j h)
  have hp12_70 : E12 70 = .inr (4, [.ref (z + 71), .int (hpI 0), .int (hpI 0), .int (hpI 0), .int (hpI 0), .int (hpI 0), .int (hpI 0), .int (hpI 0), .int (hpI 0)]) := by rw [e12, hp_ne (by decide)]; exact hp11_70
  have hp12_71 : E12 71 = .inl (cy 15, 17, .inr (.inr (.inr (.inr (va_up (va_up (va_up (fun _ => none) 0 (some (z + 72))) 1 (some (z + 75))) 2 (some (z + 78))))))) := by rw [e12, hp_ne (by decide)]; exact hp11_71
  have hp12_81 : E12 81 = .inr (3, [.null, .null, .int (hpI 0), .int (hpI 0), .int (hpI 0)]) := by rw [e12, hp_at]
  have hD12 : ∀ j, 70 < j → j < 82 → j ≠ 71 → j ≠ 81 → E12 j = hpE z cy j (hp0 j) := fun j h1 h2 hn71 hn81 => by
    rw [e12, hp_ne (by omega)]; exact hD11 j h1 (by omega) hn71
  refine lv_dup C.1 C.2.1 dX4_init_29 rfl ?_
  refine n_size (n := 82) h0 rfl hS hP (fun hsz => ?_)
  refine n_ctorN C A yk_3 nw_148 (kX3_81 l D cy z _ hp12_81) hl hP hS hsz ⟨rfl, rfl, Nat.le_of_ble_eq_true rfl, Nat.le_of_ble_eq_true rfl⟩ ⟨Nat.le_of_ble_eq_true rfl, Nat.le_of_ble_eq_true rfl⟩ (Nat.le_of_ble_eq_true rfl) dX4_init_30 (fun H locs E13 hP hS hj13 hi13 => ?_)
  have hO13 : ∀ j, j < 70 → E13 j = E0 j := fun j h => (hj13 j (by omega)).trans (hO12 j h)
  have hp13_70 : E13 70 = .inr (4, [.ref (z + 71), .int (hpI 0), .int (hpI 0), .int (hpI 0), .int (hpI 0), .int (hpI 0), .int (hpI 0), .int (hpI 0), .int (hpI 0)]) := (hj13 70 (by decide)).trans hp12_70
  have hp13_71 : E13 71 = .inl (cy 15, 17, .inr (.inr (.inr (.inr (va_up (va_up (va_up (fun _ => none) 0 (some (z + 72))) 1 (some (z + 75))) 2 (some (z + 78))))))) := (hj13 71 (by decide)).trans hp12_71
  have hD13 : ∀ j, 70 < j → j < 84 → j ≠ 71 → E13 j = hpE z cy j (hp0 j) := fun j h1 h2 hn71 => by
    rcases Nat.lt_or_ge j 81 with h | h
    · exact (hj13 j h).trans (hD12 j h1 (by omega) hn71 (by omega))
    · exact hi13 j h h2
  refine n_aast (c0 := 15) (t0 := 5) C O3 (by decide) (by decide) hp13_71 rfl ((hD13 81 (by decide) (by decide) (by decide)).trans eo_81) 3 rfl (by decide) (by decide) hP hS dX4_init_33 (fun H locs hP hS => ?_)
  obtain ⟨E14, e14⟩ : ∃ F, F = va_up E13 71 (.inl (cy 15, 17, .inr (.inr (.inr (.inr (va_up (va_up (va_up (va_up (fun _ => none) 0 (some (z + 72))) 1 (some (z + 75))) 2 (some (z + 78))) 3 (some (z + 81)))))))) := ⟨_, rfl⟩
  rw [← e14] at hP
  have hO14 : ∀ j, j < 70 → E14 j = E0 j := fun j h => by rw [e14]; exact (hp_ne (by omega)).trans (hO13 j h)
  have hp14_70 : E14 70 = .inr (4, [.ref (z + 71), .int (hpI 0), .int (hpI 0), .int (hpI 0), .int (hpI 0), .int (hpI 0), .int (hpI 0), .int (hpI 0), .int (hpI 0)]) := by rw [e14, hp_ne (by decide)]; exact hp13_70
  have hp14_71 : E14 71 = .inl (cy 15, 17, .inr (.inr (.inr (.inr (va_up (va_up (va_up (va_up (fun _ => none) 0 (some (z + 72))) 1 (some (z + 75))) 2 (some (z + 78))) 3 (some (z + 81))))))) := by rw [e14, hp_at]
  have hD14 : ∀ j, 70 < j → j < 84 → j ≠ 71 → E14 j = hpE z cy j (hp0 j) := fun j h1 h2 hn71 => by
    rw [e14, hp_ne (by omega)]; exact hD13 j h1 (by omega) hn71
  refine lv_iinc (v := hpI 4) (lv' := [(1, .int (hpI 4)), (0, .ref (z + 70))]) C.1 C.2.1 dX4_init_34 hl (k := 0) rfl (by decide) (by decide) rfl (fun ls hl => ?_)
  refine lv_goto (tgt := 15) C.1 C.2.1 dX4_init_37 rfl ?_
  refine lv_iload_n C.1 C.2.1 dX4_init_15 rfl (lv_at hl 0 rfl) ?_
  refine lv_bipush (v := hpI 16) C.1 C.2.1 dX4_init_16 (by decide) ?_
  refine lv_icmp_gt (tgt := 40) C.1 C.2.1 dX4_init_18 rfl (fun hc => absurd hc (by decide)) (fun hc => ?_)
  refine lv_aload_n C.1 C.2.1 dX4_init_21 rfl (lv_at hl 1 rfl) ?_
  refine n_get (fs := [.ref (z + 71), .int (hpI 0), .int (hpI 0), .int (hpI 0), .int (hpI 0), .int (hpI 0), .int (hpI 0), .int (hpI 0), .int (hpI 0)]) C O4 0 (by decide) hp14_70 (by decide) wd_179 rfl hP dX4_init_22 ?_
  refine lv_iload_n C.1 C.2.1 dX4_init_25 rfl (lv_at hl 0 rfl) ?_
  refine n_size (n := 84) h0 rfl hS hP (fun hsz => ?_)
  refine n_new (fs := [.null, .null, .int (hpI 0), .int (hpI 0), .int (hpI 0)]) C O3 bl_3 wd_145 wd_147 wd_5 hP hS hsz (Nat.le_of_ble_eq_true rfl) (Nat.le_of_ble_eq_true rfl) dX4_init_26 (fun H hP hS => ?_)
  obtain ⟨E15, e15⟩ : ∃ F, F = va_up E14 84 (.inr (3, [.null, .null, .int (hpI 0), .int (hpI 0), .int (hpI 0)])) := ⟨_, rfl⟩
  rw [← e15] at hP
  have hO15 : ∀ j, j < 70 → E15 j = E0 j := fun j h => by rw [e15]; exact (hp_ne (by omega)).trans (hO14 j h)
  have hp15_70 : E15 70 = .inr (4, [.ref (z + 71), .int (hpI 0), .int (hpI 0), .int (hpI 0), .int (hpI 0), .int (hpI 0), .int (hpI 0), .int (hpI 0), .int (hpI 0)]) := by rw [e15, hp_ne (by decide)]; exact hp14_70
  have hp15_71 : E15 71 = .inl (cy 15, 17, .inr (.inr (.inr (.inr (va_up (va_up (va_up (va_up (fun _ => none) 0 (some (z + 72))) 1 (some (z + 75))) 2 (some (z + 78))) 3 (some (z + 81))))))) := by rw [e15, hp_ne (by decide)]; exact hp14_71
  have hp15_84 : E15 84 = .inr (3, [.null, .null, .int (hpI 0), .int (hpI 0), .int (hpI 0)]) := by rw [e15, hp_at]
  have hD15 : ∀ j, 70 < j → j < 85 → j ≠ 71 → j ≠ 84 → E15 j = hpE z cy j (hp0 j) := fun j h1 h2 hn71 hn84 => by
    rw [e15, hp_ne (by omega)]; exact hD14 j h1 (by omega) hn71
  refine lv_dup C.1 C.2.1 dX4_init_29 rfl ?_
  refine n_size (n := 85) h0 rfl hS hP (fun hsz => ?_)
  refine n_ctorN C A yk_3 nw_148 (kX3_84 l D cy z _ hp15_84) hl hP hS hsz ⟨rfl, rfl, Nat.le_of_ble_eq_true rfl, Nat.le_of_ble_eq_true rfl⟩ ⟨Nat.le_of_ble_eq_true rfl, Nat.le_of_ble_eq_true rfl⟩ (Nat.le_of_ble_eq_true rfl) dX4_init_30 (fun H locs E16 hP hS hj16 hi16 => ?_)
  have hO16 : ∀ j, j < 70 → E16 j = E0 j := fun j h => (hj16 j (by omega)).trans (hO15 j h)
  have hp16_70 : E16 70 = .inr (4, [.ref (z + 71), .int (hpI 0), .int (hpI 0), .int (hpI 0), .int (hpI 0), .int (hpI 0), .int (hpI 0), .int (hpI 0), .int (hpI 0)]) := (hj16 70 (by decide)).trans hp15_70
  have hp16_71 : E16 71 = .inl (cy 15, 17, .inr (.inr (.inr (.inr (va_up (va_up (va_up (va_up (fun _ => none) 0 (some (z + 72))) 1 (some (z + 75))) 2 (some (z + 78))) 3 (some (z + 81))))))) := (hj16 71 (by decide)).trans hp15_71
  have hD16 : ∀ j, 70 < j → j < 87 → j ≠ 71 → E16 j = hpE z cy j (hp0 j) := fun j h1 h2 hn71 => by
    rcases Nat.lt_or_ge j 84 with h | h
    · exact (hj16 j h).trans (hD15 j h1 (by omega) hn71 (by omega))
    · exact hi16 j h h2
  refine n_aast (c0 := 15) (t0 := 5) C O3 (by decide) (by decide) hp16_71 rfl ((hD16 84 (by decide) (by decide) (by decide)).trans eo_84) 4 rfl (by decide) (by decide) hP hS dX4_init_33 (fun H locs hP hS => ?_)
  obtain ⟨E17, e17⟩ : ∃ F, F = va_up E16 71 (.inl (cy 15, 17, .inr (.inr (.inr (.inr (va_up (va_up (va_up (va_up (va_up (fun _ => none) 0 (some (z + 72))) 1 (some (z + 75))) 2 (some (z + 78))) 3 (some (z + 81))) 4 (some (z + 84)))))))) := ⟨_, rfl⟩
  rw [← e17] at hP
  have hO17 : ∀ j, j < 70 → E17 j = E0 j := fun j h => by rw [e17]; exact (hp_ne (by omega)).trans (hO16 j h)
  have hp17_70 : E17 70 = .inr (4, [.ref (z + 71), .int (hpI 0), .int (hpI 0), .int (hpI 0), .int (hpI 0), .int (hpI 0), .int (hpI 0), .int (hpI 0), .int (hpI 0)]) := by rw [e17, hp_ne (by decide)]; exact hp16_70
  have hp17_71 : E17 71 = .inl (cy 15, 17, .inr (.inr (.inr (.inr (va_up (va_up (va_up (va_up (va_up (fun _ => none) 0 (some (z + 72))) 1 (some (z + 75))) 2 (some (z + 78))) 3 (some (z + 81))) 4 (some (z + 84))))))) := by rw [e17, hp_at]
  have hD17 : ∀ j, 70 < j → j < 87 → j ≠ 71 → E17 j = hpE z cy j (hp0 j) := fun j h1 h2 hn71 => by
    rw [e17, hp_ne (by omega)]; exact hD16 j h1 (by omega) hn71
  refine lv_iinc (v := hpI 5) (lv' := [(1, .int (hpI 5)), (0, .ref (z + 70))]) C.1 C.2.1 dX4_init_34 hl (k := 0) rfl (by decide) (by decide) rfl (fun ls hl => ?_)
  refine lv_goto (tgt := 15) C.1 C.2.1 dX4_init_37 rfl ?_
  refine lv_iload_n C.1 C.2.1 dX4_init_15 rfl (lv_at hl 0 rfl) ?_
  refine lv_bipush (v := hpI 16) C.1 C.2.1 dX4_init_16 (by decide) ?_
  refine lv_icmp_gt (tgt := 40) C.1 C.2.1 dX4_init_18 rfl (fun hc => absurd hc (by decide)) (fun hc => ?_)
  refine lv_aload_n C.1 C.2.1 dX4_init_21 rfl (lv_at hl 1 rfl) ?_
  refine n_get (fs := [.ref (z + 71), .int (hpI 0), .int (hpI 0), .int (hpI 0), .int (hpI 0), .int (hpI 0), .int (hpI 0), .int (hpI 0), .int (hpI 0)]) C O4 0 (by decide) hp17_70 (by decide) wd_179 rfl hP dX4_init_22 ?_
  refine lv_iload_n C.1 C.2.1 dX4_init_25 rfl (lv_at hl 0 rfl) ?_
  refine n_size (n := 87) h0 rfl hS hP (fun hsz => ?_)
  refine n_new (fs := [.null, .null, .int (hpI 0), .int (hpI 0), .int (hpI 0)]) C O3 bl_3 wd_145 wd_147 wd_5 hP hS hsz (Nat.le_of_ble_eq_true rfl) (Nat.le_of_ble_eq_true rfl) dX4_init_26 (fun H hP hS => ?_)
  obtain ⟨E18, e18⟩ : ∃ F, F = va_up E17 87 (.inr (3, [.null, .null, .int (hpI 0), .int (hpI 0), .int (hpI 0)])) := ⟨_, rfl⟩
  rw [← e18] at hP
  have hO18 : ∀ j, j < 70 → E18 j = E0 j := fun j h => by rw [e18]; exact (hp_ne (by omega)).trans (hO17 j h)
  have hp18_70 : E18 70 = .inr (4, [.ref (z + 71), .int (hpI 0), .int (hpI 0), .int (hpI 0), .int (hpI 0), .int (hpI 0), .int (hpI 0), .int (hpI 0), .int (hpI 0)]) := by rw [e18, hp_ne (by decide)]; exact hp17_70
  have hp18_71 : E18 71 = .inl (cy 15, 17, .inr (.inr (.inr (.inr (va_up (va_up (va_up (va_up (va_up (fun _ => none) 0 (some (z + 72))) 1 (some (z + 75))) 2 (some (z + 78))) 3 (some (z + 81))) 4 (some (z + 84))))))) := by rw [e18, hp_ne (by decide)]; exact hp17_71
  have hp18_87 : E18 87 = .inr (3, [.null, .null, .int (hpI 0), .int (hpI 0), .int (hpI 0)]) := by rw [e18, hp_at]
  have hD18 : ∀ j, 70 < j → j < 88 → j ≠ 71 → j ≠ 87 → E18 j = hpE z cy j (hp0 j) := fun j h1 h2 hn71 hn87 => by
    rw [e18, hp_ne (by omega)]; exact hD17 j h1 (by omega) hn71
  refine lv_dup C.1 C.2.1 dX4_init_29 rfl ?_
  refine n_size (n := 88) h0 rfl hS hP (fun hsz => ?_)
  refine n_ctorN C A yk_3 nw_148 (kX3_87 l D cy z _ hp18_87) hl hP hS hsz ⟨rfl, rfl, Nat.le_of_ble_eq_true rfl, Nat.le_of_ble_eq_true rfl⟩ ⟨Nat.le_of_ble_eq_true rfl, Nat.le_of_ble_eq_true rfl⟩ (Nat.le_of_ble_eq_true rfl) dX4_init_30 (fun H locs E19 hP hS hj19 hi19 => ?_)
  have hO19 : ∀ j, j < 70 → E19 j = E0 j := fun j h => (hj19 j (by omega)).trans (hO18 j h)
  have hp19_70 : E19 70 = .inr (4, [.ref (z + 71), .int (hpI 0), .int (hpI 0), .int (hpI 0), .int (hpI 0), .int (hpI 0), .int (hpI 0), .int (hpI 0), .int (hpI 0)]) := (hj19 70 (by decide)).trans hp18_70
  have hp19_71 : E19 71 = .inl (cy 15, 17, .inr (.inr (.inr (.inr (va_up (va_up (va_up (va_up (va_up (fun _ => none) 0 (some (z + 72))) 1 (some (z + 75))) 2 (some (z + 78))) 3 (some (z + 81))) 4 (some (z + 84))))))) := (hj19 71 (by decide)).trans hp18_71
  have hD19 : ∀ j, 70 < j → j < 90 → j ≠ 71 → E19 j = hpE z cy j (hp0 j) := fun j h1 h2 hn71 => by
    rcases Nat.lt_or_ge j 87 with h | h
    · exact (hj19 j h).trans (hD18 j h1 (by omega) hn71 (by omega))
    · exact hi19 j h h2
  refine n_aast (c0 := 15) (t0 := 5) C O3 (by decide) (by decide) hp19_71 rfl ((hD19 87 (by decide) (by decide) (by decide)).trans eo_87) 5 rfl (by decide) (by decide) hP hS dX4_init_33 (fun H locs hP hS => ?_)
  obtain ⟨E20, e20⟩ : ∃ F, F = va_up E19 71 (.inl (cy 15, 17, .inr (.inr (.inr (.inr (va_up (va_up (va_up (va_up (va_up (va_up (fun _ => none) 0 (some (z + 72))) 1 (some (z + 75))) 2 (some (z + 78))) 3 (some (z + 81))) 4 (some (z + 84))) 5 (some (z + 87)))))))) := ⟨_, rfl⟩
  rw [← e20] at hP
  have hO20 : ∀ j, j < 70 → E20 j = E0 j := fun j h => by rw [e20]; exact (hp_ne (by omega)).trans (hO19 j h)
  have hp20_70 : E20 70 = .inr (4, [.ref (z + 71), .int (hpI 0), .int (hpI 0), .int (hpI 0), .int (hpI 0), .int (hpI 0), .int (hpI 0), .int (hpI 0), .int (hpI 0)]) := by rw [e20, hp_ne (by decide)]; exact hp19_70
  have hp20_71 : E20 71 = .inl (cy 15, 17, .inr (.inr (.inr (.inr (va_up (va_up (va_up (va_up (va_up (va_up (fun _ => none) 0 (some (z + 72))) 1 (some (z + 75))) 2 (some (z + 78))) 3 (some (z + 81))) 4 (some (z + 84))) 5 (some (z + 87))))))) := by rw [e20, hp_at]
  have hD20 : ∀ j, 70 < j → j < 90 → j ≠ 71 → E20 j = hpE z cy j (hp0 j) := fun j h1 h2 hn71 => by
    rw [e20, hp_ne (by omega)]; exact hD19 j h1 (by omega) hn71
  refine lv_iinc (v := hpI 6) (lv' := [(1, .int (hpI 6)), (0, .ref (z + 70))]) C.1 C.2.1 dX4_init_34 hl (k := 0) rfl (by decide) (by decide) rfl (fun ls hl => ?_)
  refine lv_goto (tgt := 15) C.1 C.2.1 dX4_init_37 rfl ?_
  refine lv_iload_n C.1 C.2.1 dX4_init_15 rfl (lv_at hl 0 rfl) ?_
  refine lv_bipush (v := hpI 16) C.1 C.2.1 dX4_init_16 (by decide) ?_
  refine lv_icmp_gt (tgt := 40) C.1 C.2.1 dX4_init_18 rfl (fun hc => absurd hc (by decide)) (fun hc => ?_)
  refine lv_aload_n C.1 C.2.1 dX4_init_21 rfl (lv_at hl 1 rfl) ?_
  refine n_get (fs := [.ref (z + 71), .int (hpI 0), .int (hpI 0), .int (hpI 0), .int (hpI 0), .int (hpI 0), .int (hpI 0), .int (hpI 0), .int (hpI 0)]) C O4 0 (by decide) hp20_70 (by decide) wd_179 rfl hP dX4_init_22 ?_
  refine lv_iload_n C.1 C.2.1 dX4_init_25 rfl (lv_at hl 0 rfl) ?_
  refine n_size (n := 90) h0 rfl hS hP (fun hsz => ?_)
  refine n_new (fs := [.null, .null, .int (hpI 0), .int (hpI 0), .int (hpI 0)]) C O3 bl_3 wd_145 wd_147 wd_5 hP hS hsz (Nat.le_of_ble_eq_true rfl) (Nat.le_of_ble_eq_true rfl) dX4_init_26 (fun H hP hS => ?_)
  obtain ⟨E21, e21⟩ : ∃ F, F = va_up E20 90 (.inr (3, [.null, .null, .int (hpI 0), .int (hpI 0), .int (hpI 0)])) := ⟨_, rfl⟩
  rw [← e21] at hP
  have hO21 : ∀ j, j < 70 → E21 j = E0 j := fun j h => by rw [e21]; exact (hp_ne (by omega)).trans (hO20 j h)
  have hp21_70 : E21 70 = .inr (4, [.ref (z + 71), .int (hpI 0), .int (hpI 0), .int (hpI 0), .int (hpI 0), .int (hpI 0), .int (hpI 0), .int (hpI 0), .int (hpI 0)]) := by rw [e21, hp_ne (by decide)]; exact hp20_70
  have hp21_71 : E21 71 = .inl (cy 15, 17, .inr (.inr (.inr (.inr (va_up (va_up (va_up (va_up (va_up (va_up (fun _ => none) 0 (some (z + 72))) 1 (some (z + 75))) 2 (some (z + 78))) 3 (some (z + 81))) 4 (some (z + 84))) 5 (some (z + 87))))))) := by rw [e21, hp_ne (by decide)]; exact hp20_71
  have hp21_90 : E21 90 = .inr (3, [.null, .null, .int (hpI 0), .int (hpI 0), .int (hpI 0)]) := by rw [e21, hp_at]
  have hD21 : ∀ j, 70 < j → j < 91 → j ≠ 71 → j ≠ 90 → E21 j = hpE z cy j (hp0 j) := fun j h1 h2 hn71 hn90 => by
    rw [e21, hp_ne (by omega)]; exact hD20 j h1 (by omega) hn71
  refine lv_dup C.1 C.2.1 dX4_init_29 rfl ?_
  refine n_size (n := 91) h0 rfl hS hP (fun hsz => ?_)
  refine n_ctorN C A yk_3 nw_148 (kX3_90 l D cy z _ hp21_90) hl hP hS hsz ⟨rfl, rfl, Nat.le_of_ble_eq_true rfl, Nat.le_of_ble_eq_true rfl⟩ ⟨Nat.le_of_ble_eq_true rfl, Nat.le_of_ble_eq_true rfl⟩ (Nat.le_of_ble_eq_true rfl) dX4_init_30 (fun H locs E22 hP hS hj22 hi22 => ?_)
  have hO22 : ∀ j, j < 70 → E22 j = E0 j := fun j h => (hj22 j (by omega)).trans (hO21 j h)
  have hp22_70 : E22 70 = .inr (4, [.ref (z + 71), .int (hpI 0), .int (hpI 0), .int (hpI 0), .int (hpI 0), .int (hpI 0), .int (hpI 0), .int (hpI 0), .int (hpI 0)]) := (hj22 70 (by decide)).trans hp21_70
  have hp22_71 : E22 71 = .inl (cy 15, 17, .inr (.inr (.inr (.inr (va_up (va_up (va_up (va_up (va_up (va_up (fun _ => none) 0 (some (z + 72))) 1 (some (z + 75))) 2 (some (z + 78))) 3 (some (z + 81))) 4 (some (z + 84))) 5 (some (z + 87))))))) := (hj22 71 (by decide)).trans hp21_71
  have hD22 : ∀ j, 70 < j → j < 93 → j ≠ 71 → E22 j = hpE z cy j (hp0 j) := fun j h1 h2 hn71 => by
    rcases Nat.lt_or_ge j 90 with h | h
    · exact (hj22 j h).trans (hD21 j h1 (by omega) hn71 (by omega))
    · exact hi22 j h h2
  refine n_aast (c0 := 15) (t0 := 5) C O3 (by decide) (by decide) hp22_71 rfl ((hD22 90 (by decide) (by decide) (by decide)).trans eo_90) 6 rfl (by decide) (by decide) hP hS dX4_init_33 (fun H locs hP hS => ?_)
  obtain ⟨E23, e23⟩ : ∃ F, F = va_up E22 71 (.inl (cy 15, 17, .inr (.inr (.inr (.inr (va_up (va_up (va_up (va_up (va_up (va_up (va_up (fun _ => none) 0 (some (z + 72))) 1 (some (z + 75))) 2 (some (z + 78))) 3 (some (z + 81))) 4 (some (z + 84))) 5 (some (z + 87))) 6 (some (z + 90)))))))) := ⟨_, rfl⟩
  rw [← e23] at hP
  have hO23 : ∀ j, j < 70 → E23 j = E0 j := fun j h => by rw [e23]; exact (hp_ne (by omega)).trans (hO22 j h)
  have hp23_70 : E23 70 = .inr (4, [.ref (z + 71), .int (hpI 0), .int (hpI 0), .int (hpI 0), .int (hpI 0), .int (hpI 0), .int (hpI 0), .int (hpI 0), .int (hpI 0)]) := by rw [e23, hp_ne (by decide)]; exact hp22_70
  have hp23_71 : E23 71 = .inl (cy 15, 17, .inr (.inr (.inr (.inr (va_up (va_up (va_up (va_up (va_up (va_up (va_up (fun _ => none) 0 (some (z + 72))) 1 (some (z + 75))) 2 (some (z + 78))) 3 (some (z + 81))) 4 (some (z + 84))) 5 (some (z + 87))) 6 (some (z + 90))))))) := by rw [e23, hp_at]
  have hD23 : ∀ j, 70 < j → j < 93 → j ≠ 71 → E23 j = hpE z cy j (hp0 j) := fun j h1 h2 hn71 => by
    rw [e23, hp_ne (by omega)]; exact hD22 j h1 (by omega) hn71
  refine lv_iinc (v := hpI 7) (lv' := [(1, .int (hpI 7)), (0, .ref (z + 70))]) C.1 C.2.1 dX4_init_34 hl (k := 0) rfl (by decide) (by decide) rfl (fun ls hl => ?_)
  refine lv_goto (tgt := 15) C.1 C.2.1 dX4_init_37 rfl ?_
  refine lv_iload_n C.1 C.2.1 dX4_init_15 rfl (lv_at hl 0 rfl) ?_
  refine lv_bipush (v := hpI 16) C.1 C.2.1 dX4_init_16 (by decide) ?_
  refine lv_icmp_gt (tgt := 40) C.1 C.2.1 dX4_init_18 rfl (fun hc => absurd hc (by decide)) (fun hc => ?_)
  refine lv_aload_n C.1 C.2.1 dX4_init_21 rfl (lv_at hl 1 rfl) ?_
  refine n_get (fs := [.ref (z + 71), .int (hpI 0), .int (hpI 0), .int (hpI 0), .int (hpI 0), .int (hpI 0), .int (hpI 0), .int (hpI 0), .int (hpI 0)]) C O4 0 (by decide) hp23_70 (by decide) wd_179 rfl hP dX4_init_22 ?_
  refine lv_iload_n C.1 C.2.1 dX4_init_25 rfl (lv_at hl 0 rfl) ?_
  refine n_size (n := 93) h0 rfl hS hP (fun hsz => ?_)
  refine n_new (fs := [.null, .null, .int (hpI 0), .int (hpI 0), .int (hpI 0)]) C O3 bl_3 wd_145 wd_147 wd_5 hP hS hsz (Nat.le_of_ble_eq_true rfl) (Nat.le_of_ble_eq_true rfl) dX4_init_26 (fun H hP hS => ?_)
  obtain ⟨E24, e24⟩ : ∃ F, F = va_up E23 93 (.inr (3, [.null, .null, .int (hpI 0), .int (hpI 0), .int (hpI 0)])) := ⟨_, rfl⟩
  rw [← e24] at hP
  have hO24 : ∀ j, j < 70 → E24 j = E0 j := fun j h => by rw [e24]; exact (hp_ne (by omega)).trans (hO23 j h)
  have hp24_70 : E24 70 = .inr (4, [.ref (z + 71), .int (hpI 0), .int (hpI 0), .int (hpI 0), .int (hpI 0), .int (hpI 0), .int (hpI 0), .int (hpI 0), .int (hpI 0)]) := by rw [e24, hp_ne (by decide)]; exact hp23_70
  have hp24_71 : E24 71 = .inl (cy 15, 17, .inr (.inr (.inr (.inr (va_up (va_up (va_up (va_up (va_up (va_up (va_up (fun _ => none) 0 (some (z + 72))) 1 (some (z + 75))) 2 (some (z + 78))) 3 (some (z + 81))) 4 (some (z + 84))) 5 (some (z + 87))) 6 (some (z + 90))))))) := by rw [e24, hp_ne (by decide)]; exact hp23_71
  have hp24_93 : E24 93 = .inr (3, [.null, .null, .int (hpI 0), .int (hpI 0), .int (hpI 0)]) := by rw [e24, hp_at]
  have hD24 : ∀ j, 70 < j → j < 94 → j ≠ 71 → j ≠ 93 → E24 j = hpE z cy j (hp0 j) := fun j h1 h2 hn71 hn93 => by
    rw [e24, hp_ne (by omega)]; exact hD23 j h1 (by omega) hn71
  refine lv_dup C.1 C.2.1 dX4_init_29 rfl ?_
  refine n_size (n := 94) h0 rfl hS hP (fun hsz => ?_)
  refine n_ctorN C A yk_3 nw_148 (kX3_93 l D cy z _ hp24_93) hl hP hS hsz ⟨rfl, rfl, Nat.le_of_ble_eq_true rfl, Nat.le_of_ble_eq_true rfl⟩ ⟨Nat.le_of_ble_eq_true rfl, Nat.le_of_ble_eq_true rfl⟩ (Nat.le_of_ble_eq_true rfl) dX4_init_30 (fun H locs E25 hP hS hj25 hi25 => ?_)
  have hO25 : ∀ j, j < 70 → E25 j = E0 j := fun j h => (hj25 j (by omega)).trans (hO24 j h)
  have hp25_70 : E25 70 = .inr (4, [.ref (z + 71), .int (hpI 0), .int (hpI 0), .int (hpI 0), .int (hpI 0), .int (hpI 0), .int (hpI 0), .int (hpI 0), .int (hpI 0)]) := (hj25 70 (by decide)).trans hp24_70
  have hp25_71 : E25 71 = .inl (cy 15, 17, .inr (.inr (.inr (.inr (va_up (va_up (va_up (va_up (va_up (va_up (va_up (fun _ => none) 0 (some (z + 72))) 1 (some (z + 75))) 2 (some (z + 78))) 3 (some (z + 81))) 4 (some (z + 84))) 5 (some (z + 87))) 6 (some (z + 90))))))) := (hj25 71 (by decide)).trans hp24_71
  have hD25 : ∀ j, 70 < j → j < 96 → j ≠ 71 → E25 j = hpE z cy j (hp0 j) := fun j h1 h2 hn71 => by
    rcases Nat.lt_or_ge j 93 with h | h
    · exact (hj25 j h).trans (hD24 j h1 (by omega) hn71 (by omega))
    · exact hi25 j h h2
  refine n_aast (c0 := 15) (t0 := 5) C O3 (by decide) (by decide) hp25_71 rfl ((hD25 93 (by decide) (by decide) (by decide)).trans eo_93) 7 rfl (by decide) (by decide) hP hS dX4_init_33 (fun H locs hP hS => ?_)
  obtain ⟨E26, e26⟩ : ∃ F, F = va_up E25 71 (.inl (cy 15, 17, .inr (.inr (.inr (.inr (va_up (va_up (va_up (va_up (va_up (va_up (va_up (va_up (fun _ => none) 0 (some (z + 72))) 1 (some (z + 75))) 2 (some (z + 78))) 3 (some (z + 81))) 4 (some (z + 84))) 5 (some (z + 87))) 6 (some (z + 90))) 7 (some (z + 93)))))))) := ⟨_, rfl⟩
  rw [← e26] at hP
  have hO26 : ∀ j, j < 70 → E26 j = E0 j := fun j h => by rw [e26]; exact (hp_ne (by omega)).trans (hO25 j h)
  have hp26_70 : E26 70 = .inr (4, [.ref (z + 71), .int (hpI 0), .int (hpI 0), .int (hpI 0), .int (hpI 0), .int (hpI 0), .int (hpI 0), .int (hpI 0), .int (hpI 0)]) := by rw [e26, hp_ne (by decide)]; exact hp25_70
  have hp26_71 : E26 71 = .inl (cy 15, 17, .inr (.inr (.inr (.inr (va_up (va_up (va_up (va_up (va_up (va_up (va_up (va_up (fun _ => none) 0 (some (z + 72))) 1 (some (z + 75))) 2 (some (z + 78))) 3 (some (z + 81))) 4 (some (z + 84))) 5 (some (z + 87))) 6 (some (z + 90))) 7 (some (z + 93))))))) := by rw [e26, hp_at]
  have hD26 : ∀ j, 70 < j → j < 96 → j ≠ 71 → E26 j = hpE z cy j (hp0 j) := fun j h1 h2 hn71 => by
    rw [e26, hp_ne (by omega)]; exact hD25 j h1 (by omega) hn71
  refine lv_iinc (v := hpI 8) (lv' := [(1, .int (hpI 8)), (0, .ref (z + 70))]) C.1 C.2.1 dX4_init_34 hl (k := 0) rfl (by decide) (by decide) rfl (fun ls hl => ?_)
  refine lv_goto (tgt := 15) C.1 C.2.1 dX4_init_37 rfl ?_
  refine lv_iload_n C.1 C.2.1 dX4_init_15 rfl (lv_at hl 0 rfl) ?_
  refine lv_bipush (v := hpI 16) C.1 C.2.1 dX4_init_16 (by decide) ?_
  refine lv_icmp_gt (tgt := 40) C.1 C.2.1 dX4_init_18 rfl (fun hc => absurd hc (by decide)) (fun hc => ?_)
  refine lv_aload_n C.1 C.2.1 dX4_init_21 rfl (lv_at hl 1 rfl) ?_
  refine n_get (fs := [.ref (z + 71), .int (hpI 0), .int (hpI 0), .int (hpI 0), .int (hpI 0), .int (hpI 0), .int (hpI 0), .int (hpI 0), .int (hpI 0)]) C O4 0 (by decide) hp26_70 (by decide) wd_179 rfl hP dX4_init_22 ?_
  refine lv_iload_n C.1 C.2.1 dX4_init_25 rfl (lv_at hl 0 rfl) ?_
  refine n_size (n := 96) h0 rfl hS hP (fun hsz => ?_)
  refine n_new (fs := [.null, .null, .int (hpI 0), .int (hpI 0), .int (hpI 0)]) C O3 bl_3 wd_145 wd_147 wd_5 hP hS hsz (Nat.le_of_ble_eq_true rfl) (Nat.le_of_ble_eq_true rfl) dX4_init_26 (fun H hP hS => ?_)
  obtain ⟨E27, e27⟩ : ∃ F, F = va_up E26 96 (.inr (3, [.null, .null, .int (hpI 0), .int (hpI 0), .int (hpI 0)])) := ⟨_, rfl⟩
  rw [← e27] at hP
  have hO27 : ∀ j, j < 70 → E27 j = E0 j := fun j h => by rw [e27]; exact (hp_ne (by omega)).trans (hO26 j h)
  have hp27_70 : E27 70 = .inr (4, [.ref (z + 71), .int (hpI 0), .int (hpI 0), .int (hpI 0), .int (hpI 0), .int (hpI 0), .int (hpI 0), .int (hpI 0), .int (hpI 0)]) := by rw [e27, hp_ne (by decide)]; exact hp26_70
  have hp27_71 : E27 71 = .inl (cy 15, 17, .inr (.inr (.inr (.inr (va_up (va_up (va_up (va_up (va_up (va_up (va_up (va_up (fun _ => none) 0 (some (z + 72))) 1 (some (z + 75))) 2 (some (z + 78))) 3 (some (z + 81))) 4 (some (z + 84))) 5 (some (z + 87))) 6 (some (z + 90))) 7 (some (z + 93))))))) := by rw [e27, hp_ne (by decide)]; exact hp26_71
  have hp27_96 : E27 96 = .inr (3, [.null, .null, .int (hpI 0), .int (hpI 0), .int (hpI 0)]) := by rw [e27, hp_at]
  have hD27 : ∀ j, 70 < j → j < 97 → j ≠ 71 → j ≠ 96 → E27 j = hpE z cy j (hp0 j) := fun j h1 h2 hn71 hn96 => by
    rw [e27, hp_ne (by omega)]; exact hD26 j h1 (by omega) hn71
  refine lv_dup C.1 C.2.1 dX4_init_29 rfl ?_
  refine n_size (n := 97) h0 rfl hS hP (fun hsz => ?_)
  refine n_ctorN C A yk_3 nw_148 (kX3_96 l D cy z _ hp27_96) hl hP hS hsz ⟨rfl, rfl, Nat.le_of_ble_eq_true rfl, Nat.le_of_ble_eq_true rfl⟩ ⟨Nat.le_of_ble_eq_true rfl, Nat.le_of_ble_eq_true rfl⟩ (Nat.le_of_ble_eq_true rfl) dX4_init_30 (fun H locs E28 hP hS hj28 hi28 => ?_)
  have hO28 : ∀ j, j < 70 → E28 j = E0 j := fun j h => (hj28 j (by omega)).trans (hO27 j h)
  have hp28_70 : E28 70 = .inr (4, [.ref (z + 71), .int (hpI 0), .int (hpI 0), .int (hpI 0), .int (hpI 0), .int (hpI 0), .int (hpI 0), .int (hpI 0), .int (hpI 0)]) := (hj28 70 (by decide)).trans hp27_70
  have hp28_71 : E28 71 = .inl (cy 15, 17, .inr (.inr (.inr (.inr (va_up (va_up (va_up (va_up (va_up (va_up (va_up (va_up (fun _ => none) 0 (some (z + 72))) 1 (some (z + 75))) 2 (some (z + 78))) 3 (some (z + 81))) 4 (some (z + 84))) 5 (some (z + 87))) 6 (some (z + 90))) 7 (some (z + 93))))))) := (hj28 71 (by decide)).trans hp27_71
  have hD28 : ∀ j, 70 < j → j < 99 → j ≠ 71 → E28 j = hpE z cy j (hp0 j) := fun j h1 h2 hn71 => by
    rcases Nat.lt_or_ge j 96 with h | h
    · exact (hj28 j h).trans (hD27 j h1 (by omega) hn71 (by omega))
    · exact hi28 j h h2
  refine n_aast (c0 := 15) (t0 := 5) C O3 (by decide) (by decide) hp28_71 rfl ((hD28 96 (by decide) (by decide) (by decide)).trans eo_96) 8 rfl (by decide) (by decide) hP hS dX4_init_33 (fun H locs hP hS => ?_)
  obtain ⟨E29, e29⟩ : ∃ F, F = va_up E28 71 (.inl (cy 15, 17, .inr (.inr (.inr (.inr (va_up (va_up (va_up (va_up (va_up (va_up (va_up (va_up (va_up (fun _ => none) 0 (some (z + 72))) 1 (some (z + 75))) 2 (some (z + 78))) 3 (some (z + 81))) 4 (some (z + 84))) 5 (some (z + 87))) 6 (some (z + 90))) 7 (some (z + 93))) 8 (some (z + 96)))))))) := ⟨_, rfl⟩
  rw [← e29] at hP
  have hO29 : ∀ j, j < 70 → E29 j = E0 j := fun j h => by rw [e29]; exact (hp_ne (by omega)).trans (hO28 j h)
  have hp29_70 : E29 70 = .inr (4, [.ref (z + 71), .int (hpI 0), .int (hpI 0), .int (hpI 0), .int (hpI 0), .int (hpI 0), .int (hpI 0), .int (hpI 0), .int (hpI 0)]) := by rw [e29, hp_ne (by decide)]; exact hp28_70
  have hp29_71 : E29 71 = .inl (cy 15, 17, .inr (.inr (.inr (.inr (va_up (va_up (va_up (va_up (va_up (va_up (va_up (va_up (va_up (fun _ => none) 0 (some (z + 72))) 1 (some (z + 75))) 2 (some (z + 78))) 3 (some (z + 81))) 4 (some (z + 84))) 5 (some (z + 87))) 6 (some (z + 90))) 7 (some (z + 93))) 8 (some (z + 96))))))) := by rw [e29, hp_at]
  have hD29 : ∀ j, 70 < j → j < 99 → j ≠ 71 → E29 j = hpE z cy j (hp0 j) := fun j h1 h2 hn71 => by
    rw [e29, hp_ne (by omega)]; exact hD28 j h1 (by omega) hn71
  refine lv_iinc (v := hpI 9) (lv' := [(1, .int (hpI 9)), (0, .ref (z + 70))]) C.1 C.2.1 dX4_init_34 hl (k := 0) rfl (by decide) (by decide) rfl (fun ls hl => ?_)
  refine lv_goto (tgt := 15) C.1 C.2.1 dX4_init_37 rfl ?_
  refine lv_iload_n C.1 C.2.1 dX4_init_15 rfl (lv_at hl 0 rfl) ?_
  refine lv_bipush (v := hpI 16) C.1 C.2.1 dX4_init_16 (by decide) ?_
  refine lv_icmp_gt (tgt := 40) C.1 C.2.1 dX4_init_18 rfl (fun hc => absurd hc (by decide)) (fun hc => ?_)
  refine lv_aload_n C.1 C.2.1 dX4_init_21 rfl (lv_at hl 1 rfl) ?_
  refine n_get (fs := [.ref (z + 71), .int (hpI 0), .int (hpI 0), .int (hpI 0), .int (hpI 0), .int (hpI 0), .int (hpI 0), .int (hpI 0), .int (hpI 0)]) C O4 0 (by decide) hp29_70 (by decide) wd_179 rfl hP dX4_init_22 ?_
  refine lv_iload_n C.1 C.2.1 dX4_init_25 rfl (lv_at hl 0 rfl) ?_
  refine n_size (n := 99) h0 rfl hS hP (fun hsz => ?_)
  refine n_new (fs := [.null, .null, .int (hpI 0), .int (hpI 0), .int (hpI 0)]) C O3 bl_3 wd_145 wd_147 wd_5 hP hS hsz (Nat.le_of_ble_eq_true rfl) (Nat.le_of_ble_eq_true rfl) dX4_init_26 (fun H hP hS => ?_)
  obtain ⟨E30, e30⟩ : ∃ F, F = va_up E29 99 (.inr (3, [.null, .null, .int (hpI 0), .int (hpI 0), .int (hpI 0)])) := ⟨_, rfl⟩
  rw [← e30] at hP
  have hO30 : ∀ j, j < 70 → E30 j = E0 j := fun j h => by rw [e30]; exact (hp_ne (by omega)).trans (hO29 j h)
  have hp30_70 : E30 70 = .inr (4, [.ref (z + 71), .int (hpI 0), .int (hpI 0), .int (hpI 0), .int (hpI 0), .int (hpI 0), .int (hpI 0), .int (hpI 0), .int (hpI 0)]) := by rw [e30, hp_ne (by decide)]; exact hp29_70
  have hp30_71 : E30 71 = .inl (cy 15, 17, .inr (.inr (.inr (.inr (va_up (va_up (va_up (va_up (va_up (va_up (va_up (va_up (va_up (fun _ => none) 0 (some (z + 72))) 1 (some (z + 75))) 2 (some (z + 78))) 3 (some (z + 81))) 4 (some (z + 84))) 5 (some (z + 87))) 6 (some (z + 90))) 7 (some (z + 93))) 8 (some (z + 96))))))) := by rw [e30, hp_ne (by decide)]; exact hp29_71
  have hp30_99 : E30 99 = .inr (3, [.null, .null, .int (hpI 0), .int (hpI 0), .int (hpI 0)]) := by rw [e30, hp_at]
  have hD30 : ∀ j, 70 < j → j < 100 → j ≠ 71 → j ≠ 99 → E30 j = hpE z cy j (hp0 j) := fun j h1 h2 hn71 hn99 => by
    rw [e30, hp_ne (by omega)]; exact hD29 j h1 (by omega) hn71
  refine lv_dup C.1 C.2.1 dX4_init_29 rfl ?_
  refine n_size (n := 100) h0 rfl hS hP (fun hsz => ?_)
  refine n_ctorN C A yk_3 nw_148 (kX3_99 l D cy z _ hp30_99) hl hP hS hsz ⟨rfl, rfl, Nat.le_of_ble_eq_true rfl, Nat.le_of_ble_eq_true rfl⟩ ⟨Nat.le_of_ble_eq_true rfl, Nat.le_of_ble_eq_true rfl⟩ (Nat.le_of_ble_eq_true rfl) dX4_init_30 (fun H locs E31 hP hS hj31 hi31 => ?_)
  have hO31 : ∀ j, j < 70 → E31 j = E0 j := fun j h => (hj31 j (by omega)).trans (hO30 j h)
  have hp31_70 : E31 70 = .inr (4, [.ref (z + 71), .int (hpI 0), .int (hpI 0), .int (hpI 0), .int (hpI 0), .int (hpI 0), .int (hpI 0), .int (hpI 0), .int (hpI 0)]) := (hj31 70 (by decide)).trans hp30_70
  have hp31_71 : E31 71 = .inl (cy 15, 17, .inr (.inr (.inr (.inr (va_up (va_up (va_up (va_up (va_up (va_up (va_up (va_up (va_up (fun _ => none) 0 (some (z + 72))) 1 (some (z + 75))) 2 (some (z + 78))) 3 (some (z + 81))) 4 (some (z + 84))) 5 (some (z + 87))) 6 (some (z + 90))) 7 (some (z + 93))) 8 (some (z + 96))))))) := (hj31 71 (by decide)).trans hp30_71
  have hD31 : ∀ j, 70 < j → j < 102 → j ≠ 71 → E31 j = hpE z cy j (hp0 j) := fun j h1 h2 hn71 => by
    rcases Nat.lt_or_ge j 99 with h | h
    · exact (hj31 j h).trans (hD30 j h1 (by omega) hn71 (by omega))
    · exact hi31 j h h2
  refine n_aast (c0 := 15) (t0 := 5) C O3 (by decide) (by decide) hp31_71 rfl ((hD31 99 (by decide) (by decide) (by decide)).trans eo_99) 9 rfl (by decide) (by decide) hP hS dX4_init_33 (fun H locs hP hS => ?_)
  obtain ⟨E32, e32⟩ : ∃ F, F = va_up E31 71 (.inl (cy 15, 17, .inr (.inr (.inr (.inr (va_up (va_up (va_up (va_up (va_up (va_up (va_up (va_up (va_up (va_up (fun _ => none) 0 (some (z + 72))) 1 (some (z + 75))) 2 (some (z + 78))) 3 (some (z + 81))) 4 (some (z + 84))) 5 (some (z + 87))) 6 (some (z + 90))) 7 (some (z + 93))) 8 (some (z + 96))) 9 (some (z + 99)))))))) := ⟨_, rfl⟩
  rw [← e32] at hP
  have hO32 : ∀ j, j < 70 → E32 j = E0 j := fun j h => by rw [e32]; exact (hp_ne (by omega)).trans (hO31 j h)
  have hp32_70 : E32 70 = .inr (4, [.ref (z + 71), .int (hpI 0), .int (hpI 0), .int (hpI 0), .int (hpI 0), .int (hpI 0), .int (hpI 0), .int (hpI 0), .int (hpI 0)]) := by rw [e32, hp_ne (by decide)]; exact hp31_70
  have hp32_71 : E32 71 = .inl (cy 15, 17, .inr (.inr (.inr (.inr (va_up (va_up (va_up (va_up (va_up (va_up (va_up (va_up (va_up (va_up (fun _ => none) 0 (some (z + 72))) 1 (some (z + 75))) 2 (some (z + 78))) 3 (some (z + 81))) 4 (some (z + 84))) 5 (some (z + 87))) 6 (some (z + 90))) 7 (some (z + 93))) 8 (some (z + 96))) 9 (some (z + 99))))))) := by rw [e32, hp_at]
  have hD32 : ∀ j, 70 < j → j < 102 → j ≠ 71 → E32 j = hpE z cy j (hp0 j) := fun j h1 h2 hn71 => by
    rw [e32, hp_ne (by omega)]; exact hD31 j h1 (by omega) hn71
  refine lv_iinc (v := hpI 10) (lv' := [(1, .int (hpI 10)), (0, .ref (z + 70))]) C.1 C.2.1 dX4_init_34 hl (k := 0) rfl (by decide) (by decide) rfl (fun ls hl => ?_)
  refine lv_goto (tgt := 15) C.1 C.2.1 dX4_init_37 rfl ?_
  refine lv_iload_n C.1 C.2.1 dX4_init_15 rfl (lv_at hl 0 rfl) ?_
  refine lv_bipush (v := hpI 16) C.1 C.2.1 dX4_init_16 (by decide) ?_
  refine lv_icmp_gt (tgt := 40) C.1 C.2.1 dX4_init_18 rfl (fun hc => absurd hc (by decide)) (fun hc => ?_)
  refine lv_aload_n C.1 C.2.1 dX4_init_21 rfl (lv_at hl 1 rfl) ?_
  refine n_get (fs := [.ref (z + 71), .int (hpI 0), .int (hpI 0), .int (hpI 0), .int (hpI 0), .int (hpI 0), .int (hpI 0), .int (hpI 0), .int (hpI 0)]) C O4 0 (by decide) hp32_70 (by decide) wd_179 rfl hP dX4_init_22 ?_
  refine lv_iload_n C.1 C.2.1 dX4_init_25 rfl (lv_at hl 0 rfl) ?_
  refine n_size (n := 102) h0 rfl hS hP (fun hsz => ?_)
  refine n_new (fs := [.null, .null, .int (hpI 0), .int (hpI 0), .int (hpI 0)]) C O3 bl_3 wd_145 wd_147 wd_5 hP hS hsz (Nat.le_of_ble_eq_true rfl) (Nat.le_of_ble_eq_true rfl) dX4_init_26 (fun H hP hS => ?_)
  obtain ⟨E33, e33⟩ : ∃ F, F = va_up E32 102 (.inr (3, [.null, .null, .int (hpI 0), .int (hpI 0), .int (hpI 0)])) := ⟨_, rfl⟩
  rw [← e33] at hP
  have hO33 : ∀ j, j < 70 → E33 j = E0 j := fun j h => by rw [e33]; exact (hp_ne (by omega)).trans (hO32 j h)
  have hp33_70 : E33 70 = .inr (4, [.ref (z + 71), .int (hpI 0), .int (hpI 0), .int (hpI 0), .int (hpI 0), .int (hpI 0), .int (hpI 0), .int (hpI 0), .int (hpI 0)]) := by rw [e33, hp_ne (by decide)]; exact hp32_70
  have hp33_71 : E33 71 = .inl (cy 15, 17, .inr (.inr (.inr (.inr (va_up (va_up (va_up (va_up (va_up (va_up (va_up (va_up (va_up (va_up (fun _ => none) 0 (some (z + 72))) 1 (some (z + 75))) 2 (some (z + 78))) 3 (some (z + 81))) 4 (some (z + 84))) 5 (some (z + 87))) 6 (some (z + 90))) 7 (some (z + 93))) 8 (some (z + 96))) 9 (some (z + 99))))))) := by rw [e33, hp_ne (by decide)]; exact hp32_71
  have hp33_102 : E33 102 = .inr (3, [.null, .null, .int (hpI 0), .int (hpI 0), .int (hpI 0)]) := by rw [e33, hp_at]
  have hD33 : ∀ j, 70 < j → j < 103 → j ≠ 71 → j ≠ 102 → E33 j = hpE z cy j (hp0 j) := fun j h1 h2 hn71 hn102 => by
    rw [e33, hp_ne (by omega)]; exact hD32 j h1 (by omega) hn71
  refine lv_dup C.1 C.2.1 dX4_init_29 rfl ?_
  refine n_size (n := 103) h0 rfl hS hP (fun hsz => ?_)
  refine n_ctorN C A yk_3 nw_148 (kX3_102 l D cy z _ hp33_102) hl hP hS hsz ⟨rfl, rfl, Nat.le_of_ble_eq_true rfl, Nat.le_of_ble_eq_true rfl⟩ ⟨Nat.le_of_ble_eq_true rfl, Nat.le_of_ble_eq_true rfl⟩ (Nat.le_of_ble_eq_true rfl) dX4_init_30 (fun H locs E34 hP hS hj34 hi34 => ?_)
  have hO34 : ∀ j, j < 70 → E34 j = E0 j := fun j h => (hj34 j (by omega)).trans (hO33 j h)
  have hp34_70 : E34 70 = .inr (4, [.ref (z + 71), .int (hpI 0), .int (hpI 0), .int (hpI 0), .int (hpI 0), .int (hpI 0), .int (hpI 0), .int (hpI 0), .int (hpI 0)]) := (hj34 70 (by decide)).trans hp33_70
  have hp34_71 : E34 71 = .inl (cy 15, 17, .inr (.inr (.inr (.inr (va_up (va_up (va_up (va_up (va_up (va_up (va_up (va_up (va_up (va_up (fun _ => none) 0 (some (z + 72))) 1 (some (z + 75))) 2 (some (z + 78))) 3 (some (z + 81))) 4 (some (z + 84))) 5 (some (z + 87))) 6 (some (z + 90))) 7 (some (z + 93))) 8 (some (z + 96))) 9 (some (z + 99))))))) := (hj34 71 (by decide)).trans hp33_71
  have hD34 : ∀ j, 70 < j → j < 105 → j ≠ 71 → E34 j = hpE z cy j (hp0 j) := fun j h1 h2 hn71 => by
    rcases Nat.lt_or_ge j 102 with h | h
    · exact (hj34 j h).trans (hD33 j h1 (by omega) hn71 (by omega))
    · exact hi34 j h h2
  refine n_aast (c0 := 15) (t0 := 5) C O3 (by decide) (by decide) hp34_71 rfl ((hD34 102 (by decide) (by decide) (by decide)).trans eo_102) 10 rfl (by decide) (by decide) hP hS dX4_init_33 (fun H locs hP hS => ?_)
  obtain ⟨E35, e35⟩ : ∃ F, F = va_up E34 71 (.inl (cy 15, 17, .inr (.inr (.inr (.inr (va_up (va_up (va_up (va_up (va_up (va_up (va_up (va_up (va_up (va_up (va_up (fun _ => none) 0 (some (z + 72))) 1 (some (z + 75))) 2 (some (z + 78))) 3 (some (z + 81))) 4 (some (z + 84))) 5 (some (z + 87))) 6 (some (z + 90))) 7 (some (z + 93))) 8 (some (z + 96))) 9 (some (z + 99))) 10 (some (z + 102)))))))) := ⟨_, rfl⟩
  rw [← e35] at hP
  have hO35 : ∀ j, j < 70 → E35 j = E0 j := fun j h => by rw [e35]; exact (hp_ne (by omega)).trans (hO34 j h)
  have hp35_70 : E35 70 = .inr (4, [.ref (z + 71), .int (hpI 0), .int (hpI 0), .int (hpI 0), .int (hpI 0), .int (hpI 0), .int (hpI 0), .int (hpI 0), .int (hpI 0)]) := by rw [e35, hp_ne (by decide)]; exact hp34_70
  have hp35_71 : E35 71 = .inl (cy 15, 17, .inr (.inr (.inr (.inr (va_up (va_up (va_up (va_up (va_up (va_up (va_up (va_up (va_up (va_up (va_up (fun _ => none) 0 (some (z + 72))) 1 (some (z + 75))) 2 (some (z + 78))) 3 (some (z + 81))) 4 (some (z + 84))) 5 (some (z + 87))) 6 (some (z + 90))) 7 (some (z + 93))) 8 (some (z + 96))) 9 (some (z + 99))) 10 (some (z + 102))))))) := by rw [e35, hp_at]
  have hD35 : ∀ j, 70 < j → j < 105 → j ≠ 71 → E35 j = hpE z cy j (hp0 j) := fun j h1 h2 hn71 => by
    rw [e35, hp_ne (by omega)]; exact hD34 j h1 (by omega) hn71
  refine lv_iinc (v := hpI 11) (lv' := [(1, .int (hpI 11)), (0, .ref (z + 70))]) C.1 C.2.1 dX4_init_34 hl (k := 0) rfl (by decide) (by decide) rfl (fun ls hl => ?_)
  refine lv_goto (tgt := 15) C.1 C.2.1 dX4_init_37 rfl ?_
  refine lv_iload_n C.1 C.2.1 dX4_init_15 rfl (lv_at hl 0 rfl) ?_
  refine lv_bipush (v := hpI 16) C.1 C.2.1 dX4_init_16 (by decide) ?_
  refine lv_icmp_gt (tgt := 40) C.1 C.2.1 dX4_init_18 rfl (fun hc => absurd hc (by decide)) (fun hc => ?_)
  refine lv_aload_n C.1 C.2.1 dX4_init_21 rfl (lv_at hl 1 rfl) ?_
  refine n_get (fs := [.ref (z + 71), .int (hpI 0), .int (hpI 0), .int (hpI 0), .int (hpI 0), .int (hpI 0), .int (hpI 0), .int (hpI 0), .int (hpI 0)]) C O4 0 (by decide) hp35_70 (by decide) wd_179 rfl hP dX4_init_22 ?_
  refine lv_iload_n C.1 C.2.1 dX4_init_25 rfl (lv_at hl 0 rfl) ?_
  refine n_size (n := 105) h0 rfl hS hP (fun hsz => ?_)
  refine n_new (fs := [.null, .null, .int (hpI 0), .int (hpI 0), .int (hpI 0)]) C O3 bl_3 wd_145 wd_147 wd_5 hP hS hsz (Nat.le_of_ble_eq_true rfl) (Nat.le_of_ble_eq_true rfl) dX4_init_26 (fun H hP hS => ?_)
  obtain ⟨E36, e36⟩ : ∃ F, F = va_up E35 105 (.inr (3, [.null, .null, .int (hpI 0), .int (hpI 0), .int (hpI 0)])) := ⟨_, rfl⟩
  rw [← e36] at hP
  have hO36 : ∀ j, j < 70 → E36 j = E0 j := fun j h => by rw [e36]; exact (hp_ne (by omega)).trans (hO35 j h)
  have hp36_70 : E36 70 = .inr (4, [.ref (z + 71), .int (hpI 0), .int (hpI 0), .int (hpI 0), .int (hpI 0), .int (hpI 0), .int (hpI 0), .int (hpI 0), .int (hpI 0)]) := by rw [e36, hp_ne (by decide)]; exact hp35_70
  have hp36_71 : E36 71 = .inl (cy 15, 17, .inr (.inr (.inr (.inr (va_up (va_up (va_up (va_up (va_up (va_up (va_up (va_up (va_up (va_up (va_up (fun _ => none) 0 (some (z + 72))) 1 (some (z + 75))) 2 (some (z + 78))) 3 (some (z + 81))) 4 (some (z + 84))) 5 (some (z + 87))) 6 (some (z + 90))) 7 (some (z + 93))) 8 (some (z + 96))) 9 (some (z + 99))) 10 (some (z + 102))))))) := by rw [e36, hp_ne (by decide)]; exact hp35_71
  have hp36_105 : E36 105 = .inr (3, [.null, .null, .int (hpI 0), .int (hpI 0), .int (hpI 0)]) := by rw [e36, hp_at]
  have hD36 : ∀ j, 70 < j → j < 106 → j ≠ 71 → j ≠ 105 → E36 j = hpE z cy j (hp0 j) := fun j h1 h2 hn71 hn105 => by
    rw [e36, hp_ne (by omega)]; exact hD35 j h1 (by omega) hn71
  refine lv_dup C.1 C.2.1 dX4_init_29 rfl ?_
  refine n_size (n := 106) h0 rfl hS hP (fun hsz => ?_)
  refine n_ctorN C A yk_3 nw_148 (kX3_105 l D cy z _ hp36_105) hl hP hS hsz ⟨rfl, rfl, Nat.le_of_ble_eq_true rfl, Nat.le_of_ble_eq_true rfl⟩ ⟨Nat.le_of_ble_eq_true rfl, Nat.le_of_ble_eq_true rfl⟩ (Nat.le_of_ble_eq_true rfl) dX4_init_30 (fun H locs E37 hP hS hj37 hi37 => ?_)
  have hO37 : ∀ j, j < 70 → E37 j = E0 j := fun j h => (hj37 j (by omega)).trans (hO36 j h)
  have hp37_70 : E37 70 = .inr (4, [.ref (z + 71), .int (hpI 0), .int (hpI 0), .int (hpI 0), .int (hpI 0), .int (hpI 0), .int (hpI 0), .int (hpI 0), .int (hpI 0)]) := (hj37 70 (by decide)).trans hp36_70
  have hp37_71 : E37 71 = .inl (cy 15, 17, .inr (.inr (.inr (.inr (va_up (va_up (va_up (va_up (va_up (va_up (va_up (va_up (va_up (va_up (va_up (fun _ => none) 0 (some (z + 72))) 1 (some (z + 75))) 2 (some (z + 78))) 3 (some (z + 81))) 4 (some (z + 84))) 5 (some (z + 87))) 6 (some (z + 90))) 7 (some (z + 93))) 8 (some (z + 96))) 9 (some (z + 99))) 10 (some (z + 102))))))) := (hj37 71 (by decide)).trans hp36_71
  have hD37 : ∀ j, 70 < j → j < 108 → j ≠ 71 → E37 j = hpE z cy j (hp0 j) := fun j h1 h2 hn71 => by
    rcases Nat.lt_or_ge j 105 with h | h
    · exact (hj37 j h).trans (hD36 j h1 (by omega) hn71 (by omega))
    · exact hi37 j h h2
  refine n_aast (c0 := 15) (t0 := 5) C O3 (by decide) (by decide) hp37_71 rfl ((hD37 105 (by decide) (by decide) (by decide)).trans eo_105) 11 rfl (by decide) (by decide) hP hS dX4_init_33 (fun H locs hP hS => ?_)
  obtain ⟨E38, e38⟩ : ∃ F, F = va_up E37 71 (.inl (cy 15, 17, .inr (.inr (.inr (.inr (va_up (va_up (va_up (va_up (va_up (va_up (va_up (va_up (va_up (va_up (va_up (va_up (fun _ => none) 0 (some (z + 72))) 1 (some (z + 75))) 2 (some (z + 78))) 3 (some (z + 81))) 4 (some (z + 84))) 5 (some (z + 87))) 6 (some (z + 90))) 7 (some (z + 93))) 8 (some (z + 96))) 9 (some (z + 99))) 10 (some (z + 102))) 11 (some (z + 105)))))))) := ⟨_, rfl⟩
  rw [← e38] at hP
  have hO38 : ∀ j, j < 70 → E38 j = E0 j := fun j h => by rw [e38]; exact (hp_ne (by omega)).trans (hO37 j h)
  have hp38_70 : E38 70 = .inr (4, [.ref (z + 71), .int (hpI 0), .int (hpI 0), .int (hpI 0), .int (hpI 0), .int (hpI 0), .int (hpI 0), .int (hpI 0), .int (hpI 0)]) := by rw [e38, hp_ne (by decide)]; exact hp37_70
  have hp38_71 : E38 71 = .inl (cy 15, 17, .inr (.inr (.inr (.inr (va_up (va_up (va_up (va_up (va_up (va_up (va_up (va_up (va_up (va_up (va_up (va_up (fun _ => none) 0 (some (z + 72))) 1 (some (z + 75))) 2 (some (z + 78))) 3 (some (z + 81))) 4 (some (z + 84))) 5 (some (z + 87))) 6 (some (z + 90))) 7 (some (z + 93))) 8 (some (z + 96))) 9 (some (z + 99))) 10 (some (z + 102))) 11 (some (z + 105))))))) := by rw [e38, hp_at]
  have hD38 : ∀ j, 70 < j → j < 108 → j ≠ 71 → E38 j = hpE z cy j (hp0 j) := fun j h1 h2 hn71 => by
    rw [e38, hp_ne (by omega)]; exact hD37 j h1 (by omega) hn71
  refine lv_iinc (v := hpI 12) (lv' := [(1, .int (hpI 12)), (0, .ref (z + 70))]) C.1 C.2.1 dX4_init_34 hl (k := 0) rfl (by decide) (by decide) rfl (fun ls hl => ?_)
  refine lv_goto (tgt := 15) C.1 C.2.1 dX4_init_37 rfl ?_
  refine lv_iload_n C.1 C.2.1 dX4_init_15 rfl (lv_at hl 0 rfl) ?_
  refine lv_bipush (v := hpI 16) C.1 C.2.1 dX4_init_16 (by decide) ?_
  refine lv_icmp_gt (tgt := 40) C.1 C.2.1 dX4_init_18 rfl (fun hc => absurd hc (by decide)) (fun hc => ?_)
  refine lv_aload_n C.1 C.2.1 dX4_init_21 rfl (lv_at hl 1 rfl) ?_
  refine n_get (fs := [.ref (z + 71), .int (hpI 0), .int (hpI 0), .int (hpI 0), .int (hpI 0), .int (hpI 0), .int (hpI 0), .int (hpI 0), .int (hpI 0)]) C O4 0 (by decide) hp38_70 (by decide) wd_179 rfl hP dX4_init_22 ?_
  refine lv_iload_n C.1 C.2.1 dX4_init_25 rfl (lv_at hl 0 rfl) ?_
  refine n_size (n := 108) h0 rfl hS hP (fun hsz => ?_)
  refine n_new (fs := [.null, .null, .int (hpI 0), .int (hpI 0), .int (hpI 0)]) C O3 bl_3 wd_145 wd_147 wd_5 hP hS hsz (Nat.le_of_ble_eq_true rfl) (Nat.le_of_ble_eq_true rfl) dX4_init_26 (fun H hP hS => ?_)
  obtain ⟨E39, e39⟩ : ∃ F, F = va_up E38 108 (.inr (3, [.null, .null, .int (hpI 0), .int (hpI 0), .int (hpI 0)])) := ⟨_, rfl⟩
  rw [← e39] at hP
  have hO39 : ∀ j, j < 70 → E39 j = E0 j := fun j h => by rw [e39]; exact (hp_ne (by omega)).trans (hO38 j h)
  have hp39_70 : E39 70 = .inr (4, [.ref (z + 71), .int (hpI 0), .int (hpI 0), .int (hpI 0), .int (hpI 0), .int (hpI 0), .int (hpI 0), .int (hpI 0), .int (hpI 0)]) := by rw [e39, hp_ne (by decide)]; exact hp38_70
  have hp39_71 : E39 71 = .inl (cy 15, 17, .inr (.inr (.inr (.inr (va_up (va_up (va_up (va_up (va_up (va_up (va_up (va_up (va_up (va_up (va_up (va_up (fun _ => none) 0 (some (z + 72))) 1 (some (z + 75))) 2 (some (z + 78))) 3 (some (z + 81))) 4 (some (z + 84))) 5 (some (z + 87))) 6 (some (z + 90))) 7 (some (z + 93))) 8 (some (z + 96))) 9 (some (z + 99))) 10 (some (z + 102))) 11 (some (z + 105))))))) := by rw [e39, hp_ne (by decide)]; exact hp38_71
  have hp39_108 : E39 108 = .inr (3, [.null, .null, .int (hpI 0), .int (hpI 0), .int (hpI 0)]) := by rw [e39, hp_at]
  have hD39 : ∀ j, 70 < j → j < 109 → j ≠ 71 → j ≠ 108 → E39 j = hpE z cy j (hp0 j) := fun j h1 h2 hn71 hn108 => by
    rw [e39, hp_ne (by omega)]; exact hD38 j h1 (by omega) hn71
  refine lv_dup C.1 C.2.1 dX4_init_29 rfl ?_
  refine n_size (n := 109) h0 rfl hS hP (fun hsz => ?_)
  refine n_ctorN C A yk_3 nw_148 (kX3_108 l D cy z _ hp39_108) hl hP hS hsz ⟨rfl, rfl, Nat.le_of_ble_eq_true rfl, Nat.le_of_ble_eq_true rfl⟩ ⟨Nat.le_of_ble_eq_true rfl, Nat.le_of_ble_eq_true rfl⟩ (Nat.le_of_ble_eq_true rfl) dX4_init_30 (fun H locs E40 hP hS hj40 hi40 => ?_)
  have hO40 : ∀ j, j < 70 → E40 j = E0 j := fun j h => (hj40 j (by omega)).trans (hO39 j h)
  have hp40_70 : E40 70 = .inr (4, [.ref (z + 71), .int (hpI 0), .int (hpI 0), .int (hpI 0), .int (hpI 0), .int (hpI 0), .int (hpI 0), .int (hpI 0), .int (hpI 0)]) := (hj40 70 (by decide)).trans hp39_70
  have hp40_71 : E40 71 = .inl (cy 15, 17, .inr (.inr (.inr (.inr (va_up (va_up (va_up (va_up (va_up (va_up (va_up (va_up (va_up (va_up (va_up (va_up (fun _ => none) 0 (some (z + 72))) 1 (some (z + 75))) 2 (some (z + 78))) 3 (some (z + 81))) 4 (some (z + 84))) 5 (some (z + 87))) 6 (some (z + 90))) 7 (some (z + 93))) 8 (some (z + 96))) 9 (some (z + 99))) 10 (some (z + 102))) 11 (some (z + 105))))))) := (hj40 71 (by decide)).trans hp39_71
  have hD40 : ∀ j, 70 < j → j < 111 → j ≠ 71 → E40 j = hpE z cy j (hp0 j) := fun j h1 h2 hn71 => by
    rcases Nat.lt_or_ge j 108 with h | h
    · exact (hj40 j h).trans (hD39 j h1 (by omega) hn71 (by omega))
    · exact hi40 j h h2
  refine n_aast (c0 := 15) (t0 := 5) C O3 (by decide) (by decide) hp40_71 rfl ((hD40 108 (by decide) (by decide) (by decide)).trans eo_108) 12 rfl (by decide) (by decide) hP hS dX4_init_33 (fun H locs hP hS => ?_)
  obtain ⟨E41, e41⟩ : ∃ F, F = va_up E40 71 (.inl (cy 15, 17, .inr (.inr (.inr (.inr (va_up (va_up (va_up (va_up (va_up (va_up (va_up (va_up (va_up (va_up (va_up (va_up (va_up (fun _ => none) 0 (some (z + 72))) 1 (some (z + 75))) 2 (some (z + 78))) 3 (some (z + 81))) 4 (some (z + 84))) 5 (some (z + 87))) 6 (some (z + 90))) 7 (some (z + 93))) 8 (some (z + 96))) 9 (some (z + 99))) 10 (some (z + 102))) 11 (some (z + 105))) 12 (some (z + 108)))))))) := ⟨_, rfl⟩
  rw [← e41] at hP
  have hO41 : ∀ j, j < 70 → E41 j = E0 j := fun j h => by rw [e41]; exact (hp_ne (by omega)).trans (hO40 j h)
  have hp41_70 : E41 70 = .inr (4, [.ref (z + 71), .int (hpI 0), .int (hpI 0), .int (hpI 0), .int (hpI 0), .int (hpI 0), .int (hpI 0), .int (hpI 0), .int (hpI 0)]) := by rw [e41, hp_ne (by decide)]; exact hp40_70
  have hp41_71 : E41 71 = .inl (cy 15, 17, .inr (.inr (.inr (.inr (va_up (va_up (va_up (va_up (va_up (va_up (va_up (va_up (va_up (va_up (va_up (va_up (va_up (fun _ => none) 0 (some (z + 72))) 1 (some (z + 75))) 2 (some (z + 78))) 3 (some (z + 81))) 4 (some (z + 84))) 5 (some (z + 87))) 6 (some (z + 90))) 7 (some (z + 93))) 8 (some (z + 96))) 9 (some (z + 99))) 10 (some (z + 102))) 11 (some (z + 105))) 12 (some (z + 108))))))) := by rw [e41, hp_at]
  have hD41 : ∀ j, 70 < j → j < 111 → j ≠ 71 → E41 j = hpE z cy j (hp0 j) := fun j h1 h2 hn71 => by
    rw [e41, hp_ne (by omega)]; exact hD40 j h1 (by omega) hn71
  refine lv_iinc (v := hpI 13) (lv' := [(1, .int (hpI 13)), (0, .ref (z + 70))]) C.1 C.2.1 dX4_init_34 hl (k := 0) rfl (by decide) (by decide) rfl (fun ls hl => ?_)
  refine lv_goto (tgt := 15) C.1 C.2.1 dX4_init_37 rfl ?_
  refine lv_iload_n C.1 C.2.1 dX4_init_15 rfl (lv_at hl 0 rfl) ?_
  refine lv_bipush (v := hpI 16) C.1 C.2.1 dX4_init_16 (by decide) ?_
  refine lv_icmp_gt (tgt := 40) C.1 C.2.1 dX4_init_18 rfl (fun hc => absurd hc (by decide)) (fun hc => ?_)
  refine lv_aload_n C.1 C.2.1 dX4_init_21 rfl (lv_at hl 1 rfl) ?_
  refine n_get (fs := [.ref (z + 71), .int (hpI 0), .int (hpI 0), .int (hpI 0), .int (hpI 0), .int (hpI 0), .int (hpI 0), .int (hpI 0), .int (hpI 0)]) C O4 0 (by decide) hp41_70 (by decide) wd_179 rfl hP dX4_init_22 ?_
  refine lv_iload_n C.1 C.2.1 dX4_init_25 rfl (lv_at hl 0 rfl) ?_
  refine n_size (n := 111) h0 rfl hS hP (fun hsz => ?_)
  refine n_new (fs := [.null, .null, .int (hpI 0), .int (hpI 0), .int (hpI 0)]) C O3 bl_3 wd_145 wd_147 wd_5 hP hS hsz (Nat.le_of_ble_eq_true rfl) (Nat.le_of_ble_eq_true rfl) dX4_init_26 (fun H hP hS => ?_)
  obtain ⟨E42, e42⟩ : ∃ F, F = va_up E41 111 (.inr (3, [.null, .null, .int (hpI 0), .int (hpI 0), .int (hpI 0)])) := ⟨_, rfl⟩
  rw [← e42] at hP
  have hO42 : ∀ j, j < 70 → E42 j = E0 j := fun j h => by rw [e42]; exact (hp_ne (by omega)).trans (hO41 j h)
  have hp42_70 : E42 70 = .inr (4, [.ref (z + 71), .int (hpI 0), .int (hpI 0), .int (hpI 0), .int (hpI 0), .int (hpI 0), .int (hpI 0), .int (hpI 0), .int (hpI 0)]) := by rw [e42, hp_ne (by decide)]; exact hp41_70
  have hp42_71 : E42 71 = .inl (cy 15, 17, .inr (.inr (.inr (.inr (va_up (va_up (va_up (va_up (va_up (va_up (va_up (va_up (va_up (va_up (va_up (va_up (va_up (fun _ => none) 0 (some (z + 72))) 1 (some (z + 75))) 2 (some (z + 78))) 3 (some (z + 81))) 4 (some (z + 84))) 5 (some (z + 87))) 6 (some (z + 90))) 7 (some (z + 93))) 8 (some (z + 96))) 9 (some (z + 99))) 10 (some (z + 102))) 11 (some (z + 105))) 12 (some (z + 108))))))) := by rw [e42, hp_ne (by decide)]; exact hp41_71
  have hp42_111 : E42 111 = .inr (3, [.null, .null, .int (hpI 0), .int (hpI 0), .int (hpI 0)]) := by rw [e42, hp_at]
  have hD42 : ∀ j, 70 < j → j < 112 → j ≠ 71 → j ≠ 111 → E42 j = hpE z cy j (hp0 j) := fun j h1 h2 hn71 hn111 => by
    rw [e42, hp_ne (by omega)]; exact hD41 j h1 (by omega) hn71
  refine lv_dup C.1 C.2.1 dX4_init_29 rfl ?_
  refine n_size (n := 112) h0 rfl hS hP (fun hsz => ?_)
  refine n_ctorN C A yk_3 nw_148 (kX3_111 l D cy z _ hp42_111) hl hP hS hsz ⟨rfl, rfl, Nat.le_of_ble_eq_true rfl, Nat.le_of_ble_eq_true rfl⟩ ⟨Nat.le_of_ble_eq_true rfl, Nat.le_of_ble_eq_true rfl⟩ (Nat.le_of_ble_eq_true rfl) dX4_init_30 (fun H locs E43 hP hS hj43 hi43 => ?_)
  have hO43 : ∀ j, j < 70 → E43 j = E0 j := fun j h => (hj43 j (by omega)).trans (hO42 j h)
  have hp43_70 : E43 70 = .inr (4, [.ref (z + 71), .int (hpI 0), .int (hpI 0), .int (hpI 0), .int (hpI 0), .int (hpI 0), .int (hpI 0), .int (hpI 0), .int (hpI 0)]) := (hj43 70 (by decide)).trans hp42_70
  have hp43_71 : E43 71 = .inl (cy 15, 17, .inr (.inr (.inr (.inr (va_up (va_up (va_up (va_up (va_up (va_up (va_up (va_up (va_up (va_up (va_up (va_up (va_up (fun _ => none) 0 (some (z + 72))) 1 (some (z + 75))) 2 (some (z + 78))) 3 (some (z + 81))) 4 (some (z + 84))) 5 (some (z + 87))) 6 (some (z + 90))) 7 (some (z + 93))) 8 (some (z + 96))) 9 (some (z + 99))) 10 (some (z + 102))) 11 (some (z + 105))) 12 (some (z + 108))))))) := (hj43 71 (by decide)).trans hp42_71
  have hD43 : ∀ j, 70 < j → j < 114 → j ≠ 71 → E43 j = hpE z cy j (hp0 j) := fun j h1 h2 hn71 => by
    rcases Nat.lt_or_ge j 111 with h | h
    · exact (hj43 j h).trans (hD42 j h1 (by omega) hn71 (by omega))
    · exact hi43 j h h2
  refine n_aast (c0 := 15) (t0 := 5) C O3 (by decide) (by decide) hp43_71 rfl ((hD43 111 (by decide) (by decide) (by decide)).trans eo_111) 13 rfl (by decide) (by decide) hP hS dX4_init_33 (fun H locs hP hS => ?_)
  obtain ⟨E44, e44⟩ : ∃ F, F = va_up E43 71 (.inl (cy 15, 17, .inr (.inr (.inr (.inr (va_up (va_up (va_up (va_up (va_up (va_up (va_up (va_up (va_up (va_up (va_up (va_up (va_up (va_up (fun _ => none) 0 (some (z + 72))) 1 (some (z + 75))) 2 (some (z + 78))) 3 (some (z + 81))) 4 (some (z + 84))) 5 (some (z + 87))) 6 (some (z + 90))) 7 (some (z + 93))) 8 (some (z + 96))) 9 (some (z + 99))) 10 (some (z + 102))) 11 (some (z + 105))) 12 (some (z + 108))) 13 (some (z + 111)))))))) := ⟨_, rfl⟩
  rw [← e44] at hP
  have hO44 : ∀ j, j < 70 → E44 j = E0 j := fun j h => by rw [e44]; exact (hp_ne (by omega)).trans (hO43 j h)
  have hp44_70 : E44 70 = .inr (4, [.ref (z + 71), .int (hpI 0), .int (hpI 0), .int (hpI 0), .int (hpI 0), .int (hpI 0), .int (hpI 0), .int (hpI 0), .int (hpI 0)]) := by rw [e44, hp_ne (by decide)]; exact hp43_70
  have hp44_71 : E44 71 = .inl (cy 15, 17, .inr (.inr (.inr (.inr (va_up (va_up (va_up (va_up (va_up (va_up (va_up (va_up (va_up (va_up (va_up (va_up (va_up (va_up (fun _ => none) 0 (some (z + 72))) 1 (some (z + 75))) 2 (some (z + 78))) 3 (some (z + 81))) 4 (some (z + 84))) 5 (some (z + 87))) 6 (some (z + 90))) 7 (some (z + 93))) 8 (some (z + 96))) 9 (some (z + 99))) 10 (some (z + 102))) 11 (some (z + 105))) 12 (some (z + 108))) 13 (some (z + 111))))))) := by rw [e44, hp_at]
  have hD44 : ∀ j, 70 < j → j < 114 → j ≠ 71 → E44 j = hpE z cy j (hp0 j) := fun j h1 h2 hn71 => by
    rw [e44, hp_ne (by omega)]; exact hD43 j h1 (by omega) hn71
  refine lv_iinc (v := hpI 14) (lv' := [(1, .int (hpI 14)), (0, .ref (z + 70))]) C.1 C.2.1 dX4_init_34 hl (k := 0) rfl (by decide) (by decide) rfl (fun ls hl => ?_)
  refine lv_goto (tgt := 15) C.1 C.2.1 dX4_init_37 rfl ?_
  refine lv_iload_n C.1 C.2.1 dX4_init_15 rfl (lv_at hl 0 rfl) ?_
  refine lv_bipush (v := hpI 16) C.1 C.2.1 dX4_init_16 (by decide) ?_
  refine lv_icmp_gt (tgt := 40) C.1 C.2.1 dX4_init_18 rfl (fun hc => absurd hc (by decide)) (fun hc => ?_)
  refine lv_aload_n C.1 C.2.1 dX4_init_21 rfl (lv_at hl 1 rfl) ?_
  refine n_get (fs := [.ref (z + 71), .int (hpI 0), .int (hpI 0), .int (hpI 0), .int (hpI 0), .int (hpI 0), .int (hpI 0), .int (hpI 0), .int (hpI 0)]) C O4 0 (by decide) hp44_70 (by decide) wd_179 rfl hP dX4_init_22 ?_
  refine lv_iload_n C.1 C.2.1 dX4_init_25 rfl (lv_at hl 0 rfl) ?_
  refine n_size (n := 114) h0 rfl hS hP (fun hsz => ?_)
  refine n_new (fs := [.null, .null, .int (hpI 0), .int (hpI 0), .int (hpI 0)]) C O3 bl_3 wd_145 wd_147 wd_5 hP hS hsz (Nat.le_of_ble_eq_true rfl) (Nat.le_of_ble_eq_true rfl) dX4_init_26 (fun H hP hS => ?_)
  obtain ⟨E45, e45⟩ : ∃ F, F = va_up E44 114 (.inr (3, [.null, .null, .int (hpI 0), .int (hpI 0), .int (hpI 0)])) := ⟨_, rfl⟩
  rw [← e45] at hP
  have hO45 : ∀ j, j < 70 → E45 j = E0 j := fun j h => by rw [e45]; exact (hp_ne (by omega)).trans (hO44 j h)
  have hp45_70 : E45 70 = .inr (4, [.ref (z + 71), .int (hpI 0), .int (hpI 0), .int (hpI 0), .int (hpI 0), .int (hpI 0), .int (hpI 0), .int (hpI 0), .int (hpI 0)]) := by rw [e45, hp_ne (by decide)]; exact hp44_70
  have hp45_71 : E45 71 = .inl (cy 15, 17, .inr (.inr (.inr (.inr (va_up (va_up (va_up (va_up (va_up (va_up (va_up (va_up (va_up (va_up (va_up (va_up (va_up (va_up (fun _ => none) 0 (some (z + 72))) 1 (some (z + 75))) 2 (some (z + 78))) 3 (some (z + 81))) 4 (some (z + 84))) 5 (some (z + 87))) 6 (some (z + 90))) 7 (some (z + 93))) 8 (some (z + 96))) 9 (some (z + 99))) 10 (some (z + 102))) 11 (some (z + 105))) 12 (some (z + 108))) 13 (some (z + 111))))))) := by rw [e45, hp_ne (by decide)]; exact hp44_71
  have hp45_114 : E45 114 = .inr (3, [.null, .null, .int (hpI 0), .int (hpI 0), .int (hpI 0)]) := by rw [e45, hp_at]
  have hD45 : ∀ j, 70 < j → j < 115 → j ≠ 71 → j ≠ 114 → E45 j = hpE z cy j (hp0 j) := fun j h1 h2 hn71 hn114 => by
    rw [e45, hp_ne (by omega)]; exact hD44 j h1 (by omega) hn71
  refine lv_dup C.1 C.2.1 dX4_init_29 rfl ?_
  refine n_size (n := 115) h0 rfl hS hP (fun hsz => ?_)
  refine n_ctorN C A yk_3 nw_148 (kX3_114 l D cy z _ hp45_114) hl hP hS hsz ⟨rfl, rfl, Nat.le_of_ble_eq_true rfl, Nat.le_of_ble_eq_true rfl⟩ ⟨Nat.le_of_ble_eq_true rfl, Nat.le_of_ble_eq_true rfl⟩ (Nat.le_of_ble_eq_true rfl) dX4_init_30 (fun H locs E46 hP hS hj46 hi46 => ?_)
  have hO46 : ∀ j, j < 70 → E46 j = E0 j := fun j h => (hj46 j (by omega)).trans (hO45 j h)
  have hp46_70 : E46 70 = .inr (4, [.ref (z + 71), .int (hpI 0), .int (hpI 0), .int (hpI 0), .int (hpI 0), .int (hpI 0), .int (hpI 0), .int (hpI 0), .int (hpI 0)]) := (hj46 70 (by decide)).trans hp45_70
  have hp46_71 : E46 71 = .inl (cy 15, 17, .inr (.inr (.inr (.inr (va_up (va_up (va_up (va_up (va_up (va_up (va_up (va_up (va_up (va_up (va_up (va_up (va_up (va_up (fun _ => none) 0 (some (z + 72))) 1 (some (z + 75))) 2 (some (z + 78))) 3 (some (z + 81))) 4 (some (z + 84))) 5 (some (z + 87))) 6 (some (z + 90))) 7 (some (z + 93))) 8 (some (z + 96))) 9 (some (z + 99))) 10 (some (z + 102))) 11 (some (z + 105))) 12 (some (z + 108))) 13 (some (z + 111))))))) := (hj46 71 (by decide)).trans hp45_71
  have hD46 : ∀ j, 70 < j → j < 117 → j ≠ 71 → E46 j = hpE z cy j (hp0 j) := fun j h1 h2 hn71 => by
    rcases Nat.lt_or_ge j 114 with h | h
    · exact (hj46 j h).trans (hD45 j h1 (by omega) hn71 (by omega))
    · exact hi46 j h h2
  refine n_aast (c0 := 15) (t0 := 5) C O3 (by decide) (by decide) hp46_71 rfl ((hD46 114 (by decide) (by decide) (by decide)).trans eo_114) 14 rfl (by decide) (by decide) hP hS dX4_init_33 (fun H locs hP hS => ?_)
  obtain ⟨E47, e47⟩ : ∃ F, F = va_up E46 71 (.inl (cy 15, 17, .inr (.inr (.inr (.inr (va_up (va_up (va_up (va_up (va_up (va_up (va_up (va_up (va_up (va_up (va_up (va_up (va_up (va_up (va_up (fun _ => none) 0 (some (z + 72))) 1 (some (z + 75))) 2 (some (z + 78))) 3 (some (z + 81))) 4 (some (z + 84))) 5 (some (z + 87))) 6 (some (z + 90))) 7 (some (z + 93))) 8 (some (z + 96))) 9 (some (z + 99))) 10 (some (z + 102))) 11 (some (z + 105))) 12 (some (z + 108))) 13 (some (z + 111))) 14 (some (z + 114)))))))) := ⟨_, rfl⟩
  rw [← e47] at hP
  have hO47 : ∀ j, j < 70 → E47 j = E0 j := fun j h => by rw [e47]; exact (hp_ne (by omega)).trans (hO46 j h)
  have hp47_70 : E47 70 = .inr (4, [.ref (z + 71), .int (hpI 0), .int (hpI 0), .int (hpI 0), .int (hpI 0), .int (hpI 0), .int (hpI 0), .int (hpI 0), .int (hpI 0)]) := by rw [e47, hp_ne (by decide)]; exact hp46_70
  have hp47_71 : E47 71 = .inl (cy 15, 17, .inr (.inr (.inr (.inr (va_up (va_up (va_up (va_up (va_up (va_up (va_up (va_up (va_up (va_up (va_up (va_up (va_up (va_up (va_up (fun _ => none) 0 (some (z + 72))) 1 (some (z + 75))) 2 (some (z + 78))) 3 (some (z + 81))) 4 (some (z + 84))) 5 (some (z + 87))) 6 (some (z + 90))) 7 (some (z + 93))) 8 (some (z + 96))) 9 (some (z + 99))) 10 (some (z + 102))) 11 (some (z + 105))) 12 (some (z + 108))) 13 (some (z + 111))) 14 (some (z + 114))))))) := by rw [e47, hp_at]
  have hD47 : ∀ j, 70 < j → j < 117 → j ≠ 71 → E47 j = hpE z cy j (hp0 j) := fun j h1 h2 hn71 => by
    rw [e47, hp_ne (by omega)]; exact hD46 j h1 (by omega) hn71
  refine lv_iinc (v := hpI 15) (lv' := [(1, .int (hpI 15)), (0, .ref (z + 70))]) C.1 C.2.1 dX4_init_34 hl (k := 0) rfl (by decide) (by decide) rfl (fun ls hl => ?_)
  refine lv_goto (tgt := 15) C.1 C.2.1 dX4_init_37 rfl ?_
  refine lv_iload_n C.1 C.2.1 dX4_init_15 rfl (lv_at hl 0 rfl) ?_
  refine lv_bipush (v := hpI 16) C.1 C.2.1 dX4_init_16 (by decide) ?_
  refine lv_icmp_gt (tgt := 40) C.1 C.2.1 dX4_init_18 rfl (fun hc => absurd hc (by decide)) (fun hc => ?_)
  refine lv_aload_n C.1 C.2.1 dX4_init_21 rfl (lv_at hl 1 rfl) ?_
  refine n_get (fs := [.ref (z + 71), .int (hpI 0), .int (hpI 0), .int (hpI 0), .int (hpI 0), .int (hpI 0), .int (hpI 0), .int (hpI 0), .int (hpI 0)]) C O4 0 (by decide) hp47_70 (by decide) wd_179 rfl hP dX4_init_22 ?_
  refine lv_iload_n C.1 C.2.1 dX4_init_25 rfl (lv_at hl 0 rfl) ?_
  refine n_size (n := 117) h0 rfl hS hP (fun hsz => ?_)
  refine n_new (fs := [.null, .null, .int (hpI 0), .int (hpI 0), .int (hpI 0)]) C O3 bl_3 wd_145 wd_147 wd_5 hP hS hsz (Nat.le_of_ble_eq_true rfl) (Nat.le_of_ble_eq_true rfl) dX4_init_26 (fun H hP hS => ?_)
  obtain ⟨E48, e48⟩ : ∃ F, F = va_up E47 117 (.inr (3, [.null, .null, .int (hpI 0), .int (hpI 0), .int (hpI 0)])) := ⟨_, rfl⟩
  rw [← e48] at hP
  have hO48 : ∀ j, j < 70 → E48 j = E0 j := fun j h => by rw [e48]; exact (hp_ne (by omega)).trans (hO47 j h)
  have hp48_70 : E48 70 = .inr (4, [.ref (z + 71), .int (hpI 0), .int (hpI 0), .int (hpI 0), .int (hpI 0), .int (hpI 0), .int (hpI 0), .int (hpI 0), .int (hpI 0)]) := by rw [e48, hp_ne (by decide)]; exact hp47_70
  have hp48_71 : E48 71 = .inl (cy 15, 17, .inr (.inr (.inr (.inr (va_up (va_up (va_up (va_up (va_up (va_up (va_up (va_up (va_up (va_up (va_up (va_up (va_up (va_up (va_up (fun _ => none) 0 (some (z + 72))) 1 (some (z + 75))) 2 (some (z + 78))) 3 (some (z + 81))) 4 (some (z + 84))) 5 (some (z + 87))) 6 (some (z + 90))) 7 (some (z + 93))) 8 (some (z + 96))) 9 (some (z + 99))) 10 (some (z + 102))) 11 (some (z + 105))) 12 (some (z + 108))) 13 (some (z + 111))) 14 (some (z + 114))))))) := by rw [e48, hp_ne (by decide)]; exact hp47_71
  have hp48_117 : E48 117 = .inr (3, [.null, .null, .int (hpI 0), .int (hpI 0), .int (hpI 0)]) := by rw [e48, hp_at]
  have hD48 : ∀ j, 70 < j → j < 118 → j ≠ 71 → j ≠ 117 → E48 j = hpE z cy j (hp0 j) := fun j h1 h2 hn71 hn117 => by
    rw [e48, hp_ne (by omega)]; exact hD47 j h1 (by omega) hn71
  refine lv_dup C.1 C.2.1 dX4_init_29 rfl ?_
  refine n_size (n := 118) h0 rfl hS hP (fun hsz => ?_)
  refine n_ctorN C A yk_3 nw_148 (kX3_117 l D cy z _ hp48_117) hl hP hS hsz ⟨rfl, rfl, Nat.le_of_ble_eq_true rfl, Nat.le_of_ble_eq_true rfl⟩ ⟨Nat.le_of_ble_eq_true rfl, Nat.le_of_ble_eq_true rfl⟩ (Nat.le_of_ble_eq_true rfl) dX4_init_30 (fun H locs E49 hP hS hj49 hi49 => ?_)
  have hO49 : ∀ j, j < 70 → E49 j = E0 j := fun j h => (hj49 j (by omega)).trans (hO48 j h)
  have hp49_70 : E49 70 = .inr (4, [.ref (z + 71), .int (hpI 0), .int (hpI 0), .int (hpI 0), .int (hpI 0), .int (hpI 0), .int (hpI 0), .int (hpI 0), .int (hpI 0)]) := (hj49 70 (by decide)).trans hp48_70
  have hp49_71 : E49 71 = .inl (cy 15, 17, .inr (.inr (.inr (.inr (va_up (va_up (va_up (va_up (va_up (va_up (va_up (va_up (va_up (va_up (va_up (va_up (va_up (va_up (va_up (fun _ => none) 0 (some (z + 72))) 1 (some (z + 75))) 2 (some (z + 78))) 3 (some (z + 81))) 4 (some (z + 84))) 5 (some (z + 87))) 6 (some (z + 90))) 7 (some (z + 93))) 8 (some (z + 96))) 9 (some (z + 99))) 10 (some (z + 102))) 11 (some (z + 105))) 12 (some (z + 108))) 13 (some (z + 111))) 14 (some (z + 114))))))) := (hj49 71 (by decide)).trans hp48_71
  have hD49 : ∀ j, 70 < j → j < 120 → j ≠ 71 → E49 j = hpE z cy j (hp0 j) := fun j h1 h2 hn71 => by
    rcases Nat.lt_or_ge j 117 with h | h
    · exact (hj49 j h).trans (hD48 j h1 (by omega) hn71 (by omega))
    · exact hi49 j h h2
  refine n_aast (c0 := 15) (t0 := 5) C O3 (by decide) (by decide) hp49_71 rfl ((hD49 117 (by decide) (by decide) (by decide)).trans eo_117) 15 rfl (by decide) (by decide) hP hS dX4_init_33 (fun H locs hP hS => ?_)
  obtain ⟨E50, e50⟩ : ∃ F, F = va_up E49 71 (.inl (cy 15, 17, .inr (.inr (.inr (.inr (va_up (va_up (va_up (va_up (va_up (va_up (va_up (va_up (va_up (va_up (va_up (va_up (va_up (va_up (va_up (va_up (fun _ => none) 0 (some (z + 72))) 1 (some (z + 75))) 2 (some (z + 78))) 3 (some (z + 81))) 4 (some (z + 84))) 5 (some (z + 87))) 6 (some (z + 90))) 7 (some (z + 93))) 8 (some (z + 96))) 9 (some (z + 99))) 10 (some (z + 102))) 11 (some (z + 105))) 12 (some (z + 108))) 13 (some (z + 111))) 14 (some (z + 114))) 15 (some (z + 117)))))))) := ⟨_, rfl⟩
  rw [← e50] at hP
  have hO50 : ∀ j, j < 70 → E50 j = E0 j := fun j h => by rw [e50]; exact (hp_ne (by omega)).trans (hO49 j h)
  have hp50_70 : E50 70 = .inr (4, [.ref (z + 71), .int (hpI 0), .int (hpI 0), .int (hpI 0), .int (hpI 0), .int (hpI 0), .int (hpI 0), .int (hpI 0), .int (hpI 0)]) := by rw [e50, hp_ne (by decide)]; exact hp49_70
  have hp50_71 : E50 71 = .inl (cy 15, 17, .inr (.inr (.inr (.inr (va_up (va_up (va_up (va_up (va_up (va_up (va_up (va_up (va_up (va_up (va_up (va_up (va_up (va_up (va_up (va_up (fun _ => none) 0 (some (z + 72))) 1 (some (z + 75))) 2 (some (z + 78))) 3 (some (z + 81))) 4 (some (z + 84))) 5 (some (z + 87))) 6 (some (z + 90))) 7 (some (z + 93))) 8 (some (z + 96))) 9 (some (z + 99))) 10 (some (z + 102))) 11 (some (z + 105))) 12 (some (z + 108))) 13 (some (z + 111))) 14 (some (z + 114))) 15 (some (z + 117))))))) := by rw [e50, hp_at]
  have hD50 : ∀ j, 70 < j → j < 120 → j ≠ 71 → E50 j = hpE z cy j (hp0 j) := fun j h1 h2 hn71 => by
    rw [e50, hp_ne (by omega)]; exact hD49 j h1 (by omega) hn71
  refine lv_iinc (v := hpI 16) (lv' := [(1, .int (hpI 16)), (0, .ref (z + 70))]) C.1 C.2.1 dX4_init_34 hl (k := 0) rfl (by decide) (by decide) rfl (fun ls hl => ?_)
  refine lv_goto (tgt := 15) C.1 C.2.1 dX4_init_37 rfl ?_
  refine lv_iload_n C.1 C.2.1 dX4_init_15 rfl (lv_at hl 0 rfl) ?_
  refine lv_bipush (v := hpI 16) C.1 C.2.1 dX4_init_16 (by decide) ?_
  refine lv_icmp_gt (tgt := 40) C.1 C.2.1 dX4_init_18 rfl (fun hc => absurd hc (by decide)) (fun hc => ?_)
  refine lv_aload_n C.1 C.2.1 dX4_init_21 rfl (lv_at hl 1 rfl) ?_
  refine n_get (fs := [.ref (z + 71), .int (hpI 0), .int (hpI 0), .int (hpI 0), .int (hpI 0), .int (hpI 0), .int (hpI 0), .int (hpI 0), .int (hpI 0)]) C O4 0 (by decide) hp50_70 (by decide) wd_179 rfl hP dX4_init_22 ?_
  refine lv_iload_n C.1 C.2.1 dX4_init_25 rfl (lv_at hl 0 rfl) ?_
  refine n_size (n := 120) h0 rfl hS hP (fun hsz => ?_)
  refine n_new (fs := [.null, .null, .int (hpI 0), .int (hpI 0), .int (hpI 0)]) C O3 bl_3 wd_145 wd_147 wd_5 hP hS hsz (Nat.le_of_ble_eq_true rfl) (Nat.le_of_ble_eq_true rfl) dX4_init_26 (fun H hP hS => ?_)
  obtain ⟨E51, e51⟩ : ∃ F, F = va_up E50 120 (.inr (3, [.null, .null, .int (hpI 0), .int (hpI 0), .int (hpI 0)])) := ⟨_, rfl⟩
  rw [← e51] at hP
  have hO51 : ∀ j, j < 70 → E51 j = E0 j := fun j h => by rw [e51]; exact (hp_ne (by omega)).trans (hO50 j h)
  have hp51_70 : E51 70 = .inr (4, [.ref (z + 71), .int (hpI 0), .int (hpI 0), .int (hpI 0), .int (hpI 0), .int (hpI 0), .int (hpI 0), .int (hpI 0), .int (hpI 0)]) := by rw [e51, hp_ne (by decide)]; exact hp50_70
  have hp51_71 : E51 71 = .inl (cy 15, 17, .inr (.inr (.inr (.inr (va_up (va_up (va_up (va_up (va_up (va_up (va_up (va_up (va_up (va_up (va_up (va_up (va_up (va_up (va_up (va_up (fun _ => none) 0 (some (z + 72))) 1 (some (z + 75))) 2 (some (z + 78))) 3 (some (z + 81))) 4 (some (z + 84))) 5 (some (z + 87))) 6 (some (z + 90))) 7 (some (z + 93))) 8 (some (z + 96))) 9 (some (z + 99))) 10 (some (z + 102))) 11 (some (z + 105))) 12 (some (z + 108))) 13 (some (z + 111))) 14 (some (z + 114))) 15 (some (z + 117))))))) := by rw [e51, hp_ne (by decide)]; exact hp50_71
  have hp51_120 : E51 120 = .inr (3, [.null, .null, .int (hpI 0), .int (hpI 0), .int (hpI 0)]) := by rw [e51, hp_at]
  have hD51 : ∀ j, 70 < j → j < 121 → j ≠ 71 → j ≠ 120 → E51 j = hpE z cy j (hp0 j) := fun j h1 h2 hn71 hn120 => by
    rw [e51, hp_ne (by omega)]; exact hD50 j h1 (by omega) hn71
  refine lv_dup C.1 C.2.1 dX4_init_29 rfl ?_
  refine n_size (n := 121) h0 rfl hS hP (fun hsz => ?_)
  refine n_ctorN C A yk_3 nw_148 (kX3_120 l D cy z _ hp51_120) hl hP hS hsz ⟨rfl, rfl, Nat.le_of_ble_eq_true rfl, Nat.le_of_ble_eq_true rfl⟩ ⟨Nat.le_of_ble_eq_true rfl, Nat.le_of_ble_eq_true rfl⟩ (Nat.le_of_ble_eq_true rfl) dX4_init_30 (fun H locs E52 hP hS hj52 hi52 => ?_)
  have hO52 : ∀ j, j < 70 → E52 j = E0 j := fun j h => (hj52 j (by omega)).trans (hO51 j h)
  have hp52_70 : E52 70 = .inr (4, [.ref (z + 71), .int (hpI 0), .int (hpI 0), .int (hpI 0), .int (hpI 0), .int (hpI 0), .int (hpI 0), .int (hpI 0), .int (hpI 0)]) := (hj52 70 (by decide)).trans hp51_70
  have hp52_71 : E52 71 = .inl (cy 15, 17, .inr (.inr (.inr (.inr (va_up (va_up (va_up (va_up (va_up (va_up (va_up (va_up (va_up (va_up (va_up (va_up (va_up (va_up (va_up (va_up (fun _ => none) 0 (some (z + 72))) 1 (some (z + 75))) 2 (some (z + 78))) 3 (some (z + 81))) 4 (some (z + 84))) 5 (some (z + 87))) 6 (some (z + 90))) 7 (some (z + 93))) 8 (some (z + 96))) 9 (some (z + 99))) 10 (some (z + 102))) 11 (some (z + 105))) 12 (some (z + 108))) 13 (some (z + 111))) 14 (some (z + 114))) 15 (some (z + 117))))))) := (hj52 71 (by decide)).trans hp51_71
  have hD52 : ∀ j, 70 < j → j < 123 → j ≠ 71 → E52 j = hpE z cy j (hp0 j) := fun j h1 h2 hn71 => by
    rcases Nat.lt_or_ge j 120 with h | h
    · exact (hj52 j h).trans (hD51 j h1 (by omega) hn71 (by omega))
    · exact hi52 j h h2
  refine n_aast (c0 := 15) (t0 := 5) C O3 (by decide) (by decide) hp52_71 rfl ((hD52 120 (by decide) (by decide) (by decide)).trans eo_120) 16 rfl (by decide) (by decide) hP hS dX4_init_33 (fun H locs hP hS => ?_)
  obtain ⟨E53, e53⟩ : ∃ F, F = va_up E52 71 (.inl (cy 15, 17, .inr (.inr (.inr (.inr (va_up (va_up (va_up (va_up (va_up (va_up (va_up (va_up (va_up (va_up (va_up (va_up (va_up (va_up (va_up (va_up (va_up (fun _ => none) 0 (some (z + 72))) 1 (some (z + 75))) 2 (some (z + 78))) 3 (some (z + 81))) 4 (some (z + 84))) 5 (some (z + 87))) 6 (some (z + 90))) 7 (some (z + 93))) 8 (some (z + 96))) 9 (some (z + 99))) 10 (some (z + 102))) 11 (some (z + 105))) 12 (some (z + 108))) 13 (some (z + 111))) 14 (some (z + 114))) 15 (some (z + 117))) 16 (some (z + 120)))))))) := ⟨_, rfl⟩
  rw [← e53] at hP
  have hO53 : ∀ j, j < 70 → E53 j = E0 j := fun j h => by rw [e53]; exact (hp_ne (by omega)).trans (hO52 j h)
  have hp53_70 : E53 70 = .inr (4, [.ref (z + 71), .int (hpI 0), .int (hpI 0), .int (hpI 0), .int (hpI 0), .int (hpI 0), .int (hpI 0), .int (hpI 0), .int (hpI 0)]) := by rw [e53, hp_ne (by decide)]; exact hp52_70
  have hp53_71 : E53 71 = .inl (cy 15, 17, .inr (.inr (.inr (.inr (va_up (va_up (va_up (va_up (va_up (va_up (va_up (va_up (va_up (va_up (va_up (va_up (va_up (va_up (va_up (va_up (va_up (fun _ => none) 0 (some (z + 72))) 1 (some (z + 75))) 2 (some (z + 78))) 3 (some (z + 81))) 4 (some (z + 84))) 5 (some (z + 87))) 6 (some (z + 90))) 7 (some (z + 93))) 8 (some (z + 96))) 9 (some (z + 99))) 10 (some (z + 102))) 11 (some (z + 105))) 12 (some (z + 108))) 13 (some (z + 111))) 14 (some (z + 114))) 15 (some (z + 117))) 16 (some (z + 120))))))) := by rw [e53, hp_at]
  have hD53 : ∀ j, 70 < j → j < 123 → j ≠ 71 → E53 j = hpE z cy j (hp0 j) := fun j h1 h2 hn71 => by
    rw [e53, hp_ne (by omega)]; exact hD52 j h1 (by omega) hn71
  have hP := hpWn_same (k := 71) (x := .inl (cy 15, 17, .inr (.inr (.inr (.inr (fun i => some (z + hprf 71 i))))))) hP (by decide) (fun h => by
    rw [hp53_71] at h
    refine hp_arrSame (fun i hi => ?_) h
    rcases (show i = 0 ∨ i = 1 ∨ i = 2 ∨ i = 3 ∨ i = 4 ∨ i = 5 ∨ i = 6 ∨ i = 7 ∨ i = 8 ∨ i = 9 ∨ i = 10 ∨ i = 11 ∨ i = 12 ∨ i = 13 ∨ i = 14 ∨ i = 15 ∨ i = 16 by omega) with rfl | rfl | rfl | rfl | rfl | rfl | rfl | rfl | rfl | rfl | rfl | rfl | rfl | rfl | rfl | rfl | rfl <;> rfl)
  obtain ⟨E54, e54⟩ : ∃ F, F = va_up E53 71 (.inl (cy 15, 17, .inr (.inr (.inr (.inr (fun i => some (z + hprf 71 i))))))) := ⟨_, rfl⟩
  rw [← e54] at hP
  have hO54 : ∀ j, j < 70 → E54 j = E0 j := fun j h => by rw [e54]; exact (hp_ne (by omega)).trans (hO53 j h)
  have hp54_70 : E54 70 = .inr (4, [.ref (z + 71), .int (hpI 0), .int (hpI 0), .int (hpI 0), .int (hpI 0), .int (hpI 0), .int (hpI 0), .int (hpI 0), .int (hpI 0)]) := by rw [e54, hp_ne (by decide)]; exact hp53_70
  have hp54_71 : E54 71 = .inl (cy 15, 17, .inr (.inr (.inr (.inr (fun i => some (z + hprf 71 i)))))) := by rw [e54, hp_at]
  have hD54 : ∀ j, 70 < j → j < 123 → j ≠ 71 → E54 j = hpE z cy j (hp0 j) := fun j h1 h2 hn71 => by
    rw [e54, hp_ne (by omega)]; exact hD53 j h1 (by omega) hn71
  have hD55 : ∀ j, 70 < j → j < 123 → E54 j = hpE z cy j (hp0 j) := fun j h1 h2 => by
    by_cases hn71 : j = 71
    · subst hn71; rw [hp54_71, ea_71]
    · exact hD54 j h1 h2 hn71
  refine lv_iinc (v := hpI 17) (lv' := [(1, .int (hpI 17)), (0, .ref (z + 70))]) C.1 C.2.1 dX4_init_34 hl (k := 0) rfl (by decide) (by decide) rfl (fun ls hl => ?_)
  refine lv_goto (tgt := 15) C.1 C.2.1 dX4_init_37 rfl ?_
  refine lv_iload_n C.1 C.2.1 dX4_init_15 rfl (lv_at hl 0 rfl) ?_
  refine lv_bipush (v := hpI 16) C.1 C.2.1 dX4_init_16 (by decide) ?_
  refine lv_icmp_gt (tgt := 40) C.1 C.2.1 dX4_init_18 rfl (fun hc => ?_) (fun hc => absurd (by decide) hc)
  refine W.vret C.1 C.2.1 hr (fun t ht _ => ⟨⟨rfl, E54, by rw [ht]; exact hP, hO54, fun j h1 h2 => ?_⟩, hS.F ht⟩) (fun q hq => hS.2.2 q hq) dX4_init_40 hk
  rcases Nat.lt_or_ge 70 j with h | h
  · exact hD55 j h h2
  · obtain rfl : j = 70 := by omega
    exact hp54_70.trans eo_70.symm
abbrev rK2 : Room := { frames := 2, cells := 6, slots := 170, locals := 40 }
set_option maxHeartbeats 4000000 in
set_option maxRecDepth 20000 in
theorem kX2_123 (l : Launch) (D : va_G) (cy : Nat → ClassId) (z : Nat) (E0 : Nat → va_E) (hE0 : E0 123 = .inr (2, [.null, .null, .int (hpI 0), .int (hpI 0), .int (hpI 0), .int (hpI 0)])) : hpK l D cy z yX2_init cX2_init 1 rK2 123 7 6 170 E0 := by
  refine hp_metX rfl (Nat.le_of_ble_eq_true rfl) (fun p e s m below meth c ls C A hr hk hnm h0 hl hP hS => ?_)
  have hO0 : ∀ j, j < 123 → E0 j = E0 j := fun _ _ => rfl
  have hD0 : ∀ j, 123 < j → j < 124 → E0 j = hpE z cy j (hp0 j) := fun j h1 h2 => by omega
  refine lv_aload_n C.1 C.2.1 dX2_init_0 rfl (lv_at hl 0 rfl) ?_
  refine W.objInit C.1 C.2.1 C.2.2.2.1 (C.2.2.2.2.1 _ wd_220) (C.2.2.2.2.1 _ wd_24) (C.2.2.2.2.1 _ wd_25) rfl (by rw [C.2.2.1]; exact hl.1) rfl dX2_init_1 (Nat.le_of_ble_eq_true rfl) (Nat.le_of_ble_eq_true rfl) ?_
  refine lv_aload_n C.1 C.2.1 dX2_init_4 rfl (lv_at hl 0 rfl) ?_
  refine n_size (n := 124) h0 rfl hS hP (fun hsz => ?_)
  refine n_new (fs := [.null, .null, .int (hpI 0), .int (hpI 0), .int (hpI 0)]) C O3 bl_3 wd_221 wd_147 wd_5 hP hS hsz (Nat.le_of_ble_eq_true rfl) (Nat.le_of_ble_eq_true rfl) dX2_init_5 (fun H hP hS => ?_)
  obtain ⟨E1, e1⟩ : ∃ F, F = va_up E0 124 (.inr (3, [.null, .null, .int (hpI 0), .int (hpI 0), .int (hpI 0)])) := ⟨_, rfl⟩
  rw [← e1] at hP
  have hO1 : ∀ j, j < 123 → E1 j = E0 j := fun j h => by rw [e1]; exact (hp_ne (by omega)).trans (hO0 j h)
  have hp1_123 : E1 123 = .inr (2, [.null, .null, .int (hpI 0), .int (hpI 0), .int (hpI 0), .int (hpI 0)]) := by rw [e1, hp_ne (by decide)]; exact hE0
  have hp1_124 : E1 124 = .inr (3, [.null, .null, .int (hpI 0), .int (hpI 0), .int (hpI 0)]) := by rw [e1, hp_at]
  have hD1 : ∀ j, 123 < j → j < 125 → j ≠ 124 → E1 j = hpE z cy j (hp0 j) := fun j h1 h2 hn124 => by
    rw [e1, hp_ne (by omega)]; exact hD0 j h1 (by omega)
  refine lv_dup C.1 C.2.1 dX2_init_8 rfl ?_
  refine n_size (n := 125) h0 rfl hS hP (fun hsz => ?_)
  refine n_ctorN C A yk_3 nw_222 (kX3_124 l D cy z _ hp1_124) hl hP hS hsz ⟨rfl, rfl, Nat.le_of_ble_eq_true rfl, Nat.le_of_ble_eq_true rfl⟩ ⟨Nat.le_of_ble_eq_true rfl, Nat.le_of_ble_eq_true rfl⟩ (Nat.le_of_ble_eq_true rfl) dX2_init_9 (fun H locs E2 hP hS hj2 hi2 => ?_)
  have hO2 : ∀ j, j < 123 → E2 j = E0 j := fun j h => (hj2 j (by omega)).trans (hO1 j h)
  have hp2_123 : E2 123 = .inr (2, [.null, .null, .int (hpI 0), .int (hpI 0), .int (hpI 0), .int (hpI 0)]) := (hj2 123 (by decide)).trans hp1_123
  have hD2 : ∀ j, 123 < j → j < 127 → E2 j = hpE z cy j (hp0 j) := fun j h1 h2 => by
    rcases Nat.lt_or_ge j 124 with h | h
    · exact (hj2 j h).trans (hD1 j h1 (by omega) (by omega))
    · exact hi2 j h h2
  refine n_putF (fs' := [.ref (z + 124), .null, .int (hpI 0), .int (hpI 0), .int (hpI 0), .int (hpI 0)]) C O2 0 (by decide) hp2_123 (by decide) rfl hnm rfl wd_223 rfl rfl (Nat.le_of_ble_eq_true rfl) rfl hP hS dX2_init_12 (fun H locs hP hS => ?_)
  obtain ⟨E3, e3⟩ : ∃ F, F = va_up E2 123 (.inr (2, [.ref (z + 124), .null, .int (hpI 0), .int (hpI 0), .int (hpI 0), .int (hpI 0)])) := ⟨_, rfl⟩
  rw [← e3] at hP
  have hO3 : ∀ j, j < 123 → E3 j = E0 j := fun j h => by rw [e3]; exact (hp_ne (by omega)).trans (hO2 j h)
  have hp3_123 : E3 123 = .inr (2, [.ref (z + 124), .null, .int (hpI 0), .int (hpI 0), .int (hpI 0), .int (hpI 0)]) := by rw [e3, hp_at]
  have hD3 : ∀ j, 123 < j → j < 127 → E3 j = hpE z cy j (hp0 j) := fun j h1 h2 => by
    rw [e3, hp_ne (by omega)]; exact hD2 j h1 (by omega)
  refine lv_aload_n C.1 C.2.1 dX2_init_15 rfl (lv_at hl 0 rfl) ?_
  refine n_size (n := 127) h0 rfl hS hP (fun hsz => ?_)
  refine n_new (fs := [.null, .null, .int (hpI 0), .int (hpI 0), .int (hpI 0)]) C O3 bl_3 wd_221 wd_147 wd_5 hP hS hsz (Nat.le_of_ble_eq_true rfl) (Nat.le_of_ble_eq_true rfl) dX2_init_16 (fun H hP hS => ?_)
  obtain ⟨E4, e4⟩ : ∃ F, F = va_up E3 127 (.inr (3, [.null, .null, .int (hpI 0), .int (hpI 0), .int (hpI 0)])) := ⟨_, rfl⟩
  rw [← e4] at hP
  have hO4 : ∀ j, j < 123 → E4 j = E0 j := fun j h => by rw [e4]; exact (hp_ne (by omega)).trans (hO3 j h)
  have hp4_123 : E4 123 = .inr (2, [.ref (z + 124), .null, .int (hpI 0), .int (hpI 0), .int (hpI 0), .int (hpI 0)]) := by rw [e4, hp_ne (by decide)]; exact hp3_123
  have hp4_127 : E4 127 = .inr (3, [.null, .null, .int (hpI 0), .int (hpI 0), .int (hpI 0)]) := by rw [e4, hp_at]
  have hD4 : ∀ j, 123 < j → j < 128 → j ≠ 127 → E4 j = hpE z cy j (hp0 j) := fun j h1 h2 hn127 => by
    rw [e4, hp_ne (by omega)]; exact hD3 j h1 (by omega)
  refine lv_dup C.1 C.2.1 dX2_init_19 rfl ?_
  refine n_size (n := 128) h0 rfl hS hP (fun hsz => ?_)
  refine n_ctorN C A yk_3 nw_222 (kX3_127 l D cy z _ hp4_127) hl hP hS hsz ⟨rfl, rfl, Nat.le_of_ble_eq_true rfl, Nat.le_of_ble_eq_true rfl⟩ ⟨Nat.le_of_ble_eq_true rfl, Nat.le_of_ble_eq_true rfl⟩ (Nat.le_of_ble_eq_true rfl) dX2_init_20 (fun H locs E5 hP hS hj5 hi5 => ?_)
  have hO5 : ∀ j, j < 123 → E5 j = E0 j := fun j h => (hj5 j (by omega)).trans (hO4 j h)
  have hp5_123 : E5 123 = .inr (2, [.ref (z + 124), .null, .int (hpI 0), .int (hpI 0), .int (hpI 0), .int (hpI 0)]) := (hj5 123 (by decide)).trans hp4_123
  have hD5 : ∀ j, 123 < j → j < 130 → E5 j = hpE z cy j (hp0 j) := fun j h1 h2 => by
    rcases Nat.lt_or_ge j 127 with h | h
    · exact (hj5 j h).trans (hD4 j h1 (by omega) (by omega))
    · exact hi5 j h h2
  refine n_putF (fs' := [.ref (z + 124), .ref (z + 127), .int (hpI 0), .int (hpI 0), .int (hpI 0), .int (hpI 0)]) C O2 1 (by decide) hp5_123 (by decide) rfl hnm rfl wd_224 rfl rfl (Nat.le_of_ble_eq_true rfl) rfl hP hS dX2_init_23 (fun H locs hP hS => ?_)
  obtain ⟨E6, e6⟩ : ∃ F, F = va_up E5 123 (.inr (2, [.ref (z + 124), .ref (z + 127), .int (hpI 0), .int (hpI 0), .int (hpI 0), .int (hpI 0)])) := ⟨_, rfl⟩
  rw [← e6] at hP
  have hO6 : ∀ j, j < 123 → E6 j = E0 j := fun j h => by rw [e6]; exact (hp_ne (by omega)).trans (hO5 j h)
  have hp6_123 : E6 123 = .inr (2, [.ref (z + 124), .ref (z + 127), .int (hpI 0), .int (hpI 0), .int (hpI 0), .int (hpI 0)]) := by rw [e6, hp_at]
  have hD6 : ∀ j, 123 < j → j < 130 → E6 j = hpE z cy j (hp0 j) := fun j h1 h2 => by
    rw [e6, hp_ne (by omega)]; exact hD5 j h1 (by omega)
  refine W.vret C.1 C.2.1 hr (fun t ht _ => ⟨⟨rfl, E6, by rw [ht]; exact hP, hO6, fun j h1 h2 => ?_⟩, hS.F ht⟩) (fun q hq => hS.2.2 q hq) dX2_init_26 hk
  rcases Nat.lt_or_ge 123 j with h | h
  · exact hD6 j h h2
  · obtain rfl : j = 123 := by omega
    exact hp6_123.trans eo_123.symm
abbrev rK0 : Room := { frames := 2, cells := 10, slots := 909, locals := 40 }
set_option maxHeartbeats 4000000 in
set_option maxRecDepth 20000 in
theorem kX0_130 (l : Launch) (D : va_G) (cy : Nat → ClassId) (z : Nat) (E0 : Nat → va_E) (hE0 : E0 130 = .inr (0, [.null, .null, .null, .null, .null, .null, .null, .null, .int (hpI 0), .int (hpI 0), .int (hpI 0), .int (hpI 0), .int (hpI 0), .int (hpI 0), .int (hpI 0)])) : hpK l D cy z yX0_init cX0_init 1 rK0 130 11 10 909 E0 := by
  refine hp_metX rfl (Nat.le_of_ble_eq_true rfl) (fun p e s m below meth c ls C A hr hk hnm h0 hl hP hS => ?_)
  have hO0 : ∀ j, j < 130 → E0 j = E0 j := fun _ _ => rfl
  have hD0 : ∀ j, 130 < j → j < 131 → E0 j = hpE z cy j (hp0 j) := fun j h1 h2 => by omega
  refine lv_aload_n C.1 C.2.1 dX0_init_0 rfl (lv_at hl 0 rfl) ?_
  refine W.objInit C.1 C.2.1 C.2.2.2.1 (C.2.2.2.2.1 _ wd_251) (C.2.2.2.2.1 _ wd_24) (C.2.2.2.2.1 _ wd_25) rfl (by rw [C.2.2.1]; exact hl.1) rfl dX0_init_1 (Nat.le_of_ble_eq_true rfl) (Nat.le_of_ble_eq_true rfl) ?_
  refine lv_aload_n C.1 C.2.1 dX0_init_4 rfl (lv_at hl 0 rfl) ?_
  refine lv_sipush (v := hpI 135) C.1 C.2.1 dX0_init_5 (by decide) ?_
  refine n_size (n := 131) h0 rfl hS hP (fun hsz => ?_)
  refine n_newa (atype := .long) (ci := 12) (t0 := 2) (a0 := (135, .inr (.inl (fun i => hpJ (hp0 131 i))))) C wd_305 rfl rfl (fun U h => h) (az_131) rfl (by decide) (Nat.le_of_ble_eq_true rfl) hP hS hsz (Nat.le_of_ble_eq_true rfl) (Nat.le_of_ble_eq_true rfl) dX0_init_8 (fun H hP hS => ?_)
  obtain ⟨E1, e1⟩ : ∃ F, F = va_up E0 131 (.inl (cy 12, 135, .inr (.inl (fun i => hpJ (hp0 131 i))))) := ⟨_, rfl⟩
  rw [← e1] at hP
  have hO1 : ∀ j, j < 130 → E1 j = E0 j := fun j h => by rw [e1]; exact (hp_ne (by omega)).trans (hO0 j h)
  have hp1_130 : E1 130 = .inr (0, [.null, .null, .null, .null, .null, .null, .null, .null, .int (hpI 0), .int (hpI 0), .int (hpI 0), .int (hpI 0), .int (hpI 0), .int (hpI 0), .int (hpI 0)]) := by rw [e1, hp_ne (by decide)]; exact hE0
  have hD1 : ∀ j, 130 < j → j < 132 → E1 j = hpE z cy j (hp0 j) := fun j h1 h2 => by
    rcases Nat.lt_or_ge j 131 with h | h
    · rw [e1, hp_ne (by omega)]; exact hD0 j h1 h
    · obtain rfl : j = 131 := by omega
      rw [e1, hp_at, ea_131]
  refine n_putF (fs' := [.ref (z + 131), .null, .null, .null, .null, .null, .null, .null, .int (hpI 0), .int (hpI 0), .int (hpI 0), .int (hpI 0), .int (hpI 0), .int (hpI 0), .int (hpI 0)]) C O0 0 (by decide) hp1_130 (by decide) rfl hnm rfl wd_254 rfl rfl (Nat.le_of_ble_eq_true rfl) rfl hP hS dX0_init_10 (fun H locs hP hS => ?_)
  obtain ⟨E2, e2⟩ : ∃ F, F = va_up E1 130 (.inr (0, [.ref (z + 131), .null, .null, .null, .null, .null, .null, .null, .int (hpI 0), .int (hpI 0), .int (hpI 0), .int (hpI 0), .int (hpI 0), .int (hpI 0), .int (hpI 0)])) := ⟨_, rfl⟩
  rw [← e2] at hP
  have hO2 : ∀ j, j < 130 → E2 j = E0 j := fun j h => by rw [e2]; exact (hp_ne (by omega)).trans (hO1 j h)
  have hp2_130 : E2 130 = .inr (0, [.ref (z + 131), .null, .null, .null, .null, .null, .null, .null, .int (hpI 0), .int (hpI 0), .int (hpI 0), .int (hpI 0), .int (hpI 0), .int (hpI 0), .int (hpI 0)]) := by rw [e2, hp_at]
  have hD2 : ∀ j, 130 < j → j < 132 → E2 j = hpE z cy j (hp0 j) := fun j h1 h2 => by
    rw [e2, hp_ne (by omega)]; exact hD1 j h1 (by omega)
  refine lv_aload_n C.1 C.2.1 dX0_init_13 rfl (lv_at hl 0 rfl) ?_
  refine lv_sipush (v := hpI 135) C.1 C.2.1 dX0_init_14 (by decide) ?_
  refine n_size (n := 132) h0 rfl hS hP (fun hsz => ?_)
  refine n_newa (atype := .int) (ci := 11) (t0 := 1) (a0 := (135, .inl (fun i => hpI (hp0 132 i)))) C wd_135 rfl rfl (fun U h => h) (az_132) rfl (by decide) (Nat.le_of_ble_eq_true rfl) hP hS hsz (Nat.le_of_ble_eq_true rfl) (Nat.le_of_ble_eq_true rfl) dX0_init_17 (fun H hP hS => ?_)
  obtain ⟨E3, e3⟩ : ∃ F, F = va_up E2 132 (.inl (cy 11, 135, .inl (fun i => hpI (hp0 132 i)))) := ⟨_, rfl⟩
  rw [← e3] at hP
  have hO3 : ∀ j, j < 130 → E3 j = E0 j := fun j h => by rw [e3]; exact (hp_ne (by omega)).trans (hO2 j h)
  have hp3_130 : E3 130 = .inr (0, [.ref (z + 131), .null, .null, .null, .null, .null, .null, .null, .int (hpI 0), .int (hpI 0), .int (hpI 0), .int (hpI 0), .int (hpI 0), .int (hpI 0), .int (hpI 0)]) := by rw [e3, hp_ne (by decide)]; exact hp2_130
  have hD3 : ∀ j, 130 < j → j < 133 → E3 j = hpE z cy j (hp0 j) := fun j h1 h2 => by
    rcases Nat.lt_or_ge j 132 with h | h
    · rw [e3, hp_ne (by omega)]; exact hD2 j h1 h
    · obtain rfl : j = 132 := by omega
      rw [e3, hp_at, ea_132]
  refine n_putF (fs' := [.ref (z + 131), .ref (z + 132), .null, .null, .null, .null, .null, .null, .int (hpI 0), .int (hpI 0), .int (hpI 0), .int (hpI 0), .int (hpI 0), .int (hpI 0), .int (hpI 0)]) C O0 1 (by decide) hp3_130 (by decide) rfl hnm rfl wd_255 rfl rfl (Nat.le_of_ble_eq_true rfl) rfl hP hS dX0_init_19 (fun H locs hP hS => ?_)
  obtain ⟨E4, e4⟩ : ∃ F, F = va_up E3 130 (.inr (0, [.ref (z + 131), .ref (z + 132), .null, .null, .null, .null, .null, .null, .int (hpI 0), .int (hpI 0), .int (hpI 0), .int (hpI 0), .int (hpI 0), .int (hpI 0), .int (hpI 0)])) := ⟨_, rfl⟩
  rw [← e4] at hP
  have hO4 : ∀ j, j < 130 → E4 j = E0 j := fun j h => by rw [e4]; exact (hp_ne (by omega)).trans (hO3 j h)
  have hp4_130 : E4 130 = .inr (0, [.ref (z + 131), .ref (z + 132), .null, .null, .null, .null, .null, .null, .int (hpI 0), .int (hpI 0), .int (hpI 0), .int (hpI 0), .int (hpI 0), .int (hpI 0), .int (hpI 0)]) := by rw [e4, hp_at]
  have hD4 : ∀ j, 130 < j → j < 133 → E4 j = hpE z cy j (hp0 j) := fun j h1 h2 => by
    rw [e4, hp_ne (by omega)]; exact hD3 j h1 (by omega)
  refine lv_aload_n C.1 C.2.1 dX0_init_22 rfl (lv_at hl 0 rfl) ?_
  refine lv_sipush (v := hpI 135) C.1 C.2.1 dX0_init_23 (by decide) ?_
  refine n_size (n := 133) h0 rfl hS hP (fun hsz => ?_)
  refine n_newa (atype := .int) (ci := 11) (t0 := 1) (a0 := (135, .inl (fun i => hpI (hp0 133 i)))) C wd_135 rfl rfl (fun U h => h) (az_133) rfl (by decide) (Nat.le_of_ble_eq_true rfl) hP hS hsz (Nat.le_of_ble_eq_true rfl) (Nat.le_of_ble_eq_true rfl) dX0_init_26 (fun H hP hS => ?_)
  obtain ⟨E5, e5⟩ : ∃ F, F = va_up E4 133 (.inl (cy 11, 135, .inl (fun i => hpI (hp0 133 i)))) := ⟨_, rfl⟩
  rw [← e5] at hP
  have hO5 : ∀ j, j < 130 → E5 j = E0 j := fun j h => by rw [e5]; exact (hp_ne (by omega)).trans (hO4 j h)
  have hp5_130 : E5 130 = .inr (0, [.ref (z + 131), .ref (z + 132), .null, .null, .null, .null, .null, .null, .int (hpI 0), .int (hpI 0), .int (hpI 0), .int (hpI 0), .int (hpI 0), .int (hpI 0), .int (hpI 0)]) := by rw [e5, hp_ne (by decide)]; exact hp4_130
  have hD5 : ∀ j, 130 < j → j < 134 → E5 j = hpE z cy j (hp0 j) := fun j h1 h2 => by
    rcases Nat.lt_or_ge j 133 with h | h
    · rw [e5, hp_ne (by omega)]; exact hD4 j h1 h
    · obtain rfl : j = 133 := by omega
      rw [e5, hp_at, ea_133]
  refine n_putF (fs' := [.ref (z + 131), .ref (z + 132), .ref (z + 133), .null, .null, .null, .null, .null, .int (hpI 0), .int (hpI 0), .int (hpI 0), .int (hpI 0), .int (hpI 0), .int (hpI 0), .int (hpI 0)]) C O0 2 (by decide) hp5_130 (by decide) rfl hnm rfl wd_256 rfl rfl (Nat.le_of_ble_eq_true rfl) rfl hP hS dX0_init_28 (fun H locs hP hS => ?_)
  obtain ⟨E6, e6⟩ : ∃ F, F = va_up E5 130 (.inr (0, [.ref (z + 131), .ref (z + 132), .ref (z + 133), .null, .null, .null, .null, .null, .int (hpI 0), .int (hpI 0), .int (hpI 0), .int (hpI 0), .int (hpI 0), .int (hpI 0), .int (hpI 0)])) := ⟨_, rfl⟩
  rw [← e6] at hP
  have hO6 : ∀ j, j < 130 → E6 j = E0 j := fun j h => by rw [e6]; exact (hp_ne (by omega)).trans (hO5 j h)
  have hp6_130 : E6 130 = .inr (0, [.ref (z + 131), .ref (z + 132), .ref (z + 133), .null, .null, .null, .null, .null, .int (hpI 0), .int (hpI 0), .int (hpI 0), .int (hpI 0), .int (hpI 0), .int (hpI 0), .int (hpI 0)]) := by rw [e6, hp_at]
  have hD6 : ∀ j, 130 < j → j < 134 → E6 j = hpE z cy j (hp0 j) := fun j h1 h2 => by
    rw [e6, hp_ne (by omega)]; exact hD5 j h1 (by omega)
  refine lv_aload_n C.1 C.2.1 dX0_init_31 rfl (lv_at hl 0 rfl) ?_
  refine lv_sipush (v := hpI 135) C.1 C.2.1 dX0_init_32 (by decide) ?_
  refine n_size (n := 134) h0 rfl hS hP (fun hsz => ?_)
  refine n_newa (atype := .int) (ci := 11) (t0 := 1) (a0 := (135, .inl (fun i => hpI (hp0 134 i)))) C wd_135 rfl rfl (fun U h => h) (az_134) rfl (by decide) (Nat.le_of_ble_eq_true rfl) hP hS hsz (Nat.le_of_ble_eq_true rfl) (Nat.le_of_ble_eq_true rfl) dX0_init_35 (fun H hP hS => ?_)
  obtain ⟨E7, e7⟩ : ∃ F, F = va_up E6 134 (.inl (cy 11, 135, .inl (fun i => hpI (hp0 134 i)))) := ⟨_, rfl⟩
  rw [← e7] at hP
  have hO7 : ∀ j, j < 130 → E7 j = E0 j := fun j h => by rw [e7]; exact (hp_ne (by omega)).trans (hO6 j h)
  have hp7_130 : E7 130 = .inr (0, [.ref (z + 131), .ref (z + 132), .ref (z + 133), .null, .null, .null, .null, .null, .int (hpI 0), .int (hpI 0), .int (hpI 0), .int (hpI 0), .int (hpI 0), .int (hpI 0), .int (hpI 0)]) := by rw [e7, hp_ne (by decide)]; exact hp6_130
  have hD7 : ∀ j, 130 < j → j < 135 → E7 j = hpE z cy j (hp0 j) := fun j h1 h2 => by
    rcases Nat.lt_or_ge j 134 with h | h
    · rw [e7, hp_ne (by omega)]; exact hD6 j h1 h
    · obtain rfl : j = 134 := by omega
      rw [e7, hp_at, ea_134]
  refine n_putF (fs' := [.ref (z + 131), .ref (z + 132), .ref (z + 133), .ref (z + 134), .null, .null, .null, .null, .int (hpI 0), .int (hpI 0), .int (hpI 0), .int (hpI 0), .int (hpI 0), .int (hpI 0), .int (hpI 0)]) C O0 3 (by decide) hp7_130 (by decide) rfl hnm rfl wd_257 rfl rfl (Nat.le_of_ble_eq_true rfl) rfl hP hS dX0_init_37 (fun H locs hP hS => ?_)
  obtain ⟨E8, e8⟩ : ∃ F, F = va_up E7 130 (.inr (0, [.ref (z + 131), .ref (z + 132), .ref (z + 133), .ref (z + 134), .null, .null, .null, .null, .int (hpI 0), .int (hpI 0), .int (hpI 0), .int (hpI 0), .int (hpI 0), .int (hpI 0), .int (hpI 0)])) := ⟨_, rfl⟩
  rw [← e8] at hP
  have hO8 : ∀ j, j < 130 → E8 j = E0 j := fun j h => by rw [e8]; exact (hp_ne (by omega)).trans (hO7 j h)
  have hp8_130 : E8 130 = .inr (0, [.ref (z + 131), .ref (z + 132), .ref (z + 133), .ref (z + 134), .null, .null, .null, .null, .int (hpI 0), .int (hpI 0), .int (hpI 0), .int (hpI 0), .int (hpI 0), .int (hpI 0), .int (hpI 0)]) := by rw [e8, hp_at]
  have hD8 : ∀ j, 130 < j → j < 135 → E8 j = hpE z cy j (hp0 j) := fun j h1 h2 => by
    rw [e8, hp_ne (by omega)]; exact hD7 j h1 (by omega)
  refine lv_aload_n C.1 C.2.1 dX0_init_40 rfl (lv_at hl 0 rfl) ?_
  refine lv_sipush (v := hpI 135) C.1 C.2.1 dX0_init_41 (by decide) ?_
  refine n_size (n := 135) h0 rfl hS hP (fun hsz => ?_)
  refine n_newa (atype := .int) (ci := 11) (t0 := 1) (a0 := (135, .inl (fun i => hpI (hp0 135 i)))) C wd_135 rfl rfl (fun U h => h) (az_135) rfl (by decide) (Nat.le_of_ble_eq_true rfl) hP hS hsz (Nat.le_of_ble_eq_true rfl) (Nat.le_of_ble_eq_true rfl) dX0_init_44 (fun H hP hS => ?_)
  obtain ⟨E9, e9⟩ : ∃ F, F = va_up E8 135 (.inl (cy 11, 135, .inl (fun i => hpI (hp0 135 i)))) := ⟨_, rfl⟩
  rw [← e9] at hP
  have hO9 : ∀ j, j < 130 → E9 j = E0 j := fun j h => by rw [e9]; exact (hp_ne (by omega)).trans (hO8 j h)
  have hp9_130 : E9 130 = .inr (0, [.ref (z + 131), .ref (z + 132), .ref (z + 133), .ref (z + 134), .null, .null, .null, .null, .int (hpI 0), .int (hpI 0), .int (hpI 0), .int (hpI 0), .int (hpI 0), .int (hpI 0), .int (hpI 0)]) := by rw [e9, hp_ne (by decide)]; exact hp8_130
  have hD9 : ∀ j, 130 < j → j < 136 → E9 j = hpE z cy j (hp0 j) := fun j h1 h2 => by
    rcases Nat.lt_or_ge j 135 with h | h
    · rw [e9, hp_ne (by omega)]; exact hD8 j h1 h
    · obtain rfl : j = 135 := by omega
      rw [e9, hp_at, ea_135]
  refine n_putF (fs' := [.ref (z + 131), .ref (z + 132), .ref (z + 133), .ref (z + 134), .ref (z + 135), .null, .null, .null, .int (hpI 0), .int (hpI 0), .int (hpI 0), .int (hpI 0), .int (hpI 0), .int (hpI 0), .int (hpI 0)]) C O0 4 (by decide) hp9_130 (by decide) rfl hnm rfl wd_258 rfl rfl (Nat.le_of_ble_eq_true rfl) rfl hP hS dX0_init_46 (fun H locs hP hS => ?_)
  obtain ⟨E10, e10⟩ : ∃ F, F = va_up E9 130 (.inr (0, [.ref (z + 131), .ref (z + 132), .ref (z + 133), .ref (z + 134), .ref (z + 135), .null, .null, .null, .int (hpI 0), .int (hpI 0), .int (hpI 0), .int (hpI 0), .int (hpI 0), .int (hpI 0), .int (hpI 0)])) := ⟨_, rfl⟩
  rw [← e10] at hP
  have hO10 : ∀ j, j < 130 → E10 j = E0 j := fun j h => by rw [e10]; exact (hp_ne (by omega)).trans (hO9 j h)
  have hp10_130 : E10 130 = .inr (0, [.ref (z + 131), .ref (z + 132), .ref (z + 133), .ref (z + 134), .ref (z + 135), .null, .null, .null, .int (hpI 0), .int (hpI 0), .int (hpI 0), .int (hpI 0), .int (hpI 0), .int (hpI 0), .int (hpI 0)]) := by rw [e10, hp_at]
  have hD10 : ∀ j, 130 < j → j < 136 → E10 j = hpE z cy j (hp0 j) := fun j h1 h2 => by
    rw [e10, hp_ne (by omega)]; exact hD9 j h1 (by omega)
  refine lv_aload_n C.1 C.2.1 dX0_init_49 rfl (lv_at hl 0 rfl) ?_
  refine lv_sipush (v := hpI 135) C.1 C.2.1 dX0_init_50 (by decide) ?_
  refine n_size (n := 136) h0 rfl hS hP (fun hsz => ?_)
  refine n_newa (atype := .int) (ci := 11) (t0 := 1) (a0 := (135, .inl (fun i => hpI (hp0 136 i)))) C wd_135 rfl rfl (fun U h => h) (az_136) rfl (by decide) (Nat.le_of_ble_eq_true rfl) hP hS hsz (Nat.le_of_ble_eq_true rfl) (Nat.le_of_ble_eq_true rfl) dX0_init_53 (fun H hP hS => ?_)
  obtain ⟨E11, e11⟩ : ∃ F, F = va_up E10 136 (.inl (cy 11, 135, .inl (fun i => hpI (hp0 136 i)))) := ⟨_, rfl⟩
  rw [← e11] at hP
  have hO11 : ∀ j, j < 130 → E11 j = E0 j := fun j h => by rw [e11]; exact (hp_ne (by omega)).trans (hO10 j h)
  have hp11_130 : E11 130 = .inr (0, [.ref (z + 131), .ref (z + 132), .ref (z + 133), .ref (z + 134), .ref (z + 135), .null, .null, .null, .int (hpI 0), .int (hpI 0), .int (hpI 0), .int (hpI 0), .int (hpI 0), .int (hpI 0), .int (hpI 0)]) := by rw [e11, hp_ne (by decide)]; exact hp10_130
  have hD11 : ∀ j, 130 < j → j < 137 → E11 j = hpE z cy j (hp0 j) := fun j h1 h2 => by
    rcases Nat.lt_or_ge j 136 with h | h
    · rw [e11, hp_ne (by omega)]; exact hD10 j h1 h
    · obtain rfl : j = 136 := by omega
      rw [e11, hp_at, ea_136]
  refine n_putF (fs' := [.ref (z + 131), .ref (z + 132), .ref (z + 133), .ref (z + 134), .ref (z + 135), .ref (z + 136), .null, .null, .int (hpI 0), .int (hpI 0), .int (hpI 0), .int (hpI 0), .int (hpI 0), .int (hpI 0), .int (hpI 0)]) C O0 5 (by decide) hp11_130 (by decide) rfl hnm rfl wd_259 rfl rfl (Nat.le_of_ble_eq_true rfl) rfl hP hS dX0_init_55 (fun H locs hP hS => ?_)
  obtain ⟨E12, e12⟩ : ∃ F, F = va_up E11 130 (.inr (0, [.ref (z + 131), .ref (z + 132), .ref (z + 133), .ref (z + 134), .ref (z + 135), .ref (z + 136), .null, .null, .int (hpI 0), .int (hpI 0), .int (hpI 0), .int (hpI 0), .int (hpI 0), .int (hpI 0), .int (hpI 0)])) := ⟨_, rfl⟩
  rw [← e12] at hP
  have hO12 : ∀ j, j < 130 → E12 j = E0 j := fun j h => by rw [e12]; exact (hp_ne (by omega)).trans (hO11 j h)
  have hp12_130 : E12 130 = .inr (0, [.ref (z + 131), .ref (z + 132), .ref (z + 133), .ref (z + 134), .ref (z + 135), .ref (z + 136), .null, .null, .int (hpI 0), .int (hpI 0), .int (hpI 0), .int (hpI 0), .int (hpI 0), .int (hpI 0), .int (hpI 0)]) := by rw [e12, hp_at]
  have hD12 : ∀ j, 130 < j → j < 137 → E12 j = hpE z cy j (hp0 j) := fun j h1 h2 => by
    rw [e12, hp_ne (by omega)]; exact hD11 j h1 (by omega)
  refine lv_aload_n C.1 C.2.1 dX0_init_58 rfl (lv_at hl 0 rfl) ?_
  refine lv_bipush (v := hpI 14) C.1 C.2.1 dX0_init_59 (by decide) ?_
  refine n_size (n := 137) h0 rfl hS hP (fun hsz => ?_)
  refine n_newa (atype := .int) (ci := 11) (t0 := 1) (a0 := (14, .inl (fun i => hpI (hp0 137 i)))) C wd_135 rfl rfl (fun U h => h) (az_137) rfl (by decide) (Nat.le_of_ble_eq_true rfl) hP hS hsz (Nat.le_of_ble_eq_true rfl) (Nat.le_of_ble_eq_true rfl) dX0_init_61 (fun H hP hS => ?_)
  obtain ⟨E13, e13⟩ : ∃ F, F = va_up E12 137 (.inl (cy 11, 14, .inl (fun i => hpI (hp0 137 i)))) := ⟨_, rfl⟩
  rw [← e13] at hP
  have hO13 : ∀ j, j < 130 → E13 j = E0 j := fun j h => by rw [e13]; exact (hp_ne (by omega)).trans (hO12 j h)
  have hp13_130 : E13 130 = .inr (0, [.ref (z + 131), .ref (z + 132), .ref (z + 133), .ref (z + 134), .ref (z + 135), .ref (z + 136), .null, .null, .int (hpI 0), .int (hpI 0), .int (hpI 0), .int (hpI 0), .int (hpI 0), .int (hpI 0), .int (hpI 0)]) := by rw [e13, hp_ne (by decide)]; exact hp12_130
  have hD13 : ∀ j, 130 < j → j < 138 → E13 j = hpE z cy j (hp0 j) := fun j h1 h2 => by
    rcases Nat.lt_or_ge j 137 with h | h
    · rw [e13, hp_ne (by omega)]; exact hD12 j h1 h
    · obtain rfl : j = 137 := by omega
      rw [e13, hp_at, ea_137]
  refine n_putF (fs' := [.ref (z + 131), .ref (z + 132), .ref (z + 133), .ref (z + 134), .ref (z + 135), .ref (z + 136), .ref (z + 137), .null, .int (hpI 0), .int (hpI 0), .int (hpI 0), .int (hpI 0), .int (hpI 0), .int (hpI 0), .int (hpI 0)]) C O0 6 (by decide) hp13_130 (by decide) rfl hnm rfl wd_260 rfl rfl (Nat.le_of_ble_eq_true rfl) rfl hP hS dX0_init_63 (fun H locs hP hS => ?_)
  obtain ⟨E14, e14⟩ : ∃ F, F = va_up E13 130 (.inr (0, [.ref (z + 131), .ref (z + 132), .ref (z + 133), .ref (z + 134), .ref (z + 135), .ref (z + 136), .ref (z + 137), .null, .int (hpI 0), .int (hpI 0), .int (hpI 0), .int (hpI 0), .int (hpI 0), .int (hpI 0), .int (hpI 0)])) := ⟨_, rfl⟩
  rw [← e14] at hP
  have hO14 : ∀ j, j < 130 → E14 j = E0 j := fun j h => by rw [e14]; exact (hp_ne (by omega)).trans (hO13 j h)
  have hp14_130 : E14 130 = .inr (0, [.ref (z + 131), .ref (z + 132), .ref (z + 133), .ref (z + 134), .ref (z + 135), .ref (z + 136), .ref (z + 137), .null, .int (hpI 0), .int (hpI 0), .int (hpI 0), .int (hpI 0), .int (hpI 0), .int (hpI 0), .int (hpI 0)]) := by rw [e14, hp_at]
  have hD14 : ∀ j, 130 < j → j < 138 → E14 j = hpE z cy j (hp0 j) := fun j h1 h2 => by
    rw [e14, hp_ne (by omega)]; exact hD13 j h1 (by omega)
  refine lv_aload_n C.1 C.2.1 dX0_init_66 rfl (lv_at hl 0 rfl) ?_
  refine n_size (n := 138) h0 rfl hS hP (fun hsz => ?_)
  refine n_new (fs := [.null, .null, .int (hpI 0), .int (hpI 0), .int (hpI 0)]) C O3 bl_3 wd_252 wd_147 wd_5 hP hS hsz (Nat.le_of_ble_eq_true rfl) (Nat.le_of_ble_eq_true rfl) dX0_init_67 (fun H hP hS => ?_)
  obtain ⟨E15, e15⟩ : ∃ F, F = va_up E14 138 (.inr (3, [.null, .null, .int (hpI 0), .int (hpI 0), .int (hpI 0)])) := ⟨_, rfl⟩
  rw [← e15] at hP
  have hO15 : ∀ j, j < 130 → E15 j = E0 j := fun j h => by rw [e15]; exact (hp_ne (by omega)).trans (hO14 j h)
  have hp15_130 : E15 130 = .inr (0, [.ref (z + 131), .ref (z + 132), .ref (z + 133), .ref (z + 134), .ref (z + 135), .ref (z + 136), .ref (z + 137), .null, .int (hpI 0), .int (hpI 0), .int (hpI 0), .int (hpI 0), .int (hpI 0), .int (hpI 0), .int (hpI 0)]) := by rw [e15, hp_ne (by decide)]; exact hp14_130
  have hp15_138 : E15 138 = .inr (3, [.null, .null, .int (hpI 0), .int (hpI 0), .int (hpI 0)]) := by rw [e15, hp_at]
  have hD15 : ∀ j, 130 < j → j < 139 → j ≠ 138 → E15 j = hpE z cy j (hp0 j) := fun j h1 h2 hn138 => by
    rw [e15, hp_ne (by omega)]; exact hD14 j h1 (by omega)
  refine lv_dup C.1 C.2.1 dX0_init_70 rfl ?_
  refine n_size (n := 139) h0 rfl hS hP (fun hsz => ?_)
  refine n_ctorN C A yk_3 nw_253 (kX3_138 l D cy z _ hp15_138) hl hP hS hsz ⟨rfl, rfl, Nat.le_of_ble_eq_true rfl, Nat.le_of_ble_eq_true rfl⟩ ⟨Nat.le_of_ble_eq_true rfl, Nat.le_of_ble_eq_true rfl⟩ (Nat.le_of_ble_eq_true rfl) dX0_init_71 (fun H locs E16 hP hS hj16 hi16 => ?_)
  have hO16 : ∀ j, j < 130 → E16 j = E0 j := fun j h => (hj16 j (by omega)).trans (hO15 j h)
  have hp16_130 : E16 130 = .inr (0, [.ref (z + 131), .ref (z + 132), .ref (z + 133), .ref (z + 134), .ref (z + 135), .ref (z + 136), .ref (z + 137), .null, .int (hpI 0), .int (hpI 0), .int (hpI 0), .int (hpI 0), .int (hpI 0), .int (hpI 0), .int (hpI 0)]) := (hj16 130 (by decide)).trans hp15_130
  have hD16 : ∀ j, 130 < j → j < 141 → E16 j = hpE z cy j (hp0 j) := fun j h1 h2 => by
    rcases Nat.lt_or_ge j 138 with h | h
    · exact (hj16 j h).trans (hD15 j h1 (by omega) (by omega))
    · exact hi16 j h h2
  refine n_putF (fs' := [.ref (z + 131), .ref (z + 132), .ref (z + 133), .ref (z + 134), .ref (z + 135), .ref (z + 136), .ref (z + 137), .ref (z + 138), .int (hpI 0), .int (hpI 0), .int (hpI 0), .int (hpI 0), .int (hpI 0), .int (hpI 0), .int (hpI 0)]) C O0 7 (by decide) hp16_130 (by decide) rfl hnm rfl wd_261 rfl rfl (Nat.le_of_ble_eq_true rfl) rfl hP hS dX0_init_74 (fun H locs hP hS => ?_)
  obtain ⟨E17, e17⟩ : ∃ F, F = va_up E16 130 (.inr (0, [.ref (z + 131), .ref (z + 132), .ref (z + 133), .ref (z + 134), .ref (z + 135), .ref (z + 136), .ref (z + 137), .ref (z + 138), .int (hpI 0), .int (hpI 0), .int (hpI 0), .int (hpI 0), .int (hpI 0), .int (hpI 0), .int (hpI 0)])) := ⟨_, rfl⟩
  rw [← e17] at hP
  have hO17 : ∀ j, j < 130 → E17 j = E0 j := fun j h => by rw [e17]; exact (hp_ne (by omega)).trans (hO16 j h)
  have hp17_130 : E17 130 = .inr (0, [.ref (z + 131), .ref (z + 132), .ref (z + 133), .ref (z + 134), .ref (z + 135), .ref (z + 136), .ref (z + 137), .ref (z + 138), .int (hpI 0), .int (hpI 0), .int (hpI 0), .int (hpI 0), .int (hpI 0), .int (hpI 0), .int (hpI 0)]) := by rw [e17, hp_at]
  have hD17 : ∀ j, 130 < j → j < 141 → E17 j = hpE z cy j (hp0 j) := fun j h1 h2 => by
    rw [e17, hp_ne (by omega)]; exact hD16 j h1 (by omega)
  refine lv_aload_n C.1 C.2.1 dX0_init_77 rfl (lv_at hl 0 rfl) ?_
  refine lv_iconst (v := hpI (-1)) C.1 C.2.1 dX0_init_78 rfl ?_
  refine n_put (fs' := [.ref (z + 131), .ref (z + 132), .ref (z + 133), .ref (z + 134), .ref (z + 135), .ref (z + 136), .ref (z + 137), .ref (z + 138), .int (hpI 0), .int (hpI 0), .int (hpI 0), .int (hpI 0), .int (hpI 0), .int (hpI 0), .int (hpI (-1))]) C O0 14 (by decide) hp17_130 (by decide) rfl wd_273 rfl rfl (Nat.le_of_ble_eq_true rfl) rfl hP hS dX0_init_79 (fun H locs hP hS => ?_)
  obtain ⟨E18, e18⟩ : ∃ F, F = va_up E17 130 (.inr (0, [.ref (z + 131), .ref (z + 132), .ref (z + 133), .ref (z + 134), .ref (z + 135), .ref (z + 136), .ref (z + 137), .ref (z + 138), .int (hpI 0), .int (hpI 0), .int (hpI 0), .int (hpI 0), .int (hpI 0), .int (hpI 0), .int (hpI (-1))])) := ⟨_, rfl⟩
  rw [← e18] at hP
  have hO18 : ∀ j, j < 130 → E18 j = E0 j := fun j h => by rw [e18]; exact (hp_ne (by omega)).trans (hO17 j h)
  have hp18_130 : E18 130 = .inr (0, [.ref (z + 131), .ref (z + 132), .ref (z + 133), .ref (z + 134), .ref (z + 135), .ref (z + 136), .ref (z + 137), .ref (z + 138), .int (hpI 0), .int (hpI 0), .int (hpI 0), .int (hpI 0), .int (hpI 0), .int (hpI 0), .int (hpI (-1))]) := by rw [e18, hp_at]
  have hD18 : ∀ j, 130 < j → j < 141 → E18 j = hpE z cy j (hp0 j) := fun j h1 h2 => by
    rw [e18, hp_ne (by omega)]; exact hD17 j h1 (by omega)
  refine W.vret C.1 C.2.1 hr (fun t ht _ => ⟨⟨rfl, E18, by rw [ht]; exact hP, hO18, fun j h1 h2 => ?_⟩, hS.F ht⟩) (fun q hq => hS.2.2 q hq) dX0_init_82 hk
  rcases Nat.lt_or_ge 130 j with h | h
  · exact hD18 j h h2
  · obtain rfl : j = 130 := by omega
    exact hp18_130.trans eo_130.symm
abbrev rK5 : Room := { frames := 1, cells := 22, slots := 380, locals := 20 }
set_option maxHeartbeats 4000000 in
set_option maxRecDepth 20000 in
theorem kX5_141 (l : Launch) (D : va_G) (cy : Nat → ClassId) (z : Nat) (E0 : Nat → va_E) (hE0 : E0 141 = .inr (5, [.null, .null, .int (hpI 0)])) : hpK l D cy z yX5_init cX5_init 1 rK5 141 23 22 380 E0 := by
  refine hp_metX rfl (Nat.le_of_ble_eq_true rfl) (fun p e s m below meth c ls C A hr hk hnm h0 hl hP hS => ?_)
  have hO0 : ∀ j, j < 141 → E0 j = E0 j := fun _ _ => rfl
  have hD0 : ∀ j, 141 < j → j < 142 → E0 j = hpE z cy j (hp0 j) := fun j h1 h2 => by omega
  refine lv_aload_n C.1 C.2.1 dX5_init_0 rfl (lv_at hl 0 rfl) ?_
  refine W.objInit C.1 C.2.1 C.2.2.2.1 (C.2.2.2.2.1 _ wd_311) (C.2.2.2.2.1 _ wd_24) (C.2.2.2.2.1 _ wd_25) rfl (by rw [C.2.2.1]; exact hl.1) rfl dX5_init_1 (Nat.le_of_ble_eq_true rfl) (Nat.le_of_ble_eq_true rfl) ?_
  refine lv_aload_n C.1 C.2.1 dX5_init_4 rfl (lv_at hl 0 rfl) ?_
  refine lv_bipush (v := hpI 20) C.1 C.2.1 dX5_init_5 (by decide) ?_
  refine n_size (n := 142) h0 rfl hS hP (fun hsz => ?_)
  refine n_newa (atype := .int) (ci := 11) (t0 := 1) (a0 := (20, .inl (fun i => hpI (hp0 142 i)))) C wd_135 rfl rfl (fun U h => h) (az_142) rfl (by decide) (Nat.le_of_ble_eq_true rfl) hP hS hsz (Nat.le_of_ble_eq_true rfl) (Nat.le_of_ble_eq_true rfl) dX5_init_7 (fun H hP hS => ?_)
  obtain ⟨E1, e1⟩ : ∃ F, F = va_up E0 142 (.inl (cy 11, 20, .inl (fun i => hpI (hp0 142 i)))) := ⟨_, rfl⟩
  rw [← e1] at hP
  have hO1 : ∀ j, j < 141 → E1 j = E0 j := fun j h => by rw [e1]; exact (hp_ne (by omega)).trans (hO0 j h)
  have hp1_141 : E1 141 = .inr (5, [.null, .null, .int (hpI 0)]) := by rw [e1, hp_ne (by decide)]; exact hE0
  have hD1 : ∀ j, 141 < j → j < 143 → E1 j = hpE z cy j (hp0 j) := fun j h1 h2 => by
    rcases Nat.lt_or_ge j 142 with h | h
    · rw [e1, hp_ne (by omega)]; exact hD0 j h1 h
    · obtain rfl : j = 142 := by omega
      rw [e1, hp_at, ea_142]
  refine n_putF (fs' := [.ref (z + 142), .null, .int (hpI 0)]) C O5 0 (by decide) hp1_141 (by decide) rfl hnm rfl wd_314 rfl rfl (Nat.le_of_ble_eq_true rfl) rfl hP hS dX5_init_9 (fun H locs hP hS => ?_)
  obtain ⟨E2, e2⟩ : ∃ F, F = va_up E1 141 (.inr (5, [.ref (z + 142), .null, .int (hpI 0)])) := ⟨_, rfl⟩
  rw [← e2] at hP
  have hO2 : ∀ j, j < 141 → E2 j = E0 j := fun j h => by rw [e2]; exact (hp_ne (by omega)).trans (hO1 j h)
  have hp2_141 : E2 141 = .inr (5, [.ref (z + 142), .null, .int (hpI 0)]) := by rw [e2, hp_at]
  have hD2 : ∀ j, 141 < j → j < 143 → E2 j = hpE z cy j (hp0 j) := fun j h1 h2 => by
    rw [e2, hp_ne (by omega)]; exact hD1 j h1 (by omega)
  refine lv_aload_n C.1 C.2.1 dX5_init_12 rfl (lv_at hl 0 rfl) ?_
  refine lv_bipush (v := hpI 20) C.1 C.2.1 dX5_init_13 (by decide) ?_
  refine lv_bipush (v := hpI 17) C.1 C.2.1 dX5_init_15 (by decide) ?_
  refine n_size (n := 143) h0 rfl hS hP (fun hsz => ?_)
  refine n_mna C wd_312 (hpA_of (w := .arrayOver (.array .int)) 313 (by decide +kernel) rfl A) wd_135 hP hS hsz (Nat.le_of_ble_eq_true rfl) (Nat.le_of_ble_eq_true rfl) dX5_init_17 (fun H E3 hP hS hj3 ho3 hi3 => ?_)
  have hO3 : ∀ j, j < 141 → E3 j = E0 j := fun j h => (hj3 j (by omega)).trans (hO2 j h)
  have hD3 : ∀ j, 141 < j → j < 164 → E3 j = hpE z cy j (hp0 j) := fun j h1 h2 => by
    rcases Nat.lt_or_ge j 143 with h | h
    · exact (hj3 j h).trans (hD2 j h1 h)
    · rcases (show j = 143 ∨ j = 144 ∨ j = 145 ∨ j = 146 ∨ j = 147 ∨ j = 148 ∨ j = 149 ∨ j = 150 ∨ j = 151 ∨ j = 152 ∨ j = 153 ∨ j = 154 ∨ j = 155 ∨ j = 156 ∨ j = 157 ∨ j = 158 ∨ j = 159 ∨ j = 160 ∨ j = 161 ∨ j = 162 ∨ j = 163 by omega) with rfl | rfl | rfl | rfl | rfl | rfl | rfl | rfl | rfl | rfl | rfl | rfl | rfl | rfl | rfl | rfl | rfl | rfl | rfl | rfl | rfl
      · rw [ho3, ea_143]
      · rw [hi3 144 (by decide) (by decide), ei_144]
      · rw [hi3 145 (by decide) (by decide), ei_145]
      · rw [hi3 146 (by decide) (by decide), ei_146]
      · rw [hi3 147 (by decide) (by decide), ei_147]
      · rw [hi3 148 (by decide) (by decide), ei_148]
      · rw [hi3 149 (by decide) (by decide), ei_149]
      · rw [hi3 150 (by decide) (by decide), ei_150]
      · rw [hi3 151 (by decide) (by decide), ei_151]
      · rw [hi3 152 (by decide) (by decide), ei_152]
      · rw [hi3 153 (by decide) (by decide), ei_153]
      · rw [hi3 154 (by decide) (by decide), ei_154]
      · rw [hi3 155 (by decide) (by decide), ei_155]
      · rw [hi3 156 (by decide) (by decide), ei_156]
      · rw [hi3 157 (by decide) (by decide), ei_157]
      · rw [hi3 158 (by decide) (by decide), ei_158]
      · rw [hi3 159 (by decide) (by decide), ei_159]
      · rw [hi3 160 (by decide) (by decide), ei_160]
      · rw [hi3 161 (by decide) (by decide), ei_161]
      · rw [hi3 162 (by decide) (by decide), ei_162]
      · rw [hi3 163 (by decide) (by decide), ei_163]
  have hp3_141 : E3 141 = .inr (5, [.ref (z + 142), .null, .int (hpI 0)]) := (hj3 141 (by decide)).trans hp2_141
  refine n_putF (fs' := [.ref (z + 142), .ref (z + 143), .int (hpI 0)]) C O5 1 (by decide) hp3_141 (by decide) rfl hnm rfl wd_315 rfl rfl (Nat.le_of_ble_eq_true rfl) rfl hP hS dX5_init_21 (fun H locs hP hS => ?_)
  obtain ⟨E4, e4⟩ : ∃ F, F = va_up E3 141 (.inr (5, [.ref (z + 142), .ref (z + 143), .int (hpI 0)])) := ⟨_, rfl⟩
  rw [← e4] at hP
  have hO4 : ∀ j, j < 141 → E4 j = E0 j := fun j h => by rw [e4]; exact (hp_ne (by omega)).trans (hO3 j h)
  have hp4_141 : E4 141 = .inr (5, [.ref (z + 142), .ref (z + 143), .int (hpI 0)]) := by rw [e4, hp_at]
  have hD4 : ∀ j, 141 < j → j < 164 → E4 j = hpE z cy j (hp0 j) := fun j h1 h2 => by
    rw [e4, hp_ne (by omega)]; exact hD3 j h1 (by omega)
  refine W.vret C.1 C.2.1 hr (fun t ht _ => ⟨⟨rfl, E4, by rw [ht]; exact hP, hO4, fun j h1 h2 => ?_⟩, hS.F ht⟩) (fun q hq => hS.2.2 q hq) dX5_init_24 hk
  rcases Nat.lt_or_ge 141 j with h | h
  · exact hD4 j h h2
  · obtain rfl : j = 141 := by omega
    exact hp4_141.trans eo_141.symm

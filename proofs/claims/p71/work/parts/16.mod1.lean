abbrev rgX9_in : Room := { frames := 0, cells := 0, slots := 0, locals := 0 }
abbrev pgX9_in (z : Nat) (σ : hpMem) (a0 : Int) (a1 : Int) (a2 : Int) : Option Value → hpMem → Prop := fun r τ => (∃ x : Int, r = some (.int (hpI x)) ∧ (0 ≤ x ∧ x ≤ 1) ∧ ((a1 ≤ a0 ∧ a0 ≤ a2 ∧ x = 1) ∨ ((a0 < a1 ∨ a2 < a0) ∧ x = 0))) ∧ σ = τ
set_option maxHeartbeats 4000000 in
set_option maxRecDepth 20000 in
theorem tgX9_in (l : Launch) (D : va_G) (cy : Nat → ClassId) (z : Nat) (σ : hpMem) (a0 : Int) (ha0 : hpRL a0) (a1 : Int) (ha1 : hpRL a1) (a2 : Int) (ha2 : hpRL a2) (hI : hpInv σ) : hpM l D cy z yX9_in cX9_in 6 (some .boolean) rgX9_in [.long (hpJ a0), .long (hpJ a1), .long (hpJ a2)] σ (pgX9_in z σ a0 a1 a2) := by
  obtain ⟨ha01, ha02⟩ := ha0
  obtain ⟨ha11, ha12⟩ := ha1
  obtain ⟨ha21, ha22⟩ := ha2
  refine hp_met rfl (Nat.le_of_ble_eq_true rfl) (fun p e s m below meth c C Z hr hlk => ?_)
  refine h_lload_n C dX9_in_0 0 rfl rfl ?_
  refine h_lload_n C dX9_in_1 1 rfl rfl ?_
  refine h_lcmp C dX9_in_2 ⟨by omega, by omega⟩ ⟨by omega, by omega⟩ (fun r1 hr1 => ?_)
  refine h_if_lt (tgt := 17) C dX9_in_3 (by decide) ⟨by omega, by omega⟩ (fun h2 => ?_) (fun h2 => ?_)
  · refine h_iconst C dX9_in_17 ?_
    refine h_zreturn C (by omega) hr hlk dX9_in_18 ?_
    exact ⟨⟨_, rfl, ⟨by decide, by decide⟩, by omega⟩, rfl⟩
  · refine h_lload_n C dX9_in_6 0 rfl rfl ?_
    refine h_lload C dX9_in_7 2 rfl ?_
    refine h_lcmp C dX9_in_9 ⟨by omega, by omega⟩ ⟨by omega, by omega⟩ (fun r3 hr3 => ?_)
    refine h_if_gt (tgt := 17) C dX9_in_10 (by decide) ⟨by omega, by omega⟩ (fun h4 => ?_) (fun h4 => ?_)
    · refine h_iconst C dX9_in_17 ?_
      refine h_zreturn C (by omega) hr hlk dX9_in_18 ?_
      exact ⟨⟨_, rfl, ⟨by decide, by decide⟩, by omega⟩, rfl⟩
    · refine h_iconst C dX9_in_13 ?_
      refine h_goto (tgt := 18) C dX9_in_14 (by decide) ?_
      refine h_zreturn C (by omega) hr hlk dX9_in_18 ?_
      exact ⟨⟨_, rfl, ⟨by decide, by decide⟩, by omega⟩, rfl⟩
abbrev rgX9_bits : Room := { frames := 0, cells := 0, slots := 0, locals := 0 }
abbrev pgX9_bits (z : Nat) (σ : hpMem) (a0 : Int) : Option Value → hpMem → Prop := fun r τ => (∃ x : Int, r = some (.int (hpI x)) ∧ (hpR x) ∧ (0 ≤ x ∧ x ≤ 16)) ∧ σ = τ
set_option maxHeartbeats 4000000 in
set_option maxRecDepth 20000 in
theorem tgX9_bits (l : Launch) (D : va_G) (cy : Nat → ClassId) (z : Nat) (σ : hpMem) (a0 : Int) (ha0 : hpR a0) (hI : hpInv σ) : hpM l D cy z yX9_bits cX9_bits 3 (some .int) rgX9_bits [.int (hpI a0)] σ (pgX9_bits z σ a0) := by
  obtain ⟨ha01, ha02⟩ := ha0
  refine hp_met rfl (Nat.le_of_ble_eq_true rfl) (fun p e s m below meth c C Z hr hlk => ?_)
  refine h_iconst C dX9_bits_0 ?_
  refine h_istore_n (lv' := [(1, .int (hpI 0)), (0, .int (hpI a0))]) C dX9_bits_1 rfl (by decide) rfl ?_
  refine h_iconst C dX9_bits_2 ?_
  refine h_istore_n (lv' := [(2, .int (hpI 0)), (1, .int (hpI 0)), (0, .int (hpI a0))]) C dX9_bits_3 rfl (by decide) rfl ?_
  have L1 : ∀ (n1 : Nat) (w1_1 : Int) (w1_2 : Int), 0 ≤ w1_1 → w1_1 ≤ 16 → 0 ≤ w1_2 → w1_2 ≤ 16 → w1_1 ≤ w1_2 → (4294967296 - w1_2) < (n1 : Int) → hpF p l e rgX9_bits s m [.int (hpI a0)] below meth c 3 D cy z (pgX9_bits z σ a0) σ 4 [(0, .int (hpI a0)), (1, .int (hpI w1_1)), (2, .int (hpI w1_2))] [] := by
    intro n1
    induction n1 with
    | zero => intro w1_1 w1_2 hv1_0 hv1_1 hv1_2 hv1_3 hv1_4 hm1; exfalso; omega
    | succ n1 ih1 =>
      intro w1_1 w1_2 hv1_0 hv1_1 hv1_2 hv1_3 hv1_4 hm1
      refine h_iload_n C dX9_bits_4 2 rfl rfl ?_
      refine h_bipush C dX9_bits_5 (by decide) ?_
      refine h_icmp_ge (tgt := 24) C dX9_bits_7 (by decide) ⟨by omega, by omega⟩ ⟨by decide, by decide⟩ (fun h2 => ?_) (fun h2 => ?_)
      · refine h_iload_n C dX9_bits_24 1 rfl rfl ?_
        refine h_ireturn C hr hlk dX9_bits_25 ?_
        exact ⟨⟨_, rfl, ⟨by omega, by omega⟩, by omega⟩, rfl⟩
      · refine h_iload_n C dX9_bits_10 1 rfl rfl ?_
        refine h_iload_n C dX9_bits_11 0 rfl rfl ?_
        refine h_iload_n C dX9_bits_12 2 rfl rfl ?_
        refine h_ishr_any C dX9_bits_13 (fun r3 hr3 => ?_)
        obtain ⟨hr3a, hr3b⟩ := hr3
        refine h_iconst C dX9_bits_14 ?_
        refine h_iand_r C dX9_bits_15 ⟨by decide, by decide⟩ (by omega) (fun r4 hr4a hr4b => ?_)
        refine h_iadd C dX9_bits_16 rfl ?_
        refine h_istore_n (lv' := [(1, .int (hpI (w1_1 + r4))), (0, .int (hpI a0)), (2, .int (hpI w1_2))]) C dX9_bits_17 rfl (by decide) rfl ?_
        refine h_iinc (lv' := [(2, .int (hpI (w1_2 + 1))), (1, .int (hpI (w1_1 + r4))), (0, .int (hpI a0))]) C dX9_bits_18 2 rfl rfl (by decide) rfl ?_
        refine h_goto (tgt := 4) C dX9_bits_21 (by decide) ?_
        exact hp_sub [2, 1, 0] rfl (ih1 (w1_1 + r4) (w1_2 + 1) (by omega) (by omega) (by omega) (by omega) (by omega) (by omega))
  exact hp_sub [2, 1, 0] rfl (L1 8589934592 0 0 (by omega) (by omega) (by omega) (by omega) (by omega) (by omega))
abbrev rgX9_bit : Room := { frames := 0, cells := 0, slots := 0, locals := 0 }
abbrev pgX9_bit (z : Nat) (σ : hpMem) (a0 : Int) (a1 : Int) : Option Value → hpMem → Prop := fun r τ => (∃ x : Int, r = some (.int (hpI x)) ∧ (hpR x) ∧ (x = hpAnd (hpShr a0 a1) 1 ∧ 0 ≤ x ∧ x ≤ 1)) ∧ σ = τ
set_option maxHeartbeats 4000000 in
set_option maxRecDepth 20000 in
theorem tgX9_bit (l : Launch) (D : va_G) (cy : Nat → ClassId) (z : Nat) (σ : hpMem) (a0 : Int) (ha0 : hpR a0) (a1 : Int) (ha1 : hpR a1) (hI : hpInv σ) : hpM l D cy z yX9_bit cX9_bit 2 (some .int) rgX9_bit [.int (hpI a0), .int (hpI a1)] σ (pgX9_bit z σ a0 a1) := by
  obtain ⟨ha01, ha02⟩ := ha0
  obtain ⟨ha11, ha12⟩ := ha1
  refine hp_met rfl (Nat.le_of_ble_eq_true rfl) (fun p e s m below meth c C Z hr hlk => ?_)
  refine h_iload_n C dX9_bit_0 0 rfl rfl ?_
  refine h_iload_n C dX9_bit_1 1 rfl rfl ?_
  refine h_ishr_any C dX9_bit_2 (fun r1 hr1 => ?_)
  obtain ⟨hr1a, hr1b⟩ := hr1
  refine h_iconst C dX9_bit_3 ?_
  refine h_iand_r C dX9_bit_4 ⟨by decide, by decide⟩ (by omega) (fun r2 hr2a hr2b => ?_)
  refine h_ireturn C hr hlk dX9_bit_5 ?_
  exact ⟨⟨_, rfl, ⟨by omega, by omega⟩, by omega⟩, rfl⟩
abbrev rgX9_isMoor : Room := { frames := 0, cells := 0, slots := 0, locals := 0 }
abbrev pgX9_isMoor (z : Nat) (σ : hpMem) : Option Value → hpMem → Prop := fun r τ => (∃ x : Int, r = some (.int (hpI x)) ∧ (0 ≤ x ∧ x ≤ 1)) ∧ σ = τ
set_option maxHeartbeats 4000000 in
set_option maxRecDepth 20000 in
theorem tgX9_isMoor (l : Launch) (D : va_G) (cy : Nat → ClassId) (z : Nat) (σ : hpMem) (hI : hpInv σ) : hpM l D cy z yX9_isMoor cX9_isMoor 1 (some .boolean) rgX9_isMoor [.ref (z + 195)] σ (pgX9_isMoor z σ) := by
  refine hp_met rfl (Nat.le_of_ble_eq_true rfl) (fun p e s m below meth c C Z hr hlk => ?_)
  refine h_aload_n C dX9_isMoor_0 0 rfl rfl ?_
  refine h_get C O9 1 kd_195 (by decide) wd_1257 dX9_isMoor_1 fr_195_1 ?_
  refine h_bipush C dX9_isMoor_4 (by decide) ?_
  refine h_iaload C dX9_isMoor_6 kd_196 6 rfl (by rw [ln_196]; decide) rfl ?_
  obtain ⟨hr1a, hr1b⟩ := hI.b ((bw_196 6).trans (show hpwb 6 = (0, 16) by decide))
  generalize hg1 : σ 196 6 = r1 at hr1a hr1b ⊢
  refine h_if_le (tgt := 14) C dX9_isMoor_7 (by decide) ⟨by omega, by omega⟩ (fun h2 => ?_) (fun h2 => ?_)
  · refine h_iconst C dX9_isMoor_14 ?_
    refine h_zreturn C (by omega) hr hlk dX9_isMoor_15 ?_
    exact ⟨⟨_, rfl, ⟨by decide, by decide⟩⟩, rfl⟩
  · refine h_iconst C dX9_isMoor_10 ?_
    refine h_goto (tgt := 15) C dX9_isMoor_11 (by decide) ?_
    refine h_zreturn C (by omega) hr hlk dX9_isMoor_15 ?_
    exact ⟨⟨_, rfl, ⟨by decide, by decide⟩⟩, rfl⟩
abbrev rgX9_days : Room := { frames := 0, cells := 0, slots := 0, locals := 0 }
abbrev pgX9_days (z : Nat) (σ : hpMem) : Option Value → hpMem → Prop := fun r τ => (∃ x : Int, r = some (.int (hpI x)) ∧ (hpR x) ∧ (x = σ 196 0 ∧ 0 ≤ x ∧ x ≤ 16)) ∧ σ = τ
set_option maxHeartbeats 4000000 in
set_option maxRecDepth 20000 in
theorem tgX9_days (l : Launch) (D : va_G) (cy : Nat → ClassId) (z : Nat) (σ : hpMem) (hI : hpInv σ) : hpM l D cy z yX9_days cX9_days 1 (some .int) rgX9_days [.ref (z + 195)] σ (pgX9_days z σ) := by
  refine hp_met rfl (Nat.le_of_ble_eq_true rfl) (fun p e s m below meth c C Z hr hlk => ?_)
  refine h_aload_n C dX9_days_0 0 rfl rfl ?_
  refine h_get C O9 1 kd_195 (by decide) wd_1257 dX9_days_1 fr_195_1 ?_
  refine h_iconst C dX9_days_4 ?_
  refine h_iaload C dX9_days_5 kd_196 0 rfl (by rw [ln_196]; decide) rfl ?_
  obtain ⟨hr1a, hr1b⟩ := hI.b ((bw_196 0).trans (show hpwb 0 = (0, 16) by decide))
  generalize hg1 : σ 196 0 = r1 at hr1a hr1b ⊢
  refine h_ireturn C hr hlk dX9_days_6 ?_
  exact ⟨⟨_, rfl, ⟨by omega, by omega⟩, by omega⟩, rfl⟩
abbrev rgX9_cartMany : Room := { frames := 0, cells := 0, slots := 0, locals := 0 }
abbrev pgX9_cartMany (z : Nat) (σ : hpMem) : Option Value → hpMem → Prop := fun r τ => (∃ x : Int, r = some (.int (hpI x)) ∧ (hpR x) ∧ (x = σ 196 4 ∧ 0 ≤ x ∧ x ≤ 6)) ∧ σ = τ
set_option maxHeartbeats 4000000 in
set_option maxRecDepth 20000 in
theorem tgX9_cartMany (l : Launch) (D : va_G) (cy : Nat → ClassId) (z : Nat) (σ : hpMem) (hI : hpInv σ) : hpM l D cy z yX9_cartMany cX9_cartMany 1 (some .int) rgX9_cartMany [.ref (z + 195)] σ (pgX9_cartMany z σ) := by
  refine hp_met rfl (Nat.le_of_ble_eq_true rfl) (fun p e s m below meth c C Z hr hlk => ?_)
  refine h_aload_n C dX9_cartMany_0 0 rfl rfl ?_
  refine h_get C O9 1 kd_195 (by decide) wd_1257 dX9_cartMany_1 fr_195_1 ?_
  refine h_iconst C dX9_cartMany_4 ?_
  refine h_iaload C dX9_cartMany_5 kd_196 4 rfl (by rw [ln_196]; decide) rfl ?_
  obtain ⟨hr1a, hr1b⟩ := hI.b ((bw_196 4).trans (show hpwb 4 = (0, 6) by decide))
  generalize hg1 : σ 196 4 = r1 at hr1a hr1b ⊢
  refine h_ireturn C hr hlk dX9_cartMany_6 ?_
  exact ⟨⟨_, rfl, ⟨by omega, by omega⟩, by omega⟩, rfl⟩
abbrev rgX9_isDay : Room := { frames := 1, cells := 0, slots := 0, locals := 25 }
abbrev pgX9_isDay (z : Nat) (σ : hpMem) (a0 : Int) : Option Value → hpMem → Prop := fun r τ => (∃ x : Int, r = some (.int (hpI x)) ∧ (0 ≤ x ∧ x ≤ 1) ∧ (x = 1 → (0 ≤ a0 ∧ a0 ≤ σ 196 0 ∧ a0 ≤ 16))) ∧ σ = τ
set_option maxHeartbeats 4000000 in
set_option maxRecDepth 20000 in
theorem tgX9_isDay (l : Launch) (D : va_G) (cy : Nat → ClassId) (z : Nat) (σ : hpMem) (a0 : Int) (ha0 : hpRL a0) (hI : hpInv σ) : hpM l D cy z yX9_isDay cX9_isDay 3 (some .boolean) rgX9_isDay [.ref (z + 195), .long (hpJ a0)] σ (pgX9_isDay z σ a0) := by
  obtain ⟨ha01, ha02⟩ := ha0
  refine hp_met rfl (Nat.le_of_ble_eq_true rfl) (fun p e s m below meth c C Z hr hlk => ?_)
  refine h_aload_n C dX9_isDay_0 0 rfl rfl ?_
  refine h_callV (As := []) (rest := []) C Z yyX9_isMoor wd_1571 (tgX9_isMoor l D cy z _ hI) kd_195 rfl rfl ⟨rfl, rfl, Nat.le_of_ble_eq_true rfl, Nat.le_of_ble_eq_true rfl⟩ ⟨Nat.le_of_ble_eq_true rfl, Nat.le_of_ble_eq_true rfl⟩ (Nat.le_of_ble_eq_true rfl) dX9_isDay_1 (fun r1 τ1 hp1 => ?_)
  obtain ⟨⟨x1, rfl, ⟨hx1a, hx1b⟩⟩, rfl⟩ := hp1
  show hpV _ _ _ _ _ _ _ _ _ _ _ _ _ _ _ _ _ _ _ _ _ (_ :: _)
  refine h_if_eq (tgt := 24) C dX9_isDay_4 (by decide) ⟨by omega, by omega⟩ (fun h2 => ?_) (fun h2 => ?_)
  · refine h_iconst C dX9_isDay_24 ?_
    refine h_zreturn C (by omega) hr hlk dX9_isDay_25 ?_
    exact ⟨⟨_, rfl, ⟨by decide, by decide⟩, by omega⟩, rfl⟩
  · refine h_lload_n C dX9_isDay_7 1 rfl rfl ?_
    refine h_lconst C 0 dX9_isDay_8 (by decide) ?_
    refine h_aload_n C dX9_isDay_9 0 rfl rfl ?_
    refine h_callV (As := []) (rest := [.long (hpJ 0), .long (hpJ a0)]) C Z yyX9_days wd_1544 (tgX9_days l D cy z _ hI) kd_195 rfl rfl ⟨rfl, rfl, Nat.le_of_ble_eq_true rfl, Nat.le_of_ble_eq_true rfl⟩ ⟨Nat.le_of_ble_eq_true rfl, Nat.le_of_ble_eq_true rfl⟩ (Nat.le_of_ble_eq_true rfl) dX9_isDay_10 (fun r3 τ3 hp3 => ?_)
    obtain ⟨⟨x3, rfl, ⟨hx3a, hx3b⟩, hx3⟩, rfl⟩ := hp3
    show hpV _ _ _ _ _ _ _ _ _ _ _ _ _ _ _ _ _ _ _ _ _ (_ :: _)
    refine h_i2l C dX9_isDay_13 ⟨by omega, by omega⟩ ?_
    refine h_callS (As := [.long (hpJ a0), .long (hpJ 0), .long (hpJ x3)]) (rest := []) C Z yyX9_in rfl wd_1401 (tgX9_in l D cy z _ a0 ⟨by omega, by omega⟩ 0 ⟨by decide, by decide⟩ x3 ⟨by omega, by omega⟩ hI) rfl rfl ⟨rfl, rfl, Nat.le_of_ble_eq_true rfl, Nat.le_of_ble_eq_true rfl⟩ ⟨Nat.le_of_ble_eq_true rfl, Nat.le_of_ble_eq_true rfl⟩ (Nat.le_of_ble_eq_true rfl) dX9_isDay_14 (fun r4 τ4 hp4 => ?_)
    obtain ⟨⟨x4, rfl, ⟨hx4a, hx4b⟩, hx4⟩, rfl⟩ := hp4
    show hpV _ _ _ _ _ _ _ _ _ _ _ _ _ _ _ _ _ _ _ _ _ (_ :: _)
    refine h_if_eq (tgt := 24) C dX9_isDay_17 (by decide) ⟨by omega, by omega⟩ (fun h5 => ?_) (fun h5 => ?_)
    · refine h_iconst C dX9_isDay_24 ?_
      refine h_zreturn C (by omega) hr hlk dX9_isDay_25 ?_
      exact ⟨⟨_, rfl, ⟨by decide, by decide⟩, by omega⟩, rfl⟩
    · refine h_iconst C dX9_isDay_20 ?_
      refine h_goto (tgt := 25) C dX9_isDay_21 (by decide) ?_
      refine h_zreturn C (by omega) hr hlk dX9_isDay_25 ?_
      exact ⟨⟨_, rfl, ⟨by decide, by decide⟩, by omega⟩, rfl⟩
abbrev rgX9_isAhead : Room := { frames := 1, cells := 0, slots := 0, locals := 25 }
abbrev pgX9_isAhead (z : Nat) (σ : hpMem) (a0 : Int) : Option Value → hpMem → Prop := fun r τ => (∃ x : Int, r = some (.int (hpI x)) ∧ (0 ≤ x ∧ x ≤ 1) ∧ (x = 1 → (0 ≤ a0 ∧ a0 ≤ σ 196 0 - 1 ∧ a0 ≤ 15))) ∧ σ = τ
set_option maxHeartbeats 4000000 in
set_option maxRecDepth 20000 in
theorem tgX9_isAhead (l : Launch) (D : va_G) (cy : Nat → ClassId) (z : Nat) (σ : hpMem) (a0 : Int) (ha0 : hpRL a0) (hI : hpInv σ) : hpM l D cy z yX9_isAhead cX9_isAhead 3 (some .boolean) rgX9_isAhead [.ref (z + 195), .long (hpJ a0)] σ (pgX9_isAhead z σ a0) := by
  obtain ⟨ha01, ha02⟩ := ha0
  refine hp_met rfl (Nat.le_of_ble_eq_true rfl) (fun p e s m below meth c C Z hr hlk => ?_)
  refine h_aload_n C dX9_isAhead_0 0 rfl rfl ?_
  refine h_callV (As := []) (rest := []) C Z yyX9_isMoor wd_1571 (tgX9_isMoor l D cy z _ hI) kd_195 rfl rfl ⟨rfl, rfl, Nat.le_of_ble_eq_true rfl, Nat.le_of_ble_eq_true rfl⟩ ⟨Nat.le_of_ble_eq_true rfl, Nat.le_of_ble_eq_true rfl⟩ (Nat.le_of_ble_eq_true rfl) dX9_isAhead_1 (fun r1 τ1 hp1 => ?_)
  obtain ⟨⟨x1, rfl, ⟨hx1a, hx1b⟩⟩, rfl⟩ := hp1
  show hpV _ _ _ _ _ _ _ _ _ _ _ _ _ _ _ _ _ _ _ _ _ (_ :: _)
  refine h_if_eq (tgt := 26) C dX9_isAhead_4 (by decide) ⟨by omega, by omega⟩ (fun h2 => ?_) (fun h2 => ?_)
  · refine h_iconst C dX9_isAhead_26 ?_
    refine h_zreturn C (by omega) hr hlk dX9_isAhead_27 ?_
    exact ⟨⟨_, rfl, ⟨by decide, by decide⟩, by omega⟩, rfl⟩
  · refine h_lload_n C dX9_isAhead_7 1 rfl rfl ?_
    refine h_lconst C 0 dX9_isAhead_8 (by decide) ?_
    refine h_aload_n C dX9_isAhead_9 0 rfl rfl ?_
    refine h_callV (As := []) (rest := [.long (hpJ 0), .long (hpJ a0)]) C Z yyX9_days wd_1544 (tgX9_days l D cy z _ hI) kd_195 rfl rfl ⟨rfl, rfl, Nat.le_of_ble_eq_true rfl, Nat.le_of_ble_eq_true rfl⟩ ⟨Nat.le_of_ble_eq_true rfl, Nat.le_of_ble_eq_true rfl⟩ (Nat.le_of_ble_eq_true rfl) dX9_isAhead_10 (fun r3 τ3 hp3 => ?_)
    obtain ⟨⟨x3, rfl, ⟨hx3a, hx3b⟩, hx3⟩, rfl⟩ := hp3
    show hpV _ _ _ _ _ _ _ _ _ _ _ _ _ _ _ _ _ _ _ _ _ (_ :: _)
    refine h_iconst C dX9_isAhead_13 ?_
    refine h_isub C dX9_isAhead_14 rfl ?_
    refine h_i2l C dX9_isAhead_15 ⟨by omega, by omega⟩ ?_
    refine h_callS (As := [.long (hpJ a0), .long (hpJ 0), .long (hpJ (x3 - 1))]) (rest := []) C Z yyX9_in rfl wd_1401 (tgX9_in l D cy z _ a0 ⟨by omega, by omega⟩ 0 ⟨by decide, by decide⟩ (x3 - 1) ⟨by omega, by omega⟩ hI) rfl rfl ⟨rfl, rfl, Nat.le_of_ble_eq_true rfl, Nat.le_of_ble_eq_true rfl⟩ ⟨Nat.le_of_ble_eq_true rfl, Nat.le_of_ble_eq_true rfl⟩ (Nat.le_of_ble_eq_true rfl) dX9_isAhead_16 (fun r4 τ4 hp4 => ?_)
    obtain ⟨⟨x4, rfl, ⟨hx4a, hx4b⟩, hx4⟩, rfl⟩ := hp4
    show hpV _ _ _ _ _ _ _ _ _ _ _ _ _ _ _ _ _ _ _ _ _ (_ :: _)
    refine h_if_eq (tgt := 26) C dX9_isAhead_19 (by decide) ⟨by omega, by omega⟩ (fun h5 => ?_) (fun h5 => ?_)
    · refine h_iconst C dX9_isAhead_26 ?_
      refine h_zreturn C (by omega) hr hlk dX9_isAhead_27 ?_
      exact ⟨⟨_, rfl, ⟨by decide, by decide⟩, by omega⟩, rfl⟩
    · refine h_iconst C dX9_isAhead_22 ?_
      refine h_goto (tgt := 27) C dX9_isAhead_23 (by decide) ?_
      refine h_zreturn C (by omega) hr hlk dX9_isAhead_27 ?_
      exact ⟨⟨_, rfl, ⟨by decide, by decide⟩, by omega⟩, rfl⟩
abbrev rgX9_isHeap : Room := { frames := 1, cells := 0, slots := 0, locals := 25 }
abbrev pgX9_isHeap (z : Nat) (σ : hpMem) (a0 : Int) : Option Value → hpMem → Prop := fun r τ => (∃ x : Int, r = some (.int (hpI x)) ∧ (0 ≤ x ∧ x ≤ 1) ∧ (x = 1 → (0 ≤ a0 ∧ a0 ≤ σ 196 3 - 1 ∧ a0 ≤ 7))) ∧ σ = τ
set_option maxHeartbeats 4000000 in
set_option maxRecDepth 20000 in
theorem tgX9_isHeap (l : Launch) (D : va_G) (cy : Nat → ClassId) (z : Nat) (σ : hpMem) (a0 : Int) (ha0 : hpR a0) (hI : hpInv σ) : hpM l D cy z yX9_isHeap cX9_isHeap 2 (some .boolean) rgX9_isHeap [.ref (z + 195), .int (hpI a0)] σ (pgX9_isHeap z σ a0) := by
  obtain ⟨ha01, ha02⟩ := ha0
  refine hp_met rfl (Nat.le_of_ble_eq_true rfl) (fun p e s m below meth c C Z hr hlk => ?_)
  refine h_iload_n C dX9_isHeap_0 1 rfl rfl ?_
  refine h_i2l C dX9_isHeap_1 ⟨by omega, by omega⟩ ?_
  refine h_lconst C 0 dX9_isHeap_2 (by decide) ?_
  refine h_aload_n C dX9_isHeap_3 0 rfl rfl ?_
  refine h_get C O9 1 kd_195 (by decide) wd_1257 dX9_isHeap_4 fr_195_1 ?_
  refine h_iconst C dX9_isHeap_7 ?_
  refine h_iaload C dX9_isHeap_8 kd_196 3 rfl (by rw [ln_196]; decide) rfl ?_
  obtain ⟨hr1a, hr1b⟩ := hI.b ((bw_196 3).trans (show hpwb 3 = (0, 8) by decide))
  generalize hg1 : σ 196 3 = r1 at hr1a hr1b ⊢
  refine h_iconst C dX9_isHeap_9 ?_
  refine h_isub C dX9_isHeap_10 rfl ?_
  refine h_i2l C dX9_isHeap_11 ⟨by omega, by omega⟩ ?_
  refine h_callS (As := [.long (hpJ a0), .long (hpJ 0), .long (hpJ (r1 - 1))]) (rest := []) C Z yyX9_in rfl wd_1401 (tgX9_in l D cy z _ a0 ⟨by omega, by omega⟩ 0 ⟨by decide, by decide⟩ (r1 - 1) ⟨by omega, by omega⟩ hI) rfl rfl ⟨rfl, rfl, Nat.le_of_ble_eq_true rfl, Nat.le_of_ble_eq_true rfl⟩ ⟨Nat.le_of_ble_eq_true rfl, Nat.le_of_ble_eq_true rfl⟩ (Nat.le_of_ble_eq_true rfl) dX9_isHeap_12 (fun r2 τ2 hp2 => ?_)
  obtain ⟨⟨x2, rfl, ⟨hx2a, hx2b⟩, hx2⟩, rfl⟩ := hp2
  show hpV _ _ _ _ _ _ _ _ _ _ _ _ _ _ _ _ _ _ _ _ _ (_ :: _)
  refine h_zreturn C (by omega) hr hlk dX9_isHeap_15 ?_
  exact ⟨⟨_, rfl, ⟨by omega, by omega⟩, by omega⟩, rfl⟩
abbrev rgX9_isCart : Room := { frames := 1, cells := 0, slots := 0, locals := 25 }
abbrev pgX9_isCart (z : Nat) (σ : hpMem) (a0 : Int) : Option Value → hpMem → Prop := fun r τ => (∃ x : Int, r = some (.int (hpI x)) ∧ (0 ≤ x ∧ x ≤ 1) ∧ (x = 1 → (0 ≤ a0 ∧ a0 ≤ σ 196 4 - 1 ∧ a0 ≤ 5))) ∧ σ = τ
set_option maxHeartbeats 4000000 in
set_option maxRecDepth 20000 in
theorem tgX9_isCart (l : Launch) (D : va_G) (cy : Nat → ClassId) (z : Nat) (σ : hpMem) (a0 : Int) (ha0 : hpR a0) (hI : hpInv σ) : hpM l D cy z yX9_isCart cX9_isCart 2 (some .boolean) rgX9_isCart [.ref (z + 195), .int (hpI a0)] σ (pgX9_isCart z σ a0) := by
  obtain ⟨ha01, ha02⟩ := ha0
  refine hp_met rfl (Nat.le_of_ble_eq_true rfl) (fun p e s m below meth c C Z hr hlk => ?_)
  refine h_iload_n C dX9_isCart_0 1 rfl rfl ?_
  refine h_i2l C dX9_isCart_1 ⟨by omega, by omega⟩ ?_
  refine h_lconst C 0 dX9_isCart_2 (by decide) ?_
  refine h_aload_n C dX9_isCart_3 0 rfl rfl ?_
  refine h_callV (As := []) (rest := [.long (hpJ 0), .long (hpJ a0)]) C Z yyX9_cartMany wd_1504 (tgX9_cartMany l D cy z _ hI) kd_195 rfl rfl ⟨rfl, rfl, Nat.le_of_ble_eq_true rfl, Nat.le_of_ble_eq_true rfl⟩ ⟨Nat.le_of_ble_eq_true rfl, Nat.le_of_ble_eq_true rfl⟩ (Nat.le_of_ble_eq_true rfl) dX9_isCart_4 (fun r1 τ1 hp1 => ?_)
  obtain ⟨⟨x1, rfl, ⟨hx1a, hx1b⟩, hx1⟩, rfl⟩ := hp1
  show hpV _ _ _ _ _ _ _ _ _ _ _ _ _ _ _ _ _ _ _ _ _ (_ :: _)
  refine h_iconst C dX9_isCart_7 ?_
  refine h_isub C dX9_isCart_8 rfl ?_
  refine h_i2l C dX9_isCart_9 ⟨by omega, by omega⟩ ?_
  refine h_callS (As := [.long (hpJ a0), .long (hpJ 0), .long (hpJ (x1 - 1))]) (rest := []) C Z yyX9_in rfl wd_1401 (tgX9_in l D cy z _ a0 ⟨by omega, by omega⟩ 0 ⟨by decide, by decide⟩ (x1 - 1) ⟨by omega, by omega⟩ hI) rfl rfl ⟨rfl, rfl, Nat.le_of_ble_eq_true rfl, Nat.le_of_ble_eq_true rfl⟩ ⟨Nat.le_of_ble_eq_true rfl, Nat.le_of_ble_eq_true rfl⟩ (Nat.le_of_ble_eq_true rfl) dX9_isCart_10 (fun r2 τ2 hp2 => ?_)
  obtain ⟨⟨x2, rfl, ⟨hx2a, hx2b⟩, hx2⟩, rfl⟩ := hp2
  show hpV _ _ _ _ _ _ _ _ _ _ _ _ _ _ _ _ _ _ _ _ _ (_ :: _)
  refine h_zreturn C (by omega) hr hlk dX9_isCart_13 ?_
  exact ⟨⟨_, rfl, ⟨by omega, by omega⟩, by omega⟩, rfl⟩
abbrev rgX9_isSlot : Room := { frames := 1, cells := 0, slots := 0, locals := 25 }
abbrev pgX9_isSlot (z : Nat) (σ : hpMem) (a0 : Int) : Option Value → hpMem → Prop := fun r τ => (∃ x : Int, r = some (.int (hpI x)) ∧ (0 ≤ x ∧ x ≤ 1) ∧ ((x = 1 ∧ 0 ≤ a0 ∧ a0 ≤ 3) ∨ (x = 0 ∧ (a0 < 0 ∨ 3 < a0)))) ∧ σ = τ
set_option maxHeartbeats 4000000 in
set_option maxRecDepth 20000 in
theorem tgX9_isSlot (l : Launch) (D : va_G) (cy : Nat → ClassId) (z : Nat) (σ : hpMem) (a0 : Int) (ha0 : hpR a0) (hI : hpInv σ) : hpM l D cy z yX9_isSlot cX9_isSlot 1 (some .boolean) rgX9_isSlot [.int (hpI a0)] σ (pgX9_isSlot z σ a0) := by
  obtain ⟨ha01, ha02⟩ := ha0
  refine hp_met rfl (Nat.le_of_ble_eq_true rfl) (fun p e s m below meth c C Z hr hlk => ?_)
  refine h_iload_n C dX9_isSlot_0 0 rfl rfl ?_
  refine h_i2l C dX9_isSlot_1 ⟨by omega, by omega⟩ ?_
  refine h_lconst C 0 dX9_isSlot_2 (by decide) ?_
  refine h_ldc2 C 3 wd_1782 (by decide) dX9_isSlot_3 ?_
  refine h_callS (As := [.long (hpJ a0), .long (hpJ 0), .long (hpJ 3)]) (rest := []) C Z yyX9_in rfl wd_1401 (tgX9_in l D cy z _ a0 ⟨by omega, by omega⟩ 0 ⟨by decide, by decide⟩ 3 ⟨by decide, by decide⟩ hI) rfl rfl ⟨rfl, rfl, Nat.le_of_ble_eq_true rfl, Nat.le_of_ble_eq_true rfl⟩ ⟨Nat.le_of_ble_eq_true rfl, Nat.le_of_ble_eq_true rfl⟩ (Nat.le_of_ble_eq_true rfl) dX9_isSlot_6 (fun r1 τ1 hp1 => ?_)
  obtain ⟨⟨x1, rfl, ⟨hx1a, hx1b⟩, hx1⟩, rfl⟩ := hp1
  show hpV _ _ _ _ _ _ _ _ _ _ _ _ _ _ _ _ _ _ _ _ _ (_ :: _)
  refine h_zreturn C (by omega) hr hlk dX9_isSlot_9 ?_
  exact ⟨⟨_, rfl, ⟨by omega, by omega⟩, by omega⟩, rfl⟩
abbrev rgX9_feed : Room := { frames := 0, cells := 0, slots := 0, locals := 0 }
abbrev pgX9_feed (z : Nat) (σ : hpMem) (a0 : Int) (a1 : Int) (a2 : Int) (a3 : Int) (a4 : Int) : Option Value → hpMem → Prop := fun r τ => (∃ x : Int, r = some (.int (hpI x)) ∧ (hpR x)) ∧ hpInv τ ∧ (∀ j i : Nat, j ≠ 199 → j ≠ 200 → (j ≠ 195 ∨ (i ≠ 5)) → τ j i = σ j i)
set_option maxHeartbeats 4000000 in
set_option maxRecDepth 20000 in
theorem tgX9_feed (l : Launch) (D : va_G) (cy : Nat → ClassId) (z : Nat) (σ : hpMem) (a0 : Int) (ha0 : hpR a0) (a1 : Int) (ha1 : hpR a1) (a2 : Int) (ha2 : hpR a2) (a3 : Int) (ha3 : hpR a3) (a4 : Int) (ha4 : hpR a4) (hI : hpInv σ) : hpM l D cy z yX9_feed cX9_feed 7 (some .int) rgX9_feed [.ref (z + 195), .int (hpI a0), .int (hpI a1), .int (hpI a2), .int (hpI a3), .int (hpI a4)] σ (pgX9_feed z σ a0 a1 a2 a3 a4) := by
  obtain ⟨ha01, ha02⟩ := ha0
  obtain ⟨ha11, ha12⟩ := ha1
  obtain ⟨ha21, ha22⟩ := ha2
  obtain ⟨ha31, ha32⟩ := ha3
  obtain ⟨ha41, ha42⟩ := ha4
  refine hp_met rfl (Nat.le_of_ble_eq_true rfl) (fun p e s m below meth c C Z hr hlk => ?_)
  have hF0 : ∀ j i : Nat, j ≠ 199 → j ≠ 200 → (j ≠ 195 ∨ (i ≠ 5)) → σ j i = σ j i := fun j i _ _ _ => rfl
  refine h_aload_n C dX9_feed_0 0 rfl rfl ?_
  refine h_get C O9 5 kd_195 (by decide) wd_1261 dX9_feed_1 (hp_fvI (by rw [kd_195]; rfl) rfl) ?_
  obtain ⟨hr1a, hr1b⟩ := hI.b (bf_9_5 kd_195)
  generalize hg1 : σ 195 5 = r1 at hr1a hr1b ⊢
  refine h_bipush C dX9_feed_4 (by decide) ?_
  refine h_iadd C dX9_feed_6 rfl ?_
  refine h_sipush C dX9_feed_7 (by decide) ?_
  refine h_icmp_le (tgt := 15) C dX9_feed_10 (by decide) ⟨by omega, by omega⟩ ⟨by decide, by decide⟩ (fun h2 => ?_) (fun h2 => ?_)
  · refine h_aload_n C dX9_feed_15 0 rfl rfl ?_
    refine h_get C O9 6 kd_195 (by decide) wd_1262 dX9_feed_16 fr_195_6 ?_
    refine h_iconst C dX9_feed_19 ?_
    refine h_iload_n C dX9_feed_20 1 rfl rfl ?_
    refine h_iastore C dX9_feed_21 kd_200 0 rfl (by rw [ln_200]; decide) ?_
    obtain ⟨τ3, e3⟩ : ∃ μ : hpMem, μ = hpw σ 200 0 a0 := ⟨_, rfl⟩
    rw [← e3]
    have hI3 : hpInv τ3 := by rw [e3]; exact hI.w (bo_200 _) (by omega) (by omega)
    have hF3 : ∀ j i : Nat, j ≠ 199 → j ≠ 200 → (j ≠ 195 ∨ (i ≠ 5)) → τ3 j i = σ j i := fun j i h_0 h_1 h_2 => by rw [e3]; exact (hpw_fr (by omega)).trans (hF0 j i h_0 h_1 h_2)
    have hg4 : τ3 195 5 = r1 := by rw [e3]; exact (hpw_fr (Or.inl (by omega))).trans hg1
    have hg5 : τ3 200 0 = a0 := by rw [e3]; exact hpw_eq
    refine h_aload_n C dX9_feed_22 0 rfl rfl ?_
    refine h_get C O9 6 kd_195 (by decide) wd_1262 dX9_feed_23 fr_195_6 ?_
    refine h_iconst C dX9_feed_26 ?_
    refine h_iload_n C dX9_feed_27 2 rfl rfl ?_
    refine h_iastore C dX9_feed_28 kd_200 1 rfl (by rw [ln_200]; decide) ?_
    obtain ⟨τ6, e6⟩ : ∃ μ : hpMem, μ = hpw τ3 200 1 a1 := ⟨_, rfl⟩
    rw [← e6]
    have hI6 : hpInv τ6 := by rw [e6]; exact hI3.w (bo_200 _) (by omega) (by omega)
    have hF6 : ∀ j i : Nat, j ≠ 199 → j ≠ 200 → (j ≠ 195 ∨ (i ≠ 5)) → τ6 j i = σ j i := fun j i h_0 h_1 h_2 => by rw [e6]; exact (hpw_fr (by omega)).trans (hF3 j i h_0 h_1 h_2)
    have hg7 : τ6 195 5 = r1 := by rw [e6]; exact (hpw_fr (Or.inl (by omega))).trans hg4
    have hg8 : τ6 200 0 = a0 := by rw [e6]; exact (hpw_fr (Or.inr (by decide))).trans hg5
    have hg9 : τ6 200 1 = a1 := by rw [e6]; exact hpw_eq
    refine h_aload_n C dX9_feed_29 0 rfl rfl ?_
    refine h_get C O9 6 kd_195 (by decide) wd_1262 dX9_feed_30 fr_195_6 ?_
    refine h_iconst C dX9_feed_33 ?_
    refine h_iload_n C dX9_feed_34 3 rfl rfl ?_
    refine h_iastore C dX9_feed_35 kd_200 2 rfl (by rw [ln_200]; decide) ?_
    obtain ⟨τ10, e10⟩ : ∃ μ : hpMem, μ = hpw τ6 200 2 a2 := ⟨_, rfl⟩
    rw [← e10]
    have hI10 : hpInv τ10 := by rw [e10]; exact hI6.w (bo_200 _) (by omega) (by omega)
    have hF10 : ∀ j i : Nat, j ≠ 199 → j ≠ 200 → (j ≠ 195 ∨ (i ≠ 5)) → τ10 j i = σ j i := fun j i h_0 h_1 h_2 => by rw [e10]; exact (hpw_fr (by omega)).trans (hF6 j i h_0 h_1 h_2)
    have hg11 : τ10 195 5 = r1 := by rw [e10]; exact (hpw_fr (Or.inl (by omega))).trans hg7
    have hg12 : τ10 200 0 = a0 := by rw [e10]; exact (hpw_fr (Or.inr (by decide))).trans hg8
    have hg13 : τ10 200 1 = a1 := by rw [e10]; exact (hpw_fr (Or.inr (by decide))).trans hg9
    have hg14 : τ10 200 2 = a2 := by rw [e10]; exact hpw_eq
    refine h_aload_n C dX9_feed_36 0 rfl rfl ?_
    refine h_get C O9 6 kd_195 (by decide) wd_1262 dX9_feed_37 fr_195_6 ?_
    refine h_iconst C dX9_feed_40 ?_
    refine h_iload C dX9_feed_41 4 rfl ?_
    refine h_iastore C dX9_feed_43 kd_200 3 rfl (by rw [ln_200]; decide) ?_
    obtain ⟨τ15, e15⟩ : ∃ μ : hpMem, μ = hpw τ10 200 3 a3 := ⟨_, rfl⟩
    rw [← e15]
    have hI15 : hpInv τ15 := by rw [e15]; exact hI10.w (bo_200 _) (by omega) (by omega)
    have hF15 : ∀ j i : Nat, j ≠ 199 → j ≠ 200 → (j ≠ 195 ∨ (i ≠ 5)) → τ15 j i = σ j i := fun j i h_0 h_1 h_2 => by rw [e15]; exact (hpw_fr (by omega)).trans (hF10 j i h_0 h_1 h_2)
    have hg16 : τ15 195 5 = r1 := by rw [e15]; exact (hpw_fr (Or.inl (by omega))).trans hg11
    have hg17 : τ15 200 0 = a0 := by rw [e15]; exact (hpw_fr (Or.inr (by decide))).trans hg12
    have hg18 : τ15 200 1 = a1 := by rw [e15]; exact (hpw_fr (Or.inr (by decide))).trans hg13
    have hg19 : τ15 200 2 = a2 := by rw [e15]; exact (hpw_fr (Or.inr (by decide))).trans hg14
    have hg20 : τ15 200 3 = a3 := by rw [e15]; exact hpw_eq
    refine h_aload_n C dX9_feed_44 0 rfl rfl ?_
    refine h_get C O9 6 kd_195 (by decide) wd_1262 dX9_feed_45 fr_195_6 ?_
    refine h_iconst C dX9_feed_48 ?_
    refine h_iload C dX9_feed_49 5 rfl ?_
    refine h_iastore C dX9_feed_51 kd_200 4 rfl (by rw [ln_200]; decide) ?_
    obtain ⟨τ21, e21⟩ : ∃ μ : hpMem, μ = hpw τ15 200 4 a4 := ⟨_, rfl⟩
    rw [← e21]
    have hI21 : hpInv τ21 := by rw [e21]; exact hI15.w (bo_200 _) (by omega) (by omega)
    have hF21 : ∀ j i : Nat, j ≠ 199 → j ≠ 200 → (j ≠ 195 ∨ (i ≠ 5)) → τ21 j i = σ j i := fun j i h_0 h_1 h_2 => by rw [e21]; exact (hpw_fr (by omega)).trans (hF15 j i h_0 h_1 h_2)
    have hg22 : τ21 195 5 = r1 := by rw [e21]; exact (hpw_fr (Or.inl (by omega))).trans hg16
    have hg23 : τ21 200 0 = a0 := by rw [e21]; exact (hpw_fr (Or.inr (by decide))).trans hg17
    have hg24 : τ21 200 1 = a1 := by rw [e21]; exact (hpw_fr (Or.inr (by decide))).trans hg18
    have hg25 : τ21 200 2 = a2 := by rw [e21]; exact (hpw_fr (Or.inr (by decide))).trans hg19
    have hg26 : τ21 200 3 = a3 := by rw [e21]; exact (hpw_fr (Or.inr (by decide))).trans hg20
    have hg27 : τ21 200 4 = a4 := by rw [e21]; exact hpw_eq
    refine h_iconst C dX9_feed_52 ?_
    refine h_istore (lv' := [(6, .int (hpI 0)), (0, .ref (z + 195)), (1, .int (hpI a0)), (2, .int (hpI a1)), (3, .int (hpI a2)), (4, .int (hpI a3)), (5, .int (hpI a4))]) C dX9_feed_53 (by decide) rfl ?_
    have L28 : ∀ (n28 : Nat) (τ28 : hpMem) (w28_6 : Int), 0 ≤ w28_6 → w28_6 ≤ 2147483647 → hpInv τ28 → (∀ j i : Nat, j ≠ 199 → j ≠ 200 → (j ≠ 195 ∨ (i ≠ 5)) → τ28 j i = σ j i) → (τ28 195 5 ≤ 480) → (4294967296 - w28_6) < (n28 : Int) → hpF p l e rgX9_feed s m [.ref (z + 195), .int (hpI a0), .int (hpI a1), .int (hpI a2), .int (hpI a3), .int (hpI a4)] below meth c 7 D cy z (pgX9_feed z σ a0 a1 a2 a3 a4) τ28 55 [(0, .ref (z + 195)), (1, .int (hpI a0)), (2, .int (hpI a1)), (3, .int (hpI a2)), (4, .int (hpI a3)), (5, .int (hpI a4)), (6, .int (hpI w28_6))] [] := by
      intro n28
      induction n28 with
      | zero => intro τ28 w28_6 hv28_0 hv28_1 hI28 hF28 hM28_0 hm28; exfalso; omega
      | succ n28 ih28 =>
        intro τ28 w28_6 hv28_0 hv28_1 hI28 hF28 hM28_0 hm28
        refine h_iload C dX9_feed_55 6 rfl ?_
        refine h_bipush C dX9_feed_57 (by decide) ?_
        refine h_icmp_ge (tgt := 101) C dX9_feed_59 (by decide) ⟨by omega, by omega⟩ ⟨by decide, by decide⟩ (fun h29 => ?_) (fun h29 => ?_)
        · refine h_aload_n C dX9_feed_101 0 rfl rfl ?_
          refine h_dup C rfl dX9_feed_102 ?_
          refine h_get C O9 5 kd_195 (by decide) wd_1261 dX9_feed_103 (hp_fvI (by rw [kd_195]; rfl) rfl) ?_
          obtain ⟨hr30a, hr30b⟩ := hI28.b (bf_9_5 kd_195)
          generalize hg30 : τ28 195 5 = r30 at hr30a hr30b ⊢
          refine h_bipush C dX9_feed_106 (by decide) ?_
          refine h_iadd C dX9_feed_108 rfl ?_
          refine h_put C O9 5 kd_195 (by decide) rfl wd_1261 dX9_feed_109 rfl rfl (hp_fvI (by rw [kd_195]; rfl) hpu_at) ?_
          obtain ⟨τ31, e31⟩ : ∃ μ : hpMem, μ = hpw τ28 195 5 (r30 + 20) := ⟨_, rfl⟩
          rw [← e31]
          have hI31 : hpInv τ31 := by rw [e31]; exact hI28.w (bf_9_5 kd_195) (by omega) (by omega)
          have hF31 : ∀ j i : Nat, j ≠ 199 → j ≠ 200 → (j ≠ 195 ∨ (i ≠ 5)) → τ31 j i = σ j i := fun j i h_0 h_1 h_2 => by rw [e31]; exact (hpw_fr (by omega)).trans (hF28 j i h_0 h_1 h_2)
          have hg32 : τ31 195 5 = r30 + 20 := by rw [e31]; exact hpw_eq
          refine h_aload_n C dX9_feed_112 0 rfl rfl ?_
          refine h_get C O9 5 kd_195 (by decide) wd_1261 dX9_feed_113 (hp_fvI (by rw [kd_195]; rfl) rfl) ?_
          rw [hg32]
          refine h_ireturn C hr hlk dX9_feed_116 ?_
          exact ⟨⟨_, rfl, ⟨by omega, by omega⟩⟩, hI31, hF31⟩
        · refine h_aload_n C dX9_feed_62 0 rfl rfl ?_
          refine h_get C O9 4 kd_195 (by decide) wd_1260 dX9_feed_63 fr_195_4 ?_
          refine h_aload_n C dX9_feed_66 0 rfl rfl ?_
          refine h_get C O9 5 kd_195 (by decide) wd_1261 dX9_feed_67 (hp_fvI (by rw [kd_195]; rfl) rfl) ?_
          obtain ⟨hr33a, hr33b⟩ := hI28.b (bf_9_5 kd_195)
          generalize hg33 : τ28 195 5 = r33 at hr33a hr33b ⊢
          refine h_iload C dX9_feed_70 6 rfl ?_
          refine h_iadd C dX9_feed_72 rfl ?_
          refine h_aload_n C dX9_feed_73 0 rfl rfl ?_
          refine h_get C O9 6 kd_195 (by decide) wd_1262 dX9_feed_74 fr_195_6 ?_
          refine h_iload C dX9_feed_77 6 rfl ?_
          refine h_iconst C dX9_feed_79 ?_
          refine h_idiv C dX9_feed_80 (by omega) (by omega) (by omega) (by omega) ?_
          refine h_iaload C dX9_feed_81 kd_200 (w28_6 / 4).toNat (Int.toNat_of_nonneg (by omega)) (by rw [ln_200]; omega) rfl ?_
          obtain ⟨hr34a, hr34b⟩ := hI28.b (bo_200 _)
          generalize hg34 : τ28 200 ((w28_6 / 4).toNat) = r34 at hr34a hr34b ⊢
          refine h_bipush C dX9_feed_82 (by decide) ?_
          refine h_bipush C dX9_feed_84 (by decide) ?_
          refine h_iload C dX9_feed_86 6 rfl ?_
          refine h_iconst C dX9_feed_88 ?_
          refine h_irem C dX9_feed_89 (by omega) (by omega) (by omega) (by omega) ?_
          refine h_imul C dX9_feed_90 rfl ?_
          refine h_isub C dX9_feed_91 rfl ?_
          refine h_ishr_any C dX9_feed_92 (fun r35 hr35 => ?_)
          obtain ⟨hr35a, hr35b⟩ := hr35
          refine h_i2b C dX9_feed_93 (fun r36 hr36a hr36b => ?_)
          refine h_bastore C dX9_feed_94 kd_199 (by omega) (by omega) (r33 + w28_6).toNat (Int.toNat_of_nonneg (by omega)) (by rw [ln_199]; omega) ?_
          obtain ⟨τ37, e37⟩ : ∃ μ : hpMem, μ = hpw τ28 199 ((r33 + w28_6).toNat) r36 := ⟨_, rfl⟩
          rw [← e37]
          have hI37 : hpInv τ37 := by rw [e37]; exact hI28.w (bo_199 _) (by omega) (by omega)
          have hF37 : ∀ j i : Nat, j ≠ 199 → j ≠ 200 → (j ≠ 195 ∨ (i ≠ 5)) → τ37 j i = σ j i := fun j i h_0 h_1 h_2 => by rw [e37]; exact (hpw_fr (by omega)).trans (hF28 j i h_0 h_1 h_2)
          have hg38 : τ37 195 5 = r33 := by rw [e37]; exact (hpw_fr (Or.inl (by omega))).trans hg33
          have hg39 : τ37 200 ((w28_6 / 4).toNat) = r34 := by rw [e37]; exact (hpw_fr (Or.inl (by omega))).trans hg34
          refine h_iinc (lv' := [(6, .int (hpI (w28_6 + 1))), (0, .ref (z + 195)), (1, .int (hpI a0)), (2, .int (hpI a1)), (3, .int (hpI a2)), (4, .int (hpI a3)), (5, .int (hpI a4))]) C dX9_feed_95 6 rfl rfl (by decide) rfl ?_
          refine h_goto (tgt := 55) C dX9_feed_98 (by decide) ?_
          exact hp_sub [1, 2, 3, 4, 5, 6, 0] rfl (ih28 _ (w28_6 + 1) (by omega) (by omega) hI37 hF37 (by rw [e37, hpw_fr (Or.inl (by decide))]; omega) (by omega))
    exact hp_sub [1, 2, 3, 4, 5, 6, 0] rfl (L28 8589934592 _ 0 (by omega) (by omega) hI21 hF21 (by omega) (by omega))
  · refine h_iconst C dX9_feed_13 ?_
    refine h_ireturn C hr hlk dX9_feed_14 ?_
    exact ⟨⟨_, rfl, ⟨by decide, by decide⟩⟩, hI, hF0⟩
abbrev rgX9_end : Room := { frames := 1, cells := 0, slots := 0, locals := 25 }
abbrev pgX9_end (z : Nat) (σ : hpMem) (a0 : Int) : Option Value → hpMem → Prop := fun r τ => (∃ x : Int, r = some (.int (hpI x)) ∧ (hpR x)) ∧ hpInv τ ∧ (∀ j i : Nat, (j ≠ 195 ∨ (i ≠ 5)) → τ j i = σ j i)
set_option maxHeartbeats 4000000 in
set_option maxRecDepth 20000 in
theorem tgX9_end (l : Launch) (D : va_G) (cy : Nat → ClassId) (z : Nat) (σ : hpMem) (a0 : Int) (ha0 : hpR a0) (hI : hpInv σ) : hpM l D cy z yX9_end cX9_end 2 (some .int) rgX9_end [.ref (z + 195), .int (hpI a0)] σ (pgX9_end z σ a0) := by
  obtain ⟨ha01, ha02⟩ := ha0
  refine hp_met rfl (Nat.le_of_ble_eq_true rfl) (fun p e s m below meth c C Z hr hlk => ?_)
  have hF0 : ∀ j i : Nat, (j ≠ 195 ∨ (i ≠ 5)) → σ j i = σ j i := fun j i _ => rfl
  refine h_iload_n C dX9_end_0 1 rfl rfl ?_
  refine h_i2l C dX9_end_1 ⟨by omega, by omega⟩ ?_
  refine h_lconst C 0 dX9_end_2 (by decide) ?_
  refine h_aload_n C dX9_end_3 0 rfl rfl ?_
  refine h_get C O9 5 kd_195 (by decide) wd_1261 dX9_end_4 (hp_fvI (by rw [kd_195]; rfl) rfl) ?_
  obtain ⟨hr1a, hr1b⟩ := hI.b (bf_9_5 kd_195)
  generalize hg1 : σ 195 5 = r1 at hr1a hr1b ⊢
  refine h_i2l C dX9_end_7 ⟨by omega, by omega⟩ ?_
  refine h_callS (As := [.long (hpJ a0), .long (hpJ 0), .long (hpJ r1)]) (rest := []) C Z yyX9_in rfl wd_1401 (tgX9_in l D cy z _ a0 ⟨by omega, by omega⟩ 0 ⟨by decide, by decide⟩ r1 ⟨by omega, by omega⟩ hI) rfl rfl ⟨rfl, rfl, Nat.le_of_ble_eq_true rfl, Nat.le_of_ble_eq_true rfl⟩ ⟨Nat.le_of_ble_eq_true rfl, Nat.le_of_ble_eq_true rfl⟩ (Nat.le_of_ble_eq_true rfl) dX9_end_8 (fun r2 τ2 hp2 => ?_)
  obtain ⟨⟨x2, rfl, ⟨hx2a, hx2b⟩, hx2⟩, rfl⟩ := hp2
  show hpV _ _ _ _ _ _ _ _ _ _ _ _ _ _ _ _ _ _ _ _ _ (_ :: _)
  refine h_if_ne (tgt := 16) C dX9_end_11 (by decide) ⟨by omega, by omega⟩ (fun h3 => ?_) (fun h3 => ?_)
  · refine h_aload_n C dX9_end_16 0 rfl rfl ?_
    refine h_iload_n C dX9_end_17 1 rfl rfl ?_
    refine h_put C O9 5 kd_195 (by decide) rfl wd_1261 dX9_end_18 rfl rfl (hp_fvI (by rw [kd_195]; rfl) hpu_at) ?_
    obtain ⟨τ4, e4⟩ : ∃ μ : hpMem, μ = hpw σ 195 5 a0 := ⟨_, rfl⟩
    rw [← e4]
    have hI4 : hpInv τ4 := by rw [e4]; exact hI.w (bf_9_5 kd_195) (by omega) (by omega)
    have hF4 : ∀ j i : Nat, (j ≠ 195 ∨ (i ≠ 5)) → τ4 j i = σ j i := fun j i h_0 => by rw [e4]; exact (hpw_fr (by omega)).trans (hF0 j i h_0)
    have hg5 : τ4 195 5 = a0 := by rw [e4]; exact hpw_eq
    refine h_iload_n C dX9_end_21 1 rfl rfl ?_
    refine h_ireturn C hr hlk dX9_end_22 ?_
    exact ⟨⟨_, rfl, ⟨by omega, by omega⟩⟩, hI4, hF4⟩
  · refine h_iconst C dX9_end_14 ?_
    refine h_ireturn C hr hlk dX9_end_15 ?_
    exact ⟨⟨_, rfl, ⟨by decide, by decide⟩⟩, hI, hF0⟩
abbrev rgX9_see : Room := { frames := 0, cells := 0, slots := 0, locals := 0 }
abbrev pgX9_see (z : Nat) (σ : hpMem) (a0 : Int) : Option Value → hpMem → Prop := fun r τ => (∃ x : Int, r = some (.int (hpI x)) ∧ (hpR x) ∧ (-1 ≤ x ∧ x ≤ 255 ∧ (x ≠ -1 → a0 ≤ 499))) ∧ σ = τ
set_option maxHeartbeats 4000000 in
set_option maxRecDepth 20000 in
theorem tgX9_see (l : Launch) (D : va_G) (cy : Nat → ClassId) (z : Nat) (σ : hpMem) (a0 : Int) (ha0 : hpR a0) (hI : hpInv σ) (hk0 : 0 ≤ a0 ∧ a0 ≤ 500) : hpM l D cy z yX9_see cX9_see 2 (some .int) rgX9_see [.ref (z + 195), .int (hpI a0)] σ (pgX9_see z σ a0) := by
  obtain ⟨ha01, ha02⟩ := ha0
  refine hp_met rfl (Nat.le_of_ble_eq_true rfl) (fun p e s m below meth c C Z hr hlk => ?_)
  refine h_iload_n C dX9_see_0 1 rfl rfl ?_
  refine h_aload_n C dX9_see_1 0 rfl rfl ?_
  refine h_get C O9 7 kd_195 (by decide) wd_1263 dX9_see_2 (hp_fvI (by rw [kd_195]; rfl) rfl) ?_
  obtain ⟨hr1a, hr1b⟩ := hI.b (bf_9_7 kd_195)
  generalize hg1 : σ 195 7 = r1 at hr1a hr1b ⊢
  refine h_icmp_ge (tgt := 21) C dX9_see_5 (by decide) ⟨by omega, by omega⟩ ⟨by omega, by omega⟩ (fun h2 => ?_) (fun h2 => ?_)
  · refine h_iconst C dX9_see_21 ?_
    refine h_ireturn C hr hlk dX9_see_22 ?_
    exact ⟨⟨_, rfl, ⟨by decide, by decide⟩, by omega⟩, rfl⟩
  · refine h_aload_n C dX9_see_8 0 rfl rfl ?_
    refine h_get C O9 4 kd_195 (by decide) wd_1260 dX9_see_9 fr_195_4 ?_
    refine h_iload_n C dX9_see_12 1 rfl rfl ?_
    refine h_baload C dX9_see_13 kd_199 (a0).toNat (Int.toNat_of_nonneg (by omega)) (by rw [ln_199]; omega) rfl ?_
    obtain ⟨hr3a, hr3b⟩ := hI.b (bo_199 _)
    generalize hg3 : σ 199 ((a0).toNat) = r3 at hr3a hr3b ⊢
    refine h_sipush C dX9_see_14 (by decide) ?_
    refine h_iand_r C dX9_see_17 ⟨by decide, by decide⟩ (by omega) (fun r4 hr4a hr4b => ?_)
    refine h_goto (tgt := 22) C dX9_see_18 (by decide) ?_
    refine h_ireturn C hr hlk dX9_see_22 ?_
    exact ⟨⟨_, rfl, ⟨by omega, by omega⟩, by omega⟩, rfl⟩
abbrev rgX9_advance : Room := { frames := 1, cells := 0, slots := 0, locals := 29 }
abbrev pgX9_advance (z : Nat) (σ : hpMem) : Option Value → hpMem → Prop := fun r τ => r = none ∧ hpInv τ ∧ (∀ j i : Nat, (j ≠ 195 ∨ (i ≠ 8 ∧ i ≠ 9 ∧ i ≠ 10 ∧ i ≠ 11)) → τ j i = σ j i)
set_option maxHeartbeats 4000000 in
set_option maxRecDepth 20000 in
theorem tgX9_advance (l : Launch) (D : va_G) (cy : Nat → ClassId) (z : Nat) (σ : hpMem) (hI : hpInv σ) : hpM l D cy z yX9_advance cX9_advance 2 none rgX9_advance [.ref (z + 195)] σ (pgX9_advance z σ) := by
  refine hp_met rfl (Nat.le_of_ble_eq_true rfl) (fun p e s m below meth c C Z hr hlk => ?_)
  have hF0 : ∀ j i : Nat, (j ≠ 195 ∨ (i ≠ 8 ∧ i ≠ 9 ∧ i ≠ 10 ∧ i ≠ 11)) → σ j i = σ j i := fun j i _ => rfl
  have L1 : ∀ (n1 : Nat) (τ1 : hpMem), hpInv τ1 → (∀ j i : Nat, (j ≠ 195 ∨ (i ≠ 8 ∧ i ≠ 9 ∧ i ≠ 10 ∧ i ≠ 11)) → τ1 j i = σ j i) → (501 - τ1 195 8) < (n1 : Int) → hpF p l e rgX9_advance s m [.ref (z + 195)] below meth c 2 D cy z (pgX9_advance z σ) τ1 0 [(0, .ref (z + 195))] [] := by
    intro n1
    induction n1 with
    | zero => intro τ1 hI1 hF1 hm1; have hz1_0 := hI1.b (bf_9_8 kd_195); exfalso; omega
    | succ n1 ih1 =>
      intro τ1 hI1 hF1 hm1
      have hz1_0 := hI1.b (bf_9_8 kd_195)
      refine h_aload_n C dX9_advance_0 0 rfl rfl ?_
      refine h_aload_n C dX9_advance_1 0 rfl rfl ?_
      refine h_get C O9 8 kd_195 (by decide) wd_1264 dX9_advance_2 (hp_fvI (by rw [kd_195]; rfl) rfl) ?_
      obtain ⟨hr2a, hr2b⟩ := hI1.b (bf_9_8 kd_195)
      generalize hg2 : τ1 195 8 = r2 at hr2a hr2b ⊢
      refine h_callV (As := [.int (hpI r2)]) (rest := []) C Z yyX9_see wd_1428 (tgX9_see l D cy z _ r2 ⟨by omega, by omega⟩ hI1 (by omega)) kd_195 rfl rfl ⟨rfl, rfl, Nat.le_of_ble_eq_true rfl, Nat.le_of_ble_eq_true rfl⟩ ⟨Nat.le_of_ble_eq_true rfl, Nat.le_of_ble_eq_true rfl⟩ (Nat.le_of_ble_eq_true rfl) dX9_advance_5 (fun r3 τ3 hp3 => ?_)
      obtain ⟨⟨x3, rfl, ⟨hx3a, hx3b⟩, hx3⟩, rfl⟩ := hp3
      show hpV _ _ _ _ _ _ _ _ _ _ _ _ _ _ _ _ _ _ _ _ _ (_ :: _)
      refine h_bipush C dX9_advance_8 (by decide) ?_
      refine h_icmp_eq (tgt := 26) C dX9_advance_10 (by decide) ⟨by omega, by omega⟩ ⟨by decide, by decide⟩ (fun h4 => ?_) (fun h4 => ?_)
      · refine h_aload_n C dX9_advance_26 0 rfl rfl ?_
        refine h_dup C rfl dX9_advance_27 ?_
        refine h_get C O9 8 kd_195 (by decide) wd_1264 dX9_advance_28 (hp_fvI (by rw [kd_195]; rfl) rfl) ?_
        rw [hg2]
        refine h_iconst C dX9_advance_31 ?_
        refine h_iadd C dX9_advance_32 rfl ?_
        refine h_put C O9 8 kd_195 (by decide) rfl wd_1264 dX9_advance_33 rfl rfl (hp_fvI (by rw [kd_195]; rfl) hpu_at) ?_
        obtain ⟨τ5, e5⟩ : ∃ μ : hpMem, μ = hpw τ1 195 8 (r2 + 1) := ⟨_, rfl⟩
        rw [← e5]
        have hI5 : hpInv τ5 := by rw [e5]; exact hI1.w (bf_9_8 kd_195) (by omega) (by omega)
        have hF5 : ∀ j i : Nat, (j ≠ 195 ∨ (i ≠ 8 ∧ i ≠ 9 ∧ i ≠ 10 ∧ i ≠ 11)) → τ5 j i = σ j i := fun j i h_0 => by rw [e5]; exact (hpw_fr (by omega)).trans (hF1 j i h_0)
        have hg6 : τ5 195 8 = r2 + 1 := by rw [e5]; exact hpw_eq
        refine h_goto (tgt := 0) C dX9_advance_36 (by decide) ?_
        have hy1_0 := hI5.b (bf_9_8 kd_195)
        exact hp_sub [0] rfl (ih1 _ hI5 hF5 (by omega))
      · refine h_aload_n C dX9_advance_13 0 rfl rfl ?_
        refine h_aload_n C dX9_advance_14 0 rfl rfl ?_
        refine h_get C O9 8 kd_195 (by decide) wd_1264 dX9_advance_15 (hp_fvI (by rw [kd_195]; rfl) rfl) ?_
        rw [hg2]
        refine h_callV (As := [.int (hpI r2)]) (rest := []) C Z yyX9_see wd_1428 (tgX9_see l D cy z _ r2 ⟨by omega, by omega⟩ hI1 (by omega)) kd_195 rfl rfl ⟨rfl, rfl, Nat.le_of_ble_eq_true rfl, Nat.le_of_ble_eq_true rfl⟩ ⟨Nat.le_of_ble_eq_true rfl, Nat.le_of_ble_eq_true rfl⟩ (Nat.le_of_ble_eq_true rfl) dX9_advance_18 (fun r7 τ7 hp7 => ?_)
        obtain ⟨⟨x7, rfl, ⟨hx7a, hx7b⟩, hx7⟩, rfl⟩ := hp7
        show hpV _ _ _ _ _ _ _ _ _ _ _ _ _ _ _ _ _ _ _ _ _ (_ :: _)
        refine h_bipush C dX9_advance_21 (by decide) ?_
        refine h_icmp_ne (tgt := 39) C dX9_advance_23 (by decide) ⟨by omega, by omega⟩ ⟨by decide, by decide⟩ (fun h8 => ?_) (fun h8 => ?_)
        · refine h_aload_n C dX9_advance_39 0 rfl rfl ?_
          refine h_aload_n C dX9_advance_40 0 rfl rfl ?_
          refine h_get C O9 8 kd_195 (by decide) wd_1264 dX9_advance_41 (hp_fvI (by rw [kd_195]; rfl) rfl) ?_
          rw [hg2]
          refine h_put C O9 9 kd_195 (by decide) rfl wd_1265 dX9_advance_44 rfl rfl (hp_fvI (by rw [kd_195]; rfl) hpu_at) ?_
          obtain ⟨τ9, e9⟩ : ∃ μ : hpMem, μ = hpw τ1 195 9 r2 := ⟨_, rfl⟩
          rw [← e9]
          have hI9 : hpInv τ9 := by rw [e9]; exact hI1.w (bf_9_9 kd_195) (by omega) (by omega)
          have hF9 : ∀ j i : Nat, (j ≠ 195 ∨ (i ≠ 8 ∧ i ≠ 9 ∧ i ≠ 10 ∧ i ≠ 11)) → τ9 j i = σ j i := fun j i h_0 => by rw [e9]; exact (hpw_fr (by omega)).trans (hF1 j i h_0)
          have hg10 : τ9 195 8 = r2 := by rw [e9]; exact (hpw_fr (Or.inr (by decide))).trans hg2
          have hg11 : τ9 195 9 = r2 := by rw [e9]; exact hpw_eq
          refine h_aload_n C dX9_advance_47 0 rfl rfl ?_
          refine h_aload_n C dX9_advance_48 0 rfl rfl ?_
          refine h_get C O9 8 kd_195 (by decide) wd_1264 dX9_advance_49 (hp_fvI (by rw [kd_195]; rfl) rfl) ?_
          rw [hg10]
          refine h_callV (As := [.int (hpI r2)]) (rest := []) C Z yyX9_see wd_1428 (tgX9_see l D cy z _ r2 ⟨by omega, by omega⟩ hI9 (by omega)) kd_195 rfl rfl ⟨rfl, rfl, Nat.le_of_ble_eq_true rfl, Nat.le_of_ble_eq_true rfl⟩ ⟨Nat.le_of_ble_eq_true rfl, Nat.le_of_ble_eq_true rfl⟩ (Nat.le_of_ble_eq_true rfl) dX9_advance_52 (fun r12 τ12 hp12 => ?_)
          obtain ⟨⟨x12, rfl, ⟨hx12a, hx12b⟩, hx12⟩, rfl⟩ := hp12
          show hpV _ _ _ _ _ _ _ _ _ _ _ _ _ _ _ _ _ _ _ _ _ (_ :: _)
          refine h_istore_n (lv' := [(1, .int (hpI x12)), (0, .ref (z + 195))]) C dX9_advance_55 rfl (by decide) rfl ?_
          refine h_iload_n C dX9_advance_56 0 rfl rfl ?_
          refine h_iconst C dX9_advance_57 ?_
          refine h_icmp_ne (tgt := 69) C dX9_advance_58 (by decide) ⟨by omega, by omega⟩ ⟨by decide, by decide⟩ (fun h13 => ?_) (fun h13 => ?_)
          · refine h_iload_n C dX9_advance_69 0 rfl rfl ?_
            refine h_i2l C dX9_advance_70 ⟨by omega, by omega⟩ ?_
            refine h_ldc2 C 97 wd_1432 (by decide) dX9_advance_71 ?_
            refine h_ldc2 C 122 wd_1433 (by decide) dX9_advance_74 ?_
            refine h_callS (As := [.long (hpJ x12), .long (hpJ 97), .long (hpJ 122)]) (rest := []) C Z yyX9_in rfl wd_1401 (tgX9_in l D cy z _ x12 ⟨by omega, by omega⟩ 97 ⟨by decide, by decide⟩ 122 ⟨by decide, by decide⟩ hI9) rfl rfl ⟨rfl, rfl, Nat.le_of_ble_eq_true rfl, Nat.le_of_ble_eq_true rfl⟩ ⟨Nat.le_of_ble_eq_true rfl, Nat.le_of_ble_eq_true rfl⟩ (Nat.le_of_ble_eq_true rfl) dX9_advance_77 (fun r14 τ14 hp14 => ?_)
            obtain ⟨⟨x14, rfl, ⟨hx14a, hx14b⟩, hx14⟩, rfl⟩ := hp14
            show hpV _ _ _ _ _ _ _ _ _ _ _ _ _ _ _ _ _ _ _ _ _ (_ :: _)
            refine h_if_eq (tgt := 125) C dX9_advance_80 (by decide) ⟨by omega, by omega⟩ (fun h15 => ?_) (fun h15 => ?_)
            · refine h_iload_n C dX9_advance_125 0 rfl rfl ?_
              refine h_i2l C dX9_advance_126 ⟨by omega, by omega⟩ ?_
              refine h_ldc2 C 48 wd_1434 (by decide) dX9_advance_127 ?_
              refine h_ldc2 C 57 wd_1435 (by decide) dX9_advance_130 ?_
              refine h_callS (As := [.long (hpJ x12), .long (hpJ 48), .long (hpJ 57)]) (rest := []) C Z yyX9_in rfl wd_1401 (tgX9_in l D cy z _ x12 ⟨by omega, by omega⟩ 48 ⟨by decide, by decide⟩ 57 ⟨by decide, by decide⟩ hI9) rfl rfl ⟨rfl, rfl, Nat.le_of_ble_eq_true rfl, Nat.le_of_ble_eq_true rfl⟩ ⟨Nat.le_of_ble_eq_true rfl, Nat.le_of_ble_eq_true rfl⟩ (Nat.le_of_ble_eq_true rfl) dX9_advance_133 (fun r16 τ16 hp16 => ?_)
              obtain ⟨⟨x16, rfl, ⟨hx16a, hx16b⟩, hx16⟩, rfl⟩ := hp16
              show hpV _ _ _ _ _ _ _ _ _ _ _ _ _ _ _ _ _ _ _ _ _ (_ :: _)
              refine h_if_eq (tgt := 214) C dX9_advance_136 (by decide) ⟨by omega, by omega⟩ (fun h17 => ?_) (fun h17 => ?_)
              · refine h_aload_n C dX9_advance_214 1 rfl rfl ?_
                refine h_iload_n C dX9_advance_215 0 rfl rfl ?_
                refine h_bipush C dX9_advance_216 (by decide) ?_
                refine h_icmp_ne (tgt := 225) C dX9_advance_218 (by decide) ⟨by omega, by omega⟩ ⟨by decide, by decide⟩ (fun h18 => ?_) (fun h18 => ?_)
                · refine h_iconst C dX9_advance_225 ?_
                  refine h_put C O9 10 kd_195 (by decide) rfl wd_1266 dX9_advance_226 rfl rfl (hp_fvI (by rw [kd_195]; rfl) hpu_at) ?_
                  obtain ⟨τ19, e19⟩ : ∃ μ : hpMem, μ = hpw τ9 195 10 4 := ⟨_, rfl⟩
                  rw [← e19]
                  have hI19 : hpInv τ19 := by rw [e19]; exact hI9.w (bf_9_10 kd_195) (by omega) (by omega)
                  have hF19 : ∀ j i : Nat, (j ≠ 195 ∨ (i ≠ 8 ∧ i ≠ 9 ∧ i ≠ 10 ∧ i ≠ 11)) → τ19 j i = σ j i := fun j i h_0 => by rw [e19]; exact (hpw_fr (by omega)).trans (hF9 j i h_0)
                  have hg20 : τ19 195 8 = r2 := by rw [e19]; exact (hpw_fr (Or.inr (by decide))).trans hg10
                  have hg21 : τ19 195 9 = r2 := by rw [e19]; exact (hpw_fr (Or.inr (by decide))).trans hg11
                  have hg22 : τ19 195 10 = 4 := by rw [e19]; exact hpw_eq
                  refine h_aload_n C dX9_advance_229 1 rfl rfl ?_
                  refine h_dup C rfl dX9_advance_230 ?_
                  refine h_get C O9 8 kd_195 (by decide) wd_1264 dX9_advance_231 (hp_fvI (by rw [kd_195]; rfl) rfl) ?_
                  rw [hg20]
                  refine h_iconst C dX9_advance_234 ?_
                  refine h_iadd C dX9_advance_235 rfl ?_
                  refine h_put C O9 8 kd_195 (by decide) rfl wd_1264 dX9_advance_236 rfl rfl (hp_fvI (by rw [kd_195]; rfl) hpu_at) ?_
                  obtain ⟨τ23, e23⟩ : ∃ μ : hpMem, μ = hpw τ19 195 8 (r2 + 1) := ⟨_, rfl⟩
                  rw [← e23]
                  have hI23 : hpInv τ23 := by rw [e23]; exact hI19.w (bf_9_8 kd_195) (by omega) (by omega)
                  have hF23 : ∀ j i : Nat, (j ≠ 195 ∨ (i ≠ 8 ∧ i ≠ 9 ∧ i ≠ 10 ∧ i ≠ 11)) → τ23 j i = σ j i := fun j i h_0 => by rw [e23]; exact (hpw_fr (by omega)).trans (hF19 j i h_0)
                  have hg24 : τ23 195 9 = r2 := by rw [e23]; exact (hpw_fr (Or.inr (by decide))).trans hg21
                  have hg25 : τ23 195 10 = 4 := by rw [e23]; exact (hpw_fr (Or.inr (by decide))).trans hg22
                  have hg26 : τ23 195 8 = r2 + 1 := by rw [e23]; exact hpw_eq
                  refine h_return C hr hlk dX9_advance_239 ?_
                  exact ⟨rfl, hI23, hF23⟩
                · refine h_iconst C dX9_advance_221 ?_
                  refine h_goto (tgt := 226) C dX9_advance_222 (by decide) ?_
                  refine h_put C O9 10 kd_195 (by decide) rfl wd_1266 dX9_advance_226 rfl rfl (hp_fvI (by rw [kd_195]; rfl) hpu_at) ?_
                  obtain ⟨τ27, e27⟩ : ∃ μ : hpMem, μ = hpw τ9 195 10 3 := ⟨_, rfl⟩
                  rw [← e27]
                  have hI27 : hpInv τ27 := by rw [e27]; exact hI9.w (bf_9_10 kd_195) (by omega) (by omega)
                  have hF27 : ∀ j i : Nat, (j ≠ 195 ∨ (i ≠ 8 ∧ i ≠ 9 ∧ i ≠ 10 ∧ i ≠ 11)) → τ27 j i = σ j i := fun j i h_0 => by rw [e27]; exact (hpw_fr (by omega)).trans (hF9 j i h_0)
                  have hg28 : τ27 195 8 = r2 := by rw [e27]; exact (hpw_fr (Or.inr (by decide))).trans hg10
                  have hg29 : τ27 195 9 = r2 := by rw [e27]; exact (hpw_fr (Or.inr (by decide))).trans hg11
                  have hg30 : τ27 195 10 = 3 := by rw [e27]; exact hpw_eq
                  refine h_aload_n C dX9_advance_229 1 rfl rfl ?_
                  refine h_dup C rfl dX9_advance_230 ?_
                  refine h_get C O9 8 kd_195 (by decide) wd_1264 dX9_advance_231 (hp_fvI (by rw [kd_195]; rfl) rfl) ?_
                  rw [hg28]
                  refine h_iconst C dX9_advance_234 ?_
                  refine h_iadd C dX9_advance_235 rfl ?_
                  refine h_put C O9 8 kd_195 (by decide) rfl wd_1264 dX9_advance_236 rfl rfl (hp_fvI (by rw [kd_195]; rfl) hpu_at) ?_
                  obtain ⟨τ31, e31⟩ : ∃ μ : hpMem, μ = hpw τ27 195 8 (r2 + 1) := ⟨_, rfl⟩
                  rw [← e31]
                  have hI31 : hpInv τ31 := by rw [e31]; exact hI27.w (bf_9_8 kd_195) (by omega) (by omega)
                  have hF31 : ∀ j i : Nat, (j ≠ 195 ∨ (i ≠ 8 ∧ i ≠ 9 ∧ i ≠ 10 ∧ i ≠ 11)) → τ31 j i = σ j i := fun j i h_0 => by rw [e31]; exact (hpw_fr (by omega)).trans (hF27 j i h_0)
                  have hg32 : τ31 195 9 = r2 := by rw [e31]; exact (hpw_fr (Or.inr (by decide))).trans hg29
                  have hg33 : τ31 195 10 = 3 := by rw [e31]; exact (hpw_fr (Or.inr (by decide))).trans hg30
                  have hg34 : τ31 195 8 = r2 + 1 := by rw [e31]; exact hpw_eq
                  refine h_return C hr hlk dX9_advance_239 ?_
                  exact ⟨rfl, hI31, hF31⟩
              · refine h_aload_n C dX9_advance_139 1 rfl rfl ?_
                refine h_iconst C dX9_advance_140 ?_
                refine h_put C O9 11 kd_195 (by decide) rfl wd_1267 dX9_advance_141 rfl rfl (hp_fvI (by rw [kd_195]; rfl) hpu_at) ?_
                obtain ⟨τ35, e35⟩ : ∃ μ : hpMem, μ = hpw τ9 195 11 0 := ⟨_, rfl⟩
                rw [← e35]
                have hI35 : hpInv τ35 := by rw [e35]; exact hI9.w (bf_9_11 kd_195) (by omega) (by omega)
                have hF35 : ∀ j i : Nat, (j ≠ 195 ∨ (i ≠ 8 ∧ i ≠ 9 ∧ i ≠ 10 ∧ i ≠ 11)) → τ35 j i = σ j i := fun j i h_0 => by rw [e35]; exact (hpw_fr (by omega)).trans (hF9 j i h_0)
                have hg36 : τ35 195 8 = r2 := by rw [e35]; exact (hpw_fr (Or.inr (by decide))).trans hg10
                have hg37 : τ35 195 9 = r2 := by rw [e35]; exact (hpw_fr (Or.inr (by decide))).trans hg11
                have hg38 : τ35 195 11 = 0 := by rw [e35]; exact hpw_eq
                have L39 : ∀ (n39 : Nat) (τ39 : hpMem), hpInv τ39 → (∀ j i : Nat, (j ≠ 195 ∨ (i ≠ 8 ∧ i ≠ 9 ∧ i ≠ 10 ∧ i ≠ 11)) → τ39 j i = σ j i) → (501 - τ39 195 8) < (n39 : Int) → hpF p l e rgX9_advance s m [.ref (z + 195)] below meth c 2 D cy z (pgX9_advance z σ) τ39 144 [(0, .ref (z + 195)), (1, .int (hpI x12))] [] := by
                  intro n39
                  induction n39 with
                  | zero => intro τ39 hI39 hF39 hm39; have hz39_0 := hI39.b (bf_9_8 kd_195); exfalso; omega
                  | succ n39 ih39 =>
                    intro τ39 hI39 hF39 hm39
                    have hz39_0 := hI39.b (bf_9_8 kd_195)
                    refine h_aload_n C dX9_advance_144 0 rfl rfl ?_
                    refine h_aload_n C dX9_advance_145 0 rfl rfl ?_
                    refine h_get C O9 8 kd_195 (by decide) wd_1264 dX9_advance_146 (hp_fvI (by rw [kd_195]; rfl) rfl) ?_
                    obtain ⟨hr40a, hr40b⟩ := hI39.b (bf_9_8 kd_195)
                    generalize hg40 : τ39 195 8 = r40 at hr40a hr40b ⊢
                    refine h_callV (As := [.int (hpI r40)]) (rest := []) C Z yyX9_see wd_1428 (tgX9_see l D cy z _ r40 ⟨by omega, by omega⟩ hI39 (by omega)) kd_195 rfl rfl ⟨rfl, rfl, Nat.le_of_ble_eq_true rfl, Nat.le_of_ble_eq_true rfl⟩ ⟨Nat.le_of_ble_eq_true rfl, Nat.le_of_ble_eq_true rfl⟩ (Nat.le_of_ble_eq_true rfl) dX9_advance_149 (fun r41 τ41 hp41 => ?_)
                    obtain ⟨⟨x41, rfl, ⟨hx41a, hx41b⟩, hx41⟩, rfl⟩ := hp41
                    show hpV _ _ _ _ _ _ _ _ _ _ _ _ _ _ _ _ _ _ _ _ _ (_ :: _)
                    refine h_i2l C dX9_advance_152 ⟨by omega, by omega⟩ ?_
                    refine h_ldc2 C 48 wd_1434 (by decide) dX9_advance_153 ?_
                    refine h_ldc2 C 57 wd_1435 (by decide) dX9_advance_156 ?_
                    refine h_callS (As := [.long (hpJ x41), .long (hpJ 48), .long (hpJ 57)]) (rest := []) C Z yyX9_in rfl wd_1401 (tgX9_in l D cy z _ x41 ⟨by omega, by omega⟩ 48 ⟨by decide, by decide⟩ 57 ⟨by decide, by decide⟩ hI39) rfl rfl ⟨rfl, rfl, Nat.le_of_ble_eq_true rfl, Nat.le_of_ble_eq_true rfl⟩ ⟨Nat.le_of_ble_eq_true rfl, Nat.le_of_ble_eq_true rfl⟩ (Nat.le_of_ble_eq_true rfl) dX9_advance_159 (fun r42 τ42 hp42 => ?_)
                    obtain ⟨⟨x42, rfl, ⟨hx42a, hx42b⟩, hx42⟩, rfl⟩ := hp42
                    show hpV _ _ _ _ _ _ _ _ _ _ _ _ _ _ _ _ _ _ _ _ _ (_ :: _)
                    refine h_if_eq (tgt := 206) C dX9_advance_162 (by decide) ⟨by omega, by omega⟩ (fun h43 => ?_) (fun h43 => ?_)
                    · refine h_aload_n C dX9_advance_206 0 rfl rfl ?_
                      refine h_iconst C dX9_advance_207 ?_
                      refine h_put C O9 10 kd_195 (by decide) rfl wd_1266 dX9_advance_208 rfl rfl (hp_fvI (by rw [kd_195]; rfl) hpu_at) ?_
                      obtain ⟨τ44, e44⟩ : ∃ μ : hpMem, μ = hpw τ39 195 10 2 := ⟨_, rfl⟩
                      rw [← e44]
                      have hI44 : hpInv τ44 := by rw [e44]; exact hI39.w (bf_9_10 kd_195) (by omega) (by omega)
                      have hF44 : ∀ j i : Nat, (j ≠ 195 ∨ (i ≠ 8 ∧ i ≠ 9 ∧ i ≠ 10 ∧ i ≠ 11)) → τ44 j i = σ j i := fun j i h_0 => by rw [e44]; exact (hpw_fr (by omega)).trans (hF39 j i h_0)
                      have hg45 : τ44 195 8 = r40 := by rw [e44]; exact (hpw_fr (Or.inr (by decide))).trans hg40
                      have hg46 : τ44 195 10 = 2 := by rw [e44]; exact hpw_eq
                      refine h_goto (tgt := 239) C dX9_advance_211 (by decide) ?_
                      refine h_return C hr hlk dX9_advance_239 ?_
                      exact ⟨rfl, hI44, hF44⟩
                    · refine h_aload_n C dX9_advance_165 0 rfl rfl ?_
                      refine h_ldc C 99999 wd_1436 (by decide) dX9_advance_166 ?_
                      refine h_bipush C dX9_advance_168 (by decide) ?_
                      refine h_aload_n C dX9_advance_170 0 rfl rfl ?_
                      refine h_get C O9 11 kd_195 (by decide) wd_1267 dX9_advance_171 (hp_fvI (by rw [kd_195]; rfl) rfl) ?_
                      obtain ⟨hr47a, hr47b⟩ := hI39.b (bf_9_11 kd_195)
                      generalize hg47 : τ39 195 11 = r47 at hr47a hr47b ⊢
                      refine h_imul C dX9_advance_174 rfl ?_
                      refine hp_anyI (fun r48 hr48 => ?_)
                      obtain ⟨hr48a, hr48b⟩ := hr48
                      refine h_aload_n C dX9_advance_175 0 rfl rfl ?_
                      refine h_aload_n C dX9_advance_176 0 rfl rfl ?_
                      refine h_get C O9 8 kd_195 (by decide) wd_1264 dX9_advance_177 (hp_fvI (by rw [kd_195]; rfl) rfl) ?_
                      rw [hg40]
                      refine h_callV (As := [.int (hpI r40)]) (rest := [.int (hpI r48), .int (hpI 99999), .ref (z + 195)]) C Z yyX9_see wd_1428 (tgX9_see l D cy z _ r40 ⟨by omega, by omega⟩ hI39 (by omega)) kd_195 rfl rfl ⟨rfl, rfl, Nat.le_of_ble_eq_true rfl, Nat.le_of_ble_eq_true rfl⟩ ⟨Nat.le_of_ble_eq_true rfl, Nat.le_of_ble_eq_true rfl⟩ (Nat.le_of_ble_eq_true rfl) dX9_advance_180 (fun r49 τ49 hp49 => ?_)
                      obtain ⟨⟨x49, rfl, ⟨hx49a, hx49b⟩, hx49⟩, rfl⟩ := hp49
                      show hpV _ _ _ _ _ _ _ _ _ _ _ _ _ _ _ _ _ _ _ _ _ (_ :: _)
                      refine h_iadd C dX9_advance_183 rfl ?_
                      refine hp_anyI (fun r50 hr50 => ?_)
                      obtain ⟨hr50a, hr50b⟩ := hr50
                      refine h_bipush C dX9_advance_184 (by decide) ?_
                      refine h_isub C dX9_advance_186 rfl ?_
                      refine hp_anyI (fun r51 hr51 => ?_)
                      obtain ⟨hr51a, hr51b⟩ := hr51
                      refine h_mmin C wd_1437 wd_514 wd_515 wd_15 dX9_advance_187 ⟨by decide, by decide⟩ ⟨by omega, by omega⟩ (Nat.le_of_ble_eq_true rfl) (Nat.le_of_ble_eq_true rfl) ⟨Nat.le_of_ble_eq_true rfl, Nat.le_of_ble_eq_true rfl⟩ (fun r52 hr52a hr52b hr52c => ?_)
                      refine h_put C O9 11 kd_195 (by decide) rfl wd_1267 dX9_advance_190 rfl rfl (hp_fvI (by rw [kd_195]; rfl) hpu_at) ?_
                      obtain ⟨τ53, e53⟩ : ∃ μ : hpMem, μ = hpw τ39 195 11 r52 := ⟨_, rfl⟩
                      rw [← e53]
                      have hI53 : hpInv τ53 := by rw [e53]; exact hI39.w (bf_9_11 kd_195) (by omega) (by omega)
                      have hF53 : ∀ j i : Nat, (j ≠ 195 ∨ (i ≠ 8 ∧ i ≠ 9 ∧ i ≠ 10 ∧ i ≠ 11)) → τ53 j i = σ j i := fun j i h_0 => by rw [e53]; exact (hpw_fr (by omega)).trans (hF39 j i h_0)
                      have hg54 : τ53 195 8 = r40 := by rw [e53]; exact (hpw_fr (Or.inr (by decide))).trans hg40
                      have hg55 : τ53 195 11 = r52 := by rw [e53]; exact hpw_eq
                      refine h_aload_n C dX9_advance_193 0 rfl rfl ?_
                      refine h_dup C rfl dX9_advance_194 ?_
                      refine h_get C O9 8 kd_195 (by decide) wd_1264 dX9_advance_195 (hp_fvI (by rw [kd_195]; rfl) rfl) ?_
                      rw [hg54]
                      refine h_iconst C dX9_advance_198 ?_
                      refine h_iadd C dX9_advance_199 rfl ?_
                      refine h_put C O9 8 kd_195 (by decide) rfl wd_1264 dX9_advance_200 rfl rfl (hp_fvI (by rw [kd_195]; rfl) hpu_at) ?_
                      obtain ⟨τ56, e56⟩ : ∃ μ : hpMem, μ = hpw τ53 195 8 (r40 + 1) := ⟨_, rfl⟩
                      rw [← e56]
                      have hI56 : hpInv τ56 := by rw [e56]; exact hI53.w (bf_9_8 kd_195) (by omega) (by omega)
                      have hF56 : ∀ j i : Nat, (j ≠ 195 ∨ (i ≠ 8 ∧ i ≠ 9 ∧ i ≠ 10 ∧ i ≠ 11)) → τ56 j i = σ j i := fun j i h_0 => by rw [e56]; exact (hpw_fr (by omega)).trans (hF53 j i h_0)
                      have hg57 : τ56 195 11 = r52 := by rw [e56]; exact (hpw_fr (Or.inr (by decide))).trans hg55
                      have hg58 : τ56 195 8 = r40 + 1 := by rw [e56]; exact hpw_eq
                      refine h_goto (tgt := 144) C dX9_advance_203 (by decide) ?_
                      have hy39_0 := hI56.b (bf_9_8 kd_195)
                      exact hp_sub [0, 1] rfl (ih39 _ hI56 hF56 (by omega))
                have hz39_0 := hI35.b (bf_9_8 kd_195)
                exact hp_sub [1, 0] rfl (L39 8589934592 _ hI35 hF35 (by omega))
            · have L59 : ∀ (n59 : Nat) (τ59 : hpMem), hpInv τ59 → (∀ j i : Nat, (j ≠ 195 ∨ (i ≠ 8 ∧ i ≠ 9 ∧ i ≠ 10 ∧ i ≠ 11)) → τ59 j i = σ j i) → (501 - τ59 195 8) < (n59 : Int) → hpF p l e rgX9_advance s m [.ref (z + 195)] below meth c 2 D cy z (pgX9_advance z σ) τ59 83 [(0, .ref (z + 195)), (1, .int (hpI x12))] [] := by
                intro n59
                induction n59 with
                | zero => intro τ59 hI59 hF59 hm59; have hz59_0 := hI59.b (bf_9_8 kd_195); exfalso; omega
                | succ n59 ih59 =>
                  intro τ59 hI59 hF59 hm59
                  have hz59_0 := hI59.b (bf_9_8 kd_195)
                  refine h_aload_n C dX9_advance_83 0 rfl rfl ?_
                  refine h_aload_n C dX9_advance_84 0 rfl rfl ?_
                  refine h_get C O9 8 kd_195 (by decide) wd_1264 dX9_advance_85 (hp_fvI (by rw [kd_195]; rfl) rfl) ?_
                  obtain ⟨hr60a, hr60b⟩ := hI59.b (bf_9_8 kd_195)
                  generalize hg60 : τ59 195 8 = r60 at hr60a hr60b ⊢
                  refine h_callV (As := [.int (hpI r60)]) (rest := []) C Z yyX9_see wd_1428 (tgX9_see l D cy z _ r60 ⟨by omega, by omega⟩ hI59 (by omega)) kd_195 rfl rfl ⟨rfl, rfl, Nat.le_of_ble_eq_true rfl, Nat.le_of_ble_eq_true rfl⟩ ⟨Nat.le_of_ble_eq_true rfl, Nat.le_of_ble_eq_true rfl⟩ (Nat.le_of_ble_eq_true rfl) dX9_advance_88 (fun r61 τ61 hp61 => ?_)
                  obtain ⟨⟨x61, rfl, ⟨hx61a, hx61b⟩, hx61⟩, rfl⟩ := hp61
                  show hpV _ _ _ _ _ _ _ _ _ _ _ _ _ _ _ _ _ _ _ _ _ (_ :: _)
                  refine h_i2l C dX9_advance_91 ⟨by omega, by omega⟩ ?_
                  refine h_ldc2 C 97 wd_1432 (by decide) dX9_advance_92 ?_
                  refine h_ldc2 C 122 wd_1433 (by decide) dX9_advance_95 ?_
                  refine h_callS (As := [.long (hpJ x61), .long (hpJ 97), .long (hpJ 122)]) (rest := []) C Z yyX9_in rfl wd_1401 (tgX9_in l D cy z _ x61 ⟨by omega, by omega⟩ 97 ⟨by decide, by decide⟩ 122 ⟨by decide, by decide⟩ hI59) rfl rfl ⟨rfl, rfl, Nat.le_of_ble_eq_true rfl, Nat.le_of_ble_eq_true rfl⟩ ⟨Nat.le_of_ble_eq_true rfl, Nat.le_of_ble_eq_true rfl⟩ (Nat.le_of_ble_eq_true rfl) dX9_advance_98 (fun r62 τ62 hp62 => ?_)
                  obtain ⟨⟨x62, rfl, ⟨hx62a, hx62b⟩, hx62⟩, rfl⟩ := hp62
                  show hpV _ _ _ _ _ _ _ _ _ _ _ _ _ _ _ _ _ _ _ _ _ (_ :: _)
                  refine h_if_eq (tgt := 117) C dX9_advance_101 (by decide) ⟨by omega, by omega⟩ (fun h63 => ?_) (fun h63 => ?_)
                  · refine h_aload_n C dX9_advance_117 0 rfl rfl ?_
                    refine h_iconst C dX9_advance_118 ?_
                    refine h_put C O9 10 kd_195 (by decide) rfl wd_1266 dX9_advance_119 rfl rfl (hp_fvI (by rw [kd_195]; rfl) hpu_at) ?_
                    obtain ⟨τ64, e64⟩ : ∃ μ : hpMem, μ = hpw τ59 195 10 1 := ⟨_, rfl⟩
                    rw [← e64]
                    have hI64 : hpInv τ64 := by rw [e64]; exact hI59.w (bf_9_10 kd_195) (by omega) (by omega)
                    have hF64 : ∀ j i : Nat, (j ≠ 195 ∨ (i ≠ 8 ∧ i ≠ 9 ∧ i ≠ 10 ∧ i ≠ 11)) → τ64 j i = σ j i := fun j i h_0 => by rw [e64]; exact (hpw_fr (by omega)).trans (hF59 j i h_0)
                    have hg65 : τ64 195 8 = r60 := by rw [e64]; exact (hpw_fr (Or.inr (by decide))).trans hg60
                    have hg66 : τ64 195 10 = 1 := by rw [e64]; exact hpw_eq
                    refine h_goto (tgt := 239) C dX9_advance_122 (by decide) ?_
                    refine h_return C hr hlk dX9_advance_239 ?_
                    exact ⟨rfl, hI64, hF64⟩
                  · refine h_aload_n C dX9_advance_104 0 rfl rfl ?_
                    refine h_dup C rfl dX9_advance_105 ?_
                    refine h_get C O9 8 kd_195 (by decide) wd_1264 dX9_advance_106 (hp_fvI (by rw [kd_195]; rfl) rfl) ?_
                    rw [hg60]
                    refine h_iconst C dX9_advance_109 ?_
                    refine h_iadd C dX9_advance_110 rfl ?_
                    refine h_put C O9 8 kd_195 (by decide) rfl wd_1264 dX9_advance_111 rfl rfl (hp_fvI (by rw [kd_195]; rfl) hpu_at) ?_
                    obtain ⟨τ67, e67⟩ : ∃ μ : hpMem, μ = hpw τ59 195 8 (r60 + 1) := ⟨_, rfl⟩
                    rw [← e67]
                    have hI67 : hpInv τ67 := by rw [e67]; exact hI59.w (bf_9_8 kd_195) (by omega) (by omega)
                    have hF67 : ∀ j i : Nat, (j ≠ 195 ∨ (i ≠ 8 ∧ i ≠ 9 ∧ i ≠ 10 ∧ i ≠ 11)) → τ67 j i = σ j i := fun j i h_0 => by rw [e67]; exact (hpw_fr (by omega)).trans (hF59 j i h_0)
                    have hg68 : τ67 195 8 = r60 + 1 := by rw [e67]; exact hpw_eq
                    refine h_goto (tgt := 83) C dX9_advance_114 (by decide) ?_
                    have hy59_0 := hI67.b (bf_9_8 kd_195)
                    exact hp_sub [0, 1] rfl (ih59 _ hI67 hF67 (by omega))
              have hz59_0 := hI9.b (bf_9_8 kd_195)
              exact hp_sub [1, 0] rfl (L59 8589934592 _ hI9 hF9 (by omega))
          · refine h_aload_n C dX9_advance_61 1 rfl rfl ?_
            refine h_iconst C dX9_advance_62 ?_
            refine h_put C O9 10 kd_195 (by decide) rfl wd_1266 dX9_advance_63 rfl rfl (hp_fvI (by rw [kd_195]; rfl) hpu_at) ?_
            obtain ⟨τ69, e69⟩ : ∃ μ : hpMem, μ = hpw τ9 195 10 0 := ⟨_, rfl⟩
            rw [← e69]
            have hI69 : hpInv τ69 := by rw [e69]; exact hI9.w (bf_9_10 kd_195) (by omega) (by omega)
            have hF69 : ∀ j i : Nat, (j ≠ 195 ∨ (i ≠ 8 ∧ i ≠ 9 ∧ i ≠ 10 ∧ i ≠ 11)) → τ69 j i = σ j i := fun j i h_0 => by rw [e69]; exact (hpw_fr (by omega)).trans (hF9 j i h_0)
            have hg70 : τ69 195 8 = r2 := by rw [e69]; exact (hpw_fr (Or.inr (by decide))).trans hg10
            have hg71 : τ69 195 9 = r2 := by rw [e69]; exact (hpw_fr (Or.inr (by decide))).trans hg11
            have hg72 : τ69 195 10 = 0 := by rw [e69]; exact hpw_eq
            refine h_goto (tgt := 239) C dX9_advance_66 (by decide) ?_
            refine h_return C hr hlk dX9_advance_239 ?_
            exact ⟨rfl, hI69, hF69⟩
        · refine h_aload_n C dX9_advance_26 0 rfl rfl ?_
          refine h_dup C rfl dX9_advance_27 ?_
          refine h_get C O9 8 kd_195 (by decide) wd_1264 dX9_advance_28 (hp_fvI (by rw [kd_195]; rfl) rfl) ?_
          rw [hg2]
          refine h_iconst C dX9_advance_31 ?_
          refine h_iadd C dX9_advance_32 rfl ?_
          refine h_put C O9 8 kd_195 (by decide) rfl wd_1264 dX9_advance_33 rfl rfl (hp_fvI (by rw [kd_195]; rfl) hpu_at) ?_
          obtain ⟨τ73, e73⟩ : ∃ μ : hpMem, μ = hpw τ1 195 8 (r2 + 1) := ⟨_, rfl⟩
          rw [← e73]
          have hI73 : hpInv τ73 := by rw [e73]; exact hI1.w (bf_9_8 kd_195) (by omega) (by omega)
          have hF73 : ∀ j i : Nat, (j ≠ 195 ∨ (i ≠ 8 ∧ i ≠ 9 ∧ i ≠ 10 ∧ i ≠ 11)) → τ73 j i = σ j i := fun j i h_0 => by rw [e73]; exact (hpw_fr (by omega)).trans (hF1 j i h_0)
          have hg74 : τ73 195 8 = r2 + 1 := by rw [e73]; exact hpw_eq
          refine h_goto (tgt := 0) C dX9_advance_36 (by decide) ?_
          have hy1_0 := hI73.b (bf_9_8 kd_195)
          exact hp_sub [0] rfl (ih1 _ hI73 hF73 (by omega))
  have hz1_0 := hI.b (bf_9_8 kd_195)
  exact hp_sub [0] rfl (L1 8589934592 _ hI hF0 (by omega))
abbrev rgX9_good : Room := { frames := 0, cells := 0, slots := 0, locals := 0 }
abbrev pgX9_good (z : Nat) (σ : hpMem) : Option Value → hpMem → Prop := fun r τ => (∃ x : Int, r = some (.int (hpI x)) ∧ (0 ≤ x ∧ x ≤ 1) ∧ ((x = 1 ∧ σ 195 12 = 0) ∨ (x = 0 ∧ σ 195 12 ≠ 0))) ∧ σ = τ
set_option maxHeartbeats 4000000 in
set_option maxRecDepth 20000 in
theorem tgX9_good (l : Launch) (D : va_G) (cy : Nat → ClassId) (z : Nat) (σ : hpMem) (hI : hpInv σ) : hpM l D cy z yX9_good cX9_good 1 (some .boolean) rgX9_good [.ref (z + 195)] σ (pgX9_good z σ) := by
  refine hp_met rfl (Nat.le_of_ble_eq_true rfl) (fun p e s m below meth c C Z hr hlk => ?_)
  refine h_aload_n C dX9_good_0 0 rfl rfl ?_
  refine h_get C O9 12 kd_195 (by decide) wd_1268 dX9_good_1 (hp_fvI (by rw [kd_195]; rfl) rfl) ?_
  obtain ⟨hr1a, hr1b⟩ := hI.b (bf_9_12 kd_195)
  generalize hg1 : σ 195 12 = r1 at hr1a hr1b ⊢
  refine h_if_ne (tgt := 11) C dX9_good_4 (by decide) ⟨by omega, by omega⟩ (fun h2 => ?_) (fun h2 => ?_)
  · refine h_iconst C dX9_good_11 ?_
    refine h_zreturn C (by omega) hr hlk dX9_good_12 ?_
    exact ⟨⟨_, rfl, ⟨by decide, by decide⟩, by omega⟩, rfl⟩
  · refine h_iconst C dX9_good_7 ?_
    refine h_goto (tgt := 12) C dX9_good_8 (by decide) ?_
    refine h_zreturn C (by omega) hr hlk dX9_good_12 ?_
    exact ⟨⟨_, rfl, ⟨by decide, by decide⟩, by omega⟩, rfl⟩
abbrev rgX9_errs : Room := { frames := 1, cells := 0, slots := 0, locals := 20 }
abbrev pgX9_errs (z : Nat) (σ : hpMem) (a0 : Int) : Option Value → hpMem → Prop := fun r τ => r = none ∧ hpInv τ ∧ (∀ j i : Nat, (j ≠ 195 ∨ (i ≠ 12 ∧ i ≠ 13)) → τ j i = σ j i) ∧ (τ 195 12 ≠ 0)
set_option maxHeartbeats 4000000 in
set_option maxRecDepth 20000 in
theorem tgX9_errs (l : Launch) (D : va_G) (cy : Nat → ClassId) (z : Nat) (σ : hpMem) (a0 : Int) (ha0 : hpR a0) (hI : hpInv σ) (hk1 : 1 ≤ a0) : hpM l D cy z yX9_errs cX9_errs 2 none rgX9_errs [.ref (z + 195), .int (hpI a0)] σ (pgX9_errs z σ a0) := by
  obtain ⟨ha01, ha02⟩ := ha0
  refine hp_met rfl (Nat.le_of_ble_eq_true rfl) (fun p e s m below meth c C Z hr hlk => ?_)
  have hF0 : ∀ j i : Nat, (j ≠ 195 ∨ (i ≠ 12 ∧ i ≠ 13)) → σ j i = σ j i := fun j i _ => rfl
  refine h_aload_n C dX9_errs_0 0 rfl rfl ?_
  refine h_callV (As := []) (rest := []) C Z yyX9_good wd_1438 (tgX9_good l D cy z _ hI) kd_195 rfl rfl ⟨rfl, rfl, Nat.le_of_ble_eq_true rfl, Nat.le_of_ble_eq_true rfl⟩ ⟨Nat.le_of_ble_eq_true rfl, Nat.le_of_ble_eq_true rfl⟩ (Nat.le_of_ble_eq_true rfl) dX9_errs_1 (fun r1 τ1 hp1 => ?_)
  obtain ⟨⟨x1, rfl, ⟨hx1a, hx1b⟩, hx1⟩, rfl⟩ := hp1
  show hpV _ _ _ _ _ _ _ _ _ _ _ _ _ _ _ _ _ _ _ _ _ (_ :: _)
  refine h_if_ne (tgt := 8) C dX9_errs_4 (by decide) ⟨by omega, by omega⟩ (fun h2 => ?_) (fun h2 => ?_)
  · refine h_aload_n C dX9_errs_8 0 rfl rfl ?_
    refine h_iload_n C dX9_errs_9 1 rfl rfl ?_
    refine h_put C O9 12 kd_195 (by decide) rfl wd_1268 dX9_errs_10 rfl rfl (hp_fvI (by rw [kd_195]; rfl) hpu_at) ?_
    obtain ⟨τ3, e3⟩ : ∃ μ : hpMem, μ = hpw σ 195 12 a0 := ⟨_, rfl⟩
    rw [← e3]
    have hI3 : hpInv τ3 := by rw [e3]; exact hI.w (bf_9_12 kd_195) (by omega) (by omega)
    have hF3 : ∀ j i : Nat, (j ≠ 195 ∨ (i ≠ 12 ∧ i ≠ 13)) → τ3 j i = σ j i := fun j i h_0 => by rw [e3]; exact (hpw_fr (by omega)).trans (hF0 j i h_0)
    have hg4 : τ3 195 12 = a0 := by rw [e3]; exact hpw_eq
    refine h_aload_n C dX9_errs_13 0 rfl rfl ?_
    refine h_aload_n C dX9_errs_14 0 rfl rfl ?_
    refine h_get C O9 9 kd_195 (by decide) wd_1265 dX9_errs_15 (hp_fvI (by rw [kd_195]; rfl) rfl) ?_
    obtain ⟨hr5a, hr5b⟩ := hI3.b (bf_9_9 kd_195)
    generalize hg5 : τ3 195 9 = r5 at hr5a hr5b ⊢
    refine h_put C O9 13 kd_195 (by decide) rfl wd_1269 dX9_errs_18 rfl rfl (hp_fvI (by rw [kd_195]; rfl) hpu_at) ?_
    obtain ⟨τ6, e6⟩ : ∃ μ : hpMem, μ = hpw τ3 195 13 r5 := ⟨_, rfl⟩
    rw [← e6]
    have hI6 : hpInv τ6 := by rw [e6]; exact hI3.w (bf_9_13 kd_195) (by omega) (by omega)
    have hF6 : ∀ j i : Nat, (j ≠ 195 ∨ (i ≠ 12 ∧ i ≠ 13)) → τ6 j i = σ j i := fun j i h_0 => by rw [e6]; exact (hpw_fr (by omega)).trans (hF3 j i h_0)
    have hg7 : τ6 195 12 = a0 := by rw [e6]; exact (hpw_fr (Or.inr (by decide))).trans hg4
    have hg8 : τ6 195 9 = r5 := by rw [e6]; exact (hpw_fr (Or.inr (by decide))).trans hg5
    have hg9 : τ6 195 13 = r5 := by rw [e6]; exact hpw_eq
    refine h_return C hr hlk dX9_errs_21 ?_
    exact ⟨rfl, hI6, hF6, by omega⟩
  · refine h_return C hr hlk dX9_errs_7 ?_
    exact ⟨rfl, hI, hF0, by omega⟩
abbrev rgX9_is : Room := { frames := 4, cells := 0, slots := 0, locals := 85 }
abbrev pgX9_is (z : Nat) (σ : hpMem) (a0 : Nat) : Option Value → hpMem → Prop := fun r τ => (∃ x : Int, r = some (.int (hpI x)) ∧ (0 ≤ x ∧ x ≤ 1) ∧ (x = hpIsI σ a0)) ∧ σ = τ
set_option maxHeartbeats 4000000 in
set_option maxRecDepth 20000 in
theorem tgX9_is (l : Launch) (D : va_G) (cy : Nat → ClassId) (z : Nat) (σ : hpMem) (a0 : Nat) (ha0 : a0 < 16) (hI : hpInv σ) : hpM l D cy z yX9_is cX9_is 4 (some .boolean) rgX9_is [.ref (z + 195), .ref (cy (1000 + a0))] σ (pgX9_is z σ a0) := by
  have hl_a0 := hpsL_le ha0
  refine hp_met rfl (Nat.le_of_ble_eq_true rfl) (fun p e s m below meth c C Z hr hlk => ?_)
  refine h_aload_n C dX9_is_0 0 rfl rfl ?_
  refine h_callV (As := []) (rest := []) C Z yyX9_good wd_1438 (tgX9_good l D cy z _ hI) kd_195 rfl rfl ⟨rfl, rfl, Nat.le_of_ble_eq_true rfl, Nat.le_of_ble_eq_true rfl⟩ ⟨Nat.le_of_ble_eq_true rfl, Nat.le_of_ble_eq_true rfl⟩ (Nat.le_of_ble_eq_true rfl) dX9_is_1 (fun r1 τ1 hp1 => ?_)
  obtain ⟨⟨x1, rfl, ⟨hx1a, hx1b⟩, hx1⟩, rfl⟩ := hp1
  show hpV _ _ _ _ _ _ _ _ _ _ _ _ _ _ _ _ _ _ _ _ _ (_ :: _)
  refine h_if_eq (tgt := 35) C dX9_is_4 (by decide) ⟨by omega, by omega⟩ (fun h2 => ?_) (fun h2 => ?_)
  · refine h_iconst C dX9_is_35 ?_
    refine h_istore_n (lv' := [(2, .int (hpI 0)), (0, .ref (z + 195)), (1, .ref (cy (1000 + a0)))]) C dX9_is_36 rfl (by decide) rfl ?_
    refine h_iconst C dX9_is_37 ?_
    refine h_istore_n (lv' := [(3, .int (hpI 0)), (2, .int (hpI 0)), (0, .ref (z + 195)), (1, .ref (cy (1000 + a0)))]) C dX9_is_38 rfl (by decide) rfl ?_
    have L3 : ∀ (n3 : Nat) (w3_2 : Int) (w3_3 : Int), 0 ≤ w3_2 → w3_2 ≤ 1 → 0 ≤ w3_3 → w3_3 ≤ 4 → (hpIJ σ a0 w3_2 w3_3.toNat) → (4294967296 - w3_3) < (n3 : Int) → hpF p l e rgX9_is s m [.ref (z + 195), .ref (cy (1000 + a0))] below meth c 4 D cy z (pgX9_is z σ a0) σ 39 [(0, .ref (z + 195)), (1, .ref (cy (1000 + a0))), (2, .int (hpI w3_2)), (3, .int (hpI w3_3))] [] := by
      intro n3
      induction n3 with
      | zero => intro w3_2 w3_3 hv3_0 hv3_1 hv3_2 hv3_3 hM3_0 hm3; exfalso; omega
      | succ n3 ih3 =>
        intro w3_2 w3_3 hv3_0 hv3_1 hv3_2 hv3_3 hM3_0 hm3
        refine h_iload_n C dX9_is_39 3 rfl rfl ?_
        refine h_aload_n C dX9_is_40 1 rfl rfl ?_
        refine h_callO (As := []) (rest := [.int (hpI w3_3)]) C Z yyJ0_length_8abf5 wd_1463 (jdJ0_length_8abf5 l D cy z _ ha0) (Z.2.2 a0 ha0).2.1 rfl rfl ⟨rfl, rfl, Nat.le_of_ble_eq_true rfl, Nat.le_of_ble_eq_true rfl⟩ ⟨Nat.le_of_ble_eq_true rfl, Nat.le_of_ble_eq_true rfl⟩ (Nat.le_of_ble_eq_true rfl) dX9_is_41 (fun r4 τ4 hp4 => ?_)
        obtain ⟨rfl, rfl⟩ := hp4
        show hpV _ _ _ _ _ _ _ _ _ _ _ _ _ _ _ _ _ _ _ _ _ (_ :: _)
        refine h_icmp_ge (tgt := 82) C dX9_is_44 (by decide) ⟨by omega, by omega⟩ ⟨by omega, by omega⟩ (fun h5 => ?_) (fun h5 => ?_)
        · refine h_iload_n C dX9_is_82 2 rfl rfl ?_
          refine h_zreturn C (by omega) hr hlk dX9_is_83 ?_
          exact ⟨⟨_, rfl, ⟨by omega, by omega⟩, hpIsI_of (by omega) (hpIJ_f hM3_0 (by omega))⟩, rfl⟩
        · refine h_iload_n C dX9_is_47 2 rfl rfl ?_
          refine h_if_eq (tgt := 82) C dX9_is_48 (by decide) ⟨by omega, by omega⟩ (fun h6 => ?_) (fun h6 => ?_)
          · refine h_iload_n C dX9_is_82 2 rfl rfl ?_
            refine h_zreturn C (by omega) hr hlk dX9_is_83 ?_
            exact ⟨⟨_, rfl, ⟨by omega, by omega⟩, hpIsI_of (by omega) (hpIJ_f hM3_0 (by omega))⟩, rfl⟩
          · obtain ⟨-, -, hj3, -⟩ := hM3_0.1 (by omega)
            have hb8 := hI.b (bf_9_8 kd_195)
            refine h_aload_n C dX9_is_51 0 rfl rfl ?_
            refine h_get C O9 4 kd_195 (by decide) wd_1260 dX9_is_52 fr_195_4 ?_
            refine h_aload_n C dX9_is_55 0 rfl rfl ?_
            refine h_get C O9 9 kd_195 (by decide) wd_1265 dX9_is_56 (hp_fvI (by rw [kd_195]; rfl) rfl) ?_
            obtain ⟨hr7a, hr7b⟩ := hI.b (bf_9_9 kd_195)
            generalize hg7 : σ 195 9 = r7 at hr7a hr7b ⊢
            refine h_iload_n C dX9_is_59 3 rfl rfl ?_
            refine h_iadd C dX9_is_60 rfl ?_
            refine h_baload C dX9_is_61 kd_199 (r7 + w3_3).toNat (Int.toNat_of_nonneg (by omega)) (by rw [ln_199]; omega) rfl ?_
            obtain ⟨hr8a, hr8b⟩ := hI.b (bo_199 _)
            generalize hg8 : σ 199 ((r7 + w3_3).toNat) = r8 at hr8a hr8b ⊢
            refine h_aload_n C dX9_is_62 1 rfl rfl ?_
            refine h_iload_n C dX9_is_63 3 rfl rfl ?_
            refine h_callO (As := [.int (hpI w3_3)]) (rest := [.int (hpI r8)]) C Z yyJ0_charAt_5068e wd_1464 (jdJ0_charAt_5068e l D cy z _ ha0 (by omega) (by omega) (by omega)) (Z.2.2 a0 ha0).2.1 rfl rfl ⟨rfl, rfl, Nat.le_of_ble_eq_true rfl, Nat.le_of_ble_eq_true rfl⟩ ⟨Nat.le_of_ble_eq_true rfl, Nat.le_of_ble_eq_true rfl⟩ (Nat.le_of_ble_eq_true rfl) dX9_is_64 (fun r9 τ9 hp9 => ?_)
            obtain ⟨rfl, rfl⟩ := hp9
            obtain ⟨hx9a, hx9b⟩ := hpsC_b a0 ((w3_3).toNat)
            show hpV _ _ _ _ _ _ _ _ _ _ _ _ _ _ _ _ _ _ _ _ _ (_ :: _)
            refine h_icmp_ne (tgt := 74) C dX9_is_67 (by decide) ⟨by omega, by omega⟩ ⟨by omega, by omega⟩ (fun h10 => ?_) (fun h10 => ?_)
            · refine h_iconst C dX9_is_74 ?_
              refine h_istore_n (lv' := [(2, .int (hpI 0)), (0, .ref (z + 195)), (1, .ref (cy (1000 + a0))), (3, .int (hpI w3_3))]) C dX9_is_75 rfl (by decide) rfl ?_
              refine h_iinc (lv' := [(3, .int (hpI (w3_3 + 1))), (2, .int (hpI 0)), (0, .ref (z + 195)), (1, .ref (cy (1000 + a0)))]) C dX9_is_76 3 rfl rfl (by decide) rfl ?_
              refine h_goto (tgt := 39) C dX9_is_79 (by decide) ?_
              exact hp_sub [2, 3, 1, 0] rfl (ih3 0 (w3_3 + 1) (by omega) (by omega) (by omega) (by omega) (hpIJ_s hM3_0 hg7 (by omega) (by omega) (by omega) (by omega) (by omega)) (by omega))
            · refine h_iconst C dX9_is_70 ?_
              refine h_goto (tgt := 75) C dX9_is_71 (by decide) ?_
              refine h_istore_n (lv' := [(2, .int (hpI 1)), (0, .ref (z + 195)), (1, .ref (cy (1000 + a0))), (3, .int (hpI w3_3))]) C dX9_is_75 rfl (by decide) rfl ?_
              refine h_iinc (lv' := [(3, .int (hpI (w3_3 + 1))), (2, .int (hpI 1)), (0, .ref (z + 195)), (1, .ref (cy (1000 + a0)))]) C dX9_is_76 3 rfl rfl (by decide) rfl ?_
              refine h_goto (tgt := 39) C dX9_is_79 (by decide) ?_
              exact hp_sub [2, 3, 1, 0] rfl (ih3 1 (w3_3 + 1) (by omega) (by omega) (by omega) (by omega) (hpIJ_s hM3_0 hg7 (by omega) (by omega) (by omega) (by omega) (by omega)) (by omega))
    exact hp_sub [2, 3, 1, 0] rfl (L3 8589934592 0 0 (by omega) (by omega) (by omega) (by omega) (hpIJ_0 (by omega)) (by omega))
  · refine h_aload_n C dX9_is_7 0 rfl rfl ?_
    refine h_get C O9 10 kd_195 (by decide) wd_1266 dX9_is_8 (hp_fvI (by rw [kd_195]; rfl) rfl) ?_
    obtain ⟨hr11a, hr11b⟩ := hI.b (bf_9_10 kd_195)
    generalize hg11 : σ 195 10 = r11 at hr11a hr11b ⊢
    refine h_iconst C dX9_is_11 ?_
    refine h_icmp_ne (tgt := 35) C dX9_is_12 (by decide) ⟨by omega, by omega⟩ ⟨by decide, by decide⟩ (fun h12 => ?_) (fun h12 => ?_)
    · refine h_iconst C dX9_is_35 ?_
      refine h_istore_n (lv' := [(2, .int (hpI 0)), (0, .ref (z + 195)), (1, .ref (cy (1000 + a0)))]) C dX9_is_36 rfl (by decide) rfl ?_
      refine h_iconst C dX9_is_37 ?_
      refine h_istore_n (lv' := [(3, .int (hpI 0)), (2, .int (hpI 0)), (0, .ref (z + 195)), (1, .ref (cy (1000 + a0)))]) C dX9_is_38 rfl (by decide) rfl ?_
      have L13 : ∀ (n13 : Nat) (w13_2 : Int) (w13_3 : Int), 0 ≤ w13_2 → w13_2 ≤ 1 → 0 ≤ w13_3 → w13_3 ≤ 4 → (hpIJ σ a0 w13_2 w13_3.toNat) → (4294967296 - w13_3) < (n13 : Int) → hpF p l e rgX9_is s m [.ref (z + 195), .ref (cy (1000 + a0))] below meth c 4 D cy z (pgX9_is z σ a0) σ 39 [(0, .ref (z + 195)), (1, .ref (cy (1000 + a0))), (2, .int (hpI w13_2)), (3, .int (hpI w13_3))] [] := by
        intro n13
        induction n13 with
        | zero => intro w13_2 w13_3 hv13_0 hv13_1 hv13_2 hv13_3 hM13_0 hm13; exfalso; omega
        | succ n13 ih13 =>
          intro w13_2 w13_3 hv13_0 hv13_1 hv13_2 hv13_3 hM13_0 hm13
          refine h_iload_n C dX9_is_39 3 rfl rfl ?_
          refine h_aload_n C dX9_is_40 1 rfl rfl ?_
          refine h_callO (As := []) (rest := [.int (hpI w13_3)]) C Z yyJ0_length_8abf5 wd_1463 (jdJ0_length_8abf5 l D cy z _ ha0) (Z.2.2 a0 ha0).2.1 rfl rfl ⟨rfl, rfl, Nat.le_of_ble_eq_true rfl, Nat.le_of_ble_eq_true rfl⟩ ⟨Nat.le_of_ble_eq_true rfl, Nat.le_of_ble_eq_true rfl⟩ (Nat.le_of_ble_eq_true rfl) dX9_is_41 (fun r14 τ14 hp14 => ?_)
          obtain ⟨rfl, rfl⟩ := hp14
          show hpV _ _ _ _ _ _ _ _ _ _ _ _ _ _ _ _ _ _ _ _ _ (_ :: _)
          refine h_icmp_ge (tgt := 82) C dX9_is_44 (by decide) ⟨by omega, by omega⟩ ⟨by omega, by omega⟩ (fun h15 => ?_) (fun h15 => ?_)
          · refine h_iload_n C dX9_is_82 2 rfl rfl ?_
            refine h_zreturn C (by omega) hr hlk dX9_is_83 ?_
            exact ⟨⟨_, rfl, ⟨by omega, by omega⟩, hpIsI_of (by omega) (hpIJ_f hM13_0 (by omega))⟩, rfl⟩
          · refine h_iload_n C dX9_is_47 2 rfl rfl ?_
            refine h_if_eq (tgt := 82) C dX9_is_48 (by decide) ⟨by omega, by omega⟩ (fun h16 => ?_) (fun h16 => ?_)
            · refine h_iload_n C dX9_is_82 2 rfl rfl ?_
              refine h_zreturn C (by omega) hr hlk dX9_is_83 ?_
              exact ⟨⟨_, rfl, ⟨by omega, by omega⟩, hpIsI_of (by omega) (hpIJ_f hM13_0 (by omega))⟩, rfl⟩
            · obtain ⟨-, -, hj3, -⟩ := hM13_0.1 (by omega)
              have hb8 := hI.b (bf_9_8 kd_195)
              refine h_aload_n C dX9_is_51 0 rfl rfl ?_
              refine h_get C O9 4 kd_195 (by decide) wd_1260 dX9_is_52 fr_195_4 ?_
              refine h_aload_n C dX9_is_55 0 rfl rfl ?_
              refine h_get C O9 9 kd_195 (by decide) wd_1265 dX9_is_56 (hp_fvI (by rw [kd_195]; rfl) rfl) ?_
              obtain ⟨hr17a, hr17b⟩ := hI.b (bf_9_9 kd_195)
              generalize hg17 : σ 195 9 = r17 at hr17a hr17b ⊢
              refine h_iload_n C dX9_is_59 3 rfl rfl ?_
              refine h_iadd C dX9_is_60 rfl ?_
              refine h_baload C dX9_is_61 kd_199 (r17 + w13_3).toNat (Int.toNat_of_nonneg (by omega)) (by rw [ln_199]; omega) rfl ?_
              obtain ⟨hr18a, hr18b⟩ := hI.b (bo_199 _)
              generalize hg18 : σ 199 ((r17 + w13_3).toNat) = r18 at hr18a hr18b ⊢
              refine h_aload_n C dX9_is_62 1 rfl rfl ?_
              refine h_iload_n C dX9_is_63 3 rfl rfl ?_
              refine h_callO (As := [.int (hpI w13_3)]) (rest := [.int (hpI r18)]) C Z yyJ0_charAt_5068e wd_1464 (jdJ0_charAt_5068e l D cy z _ ha0 (by omega) (by omega) (by omega)) (Z.2.2 a0 ha0).2.1 rfl rfl ⟨rfl, rfl, Nat.le_of_ble_eq_true rfl, Nat.le_of_ble_eq_true rfl⟩ ⟨Nat.le_of_ble_eq_true rfl, Nat.le_of_ble_eq_true rfl⟩ (Nat.le_of_ble_eq_true rfl) dX9_is_64 (fun r19 τ19 hp19 => ?_)
              obtain ⟨rfl, rfl⟩ := hp19
              obtain ⟨hx19a, hx19b⟩ := hpsC_b a0 ((w13_3).toNat)
              show hpV _ _ _ _ _ _ _ _ _ _ _ _ _ _ _ _ _ _ _ _ _ (_ :: _)
              refine h_icmp_ne (tgt := 74) C dX9_is_67 (by decide) ⟨by omega, by omega⟩ ⟨by omega, by omega⟩ (fun h20 => ?_) (fun h20 => ?_)
              · refine h_iconst C dX9_is_74 ?_
                refine h_istore_n (lv' := [(2, .int (hpI 0)), (0, .ref (z + 195)), (1, .ref (cy (1000 + a0))), (3, .int (hpI w13_3))]) C dX9_is_75 rfl (by decide) rfl ?_
                refine h_iinc (lv' := [(3, .int (hpI (w13_3 + 1))), (2, .int (hpI 0)), (0, .ref (z + 195)), (1, .ref (cy (1000 + a0)))]) C dX9_is_76 3 rfl rfl (by decide) rfl ?_
                refine h_goto (tgt := 39) C dX9_is_79 (by decide) ?_
                exact hp_sub [2, 3, 1, 0] rfl (ih13 0 (w13_3 + 1) (by omega) (by omega) (by omega) (by omega) (hpIJ_s hM13_0 hg17 (by omega) (by omega) (by omega) (by omega) (by omega)) (by omega))
              · refine h_iconst C dX9_is_70 ?_
                refine h_goto (tgt := 75) C dX9_is_71 (by decide) ?_
                refine h_istore_n (lv' := [(2, .int (hpI 1)), (0, .ref (z + 195)), (1, .ref (cy (1000 + a0))), (3, .int (hpI w13_3))]) C dX9_is_75 rfl (by decide) rfl ?_
                refine h_iinc (lv' := [(3, .int (hpI (w13_3 + 1))), (2, .int (hpI 1)), (0, .ref (z + 195)), (1, .ref (cy (1000 + a0)))]) C dX9_is_76 3 rfl rfl (by decide) rfl ?_
                refine h_goto (tgt := 39) C dX9_is_79 (by decide) ?_
                exact hp_sub [2, 3, 1, 0] rfl (ih13 1 (w13_3 + 1) (by omega) (by omega) (by omega) (by omega) (hpIJ_s hM13_0 hg17 (by omega) (by omega) (by omega) (by omega) (by omega)) (by omega))
      exact hp_sub [2, 3, 1, 0] rfl (L13 8589934592 0 0 (by omega) (by omega) (by omega) (by omega) (hpIJ_0 (by omega)) (by omega))
    · refine h_aload_n C dX9_is_15 0 rfl rfl ?_
      refine h_get C O9 8 kd_195 (by decide) wd_1264 dX9_is_16 (hp_fvI (by rw [kd_195]; rfl) rfl) ?_
      obtain ⟨hr21a, hr21b⟩ := hI.b (bf_9_8 kd_195)
      generalize hg21 : σ 195 8 = r21 at hr21a hr21b ⊢
      refine h_aload_n C dX9_is_19 0 rfl rfl ?_
      refine h_get C O9 9 kd_195 (by decide) wd_1265 dX9_is_20 (hp_fvI (by rw [kd_195]; rfl) rfl) ?_
      obtain ⟨hr22a, hr22b⟩ := hI.b (bf_9_9 kd_195)
      generalize hg22 : σ 195 9 = r22 at hr22a hr22b ⊢
      refine h_isub C dX9_is_23 rfl ?_
      refine h_aload_n C dX9_is_24 1 rfl rfl ?_
      refine h_callO (As := []) (rest := [.int (hpI (r21 - r22))]) C Z yyJ0_length_8abf5 wd_1463 (jdJ0_length_8abf5 l D cy z _ ha0) (Z.2.2 a0 ha0).2.1 rfl rfl ⟨rfl, rfl, Nat.le_of_ble_eq_true rfl, Nat.le_of_ble_eq_true rfl⟩ ⟨Nat.le_of_ble_eq_true rfl, Nat.le_of_ble_eq_true rfl⟩ (Nat.le_of_ble_eq_true rfl) dX9_is_25 (fun r23 τ23 hp23 => ?_)
      obtain ⟨rfl, rfl⟩ := hp23
      show hpV _ _ _ _ _ _ _ _ _ _ _ _ _ _ _ _ _ _ _ _ _ (_ :: _)
      refine h_icmp_ne (tgt := 35) C dX9_is_28 (by decide) ⟨by omega, by omega⟩ ⟨by omega, by omega⟩ (fun h24 => ?_) (fun h24 => ?_)
      · refine h_iconst C dX9_is_35 ?_
        refine h_istore_n (lv' := [(2, .int (hpI 0)), (0, .ref (z + 195)), (1, .ref (cy (1000 + a0)))]) C dX9_is_36 rfl (by decide) rfl ?_
        refine h_iconst C dX9_is_37 ?_
        refine h_istore_n (lv' := [(3, .int (hpI 0)), (2, .int (hpI 0)), (0, .ref (z + 195)), (1, .ref (cy (1000 + a0)))]) C dX9_is_38 rfl (by decide) rfl ?_
        have L25 : ∀ (n25 : Nat) (w25_2 : Int) (w25_3 : Int), 0 ≤ w25_2 → w25_2 ≤ 1 → 0 ≤ w25_3 → w25_3 ≤ 4 → (hpIJ σ a0 w25_2 w25_3.toNat) → (4294967296 - w25_3) < (n25 : Int) → hpF p l e rgX9_is s m [.ref (z + 195), .ref (cy (1000 + a0))] below meth c 4 D cy z (pgX9_is z σ a0) σ 39 [(0, .ref (z + 195)), (1, .ref (cy (1000 + a0))), (2, .int (hpI w25_2)), (3, .int (hpI w25_3))] [] := by
          intro n25
          induction n25 with
          | zero => intro w25_2 w25_3 hv25_0 hv25_1 hv25_2 hv25_3 hM25_0 hm25; exfalso; omega
          | succ n25 ih25 =>
            intro w25_2 w25_3 hv25_0 hv25_1 hv25_2 hv25_3 hM25_0 hm25
            refine h_iload_n C dX9_is_39 3 rfl rfl ?_
            refine h_aload_n C dX9_is_40 1 rfl rfl ?_
            refine h_callO (As := []) (rest := [.int (hpI w25_3)]) C Z yyJ0_length_8abf5 wd_1463 (jdJ0_length_8abf5 l D cy z _ ha0) (Z.2.2 a0 ha0).2.1 rfl rfl ⟨rfl, rfl, Nat.le_of_ble_eq_true rfl, Nat.le_of_ble_eq_true rfl⟩ ⟨Nat.le_of_ble_eq_true rfl, Nat.le_of_ble_eq_true rfl⟩ (Nat.le_of_ble_eq_true rfl) dX9_is_41 (fun r26 τ26 hp26 => ?_)
            obtain ⟨rfl, rfl⟩ := hp26
            show hpV _ _ _ _ _ _ _ _ _ _ _ _ _ _ _ _ _ _ _ _ _ (_ :: _)
            refine h_icmp_ge (tgt := 82) C dX9_is_44 (by decide) ⟨by omega, by omega⟩ ⟨by omega, by omega⟩ (fun h27 => ?_) (fun h27 => ?_)
            · refine h_iload_n C dX9_is_82 2 rfl rfl ?_
              refine h_zreturn C (by omega) hr hlk dX9_is_83 ?_
              exact ⟨⟨_, rfl, ⟨by omega, by omega⟩, hpIsI_of (by omega) (hpIJ_f hM25_0 (by omega))⟩, rfl⟩
            · refine h_iload_n C dX9_is_47 2 rfl rfl ?_
              refine h_if_eq (tgt := 82) C dX9_is_48 (by decide) ⟨by omega, by omega⟩ (fun h28 => ?_) (fun h28 => ?_)
              · refine h_iload_n C dX9_is_82 2 rfl rfl ?_
                refine h_zreturn C (by omega) hr hlk dX9_is_83 ?_
                exact ⟨⟨_, rfl, ⟨by omega, by omega⟩, hpIsI_of (by omega) (hpIJ_f hM25_0 (by omega))⟩, rfl⟩
              · obtain ⟨-, -, hj3, -⟩ := hM25_0.1 (by omega)
                have hb8 := hI.b (bf_9_8 kd_195)
                refine h_aload_n C dX9_is_51 0 rfl rfl ?_
                refine h_get C O9 4 kd_195 (by decide) wd_1260 dX9_is_52 fr_195_4 ?_
                refine h_aload_n C dX9_is_55 0 rfl rfl ?_
                refine h_get C O9 9 kd_195 (by decide) wd_1265 dX9_is_56 (hp_fvI (by rw [kd_195]; rfl) rfl) ?_
                rw [hg22]
                refine h_iload_n C dX9_is_59 3 rfl rfl ?_
                refine h_iadd C dX9_is_60 rfl ?_
                refine h_baload C dX9_is_61 kd_199 (r22 + w25_3).toNat (Int.toNat_of_nonneg (by omega)) (by rw [ln_199]; omega) rfl ?_
                obtain ⟨hr29a, hr29b⟩ := hI.b (bo_199 _)
                generalize hg29 : σ 199 ((r22 + w25_3).toNat) = r29 at hr29a hr29b ⊢
                refine h_aload_n C dX9_is_62 1 rfl rfl ?_
                refine h_iload_n C dX9_is_63 3 rfl rfl ?_
                refine h_callO (As := [.int (hpI w25_3)]) (rest := [.int (hpI r29)]) C Z yyJ0_charAt_5068e wd_1464 (jdJ0_charAt_5068e l D cy z _ ha0 (by omega) (by omega) (by omega)) (Z.2.2 a0 ha0).2.1 rfl rfl ⟨rfl, rfl, Nat.le_of_ble_eq_true rfl, Nat.le_of_ble_eq_true rfl⟩ ⟨Nat.le_of_ble_eq_true rfl, Nat.le_of_ble_eq_true rfl⟩ (Nat.le_of_ble_eq_true rfl) dX9_is_64 (fun r30 τ30 hp30 => ?_)
                obtain ⟨rfl, rfl⟩ := hp30
                obtain ⟨hx30a, hx30b⟩ := hpsC_b a0 ((w25_3).toNat)
                show hpV _ _ _ _ _ _ _ _ _ _ _ _ _ _ _ _ _ _ _ _ _ (_ :: _)
                refine h_icmp_ne (tgt := 74) C dX9_is_67 (by decide) ⟨by omega, by omega⟩ ⟨by omega, by omega⟩ (fun h31 => ?_) (fun h31 => ?_)
                · refine h_iconst C dX9_is_74 ?_
                  refine h_istore_n (lv' := [(2, .int (hpI 0)), (0, .ref (z + 195)), (1, .ref (cy (1000 + a0))), (3, .int (hpI w25_3))]) C dX9_is_75 rfl (by decide) rfl ?_
                  refine h_iinc (lv' := [(3, .int (hpI (w25_3 + 1))), (2, .int (hpI 0)), (0, .ref (z + 195)), (1, .ref (cy (1000 + a0)))]) C dX9_is_76 3 rfl rfl (by decide) rfl ?_
                  refine h_goto (tgt := 39) C dX9_is_79 (by decide) ?_
                  exact hp_sub [2, 3, 1, 0] rfl (ih25 0 (w25_3 + 1) (by omega) (by omega) (by omega) (by omega) (hpIJ_s hM25_0 hg22 (by omega) (by omega) (by omega) (by omega) (by omega)) (by omega))
                · refine h_iconst C dX9_is_70 ?_
                  refine h_goto (tgt := 75) C dX9_is_71 (by decide) ?_
                  refine h_istore_n (lv' := [(2, .int (hpI 1)), (0, .ref (z + 195)), (1, .ref (cy (1000 + a0))), (3, .int (hpI w25_3))]) C dX9_is_75 rfl (by decide) rfl ?_
                  refine h_iinc (lv' := [(3, .int (hpI (w25_3 + 1))), (2, .int (hpI 1)), (0, .ref (z + 195)), (1, .ref (cy (1000 + a0)))]) C dX9_is_76 3 rfl rfl (by decide) rfl ?_
                  refine h_goto (tgt := 39) C dX9_is_79 (by decide) ?_
                  exact hp_sub [2, 3, 1, 0] rfl (ih25 1 (w25_3 + 1) (by omega) (by omega) (by omega) (by omega) (hpIJ_s hM25_0 hg22 (by omega) (by omega) (by omega) (by omega) (by omega)) (by omega))
        exact hp_sub [2, 3, 1, 0] rfl (L25 8589934592 0 0 (by omega) (by omega) (by omega) (by omega) (hpIJ_0 (by omega)) (by omega))
      · refine h_iconst C dX9_is_31 ?_
        refine h_goto (tgt := 36) C dX9_is_32 (by decide) ?_
        refine h_istore_n (lv' := [(2, .int (hpI 1)), (0, .ref (z + 195)), (1, .ref (cy (1000 + a0)))]) C dX9_is_36 rfl (by decide) rfl ?_
        refine h_iconst C dX9_is_37 ?_
        refine h_istore_n (lv' := [(3, .int (hpI 0)), (2, .int (hpI 1)), (0, .ref (z + 195)), (1, .ref (cy (1000 + a0)))]) C dX9_is_38 rfl (by decide) rfl ?_
        have L32 : ∀ (n32 : Nat) (w32_2 : Int) (w32_3 : Int), 0 ≤ w32_2 → w32_2 ≤ 1 → 0 ≤ w32_3 → w32_3 ≤ 4 → (hpIJ σ a0 w32_2 w32_3.toNat) → (4294967296 - w32_3) < (n32 : Int) → hpF p l e rgX9_is s m [.ref (z + 195), .ref (cy (1000 + a0))] below meth c 4 D cy z (pgX9_is z σ a0) σ 39 [(0, .ref (z + 195)), (1, .ref (cy (1000 + a0))), (2, .int (hpI w32_2)), (3, .int (hpI w32_3))] [] := by
          intro n32
          induction n32 with
          | zero => intro w32_2 w32_3 hv32_0 hv32_1 hv32_2 hv32_3 hM32_0 hm32; exfalso; omega
          | succ n32 ih32 =>
            intro w32_2 w32_3 hv32_0 hv32_1 hv32_2 hv32_3 hM32_0 hm32
            refine h_iload_n C dX9_is_39 3 rfl rfl ?_
            refine h_aload_n C dX9_is_40 1 rfl rfl ?_
            refine h_callO (As := []) (rest := [.int (hpI w32_3)]) C Z yyJ0_length_8abf5 wd_1463 (jdJ0_length_8abf5 l D cy z _ ha0) (Z.2.2 a0 ha0).2.1 rfl rfl ⟨rfl, rfl, Nat.le_of_ble_eq_true rfl, Nat.le_of_ble_eq_true rfl⟩ ⟨Nat.le_of_ble_eq_true rfl, Nat.le_of_ble_eq_true rfl⟩ (Nat.le_of_ble_eq_true rfl) dX9_is_41 (fun r33 τ33 hp33 => ?_)
            obtain ⟨rfl, rfl⟩ := hp33
            show hpV _ _ _ _ _ _ _ _ _ _ _ _ _ _ _ _ _ _ _ _ _ (_ :: _)
            refine h_icmp_ge (tgt := 82) C dX9_is_44 (by decide) ⟨by omega, by omega⟩ ⟨by omega, by omega⟩ (fun h34 => ?_) (fun h34 => ?_)
            · refine h_iload_n C dX9_is_82 2 rfl rfl ?_
              refine h_zreturn C (by omega) hr hlk dX9_is_83 ?_
              exact ⟨⟨_, rfl, ⟨by omega, by omega⟩, hpIsI_of (by omega) (hpIJ_f hM32_0 (by omega))⟩, rfl⟩
            · refine h_iload_n C dX9_is_47 2 rfl rfl ?_
              refine h_if_eq (tgt := 82) C dX9_is_48 (by decide) ⟨by omega, by omega⟩ (fun h35 => ?_) (fun h35 => ?_)
              · refine h_iload_n C dX9_is_82 2 rfl rfl ?_
                refine h_zreturn C (by omega) hr hlk dX9_is_83 ?_
                exact ⟨⟨_, rfl, ⟨by omega, by omega⟩, hpIsI_of (by omega) (hpIJ_f hM32_0 (by omega))⟩, rfl⟩
              · obtain ⟨-, -, hj3, -⟩ := hM32_0.1 (by omega)
                have hb8 := hI.b (bf_9_8 kd_195)
                refine h_aload_n C dX9_is_51 0 rfl rfl ?_
                refine h_get C O9 4 kd_195 (by decide) wd_1260 dX9_is_52 fr_195_4 ?_
                refine h_aload_n C dX9_is_55 0 rfl rfl ?_
                refine h_get C O9 9 kd_195 (by decide) wd_1265 dX9_is_56 (hp_fvI (by rw [kd_195]; rfl) rfl) ?_
                rw [hg22]
                refine h_iload_n C dX9_is_59 3 rfl rfl ?_
                refine h_iadd C dX9_is_60 rfl ?_
                refine h_baload C dX9_is_61 kd_199 (r22 + w32_3).toNat (Int.toNat_of_nonneg (by omega)) (by rw [ln_199]; omega) rfl ?_
                obtain ⟨hr36a, hr36b⟩ := hI.b (bo_199 _)
                generalize hg36 : σ 199 ((r22 + w32_3).toNat) = r36 at hr36a hr36b ⊢
                refine h_aload_n C dX9_is_62 1 rfl rfl ?_
                refine h_iload_n C dX9_is_63 3 rfl rfl ?_
                refine h_callO (As := [.int (hpI w32_3)]) (rest := [.int (hpI r36)]) C Z yyJ0_charAt_5068e wd_1464 (jdJ0_charAt_5068e l D cy z _ ha0 (by omega) (by omega) (by omega)) (Z.2.2 a0 ha0).2.1 rfl rfl ⟨rfl, rfl, Nat.le_of_ble_eq_true rfl, Nat.le_of_ble_eq_true rfl⟩ ⟨Nat.le_of_ble_eq_true rfl, Nat.le_of_ble_eq_true rfl⟩ (Nat.le_of_ble_eq_true rfl) dX9_is_64 (fun r37 τ37 hp37 => ?_)
                obtain ⟨rfl, rfl⟩ := hp37
                obtain ⟨hx37a, hx37b⟩ := hpsC_b a0 ((w32_3).toNat)
                show hpV _ _ _ _ _ _ _ _ _ _ _ _ _ _ _ _ _ _ _ _ _ (_ :: _)
                refine h_icmp_ne (tgt := 74) C dX9_is_67 (by decide) ⟨by omega, by omega⟩ ⟨by omega, by omega⟩ (fun h38 => ?_) (fun h38 => ?_)
                · refine h_iconst C dX9_is_74 ?_
                  refine h_istore_n (lv' := [(2, .int (hpI 0)), (0, .ref (z + 195)), (1, .ref (cy (1000 + a0))), (3, .int (hpI w32_3))]) C dX9_is_75 rfl (by decide) rfl ?_
                  refine h_iinc (lv' := [(3, .int (hpI (w32_3 + 1))), (2, .int (hpI 0)), (0, .ref (z + 195)), (1, .ref (cy (1000 + a0)))]) C dX9_is_76 3 rfl rfl (by decide) rfl ?_
                  refine h_goto (tgt := 39) C dX9_is_79 (by decide) ?_
                  exact hp_sub [2, 3, 1, 0] rfl (ih32 0 (w32_3 + 1) (by omega) (by omega) (by omega) (by omega) (hpIJ_s hM32_0 hg22 (by omega) (by omega) (by omega) (by omega) (by omega)) (by omega))
                · refine h_iconst C dX9_is_70 ?_
                  refine h_goto (tgt := 75) C dX9_is_71 (by decide) ?_
                  refine h_istore_n (lv' := [(2, .int (hpI 1)), (0, .ref (z + 195)), (1, .ref (cy (1000 + a0))), (3, .int (hpI w32_3))]) C dX9_is_75 rfl (by decide) rfl ?_
                  refine h_iinc (lv' := [(3, .int (hpI (w32_3 + 1))), (2, .int (hpI 1)), (0, .ref (z + 195)), (1, .ref (cy (1000 + a0)))]) C dX9_is_76 3 rfl rfl (by decide) rfl ?_
                  refine h_goto (tgt := 39) C dX9_is_79 (by decide) ?_
                  exact hp_sub [2, 3, 1, 0] rfl (ih32 1 (w32_3 + 1) (by omega) (by omega) (by omega) (by omega) (hpIJ_s hM32_0 hg22 (by omega) (by omega) (by omega) (by omega) (by omega)) (by omega))
        exact hp_sub [2, 3, 1, 0] rfl (L32 8589934592 1 0 (by omega) (by omega) (by omega) (by omega) (hpIJ_0 (by omega)) (by omega))
abbrev rgX9_takes : Room := { frames := 5, cells := 0, slots := 0, locals := 108 }
abbrev pgX9_takes (z : Nat) (σ : hpMem) (a0 : Nat) : Option Value → hpMem → Prop := fun r τ => (∃ x : Int, r = some (.int (hpI x)) ∧ (0 ≤ x ∧ x ≤ 1) ∧ (x = hpIsI σ a0)) ∧ hpInv τ ∧ (∀ j i : Nat, (j ≠ 195 ∨ (i ≠ 8 ∧ i ≠ 9 ∧ i ≠ 10 ∧ i ≠ 11)) → τ j i = σ j i)
set_option maxHeartbeats 4000000 in
set_option maxRecDepth 20000 in
theorem tgX9_takes (l : Launch) (D : va_G) (cy : Nat → ClassId) (z : Nat) (σ : hpMem) (a0 : Nat) (ha0 : a0 < 16) (hI : hpInv σ) : hpM l D cy z yX9_takes cX9_takes 3 (some .boolean) rgX9_takes [.ref (z + 195), .ref (cy (1000 + a0))] σ (pgX9_takes z σ a0) := by
  have hl_a0 := hpsL_le ha0
  refine hp_met rfl (Nat.le_of_ble_eq_true rfl) (fun p e s m below meth c C Z hr hlk => ?_)
  have hF0 : ∀ j i : Nat, (j ≠ 195 ∨ (i ≠ 8 ∧ i ≠ 9 ∧ i ≠ 10 ∧ i ≠ 11)) → σ j i = σ j i := fun j i _ => rfl
  refine h_aload_n C dX9_takes_0 0 rfl rfl ?_
  refine h_aload_n C dX9_takes_1 1 rfl rfl ?_
  refine h_callV (As := [.ref (cy (1000 + a0))]) (rest := []) C Z yyX9_is wd_1459 (tgX9_is l D cy z _ a0 ha0 hI) kd_195 rfl rfl ⟨rfl, rfl, Nat.le_of_ble_eq_true rfl, Nat.le_of_ble_eq_true rfl⟩ ⟨Nat.le_of_ble_eq_true rfl, Nat.le_of_ble_eq_true rfl⟩ (Nat.le_of_ble_eq_true rfl) dX9_takes_2 (fun r1 τ1 hp1 => ?_)
  obtain ⟨⟨x1, rfl, ⟨hx1a, hx1b⟩, hx1⟩, rfl⟩ := hp1
  show hpV _ _ _ _ _ _ _ _ _ _ _ _ _ _ _ _ _ _ _ _ _ (_ :: _)
  refine h_istore_n (lv' := [(2, .int (hpI x1)), (0, .ref (z + 195)), (1, .ref (cy (1000 + a0)))]) C dX9_takes_5 rfl (by decide) rfl ?_
  refine h_iload_n C dX9_takes_6 0 rfl rfl ?_
  refine h_if_eq (tgt := 14) C dX9_takes_7 (by decide) ⟨by omega, by omega⟩ (fun h2 => ?_) (fun h2 => ?_)
  · refine h_iload_n C dX9_takes_14 0 rfl rfl ?_
    refine h_zreturn C (by omega) hr hlk dX9_takes_15 ?_
    exact ⟨⟨_, rfl, ⟨by omega, by omega⟩, by omega⟩, hI, hF0⟩
  · refine h_aload_n C dX9_takes_10 1 rfl rfl ?_
    refine h_callV (As := []) (rest := []) C Z yyX9_advance wd_1424 (tgX9_advance l D cy z _ hI) kd_195 rfl rfl ⟨rfl, rfl, Nat.le_of_ble_eq_true rfl, Nat.le_of_ble_eq_true rfl⟩ ⟨Nat.le_of_ble_eq_true rfl, Nat.le_of_ble_eq_true rfl⟩ (Nat.le_of_ble_eq_true rfl) dX9_takes_11 (fun r3 τ3 hp3 => ?_)
    obtain ⟨rfl, hI3, hG3⟩ := hp3
    have hF3 : ∀ j i : Nat, (j ≠ 195 ∨ (i ≠ 8 ∧ i ≠ 9 ∧ i ≠ 10 ∧ i ≠ 11)) → τ3 j i = σ j i := fun j i h_0 => (hG3 j i (by omega)).trans (hF0 j i h_0)
    show hpV _ _ _ _ _ _ _ _ _ _ _ _ _ _ _ _ _ _ _ _ _ []
    refine h_iload_n C dX9_takes_14 0 rfl rfl ?_
    refine h_zreturn C (by omega) hr hlk dX9_takes_15 ?_
    exact ⟨⟨_, rfl, ⟨by omega, by omega⟩, by omega⟩, hI3, hF3⟩
abbrev rgX9_expects : Room := { frames := 6, cells := 0, slots := 0, locals := 130 }
abbrev pgX9_expects (z : Nat) (σ : hpMem) (a0 : Nat) : Option Value → hpMem → Prop := fun r τ => r = none ∧ hpInv τ ∧ (∀ j i : Nat, (j ≠ 195 ∨ (i ≠ 8 ∧ i ≠ 9 ∧ i ≠ 10 ∧ i ≠ 11 ∧ i ≠ 12 ∧ i ≠ 13)) → τ j i = σ j i)
set_option maxHeartbeats 4000000 in
set_option maxRecDepth 20000 in
theorem tgX9_expects (l : Launch) (D : va_G) (cy : Nat → ClassId) (z : Nat) (σ : hpMem) (a0 : Nat) (ha0 : a0 < 16) (hI : hpInv σ) : hpM l D cy z yX9_expects cX9_expects 2 none rgX9_expects [.ref (z + 195), .ref (cy (1000 + a0))] σ (pgX9_expects z σ a0) := by
  have hl_a0 := hpsL_le ha0
  refine hp_met rfl (Nat.le_of_ble_eq_true rfl) (fun p e s m below meth c C Z hr hlk => ?_)
  have hF0 : ∀ j i : Nat, (j ≠ 195 ∨ (i ≠ 8 ∧ i ≠ 9 ∧ i ≠ 10 ∧ i ≠ 11 ∧ i ≠ 12 ∧ i ≠ 13)) → σ j i = σ j i := fun j i _ => rfl
  refine h_aload_n C dX9_expects_0 0 rfl rfl ?_
  refine h_aload_n C dX9_expects_1 1 rfl rfl ?_
  refine h_callV (As := [.ref (cy (1000 + a0))]) (rest := []) C Z yyX9_takes wd_1455 (tgX9_takes l D cy z _ a0 ha0 hI) kd_195 rfl rfl ⟨rfl, rfl, Nat.le_of_ble_eq_true rfl, Nat.le_of_ble_eq_true rfl⟩ ⟨Nat.le_of_ble_eq_true rfl, Nat.le_of_ble_eq_true rfl⟩ (Nat.le_of_ble_eq_true rfl) dX9_expects_2 (fun r1 τ1 hp1 => ?_)
  obtain ⟨⟨x1, rfl, ⟨hx1a, hx1b⟩, hx1⟩, hI1, hG1⟩ := hp1
  have hF1 : ∀ j i : Nat, (j ≠ 195 ∨ (i ≠ 8 ∧ i ≠ 9 ∧ i ≠ 10 ∧ i ≠ 11 ∧ i ≠ 12 ∧ i ≠ 13)) → τ1 j i = σ j i := fun j i h_0 => (hG1 j i (by omega)).trans (hF0 j i h_0)
  show hpV _ _ _ _ _ _ _ _ _ _ _ _ _ _ _ _ _ _ _ _ _ (_ :: _)
  refine h_if_ne (tgt := 13) C dX9_expects_5 (by decide) ⟨by omega, by omega⟩ (fun h2 => ?_) (fun h2 => ?_)
  · refine h_return C hr hlk dX9_expects_13 ?_
    exact ⟨rfl, hI1, hF1⟩
  · refine h_aload_n C dX9_expects_8 0 rfl rfl ?_
    refine h_iconst C dX9_expects_9 ?_
    refine h_callV (As := [.int (hpI 1)]) (rest := []) C Z yyX9_errs wd_1465 (tgX9_errs l D cy z _ 1 ⟨by decide, by decide⟩ hI1 (by omega)) kd_195 rfl rfl ⟨rfl, rfl, Nat.le_of_ble_eq_true rfl, Nat.le_of_ble_eq_true rfl⟩ ⟨Nat.le_of_ble_eq_true rfl, Nat.le_of_ble_eq_true rfl⟩ (Nat.le_of_ble_eq_true rfl) dX9_expects_10 (fun r3 τ3 hp3 => ?_)
    obtain ⟨rfl, hI3, hG3, hq3_0⟩ := hp3
    have hF3 : ∀ j i : Nat, (j ≠ 195 ∨ (i ≠ 8 ∧ i ≠ 9 ∧ i ≠ 10 ∧ i ≠ 11 ∧ i ≠ 12 ∧ i ≠ 13)) → τ3 j i = σ j i := fun j i h_0 => (hG3 j i (by omega)).trans (hF1 j i h_0)
    show hpV _ _ _ _ _ _ _ _ _ _ _ _ _ _ _ _ _ _ _ _ _ []
    refine h_return C hr hlk dX9_expects_13 ?_
    exact ⟨rfl, hI3, hF3⟩
abbrev rgX9_number : Room := { frames := 2, cells := 0, slots := 0, locals := 50 }
abbrev pgX9_number (z : Nat) (σ : hpMem) (a0 : Int) (a1 : Int) : Option Value → hpMem → Prop := fun r τ => (∃ x : Int, r = some (.int (hpI x)) ∧ (hpR x) ∧ (x = 0 ∨ (a0 ≤ x ∧ x ≤ a1))) ∧ hpInv τ ∧ (∀ j i : Nat, (j ≠ 195 ∨ (i ≠ 8 ∧ i ≠ 9 ∧ i ≠ 10 ∧ i ≠ 11 ∧ i ≠ 12 ∧ i ≠ 13)) → τ j i = σ j i)
set_option maxHeartbeats 4000000 in
set_option maxRecDepth 20000 in
theorem tgX9_number (l : Launch) (D : va_G) (cy : Nat → ClassId) (z : Nat) (σ : hpMem) (a0 : Int) (ha0 : hpR a0) (a1 : Int) (ha1 : hpR a1) (hI : hpInv σ) (hlh : 0 ≤ a0 ∧ a1 ≤ 1000) : hpM l D cy z yX9_number cX9_number 4 (some .int) rgX9_number [.ref (z + 195), .int (hpI a0), .int (hpI a1)] σ (pgX9_number z σ a0 a1) := by
  obtain ⟨ha01, ha02⟩ := ha0
  obtain ⟨ha11, ha12⟩ := ha1
  refine hp_met rfl (Nat.le_of_ble_eq_true rfl) (fun p e s m below meth c C Z hr hlk => ?_)
  have hF0 : ∀ j i : Nat, (j ≠ 195 ∨ (i ≠ 8 ∧ i ≠ 9 ∧ i ≠ 10 ∧ i ≠ 11 ∧ i ≠ 12 ∧ i ≠ 13)) → σ j i = σ j i := fun j i _ => rfl
  refine h_aload_n C dX9_number_0 0 rfl rfl ?_
  refine h_callV (As := []) (rest := []) C Z yyX9_good wd_1438 (tgX9_good l D cy z _ hI) kd_195 rfl rfl ⟨rfl, rfl, Nat.le_of_ble_eq_true rfl, Nat.le_of_ble_eq_true rfl⟩ ⟨Nat.le_of_ble_eq_true rfl, Nat.le_of_ble_eq_true rfl⟩ (Nat.le_of_ble_eq_true rfl) dX9_number_1 (fun r1 τ1 hp1 => ?_)
  obtain ⟨⟨x1, rfl, ⟨hx1a, hx1b⟩, hx1⟩, rfl⟩ := hp1
  show hpV _ _ _ _ _ _ _ _ _ _ _ _ _ _ _ _ _ _ _ _ _ (_ :: _)
  refine h_if_eq (tgt := 20) C dX9_number_4 (by decide) ⟨by omega, by omega⟩ (fun h2 => ?_) (fun h2 => ?_)
  · refine h_aload_n C dX9_number_20 0 rfl rfl ?_
    refine h_callV (As := []) (rest := []) C Z yyX9_good wd_1438 (tgX9_good l D cy z _ hI) kd_195 rfl rfl ⟨rfl, rfl, Nat.le_of_ble_eq_true rfl, Nat.le_of_ble_eq_true rfl⟩ ⟨Nat.le_of_ble_eq_true rfl, Nat.le_of_ble_eq_true rfl⟩ (Nat.le_of_ble_eq_true rfl) dX9_number_21 (fun r3 τ3 hp3 => ?_)
    obtain ⟨⟨x3, rfl, ⟨hx3a, hx3b⟩, hx3⟩, rfl⟩ := hp3
    show hpV _ _ _ _ _ _ _ _ _ _ _ _ _ _ _ _ _ _ _ _ _ (_ :: _)
    refine h_if_eq (tgt := 47) C dX9_number_24 (by decide) ⟨by omega, by omega⟩ (fun h4 => ?_) (fun h4 => ?_)
    · refine h_aload_n C dX9_number_47 0 rfl rfl ?_
      refine h_callV (As := []) (rest := []) C Z yyX9_good wd_1438 (tgX9_good l D cy z _ hI) kd_195 rfl rfl ⟨rfl, rfl, Nat.le_of_ble_eq_true rfl, Nat.le_of_ble_eq_true rfl⟩ ⟨Nat.le_of_ble_eq_true rfl, Nat.le_of_ble_eq_true rfl⟩ (Nat.le_of_ble_eq_true rfl) dX9_number_48 (fun r5 τ5 hp5 => ?_)
      obtain ⟨⟨x5, rfl, ⟨hx5a, hx5b⟩, hx5⟩, rfl⟩ := hp5
      show hpV _ _ _ _ _ _ _ _ _ _ _ _ _ _ _ _ _ _ _ _ _ (_ :: _)
      refine h_if_ne (tgt := 56) C dX9_number_51 (by decide) ⟨by omega, by omega⟩ (fun h6 => ?_) (fun h6 => ?_)
      · refine h_aload_n C dX9_number_56 0 rfl rfl ?_
        refine h_get C O9 11 kd_195 (by decide) wd_1267 dX9_number_57 (hp_fvI (by rw [kd_195]; rfl) rfl) ?_
        obtain ⟨hr7a, hr7b⟩ := hI.b (bf_9_11 kd_195)
        generalize hg7 : σ 195 11 = r7 at hr7a hr7b ⊢
        refine h_istore_n (lv' := [(3, .int (hpI r7)), (0, .ref (z + 195)), (1, .int (hpI a0)), (2, .int (hpI a1))]) C dX9_number_60 rfl (by decide) rfl ?_
        refine h_aload_n C dX9_number_61 1 rfl rfl ?_
        refine h_callV (As := []) (rest := []) C Z yyX9_advance wd_1424 (tgX9_advance l D cy z _ hI) kd_195 rfl rfl ⟨rfl, rfl, Nat.le_of_ble_eq_true rfl, Nat.le_of_ble_eq_true rfl⟩ ⟨Nat.le_of_ble_eq_true rfl, Nat.le_of_ble_eq_true rfl⟩ (Nat.le_of_ble_eq_true rfl) dX9_number_62 (fun r8 τ8 hp8 => ?_)
        obtain ⟨rfl, hI8, hG8⟩ := hp8
        have hF8 : ∀ j i : Nat, (j ≠ 195 ∨ (i ≠ 8 ∧ i ≠ 9 ∧ i ≠ 10 ∧ i ≠ 11 ∧ i ≠ 12 ∧ i ≠ 13)) → τ8 j i = σ j i := fun j i h_0 => (hG8 j i (by omega)).trans (hF0 j i h_0)
        show hpV _ _ _ _ _ _ _ _ _ _ _ _ _ _ _ _ _ _ _ _ _ []
        refine h_iload_n C dX9_number_65 0 rfl rfl ?_
        refine h_ireturn C hr hlk dX9_number_66 ?_
        exact ⟨⟨_, rfl, ⟨by omega, by omega⟩, by omega⟩, hI8, hF8⟩
      · refine h_iconst C dX9_number_54 ?_
        refine h_ireturn C hr hlk dX9_number_55 ?_
        exact ⟨⟨_, rfl, ⟨by decide, by decide⟩, by omega⟩, hI, hF0⟩
    · refine h_aload_n C dX9_number_27 0 rfl rfl ?_
      refine h_get C O9 11 kd_195 (by decide) wd_1267 dX9_number_28 (hp_fvI (by rw [kd_195]; rfl) rfl) ?_
      obtain ⟨hr9a, hr9b⟩ := hI.b (bf_9_11 kd_195)
      generalize hg9 : σ 195 11 = r9 at hr9a hr9b ⊢
      refine h_i2l C dX9_number_31 ⟨by omega, by omega⟩ ?_
      refine h_iload_n C dX9_number_32 1 rfl rfl ?_
      refine h_i2l C dX9_number_33 ⟨by omega, by omega⟩ ?_
      refine h_iload_n C dX9_number_34 2 rfl rfl ?_
      refine h_i2l C dX9_number_35 ⟨by omega, by omega⟩ ?_
      refine h_callS (As := [.long (hpJ r9), .long (hpJ a0), .long (hpJ a1)]) (rest := []) C Z yyX9_in rfl wd_1401 (tgX9_in l D cy z _ r9 ⟨by omega, by omega⟩ a0 ⟨by omega, by omega⟩ a1 ⟨by omega, by omega⟩ hI) rfl rfl ⟨rfl, rfl, Nat.le_of_ble_eq_true rfl, Nat.le_of_ble_eq_true rfl⟩ ⟨Nat.le_of_ble_eq_true rfl, Nat.le_of_ble_eq_true rfl⟩ (Nat.le_of_ble_eq_true rfl) dX9_number_36 (fun r10 τ10 hp10 => ?_)
      obtain ⟨⟨x10, rfl, ⟨hx10a, hx10b⟩, hx10⟩, rfl⟩ := hp10
      show hpV _ _ _ _ _ _ _ _ _ _ _ _ _ _ _ _ _ _ _ _ _ (_ :: _)
      refine h_if_ne (tgt := 47) C dX9_number_39 (by decide) ⟨by omega, by omega⟩ (fun h11 => ?_) (fun h11 => ?_)
      · refine h_aload_n C dX9_number_47 0 rfl rfl ?_
        refine h_callV (As := []) (rest := []) C Z yyX9_good wd_1438 (tgX9_good l D cy z _ hI) kd_195 rfl rfl ⟨rfl, rfl, Nat.le_of_ble_eq_true rfl, Nat.le_of_ble_eq_true rfl⟩ ⟨Nat.le_of_ble_eq_true rfl, Nat.le_of_ble_eq_true rfl⟩ (Nat.le_of_ble_eq_true rfl) dX9_number_48 (fun r12 τ12 hp12 => ?_)
        obtain ⟨⟨x12, rfl, ⟨hx12a, hx12b⟩, hx12⟩, rfl⟩ := hp12
        show hpV _ _ _ _ _ _ _ _ _ _ _ _ _ _ _ _ _ _ _ _ _ (_ :: _)
        refine h_if_ne (tgt := 56) C dX9_number_51 (by decide) ⟨by omega, by omega⟩ (fun h13 => ?_) (fun h13 => ?_)
        · refine h_aload_n C dX9_number_56 0 rfl rfl ?_
          refine h_get C O9 11 kd_195 (by decide) wd_1267 dX9_number_57 (hp_fvI (by rw [kd_195]; rfl) rfl) ?_
          rw [hg9]
          refine h_istore_n (lv' := [(3, .int (hpI r9)), (0, .ref (z + 195)), (1, .int (hpI a0)), (2, .int (hpI a1))]) C dX9_number_60 rfl (by decide) rfl ?_
          refine h_aload_n C dX9_number_61 1 rfl rfl ?_
          refine h_callV (As := []) (rest := []) C Z yyX9_advance wd_1424 (tgX9_advance l D cy z _ hI) kd_195 rfl rfl ⟨rfl, rfl, Nat.le_of_ble_eq_true rfl, Nat.le_of_ble_eq_true rfl⟩ ⟨Nat.le_of_ble_eq_true rfl, Nat.le_of_ble_eq_true rfl⟩ (Nat.le_of_ble_eq_true rfl) dX9_number_62 (fun r14 τ14 hp14 => ?_)
          obtain ⟨rfl, hI14, hG14⟩ := hp14
          have hF14 : ∀ j i : Nat, (j ≠ 195 ∨ (i ≠ 8 ∧ i ≠ 9 ∧ i ≠ 10 ∧ i ≠ 11 ∧ i ≠ 12 ∧ i ≠ 13)) → τ14 j i = σ j i := fun j i h_0 => (hG14 j i (by omega)).trans (hF0 j i h_0)
          show hpV _ _ _ _ _ _ _ _ _ _ _ _ _ _ _ _ _ _ _ _ _ []
          refine h_iload_n C dX9_number_65 0 rfl rfl ?_
          refine h_ireturn C hr hlk dX9_number_66 ?_
          exact ⟨⟨_, rfl, ⟨by omega, by omega⟩, by omega⟩, hI14, hF14⟩
        · refine h_iconst C dX9_number_54 ?_
          refine h_ireturn C hr hlk dX9_number_55 ?_
          exact ⟨⟨_, rfl, ⟨by decide, by decide⟩, by omega⟩, hI, hF0⟩
      · refine h_aload_n C dX9_number_42 0 rfl rfl ?_
        refine h_iconst C dX9_number_43 ?_
        refine h_callV (As := [.int (hpI 2)]) (rest := []) C Z yyX9_errs wd_1465 (tgX9_errs l D cy z _ 2 ⟨by decide, by decide⟩ hI (by omega)) kd_195 rfl rfl ⟨rfl, rfl, Nat.le_of_ble_eq_true rfl, Nat.le_of_ble_eq_true rfl⟩ ⟨Nat.le_of_ble_eq_true rfl, Nat.le_of_ble_eq_true rfl⟩ (Nat.le_of_ble_eq_true rfl) dX9_number_44 (fun r15 τ15 hp15 => ?_)
        obtain ⟨rfl, hI15, hG15, hq15_0⟩ := hp15
        have hF15 : ∀ j i : Nat, (j ≠ 195 ∨ (i ≠ 8 ∧ i ≠ 9 ∧ i ≠ 10 ∧ i ≠ 11 ∧ i ≠ 12 ∧ i ≠ 13)) → τ15 j i = σ j i := fun j i h_0 => (hG15 j i (by omega)).trans (hF0 j i h_0)
        have hg16 : τ15 195 11 = r9 := (hG15 195 11 (by omega)).trans hg9
        show hpV _ _ _ _ _ _ _ _ _ _ _ _ _ _ _ _ _ _ _ _ _ []
        refine h_aload_n C dX9_number_47 0 rfl rfl ?_
        refine h_callV (As := []) (rest := []) C Z yyX9_good wd_1438 (tgX9_good l D cy z _ hI15) kd_195 rfl rfl ⟨rfl, rfl, Nat.le_of_ble_eq_true rfl, Nat.le_of_ble_eq_true rfl⟩ ⟨Nat.le_of_ble_eq_true rfl, Nat.le_of_ble_eq_true rfl⟩ (Nat.le_of_ble_eq_true rfl) dX9_number_48 (fun r17 τ17 hp17 => ?_)
        obtain ⟨⟨x17, rfl, ⟨hx17a, hx17b⟩, hx17⟩, rfl⟩ := hp17
        show hpV _ _ _ _ _ _ _ _ _ _ _ _ _ _ _ _ _ _ _ _ _ (_ :: _)
        refine h_if_ne (tgt := 56) C dX9_number_51 (by decide) ⟨by omega, by omega⟩ (fun h18 => ?_) (fun h18 => ?_)
        · refine h_aload_n C dX9_number_56 0 rfl rfl ?_
          refine h_get C O9 11 kd_195 (by decide) wd_1267 dX9_number_57 (hp_fvI (by rw [kd_195]; rfl) rfl) ?_
          rw [hg16]
          refine h_istore_n (lv' := [(3, .int (hpI r9)), (0, .ref (z + 195)), (1, .int (hpI a0)), (2, .int (hpI a1))]) C dX9_number_60 rfl (by decide) rfl ?_
          refine h_aload_n C dX9_number_61 1 rfl rfl ?_
          refine h_callV (As := []) (rest := []) C Z yyX9_advance wd_1424 (tgX9_advance l D cy z _ hI15) kd_195 rfl rfl ⟨rfl, rfl, Nat.le_of_ble_eq_true rfl, Nat.le_of_ble_eq_true rfl⟩ ⟨Nat.le_of_ble_eq_true rfl, Nat.le_of_ble_eq_true rfl⟩ (Nat.le_of_ble_eq_true rfl) dX9_number_62 (fun r19 τ19 hp19 => ?_)
          obtain ⟨rfl, hI19, hG19⟩ := hp19
          have hF19 : ∀ j i : Nat, (j ≠ 195 ∨ (i ≠ 8 ∧ i ≠ 9 ∧ i ≠ 10 ∧ i ≠ 11 ∧ i ≠ 12 ∧ i ≠ 13)) → τ19 j i = σ j i := fun j i h_0 => (hG19 j i (by omega)).trans (hF15 j i h_0)
          show hpV _ _ _ _ _ _ _ _ _ _ _ _ _ _ _ _ _ _ _ _ _ []
          refine h_iload_n C dX9_number_65 0 rfl rfl ?_
          refine h_ireturn C hr hlk dX9_number_66 ?_
          exact ⟨⟨_, rfl, ⟨by omega, by omega⟩, by omega⟩, hI19, hF19⟩
        · refine h_iconst C dX9_number_54 ?_
          refine h_ireturn C hr hlk dX9_number_55 ?_
          exact ⟨⟨_, rfl, ⟨by decide, by decide⟩, by omega⟩, hI15, hF15⟩
  · refine h_aload_n C dX9_number_7 0 rfl rfl ?_
    refine h_get C O9 10 kd_195 (by decide) wd_1266 dX9_number_8 (hp_fvI (by rw [kd_195]; rfl) rfl) ?_
    obtain ⟨hr20a, hr20b⟩ := hI.b (bf_9_10 kd_195)
    generalize hg20 : σ 195 10 = r20 at hr20a hr20b ⊢
    refine h_iconst C dX9_number_11 ?_
    refine h_icmp_eq (tgt := 20) C dX9_number_12 (by decide) ⟨by omega, by omega⟩ ⟨by decide, by decide⟩ (fun h21 => ?_) (fun h21 => ?_)
    · refine h_aload_n C dX9_number_20 0 rfl rfl ?_
      refine h_callV (As := []) (rest := []) C Z yyX9_good wd_1438 (tgX9_good l D cy z _ hI) kd_195 rfl rfl ⟨rfl, rfl, Nat.le_of_ble_eq_true rfl, Nat.le_of_ble_eq_true rfl⟩ ⟨Nat.le_of_ble_eq_true rfl, Nat.le_of_ble_eq_true rfl⟩ (Nat.le_of_ble_eq_true rfl) dX9_number_21 (fun r22 τ22 hp22 => ?_)
      obtain ⟨⟨x22, rfl, ⟨hx22a, hx22b⟩, hx22⟩, rfl⟩ := hp22
      show hpV _ _ _ _ _ _ _ _ _ _ _ _ _ _ _ _ _ _ _ _ _ (_ :: _)
      refine h_if_eq (tgt := 47) C dX9_number_24 (by decide) ⟨by omega, by omega⟩ (fun h23 => ?_) (fun h23 => ?_)
      · refine h_aload_n C dX9_number_47 0 rfl rfl ?_
        refine h_callV (As := []) (rest := []) C Z yyX9_good wd_1438 (tgX9_good l D cy z _ hI) kd_195 rfl rfl ⟨rfl, rfl, Nat.le_of_ble_eq_true rfl, Nat.le_of_ble_eq_true rfl⟩ ⟨Nat.le_of_ble_eq_true rfl, Nat.le_of_ble_eq_true rfl⟩ (Nat.le_of_ble_eq_true rfl) dX9_number_48 (fun r24 τ24 hp24 => ?_)
        obtain ⟨⟨x24, rfl, ⟨hx24a, hx24b⟩, hx24⟩, rfl⟩ := hp24
        show hpV _ _ _ _ _ _ _ _ _ _ _ _ _ _ _ _ _ _ _ _ _ (_ :: _)
        refine h_if_ne (tgt := 56) C dX9_number_51 (by decide) ⟨by omega, by omega⟩ (fun h25 => ?_) (fun h25 => ?_)
        · refine h_aload_n C dX9_number_56 0 rfl rfl ?_
          refine h_get C O9 11 kd_195 (by decide) wd_1267 dX9_number_57 (hp_fvI (by rw [kd_195]; rfl) rfl) ?_
          obtain ⟨hr26a, hr26b⟩ := hI.b (bf_9_11 kd_195)
          generalize hg26 : σ 195 11 = r26 at hr26a hr26b ⊢
          refine h_istore_n (lv' := [(3, .int (hpI r26)), (0, .ref (z + 195)), (1, .int (hpI a0)), (2, .int (hpI a1))]) C dX9_number_60 rfl (by decide) rfl ?_
          refine h_aload_n C dX9_number_61 1 rfl rfl ?_
          refine h_callV (As := []) (rest := []) C Z yyX9_advance wd_1424 (tgX9_advance l D cy z _ hI) kd_195 rfl rfl ⟨rfl, rfl, Nat.le_of_ble_eq_true rfl, Nat.le_of_ble_eq_true rfl⟩ ⟨Nat.le_of_ble_eq_true rfl, Nat.le_of_ble_eq_true rfl⟩ (Nat.le_of_ble_eq_true rfl) dX9_number_62 (fun r27 τ27 hp27 => ?_)
          obtain ⟨rfl, hI27, hG27⟩ := hp27
          have hF27 : ∀ j i : Nat, (j ≠ 195 ∨ (i ≠ 8 ∧ i ≠ 9 ∧ i ≠ 10 ∧ i ≠ 11 ∧ i ≠ 12 ∧ i ≠ 13)) → τ27 j i = σ j i := fun j i h_0 => (hG27 j i (by omega)).trans (hF0 j i h_0)
          show hpV _ _ _ _ _ _ _ _ _ _ _ _ _ _ _ _ _ _ _ _ _ []
          refine h_iload_n C dX9_number_65 0 rfl rfl ?_
          refine h_ireturn C hr hlk dX9_number_66 ?_
          exact ⟨⟨_, rfl, ⟨by omega, by omega⟩, by omega⟩, hI27, hF27⟩
        · refine h_iconst C dX9_number_54 ?_
          refine h_ireturn C hr hlk dX9_number_55 ?_
          exact ⟨⟨_, rfl, ⟨by decide, by decide⟩, by omega⟩, hI, hF0⟩
      · refine h_aload_n C dX9_number_27 0 rfl rfl ?_
        refine h_get C O9 11 kd_195 (by decide) wd_1267 dX9_number_28 (hp_fvI (by rw [kd_195]; rfl) rfl) ?_
        obtain ⟨hr28a, hr28b⟩ := hI.b (bf_9_11 kd_195)
        generalize hg28 : σ 195 11 = r28 at hr28a hr28b ⊢
        refine h_i2l C dX9_number_31 ⟨by omega, by omega⟩ ?_
        refine h_iload_n C dX9_number_32 1 rfl rfl ?_
        refine h_i2l C dX9_number_33 ⟨by omega, by omega⟩ ?_
        refine h_iload_n C dX9_number_34 2 rfl rfl ?_
        refine h_i2l C dX9_number_35 ⟨by omega, by omega⟩ ?_
        refine h_callS (As := [.long (hpJ r28), .long (hpJ a0), .long (hpJ a1)]) (rest := []) C Z yyX9_in rfl wd_1401 (tgX9_in l D cy z _ r28 ⟨by omega, by omega⟩ a0 ⟨by omega, by omega⟩ a1 ⟨by omega, by omega⟩ hI) rfl rfl ⟨rfl, rfl, Nat.le_of_ble_eq_true rfl, Nat.le_of_ble_eq_true rfl⟩ ⟨Nat.le_of_ble_eq_true rfl, Nat.le_of_ble_eq_true rfl⟩ (Nat.le_of_ble_eq_true rfl) dX9_number_36 (fun r29 τ29 hp29 => ?_)
        obtain ⟨⟨x29, rfl, ⟨hx29a, hx29b⟩, hx29⟩, rfl⟩ := hp29
        show hpV _ _ _ _ _ _ _ _ _ _ _ _ _ _ _ _ _ _ _ _ _ (_ :: _)
        refine h_if_ne (tgt := 47) C dX9_number_39 (by decide) ⟨by omega, by omega⟩ (fun h30 => ?_) (fun h30 => ?_)
        · refine h_aload_n C dX9_number_47 0 rfl rfl ?_
          refine h_callV (As := []) (rest := []) C Z yyX9_good wd_1438 (tgX9_good l D cy z _ hI) kd_195 rfl rfl ⟨rfl, rfl, Nat.le_of_ble_eq_true rfl, Nat.le_of_ble_eq_true rfl⟩ ⟨Nat.le_of_ble_eq_true rfl, Nat.le_of_ble_eq_true rfl⟩ (Nat.le_of_ble_eq_true rfl) dX9_number_48 (fun r31 τ31 hp31 => ?_)
          obtain ⟨⟨x31, rfl, ⟨hx31a, hx31b⟩, hx31⟩, rfl⟩ := hp31
          show hpV _ _ _ _ _ _ _ _ _ _ _ _ _ _ _ _ _ _ _ _ _ (_ :: _)
          refine h_if_ne (tgt := 56) C dX9_number_51 (by decide) ⟨by omega, by omega⟩ (fun h32 => ?_) (fun h32 => ?_)
          · refine h_aload_n C dX9_number_56 0 rfl rfl ?_
            refine h_get C O9 11 kd_195 (by decide) wd_1267 dX9_number_57 (hp_fvI (by rw [kd_195]; rfl) rfl) ?_
            rw [hg28]
            refine h_istore_n (lv' := [(3, .int (hpI r28)), (0, .ref (z + 195)), (1, .int (hpI a0)), (2, .int (hpI a1))]) C dX9_number_60 rfl (by decide) rfl ?_
            refine h_aload_n C dX9_number_61 1 rfl rfl ?_
            refine h_callV (As := []) (rest := []) C Z yyX9_advance wd_1424 (tgX9_advance l D cy z _ hI) kd_195 rfl rfl ⟨rfl, rfl, Nat.le_of_ble_eq_true rfl, Nat.le_of_ble_eq_true rfl⟩ ⟨Nat.le_of_ble_eq_true rfl, Nat.le_of_ble_eq_true rfl⟩ (Nat.le_of_ble_eq_true rfl) dX9_number_62 (fun r33 τ33 hp33 => ?_)
            obtain ⟨rfl, hI33, hG33⟩ := hp33
            have hF33 : ∀ j i : Nat, (j ≠ 195 ∨ (i ≠ 8 ∧ i ≠ 9 ∧ i ≠ 10 ∧ i ≠ 11 ∧ i ≠ 12 ∧ i ≠ 13)) → τ33 j i = σ j i := fun j i h_0 => (hG33 j i (by omega)).trans (hF0 j i h_0)
            show hpV _ _ _ _ _ _ _ _ _ _ _ _ _ _ _ _ _ _ _ _ _ []
            refine h_iload_n C dX9_number_65 0 rfl rfl ?_
            refine h_ireturn C hr hlk dX9_number_66 ?_
            exact ⟨⟨_, rfl, ⟨by omega, by omega⟩, by omega⟩, hI33, hF33⟩
          · refine h_iconst C dX9_number_54 ?_
            refine h_ireturn C hr hlk dX9_number_55 ?_
            exact ⟨⟨_, rfl, ⟨by decide, by decide⟩, by omega⟩, hI, hF0⟩
        · refine h_aload_n C dX9_number_42 0 rfl rfl ?_
          refine h_iconst C dX9_number_43 ?_
          refine h_callV (As := [.int (hpI 2)]) (rest := []) C Z yyX9_errs wd_1465 (tgX9_errs l D cy z _ 2 ⟨by decide, by decide⟩ hI (by omega)) kd_195 rfl rfl ⟨rfl, rfl, Nat.le_of_ble_eq_true rfl, Nat.le_of_ble_eq_true rfl⟩ ⟨Nat.le_of_ble_eq_true rfl, Nat.le_of_ble_eq_true rfl⟩ (Nat.le_of_ble_eq_true rfl) dX9_number_44 (fun r34 τ34 hp34 => ?_)
          obtain ⟨rfl, hI34, hG34, hq34_0⟩ := hp34
          have hF34 : ∀ j i : Nat, (j ≠ 195 ∨ (i ≠ 8 ∧ i ≠ 9 ∧ i ≠ 10 ∧ i ≠ 11 ∧ i ≠ 12 ∧ i ≠ 13)) → τ34 j i = σ j i := fun j i h_0 => (hG34 j i (by omega)).trans (hF0 j i h_0)
          have hg35 : τ34 195 10 = r20 := (hG34 195 10 (by omega)).trans hg20
          have hg36 : τ34 195 11 = r28 := (hG34 195 11 (by omega)).trans hg28
          show hpV _ _ _ _ _ _ _ _ _ _ _ _ _ _ _ _ _ _ _ _ _ []
          refine h_aload_n C dX9_number_47 0 rfl rfl ?_
          refine h_callV (As := []) (rest := []) C Z yyX9_good wd_1438 (tgX9_good l D cy z _ hI34) kd_195 rfl rfl ⟨rfl, rfl, Nat.le_of_ble_eq_true rfl, Nat.le_of_ble_eq_true rfl⟩ ⟨Nat.le_of_ble_eq_true rfl, Nat.le_of_ble_eq_true rfl⟩ (Nat.le_of_ble_eq_true rfl) dX9_number_48 (fun r37 τ37 hp37 => ?_)
          obtain ⟨⟨x37, rfl, ⟨hx37a, hx37b⟩, hx37⟩, rfl⟩ := hp37
          show hpV _ _ _ _ _ _ _ _ _ _ _ _ _ _ _ _ _ _ _ _ _ (_ :: _)
          refine h_if_ne (tgt := 56) C dX9_number_51 (by decide) ⟨by omega, by omega⟩ (fun h38 => ?_) (fun h38 => ?_)
          · refine h_aload_n C dX9_number_56 0 rfl rfl ?_
            refine h_get C O9 11 kd_195 (by decide) wd_1267 dX9_number_57 (hp_fvI (by rw [kd_195]; rfl) rfl) ?_
            rw [hg36]
            refine h_istore_n (lv' := [(3, .int (hpI r28)), (0, .ref (z + 195)), (1, .int (hpI a0)), (2, .int (hpI a1))]) C dX9_number_60 rfl (by decide) rfl ?_
            refine h_aload_n C dX9_number_61 1 rfl rfl ?_
            refine h_callV (As := []) (rest := []) C Z yyX9_advance wd_1424 (tgX9_advance l D cy z _ hI34) kd_195 rfl rfl ⟨rfl, rfl, Nat.le_of_ble_eq_true rfl, Nat.le_of_ble_eq_true rfl⟩ ⟨Nat.le_of_ble_eq_true rfl, Nat.le_of_ble_eq_true rfl⟩ (Nat.le_of_ble_eq_true rfl) dX9_number_62 (fun r39 τ39 hp39 => ?_)
            obtain ⟨rfl, hI39, hG39⟩ := hp39
            have hF39 : ∀ j i : Nat, (j ≠ 195 ∨ (i ≠ 8 ∧ i ≠ 9 ∧ i ≠ 10 ∧ i ≠ 11 ∧ i ≠ 12 ∧ i ≠ 13)) → τ39 j i = σ j i := fun j i h_0 => (hG39 j i (by omega)).trans (hF34 j i h_0)
            show hpV _ _ _ _ _ _ _ _ _ _ _ _ _ _ _ _ _ _ _ _ _ []
            refine h_iload_n C dX9_number_65 0 rfl rfl ?_
            refine h_ireturn C hr hlk dX9_number_66 ?_
            exact ⟨⟨_, rfl, ⟨by omega, by omega⟩, by omega⟩, hI39, hF39⟩
          · refine h_iconst C dX9_number_54 ?_
            refine h_ireturn C hr hlk dX9_number_55 ?_
            exact ⟨⟨_, rfl, ⟨by decide, by decide⟩, by omega⟩, hI34, hF34⟩
    · refine h_aload_n C dX9_number_15 0 rfl rfl ?_
      refine h_iconst C dX9_number_16 ?_
      refine h_callV (As := [.int (hpI 1)]) (rest := []) C Z yyX9_errs wd_1465 (tgX9_errs l D cy z _ 1 ⟨by decide, by decide⟩ hI (by omega)) kd_195 rfl rfl ⟨rfl, rfl, Nat.le_of_ble_eq_true rfl, Nat.le_of_ble_eq_true rfl⟩ ⟨Nat.le_of_ble_eq_true rfl, Nat.le_of_ble_eq_true rfl⟩ (Nat.le_of_ble_eq_true rfl) dX9_number_17 (fun r40 τ40 hp40 => ?_)
      obtain ⟨rfl, hI40, hG40, hq40_0⟩ := hp40
      have hF40 : ∀ j i : Nat, (j ≠ 195 ∨ (i ≠ 8 ∧ i ≠ 9 ∧ i ≠ 10 ∧ i ≠ 11 ∧ i ≠ 12 ∧ i ≠ 13)) → τ40 j i = σ j i := fun j i h_0 => (hG40 j i (by omega)).trans (hF0 j i h_0)
      have hg41 : τ40 195 10 = r20 := (hG40 195 10 (by omega)).trans hg20
      show hpV _ _ _ _ _ _ _ _ _ _ _ _ _ _ _ _ _ _ _ _ _ []
      refine h_aload_n C dX9_number_20 0 rfl rfl ?_
      refine h_callV (As := []) (rest := []) C Z yyX9_good wd_1438 (tgX9_good l D cy z _ hI40) kd_195 rfl rfl ⟨rfl, rfl, Nat.le_of_ble_eq_true rfl, Nat.le_of_ble_eq_true rfl⟩ ⟨Nat.le_of_ble_eq_true rfl, Nat.le_of_ble_eq_true rfl⟩ (Nat.le_of_ble_eq_true rfl) dX9_number_21 (fun r42 τ42 hp42 => ?_)
      obtain ⟨⟨x42, rfl, ⟨hx42a, hx42b⟩, hx42⟩, rfl⟩ := hp42
      show hpV _ _ _ _ _ _ _ _ _ _ _ _ _ _ _ _ _ _ _ _ _ (_ :: _)
      refine h_if_eq (tgt := 47) C dX9_number_24 (by decide) ⟨by omega, by omega⟩ (fun h43 => ?_) (fun h43 => ?_)
      · refine h_aload_n C dX9_number_47 0 rfl rfl ?_
        refine h_callV (As := []) (rest := []) C Z yyX9_good wd_1438 (tgX9_good l D cy z _ hI40) kd_195 rfl rfl ⟨rfl, rfl, Nat.le_of_ble_eq_true rfl, Nat.le_of_ble_eq_true rfl⟩ ⟨Nat.le_of_ble_eq_true rfl, Nat.le_of_ble_eq_true rfl⟩ (Nat.le_of_ble_eq_true rfl) dX9_number_48 (fun r44 τ44 hp44 => ?_)
        obtain ⟨⟨x44, rfl, ⟨hx44a, hx44b⟩, hx44⟩, rfl⟩ := hp44
        show hpV _ _ _ _ _ _ _ _ _ _ _ _ _ _ _ _ _ _ _ _ _ (_ :: _)
        refine h_if_ne (tgt := 56) C dX9_number_51 (by decide) ⟨by omega, by omega⟩ (fun h45 => ?_) (fun h45 => ?_)
        · refine h_aload_n C dX9_number_56 0 rfl rfl ?_
          refine h_get C O9 11 kd_195 (by decide) wd_1267 dX9_number_57 (hp_fvI (by rw [kd_195]; rfl) rfl) ?_
          obtain ⟨hr46a, hr46b⟩ := hI40.b (bf_9_11 kd_195)
          generalize hg46 : τ40 195 11 = r46 at hr46a hr46b ⊢
          refine h_istore_n (lv' := [(3, .int (hpI r46)), (0, .ref (z + 195)), (1, .int (hpI a0)), (2, .int (hpI a1))]) C dX9_number_60 rfl (by decide) rfl ?_
          refine h_aload_n C dX9_number_61 1 rfl rfl ?_
          refine h_callV (As := []) (rest := []) C Z yyX9_advance wd_1424 (tgX9_advance l D cy z _ hI40) kd_195 rfl rfl ⟨rfl, rfl, Nat.le_of_ble_eq_true rfl, Nat.le_of_ble_eq_true rfl⟩ ⟨Nat.le_of_ble_eq_true rfl, Nat.le_of_ble_eq_true rfl⟩ (Nat.le_of_ble_eq_true rfl) dX9_number_62 (fun r47 τ47 hp47 => ?_)
          obtain ⟨rfl, hI47, hG47⟩ := hp47
          have hF47 : ∀ j i : Nat, (j ≠ 195 ∨ (i ≠ 8 ∧ i ≠ 9 ∧ i ≠ 10 ∧ i ≠ 11 ∧ i ≠ 12 ∧ i ≠ 13)) → τ47 j i = σ j i := fun j i h_0 => (hG47 j i (by omega)).trans (hF40 j i h_0)
          show hpV _ _ _ _ _ _ _ _ _ _ _ _ _ _ _ _ _ _ _ _ _ []
          refine h_iload_n C dX9_number_65 0 rfl rfl ?_
          refine h_ireturn C hr hlk dX9_number_66 ?_
          exact ⟨⟨_, rfl, ⟨by omega, by omega⟩, by omega⟩, hI47, hF47⟩
        · refine h_iconst C dX9_number_54 ?_
          refine h_ireturn C hr hlk dX9_number_55 ?_
          exact ⟨⟨_, rfl, ⟨by decide, by decide⟩, by omega⟩, hI40, hF40⟩
      · refine h_aload_n C dX9_number_27 0 rfl rfl ?_
        refine h_get C O9 11 kd_195 (by decide) wd_1267 dX9_number_28 (hp_fvI (by rw [kd_195]; rfl) rfl) ?_
        obtain ⟨hr48a, hr48b⟩ := hI40.b (bf_9_11 kd_195)
        generalize hg48 : τ40 195 11 = r48 at hr48a hr48b ⊢
        refine h_i2l C dX9_number_31 ⟨by omega, by omega⟩ ?_
        refine h_iload_n C dX9_number_32 1 rfl rfl ?_
        refine h_i2l C dX9_number_33 ⟨by omega, by omega⟩ ?_
        refine h_iload_n C dX9_number_34 2 rfl rfl ?_
        refine h_i2l C dX9_number_35 ⟨by omega, by omega⟩ ?_
        refine h_callS (As := [.long (hpJ r48), .long (hpJ a0), .long (hpJ a1)]) (rest := []) C Z yyX9_in rfl wd_1401 (tgX9_in l D cy z _ r48 ⟨by omega, by omega⟩ a0 ⟨by omega, by omega⟩ a1 ⟨by omega, by omega⟩ hI40) rfl rfl ⟨rfl, rfl, Nat.le_of_ble_eq_true rfl, Nat.le_of_ble_eq_true rfl⟩ ⟨Nat.le_of_ble_eq_true rfl, Nat.le_of_ble_eq_true rfl⟩ (Nat.le_of_ble_eq_true rfl) dX9_number_36 (fun r49 τ49 hp49 => ?_)
        obtain ⟨⟨x49, rfl, ⟨hx49a, hx49b⟩, hx49⟩, rfl⟩ := hp49
        show hpV _ _ _ _ _ _ _ _ _ _ _ _ _ _ _ _ _ _ _ _ _ (_ :: _)
        refine h_if_ne (tgt := 47) C dX9_number_39 (by decide) ⟨by omega, by omega⟩ (fun h50 => ?_) (fun h50 => ?_)
        · refine h_aload_n C dX9_number_47 0 rfl rfl ?_
          refine h_callV (As := []) (rest := []) C Z yyX9_good wd_1438 (tgX9_good l D cy z _ hI40) kd_195 rfl rfl ⟨rfl, rfl, Nat.le_of_ble_eq_true rfl, Nat.le_of_ble_eq_true rfl⟩ ⟨Nat.le_of_ble_eq_true rfl, Nat.le_of_ble_eq_true rfl⟩ (Nat.le_of_ble_eq_true rfl) dX9_number_48 (fun r51 τ51 hp51 => ?_)
          obtain ⟨⟨x51, rfl, ⟨hx51a, hx51b⟩, hx51⟩, rfl⟩ := hp51
          show hpV _ _ _ _ _ _ _ _ _ _ _ _ _ _ _ _ _ _ _ _ _ (_ :: _)
          refine h_if_ne (tgt := 56) C dX9_number_51 (by decide) ⟨by omega, by omega⟩ (fun h52 => ?_) (fun h52 => ?_)
          · refine h_aload_n C dX9_number_56 0 rfl rfl ?_
            refine h_get C O9 11 kd_195 (by decide) wd_1267 dX9_number_57 (hp_fvI (by rw [kd_195]; rfl) rfl) ?_
            rw [hg48]
            refine h_istore_n (lv' := [(3, .int (hpI r48)), (0, .ref (z + 195)), (1, .int (hpI a0)), (2, .int (hpI a1))]) C dX9_number_60 rfl (by decide) rfl ?_
            refine h_aload_n C dX9_number_61 1 rfl rfl ?_
            refine h_callV (As := []) (rest := []) C Z yyX9_advance wd_1424 (tgX9_advance l D cy z _ hI40) kd_195 rfl rfl ⟨rfl, rfl, Nat.le_of_ble_eq_true rfl, Nat.le_of_ble_eq_true rfl⟩ ⟨Nat.le_of_ble_eq_true rfl, Nat.le_of_ble_eq_true rfl⟩ (Nat.le_of_ble_eq_true rfl) dX9_number_62 (fun r53 τ53 hp53 => ?_)
            obtain ⟨rfl, hI53, hG53⟩ := hp53
            have hF53 : ∀ j i : Nat, (j ≠ 195 ∨ (i ≠ 8 ∧ i ≠ 9 ∧ i ≠ 10 ∧ i ≠ 11 ∧ i ≠ 12 ∧ i ≠ 13)) → τ53 j i = σ j i := fun j i h_0 => (hG53 j i (by omega)).trans (hF40 j i h_0)
            show hpV _ _ _ _ _ _ _ _ _ _ _ _ _ _ _ _ _ _ _ _ _ []
            refine h_iload_n C dX9_number_65 0 rfl rfl ?_
            refine h_ireturn C hr hlk dX9_number_66 ?_
            exact ⟨⟨_, rfl, ⟨by omega, by omega⟩, by omega⟩, hI53, hF53⟩
          · refine h_iconst C dX9_number_54 ?_
            refine h_ireturn C hr hlk dX9_number_55 ?_
            exact ⟨⟨_, rfl, ⟨by decide, by decide⟩, by omega⟩, hI40, hF40⟩
        · refine h_aload_n C dX9_number_42 0 rfl rfl ?_
          refine h_iconst C dX9_number_43 ?_
          refine h_callV (As := [.int (hpI 2)]) (rest := []) C Z yyX9_errs wd_1465 (tgX9_errs l D cy z _ 2 ⟨by decide, by decide⟩ hI40 (by omega)) kd_195 rfl rfl ⟨rfl, rfl, Nat.le_of_ble_eq_true rfl, Nat.le_of_ble_eq_true rfl⟩ ⟨Nat.le_of_ble_eq_true rfl, Nat.le_of_ble_eq_true rfl⟩ (Nat.le_of_ble_eq_true rfl) dX9_number_44 (fun r54 τ54 hp54 => ?_)
          obtain ⟨rfl, hI54, hG54, hq54_0⟩ := hp54
          have hF54 : ∀ j i : Nat, (j ≠ 195 ∨ (i ≠ 8 ∧ i ≠ 9 ∧ i ≠ 10 ∧ i ≠ 11 ∧ i ≠ 12 ∧ i ≠ 13)) → τ54 j i = σ j i := fun j i h_0 => (hG54 j i (by omega)).trans (hF40 j i h_0)
          have hg55 : τ54 195 10 = r20 := (hG54 195 10 (by omega)).trans hg41
          have hg56 : τ54 195 11 = r48 := (hG54 195 11 (by omega)).trans hg48
          show hpV _ _ _ _ _ _ _ _ _ _ _ _ _ _ _ _ _ _ _ _ _ []
          refine h_aload_n C dX9_number_47 0 rfl rfl ?_
          refine h_callV (As := []) (rest := []) C Z yyX9_good wd_1438 (tgX9_good l D cy z _ hI54) kd_195 rfl rfl ⟨rfl, rfl, Nat.le_of_ble_eq_true rfl, Nat.le_of_ble_eq_true rfl⟩ ⟨Nat.le_of_ble_eq_true rfl, Nat.le_of_ble_eq_true rfl⟩ (Nat.le_of_ble_eq_true rfl) dX9_number_48 (fun r57 τ57 hp57 => ?_)
          obtain ⟨⟨x57, rfl, ⟨hx57a, hx57b⟩, hx57⟩, rfl⟩ := hp57
          show hpV _ _ _ _ _ _ _ _ _ _ _ _ _ _ _ _ _ _ _ _ _ (_ :: _)
          refine h_if_ne (tgt := 56) C dX9_number_51 (by decide) ⟨by omega, by omega⟩ (fun h58 => ?_) (fun h58 => ?_)
          · refine h_aload_n C dX9_number_56 0 rfl rfl ?_
            refine h_get C O9 11 kd_195 (by decide) wd_1267 dX9_number_57 (hp_fvI (by rw [kd_195]; rfl) rfl) ?_
            rw [hg56]
            refine h_istore_n (lv' := [(3, .int (hpI r48)), (0, .ref (z + 195)), (1, .int (hpI a0)), (2, .int (hpI a1))]) C dX9_number_60 rfl (by decide) rfl ?_
            refine h_aload_n C dX9_number_61 1 rfl rfl ?_
            refine h_callV (As := []) (rest := []) C Z yyX9_advance wd_1424 (tgX9_advance l D cy z _ hI54) kd_195 rfl rfl ⟨rfl, rfl, Nat.le_of_ble_eq_true rfl, Nat.le_of_ble_eq_true rfl⟩ ⟨Nat.le_of_ble_eq_true rfl, Nat.le_of_ble_eq_true rfl⟩ (Nat.le_of_ble_eq_true rfl) dX9_number_62 (fun r59 τ59 hp59 => ?_)
            obtain ⟨rfl, hI59, hG59⟩ := hp59
            have hF59 : ∀ j i : Nat, (j ≠ 195 ∨ (i ≠ 8 ∧ i ≠ 9 ∧ i ≠ 10 ∧ i ≠ 11 ∧ i ≠ 12 ∧ i ≠ 13)) → τ59 j i = σ j i := fun j i h_0 => (hG59 j i (by omega)).trans (hF54 j i h_0)
            show hpV _ _ _ _ _ _ _ _ _ _ _ _ _ _ _ _ _ _ _ _ _ []
            refine h_iload_n C dX9_number_65 0 rfl rfl ?_
            refine h_ireturn C hr hlk dX9_number_66 ?_
            exact ⟨⟨_, rfl, ⟨by omega, by omega⟩, by omega⟩, hI59, hF59⟩
          · refine h_iconst C dX9_number_54 ?_
            refine h_ireturn C hr hlk dX9_number_55 ?_
            exact ⟨⟨_, rfl, ⟨by decide, by decide⟩, by omega⟩, hI54, hF54⟩
abbrev rgX9_toldBy : Room := { frames := 7, cells := 0, slots := 0, locals := 151 }
abbrev pgX9_toldBy (z : Nat) (σ : hpMem) (a0 : Nat) (a1 : Int) (a2 : Int) : Option Value → hpMem → Prop := fun r τ => (∃ x : Int, r = some (.int (hpI x)) ∧ (hpR x) ∧ (x = 0 ∨ (a1 ≤ x ∧ x ≤ a2))) ∧ hpInv τ ∧ (∀ j i : Nat, (j ≠ 195 ∨ (i ≠ 8 ∧ i ≠ 9 ∧ i ≠ 10 ∧ i ≠ 11 ∧ i ≠ 12 ∧ i ≠ 13)) → τ j i = σ j i)
set_option maxHeartbeats 4000000 in
set_option maxRecDepth 20000 in
theorem tgX9_toldBy (l : Launch) (D : va_G) (cy : Nat → ClassId) (z : Nat) (σ : hpMem) (a0 : Nat) (ha0 : a0 < 16) (a1 : Int) (ha1 : hpR a1) (a2 : Int) (ha2 : hpR a2) (hI : hpInv σ) (hlh : 0 ≤ a1 ∧ a2 ≤ 1000) : hpM l D cy z yX9_toldBy cX9_toldBy 4 (some .int) rgX9_toldBy [.ref (z + 195), .ref (cy (1000 + a0)), .int (hpI a1), .int (hpI a2)] σ (pgX9_toldBy z σ a0 a1 a2) := by
  have hl_a0 := hpsL_le ha0
  obtain ⟨ha11, ha12⟩ := ha1
  obtain ⟨ha21, ha22⟩ := ha2
  refine hp_met rfl (Nat.le_of_ble_eq_true rfl) (fun p e s m below meth c C Z hr hlk => ?_)
  have hF0 : ∀ j i : Nat, (j ≠ 195 ∨ (i ≠ 8 ∧ i ≠ 9 ∧ i ≠ 10 ∧ i ≠ 11 ∧ i ≠ 12 ∧ i ≠ 13)) → σ j i = σ j i := fun j i _ => rfl
  refine h_aload_n C dX9_toldBy_0 0 rfl rfl ?_
  refine h_aload_n C dX9_toldBy_1 1 rfl rfl ?_
  refine h_callV (As := [.ref (cy (1000 + a0))]) (rest := []) C Z yyX9_expects wd_1451 (tgX9_expects l D cy z _ a0 ha0 hI) kd_195 rfl rfl ⟨rfl, rfl, Nat.le_of_ble_eq_true rfl, Nat.le_of_ble_eq_true rfl⟩ ⟨Nat.le_of_ble_eq_true rfl, Nat.le_of_ble_eq_true rfl⟩ (Nat.le_of_ble_eq_true rfl) dX9_toldBy_2 (fun r1 τ1 hp1 => ?_)
  obtain ⟨rfl, hI1, hG1⟩ := hp1
  have hF1 : ∀ j i : Nat, (j ≠ 195 ∨ (i ≠ 8 ∧ i ≠ 9 ∧ i ≠ 10 ∧ i ≠ 11 ∧ i ≠ 12 ∧ i ≠ 13)) → τ1 j i = σ j i := fun j i h_0 => (hG1 j i (by omega)).trans (hF0 j i h_0)
  show hpV _ _ _ _ _ _ _ _ _ _ _ _ _ _ _ _ _ _ _ _ _ []
  refine h_aload_n C dX9_toldBy_5 0 rfl rfl ?_
  refine h_iload_n C dX9_toldBy_6 2 rfl rfl ?_
  refine h_iload_n C dX9_toldBy_7 3 rfl rfl ?_
  refine h_callV (As := [.int (hpI a1), .int (hpI a2)]) (rest := []) C Z yyX9_number wd_1474 (tgX9_number l D cy z _ a1 ⟨by omega, by omega⟩ a2 ⟨by omega, by omega⟩ hI1 (by omega)) kd_195 rfl rfl ⟨rfl, rfl, Nat.le_of_ble_eq_true rfl, Nat.le_of_ble_eq_true rfl⟩ ⟨Nat.le_of_ble_eq_true rfl, Nat.le_of_ble_eq_true rfl⟩ (Nat.le_of_ble_eq_true rfl) dX9_toldBy_8 (fun r2 τ2 hp2 => ?_)
  obtain ⟨⟨x2, rfl, ⟨hx2a, hx2b⟩, hx2⟩, hI2, hG2⟩ := hp2
  have hF2 : ∀ j i : Nat, (j ≠ 195 ∨ (i ≠ 8 ∧ i ≠ 9 ∧ i ≠ 10 ∧ i ≠ 11 ∧ i ≠ 12 ∧ i ≠ 13)) → τ2 j i = σ j i := fun j i h_0 => (hG2 j i (by omega)).trans (hF1 j i h_0)
  show hpV _ _ _ _ _ _ _ _ _ _ _ _ _ _ _ _ _ _ _ _ _ (_ :: _)
  refine h_ireturn C hr hlk dX9_toldBy_11 ?_
  exact ⟨⟨_, rfl, ⟨by omega, by omega⟩, by omega⟩, hI2, hF2⟩
abbrev rgX9_fault : Room := { frames := 0, cells := 0, slots := 0, locals := 0 }
abbrev pgX9_fault (z : Nat) (σ : hpMem) (a0 : Int) : Option Value → hpMem → Prop := fun r τ => (∃ x : Int, r = some (.int (hpI x)) ∧ (hpR x)) ∧ σ = τ
set_option maxHeartbeats 4000000 in
set_option maxRecDepth 20000 in
theorem tgX9_fault (l : Launch) (D : va_G) (cy : Nat → ClassId) (z : Nat) (σ : hpMem) (a0 : Int) (ha0 : hpR a0) (hI : hpInv σ) : hpM l D cy z yX9_fault cX9_fault 2 (some .int) rgX9_fault [.ref (z + 195), .int (hpI a0)] σ (pgX9_fault z σ a0) := by
  obtain ⟨ha01, ha02⟩ := ha0
  refine hp_met rfl (Nat.le_of_ble_eq_true rfl) (fun p e s m below meth c C Z hr hlk => ?_)
  refine h_iload_n C dX9_fault_0 1 rfl rfl ?_
  refine h_if_ne (tgt := 11) C dX9_fault_1 (by decide) ⟨by omega, by omega⟩ (fun h1 => ?_) (fun h1 => ?_)
  · refine h_iload_n C dX9_fault_11 1 rfl rfl ?_
    refine h_iconst C dX9_fault_12 ?_
    refine h_icmp_ne (tgt := 23) C dX9_fault_13 (by decide) ⟨by omega, by omega⟩ ⟨by decide, by decide⟩ (fun h2 => ?_) (fun h2 => ?_)
    · refine h_iconst C dX9_fault_23 ?_
      refine h_ireturn C hr hlk dX9_fault_24 ?_
      exact ⟨⟨_, rfl, ⟨by decide, by decide⟩⟩, rfl⟩
    · refine h_aload_n C dX9_fault_16 0 rfl rfl ?_
      refine h_get C O9 13 kd_195 (by decide) wd_1269 dX9_fault_17 (hp_fvI (by rw [kd_195]; rfl) rfl) ?_
      obtain ⟨hr3a, hr3b⟩ := hI.b (bf_9_13 kd_195)
      generalize hg3 : σ 195 13 = r3 at hr3a hr3b ⊢
      refine h_goto (tgt := 24) C dX9_fault_20 (by decide) ?_
      refine h_ireturn C hr hlk dX9_fault_24 ?_
      exact ⟨⟨_, rfl, ⟨by omega, by omega⟩⟩, rfl⟩
  · refine h_aload_n C dX9_fault_4 0 rfl rfl ?_
    refine h_get C O9 12 kd_195 (by decide) wd_1268 dX9_fault_5 (hp_fvI (by rw [kd_195]; rfl) rfl) ?_
    obtain ⟨hr4a, hr4b⟩ := hI.b (bf_9_12 kd_195)
    generalize hg4 : σ 195 12 = r4 at hr4a hr4b ⊢
    refine h_goto (tgt := 24) C dX9_fault_8 (by decide) ?_
    refine h_ireturn C hr hlk dX9_fault_24 ?_
    exact ⟨⟨_, rfl, ⟨by omega, by omega⟩⟩, rfl⟩
abbrev rgX9_readFirst : Room := { frames := 8, cells := 0, slots := 0, locals := 174 }
abbrev pgX9_readFirst (z : Nat) (σ : hpMem) : Option Value → hpMem → Prop := fun r τ => r = none ∧ hpInv τ ∧ (∀ j i : Nat, (j ≠ 195 ∨ (i ≠ 8 ∧ i ≠ 9 ∧ i ≠ 10 ∧ i ≠ 11 ∧ i ≠ 12 ∧ i ≠ 13)) → (j ≠ 201 ∨ 2 < i) → τ j i = σ j i)
set_option maxHeartbeats 4000000 in
set_option maxRecDepth 20000 in
theorem tgX9_readFirst (l : Launch) (D : va_G) (cy : Nat → ClassId) (z : Nat) (σ : hpMem) (hI : hpInv σ) : hpM l D cy z yX9_readFirst cX9_readFirst 1 none rgX9_readFirst [.ref (z + 195)] σ (pgX9_readFirst z σ) := by
  refine hp_met rfl (Nat.le_of_ble_eq_true rfl) (fun p e s m below meth c C Z hr hlk => ?_)
  have hF0 : ∀ j i : Nat, (j ≠ 195 ∨ (i ≠ 8 ∧ i ≠ 9 ∧ i ≠ 10 ∧ i ≠ 11 ∧ i ≠ 12 ∧ i ≠ 13)) → (j ≠ 201 ∨ 2 < i) → σ j i = σ j i := fun j i _ _ => rfl
  refine h_aload_n C dX9_readFirst_0 0 rfl rfl ?_
  refine h_ldcS (i := 8) C Z (by decide) rfl dX9_readFirst_1 ?_
  refine h_callV (As := [.ref (cy (1000 + 8))]) (rest := []) C Z yyX9_expects wd_1451 (tgX9_expects l D cy z _ 8 (by decide) hI) kd_195 rfl rfl ⟨rfl, rfl, Nat.le_of_ble_eq_true rfl, Nat.le_of_ble_eq_true rfl⟩ ⟨Nat.le_of_ble_eq_true rfl, Nat.le_of_ble_eq_true rfl⟩ (Nat.le_of_ble_eq_true rfl) dX9_readFirst_3 (fun r1 τ1 hp1 => ?_)
  obtain ⟨rfl, hI1, hG1⟩ := hp1
  have hF1 : ∀ j i : Nat, (j ≠ 195 ∨ (i ≠ 8 ∧ i ≠ 9 ∧ i ≠ 10 ∧ i ≠ 11 ∧ i ≠ 12 ∧ i ≠ 13)) → (j ≠ 201 ∨ 2 < i) → τ1 j i = σ j i := fun j i h_0 h_1 => (hG1 j i (by omega)).trans (hF0 j i h_0 h_1)
  show hpV _ _ _ _ _ _ _ _ _ _ _ _ _ _ _ _ _ _ _ _ _ []
  refine h_aload_n C dX9_readFirst_6 0 rfl rfl ?_
  refine h_get C O9 14 kd_195 (by decide) wd_1270 dX9_readFirst_7 fr_195_14 ?_
  refine h_iconst C dX9_readFirst_10 ?_
  refine h_aload_n C dX9_readFirst_11 0 rfl rfl ?_
  refine h_ldcS (i := 9) C Z (by decide) rfl dX9_readFirst_12 ?_
  refine h_iconst C dX9_readFirst_14 ?_
  refine h_bipush C dX9_readFirst_15 (by decide) ?_
  refine h_callV (As := [.ref (cy (1000 + 9)), .int (hpI 1), .int (hpI 16)]) (rest := [.int (hpI 0), .ref (z + 201)]) C Z yyX9_toldBy wd_1470 (tgX9_toldBy l D cy z _ 9 (by decide) 1 ⟨by decide, by decide⟩ 16 ⟨by decide, by decide⟩ hI1 (by omega)) kd_195 rfl rfl ⟨rfl, rfl, Nat.le_of_ble_eq_true rfl, Nat.le_of_ble_eq_true rfl⟩ ⟨Nat.le_of_ble_eq_true rfl, Nat.le_of_ble_eq_true rfl⟩ (Nat.le_of_ble_eq_true rfl) dX9_readFirst_17 (fun r2 τ2 hp2 => ?_)
  obtain ⟨⟨x2, rfl, ⟨hx2a, hx2b⟩, hx2⟩, hI2, hG2⟩ := hp2
  have hF2 : ∀ j i : Nat, (j ≠ 195 ∨ (i ≠ 8 ∧ i ≠ 9 ∧ i ≠ 10 ∧ i ≠ 11 ∧ i ≠ 12 ∧ i ≠ 13)) → (j ≠ 201 ∨ 2 < i) → τ2 j i = σ j i := fun j i h_0 h_1 => (hG2 j i (by omega)).trans (hF1 j i h_0 h_1)
  show hpV _ _ _ _ _ _ _ _ _ _ _ _ _ _ _ _ _ _ _ _ _ (_ :: _)
  refine h_iastore C dX9_readFirst_20 kd_201 0 rfl (by rw [ln_201]; decide) ?_
  obtain ⟨τ3, e3⟩ : ∃ μ : hpMem, μ = hpw τ2 201 0 x2 := ⟨_, rfl⟩
  rw [← e3]
  have hI3 : hpInv τ3 := by rw [e3]; exact hI2.w ((bw_201 0).trans (show hpwb 0 = (0, 16) by decide)) (by omega) (by omega)
  have hF3 : ∀ j i : Nat, (j ≠ 195 ∨ (i ≠ 8 ∧ i ≠ 9 ∧ i ≠ 10 ∧ i ≠ 11 ∧ i ≠ 12 ∧ i ≠ 13)) → (j ≠ 201 ∨ 2 < i) → τ3 j i = σ j i := fun j i h_0 h_1 => by rw [e3]; exact (hpw_fr (by omega)).trans (hF2 j i h_0 h_1)
  have hg4 : τ3 201 0 = x2 := by rw [e3]; exact hpw_eq
  refine h_aload_n C dX9_readFirst_21 0 rfl rfl ?_
  refine h_get C O9 14 kd_195 (by decide) wd_1270 dX9_readFirst_22 fr_195_14 ?_
  refine h_iconst C dX9_readFirst_25 ?_
  refine h_aload_n C dX9_readFirst_26 0 rfl rfl ?_
  refine h_ldcS (i := 10) C Z (by decide) rfl dX9_readFirst_27 ?_
  refine h_iconst C dX9_readFirst_29 ?_
  refine h_iconst C dX9_readFirst_30 ?_
  refine h_callV (As := [.ref (cy (1000 + 10)), .int (hpI 0), .int (hpI 3)]) (rest := [.int (hpI 1), .ref (z + 201)]) C Z yyX9_toldBy wd_1470 (tgX9_toldBy l D cy z _ 10 (by decide) 0 ⟨by decide, by decide⟩ 3 ⟨by decide, by decide⟩ hI3 (by omega)) kd_195 rfl rfl ⟨rfl, rfl, Nat.le_of_ble_eq_true rfl, Nat.le_of_ble_eq_true rfl⟩ ⟨Nat.le_of_ble_eq_true rfl, Nat.le_of_ble_eq_true rfl⟩ (Nat.le_of_ble_eq_true rfl) dX9_readFirst_31 (fun r5 τ5 hp5 => ?_)
  obtain ⟨⟨x5, rfl, ⟨hx5a, hx5b⟩, hx5⟩, hI5, hG5⟩ := hp5
  have hF5 : ∀ j i : Nat, (j ≠ 195 ∨ (i ≠ 8 ∧ i ≠ 9 ∧ i ≠ 10 ∧ i ≠ 11 ∧ i ≠ 12 ∧ i ≠ 13)) → (j ≠ 201 ∨ 2 < i) → τ5 j i = σ j i := fun j i h_0 h_1 => (hG5 j i (by omega)).trans (hF3 j i h_0 h_1)
  have hg6 : τ5 201 0 = x2 := (hG5 201 0 (by omega)).trans hg4
  show hpV _ _ _ _ _ _ _ _ _ _ _ _ _ _ _ _ _ _ _ _ _ (_ :: _)
  refine h_iastore C dX9_readFirst_34 kd_201 1 rfl (by rw [ln_201]; decide) ?_
  obtain ⟨τ7, e7⟩ : ∃ μ : hpMem, μ = hpw τ5 201 1 x5 := ⟨_, rfl⟩
  rw [← e7]
  have hI7 : hpInv τ7 := by rw [e7]; exact hI5.w ((bw_201 1).trans (show hpwb 1 = (0, 3) by decide)) (by omega) (by omega)
  have hF7 : ∀ j i : Nat, (j ≠ 195 ∨ (i ≠ 8 ∧ i ≠ 9 ∧ i ≠ 10 ∧ i ≠ 11 ∧ i ≠ 12 ∧ i ≠ 13)) → (j ≠ 201 ∨ 2 < i) → τ7 j i = σ j i := fun j i h_0 h_1 => by rw [e7]; exact (hpw_fr (by omega)).trans (hF5 j i h_0 h_1)
  have hg8 : τ7 201 0 = x2 := by rw [e7]; exact (hpw_fr (Or.inr (by decide))).trans hg6
  have hg9 : τ7 201 1 = x5 := by rw [e7]; exact hpw_eq
  refine h_aload_n C dX9_readFirst_35 0 rfl rfl ?_
  refine h_get C O9 14 kd_195 (by decide) wd_1270 dX9_readFirst_36 fr_195_14 ?_
  refine h_iconst C dX9_readFirst_39 ?_
  refine h_aload_n C dX9_readFirst_40 0 rfl rfl ?_
  refine h_ldcS (i := 11) C Z (by decide) rfl dX9_readFirst_41 ?_
  refine h_iconst C dX9_readFirst_43 ?_
  refine h_bipush C dX9_readFirst_44 (by decide) ?_
  refine h_callV (As := [.ref (cy (1000 + 11)), .int (hpI 0), .int (hpI 10)]) (rest := [.int (hpI 2), .ref (z + 201)]) C Z yyX9_toldBy wd_1470 (tgX9_toldBy l D cy z _ 11 (by decide) 0 ⟨by decide, by decide⟩ 10 ⟨by decide, by decide⟩ hI7 (by omega)) kd_195 rfl rfl ⟨rfl, rfl, Nat.le_of_ble_eq_true rfl, Nat.le_of_ble_eq_true rfl⟩ ⟨Nat.le_of_ble_eq_true rfl, Nat.le_of_ble_eq_true rfl⟩ (Nat.le_of_ble_eq_true rfl) dX9_readFirst_46 (fun r10 τ10 hp10 => ?_)
  obtain ⟨⟨x10, rfl, ⟨hx10a, hx10b⟩, hx10⟩, hI10, hG10⟩ := hp10
  have hF10 : ∀ j i : Nat, (j ≠ 195 ∨ (i ≠ 8 ∧ i ≠ 9 ∧ i ≠ 10 ∧ i ≠ 11 ∧ i ≠ 12 ∧ i ≠ 13)) → (j ≠ 201 ∨ 2 < i) → τ10 j i = σ j i := fun j i h_0 h_1 => (hG10 j i (by omega)).trans (hF7 j i h_0 h_1)
  have hg11 : τ10 201 0 = x2 := (hG10 201 0 (by omega)).trans hg8
  have hg12 : τ10 201 1 = x5 := (hG10 201 1 (by omega)).trans hg9
  show hpV _ _ _ _ _ _ _ _ _ _ _ _ _ _ _ _ _ _ _ _ _ (_ :: _)
  refine h_iastore C dX9_readFirst_49 kd_201 2 rfl (by rw [ln_201]; decide) ?_
  obtain ⟨τ13, e13⟩ : ∃ μ : hpMem, μ = hpw τ10 201 2 x10 := ⟨_, rfl⟩
  rw [← e13]
  have hI13 : hpInv τ13 := by rw [e13]; exact hI10.w ((bw_201 2).trans (show hpwb 2 = (0, 10) by decide)) (by omega) (by omega)
  have hF13 : ∀ j i : Nat, (j ≠ 195 ∨ (i ≠ 8 ∧ i ≠ 9 ∧ i ≠ 10 ∧ i ≠ 11 ∧ i ≠ 12 ∧ i ≠ 13)) → (j ≠ 201 ∨ 2 < i) → τ13 j i = σ j i := fun j i h_0 h_1 => by rw [e13]; exact (hpw_fr (by omega)).trans (hF10 j i h_0 h_1)
  have hg14 : τ13 201 0 = x2 := by rw [e13]; exact (hpw_fr (Or.inr (by decide))).trans hg11
  have hg15 : τ13 201 1 = x5 := by rw [e13]; exact (hpw_fr (Or.inr (by decide))).trans hg12
  have hg16 : τ13 201 2 = x10 := by rw [e13]; exact hpw_eq
  refine h_return C hr hlk dX9_readFirst_50 ?_
  exact ⟨rfl, hI13, hF13⟩
abbrev rgX9_readNext : Room := { frames := 8, cells := 0, slots := 0, locals := 174 }
abbrev pgX9_readNext (z : Nat) (σ : hpMem) : Option Value → hpMem → Prop := fun r τ => r = none ∧ hpInv τ ∧ (∀ j i : Nat, (j ≠ 195 ∨ (i ≠ 8 ∧ i ≠ 9 ∧ i ≠ 10 ∧ i ≠ 11 ∧ i ≠ 12 ∧ i ≠ 13)) → (j ≠ 201 ∨ i = 6) → τ j i = σ j i) ∧ (τ 195 12 = 0 → τ 201 3 + τ 201 4 = σ 201 3 + σ 201 4 + 1)
set_option maxHeartbeats 4000000 in
set_option maxRecDepth 20000 in
theorem tgX9_readNext (l : Launch) (D : va_G) (cy : Nat → ClassId) (z : Nat) (σ : hpMem) (hI : hpInv σ) : hpM l D cy z yX9_readNext cX9_readNext 2 none rgX9_readNext [.ref (z + 195)] σ (pgX9_readNext z σ) := by
  refine hp_met rfl (Nat.le_of_ble_eq_true rfl) (fun p e s m below meth c C Z hr hlk => ?_)
  have hF0 : ∀ j i : Nat, (j ≠ 195 ∨ (i ≠ 8 ∧ i ≠ 9 ∧ i ≠ 10 ∧ i ≠ 11 ∧ i ≠ 12 ∧ i ≠ 13)) → (j ≠ 201 ∨ i = 6) → σ j i = σ j i := fun j i _ _ => rfl
  refine h_aload_n C dX9_readNext_0 0 rfl rfl ?_
  refine h_ldcS (i := 12) C Z (by decide) rfl dX9_readNext_1 ?_
  refine h_callV (As := [.ref (cy (1000 + 12))]) (rest := []) C Z yyX9_is wd_1459 (tgX9_is l D cy z _ 12 (by decide) hI) kd_195 rfl rfl ⟨rfl, rfl, Nat.le_of_ble_eq_true rfl, Nat.le_of_ble_eq_true rfl⟩ ⟨Nat.le_of_ble_eq_true rfl, Nat.le_of_ble_eq_true rfl⟩ (Nat.le_of_ble_eq_true rfl) dX9_readNext_3 (fun r1 τ1 hp1 => ?_)
  obtain ⟨⟨x1, rfl, ⟨hx1a, hx1b⟩, hx1⟩, rfl⟩ := hp1
  show hpV _ _ _ _ _ _ _ _ _ _ _ _ _ _ _ _ _ _ _ _ _ (_ :: _)
  refine h_if_ne (tgt := 23) C dX9_readNext_6 (by decide) ⟨by omega, by omega⟩ (fun h2 => ?_) (fun h2 => ?_)
  · refine h_aload_n C dX9_readNext_23 0 rfl rfl ?_
    refine h_ldcS (i := 12) C Z (by decide) rfl dX9_readNext_24 ?_
    refine h_callV (As := [.ref (cy (1000 + 12))]) (rest := []) C Z yyX9_is wd_1459 (tgX9_is l D cy z _ 12 (by decide) hI) kd_195 rfl rfl ⟨rfl, rfl, Nat.le_of_ble_eq_true rfl, Nat.le_of_ble_eq_true rfl⟩ ⟨Nat.le_of_ble_eq_true rfl, Nat.le_of_ble_eq_true rfl⟩ (Nat.le_of_ble_eq_true rfl) dX9_readNext_26 (fun r3 τ3 hp3 => ?_)
    obtain ⟨⟨x3, rfl, ⟨hx3a, hx3b⟩, hx3⟩, rfl⟩ := hp3
    show hpV _ _ _ _ _ _ _ _ _ _ _ _ _ _ _ _ _ _ _ _ _ (_ :: _)
    refine h_if_eq (tgt := 43) C dX9_readNext_29 (by decide) ⟨by omega, by omega⟩ (fun h4 => ?_) (fun h4 => ?_)
    · refine h_aload_n C dX9_readNext_43 0 rfl rfl ?_
      refine h_ldcS (i := 13) C Z (by decide) rfl dX9_readNext_44 ?_
      refine h_callV (As := [.ref (cy (1000 + 13))]) (rest := []) C Z yyX9_is wd_1459 (tgX9_is l D cy z _ 13 (by decide) hI) kd_195 rfl rfl ⟨rfl, rfl, Nat.le_of_ble_eq_true rfl, Nat.le_of_ble_eq_true rfl⟩ ⟨Nat.le_of_ble_eq_true rfl, Nat.le_of_ble_eq_true rfl⟩ (Nat.le_of_ble_eq_true rfl) dX9_readNext_46 (fun r5 τ5 hp5 => ?_)
      obtain ⟨⟨x5, rfl, ⟨hx5a, hx5b⟩, hx5⟩, rfl⟩ := hp5
      show hpV _ _ _ _ _ _ _ _ _ _ _ _ _ _ _ _ _ _ _ _ _ (_ :: _)
      refine h_if_eq (tgt := 68) C dX9_readNext_49 (by decide) ⟨by omega, by omega⟩ (fun h6 => ?_) (fun h6 => ?_)
      · refine h_aload_n C dX9_readNext_68 0 rfl rfl ?_
        refine h_callV (As := []) (rest := []) C Z yyX9_good wd_1438 (tgX9_good l D cy z _ hI) kd_195 rfl rfl ⟨rfl, rfl, Nat.le_of_ble_eq_true rfl, Nat.le_of_ble_eq_true rfl⟩ ⟨Nat.le_of_ble_eq_true rfl, Nat.le_of_ble_eq_true rfl⟩ (Nat.le_of_ble_eq_true rfl) dX9_readNext_69 (fun r7 τ7 hp7 => ?_)
        obtain ⟨⟨x7, rfl, ⟨hx7a, hx7b⟩, hx7⟩, rfl⟩ := hp7
        show hpV _ _ _ _ _ _ _ _ _ _ _ _ _ _ _ _ _ _ _ _ _ (_ :: _)
        refine h_if_ne (tgt := 76) C dX9_readNext_72 (by decide) ⟨by omega, by omega⟩ (fun h8 => ?_) (fun h8 => ?_)
        · refine h_aload_n C dX9_readNext_76 0 rfl rfl ?_
          refine h_ldcS (i := 12) C Z (by decide) rfl dX9_readNext_77 ?_
          refine h_callV (As := [.ref (cy (1000 + 12))]) (rest := []) C Z yyX9_takes wd_1455 (tgX9_takes l D cy z _ 12 (by decide) hI) kd_195 rfl rfl ⟨rfl, rfl, Nat.le_of_ble_eq_true rfl, Nat.le_of_ble_eq_true rfl⟩ ⟨Nat.le_of_ble_eq_true rfl, Nat.le_of_ble_eq_true rfl⟩ (Nat.le_of_ble_eq_true rfl) dX9_readNext_79 (fun r9 τ9 hp9 => ?_)
          obtain ⟨⟨x9, rfl, ⟨hx9a, hx9b⟩, hx9⟩, hI9, hG9⟩ := hp9
          have hF9 : ∀ j i : Nat, (j ≠ 195 ∨ (i ≠ 8 ∧ i ≠ 9 ∧ i ≠ 10 ∧ i ≠ 11 ∧ i ≠ 12 ∧ i ≠ 13)) → (j ≠ 201 ∨ i = 6) → τ9 j i = σ j i := fun j i h_0 h_1 => (hG9 j i (by omega)).trans (hF0 j i h_0 h_1)
          show hpV _ _ _ _ _ _ _ _ _ _ _ _ _ _ _ _ _ _ _ _ _ (_ :: _)
          refine h_if_eq (tgt := 121) C dX9_readNext_82 (by decide) ⟨by omega, by omega⟩ (fun h10 => ?_) (fun h10 => ?_)
          · refine h_aload_n C dX9_readNext_121 0 rfl rfl ?_
            refine h_callV (As := []) (rest := []) C Z yyX9_advance wd_1424 (tgX9_advance l D cy z _ hI9) kd_195 rfl rfl ⟨rfl, rfl, Nat.le_of_ble_eq_true rfl, Nat.le_of_ble_eq_true rfl⟩ ⟨Nat.le_of_ble_eq_true rfl, Nat.le_of_ble_eq_true rfl⟩ (Nat.le_of_ble_eq_true rfl) dX9_readNext_122 (fun r11 τ11 hp11 => ?_)
            obtain ⟨rfl, hI11, hG11⟩ := hp11
            have hF11 : ∀ j i : Nat, (j ≠ 195 ∨ (i ≠ 8 ∧ i ≠ 9 ∧ i ≠ 10 ∧ i ≠ 11 ∧ i ≠ 12 ∧ i ≠ 13)) → (j ≠ 201 ∨ i = 6) → τ11 j i = σ j i := fun j i h_0 h_1 => (hG11 j i (by omega)).trans (hF9 j i h_0 h_1)
            show hpV _ _ _ _ _ _ _ _ _ _ _ _ _ _ _ _ _ _ _ _ _ []
            refine h_bipush C dX9_readNext_125 (by decide) ?_
            refine h_iconst C dX9_readNext_127 ?_
            refine h_aload_n C dX9_readNext_128 0 rfl rfl ?_
            refine h_get C O9 14 kd_195 (by decide) wd_1270 dX9_readNext_129 fr_195_14 ?_
            refine h_iconst C dX9_readNext_132 ?_
            refine h_iaload C dX9_readNext_133 kd_201 4 rfl (by rw [ln_201]; decide) rfl ?_
            obtain ⟨hr12a, hr12b⟩ := hI11.b ((bw_201 4).trans (show hpwb 4 = (0, 6) by decide))
            generalize hg12 : τ11 201 4 = r12 at hr12a hr12b ⊢
            refine h_imul C dX9_readNext_134 rfl ?_
            refine h_iadd C dX9_readNext_135 rfl ?_
            refine h_istore_n (lv' := [(1, .int (hpI (15 + (2 * r12)))), (0, .ref (z + 195))]) C dX9_readNext_136 rfl (by decide) rfl ?_
            refine h_aload_n C dX9_readNext_137 1 rfl rfl ?_
            refine h_get C O9 14 kd_195 (by decide) wd_1270 dX9_readNext_138 fr_195_14 ?_
            refine h_iload_n C dX9_readNext_141 0 rfl rfl ?_
            refine h_aload_n C dX9_readNext_142 1 rfl rfl ?_
            refine h_ldcS (i := 14) C Z (by decide) rfl dX9_readNext_143 ?_
            refine h_iconst C dX9_readNext_145 ?_
            refine h_bipush C dX9_readNext_146 (by decide) ?_
            refine h_callV (As := [.ref (cy (1000 + 14)), .int (hpI 1), .int (hpI 20)]) (rest := [.int (hpI (15 + (2 * r12))), .ref (z + 201)]) C Z yyX9_toldBy wd_1470 (tgX9_toldBy l D cy z _ 14 (by decide) 1 ⟨by decide, by decide⟩ 20 ⟨by decide, by decide⟩ hI11 (by omega)) kd_195 rfl rfl ⟨rfl, rfl, Nat.le_of_ble_eq_true rfl, Nat.le_of_ble_eq_true rfl⟩ ⟨Nat.le_of_ble_eq_true rfl, Nat.le_of_ble_eq_true rfl⟩ (Nat.le_of_ble_eq_true rfl) dX9_readNext_148 (fun r13 τ13 hp13 => ?_)
            obtain ⟨⟨x13, rfl, ⟨hx13a, hx13b⟩, hx13⟩, hI13, hG13⟩ := hp13
            have hF13 : ∀ j i : Nat, (j ≠ 195 ∨ (i ≠ 8 ∧ i ≠ 9 ∧ i ≠ 10 ∧ i ≠ 11 ∧ i ≠ 12 ∧ i ≠ 13)) → (j ≠ 201 ∨ i = 6) → τ13 j i = σ j i := fun j i h_0 h_1 => (hG13 j i (by omega)).trans (hF11 j i h_0 h_1)
            have hg14 : τ13 201 4 = r12 := (hG13 201 4 (by omega)).trans hg12
            show hpV _ _ _ _ _ _ _ _ _ _ _ _ _ _ _ _ _ _ _ _ _ (_ :: _)
            refine h_iastore C dX9_readNext_151 kd_201 (15 + (2 * r12)).toNat (Int.toNat_of_nonneg (by omega)) (by rw [ln_201]; omega) ?_
            obtain ⟨τ15, e15⟩ : ∃ μ : hpMem, μ = hpw τ13 201 ((15 + (2 * r12)).toNat) x13 := ⟨_, rfl⟩
            rw [← e15]
            have hI15 : hpInv τ15 := by rw [e15]; exact hpInv.w201 hI13 ((15 + (2 * r12)).toNat) 15 27 (0) 20 (by omega) (by omega) (by decide) (by omega) (by omega)
            have hF15 : ∀ j i : Nat, (j ≠ 195 ∨ (i ≠ 8 ∧ i ≠ 9 ∧ i ≠ 10 ∧ i ≠ 11 ∧ i ≠ 12 ∧ i ≠ 13)) → (j ≠ 201 ∨ i = 6) → τ15 j i = σ j i := fun j i h_0 h_1 => by rw [e15]; exact (hpw_fr (by omega)).trans (hF13 j i h_0 h_1)
            refine h_aload_n C dX9_readNext_152 1 rfl rfl ?_
            refine h_get C O9 14 kd_195 (by decide) wd_1270 dX9_readNext_153 fr_195_14 ?_
            refine h_iload_n C dX9_readNext_156 0 rfl rfl ?_
            refine h_iconst C dX9_readNext_157 ?_
            refine h_iadd C dX9_readNext_158 rfl ?_
            refine h_aload_n C dX9_readNext_159 1 rfl rfl ?_
            refine h_ldcS (i := 15) C Z (by decide) rfl dX9_readNext_160 ?_
            refine h_iconst C dX9_readNext_162 ?_
            refine h_bipush C dX9_readNext_163 (by decide) ?_
            refine h_callV (As := [.ref (cy (1000 + 15)), .int (hpI 0), .int (hpI 15)]) (rest := [.int (hpI ((15 + (2 * r12)) + 1)), .ref (z + 201)]) C Z yyX9_toldBy wd_1470 (tgX9_toldBy l D cy z _ 15 (by decide) 0 ⟨by decide, by decide⟩ 15 ⟨by decide, by decide⟩ hI15 (by omega)) kd_195 rfl rfl ⟨rfl, rfl, Nat.le_of_ble_eq_true rfl, Nat.le_of_ble_eq_true rfl⟩ ⟨Nat.le_of_ble_eq_true rfl, Nat.le_of_ble_eq_true rfl⟩ (Nat.le_of_ble_eq_true rfl) dX9_readNext_165 (fun r16 τ16 hp16 => ?_)
            obtain ⟨⟨x16, rfl, ⟨hx16a, hx16b⟩, hx16⟩, hI16, hG16⟩ := hp16
            have hF16 : ∀ j i : Nat, (j ≠ 195 ∨ (i ≠ 8 ∧ i ≠ 9 ∧ i ≠ 10 ∧ i ≠ 11 ∧ i ≠ 12 ∧ i ≠ 13)) → (j ≠ 201 ∨ i = 6) → τ16 j i = σ j i := fun j i h_0 h_1 => (hG16 j i (by omega)).trans (hF15 j i h_0 h_1)
            show hpV _ _ _ _ _ _ _ _ _ _ _ _ _ _ _ _ _ _ _ _ _ (_ :: _)
            refine h_iastore C dX9_readNext_168 kd_201 ((15 + (2 * r12)) + 1).toNat (Int.toNat_of_nonneg (by omega)) (by rw [ln_201]; omega) ?_
            obtain ⟨τ17, e17⟩ : ∃ μ : hpMem, μ = hpw τ16 201 (((15 + (2 * r12)) + 1).toNat) x16 := ⟨_, rfl⟩
            rw [← e17]
            have hI17 : hpInv τ17 := by rw [e17]; exact hpInv.w201 hI16 (((15 + (2 * r12)) + 1).toNat) 16 28 (0) 20 (by omega) (by omega) (by decide) (by omega) (by omega)
            have hF17 : ∀ j i : Nat, (j ≠ 195 ∨ (i ≠ 8 ∧ i ≠ 9 ∧ i ≠ 10 ∧ i ≠ 11 ∧ i ≠ 12 ∧ i ≠ 13)) → (j ≠ 201 ∨ i = 6) → τ17 j i = σ j i := fun j i h_0 h_1 => by rw [e17]; exact (hpw_fr (by omega)).trans (hF16 j i h_0 h_1)
            refine h_aload_n C dX9_readNext_169 1 rfl rfl ?_
            refine h_get C O9 14 kd_195 (by decide) wd_1270 dX9_readNext_170 fr_195_14 ?_
            refine h_iconst C dX9_readNext_173 ?_
            refine h_dup2 C rfl rfl dX9_readNext_174 ?_
            refine h_iaload C dX9_readNext_175 kd_201 4 rfl (by rw [ln_201]; decide) rfl ?_
            obtain ⟨hr18a, hr18b⟩ := hI17.b ((bw_201 4).trans (show hpwb 4 = (0, 6) by decide))
            generalize hg18 : τ17 201 4 = r18 at hr18a hr18b ⊢
            refine h_iconst C dX9_readNext_176 ?_
            refine h_iadd C dX9_readNext_177 rfl ?_
            refine h_iastore C dX9_readNext_178 kd_201 4 rfl (by rw [ln_201]; decide) ?_
            obtain ⟨τ19, e19⟩ : ∃ μ : hpMem, μ = hpw τ17 201 4 (r18 + 1) := ⟨_, rfl⟩
            rw [← e19]
            have hI19 : hpInv τ19 := by rw [e19]; exact hI17.w ((bw_201 4).trans (show hpwb 4 = (0, 6) by decide)) (by omega) (by omega)
            have hF19 : ∀ j i : Nat, (j ≠ 195 ∨ (i ≠ 8 ∧ i ≠ 9 ∧ i ≠ 10 ∧ i ≠ 11 ∧ i ≠ 12 ∧ i ≠ 13)) → (j ≠ 201 ∨ i = 6) → τ19 j i = σ j i := fun j i h_0 h_1 => by rw [e19]; exact (hpw_fr (by omega)).trans (hF17 j i h_0 h_1)
            have hg20 : τ19 201 4 = r18 + 1 := by rw [e19]; exact hpw_eq
            refine h_return C hr hlk dX9_readNext_179 ?_
            exact ⟨rfl, hI19, hF19, fun _ => by omega⟩
          · refine h_aload_n C dX9_readNext_85 0 rfl rfl ?_
            refine h_get C O9 14 kd_195 (by decide) wd_1270 dX9_readNext_86 fr_195_14 ?_
            refine h_bipush C dX9_readNext_89 (by decide) ?_
            refine h_aload_n C dX9_readNext_91 0 rfl rfl ?_
            refine h_get C O9 14 kd_195 (by decide) wd_1270 dX9_readNext_92 fr_195_14 ?_
            refine h_iconst C dX9_readNext_95 ?_
            refine h_iaload C dX9_readNext_96 kd_201 3 rfl (by rw [ln_201]; decide) rfl ?_
            obtain ⟨hr21a, hr21b⟩ := hI9.b ((bw_201 3).trans (show hpwb 3 = (0, 8) by decide))
            generalize hg21 : τ9 201 3 = r21 at hr21a hr21b ⊢
            refine h_iadd C dX9_readNext_97 rfl ?_
            refine h_aload_n C dX9_readNext_98 0 rfl rfl ?_
            refine h_ldcS (i := 14) C Z (by decide) rfl dX9_readNext_99 ?_
            refine h_iconst C dX9_readNext_101 ?_
            refine h_bipush C dX9_readNext_102 (by decide) ?_
            refine h_callV (As := [.ref (cy (1000 + 14)), .int (hpI 1), .int (hpI 20)]) (rest := [.int (hpI (7 + r21)), .ref (z + 201)]) C Z yyX9_toldBy wd_1470 (tgX9_toldBy l D cy z _ 14 (by decide) 1 ⟨by decide, by decide⟩ 20 ⟨by decide, by decide⟩ hI9 (by omega)) kd_195 rfl rfl ⟨rfl, rfl, Nat.le_of_ble_eq_true rfl, Nat.le_of_ble_eq_true rfl⟩ ⟨Nat.le_of_ble_eq_true rfl, Nat.le_of_ble_eq_true rfl⟩ (Nat.le_of_ble_eq_true rfl) dX9_readNext_104 (fun r22 τ22 hp22 => ?_)
            obtain ⟨⟨x22, rfl, ⟨hx22a, hx22b⟩, hx22⟩, hI22, hG22⟩ := hp22
            have hF22 : ∀ j i : Nat, (j ≠ 195 ∨ (i ≠ 8 ∧ i ≠ 9 ∧ i ≠ 10 ∧ i ≠ 11 ∧ i ≠ 12 ∧ i ≠ 13)) → (j ≠ 201 ∨ i = 6) → τ22 j i = σ j i := fun j i h_0 h_1 => (hG22 j i (by omega)).trans (hF9 j i h_0 h_1)
            have hg23 : τ22 201 3 = r21 := (hG22 201 3 (by omega)).trans hg21
            show hpV _ _ _ _ _ _ _ _ _ _ _ _ _ _ _ _ _ _ _ _ _ (_ :: _)
            refine h_iastore C dX9_readNext_107 kd_201 (7 + r21).toNat (Int.toNat_of_nonneg (by omega)) (by rw [ln_201]; omega) ?_
            obtain ⟨τ24, e24⟩ : ∃ μ : hpMem, μ = hpw τ22 201 ((7 + r21).toNat) x22 := ⟨_, rfl⟩
            rw [← e24]
            have hI24 : hpInv τ24 := by rw [e24]; exact hpInv.w201 hI22 ((7 + r21).toNat) 7 15 (0) 20 (by omega) (by omega) (by decide) (by omega) (by omega)
            have hF24 : ∀ j i : Nat, (j ≠ 195 ∨ (i ≠ 8 ∧ i ≠ 9 ∧ i ≠ 10 ∧ i ≠ 11 ∧ i ≠ 12 ∧ i ≠ 13)) → (j ≠ 201 ∨ i = 6) → τ24 j i = σ j i := fun j i h_0 h_1 => by rw [e24]; exact (hpw_fr (by omega)).trans (hF22 j i h_0 h_1)
            refine h_aload_n C dX9_readNext_108 0 rfl rfl ?_
            refine h_get C O9 14 kd_195 (by decide) wd_1270 dX9_readNext_109 fr_195_14 ?_
            refine h_iconst C dX9_readNext_112 ?_
            refine h_dup2 C rfl rfl dX9_readNext_113 ?_
            refine h_iaload C dX9_readNext_114 kd_201 3 rfl (by rw [ln_201]; decide) rfl ?_
            obtain ⟨hr25a, hr25b⟩ := hI24.b ((bw_201 3).trans (show hpwb 3 = (0, 8) by decide))
            generalize hg25 : τ24 201 3 = r25 at hr25a hr25b ⊢
            refine h_iconst C dX9_readNext_115 ?_
            refine h_iadd C dX9_readNext_116 rfl ?_
            refine h_iastore C dX9_readNext_117 kd_201 3 rfl (by rw [ln_201]; decide) ?_
            obtain ⟨τ26, e26⟩ : ∃ μ : hpMem, μ = hpw τ24 201 3 (r25 + 1) := ⟨_, rfl⟩
            rw [← e26]
            have hI26 : hpInv τ26 := by rw [e26]; exact hI24.w ((bw_201 3).trans (show hpwb 3 = (0, 8) by decide)) (by omega) (by omega)
            have hF26 : ∀ j i : Nat, (j ≠ 195 ∨ (i ≠ 8 ∧ i ≠ 9 ∧ i ≠ 10 ∧ i ≠ 11 ∧ i ≠ 12 ∧ i ≠ 13)) → (j ≠ 201 ∨ i = 6) → τ26 j i = σ j i := fun j i h_0 h_1 => by rw [e26]; exact (hpw_fr (by omega)).trans (hF24 j i h_0 h_1)
            have hg27 : τ26 201 3 = r25 + 1 := by rw [e26]; exact hpw_eq
            refine h_goto (tgt := 179) C dX9_readNext_118 (by decide) ?_
            refine h_return C hr hlk dX9_readNext_179 ?_
            exact ⟨rfl, hI26, hF26, fun _ => by omega⟩
        · refine h_return C hr hlk dX9_readNext_75 ?_
          exact ⟨rfl, hI, hF0, by omega⟩
      · refine h_aload_n C dX9_readNext_52 0 rfl rfl ?_
        refine h_get C O9 14 kd_195 (by decide) wd_1270 dX9_readNext_53 fr_195_14 ?_
        refine h_iconst C dX9_readNext_56 ?_
        refine h_iaload C dX9_readNext_57 kd_201 4 rfl (by rw [ln_201]; decide) rfl ?_
        obtain ⟨hr28a, hr28b⟩ := hI.b ((bw_201 4).trans (show hpwb 4 = (0, 6) by decide))
        generalize hg28 : σ 201 4 = r28 at hr28a hr28b ⊢
        refine h_bipush C dX9_readNext_58 (by decide) ?_
        refine h_icmp_ne (tgt := 68) C dX9_readNext_60 (by decide) ⟨by omega, by omega⟩ ⟨by decide, by decide⟩ (fun h29 => ?_) (fun h29 => ?_)
        · refine h_aload_n C dX9_readNext_68 0 rfl rfl ?_
          refine h_callV (As := []) (rest := []) C Z yyX9_good wd_1438 (tgX9_good l D cy z _ hI) kd_195 rfl rfl ⟨rfl, rfl, Nat.le_of_ble_eq_true rfl, Nat.le_of_ble_eq_true rfl⟩ ⟨Nat.le_of_ble_eq_true rfl, Nat.le_of_ble_eq_true rfl⟩ (Nat.le_of_ble_eq_true rfl) dX9_readNext_69 (fun r30 τ30 hp30 => ?_)
          obtain ⟨⟨x30, rfl, ⟨hx30a, hx30b⟩, hx30⟩, rfl⟩ := hp30
          show hpV _ _ _ _ _ _ _ _ _ _ _ _ _ _ _ _ _ _ _ _ _ (_ :: _)
          refine h_if_ne (tgt := 76) C dX9_readNext_72 (by decide) ⟨by omega, by omega⟩ (fun h31 => ?_) (fun h31 => ?_)
          · refine h_aload_n C dX9_readNext_76 0 rfl rfl ?_
            refine h_ldcS (i := 12) C Z (by decide) rfl dX9_readNext_77 ?_
            refine h_callV (As := [.ref (cy (1000 + 12))]) (rest := []) C Z yyX9_takes wd_1455 (tgX9_takes l D cy z _ 12 (by decide) hI) kd_195 rfl rfl ⟨rfl, rfl, Nat.le_of_ble_eq_true rfl, Nat.le_of_ble_eq_true rfl⟩ ⟨Nat.le_of_ble_eq_true rfl, Nat.le_of_ble_eq_true rfl⟩ (Nat.le_of_ble_eq_true rfl) dX9_readNext_79 (fun r32 τ32 hp32 => ?_)
            obtain ⟨⟨x32, rfl, ⟨hx32a, hx32b⟩, hx32⟩, hI32, hG32⟩ := hp32
            have hF32 : ∀ j i : Nat, (j ≠ 195 ∨ (i ≠ 8 ∧ i ≠ 9 ∧ i ≠ 10 ∧ i ≠ 11 ∧ i ≠ 12 ∧ i ≠ 13)) → (j ≠ 201 ∨ i = 6) → τ32 j i = σ j i := fun j i h_0 h_1 => (hG32 j i (by omega)).trans (hF0 j i h_0 h_1)
            have hg33 : τ32 201 4 = r28 := (hG32 201 4 (by omega)).trans hg28
            show hpV _ _ _ _ _ _ _ _ _ _ _ _ _ _ _ _ _ _ _ _ _ (_ :: _)
            refine h_if_eq (tgt := 121) C dX9_readNext_82 (by decide) ⟨by omega, by omega⟩ (fun h34 => ?_) (fun h34 => ?_)
            · refine h_aload_n C dX9_readNext_121 0 rfl rfl ?_
              refine h_callV (As := []) (rest := []) C Z yyX9_advance wd_1424 (tgX9_advance l D cy z _ hI32) kd_195 rfl rfl ⟨rfl, rfl, Nat.le_of_ble_eq_true rfl, Nat.le_of_ble_eq_true rfl⟩ ⟨Nat.le_of_ble_eq_true rfl, Nat.le_of_ble_eq_true rfl⟩ (Nat.le_of_ble_eq_true rfl) dX9_readNext_122 (fun r35 τ35 hp35 => ?_)
              obtain ⟨rfl, hI35, hG35⟩ := hp35
              have hF35 : ∀ j i : Nat, (j ≠ 195 ∨ (i ≠ 8 ∧ i ≠ 9 ∧ i ≠ 10 ∧ i ≠ 11 ∧ i ≠ 12 ∧ i ≠ 13)) → (j ≠ 201 ∨ i = 6) → τ35 j i = σ j i := fun j i h_0 h_1 => (hG35 j i (by omega)).trans (hF32 j i h_0 h_1)
              have hg36 : τ35 201 4 = r28 := (hG35 201 4 (by omega)).trans hg33
              show hpV _ _ _ _ _ _ _ _ _ _ _ _ _ _ _ _ _ _ _ _ _ []
              refine h_bipush C dX9_readNext_125 (by decide) ?_
              refine h_iconst C dX9_readNext_127 ?_
              refine h_aload_n C dX9_readNext_128 0 rfl rfl ?_
              refine h_get C O9 14 kd_195 (by decide) wd_1270 dX9_readNext_129 fr_195_14 ?_
              refine h_iconst C dX9_readNext_132 ?_
              refine h_iaload C dX9_readNext_133 kd_201 4 rfl (by rw [ln_201]; decide) rfl ?_
              rw [hg36]
              refine h_imul C dX9_readNext_134 rfl ?_
              refine h_iadd C dX9_readNext_135 rfl ?_
              refine h_istore_n (lv' := [(1, .int (hpI (15 + (2 * r28)))), (0, .ref (z + 195))]) C dX9_readNext_136 rfl (by decide) rfl ?_
              refine h_aload_n C dX9_readNext_137 1 rfl rfl ?_
              refine h_get C O9 14 kd_195 (by decide) wd_1270 dX9_readNext_138 fr_195_14 ?_
              refine h_iload_n C dX9_readNext_141 0 rfl rfl ?_
              refine h_aload_n C dX9_readNext_142 1 rfl rfl ?_
              refine h_ldcS (i := 14) C Z (by decide) rfl dX9_readNext_143 ?_
              refine h_iconst C dX9_readNext_145 ?_
              refine h_bipush C dX9_readNext_146 (by decide) ?_
              refine h_callV (As := [.ref (cy (1000 + 14)), .int (hpI 1), .int (hpI 20)]) (rest := [.int (hpI (15 + (2 * r28))), .ref (z + 201)]) C Z yyX9_toldBy wd_1470 (tgX9_toldBy l D cy z _ 14 (by decide) 1 ⟨by decide, by decide⟩ 20 ⟨by decide, by decide⟩ hI35 (by omega)) kd_195 rfl rfl ⟨rfl, rfl, Nat.le_of_ble_eq_true rfl, Nat.le_of_ble_eq_true rfl⟩ ⟨Nat.le_of_ble_eq_true rfl, Nat.le_of_ble_eq_true rfl⟩ (Nat.le_of_ble_eq_true rfl) dX9_readNext_148 (fun r37 τ37 hp37 => ?_)
              obtain ⟨⟨x37, rfl, ⟨hx37a, hx37b⟩, hx37⟩, hI37, hG37⟩ := hp37
              have hF37 : ∀ j i : Nat, (j ≠ 195 ∨ (i ≠ 8 ∧ i ≠ 9 ∧ i ≠ 10 ∧ i ≠ 11 ∧ i ≠ 12 ∧ i ≠ 13)) → (j ≠ 201 ∨ i = 6) → τ37 j i = σ j i := fun j i h_0 h_1 => (hG37 j i (by omega)).trans (hF35 j i h_0 h_1)
              have hg38 : τ37 201 4 = r28 := (hG37 201 4 (by omega)).trans hg36
              show hpV _ _ _ _ _ _ _ _ _ _ _ _ _ _ _ _ _ _ _ _ _ (_ :: _)
              refine h_iastore C dX9_readNext_151 kd_201 (15 + (2 * r28)).toNat (Int.toNat_of_nonneg (by omega)) (by rw [ln_201]; omega) ?_
              obtain ⟨τ39, e39⟩ : ∃ μ : hpMem, μ = hpw τ37 201 ((15 + (2 * r28)).toNat) x37 := ⟨_, rfl⟩
              rw [← e39]
              have hI39 : hpInv τ39 := by rw [e39]; exact hpInv.w201 hI37 ((15 + (2 * r28)).toNat) 15 25 (0) 20 (by omega) (by omega) (by decide) (by omega) (by omega)
              have hF39 : ∀ j i : Nat, (j ≠ 195 ∨ (i ≠ 8 ∧ i ≠ 9 ∧ i ≠ 10 ∧ i ≠ 11 ∧ i ≠ 12 ∧ i ≠ 13)) → (j ≠ 201 ∨ i = 6) → τ39 j i = σ j i := fun j i h_0 h_1 => by rw [e39]; exact (hpw_fr (by omega)).trans (hF37 j i h_0 h_1)
              refine h_aload_n C dX9_readNext_152 1 rfl rfl ?_
              refine h_get C O9 14 kd_195 (by decide) wd_1270 dX9_readNext_153 fr_195_14 ?_
              refine h_iload_n C dX9_readNext_156 0 rfl rfl ?_
              refine h_iconst C dX9_readNext_157 ?_
              refine h_iadd C dX9_readNext_158 rfl ?_
              refine h_aload_n C dX9_readNext_159 1 rfl rfl ?_
              refine h_ldcS (i := 15) C Z (by decide) rfl dX9_readNext_160 ?_
              refine h_iconst C dX9_readNext_162 ?_
              refine h_bipush C dX9_readNext_163 (by decide) ?_
              refine h_callV (As := [.ref (cy (1000 + 15)), .int (hpI 0), .int (hpI 15)]) (rest := [.int (hpI ((15 + (2 * r28)) + 1)), .ref (z + 201)]) C Z yyX9_toldBy wd_1470 (tgX9_toldBy l D cy z _ 15 (by decide) 0 ⟨by decide, by decide⟩ 15 ⟨by decide, by decide⟩ hI39 (by omega)) kd_195 rfl rfl ⟨rfl, rfl, Nat.le_of_ble_eq_true rfl, Nat.le_of_ble_eq_true rfl⟩ ⟨Nat.le_of_ble_eq_true rfl, Nat.le_of_ble_eq_true rfl⟩ (Nat.le_of_ble_eq_true rfl) dX9_readNext_165 (fun r40 τ40 hp40 => ?_)
              obtain ⟨⟨x40, rfl, ⟨hx40a, hx40b⟩, hx40⟩, hI40, hG40⟩ := hp40
              have hF40 : ∀ j i : Nat, (j ≠ 195 ∨ (i ≠ 8 ∧ i ≠ 9 ∧ i ≠ 10 ∧ i ≠ 11 ∧ i ≠ 12 ∧ i ≠ 13)) → (j ≠ 201 ∨ i = 6) → τ40 j i = σ j i := fun j i h_0 h_1 => (hG40 j i (by omega)).trans (hF39 j i h_0 h_1)
              show hpV _ _ _ _ _ _ _ _ _ _ _ _ _ _ _ _ _ _ _ _ _ (_ :: _)
              refine h_iastore C dX9_readNext_168 kd_201 ((15 + (2 * r28)) + 1).toNat (Int.toNat_of_nonneg (by omega)) (by rw [ln_201]; omega) ?_
              obtain ⟨τ41, e41⟩ : ∃ μ : hpMem, μ = hpw τ40 201 (((15 + (2 * r28)) + 1).toNat) x40 := ⟨_, rfl⟩
              rw [← e41]
              have hI41 : hpInv τ41 := by rw [e41]; exact hpInv.w201 hI40 (((15 + (2 * r28)) + 1).toNat) 16 26 (0) 20 (by omega) (by omega) (by decide) (by omega) (by omega)
              have hF41 : ∀ j i : Nat, (j ≠ 195 ∨ (i ≠ 8 ∧ i ≠ 9 ∧ i ≠ 10 ∧ i ≠ 11 ∧ i ≠ 12 ∧ i ≠ 13)) → (j ≠ 201 ∨ i = 6) → τ41 j i = σ j i := fun j i h_0 h_1 => by rw [e41]; exact (hpw_fr (by omega)).trans (hF40 j i h_0 h_1)
              refine h_aload_n C dX9_readNext_169 1 rfl rfl ?_
              refine h_get C O9 14 kd_195 (by decide) wd_1270 dX9_readNext_170 fr_195_14 ?_
              refine h_iconst C dX9_readNext_173 ?_
              refine h_dup2 C rfl rfl dX9_readNext_174 ?_
              refine h_iaload C dX9_readNext_175 kd_201 4 rfl (by rw [ln_201]; decide) rfl ?_
              obtain ⟨hr42a, hr42b⟩ := hI41.b ((bw_201 4).trans (show hpwb 4 = (0, 6) by decide))
              generalize hg42 : τ41 201 4 = r42 at hr42a hr42b ⊢
              refine h_iconst C dX9_readNext_176 ?_
              refine h_iadd C dX9_readNext_177 rfl ?_
              refine h_iastore C dX9_readNext_178 kd_201 4 rfl (by rw [ln_201]; decide) ?_
              obtain ⟨τ43, e43⟩ : ∃ μ : hpMem, μ = hpw τ41 201 4 (r42 + 1) := ⟨_, rfl⟩
              rw [← e43]
              have hI43 : hpInv τ43 := by rw [e43]; exact hI41.w ((bw_201 4).trans (show hpwb 4 = (0, 6) by decide)) (by omega) (by omega)
              have hF43 : ∀ j i : Nat, (j ≠ 195 ∨ (i ≠ 8 ∧ i ≠ 9 ∧ i ≠ 10 ∧ i ≠ 11 ∧ i ≠ 12 ∧ i ≠ 13)) → (j ≠ 201 ∨ i = 6) → τ43 j i = σ j i := fun j i h_0 h_1 => by rw [e43]; exact (hpw_fr (by omega)).trans (hF41 j i h_0 h_1)
              have hg44 : τ43 201 4 = r42 + 1 := by rw [e43]; exact hpw_eq
              refine h_return C hr hlk dX9_readNext_179 ?_
              exact ⟨rfl, hI43, hF43, fun _ => by omega⟩
            · refine h_aload_n C dX9_readNext_85 0 rfl rfl ?_
              refine h_get C O9 14 kd_195 (by decide) wd_1270 dX9_readNext_86 fr_195_14 ?_
              refine h_bipush C dX9_readNext_89 (by decide) ?_
              refine h_aload_n C dX9_readNext_91 0 rfl rfl ?_
              refine h_get C O9 14 kd_195 (by decide) wd_1270 dX9_readNext_92 fr_195_14 ?_
              refine h_iconst C dX9_readNext_95 ?_
              refine h_iaload C dX9_readNext_96 kd_201 3 rfl (by rw [ln_201]; decide) rfl ?_
              obtain ⟨hr45a, hr45b⟩ := hI32.b ((bw_201 3).trans (show hpwb 3 = (0, 8) by decide))
              generalize hg45 : τ32 201 3 = r45 at hr45a hr45b ⊢
              refine h_iadd C dX9_readNext_97 rfl ?_
              refine h_aload_n C dX9_readNext_98 0 rfl rfl ?_
              refine h_ldcS (i := 14) C Z (by decide) rfl dX9_readNext_99 ?_
              refine h_iconst C dX9_readNext_101 ?_
              refine h_bipush C dX9_readNext_102 (by decide) ?_
              refine h_callV (As := [.ref (cy (1000 + 14)), .int (hpI 1), .int (hpI 20)]) (rest := [.int (hpI (7 + r45)), .ref (z + 201)]) C Z yyX9_toldBy wd_1470 (tgX9_toldBy l D cy z _ 14 (by decide) 1 ⟨by decide, by decide⟩ 20 ⟨by decide, by decide⟩ hI32 (by omega)) kd_195 rfl rfl ⟨rfl, rfl, Nat.le_of_ble_eq_true rfl, Nat.le_of_ble_eq_true rfl⟩ ⟨Nat.le_of_ble_eq_true rfl, Nat.le_of_ble_eq_true rfl⟩ (Nat.le_of_ble_eq_true rfl) dX9_readNext_104 (fun r46 τ46 hp46 => ?_)
              obtain ⟨⟨x46, rfl, ⟨hx46a, hx46b⟩, hx46⟩, hI46, hG46⟩ := hp46
              have hF46 : ∀ j i : Nat, (j ≠ 195 ∨ (i ≠ 8 ∧ i ≠ 9 ∧ i ≠ 10 ∧ i ≠ 11 ∧ i ≠ 12 ∧ i ≠ 13)) → (j ≠ 201 ∨ i = 6) → τ46 j i = σ j i := fun j i h_0 h_1 => (hG46 j i (by omega)).trans (hF32 j i h_0 h_1)
              have hg47 : τ46 201 4 = r28 := (hG46 201 4 (by omega)).trans hg33
              have hg48 : τ46 201 3 = r45 := (hG46 201 3 (by omega)).trans hg45
              show hpV _ _ _ _ _ _ _ _ _ _ _ _ _ _ _ _ _ _ _ _ _ (_ :: _)
              refine h_iastore C dX9_readNext_107 kd_201 (7 + r45).toNat (Int.toNat_of_nonneg (by omega)) (by rw [ln_201]; omega) ?_
              obtain ⟨τ49, e49⟩ : ∃ μ : hpMem, μ = hpw τ46 201 ((7 + r45).toNat) x46 := ⟨_, rfl⟩
              rw [← e49]
              have hI49 : hpInv τ49 := by rw [e49]; exact hpInv.w201 hI46 ((7 + r45).toNat) 7 15 (0) 20 (by omega) (by omega) (by decide) (by omega) (by omega)
              have hF49 : ∀ j i : Nat, (j ≠ 195 ∨ (i ≠ 8 ∧ i ≠ 9 ∧ i ≠ 10 ∧ i ≠ 11 ∧ i ≠ 12 ∧ i ≠ 13)) → (j ≠ 201 ∨ i = 6) → τ49 j i = σ j i := fun j i h_0 h_1 => by rw [e49]; exact (hpw_fr (by omega)).trans (hF46 j i h_0 h_1)
              refine h_aload_n C dX9_readNext_108 0 rfl rfl ?_
              refine h_get C O9 14 kd_195 (by decide) wd_1270 dX9_readNext_109 fr_195_14 ?_
              refine h_iconst C dX9_readNext_112 ?_
              refine h_dup2 C rfl rfl dX9_readNext_113 ?_
              refine h_iaload C dX9_readNext_114 kd_201 3 rfl (by rw [ln_201]; decide) rfl ?_
              obtain ⟨hr50a, hr50b⟩ := hI49.b ((bw_201 3).trans (show hpwb 3 = (0, 8) by decide))
              generalize hg50 : τ49 201 3 = r50 at hr50a hr50b ⊢
              refine h_iconst C dX9_readNext_115 ?_
              refine h_iadd C dX9_readNext_116 rfl ?_
              refine h_iastore C dX9_readNext_117 kd_201 3 rfl (by rw [ln_201]; decide) ?_
              obtain ⟨τ51, e51⟩ : ∃ μ : hpMem, μ = hpw τ49 201 3 (r50 + 1) := ⟨_, rfl⟩
              rw [← e51]
              have hI51 : hpInv τ51 := by rw [e51]; exact hI49.w ((bw_201 3).trans (show hpwb 3 = (0, 8) by decide)) (by omega) (by omega)
              have hF51 : ∀ j i : Nat, (j ≠ 195 ∨ (i ≠ 8 ∧ i ≠ 9 ∧ i ≠ 10 ∧ i ≠ 11 ∧ i ≠ 12 ∧ i ≠ 13)) → (j ≠ 201 ∨ i = 6) → τ51 j i = σ j i := fun j i h_0 h_1 => by rw [e51]; exact (hpw_fr (by omega)).trans (hF49 j i h_0 h_1)
              have hg52 : τ51 201 3 = r50 + 1 := by rw [e51]; exact hpw_eq
              refine h_goto (tgt := 179) C dX9_readNext_118 (by decide) ?_
              refine h_return C hr hlk dX9_readNext_179 ?_
              exact ⟨rfl, hI51, hF51, fun _ => by omega⟩
          · refine h_return C hr hlk dX9_readNext_75 ?_
            exact ⟨rfl, hI, hF0, by omega⟩
        · refine h_aload_n C dX9_readNext_63 0 rfl rfl ?_
          refine h_iconst C dX9_readNext_64 ?_
          refine h_callV (As := [.int (hpI 3)]) (rest := []) C Z yyX9_errs wd_1465 (tgX9_errs l D cy z _ 3 ⟨by decide, by decide⟩ hI (by omega)) kd_195 rfl rfl ⟨rfl, rfl, Nat.le_of_ble_eq_true rfl, Nat.le_of_ble_eq_true rfl⟩ ⟨Nat.le_of_ble_eq_true rfl, Nat.le_of_ble_eq_true rfl⟩ (Nat.le_of_ble_eq_true rfl) dX9_readNext_65 (fun r53 τ53 hp53 => ?_)
          obtain ⟨rfl, hI53, hG53, hq53_0⟩ := hp53
          have hF53 : ∀ j i : Nat, (j ≠ 195 ∨ (i ≠ 8 ∧ i ≠ 9 ∧ i ≠ 10 ∧ i ≠ 11 ∧ i ≠ 12 ∧ i ≠ 13)) → (j ≠ 201 ∨ i = 6) → τ53 j i = σ j i := fun j i h_0 h_1 => (hG53 j i (by omega)).trans (hF0 j i h_0 h_1)
          have hg54 : τ53 201 4 = r28 := (hG53 201 4 (by omega)).trans hg28
          show hpV _ _ _ _ _ _ _ _ _ _ _ _ _ _ _ _ _ _ _ _ _ []
          refine h_aload_n C dX9_readNext_68 0 rfl rfl ?_
          refine h_callV (As := []) (rest := []) C Z yyX9_good wd_1438 (tgX9_good l D cy z _ hI53) kd_195 rfl rfl ⟨rfl, rfl, Nat.le_of_ble_eq_true rfl, Nat.le_of_ble_eq_true rfl⟩ ⟨Nat.le_of_ble_eq_true rfl, Nat.le_of_ble_eq_true rfl⟩ (Nat.le_of_ble_eq_true rfl) dX9_readNext_69 (fun r55 τ55 hp55 => ?_)
          obtain ⟨⟨x55, rfl, ⟨hx55a, hx55b⟩, hx55⟩, rfl⟩ := hp55
          show hpV _ _ _ _ _ _ _ _ _ _ _ _ _ _ _ _ _ _ _ _ _ (_ :: _)
          refine h_if_ne (tgt := 76) C dX9_readNext_72 (by decide) ⟨by omega, by omega⟩ (fun h56 => ?_) (fun h56 => ?_)
          · refine h_aload_n C dX9_readNext_76 0 rfl rfl ?_
            refine h_ldcS (i := 12) C Z (by decide) rfl dX9_readNext_77 ?_
            refine h_callV (As := [.ref (cy (1000 + 12))]) (rest := []) C Z yyX9_takes wd_1455 (tgX9_takes l D cy z _ 12 (by decide) hI53) kd_195 rfl rfl ⟨rfl, rfl, Nat.le_of_ble_eq_true rfl, Nat.le_of_ble_eq_true rfl⟩ ⟨Nat.le_of_ble_eq_true rfl, Nat.le_of_ble_eq_true rfl⟩ (Nat.le_of_ble_eq_true rfl) dX9_readNext_79 (fun r57 τ57 hp57 => ?_)
            obtain ⟨⟨x57, rfl, ⟨hx57a, hx57b⟩, hx57⟩, hI57, hG57⟩ := hp57
            have hF57 : ∀ j i : Nat, (j ≠ 195 ∨ (i ≠ 8 ∧ i ≠ 9 ∧ i ≠ 10 ∧ i ≠ 11 ∧ i ≠ 12 ∧ i ≠ 13)) → (j ≠ 201 ∨ i = 6) → τ57 j i = σ j i := fun j i h_0 h_1 => (hG57 j i (by omega)).trans (hF53 j i h_0 h_1)
            have hg58 : τ57 201 4 = r28 := (hG57 201 4 (by omega)).trans hg54
            show hpV _ _ _ _ _ _ _ _ _ _ _ _ _ _ _ _ _ _ _ _ _ (_ :: _)
            refine h_if_eq (tgt := 121) C dX9_readNext_82 (by decide) ⟨by omega, by omega⟩ (fun h59 => ?_) (fun h59 => ?_)
            · refine h_aload_n C dX9_readNext_121 0 rfl rfl ?_
              refine h_callV (As := []) (rest := []) C Z yyX9_advance wd_1424 (tgX9_advance l D cy z _ hI57) kd_195 rfl rfl ⟨rfl, rfl, Nat.le_of_ble_eq_true rfl, Nat.le_of_ble_eq_true rfl⟩ ⟨Nat.le_of_ble_eq_true rfl, Nat.le_of_ble_eq_true rfl⟩ (Nat.le_of_ble_eq_true rfl) dX9_readNext_122 (fun r60 τ60 hp60 => ?_)
              obtain ⟨rfl, hI60, hG60⟩ := hp60
              have hF60 : ∀ j i : Nat, (j ≠ 195 ∨ (i ≠ 8 ∧ i ≠ 9 ∧ i ≠ 10 ∧ i ≠ 11 ∧ i ≠ 12 ∧ i ≠ 13)) → (j ≠ 201 ∨ i = 6) → τ60 j i = σ j i := fun j i h_0 h_1 => (hG60 j i (by omega)).trans (hF57 j i h_0 h_1)
              have hg61 : τ60 201 4 = r28 := (hG60 201 4 (by omega)).trans hg58
              show hpV _ _ _ _ _ _ _ _ _ _ _ _ _ _ _ _ _ _ _ _ _ []
              refine h_bipush C dX9_readNext_125 (by decide) ?_
              refine h_iconst C dX9_readNext_127 ?_
              refine h_aload_n C dX9_readNext_128 0 rfl rfl ?_
              refine h_get C O9 14 kd_195 (by decide) wd_1270 dX9_readNext_129 fr_195_14 ?_
              refine h_iconst C dX9_readNext_132 ?_
              refine h_iaload C dX9_readNext_133 kd_201 4 rfl (by rw [ln_201]; decide) rfl ?_
              rw [hg61]
              refine h_imul C dX9_readNext_134 rfl ?_
              refine h_iadd C dX9_readNext_135 rfl ?_
              refine h_istore_n (lv' := [(1, .int (hpI (15 + (2 * r28)))), (0, .ref (z + 195))]) C dX9_readNext_136 rfl (by decide) rfl ?_
              refine h_aload_n C dX9_readNext_137 1 rfl rfl ?_
              refine h_get C O9 14 kd_195 (by decide) wd_1270 dX9_readNext_138 fr_195_14 ?_
              refine h_iload_n C dX9_readNext_141 0 rfl rfl ?_
              refine h_aload_n C dX9_readNext_142 1 rfl rfl ?_
              refine h_ldcS (i := 14) C Z (by decide) rfl dX9_readNext_143 ?_
              refine h_iconst C dX9_readNext_145 ?_
              refine h_bipush C dX9_readNext_146 (by decide) ?_
              refine h_callV (As := [.ref (cy (1000 + 14)), .int (hpI 1), .int (hpI 20)]) (rest := [.int (hpI (15 + (2 * r28))), .ref (z + 201)]) C Z yyX9_toldBy wd_1470 (tgX9_toldBy l D cy z _ 14 (by decide) 1 ⟨by decide, by decide⟩ 20 ⟨by decide, by decide⟩ hI60 (by omega)) kd_195 rfl rfl ⟨rfl, rfl, Nat.le_of_ble_eq_true rfl, Nat.le_of_ble_eq_true rfl⟩ ⟨Nat.le_of_ble_eq_true rfl, Nat.le_of_ble_eq_true rfl⟩ (Nat.le_of_ble_eq_true rfl) dX9_readNext_148 (fun r62 τ62 hp62 => ?_)
              obtain ⟨⟨x62, rfl, ⟨hx62a, hx62b⟩, hx62⟩, hI62, hG62⟩ := hp62
              have hF62 : ∀ j i : Nat, (j ≠ 195 ∨ (i ≠ 8 ∧ i ≠ 9 ∧ i ≠ 10 ∧ i ≠ 11 ∧ i ≠ 12 ∧ i ≠ 13)) → (j ≠ 201 ∨ i = 6) → τ62 j i = σ j i := fun j i h_0 h_1 => (hG62 j i (by omega)).trans (hF60 j i h_0 h_1)
              have hg63 : τ62 201 4 = r28 := (hG62 201 4 (by omega)).trans hg61
              show hpV _ _ _ _ _ _ _ _ _ _ _ _ _ _ _ _ _ _ _ _ _ (_ :: _)
              refine h_iastore C dX9_readNext_151 kd_201 (15 + (2 * r28)).toNat (Int.toNat_of_nonneg (by omega)) (by rw [ln_201]; omega) ?_
              obtain ⟨τ64, e64⟩ : ∃ μ : hpMem, μ = hpw τ62 201 ((15 + (2 * r28)).toNat) x62 := ⟨_, rfl⟩
              rw [← e64]
              have hI64 : hpInv τ64 := by rw [e64]; exact hpInv.w201 hI62 ((15 + (2 * r28)).toNat) 27 27 (0) 2016 (by omega) (by omega) (by decide) (by omega) (by omega)
              have hF64 : ∀ j i : Nat, (j ≠ 195 ∨ (i ≠ 8 ∧ i ≠ 9 ∧ i ≠ 10 ∧ i ≠ 11 ∧ i ≠ 12 ∧ i ≠ 13)) → (j ≠ 201 ∨ i = 6) → τ64 j i = σ j i := fun j i h_0 h_1 => by rw [e64]; exact (hpw_fr (by omega)).trans (hF62 j i h_0 h_1)
              refine h_aload_n C dX9_readNext_152 1 rfl rfl ?_
              refine h_get C O9 14 kd_195 (by decide) wd_1270 dX9_readNext_153 fr_195_14 ?_
              refine h_iload_n C dX9_readNext_156 0 rfl rfl ?_
              refine h_iconst C dX9_readNext_157 ?_
              refine h_iadd C dX9_readNext_158 rfl ?_
              refine h_aload_n C dX9_readNext_159 1 rfl rfl ?_
              refine h_ldcS (i := 15) C Z (by decide) rfl dX9_readNext_160 ?_
              refine h_iconst C dX9_readNext_162 ?_
              refine h_bipush C dX9_readNext_163 (by decide) ?_
              refine h_callV (As := [.ref (cy (1000 + 15)), .int (hpI 0), .int (hpI 15)]) (rest := [.int (hpI ((15 + (2 * r28)) + 1)), .ref (z + 201)]) C Z yyX9_toldBy wd_1470 (tgX9_toldBy l D cy z _ 15 (by decide) 0 ⟨by decide, by decide⟩ 15 ⟨by decide, by decide⟩ hI64 (by omega)) kd_195 rfl rfl ⟨rfl, rfl, Nat.le_of_ble_eq_true rfl, Nat.le_of_ble_eq_true rfl⟩ ⟨Nat.le_of_ble_eq_true rfl, Nat.le_of_ble_eq_true rfl⟩ (Nat.le_of_ble_eq_true rfl) dX9_readNext_165 (fun r65 τ65 hp65 => ?_)
              obtain ⟨⟨x65, rfl, ⟨hx65a, hx65b⟩, hx65⟩, hI65, hG65⟩ := hp65
              have hF65 : ∀ j i : Nat, (j ≠ 195 ∨ (i ≠ 8 ∧ i ≠ 9 ∧ i ≠ 10 ∧ i ≠ 11 ∧ i ≠ 12 ∧ i ≠ 13)) → (j ≠ 201 ∨ i = 6) → τ65 j i = σ j i := fun j i h_0 h_1 => (hG65 j i (by omega)).trans (hF64 j i h_0 h_1)
              show hpV _ _ _ _ _ _ _ _ _ _ _ _ _ _ _ _ _ _ _ _ _ (_ :: _)
              refine h_iastore C dX9_readNext_168 kd_201 ((15 + (2 * r28)) + 1).toNat (Int.toNat_of_nonneg (by omega)) (by rw [ln_201]; omega) ?_
              obtain ⟨τ66, e66⟩ : ∃ μ : hpMem, μ = hpw τ65 201 (((15 + (2 * r28)) + 1).toNat) x65 := ⟨_, rfl⟩
              rw [← e66]
              have hI66 : hpInv τ66 := by rw [e66]; exact hpInv.w201 hI65 (((15 + (2 * r28)) + 1).toNat) 28 28 (0) 2016 (by omega) (by omega) (by decide) (by omega) (by omega)
              have hF66 : ∀ j i : Nat, (j ≠ 195 ∨ (i ≠ 8 ∧ i ≠ 9 ∧ i ≠ 10 ∧ i ≠ 11 ∧ i ≠ 12 ∧ i ≠ 13)) → (j ≠ 201 ∨ i = 6) → τ66 j i = σ j i := fun j i h_0 h_1 => by rw [e66]; exact (hpw_fr (by omega)).trans (hF65 j i h_0 h_1)
              refine h_aload_n C dX9_readNext_169 1 rfl rfl ?_
              refine h_get C O9 14 kd_195 (by decide) wd_1270 dX9_readNext_170 fr_195_14 ?_
              refine h_iconst C dX9_readNext_173 ?_
              refine h_dup2 C rfl rfl dX9_readNext_174 ?_
              refine h_iaload C dX9_readNext_175 kd_201 4 rfl (by rw [ln_201]; decide) rfl ?_
              obtain ⟨hr67a, hr67b⟩ := hI66.b ((bw_201 4).trans (show hpwb 4 = (0, 6) by decide))
              generalize hg67 : τ66 201 4 = r67 at hr67a hr67b ⊢
              refine h_iconst C dX9_readNext_176 ?_
              refine h_iadd C dX9_readNext_177 rfl ?_
              refine h_iastore C dX9_readNext_178 kd_201 4 rfl (by rw [ln_201]; decide) ?_
              obtain ⟨τ68, e68⟩ : ∃ μ : hpMem, μ = hpw τ66 201 4 (r67 + 1) := ⟨_, rfl⟩
              rw [← e68]
              have hI68 : hpInv τ68 := by rw [e68]; exact hI66.w ((bw_201 4).trans (show hpwb 4 = (0, 6) by decide)) (by omega) (by omega)
              have hF68 : ∀ j i : Nat, (j ≠ 195 ∨ (i ≠ 8 ∧ i ≠ 9 ∧ i ≠ 10 ∧ i ≠ 11 ∧ i ≠ 12 ∧ i ≠ 13)) → (j ≠ 201 ∨ i = 6) → τ68 j i = σ j i := fun j i h_0 h_1 => by rw [e68]; exact (hpw_fr (by omega)).trans (hF66 j i h_0 h_1)
              have hg69 : τ68 201 4 = r67 + 1 := by rw [e68]; exact hpw_eq
              refine h_return C hr hlk dX9_readNext_179 ?_
              exact ⟨rfl, hI68, hF68, fun _ => by omega⟩
            · refine h_aload_n C dX9_readNext_85 0 rfl rfl ?_
              refine h_get C O9 14 kd_195 (by decide) wd_1270 dX9_readNext_86 fr_195_14 ?_
              refine h_bipush C dX9_readNext_89 (by decide) ?_
              refine h_aload_n C dX9_readNext_91 0 rfl rfl ?_
              refine h_get C O9 14 kd_195 (by decide) wd_1270 dX9_readNext_92 fr_195_14 ?_
              refine h_iconst C dX9_readNext_95 ?_
              refine h_iaload C dX9_readNext_96 kd_201 3 rfl (by rw [ln_201]; decide) rfl ?_
              obtain ⟨hr70a, hr70b⟩ := hI57.b ((bw_201 3).trans (show hpwb 3 = (0, 8) by decide))
              generalize hg70 : τ57 201 3 = r70 at hr70a hr70b ⊢
              refine h_iadd C dX9_readNext_97 rfl ?_
              refine h_aload_n C dX9_readNext_98 0 rfl rfl ?_
              refine h_ldcS (i := 14) C Z (by decide) rfl dX9_readNext_99 ?_
              refine h_iconst C dX9_readNext_101 ?_
              refine h_bipush C dX9_readNext_102 (by decide) ?_
              refine h_callV (As := [.ref (cy (1000 + 14)), .int (hpI 1), .int (hpI 20)]) (rest := [.int (hpI (7 + r70)), .ref (z + 201)]) C Z yyX9_toldBy wd_1470 (tgX9_toldBy l D cy z _ 14 (by decide) 1 ⟨by decide, by decide⟩ 20 ⟨by decide, by decide⟩ hI57 (by omega)) kd_195 rfl rfl ⟨rfl, rfl, Nat.le_of_ble_eq_true rfl, Nat.le_of_ble_eq_true rfl⟩ ⟨Nat.le_of_ble_eq_true rfl, Nat.le_of_ble_eq_true rfl⟩ (Nat.le_of_ble_eq_true rfl) dX9_readNext_104 (fun r71 τ71 hp71 => ?_)
              obtain ⟨⟨x71, rfl, ⟨hx71a, hx71b⟩, hx71⟩, hI71, hG71⟩ := hp71
              have hF71 : ∀ j i : Nat, (j ≠ 195 ∨ (i ≠ 8 ∧ i ≠ 9 ∧ i ≠ 10 ∧ i ≠ 11 ∧ i ≠ 12 ∧ i ≠ 13)) → (j ≠ 201 ∨ i = 6) → τ71 j i = σ j i := fun j i h_0 h_1 => (hG71 j i (by omega)).trans (hF57 j i h_0 h_1)
              have hg72 : τ71 201 4 = r28 := (hG71 201 4 (by omega)).trans hg58
              have hg73 : τ71 201 3 = r70 := (hG71 201 3 (by omega)).trans hg70
              show hpV _ _ _ _ _ _ _ _ _ _ _ _ _ _ _ _ _ _ _ _ _ (_ :: _)
              refine h_iastore C dX9_readNext_107 kd_201 (7 + r70).toNat (Int.toNat_of_nonneg (by omega)) (by rw [ln_201]; omega) ?_
              obtain ⟨τ74, e74⟩ : ∃ μ : hpMem, μ = hpw τ71 201 ((7 + r70).toNat) x71 := ⟨_, rfl⟩
              rw [← e74]
              have hI74 : hpInv τ74 := by rw [e74]; exact hpInv.w201 hI71 ((7 + r70).toNat) 7 15 (0) 20 (by omega) (by omega) (by decide) (by omega) (by omega)
              have hF74 : ∀ j i : Nat, (j ≠ 195 ∨ (i ≠ 8 ∧ i ≠ 9 ∧ i ≠ 10 ∧ i ≠ 11 ∧ i ≠ 12 ∧ i ≠ 13)) → (j ≠ 201 ∨ i = 6) → τ74 j i = σ j i := fun j i h_0 h_1 => by rw [e74]; exact (hpw_fr (by omega)).trans (hF71 j i h_0 h_1)
              refine h_aload_n C dX9_readNext_108 0 rfl rfl ?_
              refine h_get C O9 14 kd_195 (by decide) wd_1270 dX9_readNext_109 fr_195_14 ?_
              refine h_iconst C dX9_readNext_112 ?_
              refine h_dup2 C rfl rfl dX9_readNext_113 ?_
              refine h_iaload C dX9_readNext_114 kd_201 3 rfl (by rw [ln_201]; decide) rfl ?_
              obtain ⟨hr75a, hr75b⟩ := hI74.b ((bw_201 3).trans (show hpwb 3 = (0, 8) by decide))
              generalize hg75 : τ74 201 3 = r75 at hr75a hr75b ⊢
              refine h_iconst C dX9_readNext_115 ?_
              refine h_iadd C dX9_readNext_116 rfl ?_
              refine h_iastore C dX9_readNext_117 kd_201 3 rfl (by rw [ln_201]; decide) ?_
              obtain ⟨τ76, e76⟩ : ∃ μ : hpMem, μ = hpw τ74 201 3 (r75 + 1) := ⟨_, rfl⟩
              rw [← e76]
              have hI76 : hpInv τ76 := by rw [e76]; exact hI74.w ((bw_201 3).trans (show hpwb 3 = (0, 8) by decide)) (by omega) (by omega)
              have hF76 : ∀ j i : Nat, (j ≠ 195 ∨ (i ≠ 8 ∧ i ≠ 9 ∧ i ≠ 10 ∧ i ≠ 11 ∧ i ≠ 12 ∧ i ≠ 13)) → (j ≠ 201 ∨ i = 6) → τ76 j i = σ j i := fun j i h_0 h_1 => by rw [e76]; exact (hpw_fr (by omega)).trans (hF74 j i h_0 h_1)
              have hg77 : τ76 201 3 = r75 + 1 := by rw [e76]; exact hpw_eq
              refine h_goto (tgt := 179) C dX9_readNext_118 (by decide) ?_
              refine h_return C hr hlk dX9_readNext_179 ?_
              exact ⟨rfl, hI76, hF76, fun _ => by omega⟩
          · refine h_return C hr hlk dX9_readNext_75 ?_
            exact ⟨rfl, hI53, hF53, by omega⟩
    · refine h_aload_n C dX9_readNext_32 0 rfl rfl ?_
      refine h_get C O9 14 kd_195 (by decide) wd_1270 dX9_readNext_33 fr_195_14 ?_
      refine h_iconst C dX9_readNext_36 ?_
      refine h_iaload C dX9_readNext_37 kd_201 3 rfl (by rw [ln_201]; decide) rfl ?_
      obtain ⟨hr78a, hr78b⟩ := hI.b ((bw_201 3).trans (show hpwb 3 = (0, 8) by decide))
      generalize hg78 : σ 201 3 = r78 at hr78a hr78b ⊢
      refine h_bipush C dX9_readNext_38 (by decide) ?_
      refine h_icmp_eq (tgt := 63) C dX9_readNext_40 (by decide) ⟨by omega, by omega⟩ ⟨by decide, by decide⟩ (fun h79 => ?_) (fun h79 => ?_)
      · refine h_aload_n C dX9_readNext_63 0 rfl rfl ?_
        refine h_iconst C dX9_readNext_64 ?_
        refine h_callV (As := [.int (hpI 3)]) (rest := []) C Z yyX9_errs wd_1465 (tgX9_errs l D cy z _ 3 ⟨by decide, by decide⟩ hI (by omega)) kd_195 rfl rfl ⟨rfl, rfl, Nat.le_of_ble_eq_true rfl, Nat.le_of_ble_eq_true rfl⟩ ⟨Nat.le_of_ble_eq_true rfl, Nat.le_of_ble_eq_true rfl⟩ (Nat.le_of_ble_eq_true rfl) dX9_readNext_65 (fun r80 τ80 hp80 => ?_)
        obtain ⟨rfl, hI80, hG80, hq80_0⟩ := hp80
        have hF80 : ∀ j i : Nat, (j ≠ 195 ∨ (i ≠ 8 ∧ i ≠ 9 ∧ i ≠ 10 ∧ i ≠ 11 ∧ i ≠ 12 ∧ i ≠ 13)) → (j ≠ 201 ∨ i = 6) → τ80 j i = σ j i := fun j i h_0 h_1 => (hG80 j i (by omega)).trans (hF0 j i h_0 h_1)
        have hg81 : τ80 201 3 = r78 := (hG80 201 3 (by omega)).trans hg78
        show hpV _ _ _ _ _ _ _ _ _ _ _ _ _ _ _ _ _ _ _ _ _ []
        refine h_aload_n C dX9_readNext_68 0 rfl rfl ?_
        refine h_callV (As := []) (rest := []) C Z yyX9_good wd_1438 (tgX9_good l D cy z _ hI80) kd_195 rfl rfl ⟨rfl, rfl, Nat.le_of_ble_eq_true rfl, Nat.le_of_ble_eq_true rfl⟩ ⟨Nat.le_of_ble_eq_true rfl, Nat.le_of_ble_eq_true rfl⟩ (Nat.le_of_ble_eq_true rfl) dX9_readNext_69 (fun r82 τ82 hp82 => ?_)
        obtain ⟨⟨x82, rfl, ⟨hx82a, hx82b⟩, hx82⟩, rfl⟩ := hp82
        show hpV _ _ _ _ _ _ _ _ _ _ _ _ _ _ _ _ _ _ _ _ _ (_ :: _)
        refine h_if_ne (tgt := 76) C dX9_readNext_72 (by decide) ⟨by omega, by omega⟩ (fun h83 => ?_) (fun h83 => ?_)
        · refine h_aload_n C dX9_readNext_76 0 rfl rfl ?_
          refine h_ldcS (i := 12) C Z (by decide) rfl dX9_readNext_77 ?_
          refine h_callV (As := [.ref (cy (1000 + 12))]) (rest := []) C Z yyX9_takes wd_1455 (tgX9_takes l D cy z _ 12 (by decide) hI80) kd_195 rfl rfl ⟨rfl, rfl, Nat.le_of_ble_eq_true rfl, Nat.le_of_ble_eq_true rfl⟩ ⟨Nat.le_of_ble_eq_true rfl, Nat.le_of_ble_eq_true rfl⟩ (Nat.le_of_ble_eq_true rfl) dX9_readNext_79 (fun r84 τ84 hp84 => ?_)
          obtain ⟨⟨x84, rfl, ⟨hx84a, hx84b⟩, hx84⟩, hI84, hG84⟩ := hp84
          have hF84 : ∀ j i : Nat, (j ≠ 195 ∨ (i ≠ 8 ∧ i ≠ 9 ∧ i ≠ 10 ∧ i ≠ 11 ∧ i ≠ 12 ∧ i ≠ 13)) → (j ≠ 201 ∨ i = 6) → τ84 j i = σ j i := fun j i h_0 h_1 => (hG84 j i (by omega)).trans (hF80 j i h_0 h_1)
          have hg85 : τ84 201 3 = r78 := (hG84 201 3 (by omega)).trans hg81
          show hpV _ _ _ _ _ _ _ _ _ _ _ _ _ _ _ _ _ _ _ _ _ (_ :: _)
          refine h_if_eq (tgt := 121) C dX9_readNext_82 (by decide) ⟨by omega, by omega⟩ (fun h86 => ?_) (fun h86 => ?_)
          · refine h_aload_n C dX9_readNext_121 0 rfl rfl ?_
            refine h_callV (As := []) (rest := []) C Z yyX9_advance wd_1424 (tgX9_advance l D cy z _ hI84) kd_195 rfl rfl ⟨rfl, rfl, Nat.le_of_ble_eq_true rfl, Nat.le_of_ble_eq_true rfl⟩ ⟨Nat.le_of_ble_eq_true rfl, Nat.le_of_ble_eq_true rfl⟩ (Nat.le_of_ble_eq_true rfl) dX9_readNext_122 (fun r87 τ87 hp87 => ?_)
            obtain ⟨rfl, hI87, hG87⟩ := hp87
            have hF87 : ∀ j i : Nat, (j ≠ 195 ∨ (i ≠ 8 ∧ i ≠ 9 ∧ i ≠ 10 ∧ i ≠ 11 ∧ i ≠ 12 ∧ i ≠ 13)) → (j ≠ 201 ∨ i = 6) → τ87 j i = σ j i := fun j i h_0 h_1 => (hG87 j i (by omega)).trans (hF84 j i h_0 h_1)
            have hg88 : τ87 201 3 = r78 := (hG87 201 3 (by omega)).trans hg85
            show hpV _ _ _ _ _ _ _ _ _ _ _ _ _ _ _ _ _ _ _ _ _ []
            refine h_bipush C dX9_readNext_125 (by decide) ?_
            refine h_iconst C dX9_readNext_127 ?_
            refine h_aload_n C dX9_readNext_128 0 rfl rfl ?_
            refine h_get C O9 14 kd_195 (by decide) wd_1270 dX9_readNext_129 fr_195_14 ?_
            refine h_iconst C dX9_readNext_132 ?_
            refine h_iaload C dX9_readNext_133 kd_201 4 rfl (by rw [ln_201]; decide) rfl ?_
            obtain ⟨hr89a, hr89b⟩ := hI87.b ((bw_201 4).trans (show hpwb 4 = (0, 6) by decide))
            generalize hg89 : τ87 201 4 = r89 at hr89a hr89b ⊢
            refine h_imul C dX9_readNext_134 rfl ?_
            refine h_iadd C dX9_readNext_135 rfl ?_
            refine h_istore_n (lv' := [(1, .int (hpI (15 + (2 * r89)))), (0, .ref (z + 195))]) C dX9_readNext_136 rfl (by decide) rfl ?_
            refine h_aload_n C dX9_readNext_137 1 rfl rfl ?_
            refine h_get C O9 14 kd_195 (by decide) wd_1270 dX9_readNext_138 fr_195_14 ?_
            refine h_iload_n C dX9_readNext_141 0 rfl rfl ?_
            refine h_aload_n C dX9_readNext_142 1 rfl rfl ?_
            refine h_ldcS (i := 14) C Z (by decide) rfl dX9_readNext_143 ?_
            refine h_iconst C dX9_readNext_145 ?_
            refine h_bipush C dX9_readNext_146 (by decide) ?_
            refine h_callV (As := [.ref (cy (1000 + 14)), .int (hpI 1), .int (hpI 20)]) (rest := [.int (hpI (15 + (2 * r89))), .ref (z + 201)]) C Z yyX9_toldBy wd_1470 (tgX9_toldBy l D cy z _ 14 (by decide) 1 ⟨by decide, by decide⟩ 20 ⟨by decide, by decide⟩ hI87 (by omega)) kd_195 rfl rfl ⟨rfl, rfl, Nat.le_of_ble_eq_true rfl, Nat.le_of_ble_eq_true rfl⟩ ⟨Nat.le_of_ble_eq_true rfl, Nat.le_of_ble_eq_true rfl⟩ (Nat.le_of_ble_eq_true rfl) dX9_readNext_148 (fun r90 τ90 hp90 => ?_)
            obtain ⟨⟨x90, rfl, ⟨hx90a, hx90b⟩, hx90⟩, hI90, hG90⟩ := hp90
            have hF90 : ∀ j i : Nat, (j ≠ 195 ∨ (i ≠ 8 ∧ i ≠ 9 ∧ i ≠ 10 ∧ i ≠ 11 ∧ i ≠ 12 ∧ i ≠ 13)) → (j ≠ 201 ∨ i = 6) → τ90 j i = σ j i := fun j i h_0 h_1 => (hG90 j i (by omega)).trans (hF87 j i h_0 h_1)
            have hg91 : τ90 201 3 = r78 := (hG90 201 3 (by omega)).trans hg88
            have hg92 : τ90 201 4 = r89 := (hG90 201 4 (by omega)).trans hg89
            show hpV _ _ _ _ _ _ _ _ _ _ _ _ _ _ _ _ _ _ _ _ _ (_ :: _)
            refine h_iastore C dX9_readNext_151 kd_201 (15 + (2 * r89)).toNat (Int.toNat_of_nonneg (by omega)) (by rw [ln_201]; omega) ?_
            obtain ⟨τ93, e93⟩ : ∃ μ : hpMem, μ = hpw τ90 201 ((15 + (2 * r89)).toNat) x90 := ⟨_, rfl⟩
            rw [← e93]
            have hI93 : hpInv τ93 := by rw [e93]; exact hpInv.w201 hI90 ((15 + (2 * r89)).toNat) 15 27 (0) 20 (by omega) (by omega) (by decide) (by omega) (by omega)
            have hF93 : ∀ j i : Nat, (j ≠ 195 ∨ (i ≠ 8 ∧ i ≠ 9 ∧ i ≠ 10 ∧ i ≠ 11 ∧ i ≠ 12 ∧ i ≠ 13)) → (j ≠ 201 ∨ i = 6) → τ93 j i = σ j i := fun j i h_0 h_1 => by rw [e93]; exact (hpw_fr (by omega)).trans (hF90 j i h_0 h_1)
            refine h_aload_n C dX9_readNext_152 1 rfl rfl ?_
            refine h_get C O9 14 kd_195 (by decide) wd_1270 dX9_readNext_153 fr_195_14 ?_
            refine h_iload_n C dX9_readNext_156 0 rfl rfl ?_
            refine h_iconst C dX9_readNext_157 ?_
            refine h_iadd C dX9_readNext_158 rfl ?_
            refine h_aload_n C dX9_readNext_159 1 rfl rfl ?_
            refine h_ldcS (i := 15) C Z (by decide) rfl dX9_readNext_160 ?_
            refine h_iconst C dX9_readNext_162 ?_
            refine h_bipush C dX9_readNext_163 (by decide) ?_
            refine h_callV (As := [.ref (cy (1000 + 15)), .int (hpI 0), .int (hpI 15)]) (rest := [.int (hpI ((15 + (2 * r89)) + 1)), .ref (z + 201)]) C Z yyX9_toldBy wd_1470 (tgX9_toldBy l D cy z _ 15 (by decide) 0 ⟨by decide, by decide⟩ 15 ⟨by decide, by decide⟩ hI93 (by omega)) kd_195 rfl rfl ⟨rfl, rfl, Nat.le_of_ble_eq_true rfl, Nat.le_of_ble_eq_true rfl⟩ ⟨Nat.le_of_ble_eq_true rfl, Nat.le_of_ble_eq_true rfl⟩ (Nat.le_of_ble_eq_true rfl) dX9_readNext_165 (fun r94 τ94 hp94 => ?_)
            obtain ⟨⟨x94, rfl, ⟨hx94a, hx94b⟩, hx94⟩, hI94, hG94⟩ := hp94
            have hF94 : ∀ j i : Nat, (j ≠ 195 ∨ (i ≠ 8 ∧ i ≠ 9 ∧ i ≠ 10 ∧ i ≠ 11 ∧ i ≠ 12 ∧ i ≠ 13)) → (j ≠ 201 ∨ i = 6) → τ94 j i = σ j i := fun j i h_0 h_1 => (hG94 j i (by omega)).trans (hF93 j i h_0 h_1)
            show hpV _ _ _ _ _ _ _ _ _ _ _ _ _ _ _ _ _ _ _ _ _ (_ :: _)
            refine h_iastore C dX9_readNext_168 kd_201 ((15 + (2 * r89)) + 1).toNat (Int.toNat_of_nonneg (by omega)) (by rw [ln_201]; omega) ?_
            obtain ⟨τ95, e95⟩ : ∃ μ : hpMem, μ = hpw τ94 201 (((15 + (2 * r89)) + 1).toNat) x94 := ⟨_, rfl⟩
            rw [← e95]
            have hI95 : hpInv τ95 := by rw [e95]; exact hpInv.w201 hI94 (((15 + (2 * r89)) + 1).toNat) 16 28 (0) 20 (by omega) (by omega) (by decide) (by omega) (by omega)
            have hF95 : ∀ j i : Nat, (j ≠ 195 ∨ (i ≠ 8 ∧ i ≠ 9 ∧ i ≠ 10 ∧ i ≠ 11 ∧ i ≠ 12 ∧ i ≠ 13)) → (j ≠ 201 ∨ i = 6) → τ95 j i = σ j i := fun j i h_0 h_1 => by rw [e95]; exact (hpw_fr (by omega)).trans (hF94 j i h_0 h_1)
            refine h_aload_n C dX9_readNext_169 1 rfl rfl ?_
            refine h_get C O9 14 kd_195 (by decide) wd_1270 dX9_readNext_170 fr_195_14 ?_
            refine h_iconst C dX9_readNext_173 ?_
            refine h_dup2 C rfl rfl dX9_readNext_174 ?_
            refine h_iaload C dX9_readNext_175 kd_201 4 rfl (by rw [ln_201]; decide) rfl ?_
            obtain ⟨hr96a, hr96b⟩ := hI95.b ((bw_201 4).trans (show hpwb 4 = (0, 6) by decide))
            generalize hg96 : τ95 201 4 = r96 at hr96a hr96b ⊢
            refine h_iconst C dX9_readNext_176 ?_
            refine h_iadd C dX9_readNext_177 rfl ?_
            refine h_iastore C dX9_readNext_178 kd_201 4 rfl (by rw [ln_201]; decide) ?_
            obtain ⟨τ97, e97⟩ : ∃ μ : hpMem, μ = hpw τ95 201 4 (r96 + 1) := ⟨_, rfl⟩
            rw [← e97]
            have hI97 : hpInv τ97 := by rw [e97]; exact hI95.w ((bw_201 4).trans (show hpwb 4 = (0, 6) by decide)) (by omega) (by omega)
            have hF97 : ∀ j i : Nat, (j ≠ 195 ∨ (i ≠ 8 ∧ i ≠ 9 ∧ i ≠ 10 ∧ i ≠ 11 ∧ i ≠ 12 ∧ i ≠ 13)) → (j ≠ 201 ∨ i = 6) → τ97 j i = σ j i := fun j i h_0 h_1 => by rw [e97]; exact (hpw_fr (by omega)).trans (hF95 j i h_0 h_1)
            have hg98 : τ97 201 4 = r96 + 1 := by rw [e97]; exact hpw_eq
            refine h_return C hr hlk dX9_readNext_179 ?_
            exact ⟨rfl, hI97, hF97, fun _ => by omega⟩
          · refine h_aload_n C dX9_readNext_85 0 rfl rfl ?_
            refine h_get C O9 14 kd_195 (by decide) wd_1270 dX9_readNext_86 fr_195_14 ?_
            refine h_bipush C dX9_readNext_89 (by decide) ?_
            refine h_aload_n C dX9_readNext_91 0 rfl rfl ?_
            refine h_get C O9 14 kd_195 (by decide) wd_1270 dX9_readNext_92 fr_195_14 ?_
            refine h_iconst C dX9_readNext_95 ?_
            refine h_iaload C dX9_readNext_96 kd_201 3 rfl (by rw [ln_201]; decide) rfl ?_
            rw [hg85]
            refine h_iadd C dX9_readNext_97 rfl ?_
            refine h_aload_n C dX9_readNext_98 0 rfl rfl ?_
            refine h_ldcS (i := 14) C Z (by decide) rfl dX9_readNext_99 ?_
            refine h_iconst C dX9_readNext_101 ?_
            refine h_bipush C dX9_readNext_102 (by decide) ?_
            refine h_callV (As := [.ref (cy (1000 + 14)), .int (hpI 1), .int (hpI 20)]) (rest := [.int (hpI (7 + r78)), .ref (z + 201)]) C Z yyX9_toldBy wd_1470 (tgX9_toldBy l D cy z _ 14 (by decide) 1 ⟨by decide, by decide⟩ 20 ⟨by decide, by decide⟩ hI84 (by omega)) kd_195 rfl rfl ⟨rfl, rfl, Nat.le_of_ble_eq_true rfl, Nat.le_of_ble_eq_true rfl⟩ ⟨Nat.le_of_ble_eq_true rfl, Nat.le_of_ble_eq_true rfl⟩ (Nat.le_of_ble_eq_true rfl) dX9_readNext_104 (fun r99 τ99 hp99 => ?_)
            obtain ⟨⟨x99, rfl, ⟨hx99a, hx99b⟩, hx99⟩, hI99, hG99⟩ := hp99
            have hF99 : ∀ j i : Nat, (j ≠ 195 ∨ (i ≠ 8 ∧ i ≠ 9 ∧ i ≠ 10 ∧ i ≠ 11 ∧ i ≠ 12 ∧ i ≠ 13)) → (j ≠ 201 ∨ i = 6) → τ99 j i = σ j i := fun j i h_0 h_1 => (hG99 j i (by omega)).trans (hF84 j i h_0 h_1)
            have hg100 : τ99 201 3 = r78 := (hG99 201 3 (by omega)).trans hg85
            show hpV _ _ _ _ _ _ _ _ _ _ _ _ _ _ _ _ _ _ _ _ _ (_ :: _)
            refine h_iastore C dX9_readNext_107 kd_201 (7 + r78).toNat (Int.toNat_of_nonneg (by omega)) (by rw [ln_201]; omega) ?_
            obtain ⟨τ101, e101⟩ : ∃ μ : hpMem, μ = hpw τ99 201 ((7 + r78).toNat) x99 := ⟨_, rfl⟩
            rw [← e101]
            have hI101 : hpInv τ101 := by rw [e101]; exact hpInv.w201 hI99 ((7 + r78).toNat) 15 15 (0) 20 (by omega) (by omega) (by decide) (by omega) (by omega)
            have hF101 : ∀ j i : Nat, (j ≠ 195 ∨ (i ≠ 8 ∧ i ≠ 9 ∧ i ≠ 10 ∧ i ≠ 11 ∧ i ≠ 12 ∧ i ≠ 13)) → (j ≠ 201 ∨ i = 6) → τ101 j i = σ j i := fun j i h_0 h_1 => by rw [e101]; exact (hpw_fr (by omega)).trans (hF99 j i h_0 h_1)
            refine h_aload_n C dX9_readNext_108 0 rfl rfl ?_
            refine h_get C O9 14 kd_195 (by decide) wd_1270 dX9_readNext_109 fr_195_14 ?_
            refine h_iconst C dX9_readNext_112 ?_
            refine h_dup2 C rfl rfl dX9_readNext_113 ?_
            refine h_iaload C dX9_readNext_114 kd_201 3 rfl (by rw [ln_201]; decide) rfl ?_
            obtain ⟨hr102a, hr102b⟩ := hI101.b ((bw_201 3).trans (show hpwb 3 = (0, 8) by decide))
            generalize hg102 : τ101 201 3 = r102 at hr102a hr102b ⊢
            refine h_iconst C dX9_readNext_115 ?_
            refine h_iadd C dX9_readNext_116 rfl ?_
            refine h_iastore C dX9_readNext_117 kd_201 3 rfl (by rw [ln_201]; decide) ?_
            obtain ⟨τ103, e103⟩ : ∃ μ : hpMem, μ = hpw τ101 201 3 (r102 + 1) := ⟨_, rfl⟩
            rw [← e103]
            have hI103 : hpInv τ103 := by rw [e103]; exact hI101.w ((bw_201 3).trans (show hpwb 3 = (0, 8) by decide)) (by omega) (by omega)
            have hF103 : ∀ j i : Nat, (j ≠ 195 ∨ (i ≠ 8 ∧ i ≠ 9 ∧ i ≠ 10 ∧ i ≠ 11 ∧ i ≠ 12 ∧ i ≠ 13)) → (j ≠ 201 ∨ i = 6) → τ103 j i = σ j i := fun j i h_0 h_1 => by rw [e103]; exact (hpw_fr (by omega)).trans (hF101 j i h_0 h_1)
            have hg104 : τ103 201 3 = r102 + 1 := by rw [e103]; exact hpw_eq
            refine h_goto (tgt := 179) C dX9_readNext_118 (by decide) ?_
            refine h_return C hr hlk dX9_readNext_179 ?_
            exact ⟨rfl, hI103, hF103, fun _ => by omega⟩
        · refine h_return C hr hlk dX9_readNext_75 ?_
          exact ⟨rfl, hI80, hF80, by omega⟩
      · refine h_aload_n C dX9_readNext_43 0 rfl rfl ?_
        refine h_ldcS (i := 13) C Z (by decide) rfl dX9_readNext_44 ?_
        refine h_callV (As := [.ref (cy (1000 + 13))]) (rest := []) C Z yyX9_is wd_1459 (tgX9_is l D cy z _ 13 (by decide) hI) kd_195 rfl rfl ⟨rfl, rfl, Nat.le_of_ble_eq_true rfl, Nat.le_of_ble_eq_true rfl⟩ ⟨Nat.le_of_ble_eq_true rfl, Nat.le_of_ble_eq_true rfl⟩ (Nat.le_of_ble_eq_true rfl) dX9_readNext_46 (fun r105 τ105 hp105 => ?_)
        obtain ⟨⟨x105, rfl, ⟨hx105a, hx105b⟩, hx105⟩, rfl⟩ := hp105
        show hpV _ _ _ _ _ _ _ _ _ _ _ _ _ _ _ _ _ _ _ _ _ (_ :: _)
        refine h_if_eq (tgt := 68) C dX9_readNext_49 (by decide) ⟨by omega, by omega⟩ (fun h106 => ?_) (fun h106 => ?_)
        · refine h_aload_n C dX9_readNext_68 0 rfl rfl ?_
          refine h_callV (As := []) (rest := []) C Z yyX9_good wd_1438 (tgX9_good l D cy z _ hI) kd_195 rfl rfl ⟨rfl, rfl, Nat.le_of_ble_eq_true rfl, Nat.le_of_ble_eq_true rfl⟩ ⟨Nat.le_of_ble_eq_true rfl, Nat.le_of_ble_eq_true rfl⟩ (Nat.le_of_ble_eq_true rfl) dX9_readNext_69 (fun r107 τ107 hp107 => ?_)
          obtain ⟨⟨x107, rfl, ⟨hx107a, hx107b⟩, hx107⟩, rfl⟩ := hp107
          show hpV _ _ _ _ _ _ _ _ _ _ _ _ _ _ _ _ _ _ _ _ _ (_ :: _)
          refine h_if_ne (tgt := 76) C dX9_readNext_72 (by decide) ⟨by omega, by omega⟩ (fun h108 => ?_) (fun h108 => ?_)
          · refine h_aload_n C dX9_readNext_76 0 rfl rfl ?_
            refine h_ldcS (i := 12) C Z (by decide) rfl dX9_readNext_77 ?_
            refine h_callV (As := [.ref (cy (1000 + 12))]) (rest := []) C Z yyX9_takes wd_1455 (tgX9_takes l D cy z _ 12 (by decide) hI) kd_195 rfl rfl ⟨rfl, rfl, Nat.le_of_ble_eq_true rfl, Nat.le_of_ble_eq_true rfl⟩ ⟨Nat.le_of_ble_eq_true rfl, Nat.le_of_ble_eq_true rfl⟩ (Nat.le_of_ble_eq_true rfl) dX9_readNext_79 (fun r109 τ109 hp109 => ?_)
            obtain ⟨⟨x109, rfl, ⟨hx109a, hx109b⟩, hx109⟩, hI109, hG109⟩ := hp109
            have hF109 : ∀ j i : Nat, (j ≠ 195 ∨ (i ≠ 8 ∧ i ≠ 9 ∧ i ≠ 10 ∧ i ≠ 11 ∧ i ≠ 12 ∧ i ≠ 13)) → (j ≠ 201 ∨ i = 6) → τ109 j i = σ j i := fun j i h_0 h_1 => (hG109 j i (by omega)).trans (hF0 j i h_0 h_1)
            have hg110 : τ109 201 3 = r78 := (hG109 201 3 (by omega)).trans hg78
            show hpV _ _ _ _ _ _ _ _ _ _ _ _ _ _ _ _ _ _ _ _ _ (_ :: _)
            refine h_if_eq (tgt := 121) C dX9_readNext_82 (by decide) ⟨by omega, by omega⟩ (fun h111 => ?_) (fun h111 => ?_)
            · refine h_aload_n C dX9_readNext_121 0 rfl rfl ?_
              refine h_callV (As := []) (rest := []) C Z yyX9_advance wd_1424 (tgX9_advance l D cy z _ hI109) kd_195 rfl rfl ⟨rfl, rfl, Nat.le_of_ble_eq_true rfl, Nat.le_of_ble_eq_true rfl⟩ ⟨Nat.le_of_ble_eq_true rfl, Nat.le_of_ble_eq_true rfl⟩ (Nat.le_of_ble_eq_true rfl) dX9_readNext_122 (fun r112 τ112 hp112 => ?_)
              obtain ⟨rfl, hI112, hG112⟩ := hp112
              have hF112 : ∀ j i : Nat, (j ≠ 195 ∨ (i ≠ 8 ∧ i ≠ 9 ∧ i ≠ 10 ∧ i ≠ 11 ∧ i ≠ 12 ∧ i ≠ 13)) → (j ≠ 201 ∨ i = 6) → τ112 j i = σ j i := fun j i h_0 h_1 => (hG112 j i (by omega)).trans (hF109 j i h_0 h_1)
              have hg113 : τ112 201 3 = r78 := (hG112 201 3 (by omega)).trans hg110
              show hpV _ _ _ _ _ _ _ _ _ _ _ _ _ _ _ _ _ _ _ _ _ []
              refine h_bipush C dX9_readNext_125 (by decide) ?_
              refine h_iconst C dX9_readNext_127 ?_
              refine h_aload_n C dX9_readNext_128 0 rfl rfl ?_
              refine h_get C O9 14 kd_195 (by decide) wd_1270 dX9_readNext_129 fr_195_14 ?_
              refine h_iconst C dX9_readNext_132 ?_
              refine h_iaload C dX9_readNext_133 kd_201 4 rfl (by rw [ln_201]; decide) rfl ?_
              obtain ⟨hr114a, hr114b⟩ := hI112.b ((bw_201 4).trans (show hpwb 4 = (0, 6) by decide))
              generalize hg114 : τ112 201 4 = r114 at hr114a hr114b ⊢
              refine h_imul C dX9_readNext_134 rfl ?_
              refine h_iadd C dX9_readNext_135 rfl ?_
              refine h_istore_n (lv' := [(1, .int (hpI (15 + (2 * r114)))), (0, .ref (z + 195))]) C dX9_readNext_136 rfl (by decide) rfl ?_
              refine h_aload_n C dX9_readNext_137 1 rfl rfl ?_
              refine h_get C O9 14 kd_195 (by decide) wd_1270 dX9_readNext_138 fr_195_14 ?_
              refine h_iload_n C dX9_readNext_141 0 rfl rfl ?_
              refine h_aload_n C dX9_readNext_142 1 rfl rfl ?_
              refine h_ldcS (i := 14) C Z (by decide) rfl dX9_readNext_143 ?_
              refine h_iconst C dX9_readNext_145 ?_
              refine h_bipush C dX9_readNext_146 (by decide) ?_
              refine h_callV (As := [.ref (cy (1000 + 14)), .int (hpI 1), .int (hpI 20)]) (rest := [.int (hpI (15 + (2 * r114))), .ref (z + 201)]) C Z yyX9_toldBy wd_1470 (tgX9_toldBy l D cy z _ 14 (by decide) 1 ⟨by decide, by decide⟩ 20 ⟨by decide, by decide⟩ hI112 (by omega)) kd_195 rfl rfl ⟨rfl, rfl, Nat.le_of_ble_eq_true rfl, Nat.le_of_ble_eq_true rfl⟩ ⟨Nat.le_of_ble_eq_true rfl, Nat.le_of_ble_eq_true rfl⟩ (Nat.le_of_ble_eq_true rfl) dX9_readNext_148 (fun r115 τ115 hp115 => ?_)
              obtain ⟨⟨x115, rfl, ⟨hx115a, hx115b⟩, hx115⟩, hI115, hG115⟩ := hp115
              have hF115 : ∀ j i : Nat, (j ≠ 195 ∨ (i ≠ 8 ∧ i ≠ 9 ∧ i ≠ 10 ∧ i ≠ 11 ∧ i ≠ 12 ∧ i ≠ 13)) → (j ≠ 201 ∨ i = 6) → τ115 j i = σ j i := fun j i h_0 h_1 => (hG115 j i (by omega)).trans (hF112 j i h_0 h_1)
              have hg116 : τ115 201 3 = r78 := (hG115 201 3 (by omega)).trans hg113
              have hg117 : τ115 201 4 = r114 := (hG115 201 4 (by omega)).trans hg114
              show hpV _ _ _ _ _ _ _ _ _ _ _ _ _ _ _ _ _ _ _ _ _ (_ :: _)
              refine h_iastore C dX9_readNext_151 kd_201 (15 + (2 * r114)).toNat (Int.toNat_of_nonneg (by omega)) (by rw [ln_201]; omega) ?_
              obtain ⟨τ118, e118⟩ : ∃ μ : hpMem, μ = hpw τ115 201 ((15 + (2 * r114)).toNat) x115 := ⟨_, rfl⟩
              rw [← e118]
              have hI118 : hpInv τ118 := by rw [e118]; exact hpInv.w201 hI115 ((15 + (2 * r114)).toNat) 15 27 (0) 20 (by omega) (by omega) (by decide) (by omega) (by omega)
              have hF118 : ∀ j i : Nat, (j ≠ 195 ∨ (i ≠ 8 ∧ i ≠ 9 ∧ i ≠ 10 ∧ i ≠ 11 ∧ i ≠ 12 ∧ i ≠ 13)) → (j ≠ 201 ∨ i = 6) → τ118 j i = σ j i := fun j i h_0 h_1 => by rw [e118]; exact (hpw_fr (by omega)).trans (hF115 j i h_0 h_1)
              refine h_aload_n C dX9_readNext_152 1 rfl rfl ?_
              refine h_get C O9 14 kd_195 (by decide) wd_1270 dX9_readNext_153 fr_195_14 ?_
              refine h_iload_n C dX9_readNext_156 0 rfl rfl ?_
              refine h_iconst C dX9_readNext_157 ?_
              refine h_iadd C dX9_readNext_158 rfl ?_
              refine h_aload_n C dX9_readNext_159 1 rfl rfl ?_
              refine h_ldcS (i := 15) C Z (by decide) rfl dX9_readNext_160 ?_
              refine h_iconst C dX9_readNext_162 ?_
              refine h_bipush C dX9_readNext_163 (by decide) ?_
              refine h_callV (As := [.ref (cy (1000 + 15)), .int (hpI 0), .int (hpI 15)]) (rest := [.int (hpI ((15 + (2 * r114)) + 1)), .ref (z + 201)]) C Z yyX9_toldBy wd_1470 (tgX9_toldBy l D cy z _ 15 (by decide) 0 ⟨by decide, by decide⟩ 15 ⟨by decide, by decide⟩ hI118 (by omega)) kd_195 rfl rfl ⟨rfl, rfl, Nat.le_of_ble_eq_true rfl, Nat.le_of_ble_eq_true rfl⟩ ⟨Nat.le_of_ble_eq_true rfl, Nat.le_of_ble_eq_true rfl⟩ (Nat.le_of_ble_eq_true rfl) dX9_readNext_165 (fun r119 τ119 hp119 => ?_)
              obtain ⟨⟨x119, rfl, ⟨hx119a, hx119b⟩, hx119⟩, hI119, hG119⟩ := hp119
              have hF119 : ∀ j i : Nat, (j ≠ 195 ∨ (i ≠ 8 ∧ i ≠ 9 ∧ i ≠ 10 ∧ i ≠ 11 ∧ i ≠ 12 ∧ i ≠ 13)) → (j ≠ 201 ∨ i = 6) → τ119 j i = σ j i := fun j i h_0 h_1 => (hG119 j i (by omega)).trans (hF118 j i h_0 h_1)
              show hpV _ _ _ _ _ _ _ _ _ _ _ _ _ _ _ _ _ _ _ _ _ (_ :: _)
              refine h_iastore C dX9_readNext_168 kd_201 ((15 + (2 * r114)) + 1).toNat (Int.toNat_of_nonneg (by omega)) (by rw [ln_201]; omega) ?_
              obtain ⟨τ120, e120⟩ : ∃ μ : hpMem, μ = hpw τ119 201 (((15 + (2 * r114)) + 1).toNat) x119 := ⟨_, rfl⟩
              rw [← e120]
              have hI120 : hpInv τ120 := by rw [e120]; exact hpInv.w201 hI119 (((15 + (2 * r114)) + 1).toNat) 16 28 (0) 20 (by omega) (by omega) (by decide) (by omega) (by omega)
              have hF120 : ∀ j i : Nat, (j ≠ 195 ∨ (i ≠ 8 ∧ i ≠ 9 ∧ i ≠ 10 ∧ i ≠ 11 ∧ i ≠ 12 ∧ i ≠ 13)) → (j ≠ 201 ∨ i = 6) → τ120 j i = σ j i := fun j i h_0 h_1 => by rw [e120]; exact (hpw_fr (by omega)).trans (hF119 j i h_0 h_1)
              refine h_aload_n C dX9_readNext_169 1 rfl rfl ?_
              refine h_get C O9 14 kd_195 (by decide) wd_1270 dX9_readNext_170 fr_195_14 ?_
              refine h_iconst C dX9_readNext_173 ?_
              refine h_dup2 C rfl rfl dX9_readNext_174 ?_
              refine h_iaload C dX9_readNext_175 kd_201 4 rfl (by rw [ln_201]; decide) rfl ?_
              obtain ⟨hr121a, hr121b⟩ := hI120.b ((bw_201 4).trans (show hpwb 4 = (0, 6) by decide))
              generalize hg121 : τ120 201 4 = r121 at hr121a hr121b ⊢
              refine h_iconst C dX9_readNext_176 ?_
              refine h_iadd C dX9_readNext_177 rfl ?_
              refine h_iastore C dX9_readNext_178 kd_201 4 rfl (by rw [ln_201]; decide) ?_
              obtain ⟨τ122, e122⟩ : ∃ μ : hpMem, μ = hpw τ120 201 4 (r121 + 1) := ⟨_, rfl⟩
              rw [← e122]
              have hI122 : hpInv τ122 := by rw [e122]; exact hI120.w ((bw_201 4).trans (show hpwb 4 = (0, 6) by decide)) (by omega) (by omega)
              have hF122 : ∀ j i : Nat, (j ≠ 195 ∨ (i ≠ 8 ∧ i ≠ 9 ∧ i ≠ 10 ∧ i ≠ 11 ∧ i ≠ 12 ∧ i ≠ 13)) → (j ≠ 201 ∨ i = 6) → τ122 j i = σ j i := fun j i h_0 h_1 => by rw [e122]; exact (hpw_fr (by omega)).trans (hF120 j i h_0 h_1)
              have hg123 : τ122 201 4 = r121 + 1 := by rw [e122]; exact hpw_eq
              refine h_return C hr hlk dX9_readNext_179 ?_
              exact ⟨rfl, hI122, hF122, fun _ => by omega⟩
            · refine h_aload_n C dX9_readNext_85 0 rfl rfl ?_
              refine h_get C O9 14 kd_195 (by decide) wd_1270 dX9_readNext_86 fr_195_14 ?_
              refine h_bipush C dX9_readNext_89 (by decide) ?_
              refine h_aload_n C dX9_readNext_91 0 rfl rfl ?_
              refine h_get C O9 14 kd_195 (by decide) wd_1270 dX9_readNext_92 fr_195_14 ?_
              refine h_iconst C dX9_readNext_95 ?_
              refine h_iaload C dX9_readNext_96 kd_201 3 rfl (by rw [ln_201]; decide) rfl ?_
              rw [hg110]
              refine h_iadd C dX9_readNext_97 rfl ?_
              refine h_aload_n C dX9_readNext_98 0 rfl rfl ?_
              refine h_ldcS (i := 14) C Z (by decide) rfl dX9_readNext_99 ?_
              refine h_iconst C dX9_readNext_101 ?_
              refine h_bipush C dX9_readNext_102 (by decide) ?_
              refine h_callV (As := [.ref (cy (1000 + 14)), .int (hpI 1), .int (hpI 20)]) (rest := [.int (hpI (7 + r78)), .ref (z + 201)]) C Z yyX9_toldBy wd_1470 (tgX9_toldBy l D cy z _ 14 (by decide) 1 ⟨by decide, by decide⟩ 20 ⟨by decide, by decide⟩ hI109 (by omega)) kd_195 rfl rfl ⟨rfl, rfl, Nat.le_of_ble_eq_true rfl, Nat.le_of_ble_eq_true rfl⟩ ⟨Nat.le_of_ble_eq_true rfl, Nat.le_of_ble_eq_true rfl⟩ (Nat.le_of_ble_eq_true rfl) dX9_readNext_104 (fun r124 τ124 hp124 => ?_)
              obtain ⟨⟨x124, rfl, ⟨hx124a, hx124b⟩, hx124⟩, hI124, hG124⟩ := hp124
              have hF124 : ∀ j i : Nat, (j ≠ 195 ∨ (i ≠ 8 ∧ i ≠ 9 ∧ i ≠ 10 ∧ i ≠ 11 ∧ i ≠ 12 ∧ i ≠ 13)) → (j ≠ 201 ∨ i = 6) → τ124 j i = σ j i := fun j i h_0 h_1 => (hG124 j i (by omega)).trans (hF109 j i h_0 h_1)
              have hg125 : τ124 201 3 = r78 := (hG124 201 3 (by omega)).trans hg110
              show hpV _ _ _ _ _ _ _ _ _ _ _ _ _ _ _ _ _ _ _ _ _ (_ :: _)
              refine h_iastore C dX9_readNext_107 kd_201 (7 + r78).toNat (Int.toNat_of_nonneg (by omega)) (by rw [ln_201]; omega) ?_
              obtain ⟨τ126, e126⟩ : ∃ μ : hpMem, μ = hpw τ124 201 ((7 + r78).toNat) x124 := ⟨_, rfl⟩
              rw [← e126]
              have hI126 : hpInv τ126 := by rw [e126]; exact hpInv.w201 hI124 ((7 + r78).toNat) 7 14 (0) 20 (by omega) (by omega) (by decide) (by omega) (by omega)
              have hF126 : ∀ j i : Nat, (j ≠ 195 ∨ (i ≠ 8 ∧ i ≠ 9 ∧ i ≠ 10 ∧ i ≠ 11 ∧ i ≠ 12 ∧ i ≠ 13)) → (j ≠ 201 ∨ i = 6) → τ126 j i = σ j i := fun j i h_0 h_1 => by rw [e126]; exact (hpw_fr (by omega)).trans (hF124 j i h_0 h_1)
              refine h_aload_n C dX9_readNext_108 0 rfl rfl ?_
              refine h_get C O9 14 kd_195 (by decide) wd_1270 dX9_readNext_109 fr_195_14 ?_
              refine h_iconst C dX9_readNext_112 ?_
              refine h_dup2 C rfl rfl dX9_readNext_113 ?_
              refine h_iaload C dX9_readNext_114 kd_201 3 rfl (by rw [ln_201]; decide) rfl ?_
              obtain ⟨hr127a, hr127b⟩ := hI126.b ((bw_201 3).trans (show hpwb 3 = (0, 8) by decide))
              generalize hg127 : τ126 201 3 = r127 at hr127a hr127b ⊢
              refine h_iconst C dX9_readNext_115 ?_
              refine h_iadd C dX9_readNext_116 rfl ?_
              refine h_iastore C dX9_readNext_117 kd_201 3 rfl (by rw [ln_201]; decide) ?_
              obtain ⟨τ128, e128⟩ : ∃ μ : hpMem, μ = hpw τ126 201 3 (r127 + 1) := ⟨_, rfl⟩
              rw [← e128]
              have hI128 : hpInv τ128 := by rw [e128]; exact hI126.w ((bw_201 3).trans (show hpwb 3 = (0, 8) by decide)) (by omega) (by omega)
              have hF128 : ∀ j i : Nat, (j ≠ 195 ∨ (i ≠ 8 ∧ i ≠ 9 ∧ i ≠ 10 ∧ i ≠ 11 ∧ i ≠ 12 ∧ i ≠ 13)) → (j ≠ 201 ∨ i = 6) → τ128 j i = σ j i := fun j i h_0 h_1 => by rw [e128]; exact (hpw_fr (by omega)).trans (hF126 j i h_0 h_1)
              have hg129 : τ128 201 3 = r127 + 1 := by rw [e128]; exact hpw_eq
              refine h_goto (tgt := 179) C dX9_readNext_118 (by decide) ?_
              refine h_return C hr hlk dX9_readNext_179 ?_
              exact ⟨rfl, hI128, hF128, fun _ => by omega⟩
          · refine h_return C hr hlk dX9_readNext_75 ?_
            exact ⟨rfl, hI, hF0, by omega⟩
        · refine h_aload_n C dX9_readNext_52 0 rfl rfl ?_
          refine h_get C O9 14 kd_195 (by decide) wd_1270 dX9_readNext_53 fr_195_14 ?_
          refine h_iconst C dX9_readNext_56 ?_
          refine h_iaload C dX9_readNext_57 kd_201 4 rfl (by rw [ln_201]; decide) rfl ?_
          obtain ⟨hr130a, hr130b⟩ := hI.b ((bw_201 4).trans (show hpwb 4 = (0, 6) by decide))
          generalize hg130 : σ 201 4 = r130 at hr130a hr130b ⊢
          refine h_bipush C dX9_readNext_58 (by decide) ?_
          refine h_icmp_ne (tgt := 68) C dX9_readNext_60 (by decide) ⟨by omega, by omega⟩ ⟨by decide, by decide⟩ (fun h131 => ?_) (fun h131 => ?_)
          · refine h_aload_n C dX9_readNext_68 0 rfl rfl ?_
            refine h_callV (As := []) (rest := []) C Z yyX9_good wd_1438 (tgX9_good l D cy z _ hI) kd_195 rfl rfl ⟨rfl, rfl, Nat.le_of_ble_eq_true rfl, Nat.le_of_ble_eq_true rfl⟩ ⟨Nat.le_of_ble_eq_true rfl, Nat.le_of_ble_eq_true rfl⟩ (Nat.le_of_ble_eq_true rfl) dX9_readNext_69 (fun r132 τ132 hp132 => ?_)
            obtain ⟨⟨x132, rfl, ⟨hx132a, hx132b⟩, hx132⟩, rfl⟩ := hp132
            show hpV _ _ _ _ _ _ _ _ _ _ _ _ _ _ _ _ _ _ _ _ _ (_ :: _)
            refine h_if_ne (tgt := 76) C dX9_readNext_72 (by decide) ⟨by omega, by omega⟩ (fun h133 => ?_) (fun h133 => ?_)
            · refine h_aload_n C dX9_readNext_76 0 rfl rfl ?_
              refine h_ldcS (i := 12) C Z (by decide) rfl dX9_readNext_77 ?_
              refine h_callV (As := [.ref (cy (1000 + 12))]) (rest := []) C Z yyX9_takes wd_1455 (tgX9_takes l D cy z _ 12 (by decide) hI) kd_195 rfl rfl ⟨rfl, rfl, Nat.le_of_ble_eq_true rfl, Nat.le_of_ble_eq_true rfl⟩ ⟨Nat.le_of_ble_eq_true rfl, Nat.le_of_ble_eq_true rfl⟩ (Nat.le_of_ble_eq_true rfl) dX9_readNext_79 (fun r134 τ134 hp134 => ?_)
              obtain ⟨⟨x134, rfl, ⟨hx134a, hx134b⟩, hx134⟩, hI134, hG134⟩ := hp134
              have hF134 : ∀ j i : Nat, (j ≠ 195 ∨ (i ≠ 8 ∧ i ≠ 9 ∧ i ≠ 10 ∧ i ≠ 11 ∧ i ≠ 12 ∧ i ≠ 13)) → (j ≠ 201 ∨ i = 6) → τ134 j i = σ j i := fun j i h_0 h_1 => (hG134 j i (by omega)).trans (hF0 j i h_0 h_1)
              have hg135 : τ134 201 3 = r78 := (hG134 201 3 (by omega)).trans hg78
              have hg136 : τ134 201 4 = r130 := (hG134 201 4 (by omega)).trans hg130
              show hpV _ _ _ _ _ _ _ _ _ _ _ _ _ _ _ _ _ _ _ _ _ (_ :: _)
              refine h_if_eq (tgt := 121) C dX9_readNext_82 (by decide) ⟨by omega, by omega⟩ (fun h137 => ?_) (fun h137 => ?_)
              · refine h_aload_n C dX9_readNext_121 0 rfl rfl ?_
                refine h_callV (As := []) (rest := []) C Z yyX9_advance wd_1424 (tgX9_advance l D cy z _ hI134) kd_195 rfl rfl ⟨rfl, rfl, Nat.le_of_ble_eq_true rfl, Nat.le_of_ble_eq_true rfl⟩ ⟨Nat.le_of_ble_eq_true rfl, Nat.le_of_ble_eq_true rfl⟩ (Nat.le_of_ble_eq_true rfl) dX9_readNext_122 (fun r138 τ138 hp138 => ?_)
                obtain ⟨rfl, hI138, hG138⟩ := hp138
                have hF138 : ∀ j i : Nat, (j ≠ 195 ∨ (i ≠ 8 ∧ i ≠ 9 ∧ i ≠ 10 ∧ i ≠ 11 ∧ i ≠ 12 ∧ i ≠ 13)) → (j ≠ 201 ∨ i = 6) → τ138 j i = σ j i := fun j i h_0 h_1 => (hG138 j i (by omega)).trans (hF134 j i h_0 h_1)
                have hg139 : τ138 201 3 = r78 := (hG138 201 3 (by omega)).trans hg135
                have hg140 : τ138 201 4 = r130 := (hG138 201 4 (by omega)).trans hg136
                show hpV _ _ _ _ _ _ _ _ _ _ _ _ _ _ _ _ _ _ _ _ _ []
                refine h_bipush C dX9_readNext_125 (by decide) ?_
                refine h_iconst C dX9_readNext_127 ?_
                refine h_aload_n C dX9_readNext_128 0 rfl rfl ?_
                refine h_get C O9 14 kd_195 (by decide) wd_1270 dX9_readNext_129 fr_195_14 ?_
                refine h_iconst C dX9_readNext_132 ?_
                refine h_iaload C dX9_readNext_133 kd_201 4 rfl (by rw [ln_201]; decide) rfl ?_
                rw [hg140]
                refine h_imul C dX9_readNext_134 rfl ?_
                refine h_iadd C dX9_readNext_135 rfl ?_
                refine h_istore_n (lv' := [(1, .int (hpI (15 + (2 * r130)))), (0, .ref (z + 195))]) C dX9_readNext_136 rfl (by decide) rfl ?_
                refine h_aload_n C dX9_readNext_137 1 rfl rfl ?_
                refine h_get C O9 14 kd_195 (by decide) wd_1270 dX9_readNext_138 fr_195_14 ?_
                refine h_iload_n C dX9_readNext_141 0 rfl rfl ?_
                refine h_aload_n C dX9_readNext_142 1 rfl rfl ?_
                refine h_ldcS (i := 14) C Z (by decide) rfl dX9_readNext_143 ?_
                refine h_iconst C dX9_readNext_145 ?_
                refine h_bipush C dX9_readNext_146 (by decide) ?_
                refine h_callV (As := [.ref (cy (1000 + 14)), .int (hpI 1), .int (hpI 20)]) (rest := [.int (hpI (15 + (2 * r130))), .ref (z + 201)]) C Z yyX9_toldBy wd_1470 (tgX9_toldBy l D cy z _ 14 (by decide) 1 ⟨by decide, by decide⟩ 20 ⟨by decide, by decide⟩ hI138 (by omega)) kd_195 rfl rfl ⟨rfl, rfl, Nat.le_of_ble_eq_true rfl, Nat.le_of_ble_eq_true rfl⟩ ⟨Nat.le_of_ble_eq_true rfl, Nat.le_of_ble_eq_true rfl⟩ (Nat.le_of_ble_eq_true rfl) dX9_readNext_148 (fun r141 τ141 hp141 => ?_)
                obtain ⟨⟨x141, rfl, ⟨hx141a, hx141b⟩, hx141⟩, hI141, hG141⟩ := hp141
                have hF141 : ∀ j i : Nat, (j ≠ 195 ∨ (i ≠ 8 ∧ i ≠ 9 ∧ i ≠ 10 ∧ i ≠ 11 ∧ i ≠ 12 ∧ i ≠ 13)) → (j ≠ 201 ∨ i = 6) → τ141 j i = σ j i := fun j i h_0 h_1 => (hG141 j i (by omega)).trans (hF138 j i h_0 h_1)
                have hg142 : τ141 201 3 = r78 := (hG141 201 3 (by omega)).trans hg139
                have hg143 : τ141 201 4 = r130 := (hG141 201 4 (by omega)).trans hg140
                show hpV _ _ _ _ _ _ _ _ _ _ _ _ _ _ _ _ _ _ _ _ _ (_ :: _)
                refine h_iastore C dX9_readNext_151 kd_201 (15 + (2 * r130)).toNat (Int.toNat_of_nonneg (by omega)) (by rw [ln_201]; omega) ?_
                obtain ⟨τ144, e144⟩ : ∃ μ : hpMem, μ = hpw τ141 201 ((15 + (2 * r130)).toNat) x141 := ⟨_, rfl⟩
                rw [← e144]
                have hI144 : hpInv τ144 := by rw [e144]; exact hpInv.w201 hI141 ((15 + (2 * r130)).toNat) 15 25 (0) 20 (by omega) (by omega) (by decide) (by omega) (by omega)
                have hF144 : ∀ j i : Nat, (j ≠ 195 ∨ (i ≠ 8 ∧ i ≠ 9 ∧ i ≠ 10 ∧ i ≠ 11 ∧ i ≠ 12 ∧ i ≠ 13)) → (j ≠ 201 ∨ i = 6) → τ144 j i = σ j i := fun j i h_0 h_1 => by rw [e144]; exact (hpw_fr (by omega)).trans (hF141 j i h_0 h_1)
                refine h_aload_n C dX9_readNext_152 1 rfl rfl ?_
                refine h_get C O9 14 kd_195 (by decide) wd_1270 dX9_readNext_153 fr_195_14 ?_
                refine h_iload_n C dX9_readNext_156 0 rfl rfl ?_
                refine h_iconst C dX9_readNext_157 ?_
                refine h_iadd C dX9_readNext_158 rfl ?_
                refine h_aload_n C dX9_readNext_159 1 rfl rfl ?_
                refine h_ldcS (i := 15) C Z (by decide) rfl dX9_readNext_160 ?_
                refine h_iconst C dX9_readNext_162 ?_
                refine h_bipush C dX9_readNext_163 (by decide) ?_
                refine h_callV (As := [.ref (cy (1000 + 15)), .int (hpI 0), .int (hpI 15)]) (rest := [.int (hpI ((15 + (2 * r130)) + 1)), .ref (z + 201)]) C Z yyX9_toldBy wd_1470 (tgX9_toldBy l D cy z _ 15 (by decide) 0 ⟨by decide, by decide⟩ 15 ⟨by decide, by decide⟩ hI144 (by omega)) kd_195 rfl rfl ⟨rfl, rfl, Nat.le_of_ble_eq_true rfl, Nat.le_of_ble_eq_true rfl⟩ ⟨Nat.le_of_ble_eq_true rfl, Nat.le_of_ble_eq_true rfl⟩ (Nat.le_of_ble_eq_true rfl) dX9_readNext_165 (fun r145 τ145 hp145 => ?_)
                obtain ⟨⟨x145, rfl, ⟨hx145a, hx145b⟩, hx145⟩, hI145, hG145⟩ := hp145
                have hF145 : ∀ j i : Nat, (j ≠ 195 ∨ (i ≠ 8 ∧ i ≠ 9 ∧ i ≠ 10 ∧ i ≠ 11 ∧ i ≠ 12 ∧ i ≠ 13)) → (j ≠ 201 ∨ i = 6) → τ145 j i = σ j i := fun j i h_0 h_1 => (hG145 j i (by omega)).trans (hF144 j i h_0 h_1)
                show hpV _ _ _ _ _ _ _ _ _ _ _ _ _ _ _ _ _ _ _ _ _ (_ :: _)
                refine h_iastore C dX9_readNext_168 kd_201 ((15 + (2 * r130)) + 1).toNat (Int.toNat_of_nonneg (by omega)) (by rw [ln_201]; omega) ?_
                obtain ⟨τ146, e146⟩ : ∃ μ : hpMem, μ = hpw τ145 201 (((15 + (2 * r130)) + 1).toNat) x145 := ⟨_, rfl⟩
                rw [← e146]
                have hI146 : hpInv τ146 := by rw [e146]; exact hpInv.w201 hI145 (((15 + (2 * r130)) + 1).toNat) 16 26 (0) 20 (by omega) (by omega) (by decide) (by omega) (by omega)
                have hF146 : ∀ j i : Nat, (j ≠ 195 ∨ (i ≠ 8 ∧ i ≠ 9 ∧ i ≠ 10 ∧ i ≠ 11 ∧ i ≠ 12 ∧ i ≠ 13)) → (j ≠ 201 ∨ i = 6) → τ146 j i = σ j i := fun j i h_0 h_1 => by rw [e146]; exact (hpw_fr (by omega)).trans (hF145 j i h_0 h_1)
                refine h_aload_n C dX9_readNext_169 1 rfl rfl ?_
                refine h_get C O9 14 kd_195 (by decide) wd_1270 dX9_readNext_170 fr_195_14 ?_
                refine h_iconst C dX9_readNext_173 ?_
                refine h_dup2 C rfl rfl dX9_readNext_174 ?_
                refine h_iaload C dX9_readNext_175 kd_201 4 rfl (by rw [ln_201]; decide) rfl ?_
                obtain ⟨hr147a, hr147b⟩ := hI146.b ((bw_201 4).trans (show hpwb 4 = (0, 6) by decide))
                generalize hg147 : τ146 201 4 = r147 at hr147a hr147b ⊢
                refine h_iconst C dX9_readNext_176 ?_
                refine h_iadd C dX9_readNext_177 rfl ?_
                refine h_iastore C dX9_readNext_178 kd_201 4 rfl (by rw [ln_201]; decide) ?_
                obtain ⟨τ148, e148⟩ : ∃ μ : hpMem, μ = hpw τ146 201 4 (r147 + 1) := ⟨_, rfl⟩
                rw [← e148]
                have hI148 : hpInv τ148 := by rw [e148]; exact hI146.w ((bw_201 4).trans (show hpwb 4 = (0, 6) by decide)) (by omega) (by omega)
                have hF148 : ∀ j i : Nat, (j ≠ 195 ∨ (i ≠ 8 ∧ i ≠ 9 ∧ i ≠ 10 ∧ i ≠ 11 ∧ i ≠ 12 ∧ i ≠ 13)) → (j ≠ 201 ∨ i = 6) → τ148 j i = σ j i := fun j i h_0 h_1 => by rw [e148]; exact (hpw_fr (by omega)).trans (hF146 j i h_0 h_1)
                have hg149 : τ148 201 4 = r147 + 1 := by rw [e148]; exact hpw_eq
                refine h_return C hr hlk dX9_readNext_179 ?_
                exact ⟨rfl, hI148, hF148, fun _ => by omega⟩
              · refine h_aload_n C dX9_readNext_85 0 rfl rfl ?_
                refine h_get C O9 14 kd_195 (by decide) wd_1270 dX9_readNext_86 fr_195_14 ?_
                refine h_bipush C dX9_readNext_89 (by decide) ?_
                refine h_aload_n C dX9_readNext_91 0 rfl rfl ?_
                refine h_get C O9 14 kd_195 (by decide) wd_1270 dX9_readNext_92 fr_195_14 ?_
                refine h_iconst C dX9_readNext_95 ?_
                refine h_iaload C dX9_readNext_96 kd_201 3 rfl (by rw [ln_201]; decide) rfl ?_
                rw [hg135]
                refine h_iadd C dX9_readNext_97 rfl ?_
                refine h_aload_n C dX9_readNext_98 0 rfl rfl ?_
                refine h_ldcS (i := 14) C Z (by decide) rfl dX9_readNext_99 ?_
                refine h_iconst C dX9_readNext_101 ?_
                refine h_bipush C dX9_readNext_102 (by decide) ?_
                refine h_callV (As := [.ref (cy (1000 + 14)), .int (hpI 1), .int (hpI 20)]) (rest := [.int (hpI (7 + r78)), .ref (z + 201)]) C Z yyX9_toldBy wd_1470 (tgX9_toldBy l D cy z _ 14 (by decide) 1 ⟨by decide, by decide⟩ 20 ⟨by decide, by decide⟩ hI134 (by omega)) kd_195 rfl rfl ⟨rfl, rfl, Nat.le_of_ble_eq_true rfl, Nat.le_of_ble_eq_true rfl⟩ ⟨Nat.le_of_ble_eq_true rfl, Nat.le_of_ble_eq_true rfl⟩ (Nat.le_of_ble_eq_true rfl) dX9_readNext_104 (fun r150 τ150 hp150 => ?_)
                obtain ⟨⟨x150, rfl, ⟨hx150a, hx150b⟩, hx150⟩, hI150, hG150⟩ := hp150
                have hF150 : ∀ j i : Nat, (j ≠ 195 ∨ (i ≠ 8 ∧ i ≠ 9 ∧ i ≠ 10 ∧ i ≠ 11 ∧ i ≠ 12 ∧ i ≠ 13)) → (j ≠ 201 ∨ i = 6) → τ150 j i = σ j i := fun j i h_0 h_1 => (hG150 j i (by omega)).trans (hF134 j i h_0 h_1)
                have hg151 : τ150 201 3 = r78 := (hG150 201 3 (by omega)).trans hg135
                have hg152 : τ150 201 4 = r130 := (hG150 201 4 (by omega)).trans hg136
                show hpV _ _ _ _ _ _ _ _ _ _ _ _ _ _ _ _ _ _ _ _ _ (_ :: _)
                refine h_iastore C dX9_readNext_107 kd_201 (7 + r78).toNat (Int.toNat_of_nonneg (by omega)) (by rw [ln_201]; omega) ?_
                obtain ⟨τ153, e153⟩ : ∃ μ : hpMem, μ = hpw τ150 201 ((7 + r78).toNat) x150 := ⟨_, rfl⟩
                rw [← e153]
                have hI153 : hpInv τ153 := by rw [e153]; exact hpInv.w201 hI150 ((7 + r78).toNat) 7 14 (0) 20 (by omega) (by omega) (by decide) (by omega) (by omega)
                have hF153 : ∀ j i : Nat, (j ≠ 195 ∨ (i ≠ 8 ∧ i ≠ 9 ∧ i ≠ 10 ∧ i ≠ 11 ∧ i ≠ 12 ∧ i ≠ 13)) → (j ≠ 201 ∨ i = 6) → τ153 j i = σ j i := fun j i h_0 h_1 => by rw [e153]; exact (hpw_fr (by omega)).trans (hF150 j i h_0 h_1)
                refine h_aload_n C dX9_readNext_108 0 rfl rfl ?_
                refine h_get C O9 14 kd_195 (by decide) wd_1270 dX9_readNext_109 fr_195_14 ?_
                refine h_iconst C dX9_readNext_112 ?_
                refine h_dup2 C rfl rfl dX9_readNext_113 ?_
                refine h_iaload C dX9_readNext_114 kd_201 3 rfl (by rw [ln_201]; decide) rfl ?_
                obtain ⟨hr154a, hr154b⟩ := hI153.b ((bw_201 3).trans (show hpwb 3 = (0, 8) by decide))
                generalize hg154 : τ153 201 3 = r154 at hr154a hr154b ⊢
                refine h_iconst C dX9_readNext_115 ?_
                refine h_iadd C dX9_readNext_116 rfl ?_
                refine h_iastore C dX9_readNext_117 kd_201 3 rfl (by rw [ln_201]; decide) ?_
                obtain ⟨τ155, e155⟩ : ∃ μ : hpMem, μ = hpw τ153 201 3 (r154 + 1) := ⟨_, rfl⟩
                rw [← e155]
                have hI155 : hpInv τ155 := by rw [e155]; exact hI153.w ((bw_201 3).trans (show hpwb 3 = (0, 8) by decide)) (by omega) (by omega)
                have hF155 : ∀ j i : Nat, (j ≠ 195 ∨ (i ≠ 8 ∧ i ≠ 9 ∧ i ≠ 10 ∧ i ≠ 11 ∧ i ≠ 12 ∧ i ≠ 13)) → (j ≠ 201 ∨ i = 6) → τ155 j i = σ j i := fun j i h_0 h_1 => by rw [e155]; exact (hpw_fr (by omega)).trans (hF153 j i h_0 h_1)
                have hg156 : τ155 201 3 = r154 + 1 := by rw [e155]; exact hpw_eq
                refine h_goto (tgt := 179) C dX9_readNext_118 (by decide) ?_
                refine h_return C hr hlk dX9_readNext_179 ?_
                exact ⟨rfl, hI155, hF155, fun _ => by omega⟩
            · refine h_return C hr hlk dX9_readNext_75 ?_
              exact ⟨rfl, hI, hF0, by omega⟩
          · refine h_aload_n C dX9_readNext_63 0 rfl rfl ?_
            refine h_iconst C dX9_readNext_64 ?_
            refine h_callV (As := [.int (hpI 3)]) (rest := []) C Z yyX9_errs wd_1465 (tgX9_errs l D cy z _ 3 ⟨by decide, by decide⟩ hI (by omega)) kd_195 rfl rfl ⟨rfl, rfl, Nat.le_of_ble_eq_true rfl, Nat.le_of_ble_eq_true rfl⟩ ⟨Nat.le_of_ble_eq_true rfl, Nat.le_of_ble_eq_true rfl⟩ (Nat.le_of_ble_eq_true rfl) dX9_readNext_65 (fun r157 τ157 hp157 => ?_)
            obtain ⟨rfl, hI157, hG157, hq157_0⟩ := hp157
            have hF157 : ∀ j i : Nat, (j ≠ 195 ∨ (i ≠ 8 ∧ i ≠ 9 ∧ i ≠ 10 ∧ i ≠ 11 ∧ i ≠ 12 ∧ i ≠ 13)) → (j ≠ 201 ∨ i = 6) → τ157 j i = σ j i := fun j i h_0 h_1 => (hG157 j i (by omega)).trans (hF0 j i h_0 h_1)
            have hg158 : τ157 201 3 = r78 := (hG157 201 3 (by omega)).trans hg78
            have hg159 : τ157 201 4 = r130 := (hG157 201 4 (by omega)).trans hg130
            show hpV _ _ _ _ _ _ _ _ _ _ _ _ _ _ _ _ _ _ _ _ _ []
            refine h_aload_n C dX9_readNext_68 0 rfl rfl ?_
            refine h_callV (As := []) (rest := []) C Z yyX9_good wd_1438 (tgX9_good l D cy z _ hI157) kd_195 rfl rfl ⟨rfl, rfl, Nat.le_of_ble_eq_true rfl, Nat.le_of_ble_eq_true rfl⟩ ⟨Nat.le_of_ble_eq_true rfl, Nat.le_of_ble_eq_true rfl⟩ (Nat.le_of_ble_eq_true rfl) dX9_readNext_69 (fun r160 τ160 hp160 => ?_)
            obtain ⟨⟨x160, rfl, ⟨hx160a, hx160b⟩, hx160⟩, rfl⟩ := hp160
            show hpV _ _ _ _ _ _ _ _ _ _ _ _ _ _ _ _ _ _ _ _ _ (_ :: _)
            refine h_if_ne (tgt := 76) C dX9_readNext_72 (by decide) ⟨by omega, by omega⟩ (fun h161 => ?_) (fun h161 => ?_)
            · refine h_aload_n C dX9_readNext_76 0 rfl rfl ?_
              refine h_ldcS (i := 12) C Z (by decide) rfl dX9_readNext_77 ?_
              refine h_callV (As := [.ref (cy (1000 + 12))]) (rest := []) C Z yyX9_takes wd_1455 (tgX9_takes l D cy z _ 12 (by decide) hI157) kd_195 rfl rfl ⟨rfl, rfl, Nat.le_of_ble_eq_true rfl, Nat.le_of_ble_eq_true rfl⟩ ⟨Nat.le_of_ble_eq_true rfl, Nat.le_of_ble_eq_true rfl⟩ (Nat.le_of_ble_eq_true rfl) dX9_readNext_79 (fun r162 τ162 hp162 => ?_)
              obtain ⟨⟨x162, rfl, ⟨hx162a, hx162b⟩, hx162⟩, hI162, hG162⟩ := hp162
              have hF162 : ∀ j i : Nat, (j ≠ 195 ∨ (i ≠ 8 ∧ i ≠ 9 ∧ i ≠ 10 ∧ i ≠ 11 ∧ i ≠ 12 ∧ i ≠ 13)) → (j ≠ 201 ∨ i = 6) → τ162 j i = σ j i := fun j i h_0 h_1 => (hG162 j i (by omega)).trans (hF157 j i h_0 h_1)
              have hg163 : τ162 201 3 = r78 := (hG162 201 3 (by omega)).trans hg158
              have hg164 : τ162 201 4 = r130 := (hG162 201 4 (by omega)).trans hg159
              show hpV _ _ _ _ _ _ _ _ _ _ _ _ _ _ _ _ _ _ _ _ _ (_ :: _)
              refine h_if_eq (tgt := 121) C dX9_readNext_82 (by decide) ⟨by omega, by omega⟩ (fun h165 => ?_) (fun h165 => ?_)
              · refine h_aload_n C dX9_readNext_121 0 rfl rfl ?_
                refine h_callV (As := []) (rest := []) C Z yyX9_advance wd_1424 (tgX9_advance l D cy z _ hI162) kd_195 rfl rfl ⟨rfl, rfl, Nat.le_of_ble_eq_true rfl, Nat.le_of_ble_eq_true rfl⟩ ⟨Nat.le_of_ble_eq_true rfl, Nat.le_of_ble_eq_true rfl⟩ (Nat.le_of_ble_eq_true rfl) dX9_readNext_122 (fun r166 τ166 hp166 => ?_)
                obtain ⟨rfl, hI166, hG166⟩ := hp166
                have hF166 : ∀ j i : Nat, (j ≠ 195 ∨ (i ≠ 8 ∧ i ≠ 9 ∧ i ≠ 10 ∧ i ≠ 11 ∧ i ≠ 12 ∧ i ≠ 13)) → (j ≠ 201 ∨ i = 6) → τ166 j i = σ j i := fun j i h_0 h_1 => (hG166 j i (by omega)).trans (hF162 j i h_0 h_1)
                have hg167 : τ166 201 3 = r78 := (hG166 201 3 (by omega)).trans hg163
                have hg168 : τ166 201 4 = r130 := (hG166 201 4 (by omega)).trans hg164
                show hpV _ _ _ _ _ _ _ _ _ _ _ _ _ _ _ _ _ _ _ _ _ []
                refine h_bipush C dX9_readNext_125 (by decide) ?_
                refine h_iconst C dX9_readNext_127 ?_
                refine h_aload_n C dX9_readNext_128 0 rfl rfl ?_
                refine h_get C O9 14 kd_195 (by decide) wd_1270 dX9_readNext_129 fr_195_14 ?_
                refine h_iconst C dX9_readNext_132 ?_
                refine h_iaload C dX9_readNext_133 kd_201 4 rfl (by rw [ln_201]; decide) rfl ?_
                rw [hg168]
                refine h_imul C dX9_readNext_134 rfl ?_
                refine h_iadd C dX9_readNext_135 rfl ?_
                refine h_istore_n (lv' := [(1, .int (hpI (15 + (2 * r130)))), (0, .ref (z + 195))]) C dX9_readNext_136 rfl (by decide) rfl ?_
                refine h_aload_n C dX9_readNext_137 1 rfl rfl ?_
                refine h_get C O9 14 kd_195 (by decide) wd_1270 dX9_readNext_138 fr_195_14 ?_
                refine h_iload_n C dX9_readNext_141 0 rfl rfl ?_
                refine h_aload_n C dX9_readNext_142 1 rfl rfl ?_
                refine h_ldcS (i := 14) C Z (by decide) rfl dX9_readNext_143 ?_
                refine h_iconst C dX9_readNext_145 ?_
                refine h_bipush C dX9_readNext_146 (by decide) ?_
                refine h_callV (As := [.ref (cy (1000 + 14)), .int (hpI 1), .int (hpI 20)]) (rest := [.int (hpI (15 + (2 * r130))), .ref (z + 201)]) C Z yyX9_toldBy wd_1470 (tgX9_toldBy l D cy z _ 14 (by decide) 1 ⟨by decide, by decide⟩ 20 ⟨by decide, by decide⟩ hI166 (by omega)) kd_195 rfl rfl ⟨rfl, rfl, Nat.le_of_ble_eq_true rfl, Nat.le_of_ble_eq_true rfl⟩ ⟨Nat.le_of_ble_eq_true rfl, Nat.le_of_ble_eq_true rfl⟩ (Nat.le_of_ble_eq_true rfl) dX9_readNext_148 (fun r169 τ169 hp169 => ?_)
                obtain ⟨⟨x169, rfl, ⟨hx169a, hx169b⟩, hx169⟩, hI169, hG169⟩ := hp169
                have hF169 : ∀ j i : Nat, (j ≠ 195 ∨ (i ≠ 8 ∧ i ≠ 9 ∧ i ≠ 10 ∧ i ≠ 11 ∧ i ≠ 12 ∧ i ≠ 13)) → (j ≠ 201 ∨ i = 6) → τ169 j i = σ j i := fun j i h_0 h_1 => (hG169 j i (by omega)).trans (hF166 j i h_0 h_1)
                have hg170 : τ169 201 3 = r78 := (hG169 201 3 (by omega)).trans hg167
                have hg171 : τ169 201 4 = r130 := (hG169 201 4 (by omega)).trans hg168
                show hpV _ _ _ _ _ _ _ _ _ _ _ _ _ _ _ _ _ _ _ _ _ (_ :: _)
                refine h_iastore C dX9_readNext_151 kd_201 (15 + (2 * r130)).toNat (Int.toNat_of_nonneg (by omega)) (by rw [ln_201]; omega) ?_
                obtain ⟨τ172, e172⟩ : ∃ μ : hpMem, μ = hpw τ169 201 ((15 + (2 * r130)).toNat) x169 := ⟨_, rfl⟩
                rw [← e172]
                have hI172 : hpInv τ172 := by rw [e172]; exact hpInv.w201 hI169 ((15 + (2 * r130)).toNat) 27 27 (0) 2016 (by omega) (by omega) (by decide) (by omega) (by omega)
                have hF172 : ∀ j i : Nat, (j ≠ 195 ∨ (i ≠ 8 ∧ i ≠ 9 ∧ i ≠ 10 ∧ i ≠ 11 ∧ i ≠ 12 ∧ i ≠ 13)) → (j ≠ 201 ∨ i = 6) → τ172 j i = σ j i := fun j i h_0 h_1 => by rw [e172]; exact (hpw_fr (by omega)).trans (hF169 j i h_0 h_1)
                refine h_aload_n C dX9_readNext_152 1 rfl rfl ?_
                refine h_get C O9 14 kd_195 (by decide) wd_1270 dX9_readNext_153 fr_195_14 ?_
                refine h_iload_n C dX9_readNext_156 0 rfl rfl ?_
                refine h_iconst C dX9_readNext_157 ?_
                refine h_iadd C dX9_readNext_158 rfl ?_
                refine h_aload_n C dX9_readNext_159 1 rfl rfl ?_
                refine h_ldcS (i := 15) C Z (by decide) rfl dX9_readNext_160 ?_
                refine h_iconst C dX9_readNext_162 ?_
                refine h_bipush C dX9_readNext_163 (by decide) ?_
                refine h_callV (As := [.ref (cy (1000 + 15)), .int (hpI 0), .int (hpI 15)]) (rest := [.int (hpI ((15 + (2 * r130)) + 1)), .ref (z + 201)]) C Z yyX9_toldBy wd_1470 (tgX9_toldBy l D cy z _ 15 (by decide) 0 ⟨by decide, by decide⟩ 15 ⟨by decide, by decide⟩ hI172 (by omega)) kd_195 rfl rfl ⟨rfl, rfl, Nat.le_of_ble_eq_true rfl, Nat.le_of_ble_eq_true rfl⟩ ⟨Nat.le_of_ble_eq_true rfl, Nat.le_of_ble_eq_true rfl⟩ (Nat.le_of_ble_eq_true rfl) dX9_readNext_165 (fun r173 τ173 hp173 => ?_)
                obtain ⟨⟨x173, rfl, ⟨hx173a, hx173b⟩, hx173⟩, hI173, hG173⟩ := hp173
                have hF173 : ∀ j i : Nat, (j ≠ 195 ∨ (i ≠ 8 ∧ i ≠ 9 ∧ i ≠ 10 ∧ i ≠ 11 ∧ i ≠ 12 ∧ i ≠ 13)) → (j ≠ 201 ∨ i = 6) → τ173 j i = σ j i := fun j i h_0 h_1 => (hG173 j i (by omega)).trans (hF172 j i h_0 h_1)
                show hpV _ _ _ _ _ _ _ _ _ _ _ _ _ _ _ _ _ _ _ _ _ (_ :: _)
                refine h_iastore C dX9_readNext_168 kd_201 ((15 + (2 * r130)) + 1).toNat (Int.toNat_of_nonneg (by omega)) (by rw [ln_201]; omega) ?_
                obtain ⟨τ174, e174⟩ : ∃ μ : hpMem, μ = hpw τ173 201 (((15 + (2 * r130)) + 1).toNat) x173 := ⟨_, rfl⟩
                rw [← e174]
                have hI174 : hpInv τ174 := by rw [e174]; exact hpInv.w201 hI173 (((15 + (2 * r130)) + 1).toNat) 28 28 (0) 2016 (by omega) (by omega) (by decide) (by omega) (by omega)
                have hF174 : ∀ j i : Nat, (j ≠ 195 ∨ (i ≠ 8 ∧ i ≠ 9 ∧ i ≠ 10 ∧ i ≠ 11 ∧ i ≠ 12 ∧ i ≠ 13)) → (j ≠ 201 ∨ i = 6) → τ174 j i = σ j i := fun j i h_0 h_1 => by rw [e174]; exact (hpw_fr (by omega)).trans (hF173 j i h_0 h_1)
                refine h_aload_n C dX9_readNext_169 1 rfl rfl ?_
                refine h_get C O9 14 kd_195 (by decide) wd_1270 dX9_readNext_170 fr_195_14 ?_
                refine h_iconst C dX9_readNext_173 ?_
                refine h_dup2 C rfl rfl dX9_readNext_174 ?_
                refine h_iaload C dX9_readNext_175 kd_201 4 rfl (by rw [ln_201]; decide) rfl ?_
                obtain ⟨hr175a, hr175b⟩ := hI174.b ((bw_201 4).trans (show hpwb 4 = (0, 6) by decide))
                generalize hg175 : τ174 201 4 = r175 at hr175a hr175b ⊢
                refine h_iconst C dX9_readNext_176 ?_
                refine h_iadd C dX9_readNext_177 rfl ?_
                refine h_iastore C dX9_readNext_178 kd_201 4 rfl (by rw [ln_201]; decide) ?_
                obtain ⟨τ176, e176⟩ : ∃ μ : hpMem, μ = hpw τ174 201 4 (r175 + 1) := ⟨_, rfl⟩
                rw [← e176]
                have hI176 : hpInv τ176 := by rw [e176]; exact hI174.w ((bw_201 4).trans (show hpwb 4 = (0, 6) by decide)) (by omega) (by omega)
                have hF176 : ∀ j i : Nat, (j ≠ 195 ∨ (i ≠ 8 ∧ i ≠ 9 ∧ i ≠ 10 ∧ i ≠ 11 ∧ i ≠ 12 ∧ i ≠ 13)) → (j ≠ 201 ∨ i = 6) → τ176 j i = σ j i := fun j i h_0 h_1 => by rw [e176]; exact (hpw_fr (by omega)).trans (hF174 j i h_0 h_1)
                have hg177 : τ176 201 4 = r175 + 1 := by rw [e176]; exact hpw_eq
                refine h_return C hr hlk dX9_readNext_179 ?_
                exact ⟨rfl, hI176, hF176, fun _ => by omega⟩
              · refine h_aload_n C dX9_readNext_85 0 rfl rfl ?_
                refine h_get C O9 14 kd_195 (by decide) wd_1270 dX9_readNext_86 fr_195_14 ?_
                refine h_bipush C dX9_readNext_89 (by decide) ?_
                refine h_aload_n C dX9_readNext_91 0 rfl rfl ?_
                refine h_get C O9 14 kd_195 (by decide) wd_1270 dX9_readNext_92 fr_195_14 ?_
                refine h_iconst C dX9_readNext_95 ?_
                refine h_iaload C dX9_readNext_96 kd_201 3 rfl (by rw [ln_201]; decide) rfl ?_
                rw [hg163]
                refine h_iadd C dX9_readNext_97 rfl ?_
                refine h_aload_n C dX9_readNext_98 0 rfl rfl ?_
                refine h_ldcS (i := 14) C Z (by decide) rfl dX9_readNext_99 ?_
                refine h_iconst C dX9_readNext_101 ?_
                refine h_bipush C dX9_readNext_102 (by decide) ?_
                refine h_callV (As := [.ref (cy (1000 + 14)), .int (hpI 1), .int (hpI 20)]) (rest := [.int (hpI (7 + r78)), .ref (z + 201)]) C Z yyX9_toldBy wd_1470 (tgX9_toldBy l D cy z _ 14 (by decide) 1 ⟨by decide, by decide⟩ 20 ⟨by decide, by decide⟩ hI162 (by omega)) kd_195 rfl rfl ⟨rfl, rfl, Nat.le_of_ble_eq_true rfl, Nat.le_of_ble_eq_true rfl⟩ ⟨Nat.le_of_ble_eq_true rfl, Nat.le_of_ble_eq_true rfl⟩ (Nat.le_of_ble_eq_true rfl) dX9_readNext_104 (fun r178 τ178 hp178 => ?_)
                obtain ⟨⟨x178, rfl, ⟨hx178a, hx178b⟩, hx178⟩, hI178, hG178⟩ := hp178
                have hF178 : ∀ j i : Nat, (j ≠ 195 ∨ (i ≠ 8 ∧ i ≠ 9 ∧ i ≠ 10 ∧ i ≠ 11 ∧ i ≠ 12 ∧ i ≠ 13)) → (j ≠ 201 ∨ i = 6) → τ178 j i = σ j i := fun j i h_0 h_1 => (hG178 j i (by omega)).trans (hF162 j i h_0 h_1)
                have hg179 : τ178 201 3 = r78 := (hG178 201 3 (by omega)).trans hg163
                have hg180 : τ178 201 4 = r130 := (hG178 201 4 (by omega)).trans hg164
                show hpV _ _ _ _ _ _ _ _ _ _ _ _ _ _ _ _ _ _ _ _ _ (_ :: _)
                refine h_iastore C dX9_readNext_107 kd_201 (7 + r78).toNat (Int.toNat_of_nonneg (by omega)) (by rw [ln_201]; omega) ?_
                obtain ⟨τ181, e181⟩ : ∃ μ : hpMem, μ = hpw τ178 201 ((7 + r78).toNat) x178 := ⟨_, rfl⟩
                rw [← e181]
                have hI181 : hpInv τ181 := by rw [e181]; exact hpInv.w201 hI178 ((7 + r78).toNat) 7 14 (0) 20 (by omega) (by omega) (by decide) (by omega) (by omega)
                have hF181 : ∀ j i : Nat, (j ≠ 195 ∨ (i ≠ 8 ∧ i ≠ 9 ∧ i ≠ 10 ∧ i ≠ 11 ∧ i ≠ 12 ∧ i ≠ 13)) → (j ≠ 201 ∨ i = 6) → τ181 j i = σ j i := fun j i h_0 h_1 => by rw [e181]; exact (hpw_fr (by omega)).trans (hF178 j i h_0 h_1)
                refine h_aload_n C dX9_readNext_108 0 rfl rfl ?_
                refine h_get C O9 14 kd_195 (by decide) wd_1270 dX9_readNext_109 fr_195_14 ?_
                refine h_iconst C dX9_readNext_112 ?_
                refine h_dup2 C rfl rfl dX9_readNext_113 ?_
                refine h_iaload C dX9_readNext_114 kd_201 3 rfl (by rw [ln_201]; decide) rfl ?_
                obtain ⟨hr182a, hr182b⟩ := hI181.b ((bw_201 3).trans (show hpwb 3 = (0, 8) by decide))
                generalize hg182 : τ181 201 3 = r182 at hr182a hr182b ⊢
                refine h_iconst C dX9_readNext_115 ?_
                refine h_iadd C dX9_readNext_116 rfl ?_
                refine h_iastore C dX9_readNext_117 kd_201 3 rfl (by rw [ln_201]; decide) ?_
                obtain ⟨τ183, e183⟩ : ∃ μ : hpMem, μ = hpw τ181 201 3 (r182 + 1) := ⟨_, rfl⟩
                rw [← e183]
                have hI183 : hpInv τ183 := by rw [e183]; exact hI181.w ((bw_201 3).trans (show hpwb 3 = (0, 8) by decide)) (by omega) (by omega)
                have hF183 : ∀ j i : Nat, (j ≠ 195 ∨ (i ≠ 8 ∧ i ≠ 9 ∧ i ≠ 10 ∧ i ≠ 11 ∧ i ≠ 12 ∧ i ≠ 13)) → (j ≠ 201 ∨ i = 6) → τ183 j i = σ j i := fun j i h_0 h_1 => by rw [e183]; exact (hpw_fr (by omega)).trans (hF181 j i h_0 h_1)
                have hg184 : τ183 201 3 = r182 + 1 := by rw [e183]; exact hpw_eq
                refine h_goto (tgt := 179) C dX9_readNext_118 (by decide) ?_
                refine h_return C hr hlk dX9_readNext_179 ?_
                exact ⟨rfl, hI183, hF183, fun _ => by omega⟩
            · refine h_return C hr hlk dX9_readNext_75 ?_
              exact ⟨rfl, hI157, hF157, by omega⟩
  · refine h_aload_n C dX9_readNext_9 0 rfl rfl ?_
    refine h_ldcS (i := 13) C Z (by decide) rfl dX9_readNext_10 ?_
    refine h_callV (As := [.ref (cy (1000 + 13))]) (rest := []) C Z yyX9_is wd_1459 (tgX9_is l D cy z _ 13 (by decide) hI) kd_195 rfl rfl ⟨rfl, rfl, Nat.le_of_ble_eq_true rfl, Nat.le_of_ble_eq_true rfl⟩ ⟨Nat.le_of_ble_eq_true rfl, Nat.le_of_ble_eq_true rfl⟩ (Nat.le_of_ble_eq_true rfl) dX9_readNext_12 (fun r185 τ185 hp185 => ?_)
    obtain ⟨⟨x185, rfl, ⟨hx185a, hx185b⟩, hx185⟩, rfl⟩ := hp185
    show hpV _ _ _ _ _ _ _ _ _ _ _ _ _ _ _ _ _ _ _ _ _ (_ :: _)
    refine h_if_ne (tgt := 23) C dX9_readNext_15 (by decide) ⟨by omega, by omega⟩ (fun h186 => ?_) (fun h186 => ?_)
    · refine h_aload_n C dX9_readNext_23 0 rfl rfl ?_
      refine h_ldcS (i := 12) C Z (by decide) rfl dX9_readNext_24 ?_
      refine h_callV (As := [.ref (cy (1000 + 12))]) (rest := []) C Z yyX9_is wd_1459 (tgX9_is l D cy z _ 12 (by decide) hI) kd_195 rfl rfl ⟨rfl, rfl, Nat.le_of_ble_eq_true rfl, Nat.le_of_ble_eq_true rfl⟩ ⟨Nat.le_of_ble_eq_true rfl, Nat.le_of_ble_eq_true rfl⟩ (Nat.le_of_ble_eq_true rfl) dX9_readNext_26 (fun r187 τ187 hp187 => ?_)
      obtain ⟨⟨x187, rfl, ⟨hx187a, hx187b⟩, hx187⟩, rfl⟩ := hp187
      show hpV _ _ _ _ _ _ _ _ _ _ _ _ _ _ _ _ _ _ _ _ _ (_ :: _)
      refine h_if_eq (tgt := 43) C dX9_readNext_29 (by decide) ⟨by omega, by omega⟩ (fun h188 => ?_) (fun h188 => ?_)
      · refine h_aload_n C dX9_readNext_43 0 rfl rfl ?_
        refine h_ldcS (i := 13) C Z (by decide) rfl dX9_readNext_44 ?_
        refine h_callV (As := [.ref (cy (1000 + 13))]) (rest := []) C Z yyX9_is wd_1459 (tgX9_is l D cy z _ 13 (by decide) hI) kd_195 rfl rfl ⟨rfl, rfl, Nat.le_of_ble_eq_true rfl, Nat.le_of_ble_eq_true rfl⟩ ⟨Nat.le_of_ble_eq_true rfl, Nat.le_of_ble_eq_true rfl⟩ (Nat.le_of_ble_eq_true rfl) dX9_readNext_46 (fun r189 τ189 hp189 => ?_)
        obtain ⟨⟨x189, rfl, ⟨hx189a, hx189b⟩, hx189⟩, rfl⟩ := hp189
        show hpV _ _ _ _ _ _ _ _ _ _ _ _ _ _ _ _ _ _ _ _ _ (_ :: _)
        refine h_if_eq (tgt := 68) C dX9_readNext_49 (by decide) ⟨by omega, by omega⟩ (fun h190 => ?_) (fun h190 => ?_)
        · refine h_aload_n C dX9_readNext_68 0 rfl rfl ?_
          refine h_callV (As := []) (rest := []) C Z yyX9_good wd_1438 (tgX9_good l D cy z _ hI) kd_195 rfl rfl ⟨rfl, rfl, Nat.le_of_ble_eq_true rfl, Nat.le_of_ble_eq_true rfl⟩ ⟨Nat.le_of_ble_eq_true rfl, Nat.le_of_ble_eq_true rfl⟩ (Nat.le_of_ble_eq_true rfl) dX9_readNext_69 (fun r191 τ191 hp191 => ?_)
          obtain ⟨⟨x191, rfl, ⟨hx191a, hx191b⟩, hx191⟩, rfl⟩ := hp191
          show hpV _ _ _ _ _ _ _ _ _ _ _ _ _ _ _ _ _ _ _ _ _ (_ :: _)
          refine h_if_ne (tgt := 76) C dX9_readNext_72 (by decide) ⟨by omega, by omega⟩ (fun h192 => ?_) (fun h192 => ?_)
          · refine h_aload_n C dX9_readNext_76 0 rfl rfl ?_
            refine h_ldcS (i := 12) C Z (by decide) rfl dX9_readNext_77 ?_
            refine h_callV (As := [.ref (cy (1000 + 12))]) (rest := []) C Z yyX9_takes wd_1455 (tgX9_takes l D cy z _ 12 (by decide) hI) kd_195 rfl rfl ⟨rfl, rfl, Nat.le_of_ble_eq_true rfl, Nat.le_of_ble_eq_true rfl⟩ ⟨Nat.le_of_ble_eq_true rfl, Nat.le_of_ble_eq_true rfl⟩ (Nat.le_of_ble_eq_true rfl) dX9_readNext_79 (fun r193 τ193 hp193 => ?_)
            obtain ⟨⟨x193, rfl, ⟨hx193a, hx193b⟩, hx193⟩, hI193, hG193⟩ := hp193
            have hF193 : ∀ j i : Nat, (j ≠ 195 ∨ (i ≠ 8 ∧ i ≠ 9 ∧ i ≠ 10 ∧ i ≠ 11 ∧ i ≠ 12 ∧ i ≠ 13)) → (j ≠ 201 ∨ i = 6) → τ193 j i = σ j i := fun j i h_0 h_1 => (hG193 j i (by omega)).trans (hF0 j i h_0 h_1)
            show hpV _ _ _ _ _ _ _ _ _ _ _ _ _ _ _ _ _ _ _ _ _ (_ :: _)
            refine h_if_eq (tgt := 121) C dX9_readNext_82 (by decide) ⟨by omega, by omega⟩ (fun h194 => ?_) (fun h194 => ?_)
            · refine h_aload_n C dX9_readNext_121 0 rfl rfl ?_
              refine h_callV (As := []) (rest := []) C Z yyX9_advance wd_1424 (tgX9_advance l D cy z _ hI193) kd_195 rfl rfl ⟨rfl, rfl, Nat.le_of_ble_eq_true rfl, Nat.le_of_ble_eq_true rfl⟩ ⟨Nat.le_of_ble_eq_true rfl, Nat.le_of_ble_eq_true rfl⟩ (Nat.le_of_ble_eq_true rfl) dX9_readNext_122 (fun r195 τ195 hp195 => ?_)
              obtain ⟨rfl, hI195, hG195⟩ := hp195
              have hF195 : ∀ j i : Nat, (j ≠ 195 ∨ (i ≠ 8 ∧ i ≠ 9 ∧ i ≠ 10 ∧ i ≠ 11 ∧ i ≠ 12 ∧ i ≠ 13)) → (j ≠ 201 ∨ i = 6) → τ195 j i = σ j i := fun j i h_0 h_1 => (hG195 j i (by omega)).trans (hF193 j i h_0 h_1)
              show hpV _ _ _ _ _ _ _ _ _ _ _ _ _ _ _ _ _ _ _ _ _ []
              refine h_bipush C dX9_readNext_125 (by decide) ?_
              refine h_iconst C dX9_readNext_127 ?_
              refine h_aload_n C dX9_readNext_128 0 rfl rfl ?_
              refine h_get C O9 14 kd_195 (by decide) wd_1270 dX9_readNext_129 fr_195_14 ?_
              refine h_iconst C dX9_readNext_132 ?_
              refine h_iaload C dX9_readNext_133 kd_201 4 rfl (by rw [ln_201]; decide) rfl ?_
              obtain ⟨hr196a, hr196b⟩ := hI195.b ((bw_201 4).trans (show hpwb 4 = (0, 6) by decide))
              generalize hg196 : τ195 201 4 = r196 at hr196a hr196b ⊢
              refine h_imul C dX9_readNext_134 rfl ?_
              refine h_iadd C dX9_readNext_135 rfl ?_
              refine h_istore_n (lv' := [(1, .int (hpI (15 + (2 * r196)))), (0, .ref (z + 195))]) C dX9_readNext_136 rfl (by decide) rfl ?_
              refine h_aload_n C dX9_readNext_137 1 rfl rfl ?_
              refine h_get C O9 14 kd_195 (by decide) wd_1270 dX9_readNext_138 fr_195_14 ?_
              refine h_iload_n C dX9_readNext_141 0 rfl rfl ?_
              refine h_aload_n C dX9_readNext_142 1 rfl rfl ?_
              refine h_ldcS (i := 14) C Z (by decide) rfl dX9_readNext_143 ?_
              refine h_iconst C dX9_readNext_145 ?_
              refine h_bipush C dX9_readNext_146 (by decide) ?_
              refine h_callV (As := [.ref (cy (1000 + 14)), .int (hpI 1), .int (hpI 20)]) (rest := [.int (hpI (15 + (2 * r196))), .ref (z + 201)]) C Z yyX9_toldBy wd_1470 (tgX9_toldBy l D cy z _ 14 (by decide) 1 ⟨by decide, by decide⟩ 20 ⟨by decide, by decide⟩ hI195 (by omega)) kd_195 rfl rfl ⟨rfl, rfl, Nat.le_of_ble_eq_true rfl, Nat.le_of_ble_eq_true rfl⟩ ⟨Nat.le_of_ble_eq_true rfl, Nat.le_of_ble_eq_true rfl⟩ (Nat.le_of_ble_eq_true rfl) dX9_readNext_148 (fun r197 τ197 hp197 => ?_)
              obtain ⟨⟨x197, rfl, ⟨hx197a, hx197b⟩, hx197⟩, hI197, hG197⟩ := hp197
              have hF197 : ∀ j i : Nat, (j ≠ 195 ∨ (i ≠ 8 ∧ i ≠ 9 ∧ i ≠ 10 ∧ i ≠ 11 ∧ i ≠ 12 ∧ i ≠ 13)) → (j ≠ 201 ∨ i = 6) → τ197 j i = σ j i := fun j i h_0 h_1 => (hG197 j i (by omega)).trans (hF195 j i h_0 h_1)
              have hg198 : τ197 201 4 = r196 := (hG197 201 4 (by omega)).trans hg196
              show hpV _ _ _ _ _ _ _ _ _ _ _ _ _ _ _ _ _ _ _ _ _ (_ :: _)
              refine h_iastore C dX9_readNext_151 kd_201 (15 + (2 * r196)).toNat (Int.toNat_of_nonneg (by omega)) (by rw [ln_201]; omega) ?_
              obtain ⟨τ199, e199⟩ : ∃ μ : hpMem, μ = hpw τ197 201 ((15 + (2 * r196)).toNat) x197 := ⟨_, rfl⟩
              rw [← e199]
              have hI199 : hpInv τ199 := by rw [e199]; exact hpInv.w201 hI197 ((15 + (2 * r196)).toNat) 15 27 (0) 20 (by omega) (by omega) (by decide) (by omega) (by omega)
              have hF199 : ∀ j i : Nat, (j ≠ 195 ∨ (i ≠ 8 ∧ i ≠ 9 ∧ i ≠ 10 ∧ i ≠ 11 ∧ i ≠ 12 ∧ i ≠ 13)) → (j ≠ 201 ∨ i = 6) → τ199 j i = σ j i := fun j i h_0 h_1 => by rw [e199]; exact (hpw_fr (by omega)).trans (hF197 j i h_0 h_1)
              refine h_aload_n C dX9_readNext_152 1 rfl rfl ?_
              refine h_get C O9 14 kd_195 (by decide) wd_1270 dX9_readNext_153 fr_195_14 ?_
              refine h_iload_n C dX9_readNext_156 0 rfl rfl ?_
              refine h_iconst C dX9_readNext_157 ?_
              refine h_iadd C dX9_readNext_158 rfl ?_
              refine h_aload_n C dX9_readNext_159 1 rfl rfl ?_
              refine h_ldcS (i := 15) C Z (by decide) rfl dX9_readNext_160 ?_
              refine h_iconst C dX9_readNext_162 ?_
              refine h_bipush C dX9_readNext_163 (by decide) ?_
              refine h_callV (As := [.ref (cy (1000 + 15)), .int (hpI 0), .int (hpI 15)]) (rest := [.int (hpI ((15 + (2 * r196)) + 1)), .ref (z + 201)]) C Z yyX9_toldBy wd_1470 (tgX9_toldBy l D cy z _ 15 (by decide) 0 ⟨by decide, by decide⟩ 15 ⟨by decide, by decide⟩ hI199 (by omega)) kd_195 rfl rfl ⟨rfl, rfl, Nat.le_of_ble_eq_true rfl, Nat.le_of_ble_eq_true rfl⟩ ⟨Nat.le_of_ble_eq_true rfl, Nat.le_of_ble_eq_true rfl⟩ (Nat.le_of_ble_eq_true rfl) dX9_readNext_165 (fun r200 τ200 hp200 => ?_)
              obtain ⟨⟨x200, rfl, ⟨hx200a, hx200b⟩, hx200⟩, hI200, hG200⟩ := hp200
              have hF200 : ∀ j i : Nat, (j ≠ 195 ∨ (i ≠ 8 ∧ i ≠ 9 ∧ i ≠ 10 ∧ i ≠ 11 ∧ i ≠ 12 ∧ i ≠ 13)) → (j ≠ 201 ∨ i = 6) → τ200 j i = σ j i := fun j i h_0 h_1 => (hG200 j i (by omega)).trans (hF199 j i h_0 h_1)
              show hpV _ _ _ _ _ _ _ _ _ _ _ _ _ _ _ _ _ _ _ _ _ (_ :: _)
              refine h_iastore C dX9_readNext_168 kd_201 ((15 + (2 * r196)) + 1).toNat (Int.toNat_of_nonneg (by omega)) (by rw [ln_201]; omega) ?_
              obtain ⟨τ201, e201⟩ : ∃ μ : hpMem, μ = hpw τ200 201 (((15 + (2 * r196)) + 1).toNat) x200 := ⟨_, rfl⟩
              rw [← e201]
              have hI201 : hpInv τ201 := by rw [e201]; exact hpInv.w201 hI200 (((15 + (2 * r196)) + 1).toNat) 16 28 (0) 20 (by omega) (by omega) (by decide) (by omega) (by omega)
              have hF201 : ∀ j i : Nat, (j ≠ 195 ∨ (i ≠ 8 ∧ i ≠ 9 ∧ i ≠ 10 ∧ i ≠ 11 ∧ i ≠ 12 ∧ i ≠ 13)) → (j ≠ 201 ∨ i = 6) → τ201 j i = σ j i := fun j i h_0 h_1 => by rw [e201]; exact (hpw_fr (by omega)).trans (hF200 j i h_0 h_1)
              refine h_aload_n C dX9_readNext_169 1 rfl rfl ?_
              refine h_get C O9 14 kd_195 (by decide) wd_1270 dX9_readNext_170 fr_195_14 ?_
              refine h_iconst C dX9_readNext_173 ?_
              refine h_dup2 C rfl rfl dX9_readNext_174 ?_
              refine h_iaload C dX9_readNext_175 kd_201 4 rfl (by rw [ln_201]; decide) rfl ?_
              obtain ⟨hr202a, hr202b⟩ := hI201.b ((bw_201 4).trans (show hpwb 4 = (0, 6) by decide))
              generalize hg202 : τ201 201 4 = r202 at hr202a hr202b ⊢
              refine h_iconst C dX9_readNext_176 ?_
              refine h_iadd C dX9_readNext_177 rfl ?_
              refine h_iastore C dX9_readNext_178 kd_201 4 rfl (by rw [ln_201]; decide) ?_
              obtain ⟨τ203, e203⟩ : ∃ μ : hpMem, μ = hpw τ201 201 4 (r202 + 1) := ⟨_, rfl⟩
              rw [← e203]
              have hI203 : hpInv τ203 := by rw [e203]; exact hI201.w ((bw_201 4).trans (show hpwb 4 = (0, 6) by decide)) (by omega) (by omega)
              have hF203 : ∀ j i : Nat, (j ≠ 195 ∨ (i ≠ 8 ∧ i ≠ 9 ∧ i ≠ 10 ∧ i ≠ 11 ∧ i ≠ 12 ∧ i ≠ 13)) → (j ≠ 201 ∨ i = 6) → τ203 j i = σ j i := fun j i h_0 h_1 => by rw [e203]; exact (hpw_fr (by omega)).trans (hF201 j i h_0 h_1)
              have hg204 : τ203 201 4 = r202 + 1 := by rw [e203]; exact hpw_eq
              refine h_return C hr hlk dX9_readNext_179 ?_
              exact ⟨rfl, hI203, hF203, fun _ => by omega⟩
            · refine h_aload_n C dX9_readNext_85 0 rfl rfl ?_
              refine h_get C O9 14 kd_195 (by decide) wd_1270 dX9_readNext_86 fr_195_14 ?_
              refine h_bipush C dX9_readNext_89 (by decide) ?_
              refine h_aload_n C dX9_readNext_91 0 rfl rfl ?_
              refine h_get C O9 14 kd_195 (by decide) wd_1270 dX9_readNext_92 fr_195_14 ?_
              refine h_iconst C dX9_readNext_95 ?_
              refine h_iaload C dX9_readNext_96 kd_201 3 rfl (by rw [ln_201]; decide) rfl ?_
              obtain ⟨hr205a, hr205b⟩ := hI193.b ((bw_201 3).trans (show hpwb 3 = (0, 8) by decide))
              generalize hg205 : τ193 201 3 = r205 at hr205a hr205b ⊢
              refine h_iadd C dX9_readNext_97 rfl ?_
              refine h_aload_n C dX9_readNext_98 0 rfl rfl ?_
              refine h_ldcS (i := 14) C Z (by decide) rfl dX9_readNext_99 ?_
              refine h_iconst C dX9_readNext_101 ?_
              refine h_bipush C dX9_readNext_102 (by decide) ?_
              refine h_callV (As := [.ref (cy (1000 + 14)), .int (hpI 1), .int (hpI 20)]) (rest := [.int (hpI (7 + r205)), .ref (z + 201)]) C Z yyX9_toldBy wd_1470 (tgX9_toldBy l D cy z _ 14 (by decide) 1 ⟨by decide, by decide⟩ 20 ⟨by decide, by decide⟩ hI193 (by omega)) kd_195 rfl rfl ⟨rfl, rfl, Nat.le_of_ble_eq_true rfl, Nat.le_of_ble_eq_true rfl⟩ ⟨Nat.le_of_ble_eq_true rfl, Nat.le_of_ble_eq_true rfl⟩ (Nat.le_of_ble_eq_true rfl) dX9_readNext_104 (fun r206 τ206 hp206 => ?_)
              obtain ⟨⟨x206, rfl, ⟨hx206a, hx206b⟩, hx206⟩, hI206, hG206⟩ := hp206
              have hF206 : ∀ j i : Nat, (j ≠ 195 ∨ (i ≠ 8 ∧ i ≠ 9 ∧ i ≠ 10 ∧ i ≠ 11 ∧ i ≠ 12 ∧ i ≠ 13)) → (j ≠ 201 ∨ i = 6) → τ206 j i = σ j i := fun j i h_0 h_1 => (hG206 j i (by omega)).trans (hF193 j i h_0 h_1)
              have hg207 : τ206 201 3 = r205 := (hG206 201 3 (by omega)).trans hg205
              show hpV _ _ _ _ _ _ _ _ _ _ _ _ _ _ _ _ _ _ _ _ _ (_ :: _)
              refine h_iastore C dX9_readNext_107 kd_201 (7 + r205).toNat (Int.toNat_of_nonneg (by omega)) (by rw [ln_201]; omega) ?_
              obtain ⟨τ208, e208⟩ : ∃ μ : hpMem, μ = hpw τ206 201 ((7 + r205).toNat) x206 := ⟨_, rfl⟩
              rw [← e208]
              have hI208 : hpInv τ208 := by rw [e208]; exact hpInv.w201 hI206 ((7 + r205).toNat) 7 15 (0) 20 (by omega) (by omega) (by decide) (by omega) (by omega)
              have hF208 : ∀ j i : Nat, (j ≠ 195 ∨ (i ≠ 8 ∧ i ≠ 9 ∧ i ≠ 10 ∧ i ≠ 11 ∧ i ≠ 12 ∧ i ≠ 13)) → (j ≠ 201 ∨ i = 6) → τ208 j i = σ j i := fun j i h_0 h_1 => by rw [e208]; exact (hpw_fr (by omega)).trans (hF206 j i h_0 h_1)
              refine h_aload_n C dX9_readNext_108 0 rfl rfl ?_
              refine h_get C O9 14 kd_195 (by decide) wd_1270 dX9_readNext_109 fr_195_14 ?_
              refine h_iconst C dX9_readNext_112 ?_
              refine h_dup2 C rfl rfl dX9_readNext_113 ?_
              refine h_iaload C dX9_readNext_114 kd_201 3 rfl (by rw [ln_201]; decide) rfl ?_
              obtain ⟨hr209a, hr209b⟩ := hI208.b ((bw_201 3).trans (show hpwb 3 = (0, 8) by decide))
              generalize hg209 : τ208 201 3 = r209 at hr209a hr209b ⊢
              refine h_iconst C dX9_readNext_115 ?_
              refine h_iadd C dX9_readNext_116 rfl ?_
              refine h_iastore C dX9_readNext_117 kd_201 3 rfl (by rw [ln_201]; decide) ?_
              obtain ⟨τ210, e210⟩ : ∃ μ : hpMem, μ = hpw τ208 201 3 (r209 + 1) := ⟨_, rfl⟩
              rw [← e210]
              have hI210 : hpInv τ210 := by rw [e210]; exact hI208.w ((bw_201 3).trans (show hpwb 3 = (0, 8) by decide)) (by omega) (by omega)
              have hF210 : ∀ j i : Nat, (j ≠ 195 ∨ (i ≠ 8 ∧ i ≠ 9 ∧ i ≠ 10 ∧ i ≠ 11 ∧ i ≠ 12 ∧ i ≠ 13)) → (j ≠ 201 ∨ i = 6) → τ210 j i = σ j i := fun j i h_0 h_1 => by rw [e210]; exact (hpw_fr (by omega)).trans (hF208 j i h_0 h_1)
              have hg211 : τ210 201 3 = r209 + 1 := by rw [e210]; exact hpw_eq
              refine h_goto (tgt := 179) C dX9_readNext_118 (by decide) ?_
              refine h_return C hr hlk dX9_readNext_179 ?_
              exact ⟨rfl, hI210, hF210, fun _ => by omega⟩
          · refine h_return C hr hlk dX9_readNext_75 ?_
            exact ⟨rfl, hI, hF0, by omega⟩
        · refine h_aload_n C dX9_readNext_52 0 rfl rfl ?_
          refine h_get C O9 14 kd_195 (by decide) wd_1270 dX9_readNext_53 fr_195_14 ?_
          refine h_iconst C dX9_readNext_56 ?_
          refine h_iaload C dX9_readNext_57 kd_201 4 rfl (by rw [ln_201]; decide) rfl ?_
          obtain ⟨hr212a, hr212b⟩ := hI.b ((bw_201 4).trans (show hpwb 4 = (0, 6) by decide))
          generalize hg212 : σ 201 4 = r212 at hr212a hr212b ⊢
          refine h_bipush C dX9_readNext_58 (by decide) ?_
          refine h_icmp_ne (tgt := 68) C dX9_readNext_60 (by decide) ⟨by omega, by omega⟩ ⟨by decide, by decide⟩ (fun h213 => ?_) (fun h213 => ?_)
          · refine h_aload_n C dX9_readNext_68 0 rfl rfl ?_
            refine h_callV (As := []) (rest := []) C Z yyX9_good wd_1438 (tgX9_good l D cy z _ hI) kd_195 rfl rfl ⟨rfl, rfl, Nat.le_of_ble_eq_true rfl, Nat.le_of_ble_eq_true rfl⟩ ⟨Nat.le_of_ble_eq_true rfl, Nat.le_of_ble_eq_true rfl⟩ (Nat.le_of_ble_eq_true rfl) dX9_readNext_69 (fun r214 τ214 hp214 => ?_)
            obtain ⟨⟨x214, rfl, ⟨hx214a, hx214b⟩, hx214⟩, rfl⟩ := hp214
            show hpV _ _ _ _ _ _ _ _ _ _ _ _ _ _ _ _ _ _ _ _ _ (_ :: _)
            refine h_if_ne (tgt := 76) C dX9_readNext_72 (by decide) ⟨by omega, by omega⟩ (fun h215 => ?_) (fun h215 => ?_)
            · refine h_aload_n C dX9_readNext_76 0 rfl rfl ?_
              refine h_ldcS (i := 12) C Z (by decide) rfl dX9_readNext_77 ?_
              refine h_callV (As := [.ref (cy (1000 + 12))]) (rest := []) C Z yyX9_takes wd_1455 (tgX9_takes l D cy z _ 12 (by decide) hI) kd_195 rfl rfl ⟨rfl, rfl, Nat.le_of_ble_eq_true rfl, Nat.le_of_ble_eq_true rfl⟩ ⟨Nat.le_of_ble_eq_true rfl, Nat.le_of_ble_eq_true rfl⟩ (Nat.le_of_ble_eq_true rfl) dX9_readNext_79 (fun r216 τ216 hp216 => ?_)
              obtain ⟨⟨x216, rfl, ⟨hx216a, hx216b⟩, hx216⟩, hI216, hG216⟩ := hp216
              have hF216 : ∀ j i : Nat, (j ≠ 195 ∨ (i ≠ 8 ∧ i ≠ 9 ∧ i ≠ 10 ∧ i ≠ 11 ∧ i ≠ 12 ∧ i ≠ 13)) → (j ≠ 201 ∨ i = 6) → τ216 j i = σ j i := fun j i h_0 h_1 => (hG216 j i (by omega)).trans (hF0 j i h_0 h_1)
              have hg217 : τ216 201 4 = r212 := (hG216 201 4 (by omega)).trans hg212
              show hpV _ _ _ _ _ _ _ _ _ _ _ _ _ _ _ _ _ _ _ _ _ (_ :: _)
              refine h_if_eq (tgt := 121) C dX9_readNext_82 (by decide) ⟨by omega, by omega⟩ (fun h218 => ?_) (fun h218 => ?_)
              · refine h_aload_n C dX9_readNext_121 0 rfl rfl ?_
                refine h_callV (As := []) (rest := []) C Z yyX9_advance wd_1424 (tgX9_advance l D cy z _ hI216) kd_195 rfl rfl ⟨rfl, rfl, Nat.le_of_ble_eq_true rfl, Nat.le_of_ble_eq_true rfl⟩ ⟨Nat.le_of_ble_eq_true rfl, Nat.le_of_ble_eq_true rfl⟩ (Nat.le_of_ble_eq_true rfl) dX9_readNext_122 (fun r219 τ219 hp219 => ?_)
                obtain ⟨rfl, hI219, hG219⟩ := hp219
                have hF219 : ∀ j i : Nat, (j ≠ 195 ∨ (i ≠ 8 ∧ i ≠ 9 ∧ i ≠ 10 ∧ i ≠ 11 ∧ i ≠ 12 ∧ i ≠ 13)) → (j ≠ 201 ∨ i = 6) → τ219 j i = σ j i := fun j i h_0 h_1 => (hG219 j i (by omega)).trans (hF216 j i h_0 h_1)
                have hg220 : τ219 201 4 = r212 := (hG219 201 4 (by omega)).trans hg217
                show hpV _ _ _ _ _ _ _ _ _ _ _ _ _ _ _ _ _ _ _ _ _ []
                refine h_bipush C dX9_readNext_125 (by decide) ?_
                refine h_iconst C dX9_readNext_127 ?_
                refine h_aload_n C dX9_readNext_128 0 rfl rfl ?_
                refine h_get C O9 14 kd_195 (by decide) wd_1270 dX9_readNext_129 fr_195_14 ?_
                refine h_iconst C dX9_readNext_132 ?_
                refine h_iaload C dX9_readNext_133 kd_201 4 rfl (by rw [ln_201]; decide) rfl ?_
                rw [hg220]
                refine h_imul C dX9_readNext_134 rfl ?_
                refine h_iadd C dX9_readNext_135 rfl ?_
                refine h_istore_n (lv' := [(1, .int (hpI (15 + (2 * r212)))), (0, .ref (z + 195))]) C dX9_readNext_136 rfl (by decide) rfl ?_
                refine h_aload_n C dX9_readNext_137 1 rfl rfl ?_
                refine h_get C O9 14 kd_195 (by decide) wd_1270 dX9_readNext_138 fr_195_14 ?_
                refine h_iload_n C dX9_readNext_141 0 rfl rfl ?_
                refine h_aload_n C dX9_readNext_142 1 rfl rfl ?_
                refine h_ldcS (i := 14) C Z (by decide) rfl dX9_readNext_143 ?_
                refine h_iconst C dX9_readNext_145 ?_
                refine h_bipush C dX9_readNext_146 (by decide) ?_
                refine h_callV (As := [.ref (cy (1000 + 14)), .int (hpI 1), .int (hpI 20)]) (rest := [.int (hpI (15 + (2 * r212))), .ref (z + 201)]) C Z yyX9_toldBy wd_1470 (tgX9_toldBy l D cy z _ 14 (by decide) 1 ⟨by decide, by decide⟩ 20 ⟨by decide, by decide⟩ hI219 (by omega)) kd_195 rfl rfl ⟨rfl, rfl, Nat.le_of_ble_eq_true rfl, Nat.le_of_ble_eq_true rfl⟩ ⟨Nat.le_of_ble_eq_true rfl, Nat.le_of_ble_eq_true rfl⟩ (Nat.le_of_ble_eq_true rfl) dX9_readNext_148 (fun r221 τ221 hp221 => ?_)
                obtain ⟨⟨x221, rfl, ⟨hx221a, hx221b⟩, hx221⟩, hI221, hG221⟩ := hp221
                have hF221 : ∀ j i : Nat, (j ≠ 195 ∨ (i ≠ 8 ∧ i ≠ 9 ∧ i ≠ 10 ∧ i ≠ 11 ∧ i ≠ 12 ∧ i ≠ 13)) → (j ≠ 201 ∨ i = 6) → τ221 j i = σ j i := fun j i h_0 h_1 => (hG221 j i (by omega)).trans (hF219 j i h_0 h_1)
                have hg222 : τ221 201 4 = r212 := (hG221 201 4 (by omega)).trans hg220
                show hpV _ _ _ _ _ _ _ _ _ _ _ _ _ _ _ _ _ _ _ _ _ (_ :: _)
                refine h_iastore C dX9_readNext_151 kd_201 (15 + (2 * r212)).toNat (Int.toNat_of_nonneg (by omega)) (by rw [ln_201]; omega) ?_
                obtain ⟨τ223, e223⟩ : ∃ μ : hpMem, μ = hpw τ221 201 ((15 + (2 * r212)).toNat) x221 := ⟨_, rfl⟩
                rw [← e223]
                have hI223 : hpInv τ223 := by rw [e223]; exact hpInv.w201 hI221 ((15 + (2 * r212)).toNat) 15 25 (0) 20 (by omega) (by omega) (by decide) (by omega) (by omega)
                have hF223 : ∀ j i : Nat, (j ≠ 195 ∨ (i ≠ 8 ∧ i ≠ 9 ∧ i ≠ 10 ∧ i ≠ 11 ∧ i ≠ 12 ∧ i ≠ 13)) → (j ≠ 201 ∨ i = 6) → τ223 j i = σ j i := fun j i h_0 h_1 => by rw [e223]; exact (hpw_fr (by omega)).trans (hF221 j i h_0 h_1)
                refine h_aload_n C dX9_readNext_152 1 rfl rfl ?_
                refine h_get C O9 14 kd_195 (by decide) wd_1270 dX9_readNext_153 fr_195_14 ?_
                refine h_iload_n C dX9_readNext_156 0 rfl rfl ?_
                refine h_iconst C dX9_readNext_157 ?_
                refine h_iadd C dX9_readNext_158 rfl ?_
                refine h_aload_n C dX9_readNext_159 1 rfl rfl ?_
                refine h_ldcS (i := 15) C Z (by decide) rfl dX9_readNext_160 ?_
                refine h_iconst C dX9_readNext_162 ?_
                refine h_bipush C dX9_readNext_163 (by decide) ?_
                refine h_callV (As := [.ref (cy (1000 + 15)), .int (hpI 0), .int (hpI 15)]) (rest := [.int (hpI ((15 + (2 * r212)) + 1)), .ref (z + 201)]) C Z yyX9_toldBy wd_1470 (tgX9_toldBy l D cy z _ 15 (by decide) 0 ⟨by decide, by decide⟩ 15 ⟨by decide, by decide⟩ hI223 (by omega)) kd_195 rfl rfl ⟨rfl, rfl, Nat.le_of_ble_eq_true rfl, Nat.le_of_ble_eq_true rfl⟩ ⟨Nat.le_of_ble_eq_true rfl, Nat.le_of_ble_eq_true rfl⟩ (Nat.le_of_ble_eq_true rfl) dX9_readNext_165 (fun r224 τ224 hp224 => ?_)
                obtain ⟨⟨x224, rfl, ⟨hx224a, hx224b⟩, hx224⟩, hI224, hG224⟩ := hp224
                have hF224 : ∀ j i : Nat, (j ≠ 195 ∨ (i ≠ 8 ∧ i ≠ 9 ∧ i ≠ 10 ∧ i ≠ 11 ∧ i ≠ 12 ∧ i ≠ 13)) → (j ≠ 201 ∨ i = 6) → τ224 j i = σ j i := fun j i h_0 h_1 => (hG224 j i (by omega)).trans (hF223 j i h_0 h_1)
                show hpV _ _ _ _ _ _ _ _ _ _ _ _ _ _ _ _ _ _ _ _ _ (_ :: _)
                refine h_iastore C dX9_readNext_168 kd_201 ((15 + (2 * r212)) + 1).toNat (Int.toNat_of_nonneg (by omega)) (by rw [ln_201]; omega) ?_
                obtain ⟨τ225, e225⟩ : ∃ μ : hpMem, μ = hpw τ224 201 (((15 + (2 * r212)) + 1).toNat) x224 := ⟨_, rfl⟩
                rw [← e225]
                have hI225 : hpInv τ225 := by rw [e225]; exact hpInv.w201 hI224 (((15 + (2 * r212)) + 1).toNat) 16 26 (0) 20 (by omega) (by omega) (by decide) (by omega) (by omega)
                have hF225 : ∀ j i : Nat, (j ≠ 195 ∨ (i ≠ 8 ∧ i ≠ 9 ∧ i ≠ 10 ∧ i ≠ 11 ∧ i ≠ 12 ∧ i ≠ 13)) → (j ≠ 201 ∨ i = 6) → τ225 j i = σ j i := fun j i h_0 h_1 => by rw [e225]; exact (hpw_fr (by omega)).trans (hF224 j i h_0 h_1)
                refine h_aload_n C dX9_readNext_169 1 rfl rfl ?_
                refine h_get C O9 14 kd_195 (by decide) wd_1270 dX9_readNext_170 fr_195_14 ?_
                refine h_iconst C dX9_readNext_173 ?_
                refine h_dup2 C rfl rfl dX9_readNext_174 ?_
                refine h_iaload C dX9_readNext_175 kd_201 4 rfl (by rw [ln_201]; decide) rfl ?_
                obtain ⟨hr226a, hr226b⟩ := hI225.b ((bw_201 4).trans (show hpwb 4 = (0, 6) by decide))
                generalize hg226 : τ225 201 4 = r226 at hr226a hr226b ⊢
                refine h_iconst C dX9_readNext_176 ?_
                refine h_iadd C dX9_readNext_177 rfl ?_
                refine h_iastore C dX9_readNext_178 kd_201 4 rfl (by rw [ln_201]; decide) ?_
                obtain ⟨τ227, e227⟩ : ∃ μ : hpMem, μ = hpw τ225 201 4 (r226 + 1) := ⟨_, rfl⟩
                rw [← e227]
                have hI227 : hpInv τ227 := by rw [e227]; exact hI225.w ((bw_201 4).trans (show hpwb 4 = (0, 6) by decide)) (by omega) (by omega)
                have hF227 : ∀ j i : Nat, (j ≠ 195 ∨ (i ≠ 8 ∧ i ≠ 9 ∧ i ≠ 10 ∧ i ≠ 11 ∧ i ≠ 12 ∧ i ≠ 13)) → (j ≠ 201 ∨ i = 6) → τ227 j i = σ j i := fun j i h_0 h_1 => by rw [e227]; exact (hpw_fr (by omega)).trans (hF225 j i h_0 h_1)
                have hg228 : τ227 201 4 = r226 + 1 := by rw [e227]; exact hpw_eq
                refine h_return C hr hlk dX9_readNext_179 ?_
                exact ⟨rfl, hI227, hF227, fun _ => by omega⟩
              · refine h_aload_n C dX9_readNext_85 0 rfl rfl ?_
                refine h_get C O9 14 kd_195 (by decide) wd_1270 dX9_readNext_86 fr_195_14 ?_
                refine h_bipush C dX9_readNext_89 (by decide) ?_
                refine h_aload_n C dX9_readNext_91 0 rfl rfl ?_
                refine h_get C O9 14 kd_195 (by decide) wd_1270 dX9_readNext_92 fr_195_14 ?_
                refine h_iconst C dX9_readNext_95 ?_
                refine h_iaload C dX9_readNext_96 kd_201 3 rfl (by rw [ln_201]; decide) rfl ?_
                obtain ⟨hr229a, hr229b⟩ := hI216.b ((bw_201 3).trans (show hpwb 3 = (0, 8) by decide))
                generalize hg229 : τ216 201 3 = r229 at hr229a hr229b ⊢
                refine h_iadd C dX9_readNext_97 rfl ?_
                refine h_aload_n C dX9_readNext_98 0 rfl rfl ?_
                refine h_ldcS (i := 14) C Z (by decide) rfl dX9_readNext_99 ?_
                refine h_iconst C dX9_readNext_101 ?_
                refine h_bipush C dX9_readNext_102 (by decide) ?_
                refine h_callV (As := [.ref (cy (1000 + 14)), .int (hpI 1), .int (hpI 20)]) (rest := [.int (hpI (7 + r229)), .ref (z + 201)]) C Z yyX9_toldBy wd_1470 (tgX9_toldBy l D cy z _ 14 (by decide) 1 ⟨by decide, by decide⟩ 20 ⟨by decide, by decide⟩ hI216 (by omega)) kd_195 rfl rfl ⟨rfl, rfl, Nat.le_of_ble_eq_true rfl, Nat.le_of_ble_eq_true rfl⟩ ⟨Nat.le_of_ble_eq_true rfl, Nat.le_of_ble_eq_true rfl⟩ (Nat.le_of_ble_eq_true rfl) dX9_readNext_104 (fun r230 τ230 hp230 => ?_)
                obtain ⟨⟨x230, rfl, ⟨hx230a, hx230b⟩, hx230⟩, hI230, hG230⟩ := hp230
                have hF230 : ∀ j i : Nat, (j ≠ 195 ∨ (i ≠ 8 ∧ i ≠ 9 ∧ i ≠ 10 ∧ i ≠ 11 ∧ i ≠ 12 ∧ i ≠ 13)) → (j ≠ 201 ∨ i = 6) → τ230 j i = σ j i := fun j i h_0 h_1 => (hG230 j i (by omega)).trans (hF216 j i h_0 h_1)
                have hg231 : τ230 201 4 = r212 := (hG230 201 4 (by omega)).trans hg217
                have hg232 : τ230 201 3 = r229 := (hG230 201 3 (by omega)).trans hg229
                show hpV _ _ _ _ _ _ _ _ _ _ _ _ _ _ _ _ _ _ _ _ _ (_ :: _)
                refine h_iastore C dX9_readNext_107 kd_201 (7 + r229).toNat (Int.toNat_of_nonneg (by omega)) (by rw [ln_201]; omega) ?_
                obtain ⟨τ233, e233⟩ : ∃ μ : hpMem, μ = hpw τ230 201 ((7 + r229).toNat) x230 := ⟨_, rfl⟩
                rw [← e233]
                have hI233 : hpInv τ233 := by rw [e233]; exact hpInv.w201 hI230 ((7 + r229).toNat) 7 15 (0) 20 (by omega) (by omega) (by decide) (by omega) (by omega)
                have hF233 : ∀ j i : Nat, (j ≠ 195 ∨ (i ≠ 8 ∧ i ≠ 9 ∧ i ≠ 10 ∧ i ≠ 11 ∧ i ≠ 12 ∧ i ≠ 13)) → (j ≠ 201 ∨ i = 6) → τ233 j i = σ j i := fun j i h_0 h_1 => by rw [e233]; exact (hpw_fr (by omega)).trans (hF230 j i h_0 h_1)
                refine h_aload_n C dX9_readNext_108 0 rfl rfl ?_
                refine h_get C O9 14 kd_195 (by decide) wd_1270 dX9_readNext_109 fr_195_14 ?_
                refine h_iconst C dX9_readNext_112 ?_
                refine h_dup2 C rfl rfl dX9_readNext_113 ?_
                refine h_iaload C dX9_readNext_114 kd_201 3 rfl (by rw [ln_201]; decide) rfl ?_
                obtain ⟨hr234a, hr234b⟩ := hI233.b ((bw_201 3).trans (show hpwb 3 = (0, 8) by decide))
                generalize hg234 : τ233 201 3 = r234 at hr234a hr234b ⊢
                refine h_iconst C dX9_readNext_115 ?_
                refine h_iadd C dX9_readNext_116 rfl ?_
                refine h_iastore C dX9_readNext_117 kd_201 3 rfl (by rw [ln_201]; decide) ?_
                obtain ⟨τ235, e235⟩ : ∃ μ : hpMem, μ = hpw τ233 201 3 (r234 + 1) := ⟨_, rfl⟩
                rw [← e235]
                have hI235 : hpInv τ235 := by rw [e235]; exact hI233.w ((bw_201 3).trans (show hpwb 3 = (0, 8) by decide)) (by omega) (by omega)
                have hF235 : ∀ j i : Nat, (j ≠ 195 ∨ (i ≠ 8 ∧ i ≠ 9 ∧ i ≠ 10 ∧ i ≠ 11 ∧ i ≠ 12 ∧ i ≠ 13)) → (j ≠ 201 ∨ i = 6) → τ235 j i = σ j i := fun j i h_0 h_1 => by rw [e235]; exact (hpw_fr (by omega)).trans (hF233 j i h_0 h_1)
                have hg236 : τ235 201 3 = r234 + 1 := by rw [e235]; exact hpw_eq
                refine h_goto (tgt := 179) C dX9_readNext_118 (by decide) ?_
                refine h_return C hr hlk dX9_readNext_179 ?_
                exact ⟨rfl, hI235, hF235, fun _ => by omega⟩
            · refine h_return C hr hlk dX9_readNext_75 ?_
              exact ⟨rfl, hI, hF0, by omega⟩
          · refine h_aload_n C dX9_readNext_63 0 rfl rfl ?_
            refine h_iconst C dX9_readNext_64 ?_
            refine h_callV (As := [.int (hpI 3)]) (rest := []) C Z yyX9_errs wd_1465 (tgX9_errs l D cy z _ 3 ⟨by decide, by decide⟩ hI (by omega)) kd_195 rfl rfl ⟨rfl, rfl, Nat.le_of_ble_eq_true rfl, Nat.le_of_ble_eq_true rfl⟩ ⟨Nat.le_of_ble_eq_true rfl, Nat.le_of_ble_eq_true rfl⟩ (Nat.le_of_ble_eq_true rfl) dX9_readNext_65 (fun r237 τ237 hp237 => ?_)
            obtain ⟨rfl, hI237, hG237, hq237_0⟩ := hp237
            have hF237 : ∀ j i : Nat, (j ≠ 195 ∨ (i ≠ 8 ∧ i ≠ 9 ∧ i ≠ 10 ∧ i ≠ 11 ∧ i ≠ 12 ∧ i ≠ 13)) → (j ≠ 201 ∨ i = 6) → τ237 j i = σ j i := fun j i h_0 h_1 => (hG237 j i (by omega)).trans (hF0 j i h_0 h_1)
            have hg238 : τ237 201 4 = r212 := (hG237 201 4 (by omega)).trans hg212
            show hpV _ _ _ _ _ _ _ _ _ _ _ _ _ _ _ _ _ _ _ _ _ []
            refine h_aload_n C dX9_readNext_68 0 rfl rfl ?_
            refine h_callV (As := []) (rest := []) C Z yyX9_good wd_1438 (tgX9_good l D cy z _ hI237) kd_195 rfl rfl ⟨rfl, rfl, Nat.le_of_ble_eq_true rfl, Nat.le_of_ble_eq_true rfl⟩ ⟨Nat.le_of_ble_eq_true rfl, Nat.le_of_ble_eq_true rfl⟩ (Nat.le_of_ble_eq_true rfl) dX9_readNext_69 (fun r239 τ239 hp239 => ?_)
            obtain ⟨⟨x239, rfl, ⟨hx239a, hx239b⟩, hx239⟩, rfl⟩ := hp239
            show hpV _ _ _ _ _ _ _ _ _ _ _ _ _ _ _ _ _ _ _ _ _ (_ :: _)
            refine h_if_ne (tgt := 76) C dX9_readNext_72 (by decide) ⟨by omega, by omega⟩ (fun h240 => ?_) (fun h240 => ?_)
            · refine h_aload_n C dX9_readNext_76 0 rfl rfl ?_
              refine h_ldcS (i := 12) C Z (by decide) rfl dX9_readNext_77 ?_
              refine h_callV (As := [.ref (cy (1000 + 12))]) (rest := []) C Z yyX9_takes wd_1455 (tgX9_takes l D cy z _ 12 (by decide) hI237) kd_195 rfl rfl ⟨rfl, rfl, Nat.le_of_ble_eq_true rfl, Nat.le_of_ble_eq_true rfl⟩ ⟨Nat.le_of_ble_eq_true rfl, Nat.le_of_ble_eq_true rfl⟩ (Nat.le_of_ble_eq_true rfl) dX9_readNext_79 (fun r241 τ241 hp241 => ?_)
              obtain ⟨⟨x241, rfl, ⟨hx241a, hx241b⟩, hx241⟩, hI241, hG241⟩ := hp241
              have hF241 : ∀ j i : Nat, (j ≠ 195 ∨ (i ≠ 8 ∧ i ≠ 9 ∧ i ≠ 10 ∧ i ≠ 11 ∧ i ≠ 12 ∧ i ≠ 13)) → (j ≠ 201 ∨ i = 6) → τ241 j i = σ j i := fun j i h_0 h_1 => (hG241 j i (by omega)).trans (hF237 j i h_0 h_1)
              have hg242 : τ241 201 4 = r212 := (hG241 201 4 (by omega)).trans hg238
              show hpV _ _ _ _ _ _ _ _ _ _ _ _ _ _ _ _ _ _ _ _ _ (_ :: _)
              refine h_if_eq (tgt := 121) C dX9_readNext_82 (by decide) ⟨by omega, by omega⟩ (fun h243 => ?_) (fun h243 => ?_)
              · refine h_aload_n C dX9_readNext_121 0 rfl rfl ?_
                refine h_callV (As := []) (rest := []) C Z yyX9_advance wd_1424 (tgX9_advance l D cy z _ hI241) kd_195 rfl rfl ⟨rfl, rfl, Nat.le_of_ble_eq_true rfl, Nat.le_of_ble_eq_true rfl⟩ ⟨Nat.le_of_ble_eq_true rfl, Nat.le_of_ble_eq_true rfl⟩ (Nat.le_of_ble_eq_true rfl) dX9_readNext_122 (fun r244 τ244 hp244 => ?_)
                obtain ⟨rfl, hI244, hG244⟩ := hp244
                have hF244 : ∀ j i : Nat, (j ≠ 195 ∨ (i ≠ 8 ∧ i ≠ 9 ∧ i ≠ 10 ∧ i ≠ 11 ∧ i ≠ 12 ∧ i ≠ 13)) → (j ≠ 201 ∨ i = 6) → τ244 j i = σ j i := fun j i h_0 h_1 => (hG244 j i (by omega)).trans (hF241 j i h_0 h_1)
                have hg245 : τ244 201 4 = r212 := (hG244 201 4 (by omega)).trans hg242
                show hpV _ _ _ _ _ _ _ _ _ _ _ _ _ _ _ _ _ _ _ _ _ []
                refine h_bipush C dX9_readNext_125 (by decide) ?_
                refine h_iconst C dX9_readNext_127 ?_
                refine h_aload_n C dX9_readNext_128 0 rfl rfl ?_
                refine h_get C O9 14 kd_195 (by decide) wd_1270 dX9_readNext_129 fr_195_14 ?_
                refine h_iconst C dX9_readNext_132 ?_
                refine h_iaload C dX9_readNext_133 kd_201 4 rfl (by rw [ln_201]; decide) rfl ?_
                rw [hg245]
                refine h_imul C dX9_readNext_134 rfl ?_
                refine h_iadd C dX9_readNext_135 rfl ?_
                refine h_istore_n (lv' := [(1, .int (hpI (15 + (2 * r212)))), (0, .ref (z + 195))]) C dX9_readNext_136 rfl (by decide) rfl ?_
                refine h_aload_n C dX9_readNext_137 1 rfl rfl ?_
                refine h_get C O9 14 kd_195 (by decide) wd_1270 dX9_readNext_138 fr_195_14 ?_
                refine h_iload_n C dX9_readNext_141 0 rfl rfl ?_
                refine h_aload_n C dX9_readNext_142 1 rfl rfl ?_
                refine h_ldcS (i := 14) C Z (by decide) rfl dX9_readNext_143 ?_
                refine h_iconst C dX9_readNext_145 ?_
                refine h_bipush C dX9_readNext_146 (by decide) ?_
                refine h_callV (As := [.ref (cy (1000 + 14)), .int (hpI 1), .int (hpI 20)]) (rest := [.int (hpI (15 + (2 * r212))), .ref (z + 201)]) C Z yyX9_toldBy wd_1470 (tgX9_toldBy l D cy z _ 14 (by decide) 1 ⟨by decide, by decide⟩ 20 ⟨by decide, by decide⟩ hI244 (by omega)) kd_195 rfl rfl ⟨rfl, rfl, Nat.le_of_ble_eq_true rfl, Nat.le_of_ble_eq_true rfl⟩ ⟨Nat.le_of_ble_eq_true rfl, Nat.le_of_ble_eq_true rfl⟩ (Nat.le_of_ble_eq_true rfl) dX9_readNext_148 (fun r246 τ246 hp246 => ?_)
                obtain ⟨⟨x246, rfl, ⟨hx246a, hx246b⟩, hx246⟩, hI246, hG246⟩ := hp246
                have hF246 : ∀ j i : Nat, (j ≠ 195 ∨ (i ≠ 8 ∧ i ≠ 9 ∧ i ≠ 10 ∧ i ≠ 11 ∧ i ≠ 12 ∧ i ≠ 13)) → (j ≠ 201 ∨ i = 6) → τ246 j i = σ j i := fun j i h_0 h_1 => (hG246 j i (by omega)).trans (hF244 j i h_0 h_1)
                have hg247 : τ246 201 4 = r212 := (hG246 201 4 (by omega)).trans hg245
                show hpV _ _ _ _ _ _ _ _ _ _ _ _ _ _ _ _ _ _ _ _ _ (_ :: _)
                refine h_iastore C dX9_readNext_151 kd_201 (15 + (2 * r212)).toNat (Int.toNat_of_nonneg (by omega)) (by rw [ln_201]; omega) ?_
                obtain ⟨τ248, e248⟩ : ∃ μ : hpMem, μ = hpw τ246 201 ((15 + (2 * r212)).toNat) x246 := ⟨_, rfl⟩
                rw [← e248]
                have hI248 : hpInv τ248 := by rw [e248]; exact hpInv.w201 hI246 ((15 + (2 * r212)).toNat) 27 27 (0) 2016 (by omega) (by omega) (by decide) (by omega) (by omega)
                have hF248 : ∀ j i : Nat, (j ≠ 195 ∨ (i ≠ 8 ∧ i ≠ 9 ∧ i ≠ 10 ∧ i ≠ 11 ∧ i ≠ 12 ∧ i ≠ 13)) → (j ≠ 201 ∨ i = 6) → τ248 j i = σ j i := fun j i h_0 h_1 => by rw [e248]; exact (hpw_fr (by omega)).trans (hF246 j i h_0 h_1)
                refine h_aload_n C dX9_readNext_152 1 rfl rfl ?_
                refine h_get C O9 14 kd_195 (by decide) wd_1270 dX9_readNext_153 fr_195_14 ?_
                refine h_iload_n C dX9_readNext_156 0 rfl rfl ?_
                refine h_iconst C dX9_readNext_157 ?_
                refine h_iadd C dX9_readNext_158 rfl ?_
                refine h_aload_n C dX9_readNext_159 1 rfl rfl ?_
                refine h_ldcS (i := 15) C Z (by decide) rfl dX9_readNext_160 ?_
                refine h_iconst C dX9_readNext_162 ?_
                refine h_bipush C dX9_readNext_163 (by decide) ?_
                refine h_callV (As := [.ref (cy (1000 + 15)), .int (hpI 0), .int (hpI 15)]) (rest := [.int (hpI ((15 + (2 * r212)) + 1)), .ref (z + 201)]) C Z yyX9_toldBy wd_1470 (tgX9_toldBy l D cy z _ 15 (by decide) 0 ⟨by decide, by decide⟩ 15 ⟨by decide, by decide⟩ hI248 (by omega)) kd_195 rfl rfl ⟨rfl, rfl, Nat.le_of_ble_eq_true rfl, Nat.le_of_ble_eq_true rfl⟩ ⟨Nat.le_of_ble_eq_true rfl, Nat.le_of_ble_eq_true rfl⟩ (Nat.le_of_ble_eq_true rfl) dX9_readNext_165 (fun r249 τ249 hp249 => ?_)
                obtain ⟨⟨x249, rfl, ⟨hx249a, hx249b⟩, hx249⟩, hI249, hG249⟩ := hp249
                have hF249 : ∀ j i : Nat, (j ≠ 195 ∨ (i ≠ 8 ∧ i ≠ 9 ∧ i ≠ 10 ∧ i ≠ 11 ∧ i ≠ 12 ∧ i ≠ 13)) → (j ≠ 201 ∨ i = 6) → τ249 j i = σ j i := fun j i h_0 h_1 => (hG249 j i (by omega)).trans (hF248 j i h_0 h_1)
                show hpV _ _ _ _ _ _ _ _ _ _ _ _ _ _ _ _ _ _ _ _ _ (_ :: _)
                refine h_iastore C dX9_readNext_168 kd_201 ((15 + (2 * r212)) + 1).toNat (Int.toNat_of_nonneg (by omega)) (by rw [ln_201]; omega) ?_
                obtain ⟨τ250, e250⟩ : ∃ μ : hpMem, μ = hpw τ249 201 (((15 + (2 * r212)) + 1).toNat) x249 := ⟨_, rfl⟩
                rw [← e250]
                have hI250 : hpInv τ250 := by rw [e250]; exact hpInv.w201 hI249 (((15 + (2 * r212)) + 1).toNat) 28 28 (0) 2016 (by omega) (by omega) (by decide) (by omega) (by omega)
                have hF250 : ∀ j i : Nat, (j ≠ 195 ∨ (i ≠ 8 ∧ i ≠ 9 ∧ i ≠ 10 ∧ i ≠ 11 ∧ i ≠ 12 ∧ i ≠ 13)) → (j ≠ 201 ∨ i = 6) → τ250 j i = σ j i := fun j i h_0 h_1 => by rw [e250]; exact (hpw_fr (by omega)).trans (hF249 j i h_0 h_1)
                refine h_aload_n C dX9_readNext_169 1 rfl rfl ?_
                refine h_get C O9 14 kd_195 (by decide) wd_1270 dX9_readNext_170 fr_195_14 ?_
                refine h_iconst C dX9_readNext_173 ?_
                refine h_dup2 C rfl rfl dX9_readNext_174 ?_
                refine h_iaload C dX9_readNext_175 kd_201 4 rfl (by rw [ln_201]; decide) rfl ?_
                obtain ⟨hr251a, hr251b⟩ := hI250.b ((bw_201 4).trans (show hpwb 4 = (0, 6) by decide))
                generalize hg251 : τ250 201 4 = r251 at hr251a hr251b ⊢
                refine h_iconst C dX9_readNext_176 ?_
                refine h_iadd C dX9_readNext_177 rfl ?_
                refine h_iastore C dX9_readNext_178 kd_201 4 rfl (by rw [ln_201]; decide) ?_
                obtain ⟨τ252, e252⟩ : ∃ μ : hpMem, μ = hpw τ250 201 4 (r251 + 1) := ⟨_, rfl⟩
                rw [← e252]
                have hI252 : hpInv τ252 := by rw [e252]; exact hI250.w ((bw_201 4).trans (show hpwb 4 = (0, 6) by decide)) (by omega) (by omega)
                have hF252 : ∀ j i : Nat, (j ≠ 195 ∨ (i ≠ 8 ∧ i ≠ 9 ∧ i ≠ 10 ∧ i ≠ 11 ∧ i ≠ 12 ∧ i ≠ 13)) → (j ≠ 201 ∨ i = 6) → τ252 j i = σ j i := fun j i h_0 h_1 => by rw [e252]; exact (hpw_fr (by omega)).trans (hF250 j i h_0 h_1)
                have hg253 : τ252 201 4 = r251 + 1 := by rw [e252]; exact hpw_eq
                refine h_return C hr hlk dX9_readNext_179 ?_
                exact ⟨rfl, hI252, hF252, fun _ => by omega⟩
              · refine h_aload_n C dX9_readNext_85 0 rfl rfl ?_
                refine h_get C O9 14 kd_195 (by decide) wd_1270 dX9_readNext_86 fr_195_14 ?_
                refine h_bipush C dX9_readNext_89 (by decide) ?_
                refine h_aload_n C dX9_readNext_91 0 rfl rfl ?_
                refine h_get C O9 14 kd_195 (by decide) wd_1270 dX9_readNext_92 fr_195_14 ?_
                refine h_iconst C dX9_readNext_95 ?_
                refine h_iaload C dX9_readNext_96 kd_201 3 rfl (by rw [ln_201]; decide) rfl ?_
                obtain ⟨hr254a, hr254b⟩ := hI241.b ((bw_201 3).trans (show hpwb 3 = (0, 8) by decide))
                generalize hg254 : τ241 201 3 = r254 at hr254a hr254b ⊢
                refine h_iadd C dX9_readNext_97 rfl ?_
                refine h_aload_n C dX9_readNext_98 0 rfl rfl ?_
                refine h_ldcS (i := 14) C Z (by decide) rfl dX9_readNext_99 ?_
                refine h_iconst C dX9_readNext_101 ?_
                refine h_bipush C dX9_readNext_102 (by decide) ?_
                refine h_callV (As := [.ref (cy (1000 + 14)), .int (hpI 1), .int (hpI 20)]) (rest := [.int (hpI (7 + r254)), .ref (z + 201)]) C Z yyX9_toldBy wd_1470 (tgX9_toldBy l D cy z _ 14 (by decide) 1 ⟨by decide, by decide⟩ 20 ⟨by decide, by decide⟩ hI241 (by omega)) kd_195 rfl rfl ⟨rfl, rfl, Nat.le_of_ble_eq_true rfl, Nat.le_of_ble_eq_true rfl⟩ ⟨Nat.le_of_ble_eq_true rfl, Nat.le_of_ble_eq_true rfl⟩ (Nat.le_of_ble_eq_true rfl) dX9_readNext_104 (fun r255 τ255 hp255 => ?_)
                obtain ⟨⟨x255, rfl, ⟨hx255a, hx255b⟩, hx255⟩, hI255, hG255⟩ := hp255
                have hF255 : ∀ j i : Nat, (j ≠ 195 ∨ (i ≠ 8 ∧ i ≠ 9 ∧ i ≠ 10 ∧ i ≠ 11 ∧ i ≠ 12 ∧ i ≠ 13)) → (j ≠ 201 ∨ i = 6) → τ255 j i = σ j i := fun j i h_0 h_1 => (hG255 j i (by omega)).trans (hF241 j i h_0 h_1)
                have hg256 : τ255 201 4 = r212 := (hG255 201 4 (by omega)).trans hg242
                have hg257 : τ255 201 3 = r254 := (hG255 201 3 (by omega)).trans hg254
                show hpV _ _ _ _ _ _ _ _ _ _ _ _ _ _ _ _ _ _ _ _ _ (_ :: _)
                refine h_iastore C dX9_readNext_107 kd_201 (7 + r254).toNat (Int.toNat_of_nonneg (by omega)) (by rw [ln_201]; omega) ?_
                obtain ⟨τ258, e258⟩ : ∃ μ : hpMem, μ = hpw τ255 201 ((7 + r254).toNat) x255 := ⟨_, rfl⟩
                rw [← e258]
                have hI258 : hpInv τ258 := by rw [e258]; exact hpInv.w201 hI255 ((7 + r254).toNat) 7 15 (0) 20 (by omega) (by omega) (by decide) (by omega) (by omega)
                have hF258 : ∀ j i : Nat, (j ≠ 195 ∨ (i ≠ 8 ∧ i ≠ 9 ∧ i ≠ 10 ∧ i ≠ 11 ∧ i ≠ 12 ∧ i ≠ 13)) → (j ≠ 201 ∨ i = 6) → τ258 j i = σ j i := fun j i h_0 h_1 => by rw [e258]; exact (hpw_fr (by omega)).trans (hF255 j i h_0 h_1)
                refine h_aload_n C dX9_readNext_108 0 rfl rfl ?_
                refine h_get C O9 14 kd_195 (by decide) wd_1270 dX9_readNext_109 fr_195_14 ?_
                refine h_iconst C dX9_readNext_112 ?_
                refine h_dup2 C rfl rfl dX9_readNext_113 ?_
                refine h_iaload C dX9_readNext_114 kd_201 3 rfl (by rw [ln_201]; decide) rfl ?_
                obtain ⟨hr259a, hr259b⟩ := hI258.b ((bw_201 3).trans (show hpwb 3 = (0, 8) by decide))
                generalize hg259 : τ258 201 3 = r259 at hr259a hr259b ⊢
                refine h_iconst C dX9_readNext_115 ?_
                refine h_iadd C dX9_readNext_116 rfl ?_
                refine h_iastore C dX9_readNext_117 kd_201 3 rfl (by rw [ln_201]; decide) ?_
                obtain ⟨τ260, e260⟩ : ∃ μ : hpMem, μ = hpw τ258 201 3 (r259 + 1) := ⟨_, rfl⟩
                rw [← e260]
                have hI260 : hpInv τ260 := by rw [e260]; exact hI258.w ((bw_201 3).trans (show hpwb 3 = (0, 8) by decide)) (by omega) (by omega)
                have hF260 : ∀ j i : Nat, (j ≠ 195 ∨ (i ≠ 8 ∧ i ≠ 9 ∧ i ≠ 10 ∧ i ≠ 11 ∧ i ≠ 12 ∧ i ≠ 13)) → (j ≠ 201 ∨ i = 6) → τ260 j i = σ j i := fun j i h_0 h_1 => by rw [e260]; exact (hpw_fr (by omega)).trans (hF258 j i h_0 h_1)
                have hg261 : τ260 201 3 = r259 + 1 := by rw [e260]; exact hpw_eq
                refine h_goto (tgt := 179) C dX9_readNext_118 (by decide) ?_
                refine h_return C hr hlk dX9_readNext_179 ?_
                exact ⟨rfl, hI260, hF260, fun _ => by omega⟩
            · refine h_return C hr hlk dX9_readNext_75 ?_
              exact ⟨rfl, hI237, hF237, by omega⟩
      · refine h_aload_n C dX9_readNext_32 0 rfl rfl ?_
        refine h_get C O9 14 kd_195 (by decide) wd_1270 dX9_readNext_33 fr_195_14 ?_
        refine h_iconst C dX9_readNext_36 ?_
        refine h_iaload C dX9_readNext_37 kd_201 3 rfl (by rw [ln_201]; decide) rfl ?_
        obtain ⟨hr262a, hr262b⟩ := hI.b ((bw_201 3).trans (show hpwb 3 = (0, 8) by decide))
        generalize hg262 : σ 201 3 = r262 at hr262a hr262b ⊢
        refine h_bipush C dX9_readNext_38 (by decide) ?_
        refine h_icmp_eq (tgt := 63) C dX9_readNext_40 (by decide) ⟨by omega, by omega⟩ ⟨by decide, by decide⟩ (fun h263 => ?_) (fun h263 => ?_)
        · refine h_aload_n C dX9_readNext_63 0 rfl rfl ?_
          refine h_iconst C dX9_readNext_64 ?_
          refine h_callV (As := [.int (hpI 3)]) (rest := []) C Z yyX9_errs wd_1465 (tgX9_errs l D cy z _ 3 ⟨by decide, by decide⟩ hI (by omega)) kd_195 rfl rfl ⟨rfl, rfl, Nat.le_of_ble_eq_true rfl, Nat.le_of_ble_eq_true rfl⟩ ⟨Nat.le_of_ble_eq_true rfl, Nat.le_of_ble_eq_true rfl⟩ (Nat.le_of_ble_eq_true rfl) dX9_readNext_65 (fun r264 τ264 hp264 => ?_)
          obtain ⟨rfl, hI264, hG264, hq264_0⟩ := hp264
          have hF264 : ∀ j i : Nat, (j ≠ 195 ∨ (i ≠ 8 ∧ i ≠ 9 ∧ i ≠ 10 ∧ i ≠ 11 ∧ i ≠ 12 ∧ i ≠ 13)) → (j ≠ 201 ∨ i = 6) → τ264 j i = σ j i := fun j i h_0 h_1 => (hG264 j i (by omega)).trans (hF0 j i h_0 h_1)
          have hg265 : τ264 201 3 = r262 := (hG264 201 3 (by omega)).trans hg262
          show hpV _ _ _ _ _ _ _ _ _ _ _ _ _ _ _ _ _ _ _ _ _ []
          refine h_aload_n C dX9_readNext_68 0 rfl rfl ?_
          refine h_callV (As := []) (rest := []) C Z yyX9_good wd_1438 (tgX9_good l D cy z _ hI264) kd_195 rfl rfl ⟨rfl, rfl, Nat.le_of_ble_eq_true rfl, Nat.le_of_ble_eq_true rfl⟩ ⟨Nat.le_of_ble_eq_true rfl, Nat.le_of_ble_eq_true rfl⟩ (Nat.le_of_ble_eq_true rfl) dX9_readNext_69 (fun r266 τ266 hp266 => ?_)
          obtain ⟨⟨x266, rfl, ⟨hx266a, hx266b⟩, hx266⟩, rfl⟩ := hp266
          show hpV _ _ _ _ _ _ _ _ _ _ _ _ _ _ _ _ _ _ _ _ _ (_ :: _)
          refine h_if_ne (tgt := 76) C dX9_readNext_72 (by decide) ⟨by omega, by omega⟩ (fun h267 => ?_) (fun h267 => ?_)
          · refine h_aload_n C dX9_readNext_76 0 rfl rfl ?_
            refine h_ldcS (i := 12) C Z (by decide) rfl dX9_readNext_77 ?_
            refine h_callV (As := [.ref (cy (1000 + 12))]) (rest := []) C Z yyX9_takes wd_1455 (tgX9_takes l D cy z _ 12 (by decide) hI264) kd_195 rfl rfl ⟨rfl, rfl, Nat.le_of_ble_eq_true rfl, Nat.le_of_ble_eq_true rfl⟩ ⟨Nat.le_of_ble_eq_true rfl, Nat.le_of_ble_eq_true rfl⟩ (Nat.le_of_ble_eq_true rfl) dX9_readNext_79 (fun r268 τ268 hp268 => ?_)
            obtain ⟨⟨x268, rfl, ⟨hx268a, hx268b⟩, hx268⟩, hI268, hG268⟩ := hp268
            have hF268 : ∀ j i : Nat, (j ≠ 195 ∨ (i ≠ 8 ∧ i ≠ 9 ∧ i ≠ 10 ∧ i ≠ 11 ∧ i ≠ 12 ∧ i ≠ 13)) → (j ≠ 201 ∨ i = 6) → τ268 j i = σ j i := fun j i h_0 h_1 => (hG268 j i (by omega)).trans (hF264 j i h_0 h_1)
            have hg269 : τ268 201 3 = r262 := (hG268 201 3 (by omega)).trans hg265
            show hpV _ _ _ _ _ _ _ _ _ _ _ _ _ _ _ _ _ _ _ _ _ (_ :: _)
            refine h_if_eq (tgt := 121) C dX9_readNext_82 (by decide) ⟨by omega, by omega⟩ (fun h270 => ?_) (fun h270 => ?_)
            · refine h_aload_n C dX9_readNext_121 0 rfl rfl ?_
              refine h_callV (As := []) (rest := []) C Z yyX9_advance wd_1424 (tgX9_advance l D cy z _ hI268) kd_195 rfl rfl ⟨rfl, rfl, Nat.le_of_ble_eq_true rfl, Nat.le_of_ble_eq_true rfl⟩ ⟨Nat.le_of_ble_eq_true rfl, Nat.le_of_ble_eq_true rfl⟩ (Nat.le_of_ble_eq_true rfl) dX9_readNext_122 (fun r271 τ271 hp271 => ?_)
              obtain ⟨rfl, hI271, hG271⟩ := hp271
              have hF271 : ∀ j i : Nat, (j ≠ 195 ∨ (i ≠ 8 ∧ i ≠ 9 ∧ i ≠ 10 ∧ i ≠ 11 ∧ i ≠ 12 ∧ i ≠ 13)) → (j ≠ 201 ∨ i = 6) → τ271 j i = σ j i := fun j i h_0 h_1 => (hG271 j i (by omega)).trans (hF268 j i h_0 h_1)
              have hg272 : τ271 201 3 = r262 := (hG271 201 3 (by omega)).trans hg269
              show hpV _ _ _ _ _ _ _ _ _ _ _ _ _ _ _ _ _ _ _ _ _ []
              refine h_bipush C dX9_readNext_125 (by decide) ?_
              refine h_iconst C dX9_readNext_127 ?_
              refine h_aload_n C dX9_readNext_128 0 rfl rfl ?_
              refine h_get C O9 14 kd_195 (by decide) wd_1270 dX9_readNext_129 fr_195_14 ?_
              refine h_iconst C dX9_readNext_132 ?_
              refine h_iaload C dX9_readNext_133 kd_201 4 rfl (by rw [ln_201]; decide) rfl ?_
              obtain ⟨hr273a, hr273b⟩ := hI271.b ((bw_201 4).trans (show hpwb 4 = (0, 6) by decide))
              generalize hg273 : τ271 201 4 = r273 at hr273a hr273b ⊢
              refine h_imul C dX9_readNext_134 rfl ?_
              refine h_iadd C dX9_readNext_135 rfl ?_
              refine h_istore_n (lv' := [(1, .int (hpI (15 + (2 * r273)))), (0, .ref (z + 195))]) C dX9_readNext_136 rfl (by decide) rfl ?_
              refine h_aload_n C dX9_readNext_137 1 rfl rfl ?_
              refine h_get C O9 14 kd_195 (by decide) wd_1270 dX9_readNext_138 fr_195_14 ?_
              refine h_iload_n C dX9_readNext_141 0 rfl rfl ?_
              refine h_aload_n C dX9_readNext_142 1 rfl rfl ?_
              refine h_ldcS (i := 14) C Z (by decide) rfl dX9_readNext_143 ?_
              refine h_iconst C dX9_readNext_145 ?_
              refine h_bipush C dX9_readNext_146 (by decide) ?_
              refine h_callV (As := [.ref (cy (1000 + 14)), .int (hpI 1), .int (hpI 20)]) (rest := [.int (hpI (15 + (2 * r273))), .ref (z + 201)]) C Z yyX9_toldBy wd_1470 (tgX9_toldBy l D cy z _ 14 (by decide) 1 ⟨by decide, by decide⟩ 20 ⟨by decide, by decide⟩ hI271 (by omega)) kd_195 rfl rfl ⟨rfl, rfl, Nat.le_of_ble_eq_true rfl, Nat.le_of_ble_eq_true rfl⟩ ⟨Nat.le_of_ble_eq_true rfl, Nat.le_of_ble_eq_true rfl⟩ (Nat.le_of_ble_eq_true rfl) dX9_readNext_148 (fun r274 τ274 hp274 => ?_)
              obtain ⟨⟨x274, rfl, ⟨hx274a, hx274b⟩, hx274⟩, hI274, hG274⟩ := hp274
              have hF274 : ∀ j i : Nat, (j ≠ 195 ∨ (i ≠ 8 ∧ i ≠ 9 ∧ i ≠ 10 ∧ i ≠ 11 ∧ i ≠ 12 ∧ i ≠ 13)) → (j ≠ 201 ∨ i = 6) → τ274 j i = σ j i := fun j i h_0 h_1 => (hG274 j i (by omega)).trans (hF271 j i h_0 h_1)
              have hg275 : τ274 201 3 = r262 := (hG274 201 3 (by omega)).trans hg272
              have hg276 : τ274 201 4 = r273 := (hG274 201 4 (by omega)).trans hg273
              show hpV _ _ _ _ _ _ _ _ _ _ _ _ _ _ _ _ _ _ _ _ _ (_ :: _)
              refine h_iastore C dX9_readNext_151 kd_201 (15 + (2 * r273)).toNat (Int.toNat_of_nonneg (by omega)) (by rw [ln_201]; omega) ?_
              obtain ⟨τ277, e277⟩ : ∃ μ : hpMem, μ = hpw τ274 201 ((15 + (2 * r273)).toNat) x274 := ⟨_, rfl⟩
              rw [← e277]
              have hI277 : hpInv τ277 := by rw [e277]; exact hpInv.w201 hI274 ((15 + (2 * r273)).toNat) 15 27 (0) 20 (by omega) (by omega) (by decide) (by omega) (by omega)
              have hF277 : ∀ j i : Nat, (j ≠ 195 ∨ (i ≠ 8 ∧ i ≠ 9 ∧ i ≠ 10 ∧ i ≠ 11 ∧ i ≠ 12 ∧ i ≠ 13)) → (j ≠ 201 ∨ i = 6) → τ277 j i = σ j i := fun j i h_0 h_1 => by rw [e277]; exact (hpw_fr (by omega)).trans (hF274 j i h_0 h_1)
              refine h_aload_n C dX9_readNext_152 1 rfl rfl ?_
              refine h_get C O9 14 kd_195 (by decide) wd_1270 dX9_readNext_153 fr_195_14 ?_
              refine h_iload_n C dX9_readNext_156 0 rfl rfl ?_
              refine h_iconst C dX9_readNext_157 ?_
              refine h_iadd C dX9_readNext_158 rfl ?_
              refine h_aload_n C dX9_readNext_159 1 rfl rfl ?_
              refine h_ldcS (i := 15) C Z (by decide) rfl dX9_readNext_160 ?_
              refine h_iconst C dX9_readNext_162 ?_
              refine h_bipush C dX9_readNext_163 (by decide) ?_
              refine h_callV (As := [.ref (cy (1000 + 15)), .int (hpI 0), .int (hpI 15)]) (rest := [.int (hpI ((15 + (2 * r273)) + 1)), .ref (z + 201)]) C Z yyX9_toldBy wd_1470 (tgX9_toldBy l D cy z _ 15 (by decide) 0 ⟨by decide, by decide⟩ 15 ⟨by decide, by decide⟩ hI277 (by omega)) kd_195 rfl rfl ⟨rfl, rfl, Nat.le_of_ble_eq_true rfl, Nat.le_of_ble_eq_true rfl⟩ ⟨Nat.le_of_ble_eq_true rfl, Nat.le_of_ble_eq_true rfl⟩ (Nat.le_of_ble_eq_true rfl) dX9_readNext_165 (fun r278 τ278 hp278 => ?_)
              obtain ⟨⟨x278, rfl, ⟨hx278a, hx278b⟩, hx278⟩, hI278, hG278⟩ := hp278
              have hF278 : ∀ j i : Nat, (j ≠ 195 ∨ (i ≠ 8 ∧ i ≠ 9 ∧ i ≠ 10 ∧ i ≠ 11 ∧ i ≠ 12 ∧ i ≠ 13)) → (j ≠ 201 ∨ i = 6) → τ278 j i = σ j i := fun j i h_0 h_1 => (hG278 j i (by omega)).trans (hF277 j i h_0 h_1)
              show hpV _ _ _ _ _ _ _ _ _ _ _ _ _ _ _ _ _ _ _ _ _ (_ :: _)
              refine h_iastore C dX9_readNext_168 kd_201 ((15 + (2 * r273)) + 1).toNat (Int.toNat_of_nonneg (by omega)) (by rw [ln_201]; omega) ?_
              obtain ⟨τ279, e279⟩ : ∃ μ : hpMem, μ = hpw τ278 201 (((15 + (2 * r273)) + 1).toNat) x278 := ⟨_, rfl⟩
              rw [← e279]
              have hI279 : hpInv τ279 := by rw [e279]; exact hpInv.w201 hI278 (((15 + (2 * r273)) + 1).toNat) 16 28 (0) 20 (by omega) (by omega) (by decide) (by omega) (by omega)
              have hF279 : ∀ j i : Nat, (j ≠ 195 ∨ (i ≠ 8 ∧ i ≠ 9 ∧ i ≠ 10 ∧ i ≠ 11 ∧ i ≠ 12 ∧ i ≠ 13)) → (j ≠ 201 ∨ i = 6) → τ279 j i = σ j i := fun j i h_0 h_1 => by rw [e279]; exact (hpw_fr (by omega)).trans (hF278 j i h_0 h_1)
              refine h_aload_n C dX9_readNext_169 1 rfl rfl ?_
              refine h_get C O9 14 kd_195 (by decide) wd_1270 dX9_readNext_170 fr_195_14 ?_
              refine h_iconst C dX9_readNext_173 ?_
              refine h_dup2 C rfl rfl dX9_readNext_174 ?_
              refine h_iaload C dX9_readNext_175 kd_201 4 rfl (by rw [ln_201]; decide) rfl ?_
              obtain ⟨hr280a, hr280b⟩ := hI279.b ((bw_201 4).trans (show hpwb 4 = (0, 6) by decide))
              generalize hg280 : τ279 201 4 = r280 at hr280a hr280b ⊢
              refine h_iconst C dX9_readNext_176 ?_
              refine h_iadd C dX9_readNext_177 rfl ?_
              refine h_iastore C dX9_readNext_178 kd_201 4 rfl (by rw [ln_201]; decide) ?_
              obtain ⟨τ281, e281⟩ : ∃ μ : hpMem, μ = hpw τ279 201 4 (r280 + 1) := ⟨_, rfl⟩
              rw [← e281]
              have hI281 : hpInv τ281 := by rw [e281]; exact hI279.w ((bw_201 4).trans (show hpwb 4 = (0, 6) by decide)) (by omega) (by omega)
              have hF281 : ∀ j i : Nat, (j ≠ 195 ∨ (i ≠ 8 ∧ i ≠ 9 ∧ i ≠ 10 ∧ i ≠ 11 ∧ i ≠ 12 ∧ i ≠ 13)) → (j ≠ 201 ∨ i = 6) → τ281 j i = σ j i := fun j i h_0 h_1 => by rw [e281]; exact (hpw_fr (by omega)).trans (hF279 j i h_0 h_1)
              have hg282 : τ281 201 4 = r280 + 1 := by rw [e281]; exact hpw_eq
              refine h_return C hr hlk dX9_readNext_179 ?_
              exact ⟨rfl, hI281, hF281, fun _ => by omega⟩
            · refine h_aload_n C dX9_readNext_85 0 rfl rfl ?_
              refine h_get C O9 14 kd_195 (by decide) wd_1270 dX9_readNext_86 fr_195_14 ?_
              refine h_bipush C dX9_readNext_89 (by decide) ?_
              refine h_aload_n C dX9_readNext_91 0 rfl rfl ?_
              refine h_get C O9 14 kd_195 (by decide) wd_1270 dX9_readNext_92 fr_195_14 ?_
              refine h_iconst C dX9_readNext_95 ?_
              refine h_iaload C dX9_readNext_96 kd_201 3 rfl (by rw [ln_201]; decide) rfl ?_
              rw [hg269]
              refine h_iadd C dX9_readNext_97 rfl ?_
              refine h_aload_n C dX9_readNext_98 0 rfl rfl ?_
              refine h_ldcS (i := 14) C Z (by decide) rfl dX9_readNext_99 ?_
              refine h_iconst C dX9_readNext_101 ?_
              refine h_bipush C dX9_readNext_102 (by decide) ?_
              refine h_callV (As := [.ref (cy (1000 + 14)), .int (hpI 1), .int (hpI 20)]) (rest := [.int (hpI (7 + r262)), .ref (z + 201)]) C Z yyX9_toldBy wd_1470 (tgX9_toldBy l D cy z _ 14 (by decide) 1 ⟨by decide, by decide⟩ 20 ⟨by decide, by decide⟩ hI268 (by omega)) kd_195 rfl rfl ⟨rfl, rfl, Nat.le_of_ble_eq_true rfl, Nat.le_of_ble_eq_true rfl⟩ ⟨Nat.le_of_ble_eq_true rfl, Nat.le_of_ble_eq_true rfl⟩ (Nat.le_of_ble_eq_true rfl) dX9_readNext_104 (fun r283 τ283 hp283 => ?_)
              obtain ⟨⟨x283, rfl, ⟨hx283a, hx283b⟩, hx283⟩, hI283, hG283⟩ := hp283
              have hF283 : ∀ j i : Nat, (j ≠ 195 ∨ (i ≠ 8 ∧ i ≠ 9 ∧ i ≠ 10 ∧ i ≠ 11 ∧ i ≠ 12 ∧ i ≠ 13)) → (j ≠ 201 ∨ i = 6) → τ283 j i = σ j i := fun j i h_0 h_1 => (hG283 j i (by omega)).trans (hF268 j i h_0 h_1)
              have hg284 : τ283 201 3 = r262 := (hG283 201 3 (by omega)).trans hg269
              show hpV _ _ _ _ _ _ _ _ _ _ _ _ _ _ _ _ _ _ _ _ _ (_ :: _)
              refine h_iastore C dX9_readNext_107 kd_201 (7 + r262).toNat (Int.toNat_of_nonneg (by omega)) (by rw [ln_201]; omega) ?_
              obtain ⟨τ285, e285⟩ : ∃ μ : hpMem, μ = hpw τ283 201 ((7 + r262).toNat) x283 := ⟨_, rfl⟩
              rw [← e285]
              have hI285 : hpInv τ285 := by rw [e285]; exact hpInv.w201 hI283 ((7 + r262).toNat) 15 15 (0) 20 (by omega) (by omega) (by decide) (by omega) (by omega)
              have hF285 : ∀ j i : Nat, (j ≠ 195 ∨ (i ≠ 8 ∧ i ≠ 9 ∧ i ≠ 10 ∧ i ≠ 11 ∧ i ≠ 12 ∧ i ≠ 13)) → (j ≠ 201 ∨ i = 6) → τ285 j i = σ j i := fun j i h_0 h_1 => by rw [e285]; exact (hpw_fr (by omega)).trans (hF283 j i h_0 h_1)
              refine h_aload_n C dX9_readNext_108 0 rfl rfl ?_
              refine h_get C O9 14 kd_195 (by decide) wd_1270 dX9_readNext_109 fr_195_14 ?_
              refine h_iconst C dX9_readNext_112 ?_
              refine h_dup2 C rfl rfl dX9_readNext_113 ?_
              refine h_iaload C dX9_readNext_114 kd_201 3 rfl (by rw [ln_201]; decide) rfl ?_
              obtain ⟨hr286a, hr286b⟩ := hI285.b ((bw_201 3).trans (show hpwb 3 = (0, 8) by decide))
              generalize hg286 : τ285 201 3 = r286 at hr286a hr286b ⊢
              refine h_iconst C dX9_readNext_115 ?_
              refine h_iadd C dX9_readNext_116 rfl ?_
              refine h_iastore C dX9_readNext_117 kd_201 3 rfl (by rw [ln_201]; decide) ?_
              obtain ⟨τ287, e287⟩ : ∃ μ : hpMem, μ = hpw τ285 201 3 (r286 + 1) := ⟨_, rfl⟩
              rw [← e287]
              have hI287 : hpInv τ287 := by rw [e287]; exact hI285.w ((bw_201 3).trans (show hpwb 3 = (0, 8) by decide)) (by omega) (by omega)
              have hF287 : ∀ j i : Nat, (j ≠ 195 ∨ (i ≠ 8 ∧ i ≠ 9 ∧ i ≠ 10 ∧ i ≠ 11 ∧ i ≠ 12 ∧ i ≠ 13)) → (j ≠ 201 ∨ i = 6) → τ287 j i = σ j i := fun j i h_0 h_1 => by rw [e287]; exact (hpw_fr (by omega)).trans (hF285 j i h_0 h_1)
              have hg288 : τ287 201 3 = r286 + 1 := by rw [e287]; exact hpw_eq
              refine h_goto (tgt := 179) C dX9_readNext_118 (by decide) ?_
              refine h_return C hr hlk dX9_readNext_179 ?_
              exact ⟨rfl, hI287, hF287, fun _ => by omega⟩
          · refine h_return C hr hlk dX9_readNext_75 ?_
            exact ⟨rfl, hI264, hF264, by omega⟩
        · refine h_aload_n C dX9_readNext_43 0 rfl rfl ?_
          refine h_ldcS (i := 13) C Z (by decide) rfl dX9_readNext_44 ?_
          refine h_callV (As := [.ref (cy (1000 + 13))]) (rest := []) C Z yyX9_is wd_1459 (tgX9_is l D cy z _ 13 (by decide) hI) kd_195 rfl rfl ⟨rfl, rfl, Nat.le_of_ble_eq_true rfl, Nat.le_of_ble_eq_true rfl⟩ ⟨Nat.le_of_ble_eq_true rfl, Nat.le_of_ble_eq_true rfl⟩ (Nat.le_of_ble_eq_true rfl) dX9_readNext_46 (fun r289 τ289 hp289 => ?_)
          obtain ⟨⟨x289, rfl, ⟨hx289a, hx289b⟩, hx289⟩, rfl⟩ := hp289
          show hpV _ _ _ _ _ _ _ _ _ _ _ _ _ _ _ _ _ _ _ _ _ (_ :: _)
          refine h_if_eq (tgt := 68) C dX9_readNext_49 (by decide) ⟨by omega, by omega⟩ (fun h290 => ?_) (fun h290 => ?_)
          · refine h_aload_n C dX9_readNext_68 0 rfl rfl ?_
            refine h_callV (As := []) (rest := []) C Z yyX9_good wd_1438 (tgX9_good l D cy z _ hI) kd_195 rfl rfl ⟨rfl, rfl, Nat.le_of_ble_eq_true rfl, Nat.le_of_ble_eq_true rfl⟩ ⟨Nat.le_of_ble_eq_true rfl, Nat.le_of_ble_eq_true rfl⟩ (Nat.le_of_ble_eq_true rfl) dX9_readNext_69 (fun r291 τ291 hp291 => ?_)
            obtain ⟨⟨x291, rfl, ⟨hx291a, hx291b⟩, hx291⟩, rfl⟩ := hp291
            show hpV _ _ _ _ _ _ _ _ _ _ _ _ _ _ _ _ _ _ _ _ _ (_ :: _)
            refine h_if_ne (tgt := 76) C dX9_readNext_72 (by decide) ⟨by omega, by omega⟩ (fun h292 => ?_) (fun h292 => ?_)
            · refine h_aload_n C dX9_readNext_76 0 rfl rfl ?_
              refine h_ldcS (i := 12) C Z (by decide) rfl dX9_readNext_77 ?_
              refine h_callV (As := [.ref (cy (1000 + 12))]) (rest := []) C Z yyX9_takes wd_1455 (tgX9_takes l D cy z _ 12 (by decide) hI) kd_195 rfl rfl ⟨rfl, rfl, Nat.le_of_ble_eq_true rfl, Nat.le_of_ble_eq_true rfl⟩ ⟨Nat.le_of_ble_eq_true rfl, Nat.le_of_ble_eq_true rfl⟩ (Nat.le_of_ble_eq_true rfl) dX9_readNext_79 (fun r293 τ293 hp293 => ?_)
              obtain ⟨⟨x293, rfl, ⟨hx293a, hx293b⟩, hx293⟩, hI293, hG293⟩ := hp293
              have hF293 : ∀ j i : Nat, (j ≠ 195 ∨ (i ≠ 8 ∧ i ≠ 9 ∧ i ≠ 10 ∧ i ≠ 11 ∧ i ≠ 12 ∧ i ≠ 13)) → (j ≠ 201 ∨ i = 6) → τ293 j i = σ j i := fun j i h_0 h_1 => (hG293 j i (by omega)).trans (hF0 j i h_0 h_1)
              have hg294 : τ293 201 3 = r262 := (hG293 201 3 (by omega)).trans hg262
              show hpV _ _ _ _ _ _ _ _ _ _ _ _ _ _ _ _ _ _ _ _ _ (_ :: _)
              refine h_if_eq (tgt := 121) C dX9_readNext_82 (by decide) ⟨by omega, by omega⟩ (fun h295 => ?_) (fun h295 => ?_)
              · refine h_aload_n C dX9_readNext_121 0 rfl rfl ?_
                refine h_callV (As := []) (rest := []) C Z yyX9_advance wd_1424 (tgX9_advance l D cy z _ hI293) kd_195 rfl rfl ⟨rfl, rfl, Nat.le_of_ble_eq_true rfl, Nat.le_of_ble_eq_true rfl⟩ ⟨Nat.le_of_ble_eq_true rfl, Nat.le_of_ble_eq_true rfl⟩ (Nat.le_of_ble_eq_true rfl) dX9_readNext_122 (fun r296 τ296 hp296 => ?_)
                obtain ⟨rfl, hI296, hG296⟩ := hp296
                have hF296 : ∀ j i : Nat, (j ≠ 195 ∨ (i ≠ 8 ∧ i ≠ 9 ∧ i ≠ 10 ∧ i ≠ 11 ∧ i ≠ 12 ∧ i ≠ 13)) → (j ≠ 201 ∨ i = 6) → τ296 j i = σ j i := fun j i h_0 h_1 => (hG296 j i (by omega)).trans (hF293 j i h_0 h_1)
                have hg297 : τ296 201 3 = r262 := (hG296 201 3 (by omega)).trans hg294
                show hpV _ _ _ _ _ _ _ _ _ _ _ _ _ _ _ _ _ _ _ _ _ []
                refine h_bipush C dX9_readNext_125 (by decide) ?_
                refine h_iconst C dX9_readNext_127 ?_
                refine h_aload_n C dX9_readNext_128 0 rfl rfl ?_
                refine h_get C O9 14 kd_195 (by decide) wd_1270 dX9_readNext_129 fr_195_14 ?_
                refine h_iconst C dX9_readNext_132 ?_
                refine h_iaload C dX9_readNext_133 kd_201 4 rfl (by rw [ln_201]; decide) rfl ?_
                obtain ⟨hr298a, hr298b⟩ := hI296.b ((bw_201 4).trans (show hpwb 4 = (0, 6) by decide))
                generalize hg298 : τ296 201 4 = r298 at hr298a hr298b ⊢
                refine h_imul C dX9_readNext_134 rfl ?_
                refine h_iadd C dX9_readNext_135 rfl ?_
                refine h_istore_n (lv' := [(1, .int (hpI (15 + (2 * r298)))), (0, .ref (z + 195))]) C dX9_readNext_136 rfl (by decide) rfl ?_
                refine h_aload_n C dX9_readNext_137 1 rfl rfl ?_
                refine h_get C O9 14 kd_195 (by decide) wd_1270 dX9_readNext_138 fr_195_14 ?_
                refine h_iload_n C dX9_readNext_141 0 rfl rfl ?_
                refine h_aload_n C dX9_readNext_142 1 rfl rfl ?_
                refine h_ldcS (i := 14) C Z (by decide) rfl dX9_readNext_143 ?_
                refine h_iconst C dX9_readNext_145 ?_
                refine h_bipush C dX9_readNext_146 (by decide) ?_
                refine h_callV (As := [.ref (cy (1000 + 14)), .int (hpI 1), .int (hpI 20)]) (rest := [.int (hpI (15 + (2 * r298))), .ref (z + 201)]) C Z yyX9_toldBy wd_1470 (tgX9_toldBy l D cy z _ 14 (by decide) 1 ⟨by decide, by decide⟩ 20 ⟨by decide, by decide⟩ hI296 (by omega)) kd_195 rfl rfl ⟨rfl, rfl, Nat.le_of_ble_eq_true rfl, Nat.le_of_ble_eq_true rfl⟩ ⟨Nat.le_of_ble_eq_true rfl, Nat.le_of_ble_eq_true rfl⟩ (Nat.le_of_ble_eq_true rfl) dX9_readNext_148 (fun r299 τ299 hp299 => ?_)
                obtain ⟨⟨x299, rfl, ⟨hx299a, hx299b⟩, hx299⟩, hI299, hG299⟩ := hp299
                have hF299 : ∀ j i : Nat, (j ≠ 195 ∨ (i ≠ 8 ∧ i ≠ 9 ∧ i ≠ 10 ∧ i ≠ 11 ∧ i ≠ 12 ∧ i ≠ 13)) → (j ≠ 201 ∨ i = 6) → τ299 j i = σ j i := fun j i h_0 h_1 => (hG299 j i (by omega)).trans (hF296 j i h_0 h_1)
                have hg300 : τ299 201 3 = r262 := (hG299 201 3 (by omega)).trans hg297
                have hg301 : τ299 201 4 = r298 := (hG299 201 4 (by omega)).trans hg298
                show hpV _ _ _ _ _ _ _ _ _ _ _ _ _ _ _ _ _ _ _ _ _ (_ :: _)
                refine h_iastore C dX9_readNext_151 kd_201 (15 + (2 * r298)).toNat (Int.toNat_of_nonneg (by omega)) (by rw [ln_201]; omega) ?_
                obtain ⟨τ302, e302⟩ : ∃ μ : hpMem, μ = hpw τ299 201 ((15 + (2 * r298)).toNat) x299 := ⟨_, rfl⟩
                rw [← e302]
                have hI302 : hpInv τ302 := by rw [e302]; exact hpInv.w201 hI299 ((15 + (2 * r298)).toNat) 15 27 (0) 20 (by omega) (by omega) (by decide) (by omega) (by omega)
                have hF302 : ∀ j i : Nat, (j ≠ 195 ∨ (i ≠ 8 ∧ i ≠ 9 ∧ i ≠ 10 ∧ i ≠ 11 ∧ i ≠ 12 ∧ i ≠ 13)) → (j ≠ 201 ∨ i = 6) → τ302 j i = σ j i := fun j i h_0 h_1 => by rw [e302]; exact (hpw_fr (by omega)).trans (hF299 j i h_0 h_1)
                refine h_aload_n C dX9_readNext_152 1 rfl rfl ?_
                refine h_get C O9 14 kd_195 (by decide) wd_1270 dX9_readNext_153 fr_195_14 ?_
                refine h_iload_n C dX9_readNext_156 0 rfl rfl ?_
                refine h_iconst C dX9_readNext_157 ?_
                refine h_iadd C dX9_readNext_158 rfl ?_
                refine h_aload_n C dX9_readNext_159 1 rfl rfl ?_
                refine h_ldcS (i := 15) C Z (by decide) rfl dX9_readNext_160 ?_
                refine h_iconst C dX9_readNext_162 ?_
                refine h_bipush C dX9_readNext_163 (by decide) ?_
                refine h_callV (As := [.ref (cy (1000 + 15)), .int (hpI 0), .int (hpI 15)]) (rest := [.int (hpI ((15 + (2 * r298)) + 1)), .ref (z + 201)]) C Z yyX9_toldBy wd_1470 (tgX9_toldBy l D cy z _ 15 (by decide) 0 ⟨by decide, by decide⟩ 15 ⟨by decide, by decide⟩ hI302 (by omega)) kd_195 rfl rfl ⟨rfl, rfl, Nat.le_of_ble_eq_true rfl, Nat.le_of_ble_eq_true rfl⟩ ⟨Nat.le_of_ble_eq_true rfl, Nat.le_of_ble_eq_true rfl⟩ (Nat.le_of_ble_eq_true rfl) dX9_readNext_165 (fun r303 τ303 hp303 => ?_)
                obtain ⟨⟨x303, rfl, ⟨hx303a, hx303b⟩, hx303⟩, hI303, hG303⟩ := hp303
                have hF303 : ∀ j i : Nat, (j ≠ 195 ∨ (i ≠ 8 ∧ i ≠ 9 ∧ i ≠ 10 ∧ i ≠ 11 ∧ i ≠ 12 ∧ i ≠ 13)) → (j ≠ 201 ∨ i = 6) → τ303 j i = σ j i := fun j i h_0 h_1 => (hG303 j i (by omega)).trans (hF302 j i h_0 h_1)
                show hpV _ _ _ _ _ _ _ _ _ _ _ _ _ _ _ _ _ _ _ _ _ (_ :: _)
                refine h_iastore C dX9_readNext_168 kd_201 ((15 + (2 * r298)) + 1).toNat (Int.toNat_of_nonneg (by omega)) (by rw [ln_201]; omega) ?_
                obtain ⟨τ304, e304⟩ : ∃ μ : hpMem, μ = hpw τ303 201 (((15 + (2 * r298)) + 1).toNat) x303 := ⟨_, rfl⟩
                rw [← e304]
                have hI304 : hpInv τ304 := by rw [e304]; exact hpInv.w201 hI303 (((15 + (2 * r298)) + 1).toNat) 16 28 (0) 20 (by omega) (by omega) (by decide) (by omega) (by omega)
                have hF304 : ∀ j i : Nat, (j ≠ 195 ∨ (i ≠ 8 ∧ i ≠ 9 ∧ i ≠ 10 ∧ i ≠ 11 ∧ i ≠ 12 ∧ i ≠ 13)) → (j ≠ 201 ∨ i = 6) → τ304 j i = σ j i := fun j i h_0 h_1 => by rw [e304]; exact (hpw_fr (by omega)).trans (hF303 j i h_0 h_1)
                refine h_aload_n C dX9_readNext_169 1 rfl rfl ?_
                refine h_get C O9 14 kd_195 (by decide) wd_1270 dX9_readNext_170 fr_195_14 ?_
                refine h_iconst C dX9_readNext_173 ?_
                refine h_dup2 C rfl rfl dX9_readNext_174 ?_
                refine h_iaload C dX9_readNext_175 kd_201 4 rfl (by rw [ln_201]; decide) rfl ?_
                obtain ⟨hr305a, hr305b⟩ := hI304.b ((bw_201 4).trans (show hpwb 4 = (0, 6) by decide))
                generalize hg305 : τ304 201 4 = r305 at hr305a hr305b ⊢
                refine h_iconst C dX9_readNext_176 ?_
                refine h_iadd C dX9_readNext_177 rfl ?_
                refine h_iastore C dX9_readNext_178 kd_201 4 rfl (by rw [ln_201]; decide) ?_
                obtain ⟨τ306, e306⟩ : ∃ μ : hpMem, μ = hpw τ304 201 4 (r305 + 1) := ⟨_, rfl⟩
                rw [← e306]
                have hI306 : hpInv τ306 := by rw [e306]; exact hI304.w ((bw_201 4).trans (show hpwb 4 = (0, 6) by decide)) (by omega) (by omega)
                have hF306 : ∀ j i : Nat, (j ≠ 195 ∨ (i ≠ 8 ∧ i ≠ 9 ∧ i ≠ 10 ∧ i ≠ 11 ∧ i ≠ 12 ∧ i ≠ 13)) → (j ≠ 201 ∨ i = 6) → τ306 j i = σ j i := fun j i h_0 h_1 => by rw [e306]; exact (hpw_fr (by omega)).trans (hF304 j i h_0 h_1)
                have hg307 : τ306 201 4 = r305 + 1 := by rw [e306]; exact hpw_eq
                refine h_return C hr hlk dX9_readNext_179 ?_
                exact ⟨rfl, hI306, hF306, fun _ => by omega⟩
              · refine h_aload_n C dX9_readNext_85 0 rfl rfl ?_
                refine h_get C O9 14 kd_195 (by decide) wd_1270 dX9_readNext_86 fr_195_14 ?_
                refine h_bipush C dX9_readNext_89 (by decide) ?_
                refine h_aload_n C dX9_readNext_91 0 rfl rfl ?_
                refine h_get C O9 14 kd_195 (by decide) wd_1270 dX9_readNext_92 fr_195_14 ?_
                refine h_iconst C dX9_readNext_95 ?_
                refine h_iaload C dX9_readNext_96 kd_201 3 rfl (by rw [ln_201]; decide) rfl ?_
                rw [hg294]
                refine h_iadd C dX9_readNext_97 rfl ?_
                refine h_aload_n C dX9_readNext_98 0 rfl rfl ?_
                refine h_ldcS (i := 14) C Z (by decide) rfl dX9_readNext_99 ?_
                refine h_iconst C dX9_readNext_101 ?_
                refine h_bipush C dX9_readNext_102 (by decide) ?_
                refine h_callV (As := [.ref (cy (1000 + 14)), .int (hpI 1), .int (hpI 20)]) (rest := [.int (hpI (7 + r262)), .ref (z + 201)]) C Z yyX9_toldBy wd_1470 (tgX9_toldBy l D cy z _ 14 (by decide) 1 ⟨by decide, by decide⟩ 20 ⟨by decide, by decide⟩ hI293 (by omega)) kd_195 rfl rfl ⟨rfl, rfl, Nat.le_of_ble_eq_true rfl, Nat.le_of_ble_eq_true rfl⟩ ⟨Nat.le_of_ble_eq_true rfl, Nat.le_of_ble_eq_true rfl⟩ (Nat.le_of_ble_eq_true rfl) dX9_readNext_104 (fun r308 τ308 hp308 => ?_)
                obtain ⟨⟨x308, rfl, ⟨hx308a, hx308b⟩, hx308⟩, hI308, hG308⟩ := hp308
                have hF308 : ∀ j i : Nat, (j ≠ 195 ∨ (i ≠ 8 ∧ i ≠ 9 ∧ i ≠ 10 ∧ i ≠ 11 ∧ i ≠ 12 ∧ i ≠ 13)) → (j ≠ 201 ∨ i = 6) → τ308 j i = σ j i := fun j i h_0 h_1 => (hG308 j i (by omega)).trans (hF293 j i h_0 h_1)
                have hg309 : τ308 201 3 = r262 := (hG308 201 3 (by omega)).trans hg294
                show hpV _ _ _ _ _ _ _ _ _ _ _ _ _ _ _ _ _ _ _ _ _ (_ :: _)
                refine h_iastore C dX9_readNext_107 kd_201 (7 + r262).toNat (Int.toNat_of_nonneg (by omega)) (by rw [ln_201]; omega) ?_
                obtain ⟨τ310, e310⟩ : ∃ μ : hpMem, μ = hpw τ308 201 ((7 + r262).toNat) x308 := ⟨_, rfl⟩
                rw [← e310]
                have hI310 : hpInv τ310 := by rw [e310]; exact hpInv.w201 hI308 ((7 + r262).toNat) 7 14 (0) 20 (by omega) (by omega) (by decide) (by omega) (by omega)
                have hF310 : ∀ j i : Nat, (j ≠ 195 ∨ (i ≠ 8 ∧ i ≠ 9 ∧ i ≠ 10 ∧ i ≠ 11 ∧ i ≠ 12 ∧ i ≠ 13)) → (j ≠ 201 ∨ i = 6) → τ310 j i = σ j i := fun j i h_0 h_1 => by rw [e310]; exact (hpw_fr (by omega)).trans (hF308 j i h_0 h_1)
                refine h_aload_n C dX9_readNext_108 0 rfl rfl ?_
                refine h_get C O9 14 kd_195 (by decide) wd_1270 dX9_readNext_109 fr_195_14 ?_
                refine h_iconst C dX9_readNext_112 ?_
                refine h_dup2 C rfl rfl dX9_readNext_113 ?_
                refine h_iaload C dX9_readNext_114 kd_201 3 rfl (by rw [ln_201]; decide) rfl ?_
                obtain ⟨hr311a, hr311b⟩ := hI310.b ((bw_201 3).trans (show hpwb 3 = (0, 8) by decide))
                generalize hg311 : τ310 201 3 = r311 at hr311a hr311b ⊢
                refine h_iconst C dX9_readNext_115 ?_
                refine h_iadd C dX9_readNext_116 rfl ?_
                refine h_iastore C dX9_readNext_117 kd_201 3 rfl (by rw [ln_201]; decide) ?_
                obtain ⟨τ312, e312⟩ : ∃ μ : hpMem, μ = hpw τ310 201 3 (r311 + 1) := ⟨_, rfl⟩
                rw [← e312]
                have hI312 : hpInv τ312 := by rw [e312]; exact hI310.w ((bw_201 3).trans (show hpwb 3 = (0, 8) by decide)) (by omega) (by omega)
                have hF312 : ∀ j i : Nat, (j ≠ 195 ∨ (i ≠ 8 ∧ i ≠ 9 ∧ i ≠ 10 ∧ i ≠ 11 ∧ i ≠ 12 ∧ i ≠ 13)) → (j ≠ 201 ∨ i = 6) → τ312 j i = σ j i := fun j i h_0 h_1 => by rw [e312]; exact (hpw_fr (by omega)).trans (hF310 j i h_0 h_1)
                have hg313 : τ312 201 3 = r311 + 1 := by rw [e312]; exact hpw_eq
                refine h_goto (tgt := 179) C dX9_readNext_118 (by decide) ?_
                refine h_return C hr hlk dX9_readNext_179 ?_
                exact ⟨rfl, hI312, hF312, fun _ => by omega⟩
            · refine h_return C hr hlk dX9_readNext_75 ?_
              exact ⟨rfl, hI, hF0, by omega⟩
          · refine h_aload_n C dX9_readNext_52 0 rfl rfl ?_
            refine h_get C O9 14 kd_195 (by decide) wd_1270 dX9_readNext_53 fr_195_14 ?_
            refine h_iconst C dX9_readNext_56 ?_
            refine h_iaload C dX9_readNext_57 kd_201 4 rfl (by rw [ln_201]; decide) rfl ?_
            obtain ⟨hr314a, hr314b⟩ := hI.b ((bw_201 4).trans (show hpwb 4 = (0, 6) by decide))
            generalize hg314 : σ 201 4 = r314 at hr314a hr314b ⊢
            refine h_bipush C dX9_readNext_58 (by decide) ?_
            refine h_icmp_ne (tgt := 68) C dX9_readNext_60 (by decide) ⟨by omega, by omega⟩ ⟨by decide, by decide⟩ (fun h315 => ?_) (fun h315 => ?_)
            · refine h_aload_n C dX9_readNext_68 0 rfl rfl ?_
              refine h_callV (As := []) (rest := []) C Z yyX9_good wd_1438 (tgX9_good l D cy z _ hI) kd_195 rfl rfl ⟨rfl, rfl, Nat.le_of_ble_eq_true rfl, Nat.le_of_ble_eq_true rfl⟩ ⟨Nat.le_of_ble_eq_true rfl, Nat.le_of_ble_eq_true rfl⟩ (Nat.le_of_ble_eq_true rfl) dX9_readNext_69 (fun r316 τ316 hp316 => ?_)
              obtain ⟨⟨x316, rfl, ⟨hx316a, hx316b⟩, hx316⟩, rfl⟩ := hp316
              show hpV _ _ _ _ _ _ _ _ _ _ _ _ _ _ _ _ _ _ _ _ _ (_ :: _)
              refine h_if_ne (tgt := 76) C dX9_readNext_72 (by decide) ⟨by omega, by omega⟩ (fun h317 => ?_) (fun h317 => ?_)
              · refine h_aload_n C dX9_readNext_76 0 rfl rfl ?_
                refine h_ldcS (i := 12) C Z (by decide) rfl dX9_readNext_77 ?_
                refine h_callV (As := [.ref (cy (1000 + 12))]) (rest := []) C Z yyX9_takes wd_1455 (tgX9_takes l D cy z _ 12 (by decide) hI) kd_195 rfl rfl ⟨rfl, rfl, Nat.le_of_ble_eq_true rfl, Nat.le_of_ble_eq_true rfl⟩ ⟨Nat.le_of_ble_eq_true rfl, Nat.le_of_ble_eq_true rfl⟩ (Nat.le_of_ble_eq_true rfl) dX9_readNext_79 (fun r318 τ318 hp318 => ?_)
                obtain ⟨⟨x318, rfl, ⟨hx318a, hx318b⟩, hx318⟩, hI318, hG318⟩ := hp318
                have hF318 : ∀ j i : Nat, (j ≠ 195 ∨ (i ≠ 8 ∧ i ≠ 9 ∧ i ≠ 10 ∧ i ≠ 11 ∧ i ≠ 12 ∧ i ≠ 13)) → (j ≠ 201 ∨ i = 6) → τ318 j i = σ j i := fun j i h_0 h_1 => (hG318 j i (by omega)).trans (hF0 j i h_0 h_1)
                have hg319 : τ318 201 3 = r262 := (hG318 201 3 (by omega)).trans hg262
                have hg320 : τ318 201 4 = r314 := (hG318 201 4 (by omega)).trans hg314
                show hpV _ _ _ _ _ _ _ _ _ _ _ _ _ _ _ _ _ _ _ _ _ (_ :: _)
                refine h_if_eq (tgt := 121) C dX9_readNext_82 (by decide) ⟨by omega, by omega⟩ (fun h321 => ?_) (fun h321 => ?_)
                · refine h_aload_n C dX9_readNext_121 0 rfl rfl ?_
                  refine h_callV (As := []) (rest := []) C Z yyX9_advance wd_1424 (tgX9_advance l D cy z _ hI318) kd_195 rfl rfl ⟨rfl, rfl, Nat.le_of_ble_eq_true rfl, Nat.le_of_ble_eq_true rfl⟩ ⟨Nat.le_of_ble_eq_true rfl, Nat.le_of_ble_eq_true rfl⟩ (Nat.le_of_ble_eq_true rfl) dX9_readNext_122 (fun r322 τ322 hp322 => ?_)
                  obtain ⟨rfl, hI322, hG322⟩ := hp322
                  have hF322 : ∀ j i : Nat, (j ≠ 195 ∨ (i ≠ 8 ∧ i ≠ 9 ∧ i ≠ 10 ∧ i ≠ 11 ∧ i ≠ 12 ∧ i ≠ 13)) → (j ≠ 201 ∨ i = 6) → τ322 j i = σ j i := fun j i h_0 h_1 => (hG322 j i (by omega)).trans (hF318 j i h_0 h_1)
                  have hg323 : τ322 201 3 = r262 := (hG322 201 3 (by omega)).trans hg319
                  have hg324 : τ322 201 4 = r314 := (hG322 201 4 (by omega)).trans hg320
                  show hpV _ _ _ _ _ _ _ _ _ _ _ _ _ _ _ _ _ _ _ _ _ []
                  refine h_bipush C dX9_readNext_125 (by decide) ?_
                  refine h_iconst C dX9_readNext_127 ?_
                  refine h_aload_n C dX9_readNext_128 0 rfl rfl ?_
                  refine h_get C O9 14 kd_195 (by decide) wd_1270 dX9_readNext_129 fr_195_14 ?_
                  refine h_iconst C dX9_readNext_132 ?_
                  refine h_iaload C dX9_readNext_133 kd_201 4 rfl (by rw [ln_201]; decide) rfl ?_
                  rw [hg324]
                  refine h_imul C dX9_readNext_134 rfl ?_
                  refine h_iadd C dX9_readNext_135 rfl ?_
                  refine h_istore_n (lv' := [(1, .int (hpI (15 + (2 * r314)))), (0, .ref (z + 195))]) C dX9_readNext_136 rfl (by decide) rfl ?_
                  refine h_aload_n C dX9_readNext_137 1 rfl rfl ?_
                  refine h_get C O9 14 kd_195 (by decide) wd_1270 dX9_readNext_138 fr_195_14 ?_
                  refine h_iload_n C dX9_readNext_141 0 rfl rfl ?_
                  refine h_aload_n C dX9_readNext_142 1 rfl rfl ?_
                  refine h_ldcS (i := 14) C Z (by decide) rfl dX9_readNext_143 ?_
                  refine h_iconst C dX9_readNext_145 ?_
                  refine h_bipush C dX9_readNext_146 (by decide) ?_
                  refine h_callV (As := [.ref (cy (1000 + 14)), .int (hpI 1), .int (hpI 20)]) (rest := [.int (hpI (15 + (2 * r314))), .ref (z + 201)]) C Z yyX9_toldBy wd_1470 (tgX9_toldBy l D cy z _ 14 (by decide) 1 ⟨by decide, by decide⟩ 20 ⟨by decide, by decide⟩ hI322 (by omega)) kd_195 rfl rfl ⟨rfl, rfl, Nat.le_of_ble_eq_true rfl, Nat.le_of_ble_eq_true rfl⟩ ⟨Nat.le_of_ble_eq_true rfl, Nat.le_of_ble_eq_true rfl⟩ (Nat.le_of_ble_eq_true rfl) dX9_readNext_148 (fun r325 τ325 hp325 => ?_)
                  obtain ⟨⟨x325, rfl, ⟨hx325a, hx325b⟩, hx325⟩, hI325, hG325⟩ := hp325
                  have hF325 : ∀ j i : Nat, (j ≠ 195 ∨ (i ≠ 8 ∧ i ≠ 9 ∧ i ≠ 10 ∧ i ≠ 11 ∧ i ≠ 12 ∧ i ≠ 13)) → (j ≠ 201 ∨ i = 6) → τ325 j i = σ j i := fun j i h_0 h_1 => (hG325 j i (by omega)).trans (hF322 j i h_0 h_1)
                  have hg326 : τ325 201 3 = r262 := (hG325 201 3 (by omega)).trans hg323
                  have hg327 : τ325 201 4 = r314 := (hG325 201 4 (by omega)).trans hg324
                  show hpV _ _ _ _ _ _ _ _ _ _ _ _ _ _ _ _ _ _ _ _ _ (_ :: _)
                  refine h_iastore C dX9_readNext_151 kd_201 (15 + (2 * r314)).toNat (Int.toNat_of_nonneg (by omega)) (by rw [ln_201]; omega) ?_
                  obtain ⟨τ328, e328⟩ : ∃ μ : hpMem, μ = hpw τ325 201 ((15 + (2 * r314)).toNat) x325 := ⟨_, rfl⟩
                  rw [← e328]
                  have hI328 : hpInv τ328 := by rw [e328]; exact hpInv.w201 hI325 ((15 + (2 * r314)).toNat) 15 25 (0) 20 (by omega) (by omega) (by decide) (by omega) (by omega)
                  have hF328 : ∀ j i : Nat, (j ≠ 195 ∨ (i ≠ 8 ∧ i ≠ 9 ∧ i ≠ 10 ∧ i ≠ 11 ∧ i ≠ 12 ∧ i ≠ 13)) → (j ≠ 201 ∨ i = 6) → τ328 j i = σ j i := fun j i h_0 h_1 => by rw [e328]; exact (hpw_fr (by omega)).trans (hF325 j i h_0 h_1)
                  refine h_aload_n C dX9_readNext_152 1 rfl rfl ?_
                  refine h_get C O9 14 kd_195 (by decide) wd_1270 dX9_readNext_153 fr_195_14 ?_
                  refine h_iload_n C dX9_readNext_156 0 rfl rfl ?_
                  refine h_iconst C dX9_readNext_157 ?_
                  refine h_iadd C dX9_readNext_158 rfl ?_
                  refine h_aload_n C dX9_readNext_159 1 rfl rfl ?_
                  refine h_ldcS (i := 15) C Z (by decide) rfl dX9_readNext_160 ?_
                  refine h_iconst C dX9_readNext_162 ?_
                  refine h_bipush C dX9_readNext_163 (by decide) ?_
                  refine h_callV (As := [.ref (cy (1000 + 15)), .int (hpI 0), .int (hpI 15)]) (rest := [.int (hpI ((15 + (2 * r314)) + 1)), .ref (z + 201)]) C Z yyX9_toldBy wd_1470 (tgX9_toldBy l D cy z _ 15 (by decide) 0 ⟨by decide, by decide⟩ 15 ⟨by decide, by decide⟩ hI328 (by omega)) kd_195 rfl rfl ⟨rfl, rfl, Nat.le_of_ble_eq_true rfl, Nat.le_of_ble_eq_true rfl⟩ ⟨Nat.le_of_ble_eq_true rfl, Nat.le_of_ble_eq_true rfl⟩ (Nat.le_of_ble_eq_true rfl) dX9_readNext_165 (fun r329 τ329 hp329 => ?_)
                  obtain ⟨⟨x329, rfl, ⟨hx329a, hx329b⟩, hx329⟩, hI329, hG329⟩ := hp329
                  have hF329 : ∀ j i : Nat, (j ≠ 195 ∨ (i ≠ 8 ∧ i ≠ 9 ∧ i ≠ 10 ∧ i ≠ 11 ∧ i ≠ 12 ∧ i ≠ 13)) → (j ≠ 201 ∨ i = 6) → τ329 j i = σ j i := fun j i h_0 h_1 => (hG329 j i (by omega)).trans (hF328 j i h_0 h_1)
                  show hpV _ _ _ _ _ _ _ _ _ _ _ _ _ _ _ _ _ _ _ _ _ (_ :: _)
                  refine h_iastore C dX9_readNext_168 kd_201 ((15 + (2 * r314)) + 1).toNat (Int.toNat_of_nonneg (by omega)) (by rw [ln_201]; omega) ?_
                  obtain ⟨τ330, e330⟩ : ∃ μ : hpMem, μ = hpw τ329 201 (((15 + (2 * r314)) + 1).toNat) x329 := ⟨_, rfl⟩
                  rw [← e330]
                  have hI330 : hpInv τ330 := by rw [e330]; exact hpInv.w201 hI329 (((15 + (2 * r314)) + 1).toNat) 16 26 (0) 20 (by omega) (by omega) (by decide) (by omega) (by omega)
                  have hF330 : ∀ j i : Nat, (j ≠ 195 ∨ (i ≠ 8 ∧ i ≠ 9 ∧ i ≠ 10 ∧ i ≠ 11 ∧ i ≠ 12 ∧ i ≠ 13)) → (j ≠ 201 ∨ i = 6) → τ330 j i = σ j i := fun j i h_0 h_1 => by rw [e330]; exact (hpw_fr (by omega)).trans (hF329 j i h_0 h_1)
                  refine h_aload_n C dX9_readNext_169 1 rfl rfl ?_
                  refine h_get C O9 14 kd_195 (by decide) wd_1270 dX9_readNext_170 fr_195_14 ?_
                  refine h_iconst C dX9_readNext_173 ?_
                  refine h_dup2 C rfl rfl dX9_readNext_174 ?_
                  refine h_iaload C dX9_readNext_175 kd_201 4 rfl (by rw [ln_201]; decide) rfl ?_
                  obtain ⟨hr331a, hr331b⟩ := hI330.b ((bw_201 4).trans (show hpwb 4 = (0, 6) by decide))
                  generalize hg331 : τ330 201 4 = r331 at hr331a hr331b ⊢
                  refine h_iconst C dX9_readNext_176 ?_
                  refine h_iadd C dX9_readNext_177 rfl ?_
                  refine h_iastore C dX9_readNext_178 kd_201 4 rfl (by rw [ln_201]; decide) ?_
                  obtain ⟨τ332, e332⟩ : ∃ μ : hpMem, μ = hpw τ330 201 4 (r331 + 1) := ⟨_, rfl⟩
                  rw [← e332]
                  have hI332 : hpInv τ332 := by rw [e332]; exact hI330.w ((bw_201 4).trans (show hpwb 4 = (0, 6) by decide)) (by omega) (by omega)
                  have hF332 : ∀ j i : Nat, (j ≠ 195 ∨ (i ≠ 8 ∧ i ≠ 9 ∧ i ≠ 10 ∧ i ≠ 11 ∧ i ≠ 12 ∧ i ≠ 13)) → (j ≠ 201 ∨ i = 6) → τ332 j i = σ j i := fun j i h_0 h_1 => by rw [e332]; exact (hpw_fr (by omega)).trans (hF330 j i h_0 h_1)
                  have hg333 : τ332 201 4 = r331 + 1 := by rw [e332]; exact hpw_eq
                  refine h_return C hr hlk dX9_readNext_179 ?_
                  exact ⟨rfl, hI332, hF332, fun _ => by omega⟩
                · refine h_aload_n C dX9_readNext_85 0 rfl rfl ?_
                  refine h_get C O9 14 kd_195 (by decide) wd_1270 dX9_readNext_86 fr_195_14 ?_
                  refine h_bipush C dX9_readNext_89 (by decide) ?_
                  refine h_aload_n C dX9_readNext_91 0 rfl rfl ?_
                  refine h_get C O9 14 kd_195 (by decide) wd_1270 dX9_readNext_92 fr_195_14 ?_
                  refine h_iconst C dX9_readNext_95 ?_
                  refine h_iaload C dX9_readNext_96 kd_201 3 rfl (by rw [ln_201]; decide) rfl ?_
                  rw [hg319]
                  refine h_iadd C dX9_readNext_97 rfl ?_
                  refine h_aload_n C dX9_readNext_98 0 rfl rfl ?_
                  refine h_ldcS (i := 14) C Z (by decide) rfl dX9_readNext_99 ?_
                  refine h_iconst C dX9_readNext_101 ?_
                  refine h_bipush C dX9_readNext_102 (by decide) ?_
                  refine h_callV (As := [.ref (cy (1000 + 14)), .int (hpI 1), .int (hpI 20)]) (rest := [.int (hpI (7 + r262)), .ref (z + 201)]) C Z yyX9_toldBy wd_1470 (tgX9_toldBy l D cy z _ 14 (by decide) 1 ⟨by decide, by decide⟩ 20 ⟨by decide, by decide⟩ hI318 (by omega)) kd_195 rfl rfl ⟨rfl, rfl, Nat.le_of_ble_eq_true rfl, Nat.le_of_ble_eq_true rfl⟩ ⟨Nat.le_of_ble_eq_true rfl, Nat.le_of_ble_eq_true rfl⟩ (Nat.le_of_ble_eq_true rfl) dX9_readNext_104 (fun r334 τ334 hp334 => ?_)
                  obtain ⟨⟨x334, rfl, ⟨hx334a, hx334b⟩, hx334⟩, hI334, hG334⟩ := hp334
                  have hF334 : ∀ j i : Nat, (j ≠ 195 ∨ (i ≠ 8 ∧ i ≠ 9 ∧ i ≠ 10 ∧ i ≠ 11 ∧ i ≠ 12 ∧ i ≠ 13)) → (j ≠ 201 ∨ i = 6) → τ334 j i = σ j i := fun j i h_0 h_1 => (hG334 j i (by omega)).trans (hF318 j i h_0 h_1)
                  have hg335 : τ334 201 3 = r262 := (hG334 201 3 (by omega)).trans hg319
                  have hg336 : τ334 201 4 = r314 := (hG334 201 4 (by omega)).trans hg320
                  show hpV _ _ _ _ _ _ _ _ _ _ _ _ _ _ _ _ _ _ _ _ _ (_ :: _)
                  refine h_iastore C dX9_readNext_107 kd_201 (7 + r262).toNat (Int.toNat_of_nonneg (by omega)) (by rw [ln_201]; omega) ?_
                  obtain ⟨τ337, e337⟩ : ∃ μ : hpMem, μ = hpw τ334 201 ((7 + r262).toNat) x334 := ⟨_, rfl⟩
                  rw [← e337]
                  have hI337 : hpInv τ337 := by rw [e337]; exact hpInv.w201 hI334 ((7 + r262).toNat) 7 14 (0) 20 (by omega) (by omega) (by decide) (by omega) (by omega)
                  have hF337 : ∀ j i : Nat, (j ≠ 195 ∨ (i ≠ 8 ∧ i ≠ 9 ∧ i ≠ 10 ∧ i ≠ 11 ∧ i ≠ 12 ∧ i ≠ 13)) → (j ≠ 201 ∨ i = 6) → τ337 j i = σ j i := fun j i h_0 h_1 => by rw [e337]; exact (hpw_fr (by omega)).trans (hF334 j i h_0 h_1)
                  refine h_aload_n C dX9_readNext_108 0 rfl rfl ?_
                  refine h_get C O9 14 kd_195 (by decide) wd_1270 dX9_readNext_109 fr_195_14 ?_
                  refine h_iconst C dX9_readNext_112 ?_
                  refine h_dup2 C rfl rfl dX9_readNext_113 ?_
                  refine h_iaload C dX9_readNext_114 kd_201 3 rfl (by rw [ln_201]; decide) rfl ?_
                  obtain ⟨hr338a, hr338b⟩ := hI337.b ((bw_201 3).trans (show hpwb 3 = (0, 8) by decide))
                  generalize hg338 : τ337 201 3 = r338 at hr338a hr338b ⊢
                  refine h_iconst C dX9_readNext_115 ?_
                  refine h_iadd C dX9_readNext_116 rfl ?_
                  refine h_iastore C dX9_readNext_117 kd_201 3 rfl (by rw [ln_201]; decide) ?_
                  obtain ⟨τ339, e339⟩ : ∃ μ : hpMem, μ = hpw τ337 201 3 (r338 + 1) := ⟨_, rfl⟩
                  rw [← e339]
                  have hI339 : hpInv τ339 := by rw [e339]; exact hI337.w ((bw_201 3).trans (show hpwb 3 = (0, 8) by decide)) (by omega) (by omega)
                  have hF339 : ∀ j i : Nat, (j ≠ 195 ∨ (i ≠ 8 ∧ i ≠ 9 ∧ i ≠ 10 ∧ i ≠ 11 ∧ i ≠ 12 ∧ i ≠ 13)) → (j ≠ 201 ∨ i = 6) → τ339 j i = σ j i := fun j i h_0 h_1 => by rw [e339]; exact (hpw_fr (by omega)).trans (hF337 j i h_0 h_1)
                  have hg340 : τ339 201 3 = r338 + 1 := by rw [e339]; exact hpw_eq
                  refine h_goto (tgt := 179) C dX9_readNext_118 (by decide) ?_
                  refine h_return C hr hlk dX9_readNext_179 ?_
                  exact ⟨rfl, hI339, hF339, fun _ => by omega⟩
              · refine h_return C hr hlk dX9_readNext_75 ?_
                exact ⟨rfl, hI, hF0, by omega⟩
            · refine h_aload_n C dX9_readNext_63 0 rfl rfl ?_
              refine h_iconst C dX9_readNext_64 ?_
              refine h_callV (As := [.int (hpI 3)]) (rest := []) C Z yyX9_errs wd_1465 (tgX9_errs l D cy z _ 3 ⟨by decide, by decide⟩ hI (by omega)) kd_195 rfl rfl ⟨rfl, rfl, Nat.le_of_ble_eq_true rfl, Nat.le_of_ble_eq_true rfl⟩ ⟨Nat.le_of_ble_eq_true rfl, Nat.le_of_ble_eq_true rfl⟩ (Nat.le_of_ble_eq_true rfl) dX9_readNext_65 (fun r341 τ341 hp341 => ?_)
              obtain ⟨rfl, hI341, hG341, hq341_0⟩ := hp341
              have hF341 : ∀ j i : Nat, (j ≠ 195 ∨ (i ≠ 8 ∧ i ≠ 9 ∧ i ≠ 10 ∧ i ≠ 11 ∧ i ≠ 12 ∧ i ≠ 13)) → (j ≠ 201 ∨ i = 6) → τ341 j i = σ j i := fun j i h_0 h_1 => (hG341 j i (by omega)).trans (hF0 j i h_0 h_1)
              have hg342 : τ341 201 3 = r262 := (hG341 201 3 (by omega)).trans hg262
              have hg343 : τ341 201 4 = r314 := (hG341 201 4 (by omega)).trans hg314
              show hpV _ _ _ _ _ _ _ _ _ _ _ _ _ _ _ _ _ _ _ _ _ []
              refine h_aload_n C dX9_readNext_68 0 rfl rfl ?_
              refine h_callV (As := []) (rest := []) C Z yyX9_good wd_1438 (tgX9_good l D cy z _ hI341) kd_195 rfl rfl ⟨rfl, rfl, Nat.le_of_ble_eq_true rfl, Nat.le_of_ble_eq_true rfl⟩ ⟨Nat.le_of_ble_eq_true rfl, Nat.le_of_ble_eq_true rfl⟩ (Nat.le_of_ble_eq_true rfl) dX9_readNext_69 (fun r344 τ344 hp344 => ?_)
              obtain ⟨⟨x344, rfl, ⟨hx344a, hx344b⟩, hx344⟩, rfl⟩ := hp344
              show hpV _ _ _ _ _ _ _ _ _ _ _ _ _ _ _ _ _ _ _ _ _ (_ :: _)
              refine h_if_ne (tgt := 76) C dX9_readNext_72 (by decide) ⟨by omega, by omega⟩ (fun h345 => ?_) (fun h345 => ?_)
              · refine h_aload_n C dX9_readNext_76 0 rfl rfl ?_
                refine h_ldcS (i := 12) C Z (by decide) rfl dX9_readNext_77 ?_
                refine h_callV (As := [.ref (cy (1000 + 12))]) (rest := []) C Z yyX9_takes wd_1455 (tgX9_takes l D cy z _ 12 (by decide) hI341) kd_195 rfl rfl ⟨rfl, rfl, Nat.le_of_ble_eq_true rfl, Nat.le_of_ble_eq_true rfl⟩ ⟨Nat.le_of_ble_eq_true rfl, Nat.le_of_ble_eq_true rfl⟩ (Nat.le_of_ble_eq_true rfl) dX9_readNext_79 (fun r346 τ346 hp346 => ?_)
                obtain ⟨⟨x346, rfl, ⟨hx346a, hx346b⟩, hx346⟩, hI346, hG346⟩ := hp346
                have hF346 : ∀ j i : Nat, (j ≠ 195 ∨ (i ≠ 8 ∧ i ≠ 9 ∧ i ≠ 10 ∧ i ≠ 11 ∧ i ≠ 12 ∧ i ≠ 13)) → (j ≠ 201 ∨ i = 6) → τ346 j i = σ j i := fun j i h_0 h_1 => (hG346 j i (by omega)).trans (hF341 j i h_0 h_1)
                have hg347 : τ346 201 3 = r262 := (hG346 201 3 (by omega)).trans hg342
                have hg348 : τ346 201 4 = r314 := (hG346 201 4 (by omega)).trans hg343
                show hpV _ _ _ _ _ _ _ _ _ _ _ _ _ _ _ _ _ _ _ _ _ (_ :: _)
                refine h_if_eq (tgt := 121) C dX9_readNext_82 (by decide) ⟨by omega, by omega⟩ (fun h349 => ?_) (fun h349 => ?_)
                · refine h_aload_n C dX9_readNext_121 0 rfl rfl ?_
                  refine h_callV (As := []) (rest := []) C Z yyX9_advance wd_1424 (tgX9_advance l D cy z _ hI346) kd_195 rfl rfl ⟨rfl, rfl, Nat.le_of_ble_eq_true rfl, Nat.le_of_ble_eq_true rfl⟩ ⟨Nat.le_of_ble_eq_true rfl, Nat.le_of_ble_eq_true rfl⟩ (Nat.le_of_ble_eq_true rfl) dX9_readNext_122 (fun r350 τ350 hp350 => ?_)
                  obtain ⟨rfl, hI350, hG350⟩ := hp350
                  have hF350 : ∀ j i : Nat, (j ≠ 195 ∨ (i ≠ 8 ∧ i ≠ 9 ∧ i ≠ 10 ∧ i ≠ 11 ∧ i ≠ 12 ∧ i ≠ 13)) → (j ≠ 201 ∨ i = 6) → τ350 j i = σ j i := fun j i h_0 h_1 => (hG350 j i (by omega)).trans (hF346 j i h_0 h_1)
                  have hg351 : τ350 201 3 = r262 := (hG350 201 3 (by omega)).trans hg347
                  have hg352 : τ350 201 4 = r314 := (hG350 201 4 (by omega)).trans hg348
                  show hpV _ _ _ _ _ _ _ _ _ _ _ _ _ _ _ _ _ _ _ _ _ []
                  refine h_bipush C dX9_readNext_125 (by decide) ?_
                  refine h_iconst C dX9_readNext_127 ?_
                  refine h_aload_n C dX9_readNext_128 0 rfl rfl ?_
                  refine h_get C O9 14 kd_195 (by decide) wd_1270 dX9_readNext_129 fr_195_14 ?_
                  refine h_iconst C dX9_readNext_132 ?_
                  refine h_iaload C dX9_readNext_133 kd_201 4 rfl (by rw [ln_201]; decide) rfl ?_
                  rw [hg352]
                  refine h_imul C dX9_readNext_134 rfl ?_
                  refine h_iadd C dX9_readNext_135 rfl ?_
                  refine h_istore_n (lv' := [(1, .int (hpI (15 + (2 * r314)))), (0, .ref (z + 195))]) C dX9_readNext_136 rfl (by decide) rfl ?_
                  refine h_aload_n C dX9_readNext_137 1 rfl rfl ?_
                  refine h_get C O9 14 kd_195 (by decide) wd_1270 dX9_readNext_138 fr_195_14 ?_
                  refine h_iload_n C dX9_readNext_141 0 rfl rfl ?_
                  refine h_aload_n C dX9_readNext_142 1 rfl rfl ?_
                  refine h_ldcS (i := 14) C Z (by decide) rfl dX9_readNext_143 ?_
                  refine h_iconst C dX9_readNext_145 ?_
                  refine h_bipush C dX9_readNext_146 (by decide) ?_
                  refine h_callV (As := [.ref (cy (1000 + 14)), .int (hpI 1), .int (hpI 20)]) (rest := [.int (hpI (15 + (2 * r314))), .ref (z + 201)]) C Z yyX9_toldBy wd_1470 (tgX9_toldBy l D cy z _ 14 (by decide) 1 ⟨by decide, by decide⟩ 20 ⟨by decide, by decide⟩ hI350 (by omega)) kd_195 rfl rfl ⟨rfl, rfl, Nat.le_of_ble_eq_true rfl, Nat.le_of_ble_eq_true rfl⟩ ⟨Nat.le_of_ble_eq_true rfl, Nat.le_of_ble_eq_true rfl⟩ (Nat.le_of_ble_eq_true rfl) dX9_readNext_148 (fun r353 τ353 hp353 => ?_)
                  obtain ⟨⟨x353, rfl, ⟨hx353a, hx353b⟩, hx353⟩, hI353, hG353⟩ := hp353
                  have hF353 : ∀ j i : Nat, (j ≠ 195 ∨ (i ≠ 8 ∧ i ≠ 9 ∧ i ≠ 10 ∧ i ≠ 11 ∧ i ≠ 12 ∧ i ≠ 13)) → (j ≠ 201 ∨ i = 6) → τ353 j i = σ j i := fun j i h_0 h_1 => (hG353 j i (by omega)).trans (hF350 j i h_0 h_1)
                  have hg354 : τ353 201 3 = r262 := (hG353 201 3 (by omega)).trans hg351
                  have hg355 : τ353 201 4 = r314 := (hG353 201 4 (by omega)).trans hg352
                  show hpV _ _ _ _ _ _ _ _ _ _ _ _ _ _ _ _ _ _ _ _ _ (_ :: _)
                  refine h_iastore C dX9_readNext_151 kd_201 (15 + (2 * r314)).toNat (Int.toNat_of_nonneg (by omega)) (by rw [ln_201]; omega) ?_
                  obtain ⟨τ356, e356⟩ : ∃ μ : hpMem, μ = hpw τ353 201 ((15 + (2 * r314)).toNat) x353 := ⟨_, rfl⟩
                  rw [← e356]
                  have hI356 : hpInv τ356 := by rw [e356]; exact hpInv.w201 hI353 ((15 + (2 * r314)).toNat) 27 27 (0) 2016 (by omega) (by omega) (by decide) (by omega) (by omega)
                  have hF356 : ∀ j i : Nat, (j ≠ 195 ∨ (i ≠ 8 ∧ i ≠ 9 ∧ i ≠ 10 ∧ i ≠ 11 ∧ i ≠ 12 ∧ i ≠ 13)) → (j ≠ 201 ∨ i = 6) → τ356 j i = σ j i := fun j i h_0 h_1 => by rw [e356]; exact (hpw_fr (by omega)).trans (hF353 j i h_0 h_1)
                  refine h_aload_n C dX9_readNext_152 1 rfl rfl ?_
                  refine h_get C O9 14 kd_195 (by decide) wd_1270 dX9_readNext_153 fr_195_14 ?_
                  refine h_iload_n C dX9_readNext_156 0 rfl rfl ?_
                  refine h_iconst C dX9_readNext_157 ?_
                  refine h_iadd C dX9_readNext_158 rfl ?_
                  refine h_aload_n C dX9_readNext_159 1 rfl rfl ?_
                  refine h_ldcS (i := 15) C Z (by decide) rfl dX9_readNext_160 ?_
                  refine h_iconst C dX9_readNext_162 ?_
                  refine h_bipush C dX9_readNext_163 (by decide) ?_
                  refine h_callV (As := [.ref (cy (1000 + 15)), .int (hpI 0), .int (hpI 15)]) (rest := [.int (hpI ((15 + (2 * r314)) + 1)), .ref (z + 201)]) C Z yyX9_toldBy wd_1470 (tgX9_toldBy l D cy z _ 15 (by decide) 0 ⟨by decide, by decide⟩ 15 ⟨by decide, by decide⟩ hI356 (by omega)) kd_195 rfl rfl ⟨rfl, rfl, Nat.le_of_ble_eq_true rfl, Nat.le_of_ble_eq_true rfl⟩ ⟨Nat.le_of_ble_eq_true rfl, Nat.le_of_ble_eq_true rfl⟩ (Nat.le_of_ble_eq_true rfl) dX9_readNext_165 (fun r357 τ357 hp357 => ?_)
                  obtain ⟨⟨x357, rfl, ⟨hx357a, hx357b⟩, hx357⟩, hI357, hG357⟩ := hp357
                  have hF357 : ∀ j i : Nat, (j ≠ 195 ∨ (i ≠ 8 ∧ i ≠ 9 ∧ i ≠ 10 ∧ i ≠ 11 ∧ i ≠ 12 ∧ i ≠ 13)) → (j ≠ 201 ∨ i = 6) → τ357 j i = σ j i := fun j i h_0 h_1 => (hG357 j i (by omega)).trans (hF356 j i h_0 h_1)
                  show hpV _ _ _ _ _ _ _ _ _ _ _ _ _ _ _ _ _ _ _ _ _ (_ :: _)
                  refine h_iastore C dX9_readNext_168 kd_201 ((15 + (2 * r314)) + 1).toNat (Int.toNat_of_nonneg (by omega)) (by rw [ln_201]; omega) ?_
                  obtain ⟨τ358, e358⟩ : ∃ μ : hpMem, μ = hpw τ357 201 (((15 + (2 * r314)) + 1).toNat) x357 := ⟨_, rfl⟩
                  rw [← e358]
                  have hI358 : hpInv τ358 := by rw [e358]; exact hpInv.w201 hI357 (((15 + (2 * r314)) + 1).toNat) 28 28 (0) 2016 (by omega) (by omega) (by decide) (by omega) (by omega)
                  have hF358 : ∀ j i : Nat, (j ≠ 195 ∨ (i ≠ 8 ∧ i ≠ 9 ∧ i ≠ 10 ∧ i ≠ 11 ∧ i ≠ 12 ∧ i ≠ 13)) → (j ≠ 201 ∨ i = 6) → τ358 j i = σ j i := fun j i h_0 h_1 => by rw [e358]; exact (hpw_fr (by omega)).trans (hF357 j i h_0 h_1)
                  refine h_aload_n C dX9_readNext_169 1 rfl rfl ?_
                  refine h_get C O9 14 kd_195 (by decide) wd_1270 dX9_readNext_170 fr_195_14 ?_
                  refine h_iconst C dX9_readNext_173 ?_
                  refine h_dup2 C rfl rfl dX9_readNext_174 ?_
                  refine h_iaload C dX9_readNext_175 kd_201 4 rfl (by rw [ln_201]; decide) rfl ?_
                  obtain ⟨hr359a, hr359b⟩ := hI358.b ((bw_201 4).trans (show hpwb 4 = (0, 6) by decide))
                  generalize hg359 : τ358 201 4 = r359 at hr359a hr359b ⊢
                  refine h_iconst C dX9_readNext_176 ?_
                  refine h_iadd C dX9_readNext_177 rfl ?_
                  refine h_iastore C dX9_readNext_178 kd_201 4 rfl (by rw [ln_201]; decide) ?_
                  obtain ⟨τ360, e360⟩ : ∃ μ : hpMem, μ = hpw τ358 201 4 (r359 + 1) := ⟨_, rfl⟩
                  rw [← e360]
                  have hI360 : hpInv τ360 := by rw [e360]; exact hI358.w ((bw_201 4).trans (show hpwb 4 = (0, 6) by decide)) (by omega) (by omega)
                  have hF360 : ∀ j i : Nat, (j ≠ 195 ∨ (i ≠ 8 ∧ i ≠ 9 ∧ i ≠ 10 ∧ i ≠ 11 ∧ i ≠ 12 ∧ i ≠ 13)) → (j ≠ 201 ∨ i = 6) → τ360 j i = σ j i := fun j i h_0 h_1 => by rw [e360]; exact (hpw_fr (by omega)).trans (hF358 j i h_0 h_1)
                  have hg361 : τ360 201 4 = r359 + 1 := by rw [e360]; exact hpw_eq
                  refine h_return C hr hlk dX9_readNext_179 ?_
                  exact ⟨rfl, hI360, hF360, fun _ => by omega⟩
                · refine h_aload_n C dX9_readNext_85 0 rfl rfl ?_
                  refine h_get C O9 14 kd_195 (by decide) wd_1270 dX9_readNext_86 fr_195_14 ?_
                  refine h_bipush C dX9_readNext_89 (by decide) ?_
                  refine h_aload_n C dX9_readNext_91 0 rfl rfl ?_
                  refine h_get C O9 14 kd_195 (by decide) wd_1270 dX9_readNext_92 fr_195_14 ?_
                  refine h_iconst C dX9_readNext_95 ?_
                  refine h_iaload C dX9_readNext_96 kd_201 3 rfl (by rw [ln_201]; decide) rfl ?_
                  rw [hg347]
                  refine h_iadd C dX9_readNext_97 rfl ?_
                  refine h_aload_n C dX9_readNext_98 0 rfl rfl ?_
                  refine h_ldcS (i := 14) C Z (by decide) rfl dX9_readNext_99 ?_
                  refine h_iconst C dX9_readNext_101 ?_
                  refine h_bipush C dX9_readNext_102 (by decide) ?_
                  refine h_callV (As := [.ref (cy (1000 + 14)), .int (hpI 1), .int (hpI 20)]) (rest := [.int (hpI (7 + r262)), .ref (z + 201)]) C Z yyX9_toldBy wd_1470 (tgX9_toldBy l D cy z _ 14 (by decide) 1 ⟨by decide, by decide⟩ 20 ⟨by decide, by decide⟩ hI346 (by omega)) kd_195 rfl rfl ⟨rfl, rfl, Nat.le_of_ble_eq_true rfl, Nat.le_of_ble_eq_true rfl⟩ ⟨Nat.le_of_ble_eq_true rfl, Nat.le_of_ble_eq_true rfl⟩ (Nat.le_of_ble_eq_true rfl) dX9_readNext_104 (fun r362 τ362 hp362 => ?_)
                  obtain ⟨⟨x362, rfl, ⟨hx362a, hx362b⟩, hx362⟩, hI362, hG362⟩ := hp362
                  have hF362 : ∀ j i : Nat, (j ≠ 195 ∨ (i ≠ 8 ∧ i ≠ 9 ∧ i ≠ 10 ∧ i ≠ 11 ∧ i ≠ 12 ∧ i ≠ 13)) → (j ≠ 201 ∨ i = 6) → τ362 j i = σ j i := fun j i h_0 h_1 => (hG362 j i (by omega)).trans (hF346 j i h_0 h_1)
                  have hg363 : τ362 201 3 = r262 := (hG362 201 3 (by omega)).trans hg347
                  have hg364 : τ362 201 4 = r314 := (hG362 201 4 (by omega)).trans hg348
                  show hpV _ _ _ _ _ _ _ _ _ _ _ _ _ _ _ _ _ _ _ _ _ (_ :: _)
                  refine h_iastore C dX9_readNext_107 kd_201 (7 + r262).toNat (Int.toNat_of_nonneg (by omega)) (by rw [ln_201]; omega) ?_
                  obtain ⟨τ365, e365⟩ : ∃ μ : hpMem, μ = hpw τ362 201 ((7 + r262).toNat) x362 := ⟨_, rfl⟩
                  rw [← e365]
                  have hI365 : hpInv τ365 := by rw [e365]; exact hpInv.w201 hI362 ((7 + r262).toNat) 7 14 (0) 20 (by omega) (by omega) (by decide) (by omega) (by omega)
                  have hF365 : ∀ j i : Nat, (j ≠ 195 ∨ (i ≠ 8 ∧ i ≠ 9 ∧ i ≠ 10 ∧ i ≠ 11 ∧ i ≠ 12 ∧ i ≠ 13)) → (j ≠ 201 ∨ i = 6) → τ365 j i = σ j i := fun j i h_0 h_1 => by rw [e365]; exact (hpw_fr (by omega)).trans (hF362 j i h_0 h_1)
                  refine h_aload_n C dX9_readNext_108 0 rfl rfl ?_
                  refine h_get C O9 14 kd_195 (by decide) wd_1270 dX9_readNext_109 fr_195_14 ?_
                  refine h_iconst C dX9_readNext_112 ?_
                  refine h_dup2 C rfl rfl dX9_readNext_113 ?_
                  refine h_iaload C dX9_readNext_114 kd_201 3 rfl (by rw [ln_201]; decide) rfl ?_
                  obtain ⟨hr366a, hr366b⟩ := hI365.b ((bw_201 3).trans (show hpwb 3 = (0, 8) by decide))
                  generalize hg366 : τ365 201 3 = r366 at hr366a hr366b ⊢
                  refine h_iconst C dX9_readNext_115 ?_
                  refine h_iadd C dX9_readNext_116 rfl ?_
                  refine h_iastore C dX9_readNext_117 kd_201 3 rfl (by rw [ln_201]; decide) ?_
                  obtain ⟨τ367, e367⟩ : ∃ μ : hpMem, μ = hpw τ365 201 3 (r366 + 1) := ⟨_, rfl⟩
                  rw [← e367]
                  have hI367 : hpInv τ367 := by rw [e367]; exact hI365.w ((bw_201 3).trans (show hpwb 3 = (0, 8) by decide)) (by omega) (by omega)
                  have hF367 : ∀ j i : Nat, (j ≠ 195 ∨ (i ≠ 8 ∧ i ≠ 9 ∧ i ≠ 10 ∧ i ≠ 11 ∧ i ≠ 12 ∧ i ≠ 13)) → (j ≠ 201 ∨ i = 6) → τ367 j i = σ j i := fun j i h_0 h_1 => by rw [e367]; exact (hpw_fr (by omega)).trans (hF365 j i h_0 h_1)
                  have hg368 : τ367 201 3 = r366 + 1 := by rw [e367]; exact hpw_eq
                  refine h_goto (tgt := 179) C dX9_readNext_118 (by decide) ?_
                  refine h_return C hr hlk dX9_readNext_179 ?_
                  exact ⟨rfl, hI367, hF367, fun _ => by omega⟩
              · refine h_return C hr hlk dX9_readNext_75 ?_
                exact ⟨rfl, hI341, hF341, by omega⟩
    · refine h_aload_n C dX9_readNext_18 0 rfl rfl ?_
      refine h_iconst C dX9_readNext_19 ?_
      refine h_callV (As := [.int (hpI 1)]) (rest := []) C Z yyX9_errs wd_1465 (tgX9_errs l D cy z _ 1 ⟨by decide, by decide⟩ hI (by omega)) kd_195 rfl rfl ⟨rfl, rfl, Nat.le_of_ble_eq_true rfl, Nat.le_of_ble_eq_true rfl⟩ ⟨Nat.le_of_ble_eq_true rfl, Nat.le_of_ble_eq_true rfl⟩ (Nat.le_of_ble_eq_true rfl) dX9_readNext_20 (fun r369 τ369 hp369 => ?_)
      obtain ⟨rfl, hI369, hG369, hq369_0⟩ := hp369
      have hF369 : ∀ j i : Nat, (j ≠ 195 ∨ (i ≠ 8 ∧ i ≠ 9 ∧ i ≠ 10 ∧ i ≠ 11 ∧ i ≠ 12 ∧ i ≠ 13)) → (j ≠ 201 ∨ i = 6) → τ369 j i = σ j i := fun j i h_0 h_1 => (hG369 j i (by omega)).trans (hF0 j i h_0 h_1)
      show hpV _ _ _ _ _ _ _ _ _ _ _ _ _ _ _ _ _ _ _ _ _ []
      refine h_aload_n C dX9_readNext_23 0 rfl rfl ?_
      refine h_ldcS (i := 12) C Z (by decide) rfl dX9_readNext_24 ?_
      refine h_callV (As := [.ref (cy (1000 + 12))]) (rest := []) C Z yyX9_is wd_1459 (tgX9_is l D cy z _ 12 (by decide) hI369) kd_195 rfl rfl ⟨rfl, rfl, Nat.le_of_ble_eq_true rfl, Nat.le_of_ble_eq_true rfl⟩ ⟨Nat.le_of_ble_eq_true rfl, Nat.le_of_ble_eq_true rfl⟩ (Nat.le_of_ble_eq_true rfl) dX9_readNext_26 (fun r370 τ370 hp370 => ?_)
      obtain ⟨⟨x370, rfl, ⟨hx370a, hx370b⟩, hx370⟩, rfl⟩ := hp370
      show hpV _ _ _ _ _ _ _ _ _ _ _ _ _ _ _ _ _ _ _ _ _ (_ :: _)
      refine h_if_eq (tgt := 43) C dX9_readNext_29 (by decide) ⟨by omega, by omega⟩ (fun h371 => ?_) (fun h371 => ?_)
      · refine h_aload_n C dX9_readNext_43 0 rfl rfl ?_
        refine h_ldcS (i := 13) C Z (by decide) rfl dX9_readNext_44 ?_
        refine h_callV (As := [.ref (cy (1000 + 13))]) (rest := []) C Z yyX9_is wd_1459 (tgX9_is l D cy z _ 13 (by decide) hI369) kd_195 rfl rfl ⟨rfl, rfl, Nat.le_of_ble_eq_true rfl, Nat.le_of_ble_eq_true rfl⟩ ⟨Nat.le_of_ble_eq_true rfl, Nat.le_of_ble_eq_true rfl⟩ (Nat.le_of_ble_eq_true rfl) dX9_readNext_46 (fun r372 τ372 hp372 => ?_)
        obtain ⟨⟨x372, rfl, ⟨hx372a, hx372b⟩, hx372⟩, rfl⟩ := hp372
        show hpV _ _ _ _ _ _ _ _ _ _ _ _ _ _ _ _ _ _ _ _ _ (_ :: _)
        refine h_if_eq (tgt := 68) C dX9_readNext_49 (by decide) ⟨by omega, by omega⟩ (fun h373 => ?_) (fun h373 => ?_)
        · refine h_aload_n C dX9_readNext_68 0 rfl rfl ?_
          refine h_callV (As := []) (rest := []) C Z yyX9_good wd_1438 (tgX9_good l D cy z _ hI369) kd_195 rfl rfl ⟨rfl, rfl, Nat.le_of_ble_eq_true rfl, Nat.le_of_ble_eq_true rfl⟩ ⟨Nat.le_of_ble_eq_true rfl, Nat.le_of_ble_eq_true rfl⟩ (Nat.le_of_ble_eq_true rfl) dX9_readNext_69 (fun r374 τ374 hp374 => ?_)
          obtain ⟨⟨x374, rfl, ⟨hx374a, hx374b⟩, hx374⟩, rfl⟩ := hp374
          show hpV _ _ _ _ _ _ _ _ _ _ _ _ _ _ _ _ _ _ _ _ _ (_ :: _)
          refine h_if_ne (tgt := 76) C dX9_readNext_72 (by decide) ⟨by omega, by omega⟩ (fun h375 => ?_) (fun h375 => ?_)
          · refine h_aload_n C dX9_readNext_76 0 rfl rfl ?_
            refine h_ldcS (i := 12) C Z (by decide) rfl dX9_readNext_77 ?_
            refine h_callV (As := [.ref (cy (1000 + 12))]) (rest := []) C Z yyX9_takes wd_1455 (tgX9_takes l D cy z _ 12 (by decide) hI369) kd_195 rfl rfl ⟨rfl, rfl, Nat.le_of_ble_eq_true rfl, Nat.le_of_ble_eq_true rfl⟩ ⟨Nat.le_of_ble_eq_true rfl, Nat.le_of_ble_eq_true rfl⟩ (Nat.le_of_ble_eq_true rfl) dX9_readNext_79 (fun r376 τ376 hp376 => ?_)
            obtain ⟨⟨x376, rfl, ⟨hx376a, hx376b⟩, hx376⟩, hI376, hG376⟩ := hp376
            have hF376 : ∀ j i : Nat, (j ≠ 195 ∨ (i ≠ 8 ∧ i ≠ 9 ∧ i ≠ 10 ∧ i ≠ 11 ∧ i ≠ 12 ∧ i ≠ 13)) → (j ≠ 201 ∨ i = 6) → τ376 j i = σ j i := fun j i h_0 h_1 => (hG376 j i (by omega)).trans (hF369 j i h_0 h_1)
            show hpV _ _ _ _ _ _ _ _ _ _ _ _ _ _ _ _ _ _ _ _ _ (_ :: _)
            refine h_if_eq (tgt := 121) C dX9_readNext_82 (by decide) ⟨by omega, by omega⟩ (fun h377 => ?_) (fun h377 => ?_)
            · refine h_aload_n C dX9_readNext_121 0 rfl rfl ?_
              refine h_callV (As := []) (rest := []) C Z yyX9_advance wd_1424 (tgX9_advance l D cy z _ hI376) kd_195 rfl rfl ⟨rfl, rfl, Nat.le_of_ble_eq_true rfl, Nat.le_of_ble_eq_true rfl⟩ ⟨Nat.le_of_ble_eq_true rfl, Nat.le_of_ble_eq_true rfl⟩ (Nat.le_of_ble_eq_true rfl) dX9_readNext_122 (fun r378 τ378 hp378 => ?_)
              obtain ⟨rfl, hI378, hG378⟩ := hp378
              have hF378 : ∀ j i : Nat, (j ≠ 195 ∨ (i ≠ 8 ∧ i ≠ 9 ∧ i ≠ 10 ∧ i ≠ 11 ∧ i ≠ 12 ∧ i ≠ 13)) → (j ≠ 201 ∨ i = 6) → τ378 j i = σ j i := fun j i h_0 h_1 => (hG378 j i (by omega)).trans (hF376 j i h_0 h_1)
              show hpV _ _ _ _ _ _ _ _ _ _ _ _ _ _ _ _ _ _ _ _ _ []
              refine h_bipush C dX9_readNext_125 (by decide) ?_
              refine h_iconst C dX9_readNext_127 ?_
              refine h_aload_n C dX9_readNext_128 0 rfl rfl ?_
              refine h_get C O9 14 kd_195 (by decide) wd_1270 dX9_readNext_129 fr_195_14 ?_
              refine h_iconst C dX9_readNext_132 ?_
              refine h_iaload C dX9_readNext_133 kd_201 4 rfl (by rw [ln_201]; decide) rfl ?_
              obtain ⟨hr379a, hr379b⟩ := hI378.b ((bw_201 4).trans (show hpwb 4 = (0, 6) by decide))
              generalize hg379 : τ378 201 4 = r379 at hr379a hr379b ⊢
              refine h_imul C dX9_readNext_134 rfl ?_
              refine h_iadd C dX9_readNext_135 rfl ?_
              refine h_istore_n (lv' := [(1, .int (hpI (15 + (2 * r379)))), (0, .ref (z + 195))]) C dX9_readNext_136 rfl (by decide) rfl ?_
              refine h_aload_n C dX9_readNext_137 1 rfl rfl ?_
              refine h_get C O9 14 kd_195 (by decide) wd_1270 dX9_readNext_138 fr_195_14 ?_
              refine h_iload_n C dX9_readNext_141 0 rfl rfl ?_
              refine h_aload_n C dX9_readNext_142 1 rfl rfl ?_
              refine h_ldcS (i := 14) C Z (by decide) rfl dX9_readNext_143 ?_
              refine h_iconst C dX9_readNext_145 ?_
              refine h_bipush C dX9_readNext_146 (by decide) ?_
              refine h_callV (As := [.ref (cy (1000 + 14)), .int (hpI 1), .int (hpI 20)]) (rest := [.int (hpI (15 + (2 * r379))), .ref (z + 201)]) C Z yyX9_toldBy wd_1470 (tgX9_toldBy l D cy z _ 14 (by decide) 1 ⟨by decide, by decide⟩ 20 ⟨by decide, by decide⟩ hI378 (by omega)) kd_195 rfl rfl ⟨rfl, rfl, Nat.le_of_ble_eq_true rfl, Nat.le_of_ble_eq_true rfl⟩ ⟨Nat.le_of_ble_eq_true rfl, Nat.le_of_ble_eq_true rfl⟩ (Nat.le_of_ble_eq_true rfl) dX9_readNext_148 (fun r380 τ380 hp380 => ?_)
              obtain ⟨⟨x380, rfl, ⟨hx380a, hx380b⟩, hx380⟩, hI380, hG380⟩ := hp380
              have hF380 : ∀ j i : Nat, (j ≠ 195 ∨ (i ≠ 8 ∧ i ≠ 9 ∧ i ≠ 10 ∧ i ≠ 11 ∧ i ≠ 12 ∧ i ≠ 13)) → (j ≠ 201 ∨ i = 6) → τ380 j i = σ j i := fun j i h_0 h_1 => (hG380 j i (by omega)).trans (hF378 j i h_0 h_1)
              have hg381 : τ380 201 4 = r379 := (hG380 201 4 (by omega)).trans hg379
              show hpV _ _ _ _ _ _ _ _ _ _ _ _ _ _ _ _ _ _ _ _ _ (_ :: _)
              refine h_iastore C dX9_readNext_151 kd_201 (15 + (2 * r379)).toNat (Int.toNat_of_nonneg (by omega)) (by rw [ln_201]; omega) ?_
              obtain ⟨τ382, e382⟩ : ∃ μ : hpMem, μ = hpw τ380 201 ((15 + (2 * r379)).toNat) x380 := ⟨_, rfl⟩
              rw [← e382]
              have hI382 : hpInv τ382 := by rw [e382]; exact hpInv.w201 hI380 ((15 + (2 * r379)).toNat) 15 27 (0) 20 (by omega) (by omega) (by decide) (by omega) (by omega)
              have hF382 : ∀ j i : Nat, (j ≠ 195 ∨ (i ≠ 8 ∧ i ≠ 9 ∧ i ≠ 10 ∧ i ≠ 11 ∧ i ≠ 12 ∧ i ≠ 13)) → (j ≠ 201 ∨ i = 6) → τ382 j i = σ j i := fun j i h_0 h_1 => by rw [e382]; exact (hpw_fr (by omega)).trans (hF380 j i h_0 h_1)
              refine h_aload_n C dX9_readNext_152 1 rfl rfl ?_
              refine h_get C O9 14 kd_195 (by decide) wd_1270 dX9_readNext_153 fr_195_14 ?_
              refine h_iload_n C dX9_readNext_156 0 rfl rfl ?_
              refine h_iconst C dX9_readNext_157 ?_
              refine h_iadd C dX9_readNext_158 rfl ?_
              refine h_aload_n C dX9_readNext_159 1 rfl rfl ?_
              refine h_ldcS (i := 15) C Z (by decide) rfl dX9_readNext_160 ?_
              refine h_iconst C dX9_readNext_162 ?_
              refine h_bipush C dX9_readNext_163 (by decide) ?_
              refine h_callV (As := [.ref (cy (1000 + 15)), .int (hpI 0), .int (hpI 15)]) (rest := [.int (hpI ((15 + (2 * r379)) + 1)), .ref (z + 201)]) C Z yyX9_toldBy wd_1470 (tgX9_toldBy l D cy z _ 15 (by decide) 0 ⟨by decide, by decide⟩ 15 ⟨by decide, by decide⟩ hI382 (by omega)) kd_195 rfl rfl ⟨rfl, rfl, Nat.le_of_ble_eq_true rfl, Nat.le_of_ble_eq_true rfl⟩ ⟨Nat.le_of_ble_eq_true rfl, Nat.le_of_ble_eq_true rfl⟩ (Nat.le_of_ble_eq_true rfl) dX9_readNext_165 (fun r383 τ383 hp383 => ?_)
              obtain ⟨⟨x383, rfl, ⟨hx383a, hx383b⟩, hx383⟩, hI383, hG383⟩ := hp383
              have hF383 : ∀ j i : Nat, (j ≠ 195 ∨ (i ≠ 8 ∧ i ≠ 9 ∧ i ≠ 10 ∧ i ≠ 11 ∧ i ≠ 12 ∧ i ≠ 13)) → (j ≠ 201 ∨ i = 6) → τ383 j i = σ j i := fun j i h_0 h_1 => (hG383 j i (by omega)).trans (hF382 j i h_0 h_1)
              show hpV _ _ _ _ _ _ _ _ _ _ _ _ _ _ _ _ _ _ _ _ _ (_ :: _)
              refine h_iastore C dX9_readNext_168 kd_201 ((15 + (2 * r379)) + 1).toNat (Int.toNat_of_nonneg (by omega)) (by rw [ln_201]; omega) ?_
              obtain ⟨τ384, e384⟩ : ∃ μ : hpMem, μ = hpw τ383 201 (((15 + (2 * r379)) + 1).toNat) x383 := ⟨_, rfl⟩
              rw [← e384]
              have hI384 : hpInv τ384 := by rw [e384]; exact hpInv.w201 hI383 (((15 + (2 * r379)) + 1).toNat) 16 28 (0) 20 (by omega) (by omega) (by decide) (by omega) (by omega)
              have hF384 : ∀ j i : Nat, (j ≠ 195 ∨ (i ≠ 8 ∧ i ≠ 9 ∧ i ≠ 10 ∧ i ≠ 11 ∧ i ≠ 12 ∧ i ≠ 13)) → (j ≠ 201 ∨ i = 6) → τ384 j i = σ j i := fun j i h_0 h_1 => by rw [e384]; exact (hpw_fr (by omega)).trans (hF383 j i h_0 h_1)
              refine h_aload_n C dX9_readNext_169 1 rfl rfl ?_
              refine h_get C O9 14 kd_195 (by decide) wd_1270 dX9_readNext_170 fr_195_14 ?_
              refine h_iconst C dX9_readNext_173 ?_
              refine h_dup2 C rfl rfl dX9_readNext_174 ?_
              refine h_iaload C dX9_readNext_175 kd_201 4 rfl (by rw [ln_201]; decide) rfl ?_
              obtain ⟨hr385a, hr385b⟩ := hI384.b ((bw_201 4).trans (show hpwb 4 = (0, 6) by decide))
              generalize hg385 : τ384 201 4 = r385 at hr385a hr385b ⊢
              refine h_iconst C dX9_readNext_176 ?_
              refine h_iadd C dX9_readNext_177 rfl ?_
              refine h_iastore C dX9_readNext_178 kd_201 4 rfl (by rw [ln_201]; decide) ?_
              obtain ⟨τ386, e386⟩ : ∃ μ : hpMem, μ = hpw τ384 201 4 (r385 + 1) := ⟨_, rfl⟩
              rw [← e386]
              have hI386 : hpInv τ386 := by rw [e386]; exact hI384.w ((bw_201 4).trans (show hpwb 4 = (0, 6) by decide)) (by omega) (by omega)
              have hF386 : ∀ j i : Nat, (j ≠ 195 ∨ (i ≠ 8 ∧ i ≠ 9 ∧ i ≠ 10 ∧ i ≠ 11 ∧ i ≠ 12 ∧ i ≠ 13)) → (j ≠ 201 ∨ i = 6) → τ386 j i = σ j i := fun j i h_0 h_1 => by rw [e386]; exact (hpw_fr (by omega)).trans (hF384 j i h_0 h_1)
              have hg387 : τ386 201 4 = r385 + 1 := by rw [e386]; exact hpw_eq
              refine h_return C hr hlk dX9_readNext_179 ?_
              exact ⟨rfl, hI386, hF386, fun _ => by omega⟩
            · refine h_aload_n C dX9_readNext_85 0 rfl rfl ?_
              refine h_get C O9 14 kd_195 (by decide) wd_1270 dX9_readNext_86 fr_195_14 ?_
              refine h_bipush C dX9_readNext_89 (by decide) ?_
              refine h_aload_n C dX9_readNext_91 0 rfl rfl ?_
              refine h_get C O9 14 kd_195 (by decide) wd_1270 dX9_readNext_92 fr_195_14 ?_
              refine h_iconst C dX9_readNext_95 ?_
              refine h_iaload C dX9_readNext_96 kd_201 3 rfl (by rw [ln_201]; decide) rfl ?_
              obtain ⟨hr388a, hr388b⟩ := hI376.b ((bw_201 3).trans (show hpwb 3 = (0, 8) by decide))
              generalize hg388 : τ376 201 3 = r388 at hr388a hr388b ⊢
              refine h_iadd C dX9_readNext_97 rfl ?_
              refine h_aload_n C dX9_readNext_98 0 rfl rfl ?_
              refine h_ldcS (i := 14) C Z (by decide) rfl dX9_readNext_99 ?_
              refine h_iconst C dX9_readNext_101 ?_
              refine h_bipush C dX9_readNext_102 (by decide) ?_
              refine h_callV (As := [.ref (cy (1000 + 14)), .int (hpI 1), .int (hpI 20)]) (rest := [.int (hpI (7 + r388)), .ref (z + 201)]) C Z yyX9_toldBy wd_1470 (tgX9_toldBy l D cy z _ 14 (by decide) 1 ⟨by decide, by decide⟩ 20 ⟨by decide, by decide⟩ hI376 (by omega)) kd_195 rfl rfl ⟨rfl, rfl, Nat.le_of_ble_eq_true rfl, Nat.le_of_ble_eq_true rfl⟩ ⟨Nat.le_of_ble_eq_true rfl, Nat.le_of_ble_eq_true rfl⟩ (Nat.le_of_ble_eq_true rfl) dX9_readNext_104 (fun r389 τ389 hp389 => ?_)
              obtain ⟨⟨x389, rfl, ⟨hx389a, hx389b⟩, hx389⟩, hI389, hG389⟩ := hp389
              have hF389 : ∀ j i : Nat, (j ≠ 195 ∨ (i ≠ 8 ∧ i ≠ 9 ∧ i ≠ 10 ∧ i ≠ 11 ∧ i ≠ 12 ∧ i ≠ 13)) → (j ≠ 201 ∨ i = 6) → τ389 j i = σ j i := fun j i h_0 h_1 => (hG389 j i (by omega)).trans (hF376 j i h_0 h_1)
              have hg390 : τ389 201 3 = r388 := (hG389 201 3 (by omega)).trans hg388
              show hpV _ _ _ _ _ _ _ _ _ _ _ _ _ _ _ _ _ _ _ _ _ (_ :: _)
              refine h_iastore C dX9_readNext_107 kd_201 (7 + r388).toNat (Int.toNat_of_nonneg (by omega)) (by rw [ln_201]; omega) ?_
              obtain ⟨τ391, e391⟩ : ∃ μ : hpMem, μ = hpw τ389 201 ((7 + r388).toNat) x389 := ⟨_, rfl⟩
              rw [← e391]
              have hI391 : hpInv τ391 := by rw [e391]; exact hpInv.w201 hI389 ((7 + r388).toNat) 7 15 (0) 20 (by omega) (by omega) (by decide) (by omega) (by omega)
              have hF391 : ∀ j i : Nat, (j ≠ 195 ∨ (i ≠ 8 ∧ i ≠ 9 ∧ i ≠ 10 ∧ i ≠ 11 ∧ i ≠ 12 ∧ i ≠ 13)) → (j ≠ 201 ∨ i = 6) → τ391 j i = σ j i := fun j i h_0 h_1 => by rw [e391]; exact (hpw_fr (by omega)).trans (hF389 j i h_0 h_1)
              refine h_aload_n C dX9_readNext_108 0 rfl rfl ?_
              refine h_get C O9 14 kd_195 (by decide) wd_1270 dX9_readNext_109 fr_195_14 ?_
              refine h_iconst C dX9_readNext_112 ?_
              refine h_dup2 C rfl rfl dX9_readNext_113 ?_
              refine h_iaload C dX9_readNext_114 kd_201 3 rfl (by rw [ln_201]; decide) rfl ?_
              obtain ⟨hr392a, hr392b⟩ := hI391.b ((bw_201 3).trans (show hpwb 3 = (0, 8) by decide))
              generalize hg392 : τ391 201 3 = r392 at hr392a hr392b ⊢
              refine h_iconst C dX9_readNext_115 ?_
              refine h_iadd C dX9_readNext_116 rfl ?_
              refine h_iastore C dX9_readNext_117 kd_201 3 rfl (by rw [ln_201]; decide) ?_
              obtain ⟨τ393, e393⟩ : ∃ μ : hpMem, μ = hpw τ391 201 3 (r392 + 1) := ⟨_, rfl⟩
              rw [← e393]
              have hI393 : hpInv τ393 := by rw [e393]; exact hI391.w ((bw_201 3).trans (show hpwb 3 = (0, 8) by decide)) (by omega) (by omega)
              have hF393 : ∀ j i : Nat, (j ≠ 195 ∨ (i ≠ 8 ∧ i ≠ 9 ∧ i ≠ 10 ∧ i ≠ 11 ∧ i ≠ 12 ∧ i ≠ 13)) → (j ≠ 201 ∨ i = 6) → τ393 j i = σ j i := fun j i h_0 h_1 => by rw [e393]; exact (hpw_fr (by omega)).trans (hF391 j i h_0 h_1)
              have hg394 : τ393 201 3 = r392 + 1 := by rw [e393]; exact hpw_eq
              refine h_goto (tgt := 179) C dX9_readNext_118 (by decide) ?_
              refine h_return C hr hlk dX9_readNext_179 ?_
              exact ⟨rfl, hI393, hF393, fun _ => by omega⟩
          · refine h_return C hr hlk dX9_readNext_75 ?_
            exact ⟨rfl, hI369, hF369, by omega⟩
        · refine h_aload_n C dX9_readNext_52 0 rfl rfl ?_
          refine h_get C O9 14 kd_195 (by decide) wd_1270 dX9_readNext_53 fr_195_14 ?_
          refine h_iconst C dX9_readNext_56 ?_
          refine h_iaload C dX9_readNext_57 kd_201 4 rfl (by rw [ln_201]; decide) rfl ?_
          obtain ⟨hr395a, hr395b⟩ := hI369.b ((bw_201 4).trans (show hpwb 4 = (0, 6) by decide))
          generalize hg395 : τ369 201 4 = r395 at hr395a hr395b ⊢
          refine h_bipush C dX9_readNext_58 (by decide) ?_
          refine h_icmp_ne (tgt := 68) C dX9_readNext_60 (by decide) ⟨by omega, by omega⟩ ⟨by decide, by decide⟩ (fun h396 => ?_) (fun h396 => ?_)
          · refine h_aload_n C dX9_readNext_68 0 rfl rfl ?_
            refine h_callV (As := []) (rest := []) C Z yyX9_good wd_1438 (tgX9_good l D cy z _ hI369) kd_195 rfl rfl ⟨rfl, rfl, Nat.le_of_ble_eq_true rfl, Nat.le_of_ble_eq_true rfl⟩ ⟨Nat.le_of_ble_eq_true rfl, Nat.le_of_ble_eq_true rfl⟩ (Nat.le_of_ble_eq_true rfl) dX9_readNext_69 (fun r397 τ397 hp397 => ?_)
            obtain ⟨⟨x397, rfl, ⟨hx397a, hx397b⟩, hx397⟩, rfl⟩ := hp397
            show hpV _ _ _ _ _ _ _ _ _ _ _ _ _ _ _ _ _ _ _ _ _ (_ :: _)
            refine h_if_ne (tgt := 76) C dX9_readNext_72 (by decide) ⟨by omega, by omega⟩ (fun h398 => ?_) (fun h398 => ?_)
            · refine h_aload_n C dX9_readNext_76 0 rfl rfl ?_
              refine h_ldcS (i := 12) C Z (by decide) rfl dX9_readNext_77 ?_
              refine h_callV (As := [.ref (cy (1000 + 12))]) (rest := []) C Z yyX9_takes wd_1455 (tgX9_takes l D cy z _ 12 (by decide) hI369) kd_195 rfl rfl ⟨rfl, rfl, Nat.le_of_ble_eq_true rfl, Nat.le_of_ble_eq_true rfl⟩ ⟨Nat.le_of_ble_eq_true rfl, Nat.le_of_ble_eq_true rfl⟩ (Nat.le_of_ble_eq_true rfl) dX9_readNext_79 (fun r399 τ399 hp399 => ?_)
              obtain ⟨⟨x399, rfl, ⟨hx399a, hx399b⟩, hx399⟩, hI399, hG399⟩ := hp399
              have hF399 : ∀ j i : Nat, (j ≠ 195 ∨ (i ≠ 8 ∧ i ≠ 9 ∧ i ≠ 10 ∧ i ≠ 11 ∧ i ≠ 12 ∧ i ≠ 13)) → (j ≠ 201 ∨ i = 6) → τ399 j i = σ j i := fun j i h_0 h_1 => (hG399 j i (by omega)).trans (hF369 j i h_0 h_1)
              have hg400 : τ399 201 4 = r395 := (hG399 201 4 (by omega)).trans hg395
              show hpV _ _ _ _ _ _ _ _ _ _ _ _ _ _ _ _ _ _ _ _ _ (_ :: _)
              refine h_if_eq (tgt := 121) C dX9_readNext_82 (by decide) ⟨by omega, by omega⟩ (fun h401 => ?_) (fun h401 => ?_)
              · refine h_aload_n C dX9_readNext_121 0 rfl rfl ?_
                refine h_callV (As := []) (rest := []) C Z yyX9_advance wd_1424 (tgX9_advance l D cy z _ hI399) kd_195 rfl rfl ⟨rfl, rfl, Nat.le_of_ble_eq_true rfl, Nat.le_of_ble_eq_true rfl⟩ ⟨Nat.le_of_ble_eq_true rfl, Nat.le_of_ble_eq_true rfl⟩ (Nat.le_of_ble_eq_true rfl) dX9_readNext_122 (fun r402 τ402 hp402 => ?_)
                obtain ⟨rfl, hI402, hG402⟩ := hp402
                have hF402 : ∀ j i : Nat, (j ≠ 195 ∨ (i ≠ 8 ∧ i ≠ 9 ∧ i ≠ 10 ∧ i ≠ 11 ∧ i ≠ 12 ∧ i ≠ 13)) → (j ≠ 201 ∨ i = 6) → τ402 j i = σ j i := fun j i h_0 h_1 => (hG402 j i (by omega)).trans (hF399 j i h_0 h_1)
                have hg403 : τ402 201 4 = r395 := (hG402 201 4 (by omega)).trans hg400
                show hpV _ _ _ _ _ _ _ _ _ _ _ _ _ _ _ _ _ _ _ _ _ []
                refine h_bipush C dX9_readNext_125 (by decide) ?_
                refine h_iconst C dX9_readNext_127 ?_
                refine h_aload_n C dX9_readNext_128 0 rfl rfl ?_
                refine h_get C O9 14 kd_195 (by decide) wd_1270 dX9_readNext_129 fr_195_14 ?_
                refine h_iconst C dX9_readNext_132 ?_
                refine h_iaload C dX9_readNext_133 kd_201 4 rfl (by rw [ln_201]; decide) rfl ?_
                rw [hg403]
                refine h_imul C dX9_readNext_134 rfl ?_
                refine h_iadd C dX9_readNext_135 rfl ?_
                refine h_istore_n (lv' := [(1, .int (hpI (15 + (2 * r395)))), (0, .ref (z + 195))]) C dX9_readNext_136 rfl (by decide) rfl ?_
                refine h_aload_n C dX9_readNext_137 1 rfl rfl ?_
                refine h_get C O9 14 kd_195 (by decide) wd_1270 dX9_readNext_138 fr_195_14 ?_
                refine h_iload_n C dX9_readNext_141 0 rfl rfl ?_
                refine h_aload_n C dX9_readNext_142 1 rfl rfl ?_
                refine h_ldcS (i := 14) C Z (by decide) rfl dX9_readNext_143 ?_
                refine h_iconst C dX9_readNext_145 ?_
                refine h_bipush C dX9_readNext_146 (by decide) ?_
                refine h_callV (As := [.ref (cy (1000 + 14)), .int (hpI 1), .int (hpI 20)]) (rest := [.int (hpI (15 + (2 * r395))), .ref (z + 201)]) C Z yyX9_toldBy wd_1470 (tgX9_toldBy l D cy z _ 14 (by decide) 1 ⟨by decide, by decide⟩ 20 ⟨by decide, by decide⟩ hI402 (by omega)) kd_195 rfl rfl ⟨rfl, rfl, Nat.le_of_ble_eq_true rfl, Nat.le_of_ble_eq_true rfl⟩ ⟨Nat.le_of_ble_eq_true rfl, Nat.le_of_ble_eq_true rfl⟩ (Nat.le_of_ble_eq_true rfl) dX9_readNext_148 (fun r404 τ404 hp404 => ?_)
                obtain ⟨⟨x404, rfl, ⟨hx404a, hx404b⟩, hx404⟩, hI404, hG404⟩ := hp404
                have hF404 : ∀ j i : Nat, (j ≠ 195 ∨ (i ≠ 8 ∧ i ≠ 9 ∧ i ≠ 10 ∧ i ≠ 11 ∧ i ≠ 12 ∧ i ≠ 13)) → (j ≠ 201 ∨ i = 6) → τ404 j i = σ j i := fun j i h_0 h_1 => (hG404 j i (by omega)).trans (hF402 j i h_0 h_1)
                have hg405 : τ404 201 4 = r395 := (hG404 201 4 (by omega)).trans hg403
                show hpV _ _ _ _ _ _ _ _ _ _ _ _ _ _ _ _ _ _ _ _ _ (_ :: _)
                refine h_iastore C dX9_readNext_151 kd_201 (15 + (2 * r395)).toNat (Int.toNat_of_nonneg (by omega)) (by rw [ln_201]; omega) ?_
                obtain ⟨τ406, e406⟩ : ∃ μ : hpMem, μ = hpw τ404 201 ((15 + (2 * r395)).toNat) x404 := ⟨_, rfl⟩
                rw [← e406]
                have hI406 : hpInv τ406 := by rw [e406]; exact hpInv.w201 hI404 ((15 + (2 * r395)).toNat) 15 25 (0) 20 (by omega) (by omega) (by decide) (by omega) (by omega)
                have hF406 : ∀ j i : Nat, (j ≠ 195 ∨ (i ≠ 8 ∧ i ≠ 9 ∧ i ≠ 10 ∧ i ≠ 11 ∧ i ≠ 12 ∧ i ≠ 13)) → (j ≠ 201 ∨ i = 6) → τ406 j i = σ j i := fun j i h_0 h_1 => by rw [e406]; exact (hpw_fr (by omega)).trans (hF404 j i h_0 h_1)
                refine h_aload_n C dX9_readNext_152 1 rfl rfl ?_
                refine h_get C O9 14 kd_195 (by decide) wd_1270 dX9_readNext_153 fr_195_14 ?_
                refine h_iload_n C dX9_readNext_156 0 rfl rfl ?_
                refine h_iconst C dX9_readNext_157 ?_
                refine h_iadd C dX9_readNext_158 rfl ?_
                refine h_aload_n C dX9_readNext_159 1 rfl rfl ?_
                refine h_ldcS (i := 15) C Z (by decide) rfl dX9_readNext_160 ?_
                refine h_iconst C dX9_readNext_162 ?_
                refine h_bipush C dX9_readNext_163 (by decide) ?_
                refine h_callV (As := [.ref (cy (1000 + 15)), .int (hpI 0), .int (hpI 15)]) (rest := [.int (hpI ((15 + (2 * r395)) + 1)), .ref (z + 201)]) C Z yyX9_toldBy wd_1470 (tgX9_toldBy l D cy z _ 15 (by decide) 0 ⟨by decide, by decide⟩ 15 ⟨by decide, by decide⟩ hI406 (by omega)) kd_195 rfl rfl ⟨rfl, rfl, Nat.le_of_ble_eq_true rfl, Nat.le_of_ble_eq_true rfl⟩ ⟨Nat.le_of_ble_eq_true rfl, Nat.le_of_ble_eq_true rfl⟩ (Nat.le_of_ble_eq_true rfl) dX9_readNext_165 (fun r407 τ407 hp407 => ?_)
                obtain ⟨⟨x407, rfl, ⟨hx407a, hx407b⟩, hx407⟩, hI407, hG407⟩ := hp407
                have hF407 : ∀ j i : Nat, (j ≠ 195 ∨ (i ≠ 8 ∧ i ≠ 9 ∧ i ≠ 10 ∧ i ≠ 11 ∧ i ≠ 12 ∧ i ≠ 13)) → (j ≠ 201 ∨ i = 6) → τ407 j i = σ j i := fun j i h_0 h_1 => (hG407 j i (by omega)).trans (hF406 j i h_0 h_1)
                show hpV _ _ _ _ _ _ _ _ _ _ _ _ _ _ _ _ _ _ _ _ _ (_ :: _)
                refine h_iastore C dX9_readNext_168 kd_201 ((15 + (2 * r395)) + 1).toNat (Int.toNat_of_nonneg (by omega)) (by rw [ln_201]; omega) ?_
                obtain ⟨τ408, e408⟩ : ∃ μ : hpMem, μ = hpw τ407 201 (((15 + (2 * r395)) + 1).toNat) x407 := ⟨_, rfl⟩
                rw [← e408]
                have hI408 : hpInv τ408 := by rw [e408]; exact hpInv.w201 hI407 (((15 + (2 * r395)) + 1).toNat) 16 26 (0) 20 (by omega) (by omega) (by decide) (by omega) (by omega)
                have hF408 : ∀ j i : Nat, (j ≠ 195 ∨ (i ≠ 8 ∧ i ≠ 9 ∧ i ≠ 10 ∧ i ≠ 11 ∧ i ≠ 12 ∧ i ≠ 13)) → (j ≠ 201 ∨ i = 6) → τ408 j i = σ j i := fun j i h_0 h_1 => by rw [e408]; exact (hpw_fr (by omega)).trans (hF407 j i h_0 h_1)
                refine h_aload_n C dX9_readNext_169 1 rfl rfl ?_
                refine h_get C O9 14 kd_195 (by decide) wd_1270 dX9_readNext_170 fr_195_14 ?_
                refine h_iconst C dX9_readNext_173 ?_
                refine h_dup2 C rfl rfl dX9_readNext_174 ?_
                refine h_iaload C dX9_readNext_175 kd_201 4 rfl (by rw [ln_201]; decide) rfl ?_
                obtain ⟨hr409a, hr409b⟩ := hI408.b ((bw_201 4).trans (show hpwb 4 = (0, 6) by decide))
                generalize hg409 : τ408 201 4 = r409 at hr409a hr409b ⊢
                refine h_iconst C dX9_readNext_176 ?_
                refine h_iadd C dX9_readNext_177 rfl ?_
                refine h_iastore C dX9_readNext_178 kd_201 4 rfl (by rw [ln_201]; decide) ?_
                obtain ⟨τ410, e410⟩ : ∃ μ : hpMem, μ = hpw τ408 201 4 (r409 + 1) := ⟨_, rfl⟩
                rw [← e410]
                have hI410 : hpInv τ410 := by rw [e410]; exact hI408.w ((bw_201 4).trans (show hpwb 4 = (0, 6) by decide)) (by omega) (by omega)
                have hF410 : ∀ j i : Nat, (j ≠ 195 ∨ (i ≠ 8 ∧ i ≠ 9 ∧ i ≠ 10 ∧ i ≠ 11 ∧ i ≠ 12 ∧ i ≠ 13)) → (j ≠ 201 ∨ i = 6) → τ410 j i = σ j i := fun j i h_0 h_1 => by rw [e410]; exact (hpw_fr (by omega)).trans (hF408 j i h_0 h_1)
                have hg411 : τ410 201 4 = r409 + 1 := by rw [e410]; exact hpw_eq
                refine h_return C hr hlk dX9_readNext_179 ?_
                exact ⟨rfl, hI410, hF410, fun _ => by omega⟩
              · refine h_aload_n C dX9_readNext_85 0 rfl rfl ?_
                refine h_get C O9 14 kd_195 (by decide) wd_1270 dX9_readNext_86 fr_195_14 ?_
                refine h_bipush C dX9_readNext_89 (by decide) ?_
                refine h_aload_n C dX9_readNext_91 0 rfl rfl ?_
                refine h_get C O9 14 kd_195 (by decide) wd_1270 dX9_readNext_92 fr_195_14 ?_
                refine h_iconst C dX9_readNext_95 ?_
                refine h_iaload C dX9_readNext_96 kd_201 3 rfl (by rw [ln_201]; decide) rfl ?_
                obtain ⟨hr412a, hr412b⟩ := hI399.b ((bw_201 3).trans (show hpwb 3 = (0, 8) by decide))
                generalize hg412 : τ399 201 3 = r412 at hr412a hr412b ⊢
                refine h_iadd C dX9_readNext_97 rfl ?_
                refine h_aload_n C dX9_readNext_98 0 rfl rfl ?_
                refine h_ldcS (i := 14) C Z (by decide) rfl dX9_readNext_99 ?_
                refine h_iconst C dX9_readNext_101 ?_
                refine h_bipush C dX9_readNext_102 (by decide) ?_
                refine h_callV (As := [.ref (cy (1000 + 14)), .int (hpI 1), .int (hpI 20)]) (rest := [.int (hpI (7 + r412)), .ref (z + 201)]) C Z yyX9_toldBy wd_1470 (tgX9_toldBy l D cy z _ 14 (by decide) 1 ⟨by decide, by decide⟩ 20 ⟨by decide, by decide⟩ hI399 (by omega)) kd_195 rfl rfl ⟨rfl, rfl, Nat.le_of_ble_eq_true rfl, Nat.le_of_ble_eq_true rfl⟩ ⟨Nat.le_of_ble_eq_true rfl, Nat.le_of_ble_eq_true rfl⟩ (Nat.le_of_ble_eq_true rfl) dX9_readNext_104 (fun r413 τ413 hp413 => ?_)
                obtain ⟨⟨x413, rfl, ⟨hx413a, hx413b⟩, hx413⟩, hI413, hG413⟩ := hp413
                have hF413 : ∀ j i : Nat, (j ≠ 195 ∨ (i ≠ 8 ∧ i ≠ 9 ∧ i ≠ 10 ∧ i ≠ 11 ∧ i ≠ 12 ∧ i ≠ 13)) → (j ≠ 201 ∨ i = 6) → τ413 j i = σ j i := fun j i h_0 h_1 => (hG413 j i (by omega)).trans (hF399 j i h_0 h_1)
                have hg414 : τ413 201 4 = r395 := (hG413 201 4 (by omega)).trans hg400
                have hg415 : τ413 201 3 = r412 := (hG413 201 3 (by omega)).trans hg412
                show hpV _ _ _ _ _ _ _ _ _ _ _ _ _ _ _ _ _ _ _ _ _ (_ :: _)
                refine h_iastore C dX9_readNext_107 kd_201 (7 + r412).toNat (Int.toNat_of_nonneg (by omega)) (by rw [ln_201]; omega) ?_
                obtain ⟨τ416, e416⟩ : ∃ μ : hpMem, μ = hpw τ413 201 ((7 + r412).toNat) x413 := ⟨_, rfl⟩
                rw [← e416]
                have hI416 : hpInv τ416 := by rw [e416]; exact hpInv.w201 hI413 ((7 + r412).toNat) 7 15 (0) 20 (by omega) (by omega) (by decide) (by omega) (by omega)
                have hF416 : ∀ j i : Nat, (j ≠ 195 ∨ (i ≠ 8 ∧ i ≠ 9 ∧ i ≠ 10 ∧ i ≠ 11 ∧ i ≠ 12 ∧ i ≠ 13)) → (j ≠ 201 ∨ i = 6) → τ416 j i = σ j i := fun j i h_0 h_1 => by rw [e416]; exact (hpw_fr (by omega)).trans (hF413 j i h_0 h_1)
                refine h_aload_n C dX9_readNext_108 0 rfl rfl ?_
                refine h_get C O9 14 kd_195 (by decide) wd_1270 dX9_readNext_109 fr_195_14 ?_
                refine h_iconst C dX9_readNext_112 ?_
                refine h_dup2 C rfl rfl dX9_readNext_113 ?_
                refine h_iaload C dX9_readNext_114 kd_201 3 rfl (by rw [ln_201]; decide) rfl ?_
                obtain ⟨hr417a, hr417b⟩ := hI416.b ((bw_201 3).trans (show hpwb 3 = (0, 8) by decide))
                generalize hg417 : τ416 201 3 = r417 at hr417a hr417b ⊢
                refine h_iconst C dX9_readNext_115 ?_
                refine h_iadd C dX9_readNext_116 rfl ?_
                refine h_iastore C dX9_readNext_117 kd_201 3 rfl (by rw [ln_201]; decide) ?_
                obtain ⟨τ418, e418⟩ : ∃ μ : hpMem, μ = hpw τ416 201 3 (r417 + 1) := ⟨_, rfl⟩
                rw [← e418]
                have hI418 : hpInv τ418 := by rw [e418]; exact hI416.w ((bw_201 3).trans (show hpwb 3 = (0, 8) by decide)) (by omega) (by omega)
                have hF418 : ∀ j i : Nat, (j ≠ 195 ∨ (i ≠ 8 ∧ i ≠ 9 ∧ i ≠ 10 ∧ i ≠ 11 ∧ i ≠ 12 ∧ i ≠ 13)) → (j ≠ 201 ∨ i = 6) → τ418 j i = σ j i := fun j i h_0 h_1 => by rw [e418]; exact (hpw_fr (by omega)).trans (hF416 j i h_0 h_1)
                have hg419 : τ418 201 3 = r417 + 1 := by rw [e418]; exact hpw_eq
                refine h_goto (tgt := 179) C dX9_readNext_118 (by decide) ?_
                refine h_return C hr hlk dX9_readNext_179 ?_
                exact ⟨rfl, hI418, hF418, fun _ => by omega⟩
            · refine h_return C hr hlk dX9_readNext_75 ?_
              exact ⟨rfl, hI369, hF369, by omega⟩
          · refine h_aload_n C dX9_readNext_63 0 rfl rfl ?_
            refine h_iconst C dX9_readNext_64 ?_
            refine h_callV (As := [.int (hpI 3)]) (rest := []) C Z yyX9_errs wd_1465 (tgX9_errs l D cy z _ 3 ⟨by decide, by decide⟩ hI369 (by omega)) kd_195 rfl rfl ⟨rfl, rfl, Nat.le_of_ble_eq_true rfl, Nat.le_of_ble_eq_true rfl⟩ ⟨Nat.le_of_ble_eq_true rfl, Nat.le_of_ble_eq_true rfl⟩ (Nat.le_of_ble_eq_true rfl) dX9_readNext_65 (fun r420 τ420 hp420 => ?_)
            obtain ⟨rfl, hI420, hG420, hq420_0⟩ := hp420
            have hF420 : ∀ j i : Nat, (j ≠ 195 ∨ (i ≠ 8 ∧ i ≠ 9 ∧ i ≠ 10 ∧ i ≠ 11 ∧ i ≠ 12 ∧ i ≠ 13)) → (j ≠ 201 ∨ i = 6) → τ420 j i = σ j i := fun j i h_0 h_1 => (hG420 j i (by omega)).trans (hF369 j i h_0 h_1)
            have hg421 : τ420 201 4 = r395 := (hG420 201 4 (by omega)).trans hg395
            show hpV _ _ _ _ _ _ _ _ _ _ _ _ _ _ _ _ _ _ _ _ _ []
            refine h_aload_n C dX9_readNext_68 0 rfl rfl ?_
            refine h_callV (As := []) (rest := []) C Z yyX9_good wd_1438 (tgX9_good l D cy z _ hI420) kd_195 rfl rfl ⟨rfl, rfl, Nat.le_of_ble_eq_true rfl, Nat.le_of_ble_eq_true rfl⟩ ⟨Nat.le_of_ble_eq_true rfl, Nat.le_of_ble_eq_true rfl⟩ (Nat.le_of_ble_eq_true rfl) dX9_readNext_69 (fun r422 τ422 hp422 => ?_)
            obtain ⟨⟨x422, rfl, ⟨hx422a, hx422b⟩, hx422⟩, rfl⟩ := hp422
            show hpV _ _ _ _ _ _ _ _ _ _ _ _ _ _ _ _ _ _ _ _ _ (_ :: _)
            refine h_if_ne (tgt := 76) C dX9_readNext_72 (by decide) ⟨by omega, by omega⟩ (fun h423 => ?_) (fun h423 => ?_)
            · refine h_aload_n C dX9_readNext_76 0 rfl rfl ?_
              refine h_ldcS (i := 12) C Z (by decide) rfl dX9_readNext_77 ?_
              refine h_callV (As := [.ref (cy (1000 + 12))]) (rest := []) C Z yyX9_takes wd_1455 (tgX9_takes l D cy z _ 12 (by decide) hI420) kd_195 rfl rfl ⟨rfl, rfl, Nat.le_of_ble_eq_true rfl, Nat.le_of_ble_eq_true rfl⟩ ⟨Nat.le_of_ble_eq_true rfl, Nat.le_of_ble_eq_true rfl⟩ (Nat.le_of_ble_eq_true rfl) dX9_readNext_79 (fun r424 τ424 hp424 => ?_)
              obtain ⟨⟨x424, rfl, ⟨hx424a, hx424b⟩, hx424⟩, hI424, hG424⟩ := hp424
              have hF424 : ∀ j i : Nat, (j ≠ 195 ∨ (i ≠ 8 ∧ i ≠ 9 ∧ i ≠ 10 ∧ i ≠ 11 ∧ i ≠ 12 ∧ i ≠ 13)) → (j ≠ 201 ∨ i = 6) → τ424 j i = σ j i := fun j i h_0 h_1 => (hG424 j i (by omega)).trans (hF420 j i h_0 h_1)
              have hg425 : τ424 201 4 = r395 := (hG424 201 4 (by omega)).trans hg421
              show hpV _ _ _ _ _ _ _ _ _ _ _ _ _ _ _ _ _ _ _ _ _ (_ :: _)
              refine h_if_eq (tgt := 121) C dX9_readNext_82 (by decide) ⟨by omega, by omega⟩ (fun h426 => ?_) (fun h426 => ?_)
              · refine h_aload_n C dX9_readNext_121 0 rfl rfl ?_
                refine h_callV (As := []) (rest := []) C Z yyX9_advance wd_1424 (tgX9_advance l D cy z _ hI424) kd_195 rfl rfl ⟨rfl, rfl, Nat.le_of_ble_eq_true rfl, Nat.le_of_ble_eq_true rfl⟩ ⟨Nat.le_of_ble_eq_true rfl, Nat.le_of_ble_eq_true rfl⟩ (Nat.le_of_ble_eq_true rfl) dX9_readNext_122 (fun r427 τ427 hp427 => ?_)
                obtain ⟨rfl, hI427, hG427⟩ := hp427
                have hF427 : ∀ j i : Nat, (j ≠ 195 ∨ (i ≠ 8 ∧ i ≠ 9 ∧ i ≠ 10 ∧ i ≠ 11 ∧ i ≠ 12 ∧ i ≠ 13)) → (j ≠ 201 ∨ i = 6) → τ427 j i = σ j i := fun j i h_0 h_1 => (hG427 j i (by omega)).trans (hF424 j i h_0 h_1)
                have hg428 : τ427 201 4 = r395 := (hG427 201 4 (by omega)).trans hg425
                show hpV _ _ _ _ _ _ _ _ _ _ _ _ _ _ _ _ _ _ _ _ _ []
                refine h_bipush C dX9_readNext_125 (by decide) ?_
                refine h_iconst C dX9_readNext_127 ?_
                refine h_aload_n C dX9_readNext_128 0 rfl rfl ?_
                refine h_get C O9 14 kd_195 (by decide) wd_1270 dX9_readNext_129 fr_195_14 ?_
                refine h_iconst C dX9_readNext_132 ?_
                refine h_iaload C dX9_readNext_133 kd_201 4 rfl (by rw [ln_201]; decide) rfl ?_
                rw [hg428]
                refine h_imul C dX9_readNext_134 rfl ?_
                refine h_iadd C dX9_readNext_135 rfl ?_
                refine h_istore_n (lv' := [(1, .int (hpI (15 + (2 * r395)))), (0, .ref (z + 195))]) C dX9_readNext_136 rfl (by decide) rfl ?_
                refine h_aload_n C dX9_readNext_137 1 rfl rfl ?_
                refine h_get C O9 14 kd_195 (by decide) wd_1270 dX9_readNext_138 fr_195_14 ?_
                refine h_iload_n C dX9_readNext_141 0 rfl rfl ?_
                refine h_aload_n C dX9_readNext_142 1 rfl rfl ?_
                refine h_ldcS (i := 14) C Z (by decide) rfl dX9_readNext_143 ?_
                refine h_iconst C dX9_readNext_145 ?_
                refine h_bipush C dX9_readNext_146 (by decide) ?_
                refine h_callV (As := [.ref (cy (1000 + 14)), .int (hpI 1), .int (hpI 20)]) (rest := [.int (hpI (15 + (2 * r395))), .ref (z + 201)]) C Z yyX9_toldBy wd_1470 (tgX9_toldBy l D cy z _ 14 (by decide) 1 ⟨by decide, by decide⟩ 20 ⟨by decide, by decide⟩ hI427 (by omega)) kd_195 rfl rfl ⟨rfl, rfl, Nat.le_of_ble_eq_true rfl, Nat.le_of_ble_eq_true rfl⟩ ⟨Nat.le_of_ble_eq_true rfl, Nat.le_of_ble_eq_true rfl⟩ (Nat.le_of_ble_eq_true rfl) dX9_readNext_148 (fun r429 τ429 hp429 => ?_)
                obtain ⟨⟨x429, rfl, ⟨hx429a, hx429b⟩, hx429⟩, hI429, hG429⟩ := hp429
                have hF429 : ∀ j i : Nat, (j ≠ 195 ∨ (i ≠ 8 ∧ i ≠ 9 ∧ i ≠ 10 ∧ i ≠ 11 ∧ i ≠ 12 ∧ i ≠ 13)) → (j ≠ 201 ∨ i = 6) → τ429 j i = σ j i := fun j i h_0 h_1 => (hG429 j i (by omega)).trans (hF427 j i h_0 h_1)
                have hg430 : τ429 201 4 = r395 := (hG429 201 4 (by omega)).trans hg428
                show hpV _ _ _ _ _ _ _ _ _ _ _ _ _ _ _ _ _ _ _ _ _ (_ :: _)
                refine h_iastore C dX9_readNext_151 kd_201 (15 + (2 * r395)).toNat (Int.toNat_of_nonneg (by omega)) (by rw [ln_201]; omega) ?_
                obtain ⟨τ431, e431⟩ : ∃ μ : hpMem, μ = hpw τ429 201 ((15 + (2 * r395)).toNat) x429 := ⟨_, rfl⟩
                rw [← e431]
                have hI431 : hpInv τ431 := by rw [e431]; exact hpInv.w201 hI429 ((15 + (2 * r395)).toNat) 27 27 (0) 2016 (by omega) (by omega) (by decide) (by omega) (by omega)
                have hF431 : ∀ j i : Nat, (j ≠ 195 ∨ (i ≠ 8 ∧ i ≠ 9 ∧ i ≠ 10 ∧ i ≠ 11 ∧ i ≠ 12 ∧ i ≠ 13)) → (j ≠ 201 ∨ i = 6) → τ431 j i = σ j i := fun j i h_0 h_1 => by rw [e431]; exact (hpw_fr (by omega)).trans (hF429 j i h_0 h_1)
                refine h_aload_n C dX9_readNext_152 1 rfl rfl ?_
                refine h_get C O9 14 kd_195 (by decide) wd_1270 dX9_readNext_153 fr_195_14 ?_
                refine h_iload_n C dX9_readNext_156 0 rfl rfl ?_
                refine h_iconst C dX9_readNext_157 ?_
                refine h_iadd C dX9_readNext_158 rfl ?_
                refine h_aload_n C dX9_readNext_159 1 rfl rfl ?_
                refine h_ldcS (i := 15) C Z (by decide) rfl dX9_readNext_160 ?_
                refine h_iconst C dX9_readNext_162 ?_
                refine h_bipush C dX9_readNext_163 (by decide) ?_
                refine h_callV (As := [.ref (cy (1000 + 15)), .int (hpI 0), .int (hpI 15)]) (rest := [.int (hpI ((15 + (2 * r395)) + 1)), .ref (z + 201)]) C Z yyX9_toldBy wd_1470 (tgX9_toldBy l D cy z _ 15 (by decide) 0 ⟨by decide, by decide⟩ 15 ⟨by decide, by decide⟩ hI431 (by omega)) kd_195 rfl rfl ⟨rfl, rfl, Nat.le_of_ble_eq_true rfl, Nat.le_of_ble_eq_true rfl⟩ ⟨Nat.le_of_ble_eq_true rfl, Nat.le_of_ble_eq_true rfl⟩ (Nat.le_of_ble_eq_true rfl) dX9_readNext_165 (fun r432 τ432 hp432 => ?_)
                obtain ⟨⟨x432, rfl, ⟨hx432a, hx432b⟩, hx432⟩, hI432, hG432⟩ := hp432
                have hF432 : ∀ j i : Nat, (j ≠ 195 ∨ (i ≠ 8 ∧ i ≠ 9 ∧ i ≠ 10 ∧ i ≠ 11 ∧ i ≠ 12 ∧ i ≠ 13)) → (j ≠ 201 ∨ i = 6) → τ432 j i = σ j i := fun j i h_0 h_1 => (hG432 j i (by omega)).trans (hF431 j i h_0 h_1)
                show hpV _ _ _ _ _ _ _ _ _ _ _ _ _ _ _ _ _ _ _ _ _ (_ :: _)
                refine h_iastore C dX9_readNext_168 kd_201 ((15 + (2 * r395)) + 1).toNat (Int.toNat_of_nonneg (by omega)) (by rw [ln_201]; omega) ?_
                obtain ⟨τ433, e433⟩ : ∃ μ : hpMem, μ = hpw τ432 201 (((15 + (2 * r395)) + 1).toNat) x432 := ⟨_, rfl⟩
                rw [← e433]
                have hI433 : hpInv τ433 := by rw [e433]; exact hpInv.w201 hI432 (((15 + (2 * r395)) + 1).toNat) 28 28 (0) 2016 (by omega) (by omega) (by decide) (by omega) (by omega)
                have hF433 : ∀ j i : Nat, (j ≠ 195 ∨ (i ≠ 8 ∧ i ≠ 9 ∧ i ≠ 10 ∧ i ≠ 11 ∧ i ≠ 12 ∧ i ≠ 13)) → (j ≠ 201 ∨ i = 6) → τ433 j i = σ j i := fun j i h_0 h_1 => by rw [e433]; exact (hpw_fr (by omega)).trans (hF432 j i h_0 h_1)
                refine h_aload_n C dX9_readNext_169 1 rfl rfl ?_
                refine h_get C O9 14 kd_195 (by decide) wd_1270 dX9_readNext_170 fr_195_14 ?_
                refine h_iconst C dX9_readNext_173 ?_
                refine h_dup2 C rfl rfl dX9_readNext_174 ?_
                refine h_iaload C dX9_readNext_175 kd_201 4 rfl (by rw [ln_201]; decide) rfl ?_
                obtain ⟨hr434a, hr434b⟩ := hI433.b ((bw_201 4).trans (show hpwb 4 = (0, 6) by decide))
                generalize hg434 : τ433 201 4 = r434 at hr434a hr434b ⊢
                refine h_iconst C dX9_readNext_176 ?_
                refine h_iadd C dX9_readNext_177 rfl ?_
                refine h_iastore C dX9_readNext_178 kd_201 4 rfl (by rw [ln_201]; decide) ?_
                obtain ⟨τ435, e435⟩ : ∃ μ : hpMem, μ = hpw τ433 201 4 (r434 + 1) := ⟨_, rfl⟩
                rw [← e435]
                have hI435 : hpInv τ435 := by rw [e435]; exact hI433.w ((bw_201 4).trans (show hpwb 4 = (0, 6) by decide)) (by omega) (by omega)
                have hF435 : ∀ j i : Nat, (j ≠ 195 ∨ (i ≠ 8 ∧ i ≠ 9 ∧ i ≠ 10 ∧ i ≠ 11 ∧ i ≠ 12 ∧ i ≠ 13)) → (j ≠ 201 ∨ i = 6) → τ435 j i = σ j i := fun j i h_0 h_1 => by rw [e435]; exact (hpw_fr (by omega)).trans (hF433 j i h_0 h_1)
                have hg436 : τ435 201 4 = r434 + 1 := by rw [e435]; exact hpw_eq
                refine h_return C hr hlk dX9_readNext_179 ?_
                exact ⟨rfl, hI435, hF435, fun _ => by omega⟩
              · refine h_aload_n C dX9_readNext_85 0 rfl rfl ?_
                refine h_get C O9 14 kd_195 (by decide) wd_1270 dX9_readNext_86 fr_195_14 ?_
                refine h_bipush C dX9_readNext_89 (by decide) ?_
                refine h_aload_n C dX9_readNext_91 0 rfl rfl ?_
                refine h_get C O9 14 kd_195 (by decide) wd_1270 dX9_readNext_92 fr_195_14 ?_
                refine h_iconst C dX9_readNext_95 ?_
                refine h_iaload C dX9_readNext_96 kd_201 3 rfl (by rw [ln_201]; decide) rfl ?_
                obtain ⟨hr437a, hr437b⟩ := hI424.b ((bw_201 3).trans (show hpwb 3 = (0, 8) by decide))
                generalize hg437 : τ424 201 3 = r437 at hr437a hr437b ⊢
                refine h_iadd C dX9_readNext_97 rfl ?_
                refine h_aload_n C dX9_readNext_98 0 rfl rfl ?_
                refine h_ldcS (i := 14) C Z (by decide) rfl dX9_readNext_99 ?_
                refine h_iconst C dX9_readNext_101 ?_
                refine h_bipush C dX9_readNext_102 (by decide) ?_
                refine h_callV (As := [.ref (cy (1000 + 14)), .int (hpI 1), .int (hpI 20)]) (rest := [.int (hpI (7 + r437)), .ref (z + 201)]) C Z yyX9_toldBy wd_1470 (tgX9_toldBy l D cy z _ 14 (by decide) 1 ⟨by decide, by decide⟩ 20 ⟨by decide, by decide⟩ hI424 (by omega)) kd_195 rfl rfl ⟨rfl, rfl, Nat.le_of_ble_eq_true rfl, Nat.le_of_ble_eq_true rfl⟩ ⟨Nat.le_of_ble_eq_true rfl, Nat.le_of_ble_eq_true rfl⟩ (Nat.le_of_ble_eq_true rfl) dX9_readNext_104 (fun r438 τ438 hp438 => ?_)
                obtain ⟨⟨x438, rfl, ⟨hx438a, hx438b⟩, hx438⟩, hI438, hG438⟩ := hp438
                have hF438 : ∀ j i : Nat, (j ≠ 195 ∨ (i ≠ 8 ∧ i ≠ 9 ∧ i ≠ 10 ∧ i ≠ 11 ∧ i ≠ 12 ∧ i ≠ 13)) → (j ≠ 201 ∨ i = 6) → τ438 j i = σ j i := fun j i h_0 h_1 => (hG438 j i (by omega)).trans (hF424 j i h_0 h_1)
                have hg439 : τ438 201 4 = r395 := (hG438 201 4 (by omega)).trans hg425
                have hg440 : τ438 201 3 = r437 := (hG438 201 3 (by omega)).trans hg437
                show hpV _ _ _ _ _ _ _ _ _ _ _ _ _ _ _ _ _ _ _ _ _ (_ :: _)
                refine h_iastore C dX9_readNext_107 kd_201 (7 + r437).toNat (Int.toNat_of_nonneg (by omega)) (by rw [ln_201]; omega) ?_
                obtain ⟨τ441, e441⟩ : ∃ μ : hpMem, μ = hpw τ438 201 ((7 + r437).toNat) x438 := ⟨_, rfl⟩
                rw [← e441]
                have hI441 : hpInv τ441 := by rw [e441]; exact hpInv.w201 hI438 ((7 + r437).toNat) 7 15 (0) 20 (by omega) (by omega) (by decide) (by omega) (by omega)
                have hF441 : ∀ j i : Nat, (j ≠ 195 ∨ (i ≠ 8 ∧ i ≠ 9 ∧ i ≠ 10 ∧ i ≠ 11 ∧ i ≠ 12 ∧ i ≠ 13)) → (j ≠ 201 ∨ i = 6) → τ441 j i = σ j i := fun j i h_0 h_1 => by rw [e441]; exact (hpw_fr (by omega)).trans (hF438 j i h_0 h_1)
                refine h_aload_n C dX9_readNext_108 0 rfl rfl ?_
                refine h_get C O9 14 kd_195 (by decide) wd_1270 dX9_readNext_109 fr_195_14 ?_
                refine h_iconst C dX9_readNext_112 ?_
                refine h_dup2 C rfl rfl dX9_readNext_113 ?_
                refine h_iaload C dX9_readNext_114 kd_201 3 rfl (by rw [ln_201]; decide) rfl ?_
                obtain ⟨hr442a, hr442b⟩ := hI441.b ((bw_201 3).trans (show hpwb 3 = (0, 8) by decide))
                generalize hg442 : τ441 201 3 = r442 at hr442a hr442b ⊢
                refine h_iconst C dX9_readNext_115 ?_
                refine h_iadd C dX9_readNext_116 rfl ?_
                refine h_iastore C dX9_readNext_117 kd_201 3 rfl (by rw [ln_201]; decide) ?_
                obtain ⟨τ443, e443⟩ : ∃ μ : hpMem, μ = hpw τ441 201 3 (r442 + 1) := ⟨_, rfl⟩
                rw [← e443]
                have hI443 : hpInv τ443 := by rw [e443]; exact hI441.w ((bw_201 3).trans (show hpwb 3 = (0, 8) by decide)) (by omega) (by omega)
                have hF443 : ∀ j i : Nat, (j ≠ 195 ∨ (i ≠ 8 ∧ i ≠ 9 ∧ i ≠ 10 ∧ i ≠ 11 ∧ i ≠ 12 ∧ i ≠ 13)) → (j ≠ 201 ∨ i = 6) → τ443 j i = σ j i := fun j i h_0 h_1 => by rw [e443]; exact (hpw_fr (by omega)).trans (hF441 j i h_0 h_1)
                have hg444 : τ443 201 3 = r442 + 1 := by rw [e443]; exact hpw_eq
                refine h_goto (tgt := 179) C dX9_readNext_118 (by decide) ?_
                refine h_return C hr hlk dX9_readNext_179 ?_
                exact ⟨rfl, hI443, hF443, fun _ => by omega⟩
            · refine h_return C hr hlk dX9_readNext_75 ?_
              exact ⟨rfl, hI420, hF420, by omega⟩
      · refine h_aload_n C dX9_readNext_32 0 rfl rfl ?_
        refine h_get C O9 14 kd_195 (by decide) wd_1270 dX9_readNext_33 fr_195_14 ?_
        refine h_iconst C dX9_readNext_36 ?_
        refine h_iaload C dX9_readNext_37 kd_201 3 rfl (by rw [ln_201]; decide) rfl ?_
        obtain ⟨hr445a, hr445b⟩ := hI369.b ((bw_201 3).trans (show hpwb 3 = (0, 8) by decide))
        generalize hg445 : τ369 201 3 = r445 at hr445a hr445b ⊢
        refine h_bipush C dX9_readNext_38 (by decide) ?_
        refine h_icmp_eq (tgt := 63) C dX9_readNext_40 (by decide) ⟨by omega, by omega⟩ ⟨by decide, by decide⟩ (fun h446 => ?_) (fun h446 => ?_)
        · refine h_aload_n C dX9_readNext_63 0 rfl rfl ?_
          refine h_iconst C dX9_readNext_64 ?_
          refine h_callV (As := [.int (hpI 3)]) (rest := []) C Z yyX9_errs wd_1465 (tgX9_errs l D cy z _ 3 ⟨by decide, by decide⟩ hI369 (by omega)) kd_195 rfl rfl ⟨rfl, rfl, Nat.le_of_ble_eq_true rfl, Nat.le_of_ble_eq_true rfl⟩ ⟨Nat.le_of_ble_eq_true rfl, Nat.le_of_ble_eq_true rfl⟩ (Nat.le_of_ble_eq_true rfl) dX9_readNext_65 (fun r447 τ447 hp447 => ?_)
          obtain ⟨rfl, hI447, hG447, hq447_0⟩ := hp447
          have hF447 : ∀ j i : Nat, (j ≠ 195 ∨ (i ≠ 8 ∧ i ≠ 9 ∧ i ≠ 10 ∧ i ≠ 11 ∧ i ≠ 12 ∧ i ≠ 13)) → (j ≠ 201 ∨ i = 6) → τ447 j i = σ j i := fun j i h_0 h_1 => (hG447 j i (by omega)).trans (hF369 j i h_0 h_1)
          have hg448 : τ447 201 3 = r445 := (hG447 201 3 (by omega)).trans hg445
          show hpV _ _ _ _ _ _ _ _ _ _ _ _ _ _ _ _ _ _ _ _ _ []
          refine h_aload_n C dX9_readNext_68 0 rfl rfl ?_
          refine h_callV (As := []) (rest := []) C Z yyX9_good wd_1438 (tgX9_good l D cy z _ hI447) kd_195 rfl rfl ⟨rfl, rfl, Nat.le_of_ble_eq_true rfl, Nat.le_of_ble_eq_true rfl⟩ ⟨Nat.le_of_ble_eq_true rfl, Nat.le_of_ble_eq_true rfl⟩ (Nat.le_of_ble_eq_true rfl) dX9_readNext_69 (fun r449 τ449 hp449 => ?_)
          obtain ⟨⟨x449, rfl, ⟨hx449a, hx449b⟩, hx449⟩, rfl⟩ := hp449
          show hpV _ _ _ _ _ _ _ _ _ _ _ _ _ _ _ _ _ _ _ _ _ (_ :: _)
          refine h_if_ne (tgt := 76) C dX9_readNext_72 (by decide) ⟨by omega, by omega⟩ (fun h450 => ?_) (fun h450 => ?_)
          · refine h_aload_n C dX9_readNext_76 0 rfl rfl ?_
            refine h_ldcS (i := 12) C Z (by decide) rfl dX9_readNext_77 ?_
            refine h_callV (As := [.ref (cy (1000 + 12))]) (rest := []) C Z yyX9_takes wd_1455 (tgX9_takes l D cy z _ 12 (by decide) hI447) kd_195 rfl rfl ⟨rfl, rfl, Nat.le_of_ble_eq_true rfl, Nat.le_of_ble_eq_true rfl⟩ ⟨Nat.le_of_ble_eq_true rfl, Nat.le_of_ble_eq_true rfl⟩ (Nat.le_of_ble_eq_true rfl) dX9_readNext_79 (fun r451 τ451 hp451 => ?_)
            obtain ⟨⟨x451, rfl, ⟨hx451a, hx451b⟩, hx451⟩, hI451, hG451⟩ := hp451
            have hF451 : ∀ j i : Nat, (j ≠ 195 ∨ (i ≠ 8 ∧ i ≠ 9 ∧ i ≠ 10 ∧ i ≠ 11 ∧ i ≠ 12 ∧ i ≠ 13)) → (j ≠ 201 ∨ i = 6) → τ451 j i = σ j i := fun j i h_0 h_1 => (hG451 j i (by omega)).trans (hF447 j i h_0 h_1)
            have hg452 : τ451 201 3 = r445 := (hG451 201 3 (by omega)).trans hg448
            show hpV _ _ _ _ _ _ _ _ _ _ _ _ _ _ _ _ _ _ _ _ _ (_ :: _)
            refine h_if_eq (tgt := 121) C dX9_readNext_82 (by decide) ⟨by omega, by omega⟩ (fun h453 => ?_) (fun h453 => ?_)
            · refine h_aload_n C dX9_readNext_121 0 rfl rfl ?_
              refine h_callV (As := []) (rest := []) C Z yyX9_advance wd_1424 (tgX9_advance l D cy z _ hI451) kd_195 rfl rfl ⟨rfl, rfl, Nat.le_of_ble_eq_true rfl, Nat.le_of_ble_eq_true rfl⟩ ⟨Nat.le_of_ble_eq_true rfl, Nat.le_of_ble_eq_true rfl⟩ (Nat.le_of_ble_eq_true rfl) dX9_readNext_122 (fun r454 τ454 hp454 => ?_)
              obtain ⟨rfl, hI454, hG454⟩ := hp454
              have hF454 : ∀ j i : Nat, (j ≠ 195 ∨ (i ≠ 8 ∧ i ≠ 9 ∧ i ≠ 10 ∧ i ≠ 11 ∧ i ≠ 12 ∧ i ≠ 13)) → (j ≠ 201 ∨ i = 6) → τ454 j i = σ j i := fun j i h_0 h_1 => (hG454 j i (by omega)).trans (hF451 j i h_0 h_1)
              have hg455 : τ454 201 3 = r445 := (hG454 201 3 (by omega)).trans hg452
              show hpV _ _ _ _ _ _ _ _ _ _ _ _ _ _ _ _ _ _ _ _ _ []
              refine h_bipush C dX9_readNext_125 (by decide) ?_
              refine h_iconst C dX9_readNext_127 ?_
              refine h_aload_n C dX9_readNext_128 0 rfl rfl ?_
              refine h_get C O9 14 kd_195 (by decide) wd_1270 dX9_readNext_129 fr_195_14 ?_
              refine h_iconst C dX9_readNext_132 ?_
              refine h_iaload C dX9_readNext_133 kd_201 4 rfl (by rw [ln_201]; decide) rfl ?_
              obtain ⟨hr456a, hr456b⟩ := hI454.b ((bw_201 4).trans (show hpwb 4 = (0, 6) by decide))
              generalize hg456 : τ454 201 4 = r456 at hr456a hr456b ⊢
              refine h_imul C dX9_readNext_134 rfl ?_
              refine h_iadd C dX9_readNext_135 rfl ?_
              refine h_istore_n (lv' := [(1, .int (hpI (15 + (2 * r456)))), (0, .ref (z + 195))]) C dX9_readNext_136 rfl (by decide) rfl ?_
              refine h_aload_n C dX9_readNext_137 1 rfl rfl ?_
              refine h_get C O9 14 kd_195 (by decide) wd_1270 dX9_readNext_138 fr_195_14 ?_
              refine h_iload_n C dX9_readNext_141 0 rfl rfl ?_
              refine h_aload_n C dX9_readNext_142 1 rfl rfl ?_
              refine h_ldcS (i := 14) C Z (by decide) rfl dX9_readNext_143 ?_
              refine h_iconst C dX9_readNext_145 ?_
              refine h_bipush C dX9_readNext_146 (by decide) ?_
              refine h_callV (As := [.ref (cy (1000 + 14)), .int (hpI 1), .int (hpI 20)]) (rest := [.int (hpI (15 + (2 * r456))), .ref (z + 201)]) C Z yyX9_toldBy wd_1470 (tgX9_toldBy l D cy z _ 14 (by decide) 1 ⟨by decide, by decide⟩ 20 ⟨by decide, by decide⟩ hI454 (by omega)) kd_195 rfl rfl ⟨rfl, rfl, Nat.le_of_ble_eq_true rfl, Nat.le_of_ble_eq_true rfl⟩ ⟨Nat.le_of_ble_eq_true rfl, Nat.le_of_ble_eq_true rfl⟩ (Nat.le_of_ble_eq_true rfl) dX9_readNext_148 (fun r457 τ457 hp457 => ?_)
              obtain ⟨⟨x457, rfl, ⟨hx457a, hx457b⟩, hx457⟩, hI457, hG457⟩ := hp457
              have hF457 : ∀ j i : Nat, (j ≠ 195 ∨ (i ≠ 8 ∧ i ≠ 9 ∧ i ≠ 10 ∧ i ≠ 11 ∧ i ≠ 12 ∧ i ≠ 13)) → (j ≠ 201 ∨ i = 6) → τ457 j i = σ j i := fun j i h_0 h_1 => (hG457 j i (by omega)).trans (hF454 j i h_0 h_1)
              have hg458 : τ457 201 3 = r445 := (hG457 201 3 (by omega)).trans hg455
              have hg459 : τ457 201 4 = r456 := (hG457 201 4 (by omega)).trans hg456
              show hpV _ _ _ _ _ _ _ _ _ _ _ _ _ _ _ _ _ _ _ _ _ (_ :: _)
              refine h_iastore C dX9_readNext_151 kd_201 (15 + (2 * r456)).toNat (Int.toNat_of_nonneg (by omega)) (by rw [ln_201]; omega) ?_
              obtain ⟨τ460, e460⟩ : ∃ μ : hpMem, μ = hpw τ457 201 ((15 + (2 * r456)).toNat) x457 := ⟨_, rfl⟩
              rw [← e460]
              have hI460 : hpInv τ460 := by rw [e460]; exact hpInv.w201 hI457 ((15 + (2 * r456)).toNat) 15 27 (0) 20 (by omega) (by omega) (by decide) (by omega) (by omega)
              have hF460 : ∀ j i : Nat, (j ≠ 195 ∨ (i ≠ 8 ∧ i ≠ 9 ∧ i ≠ 10 ∧ i ≠ 11 ∧ i ≠ 12 ∧ i ≠ 13)) → (j ≠ 201 ∨ i = 6) → τ460 j i = σ j i := fun j i h_0 h_1 => by rw [e460]; exact (hpw_fr (by omega)).trans (hF457 j i h_0 h_1)
              refine h_aload_n C dX9_readNext_152 1 rfl rfl ?_
              refine h_get C O9 14 kd_195 (by decide) wd_1270 dX9_readNext_153 fr_195_14 ?_
              refine h_iload_n C dX9_readNext_156 0 rfl rfl ?_
              refine h_iconst C dX9_readNext_157 ?_
              refine h_iadd C dX9_readNext_158 rfl ?_
              refine h_aload_n C dX9_readNext_159 1 rfl rfl ?_
              refine h_ldcS (i := 15) C Z (by decide) rfl dX9_readNext_160 ?_
              refine h_iconst C dX9_readNext_162 ?_
              refine h_bipush C dX9_readNext_163 (by decide) ?_
              refine h_callV (As := [.ref (cy (1000 + 15)), .int (hpI 0), .int (hpI 15)]) (rest := [.int (hpI ((15 + (2 * r456)) + 1)), .ref (z + 201)]) C Z yyX9_toldBy wd_1470 (tgX9_toldBy l D cy z _ 15 (by decide) 0 ⟨by decide, by decide⟩ 15 ⟨by decide, by decide⟩ hI460 (by omega)) kd_195 rfl rfl ⟨rfl, rfl, Nat.le_of_ble_eq_true rfl, Nat.le_of_ble_eq_true rfl⟩ ⟨Nat.le_of_ble_eq_true rfl, Nat.le_of_ble_eq_true rfl⟩ (Nat.le_of_ble_eq_true rfl) dX9_readNext_165 (fun r461 τ461 hp461 => ?_)
              obtain ⟨⟨x461, rfl, ⟨hx461a, hx461b⟩, hx461⟩, hI461, hG461⟩ := hp461
              have hF461 : ∀ j i : Nat, (j ≠ 195 ∨ (i ≠ 8 ∧ i ≠ 9 ∧ i ≠ 10 ∧ i ≠ 11 ∧ i ≠ 12 ∧ i ≠ 13)) → (j ≠ 201 ∨ i = 6) → τ461 j i = σ j i := fun j i h_0 h_1 => (hG461 j i (by omega)).trans (hF460 j i h_0 h_1)
              show hpV _ _ _ _ _ _ _ _ _ _ _ _ _ _ _ _ _ _ _ _ _ (_ :: _)
              refine h_iastore C dX9_readNext_168 kd_201 ((15 + (2 * r456)) + 1).toNat (Int.toNat_of_nonneg (by omega)) (by rw [ln_201]; omega) ?_
              obtain ⟨τ462, e462⟩ : ∃ μ : hpMem, μ = hpw τ461 201 (((15 + (2 * r456)) + 1).toNat) x461 := ⟨_, rfl⟩
              rw [← e462]
              have hI462 : hpInv τ462 := by rw [e462]; exact hpInv.w201 hI461 (((15 + (2 * r456)) + 1).toNat) 16 28 (0) 20 (by omega) (by omega) (by decide) (by omega) (by omega)
              have hF462 : ∀ j i : Nat, (j ≠ 195 ∨ (i ≠ 8 ∧ i ≠ 9 ∧ i ≠ 10 ∧ i ≠ 11 ∧ i ≠ 12 ∧ i ≠ 13)) → (j ≠ 201 ∨ i = 6) → τ462 j i = σ j i := fun j i h_0 h_1 => by rw [e462]; exact (hpw_fr (by omega)).trans (hF461 j i h_0 h_1)
              refine h_aload_n C dX9_readNext_169 1 rfl rfl ?_
              refine h_get C O9 14 kd_195 (by decide) wd_1270 dX9_readNext_170 fr_195_14 ?_
              refine h_iconst C dX9_readNext_173 ?_
              refine h_dup2 C rfl rfl dX9_readNext_174 ?_
              refine h_iaload C dX9_readNext_175 kd_201 4 rfl (by rw [ln_201]; decide) rfl ?_
              obtain ⟨hr463a, hr463b⟩ := hI462.b ((bw_201 4).trans (show hpwb 4 = (0, 6) by decide))
              generalize hg463 : τ462 201 4 = r463 at hr463a hr463b ⊢
              refine h_iconst C dX9_readNext_176 ?_
              refine h_iadd C dX9_readNext_177 rfl ?_
              refine h_iastore C dX9_readNext_178 kd_201 4 rfl (by rw [ln_201]; decide) ?_
              obtain ⟨τ464, e464⟩ : ∃ μ : hpMem, μ = hpw τ462 201 4 (r463 + 1) := ⟨_, rfl⟩
              rw [← e464]
              have hI464 : hpInv τ464 := by rw [e464]; exact hI462.w ((bw_201 4).trans (show hpwb 4 = (0, 6) by decide)) (by omega) (by omega)
              have hF464 : ∀ j i : Nat, (j ≠ 195 ∨ (i ≠ 8 ∧ i ≠ 9 ∧ i ≠ 10 ∧ i ≠ 11 ∧ i ≠ 12 ∧ i ≠ 13)) → (j ≠ 201 ∨ i = 6) → τ464 j i = σ j i := fun j i h_0 h_1 => by rw [e464]; exact (hpw_fr (by omega)).trans (hF462 j i h_0 h_1)
              have hg465 : τ464 201 4 = r463 + 1 := by rw [e464]; exact hpw_eq
              refine h_return C hr hlk dX9_readNext_179 ?_
              exact ⟨rfl, hI464, hF464, fun _ => by omega⟩
            · refine h_aload_n C dX9_readNext_85 0 rfl rfl ?_
              refine h_get C O9 14 kd_195 (by decide) wd_1270 dX9_readNext_86 fr_195_14 ?_
              refine h_bipush C dX9_readNext_89 (by decide) ?_
              refine h_aload_n C dX9_readNext_91 0 rfl rfl ?_
              refine h_get C O9 14 kd_195 (by decide) wd_1270 dX9_readNext_92 fr_195_14 ?_
              refine h_iconst C dX9_readNext_95 ?_
              refine h_iaload C dX9_readNext_96 kd_201 3 rfl (by rw [ln_201]; decide) rfl ?_
              rw [hg452]
              refine h_iadd C dX9_readNext_97 rfl ?_
              refine h_aload_n C dX9_readNext_98 0 rfl rfl ?_
              refine h_ldcS (i := 14) C Z (by decide) rfl dX9_readNext_99 ?_
              refine h_iconst C dX9_readNext_101 ?_
              refine h_bipush C dX9_readNext_102 (by decide) ?_
              refine h_callV (As := [.ref (cy (1000 + 14)), .int (hpI 1), .int (hpI 20)]) (rest := [.int (hpI (7 + r445)), .ref (z + 201)]) C Z yyX9_toldBy wd_1470 (tgX9_toldBy l D cy z _ 14 (by decide) 1 ⟨by decide, by decide⟩ 20 ⟨by decide, by decide⟩ hI451 (by omega)) kd_195 rfl rfl ⟨rfl, rfl, Nat.le_of_ble_eq_true rfl, Nat.le_of_ble_eq_true rfl⟩ ⟨Nat.le_of_ble_eq_true rfl, Nat.le_of_ble_eq_true rfl⟩ (Nat.le_of_ble_eq_true rfl) dX9_readNext_104 (fun r466 τ466 hp466 => ?_)
              obtain ⟨⟨x466, rfl, ⟨hx466a, hx466b⟩, hx466⟩, hI466, hG466⟩ := hp466
              have hF466 : ∀ j i : Nat, (j ≠ 195 ∨ (i ≠ 8 ∧ i ≠ 9 ∧ i ≠ 10 ∧ i ≠ 11 ∧ i ≠ 12 ∧ i ≠ 13)) → (j ≠ 201 ∨ i = 6) → τ466 j i = σ j i := fun j i h_0 h_1 => (hG466 j i (by omega)).trans (hF451 j i h_0 h_1)
              have hg467 : τ466 201 3 = r445 := (hG466 201 3 (by omega)).trans hg452
              show hpV _ _ _ _ _ _ _ _ _ _ _ _ _ _ _ _ _ _ _ _ _ (_ :: _)
              refine h_iastore C dX9_readNext_107 kd_201 (7 + r445).toNat (Int.toNat_of_nonneg (by omega)) (by rw [ln_201]; omega) ?_
              obtain ⟨τ468, e468⟩ : ∃ μ : hpMem, μ = hpw τ466 201 ((7 + r445).toNat) x466 := ⟨_, rfl⟩
              rw [← e468]
              have hI468 : hpInv τ468 := by rw [e468]; exact hpInv.w201 hI466 ((7 + r445).toNat) 15 15 (0) 20 (by omega) (by omega) (by decide) (by omega) (by omega)
              have hF468 : ∀ j i : Nat, (j ≠ 195 ∨ (i ≠ 8 ∧ i ≠ 9 ∧ i ≠ 10 ∧ i ≠ 11 ∧ i ≠ 12 ∧ i ≠ 13)) → (j ≠ 201 ∨ i = 6) → τ468 j i = σ j i := fun j i h_0 h_1 => by rw [e468]; exact (hpw_fr (by omega)).trans (hF466 j i h_0 h_1)
              refine h_aload_n C dX9_readNext_108 0 rfl rfl ?_
              refine h_get C O9 14 kd_195 (by decide) wd_1270 dX9_readNext_109 fr_195_14 ?_
              refine h_iconst C dX9_readNext_112 ?_
              refine h_dup2 C rfl rfl dX9_readNext_113 ?_
              refine h_iaload C dX9_readNext_114 kd_201 3 rfl (by rw [ln_201]; decide) rfl ?_
              obtain ⟨hr469a, hr469b⟩ := hI468.b ((bw_201 3).trans (show hpwb 3 = (0, 8) by decide))
              generalize hg469 : τ468 201 3 = r469 at hr469a hr469b ⊢
              refine h_iconst C dX9_readNext_115 ?_
              refine h_iadd C dX9_readNext_116 rfl ?_
              refine h_iastore C dX9_readNext_117 kd_201 3 rfl (by rw [ln_201]; decide) ?_
              obtain ⟨τ470, e470⟩ : ∃ μ : hpMem, μ = hpw τ468 201 3 (r469 + 1) := ⟨_, rfl⟩
              rw [← e470]
              have hI470 : hpInv τ470 := by rw [e470]; exact hI468.w ((bw_201 3).trans (show hpwb 3 = (0, 8) by decide)) (by omega) (by omega)
              have hF470 : ∀ j i : Nat, (j ≠ 195 ∨ (i ≠ 8 ∧ i ≠ 9 ∧ i ≠ 10 ∧ i ≠ 11 ∧ i ≠ 12 ∧ i ≠ 13)) → (j ≠ 201 ∨ i = 6) → τ470 j i = σ j i := fun j i h_0 h_1 => by rw [e470]; exact (hpw_fr (by omega)).trans (hF468 j i h_0 h_1)
              have hg471 : τ470 201 3 = r469 + 1 := by rw [e470]; exact hpw_eq
              refine h_goto (tgt := 179) C dX9_readNext_118 (by decide) ?_
              refine h_return C hr hlk dX9_readNext_179 ?_
              exact ⟨rfl, hI470, hF470, fun _ => by omega⟩
          · refine h_return C hr hlk dX9_readNext_75 ?_
            exact ⟨rfl, hI447, hF447, by omega⟩
        · refine h_aload_n C dX9_readNext_43 0 rfl rfl ?_
          refine h_ldcS (i := 13) C Z (by decide) rfl dX9_readNext_44 ?_
          refine h_callV (As := [.ref (cy (1000 + 13))]) (rest := []) C Z yyX9_is wd_1459 (tgX9_is l D cy z _ 13 (by decide) hI369) kd_195 rfl rfl ⟨rfl, rfl, Nat.le_of_ble_eq_true rfl, Nat.le_of_ble_eq_true rfl⟩ ⟨Nat.le_of_ble_eq_true rfl, Nat.le_of_ble_eq_true rfl⟩ (Nat.le_of_ble_eq_true rfl) dX9_readNext_46 (fun r472 τ472 hp472 => ?_)
          obtain ⟨⟨x472, rfl, ⟨hx472a, hx472b⟩, hx472⟩, rfl⟩ := hp472
          show hpV _ _ _ _ _ _ _ _ _ _ _ _ _ _ _ _ _ _ _ _ _ (_ :: _)
          refine h_if_eq (tgt := 68) C dX9_readNext_49 (by decide) ⟨by omega, by omega⟩ (fun h473 => ?_) (fun h473 => ?_)
          · refine h_aload_n C dX9_readNext_68 0 rfl rfl ?_
            refine h_callV (As := []) (rest := []) C Z yyX9_good wd_1438 (tgX9_good l D cy z _ hI369) kd_195 rfl rfl ⟨rfl, rfl, Nat.le_of_ble_eq_true rfl, Nat.le_of_ble_eq_true rfl⟩ ⟨Nat.le_of_ble_eq_true rfl, Nat.le_of_ble_eq_true rfl⟩ (Nat.le_of_ble_eq_true rfl) dX9_readNext_69 (fun r474 τ474 hp474 => ?_)
            obtain ⟨⟨x474, rfl, ⟨hx474a, hx474b⟩, hx474⟩, rfl⟩ := hp474
            show hpV _ _ _ _ _ _ _ _ _ _ _ _ _ _ _ _ _ _ _ _ _ (_ :: _)
            refine h_if_ne (tgt := 76) C dX9_readNext_72 (by decide) ⟨by omega, by omega⟩ (fun h475 => ?_) (fun h475 => ?_)
            · refine h_aload_n C dX9_readNext_76 0 rfl rfl ?_
              refine h_ldcS (i := 12) C Z (by decide) rfl dX9_readNext_77 ?_
              refine h_callV (As := [.ref (cy (1000 + 12))]) (rest := []) C Z yyX9_takes wd_1455 (tgX9_takes l D cy z _ 12 (by decide) hI369) kd_195 rfl rfl ⟨rfl, rfl, Nat.le_of_ble_eq_true rfl, Nat.le_of_ble_eq_true rfl⟩ ⟨Nat.le_of_ble_eq_true rfl, Nat.le_of_ble_eq_true rfl⟩ (Nat.le_of_ble_eq_true rfl) dX9_readNext_79 (fun r476 τ476 hp476 => ?_)
              obtain ⟨⟨x476, rfl, ⟨hx476a, hx476b⟩, hx476⟩, hI476, hG476⟩ := hp476
              have hF476 : ∀ j i : Nat, (j ≠ 195 ∨ (i ≠ 8 ∧ i ≠ 9 ∧ i ≠ 10 ∧ i ≠ 11 ∧ i ≠ 12 ∧ i ≠ 13)) → (j ≠ 201 ∨ i = 6) → τ476 j i = σ j i := fun j i h_0 h_1 => (hG476 j i (by omega)).trans (hF369 j i h_0 h_1)
              have hg477 : τ476 201 3 = r445 := (hG476 201 3 (by omega)).trans hg445
              show hpV _ _ _ _ _ _ _ _ _ _ _ _ _ _ _ _ _ _ _ _ _ (_ :: _)
              refine h_if_eq (tgt := 121) C dX9_readNext_82 (by decide) ⟨by omega, by omega⟩ (fun h478 => ?_) (fun h478 => ?_)
              · refine h_aload_n C dX9_readNext_121 0 rfl rfl ?_
                refine h_callV (As := []) (rest := []) C Z yyX9_advance wd_1424 (tgX9_advance l D cy z _ hI476) kd_195 rfl rfl ⟨rfl, rfl, Nat.le_of_ble_eq_true rfl, Nat.le_of_ble_eq_true rfl⟩ ⟨Nat.le_of_ble_eq_true rfl, Nat.le_of_ble_eq_true rfl⟩ (Nat.le_of_ble_eq_true rfl) dX9_readNext_122 (fun r479 τ479 hp479 => ?_)
                obtain ⟨rfl, hI479, hG479⟩ := hp479
                have hF479 : ∀ j i : Nat, (j ≠ 195 ∨ (i ≠ 8 ∧ i ≠ 9 ∧ i ≠ 10 ∧ i ≠ 11 ∧ i ≠ 12 ∧ i ≠ 13)) → (j ≠ 201 ∨ i = 6) → τ479 j i = σ j i := fun j i h_0 h_1 => (hG479 j i (by omega)).trans (hF476 j i h_0 h_1)
                have hg480 : τ479 201 3 = r445 := (hG479 201 3 (by omega)).trans hg477
                show hpV _ _ _ _ _ _ _ _ _ _ _ _ _ _ _ _ _ _ _ _ _ []
                refine h_bipush C dX9_readNext_125 (by decide) ?_
                refine h_iconst C dX9_readNext_127 ?_
                refine h_aload_n C dX9_readNext_128 0 rfl rfl ?_
                refine h_get C O9 14 kd_195 (by decide) wd_1270 dX9_readNext_129 fr_195_14 ?_
                refine h_iconst C dX9_readNext_132 ?_
                refine h_iaload C dX9_readNext_133 kd_201 4 rfl (by rw [ln_201]; decide) rfl ?_
                obtain ⟨hr481a, hr481b⟩ := hI479.b ((bw_201 4).trans (show hpwb 4 = (0, 6) by decide))
                generalize hg481 : τ479 201 4 = r481 at hr481a hr481b ⊢
                refine h_imul C dX9_readNext_134 rfl ?_
                refine h_iadd C dX9_readNext_135 rfl ?_
                refine h_istore_n (lv' := [(1, .int (hpI (15 + (2 * r481)))), (0, .ref (z + 195))]) C dX9_readNext_136 rfl (by decide) rfl ?_
                refine h_aload_n C dX9_readNext_137 1 rfl rfl ?_
                refine h_get C O9 14 kd_195 (by decide) wd_1270 dX9_readNext_138 fr_195_14 ?_
                refine h_iload_n C dX9_readNext_141 0 rfl rfl ?_
                refine h_aload_n C dX9_readNext_142 1 rfl rfl ?_
                refine h_ldcS (i := 14) C Z (by decide) rfl dX9_readNext_143 ?_
                refine h_iconst C dX9_readNext_145 ?_
                refine h_bipush C dX9_readNext_146 (by decide) ?_
                refine h_callV (As := [.ref (cy (1000 + 14)), .int (hpI 1), .int (hpI 20)]) (rest := [.int (hpI (15 + (2 * r481))), .ref (z + 201)]) C Z yyX9_toldBy wd_1470 (tgX9_toldBy l D cy z _ 14 (by decide) 1 ⟨by decide, by decide⟩ 20 ⟨by decide, by decide⟩ hI479 (by omega)) kd_195 rfl rfl ⟨rfl, rfl, Nat.le_of_ble_eq_true rfl, Nat.le_of_ble_eq_true rfl⟩ ⟨Nat.le_of_ble_eq_true rfl, Nat.le_of_ble_eq_true rfl⟩ (Nat.le_of_ble_eq_true rfl) dX9_readNext_148 (fun r482 τ482 hp482 => ?_)
                obtain ⟨⟨x482, rfl, ⟨hx482a, hx482b⟩, hx482⟩, hI482, hG482⟩ := hp482
                have hF482 : ∀ j i : Nat, (j ≠ 195 ∨ (i ≠ 8 ∧ i ≠ 9 ∧ i ≠ 10 ∧ i ≠ 11 ∧ i ≠ 12 ∧ i ≠ 13)) → (j ≠ 201 ∨ i = 6) → τ482 j i = σ j i := fun j i h_0 h_1 => (hG482 j i (by omega)).trans (hF479 j i h_0 h_1)
                have hg483 : τ482 201 3 = r445 := (hG482 201 3 (by omega)).trans hg480
                have hg484 : τ482 201 4 = r481 := (hG482 201 4 (by omega)).trans hg481
                show hpV _ _ _ _ _ _ _ _ _ _ _ _ _ _ _ _ _ _ _ _ _ (_ :: _)
                refine h_iastore C dX9_readNext_151 kd_201 (15 + (2 * r481)).toNat (Int.toNat_of_nonneg (by omega)) (by rw [ln_201]; omega) ?_
                obtain ⟨τ485, e485⟩ : ∃ μ : hpMem, μ = hpw τ482 201 ((15 + (2 * r481)).toNat) x482 := ⟨_, rfl⟩
                rw [← e485]
                have hI485 : hpInv τ485 := by rw [e485]; exact hpInv.w201 hI482 ((15 + (2 * r481)).toNat) 15 27 (0) 20 (by omega) (by omega) (by decide) (by omega) (by omega)
                have hF485 : ∀ j i : Nat, (j ≠ 195 ∨ (i ≠ 8 ∧ i ≠ 9 ∧ i ≠ 10 ∧ i ≠ 11 ∧ i ≠ 12 ∧ i ≠ 13)) → (j ≠ 201 ∨ i = 6) → τ485 j i = σ j i := fun j i h_0 h_1 => by rw [e485]; exact (hpw_fr (by omega)).trans (hF482 j i h_0 h_1)
                refine h_aload_n C dX9_readNext_152 1 rfl rfl ?_
                refine h_get C O9 14 kd_195 (by decide) wd_1270 dX9_readNext_153 fr_195_14 ?_
                refine h_iload_n C dX9_readNext_156 0 rfl rfl ?_
                refine h_iconst C dX9_readNext_157 ?_
                refine h_iadd C dX9_readNext_158 rfl ?_
                refine h_aload_n C dX9_readNext_159 1 rfl rfl ?_
                refine h_ldcS (i := 15) C Z (by decide) rfl dX9_readNext_160 ?_
                refine h_iconst C dX9_readNext_162 ?_
                refine h_bipush C dX9_readNext_163 (by decide) ?_
                refine h_callV (As := [.ref (cy (1000 + 15)), .int (hpI 0), .int (hpI 15)]) (rest := [.int (hpI ((15 + (2 * r481)) + 1)), .ref (z + 201)]) C Z yyX9_toldBy wd_1470 (tgX9_toldBy l D cy z _ 15 (by decide) 0 ⟨by decide, by decide⟩ 15 ⟨by decide, by decide⟩ hI485 (by omega)) kd_195 rfl rfl ⟨rfl, rfl, Nat.le_of_ble_eq_true rfl, Nat.le_of_ble_eq_true rfl⟩ ⟨Nat.le_of_ble_eq_true rfl, Nat.le_of_ble_eq_true rfl⟩ (Nat.le_of_ble_eq_true rfl) dX9_readNext_165 (fun r486 τ486 hp486 => ?_)
                obtain ⟨⟨x486, rfl, ⟨hx486a, hx486b⟩, hx486⟩, hI486, hG486⟩ := hp486
                have hF486 : ∀ j i : Nat, (j ≠ 195 ∨ (i ≠ 8 ∧ i ≠ 9 ∧ i ≠ 10 ∧ i ≠ 11 ∧ i ≠ 12 ∧ i ≠ 13)) → (j ≠ 201 ∨ i = 6) → τ486 j i = σ j i := fun j i h_0 h_1 => (hG486 j i (by omega)).trans (hF485 j i h_0 h_1)
                show hpV _ _ _ _ _ _ _ _ _ _ _ _ _ _ _ _ _ _ _ _ _ (_ :: _)
                refine h_iastore C dX9_readNext_168 kd_201 ((15 + (2 * r481)) + 1).toNat (Int.toNat_of_nonneg (by omega)) (by rw [ln_201]; omega) ?_
                obtain ⟨τ487, e487⟩ : ∃ μ : hpMem, μ = hpw τ486 201 (((15 + (2 * r481)) + 1).toNat) x486 := ⟨_, rfl⟩
                rw [← e487]
                have hI487 : hpInv τ487 := by rw [e487]; exact hpInv.w201 hI486 (((15 + (2 * r481)) + 1).toNat) 16 28 (0) 20 (by omega) (by omega) (by decide) (by omega) (by omega)
                have hF487 : ∀ j i : Nat, (j ≠ 195 ∨ (i ≠ 8 ∧ i ≠ 9 ∧ i ≠ 10 ∧ i ≠ 11 ∧ i ≠ 12 ∧ i ≠ 13)) → (j ≠ 201 ∨ i = 6) → τ487 j i = σ j i := fun j i h_0 h_1 => by rw [e487]; exact (hpw_fr (by omega)).trans (hF486 j i h_0 h_1)
                refine h_aload_n C dX9_readNext_169 1 rfl rfl ?_
                refine h_get C O9 14 kd_195 (by decide) wd_1270 dX9_readNext_170 fr_195_14 ?_
                refine h_iconst C dX9_readNext_173 ?_
                refine h_dup2 C rfl rfl dX9_readNext_174 ?_
                refine h_iaload C dX9_readNext_175 kd_201 4 rfl (by rw [ln_201]; decide) rfl ?_
                obtain ⟨hr488a, hr488b⟩ := hI487.b ((bw_201 4).trans (show hpwb 4 = (0, 6) by decide))
                generalize hg488 : τ487 201 4 = r488 at hr488a hr488b ⊢
                refine h_iconst C dX9_readNext_176 ?_
                refine h_iadd C dX9_readNext_177 rfl ?_
                refine h_iastore C dX9_readNext_178 kd_201 4 rfl (by rw [ln_201]; decide) ?_
                obtain ⟨τ489, e489⟩ : ∃ μ : hpMem, μ = hpw τ487 201 4 (r488 + 1) := ⟨_, rfl⟩
                rw [← e489]
                have hI489 : hpInv τ489 := by rw [e489]; exact hI487.w ((bw_201 4).trans (show hpwb 4 = (0, 6) by decide)) (by omega) (by omega)
                have hF489 : ∀ j i : Nat, (j ≠ 195 ∨ (i ≠ 8 ∧ i ≠ 9 ∧ i ≠ 10 ∧ i ≠ 11 ∧ i ≠ 12 ∧ i ≠ 13)) → (j ≠ 201 ∨ i = 6) → τ489 j i = σ j i := fun j i h_0 h_1 => by rw [e489]; exact (hpw_fr (by omega)).trans (hF487 j i h_0 h_1)
                have hg490 : τ489 201 4 = r488 + 1 := by rw [e489]; exact hpw_eq
                refine h_return C hr hlk dX9_readNext_179 ?_
                exact ⟨rfl, hI489, hF489, fun _ => by omega⟩
              · refine h_aload_n C dX9_readNext_85 0 rfl rfl ?_
                refine h_get C O9 14 kd_195 (by decide) wd_1270 dX9_readNext_86 fr_195_14 ?_
                refine h_bipush C dX9_readNext_89 (by decide) ?_
                refine h_aload_n C dX9_readNext_91 0 rfl rfl ?_
                refine h_get C O9 14 kd_195 (by decide) wd_1270 dX9_readNext_92 fr_195_14 ?_
                refine h_iconst C dX9_readNext_95 ?_
                refine h_iaload C dX9_readNext_96 kd_201 3 rfl (by rw [ln_201]; decide) rfl ?_
                rw [hg477]
                refine h_iadd C dX9_readNext_97 rfl ?_
                refine h_aload_n C dX9_readNext_98 0 rfl rfl ?_
                refine h_ldcS (i := 14) C Z (by decide) rfl dX9_readNext_99 ?_
                refine h_iconst C dX9_readNext_101 ?_
                refine h_bipush C dX9_readNext_102 (by decide) ?_
                refine h_callV (As := [.ref (cy (1000 + 14)), .int (hpI 1), .int (hpI 20)]) (rest := [.int (hpI (7 + r445)), .ref (z + 201)]) C Z yyX9_toldBy wd_1470 (tgX9_toldBy l D cy z _ 14 (by decide) 1 ⟨by decide, by decide⟩ 20 ⟨by decide, by decide⟩ hI476 (by omega)) kd_195 rfl rfl ⟨rfl, rfl, Nat.le_of_ble_eq_true rfl, Nat.le_of_ble_eq_true rfl⟩ ⟨Nat.le_of_ble_eq_true rfl, Nat.le_of_ble_eq_true rfl⟩ (Nat.le_of_ble_eq_true rfl) dX9_readNext_104 (fun r491 τ491 hp491 => ?_)
                obtain ⟨⟨x491, rfl, ⟨hx491a, hx491b⟩, hx491⟩, hI491, hG491⟩ := hp491
                have hF491 : ∀ j i : Nat, (j ≠ 195 ∨ (i ≠ 8 ∧ i ≠ 9 ∧ i ≠ 10 ∧ i ≠ 11 ∧ i ≠ 12 ∧ i ≠ 13)) → (j ≠ 201 ∨ i = 6) → τ491 j i = σ j i := fun j i h_0 h_1 => (hG491 j i (by omega)).trans (hF476 j i h_0 h_1)
                have hg492 : τ491 201 3 = r445 := (hG491 201 3 (by omega)).trans hg477
                show hpV _ _ _ _ _ _ _ _ _ _ _ _ _ _ _ _ _ _ _ _ _ (_ :: _)
                refine h_iastore C dX9_readNext_107 kd_201 (7 + r445).toNat (Int.toNat_of_nonneg (by omega)) (by rw [ln_201]; omega) ?_
                obtain ⟨τ493, e493⟩ : ∃ μ : hpMem, μ = hpw τ491 201 ((7 + r445).toNat) x491 := ⟨_, rfl⟩
                rw [← e493]
                have hI493 : hpInv τ493 := by rw [e493]; exact hpInv.w201 hI491 ((7 + r445).toNat) 7 14 (0) 20 (by omega) (by omega) (by decide) (by omega) (by omega)
                have hF493 : ∀ j i : Nat, (j ≠ 195 ∨ (i ≠ 8 ∧ i ≠ 9 ∧ i ≠ 10 ∧ i ≠ 11 ∧ i ≠ 12 ∧ i ≠ 13)) → (j ≠ 201 ∨ i = 6) → τ493 j i = σ j i := fun j i h_0 h_1 => by rw [e493]; exact (hpw_fr (by omega)).trans (hF491 j i h_0 h_1)
                refine h_aload_n C dX9_readNext_108 0 rfl rfl ?_
                refine h_get C O9 14 kd_195 (by decide) wd_1270 dX9_readNext_109 fr_195_14 ?_
                refine h_iconst C dX9_readNext_112 ?_
                refine h_dup2 C rfl rfl dX9_readNext_113 ?_
                refine h_iaload C dX9_readNext_114 kd_201 3 rfl (by rw [ln_201]; decide) rfl ?_
                obtain ⟨hr494a, hr494b⟩ := hI493.b ((bw_201 3).trans (show hpwb 3 = (0, 8) by decide))
                generalize hg494 : τ493 201 3 = r494 at hr494a hr494b ⊢
                refine h_iconst C dX9_readNext_115 ?_
                refine h_iadd C dX9_readNext_116 rfl ?_
                refine h_iastore C dX9_readNext_117 kd_201 3 rfl (by rw [ln_201]; decide) ?_
                obtain ⟨τ495, e495⟩ : ∃ μ : hpMem, μ = hpw τ493 201 3 (r494 + 1) := ⟨_, rfl⟩
                rw [← e495]
                have hI495 : hpInv τ495 := by rw [e495]; exact hI493.w ((bw_201 3).trans (show hpwb 3 = (0, 8) by decide)) (by omega) (by omega)
                have hF495 : ∀ j i : Nat, (j ≠ 195 ∨ (i ≠ 8 ∧ i ≠ 9 ∧ i ≠ 10 ∧ i ≠ 11 ∧ i ≠ 12 ∧ i ≠ 13)) → (j ≠ 201 ∨ i = 6) → τ495 j i = σ j i := fun j i h_0 h_1 => by rw [e495]; exact (hpw_fr (by omega)).trans (hF493 j i h_0 h_1)
                have hg496 : τ495 201 3 = r494 + 1 := by rw [e495]; exact hpw_eq
                refine h_goto (tgt := 179) C dX9_readNext_118 (by decide) ?_
                refine h_return C hr hlk dX9_readNext_179 ?_
                exact ⟨rfl, hI495, hF495, fun _ => by omega⟩
            · refine h_return C hr hlk dX9_readNext_75 ?_
              exact ⟨rfl, hI369, hF369, by omega⟩
          · refine h_aload_n C dX9_readNext_52 0 rfl rfl ?_
            refine h_get C O9 14 kd_195 (by decide) wd_1270 dX9_readNext_53 fr_195_14 ?_
            refine h_iconst C dX9_readNext_56 ?_
            refine h_iaload C dX9_readNext_57 kd_201 4 rfl (by rw [ln_201]; decide) rfl ?_
            obtain ⟨hr497a, hr497b⟩ := hI369.b ((bw_201 4).trans (show hpwb 4 = (0, 6) by decide))
            generalize hg497 : τ369 201 4 = r497 at hr497a hr497b ⊢
            refine h_bipush C dX9_readNext_58 (by decide) ?_
            refine h_icmp_ne (tgt := 68) C dX9_readNext_60 (by decide) ⟨by omega, by omega⟩ ⟨by decide, by decide⟩ (fun h498 => ?_) (fun h498 => ?_)
            · refine h_aload_n C dX9_readNext_68 0 rfl rfl ?_
              refine h_callV (As := []) (rest := []) C Z yyX9_good wd_1438 (tgX9_good l D cy z _ hI369) kd_195 rfl rfl ⟨rfl, rfl, Nat.le_of_ble_eq_true rfl, Nat.le_of_ble_eq_true rfl⟩ ⟨Nat.le_of_ble_eq_true rfl, Nat.le_of_ble_eq_true rfl⟩ (Nat.le_of_ble_eq_true rfl) dX9_readNext_69 (fun r499 τ499 hp499 => ?_)
              obtain ⟨⟨x499, rfl, ⟨hx499a, hx499b⟩, hx499⟩, rfl⟩ := hp499
              show hpV _ _ _ _ _ _ _ _ _ _ _ _ _ _ _ _ _ _ _ _ _ (_ :: _)
              refine h_if_ne (tgt := 76) C dX9_readNext_72 (by decide) ⟨by omega, by omega⟩ (fun h500 => ?_) (fun h500 => ?_)
              · refine h_aload_n C dX9_readNext_76 0 rfl rfl ?_
                refine h_ldcS (i := 12) C Z (by decide) rfl dX9_readNext_77 ?_
                refine h_callV (As := [.ref (cy (1000 + 12))]) (rest := []) C Z yyX9_takes wd_1455 (tgX9_takes l D cy z _ 12 (by decide) hI369) kd_195 rfl rfl ⟨rfl, rfl, Nat.le_of_ble_eq_true rfl, Nat.le_of_ble_eq_true rfl⟩ ⟨Nat.le_of_ble_eq_true rfl, Nat.le_of_ble_eq_true rfl⟩ (Nat.le_of_ble_eq_true rfl) dX9_readNext_79 (fun r501 τ501 hp501 => ?_)
                obtain ⟨⟨x501, rfl, ⟨hx501a, hx501b⟩, hx501⟩, hI501, hG501⟩ := hp501
                have hF501 : ∀ j i : Nat, (j ≠ 195 ∨ (i ≠ 8 ∧ i ≠ 9 ∧ i ≠ 10 ∧ i ≠ 11 ∧ i ≠ 12 ∧ i ≠ 13)) → (j ≠ 201 ∨ i = 6) → τ501 j i = σ j i := fun j i h_0 h_1 => (hG501 j i (by omega)).trans (hF369 j i h_0 h_1)
                have hg502 : τ501 201 3 = r445 := (hG501 201 3 (by omega)).trans hg445
                have hg503 : τ501 201 4 = r497 := (hG501 201 4 (by omega)).trans hg497
                show hpV _ _ _ _ _ _ _ _ _ _ _ _ _ _ _ _ _ _ _ _ _ (_ :: _)
                refine h_if_eq (tgt := 121) C dX9_readNext_82 (by decide) ⟨by omega, by omega⟩ (fun h504 => ?_) (fun h504 => ?_)
                · refine h_aload_n C dX9_readNext_121 0 rfl rfl ?_
                  refine h_callV (As := []) (rest := []) C Z yyX9_advance wd_1424 (tgX9_advance l D cy z _ hI501) kd_195 rfl rfl ⟨rfl, rfl, Nat.le_of_ble_eq_true rfl, Nat.le_of_ble_eq_true rfl⟩ ⟨Nat.le_of_ble_eq_true rfl, Nat.le_of_ble_eq_true rfl⟩ (Nat.le_of_ble_eq_true rfl) dX9_readNext_122 (fun r505 τ505 hp505 => ?_)
                  obtain ⟨rfl, hI505, hG505⟩ := hp505
                  have hF505 : ∀ j i : Nat, (j ≠ 195 ∨ (i ≠ 8 ∧ i ≠ 9 ∧ i ≠ 10 ∧ i ≠ 11 ∧ i ≠ 12 ∧ i ≠ 13)) → (j ≠ 201 ∨ i = 6) → τ505 j i = σ j i := fun j i h_0 h_1 => (hG505 j i (by omega)).trans (hF501 j i h_0 h_1)
                  have hg506 : τ505 201 3 = r445 := (hG505 201 3 (by omega)).trans hg502
                  have hg507 : τ505 201 4 = r497 := (hG505 201 4 (by omega)).trans hg503
                  show hpV _ _ _ _ _ _ _ _ _ _ _ _ _ _ _ _ _ _ _ _ _ []
                  refine h_bipush C dX9_readNext_125 (by decide) ?_
                  refine h_iconst C dX9_readNext_127 ?_
                  refine h_aload_n C dX9_readNext_128 0 rfl rfl ?_
                  refine h_get C O9 14 kd_195 (by decide) wd_1270 dX9_readNext_129 fr_195_14 ?_
                  refine h_iconst C dX9_readNext_132 ?_
                  refine h_iaload C dX9_readNext_133 kd_201 4 rfl (by rw [ln_201]; decide) rfl ?_
                  rw [hg507]
                  refine h_imul C dX9_readNext_134 rfl ?_
                  refine h_iadd C dX9_readNext_135 rfl ?_
                  refine h_istore_n (lv' := [(1, .int (hpI (15 + (2 * r497)))), (0, .ref (z + 195))]) C dX9_readNext_136 rfl (by decide) rfl ?_
                  refine h_aload_n C dX9_readNext_137 1 rfl rfl ?_
                  refine h_get C O9 14 kd_195 (by decide) wd_1270 dX9_readNext_138 fr_195_14 ?_
                  refine h_iload_n C dX9_readNext_141 0 rfl rfl ?_
                  refine h_aload_n C dX9_readNext_142 1 rfl rfl ?_
                  refine h_ldcS (i := 14) C Z (by decide) rfl dX9_readNext_143 ?_
                  refine h_iconst C dX9_readNext_145 ?_
                  refine h_bipush C dX9_readNext_146 (by decide) ?_
                  refine h_callV (As := [.ref (cy (1000 + 14)), .int (hpI 1), .int (hpI 20)]) (rest := [.int (hpI (15 + (2 * r497))), .ref (z + 201)]) C Z yyX9_toldBy wd_1470 (tgX9_toldBy l D cy z _ 14 (by decide) 1 ⟨by decide, by decide⟩ 20 ⟨by decide, by decide⟩ hI505 (by omega)) kd_195 rfl rfl ⟨rfl, rfl, Nat.le_of_ble_eq_true rfl, Nat.le_of_ble_eq_true rfl⟩ ⟨Nat.le_of_ble_eq_true rfl, Nat.le_of_ble_eq_true rfl⟩ (Nat.le_of_ble_eq_true rfl) dX9_readNext_148 (fun r508 τ508 hp508 => ?_)
                  obtain ⟨⟨x508, rfl, ⟨hx508a, hx508b⟩, hx508⟩, hI508, hG508⟩ := hp508
                  have hF508 : ∀ j i : Nat, (j ≠ 195 ∨ (i ≠ 8 ∧ i ≠ 9 ∧ i ≠ 10 ∧ i ≠ 11 ∧ i ≠ 12 ∧ i ≠ 13)) → (j ≠ 201 ∨ i = 6) → τ508 j i = σ j i := fun j i h_0 h_1 => (hG508 j i (by omega)).trans (hF505 j i h_0 h_1)
                  have hg509 : τ508 201 3 = r445 := (hG508 201 3 (by omega)).trans hg506
                  have hg510 : τ508 201 4 = r497 := (hG508 201 4 (by omega)).trans hg507
                  show hpV _ _ _ _ _ _ _ _ _ _ _ _ _ _ _ _ _ _ _ _ _ (_ :: _)
                  refine h_iastore C dX9_readNext_151 kd_201 (15 + (2 * r497)).toNat (Int.toNat_of_nonneg (by omega)) (by rw [ln_201]; omega) ?_
                  obtain ⟨τ511, e511⟩ : ∃ μ : hpMem, μ = hpw τ508 201 ((15 + (2 * r497)).toNat) x508 := ⟨_, rfl⟩
                  rw [← e511]
                  have hI511 : hpInv τ511 := by rw [e511]; exact hpInv.w201 hI508 ((15 + (2 * r497)).toNat) 15 25 (0) 20 (by omega) (by omega) (by decide) (by omega) (by omega)
                  have hF511 : ∀ j i : Nat, (j ≠ 195 ∨ (i ≠ 8 ∧ i ≠ 9 ∧ i ≠ 10 ∧ i ≠ 11 ∧ i ≠ 12 ∧ i ≠ 13)) → (j ≠ 201 ∨ i = 6) → τ511 j i = σ j i := fun j i h_0 h_1 => by rw [e511]; exact (hpw_fr (by omega)).trans (hF508 j i h_0 h_1)
                  refine h_aload_n C dX9_readNext_152 1 rfl rfl ?_
                  refine h_get C O9 14 kd_195 (by decide) wd_1270 dX9_readNext_153 fr_195_14 ?_
                  refine h_iload_n C dX9_readNext_156 0 rfl rfl ?_
                  refine h_iconst C dX9_readNext_157 ?_
                  refine h_iadd C dX9_readNext_158 rfl ?_
                  refine h_aload_n C dX9_readNext_159 1 rfl rfl ?_
                  refine h_ldcS (i := 15) C Z (by decide) rfl dX9_readNext_160 ?_
                  refine h_iconst C dX9_readNext_162 ?_
                  refine h_bipush C dX9_readNext_163 (by decide) ?_
                  refine h_callV (As := [.ref (cy (1000 + 15)), .int (hpI 0), .int (hpI 15)]) (rest := [.int (hpI ((15 + (2 * r497)) + 1)), .ref (z + 201)]) C Z yyX9_toldBy wd_1470 (tgX9_toldBy l D cy z _ 15 (by decide) 0 ⟨by decide, by decide⟩ 15 ⟨by decide, by decide⟩ hI511 (by omega)) kd_195 rfl rfl ⟨rfl, rfl, Nat.le_of_ble_eq_true rfl, Nat.le_of_ble_eq_true rfl⟩ ⟨Nat.le_of_ble_eq_true rfl, Nat.le_of_ble_eq_true rfl⟩ (Nat.le_of_ble_eq_true rfl) dX9_readNext_165 (fun r512 τ512 hp512 => ?_)
                  obtain ⟨⟨x512, rfl, ⟨hx512a, hx512b⟩, hx512⟩, hI512, hG512⟩ := hp512
                  have hF512 : ∀ j i : Nat, (j ≠ 195 ∨ (i ≠ 8 ∧ i ≠ 9 ∧ i ≠ 10 ∧ i ≠ 11 ∧ i ≠ 12 ∧ i ≠ 13)) → (j ≠ 201 ∨ i = 6) → τ512 j i = σ j i := fun j i h_0 h_1 => (hG512 j i (by omega)).trans (hF511 j i h_0 h_1)
                  show hpV _ _ _ _ _ _ _ _ _ _ _ _ _ _ _ _ _ _ _ _ _ (_ :: _)
                  refine h_iastore C dX9_readNext_168 kd_201 ((15 + (2 * r497)) + 1).toNat (Int.toNat_of_nonneg (by omega)) (by rw [ln_201]; omega) ?_
                  obtain ⟨τ513, e513⟩ : ∃ μ : hpMem, μ = hpw τ512 201 (((15 + (2 * r497)) + 1).toNat) x512 := ⟨_, rfl⟩
                  rw [← e513]
                  have hI513 : hpInv τ513 := by rw [e513]; exact hpInv.w201 hI512 (((15 + (2 * r497)) + 1).toNat) 16 26 (0) 20 (by omega) (by omega) (by decide) (by omega) (by omega)
                  have hF513 : ∀ j i : Nat, (j ≠ 195 ∨ (i ≠ 8 ∧ i ≠ 9 ∧ i ≠ 10 ∧ i ≠ 11 ∧ i ≠ 12 ∧ i ≠ 13)) → (j ≠ 201 ∨ i = 6) → τ513 j i = σ j i := fun j i h_0 h_1 => by rw [e513]; exact (hpw_fr (by omega)).trans (hF512 j i h_0 h_1)
                  refine h_aload_n C dX9_readNext_169 1 rfl rfl ?_
                  refine h_get C O9 14 kd_195 (by decide) wd_1270 dX9_readNext_170 fr_195_14 ?_
                  refine h_iconst C dX9_readNext_173 ?_
                  refine h_dup2 C rfl rfl dX9_readNext_174 ?_
                  refine h_iaload C dX9_readNext_175 kd_201 4 rfl (by rw [ln_201]; decide) rfl ?_
                  obtain ⟨hr514a, hr514b⟩ := hI513.b ((bw_201 4).trans (show hpwb 4 = (0, 6) by decide))
                  generalize hg514 : τ513 201 4 = r514 at hr514a hr514b ⊢
                  refine h_iconst C dX9_readNext_176 ?_
                  refine h_iadd C dX9_readNext_177 rfl ?_
                  refine h_iastore C dX9_readNext_178 kd_201 4 rfl (by rw [ln_201]; decide) ?_
                  obtain ⟨τ515, e515⟩ : ∃ μ : hpMem, μ = hpw τ513 201 4 (r514 + 1) := ⟨_, rfl⟩
                  rw [← e515]
                  have hI515 : hpInv τ515 := by rw [e515]; exact hI513.w ((bw_201 4).trans (show hpwb 4 = (0, 6) by decide)) (by omega) (by omega)
                  have hF515 : ∀ j i : Nat, (j ≠ 195 ∨ (i ≠ 8 ∧ i ≠ 9 ∧ i ≠ 10 ∧ i ≠ 11 ∧ i ≠ 12 ∧ i ≠ 13)) → (j ≠ 201 ∨ i = 6) → τ515 j i = σ j i := fun j i h_0 h_1 => by rw [e515]; exact (hpw_fr (by omega)).trans (hF513 j i h_0 h_1)
                  have hg516 : τ515 201 4 = r514 + 1 := by rw [e515]; exact hpw_eq
                  refine h_return C hr hlk dX9_readNext_179 ?_
                  exact ⟨rfl, hI515, hF515, fun _ => by omega⟩
                · refine h_aload_n C dX9_readNext_85 0 rfl rfl ?_
                  refine h_get C O9 14 kd_195 (by decide) wd_1270 dX9_readNext_86 fr_195_14 ?_
                  refine h_bipush C dX9_readNext_89 (by decide) ?_
                  refine h_aload_n C dX9_readNext_91 0 rfl rfl ?_
                  refine h_get C O9 14 kd_195 (by decide) wd_1270 dX9_readNext_92 fr_195_14 ?_
                  refine h_iconst C dX9_readNext_95 ?_
                  refine h_iaload C dX9_readNext_96 kd_201 3 rfl (by rw [ln_201]; decide) rfl ?_
                  rw [hg502]
                  refine h_iadd C dX9_readNext_97 rfl ?_
                  refine h_aload_n C dX9_readNext_98 0 rfl rfl ?_
                  refine h_ldcS (i := 14) C Z (by decide) rfl dX9_readNext_99 ?_
                  refine h_iconst C dX9_readNext_101 ?_
                  refine h_bipush C dX9_readNext_102 (by decide) ?_
                  refine h_callV (As := [.ref (cy (1000 + 14)), .int (hpI 1), .int (hpI 20)]) (rest := [.int (hpI (7 + r445)), .ref (z + 201)]) C Z yyX9_toldBy wd_1470 (tgX9_toldBy l D cy z _ 14 (by decide) 1 ⟨by decide, by decide⟩ 20 ⟨by decide, by decide⟩ hI501 (by omega)) kd_195 rfl rfl ⟨rfl, rfl, Nat.le_of_ble_eq_true rfl, Nat.le_of_ble_eq_true rfl⟩ ⟨Nat.le_of_ble_eq_true rfl, Nat.le_of_ble_eq_true rfl⟩ (Nat.le_of_ble_eq_true rfl) dX9_readNext_104 (fun r517 τ517 hp517 => ?_)
                  obtain ⟨⟨x517, rfl, ⟨hx517a, hx517b⟩, hx517⟩, hI517, hG517⟩ := hp517
                  have hF517 : ∀ j i : Nat, (j ≠ 195 ∨ (i ≠ 8 ∧ i ≠ 9 ∧ i ≠ 10 ∧ i ≠ 11 ∧ i ≠ 12 ∧ i ≠ 13)) → (j ≠ 201 ∨ i = 6) → τ517 j i = σ j i := fun j i h_0 h_1 => (hG517 j i (by omega)).trans (hF501 j i h_0 h_1)
                  have hg518 : τ517 201 3 = r445 := (hG517 201 3 (by omega)).trans hg502
                  have hg519 : τ517 201 4 = r497 := (hG517 201 4 (by omega)).trans hg503
                  show hpV _ _ _ _ _ _ _ _ _ _ _ _ _ _ _ _ _ _ _ _ _ (_ :: _)
                  refine h_iastore C dX9_readNext_107 kd_201 (7 + r445).toNat (Int.toNat_of_nonneg (by omega)) (by rw [ln_201]; omega) ?_
                  obtain ⟨τ520, e520⟩ : ∃ μ : hpMem, μ = hpw τ517 201 ((7 + r445).toNat) x517 := ⟨_, rfl⟩
                  rw [← e520]
                  have hI520 : hpInv τ520 := by rw [e520]; exact hpInv.w201 hI517 ((7 + r445).toNat) 7 14 (0) 20 (by omega) (by omega) (by decide) (by omega) (by omega)
                  have hF520 : ∀ j i : Nat, (j ≠ 195 ∨ (i ≠ 8 ∧ i ≠ 9 ∧ i ≠ 10 ∧ i ≠ 11 ∧ i ≠ 12 ∧ i ≠ 13)) → (j ≠ 201 ∨ i = 6) → τ520 j i = σ j i := fun j i h_0 h_1 => by rw [e520]; exact (hpw_fr (by omega)).trans (hF517 j i h_0 h_1)
                  refine h_aload_n C dX9_readNext_108 0 rfl rfl ?_
                  refine h_get C O9 14 kd_195 (by decide) wd_1270 dX9_readNext_109 fr_195_14 ?_
                  refine h_iconst C dX9_readNext_112 ?_
                  refine h_dup2 C rfl rfl dX9_readNext_113 ?_
                  refine h_iaload C dX9_readNext_114 kd_201 3 rfl (by rw [ln_201]; decide) rfl ?_
                  obtain ⟨hr521a, hr521b⟩ := hI520.b ((bw_201 3).trans (show hpwb 3 = (0, 8) by decide))
                  generalize hg521 : τ520 201 3 = r521 at hr521a hr521b ⊢
                  refine h_iconst C dX9_readNext_115 ?_
                  refine h_iadd C dX9_readNext_116 rfl ?_
                  refine h_iastore C dX9_readNext_117 kd_201 3 rfl (by rw [ln_201]; decide) ?_
                  obtain ⟨τ522, e522⟩ : ∃ μ : hpMem, μ = hpw τ520 201 3 (r521 + 1) := ⟨_, rfl⟩
                  rw [← e522]
                  have hI522 : hpInv τ522 := by rw [e522]; exact hI520.w ((bw_201 3).trans (show hpwb 3 = (0, 8) by decide)) (by omega) (by omega)
                  have hF522 : ∀ j i : Nat, (j ≠ 195 ∨ (i ≠ 8 ∧ i ≠ 9 ∧ i ≠ 10 ∧ i ≠ 11 ∧ i ≠ 12 ∧ i ≠ 13)) → (j ≠ 201 ∨ i = 6) → τ522 j i = σ j i := fun j i h_0 h_1 => by rw [e522]; exact (hpw_fr (by omega)).trans (hF520 j i h_0 h_1)
                  have hg523 : τ522 201 3 = r521 + 1 := by rw [e522]; exact hpw_eq
                  refine h_goto (tgt := 179) C dX9_readNext_118 (by decide) ?_
                  refine h_return C hr hlk dX9_readNext_179 ?_
                  exact ⟨rfl, hI522, hF522, fun _ => by omega⟩
              · refine h_return C hr hlk dX9_readNext_75 ?_
                exact ⟨rfl, hI369, hF369, by omega⟩
            · refine h_aload_n C dX9_readNext_63 0 rfl rfl ?_
              refine h_iconst C dX9_readNext_64 ?_
              refine h_callV (As := [.int (hpI 3)]) (rest := []) C Z yyX9_errs wd_1465 (tgX9_errs l D cy z _ 3 ⟨by decide, by decide⟩ hI369 (by omega)) kd_195 rfl rfl ⟨rfl, rfl, Nat.le_of_ble_eq_true rfl, Nat.le_of_ble_eq_true rfl⟩ ⟨Nat.le_of_ble_eq_true rfl, Nat.le_of_ble_eq_true rfl⟩ (Nat.le_of_ble_eq_true rfl) dX9_readNext_65 (fun r524 τ524 hp524 => ?_)
              obtain ⟨rfl, hI524, hG524, hq524_0⟩ := hp524
              have hF524 : ∀ j i : Nat, (j ≠ 195 ∨ (i ≠ 8 ∧ i ≠ 9 ∧ i ≠ 10 ∧ i ≠ 11 ∧ i ≠ 12 ∧ i ≠ 13)) → (j ≠ 201 ∨ i = 6) → τ524 j i = σ j i := fun j i h_0 h_1 => (hG524 j i (by omega)).trans (hF369 j i h_0 h_1)
              have hg525 : τ524 201 3 = r445 := (hG524 201 3 (by omega)).trans hg445
              have hg526 : τ524 201 4 = r497 := (hG524 201 4 (by omega)).trans hg497
              show hpV _ _ _ _ _ _ _ _ _ _ _ _ _ _ _ _ _ _ _ _ _ []
              refine h_aload_n C dX9_readNext_68 0 rfl rfl ?_
              refine h_callV (As := []) (rest := []) C Z yyX9_good wd_1438 (tgX9_good l D cy z _ hI524) kd_195 rfl rfl ⟨rfl, rfl, Nat.le_of_ble_eq_true rfl, Nat.le_of_ble_eq_true rfl⟩ ⟨Nat.le_of_ble_eq_true rfl, Nat.le_of_ble_eq_true rfl⟩ (Nat.le_of_ble_eq_true rfl) dX9_readNext_69 (fun r527 τ527 hp527 => ?_)
              obtain ⟨⟨x527, rfl, ⟨hx527a, hx527b⟩, hx527⟩, rfl⟩ := hp527
              show hpV _ _ _ _ _ _ _ _ _ _ _ _ _ _ _ _ _ _ _ _ _ (_ :: _)
              refine h_if_ne (tgt := 76) C dX9_readNext_72 (by decide) ⟨by omega, by omega⟩ (fun h528 => ?_) (fun h528 => ?_)
              · refine h_aload_n C dX9_readNext_76 0 rfl rfl ?_
                refine h_ldcS (i := 12) C Z (by decide) rfl dX9_readNext_77 ?_
                refine h_callV (As := [.ref (cy (1000 + 12))]) (rest := []) C Z yyX9_takes wd_1455 (tgX9_takes l D cy z _ 12 (by decide) hI524) kd_195 rfl rfl ⟨rfl, rfl, Nat.le_of_ble_eq_true rfl, Nat.le_of_ble_eq_true rfl⟩ ⟨Nat.le_of_ble_eq_true rfl, Nat.le_of_ble_eq_true rfl⟩ (Nat.le_of_ble_eq_true rfl) dX9_readNext_79 (fun r529 τ529 hp529 => ?_)
                obtain ⟨⟨x529, rfl, ⟨hx529a, hx529b⟩, hx529⟩, hI529, hG529⟩ := hp529
                have hF529 : ∀ j i : Nat, (j ≠ 195 ∨ (i ≠ 8 ∧ i ≠ 9 ∧ i ≠ 10 ∧ i ≠ 11 ∧ i ≠ 12 ∧ i ≠ 13)) → (j ≠ 201 ∨ i = 6) → τ529 j i = σ j i := fun j i h_0 h_1 => (hG529 j i (by omega)).trans (hF524 j i h_0 h_1)
                have hg530 : τ529 201 3 = r445 := (hG529 201 3 (by omega)).trans hg525
                have hg531 : τ529 201 4 = r497 := (hG529 201 4 (by omega)).trans hg526
                show hpV _ _ _ _ _ _ _ _ _ _ _ _ _ _ _ _ _ _ _ _ _ (_ :: _)
                refine h_if_eq (tgt := 121) C dX9_readNext_82 (by decide) ⟨by omega, by omega⟩ (fun h532 => ?_) (fun h532 => ?_)
                · refine h_aload_n C dX9_readNext_121 0 rfl rfl ?_
                  refine h_callV (As := []) (rest := []) C Z yyX9_advance wd_1424 (tgX9_advance l D cy z _ hI529) kd_195 rfl rfl ⟨rfl, rfl, Nat.le_of_ble_eq_true rfl, Nat.le_of_ble_eq_true rfl⟩ ⟨Nat.le_of_ble_eq_true rfl, Nat.le_of_ble_eq_true rfl⟩ (Nat.le_of_ble_eq_true rfl) dX9_readNext_122 (fun r533 τ533 hp533 => ?_)
                  obtain ⟨rfl, hI533, hG533⟩ := hp533
                  have hF533 : ∀ j i : Nat, (j ≠ 195 ∨ (i ≠ 8 ∧ i ≠ 9 ∧ i ≠ 10 ∧ i ≠ 11 ∧ i ≠ 12 ∧ i ≠ 13)) → (j ≠ 201 ∨ i = 6) → τ533 j i = σ j i := fun j i h_0 h_1 => (hG533 j i (by omega)).trans (hF529 j i h_0 h_1)
                  have hg534 : τ533 201 3 = r445 := (hG533 201 3 (by omega)).trans hg530
                  have hg535 : τ533 201 4 = r497 := (hG533 201 4 (by omega)).trans hg531
                  show hpV _ _ _ _ _ _ _ _ _ _ _ _ _ _ _ _ _ _ _ _ _ []
                  refine h_bipush C dX9_readNext_125 (by decide) ?_
                  refine h_iconst C dX9_readNext_127 ?_
                  refine h_aload_n C dX9_readNext_128 0 rfl rfl ?_
                  refine h_get C O9 14 kd_195 (by decide) wd_1270 dX9_readNext_129 fr_195_14 ?_
                  refine h_iconst C dX9_readNext_132 ?_
                  refine h_iaload C dX9_readNext_133 kd_201 4 rfl (by rw [ln_201]; decide) rfl ?_
                  rw [hg535]
                  refine h_imul C dX9_readNext_134 rfl ?_
                  refine h_iadd C dX9_readNext_135 rfl ?_
                  refine h_istore_n (lv' := [(1, .int (hpI (15 + (2 * r497)))), (0, .ref (z + 195))]) C dX9_readNext_136 rfl (by decide) rfl ?_
                  refine h_aload_n C dX9_readNext_137 1 rfl rfl ?_
                  refine h_get C O9 14 kd_195 (by decide) wd_1270 dX9_readNext_138 fr_195_14 ?_
                  refine h_iload_n C dX9_readNext_141 0 rfl rfl ?_
                  refine h_aload_n C dX9_readNext_142 1 rfl rfl ?_
                  refine h_ldcS (i := 14) C Z (by decide) rfl dX9_readNext_143 ?_
                  refine h_iconst C dX9_readNext_145 ?_
                  refine h_bipush C dX9_readNext_146 (by decide) ?_
                  refine h_callV (As := [.ref (cy (1000 + 14)), .int (hpI 1), .int (hpI 20)]) (rest := [.int (hpI (15 + (2 * r497))), .ref (z + 201)]) C Z yyX9_toldBy wd_1470 (tgX9_toldBy l D cy z _ 14 (by decide) 1 ⟨by decide, by decide⟩ 20 ⟨by decide, by decide⟩ hI533 (by omega)) kd_195 rfl rfl ⟨rfl, rfl, Nat.le_of_ble_eq_true rfl, Nat.le_of_ble_eq_true rfl⟩ ⟨Nat.le_of_ble_eq_true rfl, Nat.le_of_ble_eq_true rfl⟩ (Nat.le_of_ble_eq_true rfl) dX9_readNext_148 (fun r536 τ536 hp536 => ?_)
                  obtain ⟨⟨x536, rfl, ⟨hx536a, hx536b⟩, hx536⟩, hI536, hG536⟩ := hp536
                  have hF536 : ∀ j i : Nat, (j ≠ 195 ∨ (i ≠ 8 ∧ i ≠ 9 ∧ i ≠ 10 ∧ i ≠ 11 ∧ i ≠ 12 ∧ i ≠ 13)) → (j ≠ 201 ∨ i = 6) → τ536 j i = σ j i := fun j i h_0 h_1 => (hG536 j i (by omega)).trans (hF533 j i h_0 h_1)
                  have hg537 : τ536 201 3 = r445 := (hG536 201 3 (by omega)).trans hg534
                  have hg538 : τ536 201 4 = r497 := (hG536 201 4 (by omega)).trans hg535
                  show hpV _ _ _ _ _ _ _ _ _ _ _ _ _ _ _ _ _ _ _ _ _ (_ :: _)
                  refine h_iastore C dX9_readNext_151 kd_201 (15 + (2 * r497)).toNat (Int.toNat_of_nonneg (by omega)) (by rw [ln_201]; omega) ?_
                  obtain ⟨τ539, e539⟩ : ∃ μ : hpMem, μ = hpw τ536 201 ((15 + (2 * r497)).toNat) x536 := ⟨_, rfl⟩
                  rw [← e539]
                  have hI539 : hpInv τ539 := by rw [e539]; exact hpInv.w201 hI536 ((15 + (2 * r497)).toNat) 27 27 (0) 2016 (by omega) (by omega) (by decide) (by omega) (by omega)
                  have hF539 : ∀ j i : Nat, (j ≠ 195 ∨ (i ≠ 8 ∧ i ≠ 9 ∧ i ≠ 10 ∧ i ≠ 11 ∧ i ≠ 12 ∧ i ≠ 13)) → (j ≠ 201 ∨ i = 6) → τ539 j i = σ j i := fun j i h_0 h_1 => by rw [e539]; exact (hpw_fr (by omega)).trans (hF536 j i h_0 h_1)
                  refine h_aload_n C dX9_readNext_152 1 rfl rfl ?_
                  refine h_get C O9 14 kd_195 (by decide) wd_1270 dX9_readNext_153 fr_195_14 ?_
                  refine h_iload_n C dX9_readNext_156 0 rfl rfl ?_
                  refine h_iconst C dX9_readNext_157 ?_
                  refine h_iadd C dX9_readNext_158 rfl ?_
                  refine h_aload_n C dX9_readNext_159 1 rfl rfl ?_
                  refine h_ldcS (i := 15) C Z (by decide) rfl dX9_readNext_160 ?_
                  refine h_iconst C dX9_readNext_162 ?_
                  refine h_bipush C dX9_readNext_163 (by decide) ?_
                  refine h_callV (As := [.ref (cy (1000 + 15)), .int (hpI 0), .int (hpI 15)]) (rest := [.int (hpI ((15 + (2 * r497)) + 1)), .ref (z + 201)]) C Z yyX9_toldBy wd_1470 (tgX9_toldBy l D cy z _ 15 (by decide) 0 ⟨by decide, by decide⟩ 15 ⟨by decide, by decide⟩ hI539 (by omega)) kd_195 rfl rfl ⟨rfl, rfl, Nat.le_of_ble_eq_true rfl, Nat.le_of_ble_eq_true rfl⟩ ⟨Nat.le_of_ble_eq_true rfl, Nat.le_of_ble_eq_true rfl⟩ (Nat.le_of_ble_eq_true rfl) dX9_readNext_165 (fun r540 τ540 hp540 => ?_)
                  obtain ⟨⟨x540, rfl, ⟨hx540a, hx540b⟩, hx540⟩, hI540, hG540⟩ := hp540
                  have hF540 : ∀ j i : Nat, (j ≠ 195 ∨ (i ≠ 8 ∧ i ≠ 9 ∧ i ≠ 10 ∧ i ≠ 11 ∧ i ≠ 12 ∧ i ≠ 13)) → (j ≠ 201 ∨ i = 6) → τ540 j i = σ j i := fun j i h_0 h_1 => (hG540 j i (by omega)).trans (hF539 j i h_0 h_1)
                  show hpV _ _ _ _ _ _ _ _ _ _ _ _ _ _ _ _ _ _ _ _ _ (_ :: _)
                  refine h_iastore C dX9_readNext_168 kd_201 ((15 + (2 * r497)) + 1).toNat (Int.toNat_of_nonneg (by omega)) (by rw [ln_201]; omega) ?_
                  obtain ⟨τ541, e541⟩ : ∃ μ : hpMem, μ = hpw τ540 201 (((15 + (2 * r497)) + 1).toNat) x540 := ⟨_, rfl⟩
                  rw [← e541]
                  have hI541 : hpInv τ541 := by rw [e541]; exact hpInv.w201 hI540 (((15 + (2 * r497)) + 1).toNat) 28 28 (0) 2016 (by omega) (by omega) (by decide) (by omega) (by omega)
                  have hF541 : ∀ j i : Nat, (j ≠ 195 ∨ (i ≠ 8 ∧ i ≠ 9 ∧ i ≠ 10 ∧ i ≠ 11 ∧ i ≠ 12 ∧ i ≠ 13)) → (j ≠ 201 ∨ i = 6) → τ541 j i = σ j i := fun j i h_0 h_1 => by rw [e541]; exact (hpw_fr (by omega)).trans (hF540 j i h_0 h_1)
                  refine h_aload_n C dX9_readNext_169 1 rfl rfl ?_
                  refine h_get C O9 14 kd_195 (by decide) wd_1270 dX9_readNext_170 fr_195_14 ?_
                  refine h_iconst C dX9_readNext_173 ?_
                  refine h_dup2 C rfl rfl dX9_readNext_174 ?_
                  refine h_iaload C dX9_readNext_175 kd_201 4 rfl (by rw [ln_201]; decide) rfl ?_
                  obtain ⟨hr542a, hr542b⟩ := hI541.b ((bw_201 4).trans (show hpwb 4 = (0, 6) by decide))
                  generalize hg542 : τ541 201 4 = r542 at hr542a hr542b ⊢
                  refine h_iconst C dX9_readNext_176 ?_
                  refine h_iadd C dX9_readNext_177 rfl ?_
                  refine h_iastore C dX9_readNext_178 kd_201 4 rfl (by rw [ln_201]; decide) ?_
                  obtain ⟨τ543, e543⟩ : ∃ μ : hpMem, μ = hpw τ541 201 4 (r542 + 1) := ⟨_, rfl⟩
                  rw [← e543]
                  have hI543 : hpInv τ543 := by rw [e543]; exact hI541.w ((bw_201 4).trans (show hpwb 4 = (0, 6) by decide)) (by omega) (by omega)
                  have hF543 : ∀ j i : Nat, (j ≠ 195 ∨ (i ≠ 8 ∧ i ≠ 9 ∧ i ≠ 10 ∧ i ≠ 11 ∧ i ≠ 12 ∧ i ≠ 13)) → (j ≠ 201 ∨ i = 6) → τ543 j i = σ j i := fun j i h_0 h_1 => by rw [e543]; exact (hpw_fr (by omega)).trans (hF541 j i h_0 h_1)
                  have hg544 : τ543 201 4 = r542 + 1 := by rw [e543]; exact hpw_eq
                  refine h_return C hr hlk dX9_readNext_179 ?_
                  exact ⟨rfl, hI543, hF543, fun _ => by omega⟩
                · refine h_aload_n C dX9_readNext_85 0 rfl rfl ?_
                  refine h_get C O9 14 kd_195 (by decide) wd_1270 dX9_readNext_86 fr_195_14 ?_
                  refine h_bipush C dX9_readNext_89 (by decide) ?_
                  refine h_aload_n C dX9_readNext_91 0 rfl rfl ?_
                  refine h_get C O9 14 kd_195 (by decide) wd_1270 dX9_readNext_92 fr_195_14 ?_
                  refine h_iconst C dX9_readNext_95 ?_
                  refine h_iaload C dX9_readNext_96 kd_201 3 rfl (by rw [ln_201]; decide) rfl ?_
                  rw [hg530]
                  refine h_iadd C dX9_readNext_97 rfl ?_
                  refine h_aload_n C dX9_readNext_98 0 rfl rfl ?_
                  refine h_ldcS (i := 14) C Z (by decide) rfl dX9_readNext_99 ?_
                  refine h_iconst C dX9_readNext_101 ?_
                  refine h_bipush C dX9_readNext_102 (by decide) ?_
                  refine h_callV (As := [.ref (cy (1000 + 14)), .int (hpI 1), .int (hpI 20)]) (rest := [.int (hpI (7 + r445)), .ref (z + 201)]) C Z yyX9_toldBy wd_1470 (tgX9_toldBy l D cy z _ 14 (by decide) 1 ⟨by decide, by decide⟩ 20 ⟨by decide, by decide⟩ hI529 (by omega)) kd_195 rfl rfl ⟨rfl, rfl, Nat.le_of_ble_eq_true rfl, Nat.le_of_ble_eq_true rfl⟩ ⟨Nat.le_of_ble_eq_true rfl, Nat.le_of_ble_eq_true rfl⟩ (Nat.le_of_ble_eq_true rfl) dX9_readNext_104 (fun r545 τ545 hp545 => ?_)
                  obtain ⟨⟨x545, rfl, ⟨hx545a, hx545b⟩, hx545⟩, hI545, hG545⟩ := hp545
                  have hF545 : ∀ j i : Nat, (j ≠ 195 ∨ (i ≠ 8 ∧ i ≠ 9 ∧ i ≠ 10 ∧ i ≠ 11 ∧ i ≠ 12 ∧ i ≠ 13)) → (j ≠ 201 ∨ i = 6) → τ545 j i = σ j i := fun j i h_0 h_1 => (hG545 j i (by omega)).trans (hF529 j i h_0 h_1)
                  have hg546 : τ545 201 3 = r445 := (hG545 201 3 (by omega)).trans hg530
                  have hg547 : τ545 201 4 = r497 := (hG545 201 4 (by omega)).trans hg531
                  show hpV _ _ _ _ _ _ _ _ _ _ _ _ _ _ _ _ _ _ _ _ _ (_ :: _)
                  refine h_iastore C dX9_readNext_107 kd_201 (7 + r445).toNat (Int.toNat_of_nonneg (by omega)) (by rw [ln_201]; omega) ?_
                  obtain ⟨τ548, e548⟩ : ∃ μ : hpMem, μ = hpw τ545 201 ((7 + r445).toNat) x545 := ⟨_, rfl⟩
                  rw [← e548]
                  have hI548 : hpInv τ548 := by rw [e548]; exact hpInv.w201 hI545 ((7 + r445).toNat) 7 14 (0) 20 (by omega) (by omega) (by decide) (by omega) (by omega)
                  have hF548 : ∀ j i : Nat, (j ≠ 195 ∨ (i ≠ 8 ∧ i ≠ 9 ∧ i ≠ 10 ∧ i ≠ 11 ∧ i ≠ 12 ∧ i ≠ 13)) → (j ≠ 201 ∨ i = 6) → τ548 j i = σ j i := fun j i h_0 h_1 => by rw [e548]; exact (hpw_fr (by omega)).trans (hF545 j i h_0 h_1)
                  refine h_aload_n C dX9_readNext_108 0 rfl rfl ?_
                  refine h_get C O9 14 kd_195 (by decide) wd_1270 dX9_readNext_109 fr_195_14 ?_
                  refine h_iconst C dX9_readNext_112 ?_
                  refine h_dup2 C rfl rfl dX9_readNext_113 ?_
                  refine h_iaload C dX9_readNext_114 kd_201 3 rfl (by rw [ln_201]; decide) rfl ?_
                  obtain ⟨hr549a, hr549b⟩ := hI548.b ((bw_201 3).trans (show hpwb 3 = (0, 8) by decide))
                  generalize hg549 : τ548 201 3 = r549 at hr549a hr549b ⊢
                  refine h_iconst C dX9_readNext_115 ?_
                  refine h_iadd C dX9_readNext_116 rfl ?_
                  refine h_iastore C dX9_readNext_117 kd_201 3 rfl (by rw [ln_201]; decide) ?_
                  obtain ⟨τ550, e550⟩ : ∃ μ : hpMem, μ = hpw τ548 201 3 (r549 + 1) := ⟨_, rfl⟩
                  rw [← e550]
                  have hI550 : hpInv τ550 := by rw [e550]; exact hI548.w ((bw_201 3).trans (show hpwb 3 = (0, 8) by decide)) (by omega) (by omega)
                  have hF550 : ∀ j i : Nat, (j ≠ 195 ∨ (i ≠ 8 ∧ i ≠ 9 ∧ i ≠ 10 ∧ i ≠ 11 ∧ i ≠ 12 ∧ i ≠ 13)) → (j ≠ 201 ∨ i = 6) → τ550 j i = σ j i := fun j i h_0 h_1 => by rw [e550]; exact (hpw_fr (by omega)).trans (hF548 j i h_0 h_1)
                  have hg551 : τ550 201 3 = r549 + 1 := by rw [e550]; exact hpw_eq
                  refine h_goto (tgt := 179) C dX9_readNext_118 (by decide) ?_
                  refine h_return C hr hlk dX9_readNext_179 ?_
                  exact ⟨rfl, hI550, hF550, fun _ => by omega⟩
              · refine h_return C hr hlk dX9_readNext_75 ?_
                exact ⟨rfl, hI524, hF524, by omega⟩
abbrev rgX9_readLine : Room := { frames := 9, cells := 0, slots := 0, locals := 195 }
abbrev pgX9_readLine (z : Nat) (σ : hpMem) : Option Value → hpMem → Prop := fun r τ => r = none ∧ hpInv τ ∧ (∀ j i : Nat, (j ≠ 195 ∨ (i ≠ 8 ∧ i ≠ 9 ∧ i ≠ 10 ∧ i ≠ 11 ∧ i ≠ 12 ∧ i ≠ 13)) → j ≠ 201 → τ j i = σ j i) ∧ (τ 201 6 = σ 201 6 + 1) ∧ (τ 195 12 = 0 → σ 201 6 ≤ 1 + σ 201 3 + σ 201 4 → τ 201 6 ≤ 1 + τ 201 3 + τ 201 4)
set_option maxHeartbeats 4000000 in
set_option maxRecDepth 20000 in
theorem tgX9_readLine (l : Launch) (D : va_G) (cy : Nat → ClassId) (z : Nat) (σ : hpMem) (hI : hpInv σ) (hl0 : σ 201 6 ≤ 15) : hpM l D cy z yX9_readLine cX9_readLine 1 none rgX9_readLine [.ref (z + 195)] σ (pgX9_readLine z σ) := by
  refine hp_met rfl (Nat.le_of_ble_eq_true rfl) (fun p e s m below meth c C Z hr hlk => ?_)
  have hF0 : ∀ j i : Nat, (j ≠ 195 ∨ (i ≠ 8 ∧ i ≠ 9 ∧ i ≠ 10 ∧ i ≠ 11 ∧ i ≠ 12 ∧ i ≠ 13)) → j ≠ 201 → σ j i = σ j i := fun j i _ _ => rfl
  refine h_aload_n C dX9_readLine_0 0 rfl rfl ?_
  refine h_get C O9 14 kd_195 (by decide) wd_1270 dX9_readLine_1 fr_195_14 ?_
  refine h_bipush C dX9_readLine_4 (by decide) ?_
  refine h_iaload C dX9_readLine_6 kd_201 6 rfl (by rw [ln_201]; decide) rfl ?_
  obtain ⟨hr1a, hr1b⟩ := hI.b ((bw_201 6).trans (show hpwb 6 = (0, 16) by decide))
  generalize hg1 : σ 201 6 = r1 at hr1a hr1b ⊢
  refine h_if_ne (tgt := 17) C dX9_readLine_7 (by decide) ⟨by omega, by omega⟩ (fun h2 => ?_) (fun h2 => ?_)
  · refine h_aload_n C dX9_readLine_17 0 rfl rfl ?_
    refine h_callV (As := []) (rest := []) C Z yyX9_readNext wd_1480 (tgX9_readNext l D cy z _ hI) kd_195 rfl rfl ⟨rfl, rfl, Nat.le_of_ble_eq_true rfl, Nat.le_of_ble_eq_true rfl⟩ ⟨Nat.le_of_ble_eq_true rfl, Nat.le_of_ble_eq_true rfl⟩ (Nat.le_of_ble_eq_true rfl) dX9_readLine_18 (fun r3 τ3 hp3 => ?_)
    obtain ⟨rfl, hI3, hG3, hq3_0⟩ := hp3
    have hF3 : ∀ j i : Nat, (j ≠ 195 ∨ (i ≠ 8 ∧ i ≠ 9 ∧ i ≠ 10 ∧ i ≠ 11 ∧ i ≠ 12 ∧ i ≠ 13)) → j ≠ 201 → τ3 j i = σ j i := fun j i h_0 h_1 => (hG3 j i (by omega) (by omega)).trans (hF0 j i h_0 h_1)
    show hpV _ _ _ _ _ _ _ _ _ _ _ _ _ _ _ _ _ _ _ _ _ []
    refine h_aload_n C dX9_readLine_21 0 rfl rfl ?_
    refine h_callV (As := []) (rest := []) C Z yyX9_good wd_1438 (tgX9_good l D cy z _ hI3) kd_195 rfl rfl ⟨rfl, rfl, Nat.le_of_ble_eq_true rfl, Nat.le_of_ble_eq_true rfl⟩ ⟨Nat.le_of_ble_eq_true rfl, Nat.le_of_ble_eq_true rfl⟩ (Nat.le_of_ble_eq_true rfl) dX9_readLine_22 (fun r4 τ4 hp4 => ?_)
    obtain ⟨⟨x4, rfl, ⟨hx4a, hx4b⟩, hx4⟩, rfl⟩ := hp4
    show hpV _ _ _ _ _ _ _ _ _ _ _ _ _ _ _ _ _ _ _ _ _ (_ :: _)
    refine h_if_eq (tgt := 41) C dX9_readLine_25 (by decide) ⟨by omega, by omega⟩ (fun h5 => ?_) (fun h5 => ?_)
    · refine h_aload_n C dX9_readLine_41 0 rfl rfl ?_
      refine h_callV (As := []) (rest := []) C Z yyX9_good wd_1438 (tgX9_good l D cy z _ hI3) kd_195 rfl rfl ⟨rfl, rfl, Nat.le_of_ble_eq_true rfl, Nat.le_of_ble_eq_true rfl⟩ ⟨Nat.le_of_ble_eq_true rfl, Nat.le_of_ble_eq_true rfl⟩ (Nat.le_of_ble_eq_true rfl) dX9_readLine_42 (fun r6 τ6 hp6 => ?_)
      obtain ⟨⟨x6, rfl, ⟨hx6a, hx6b⟩, hx6⟩, rfl⟩ := hp6
      show hpV _ _ _ _ _ _ _ _ _ _ _ _ _ _ _ _ _ _ _ _ _ (_ :: _)
      refine h_if_eq (tgt := 52) C dX9_readLine_45 (by decide) ⟨by omega, by omega⟩ (fun h7 => ?_) (fun h7 => ?_)
      · refine h_aload_n C dX9_readLine_52 0 rfl rfl ?_
        refine h_get C O9 14 kd_195 (by decide) wd_1270 dX9_readLine_53 fr_195_14 ?_
        refine h_bipush C dX9_readLine_56 (by decide) ?_
        refine h_dup2 C rfl rfl dX9_readLine_58 ?_
        refine h_iaload C dX9_readLine_59 kd_201 6 rfl (by rw [ln_201]; decide) rfl ?_
        obtain ⟨hr8a, hr8b⟩ := hI3.b ((bw_201 6).trans (show hpwb 6 = (0, 16) by decide))
        generalize hg8 : τ3 201 6 = r8 at hr8a hr8b ⊢
        refine h_iconst C dX9_readLine_60 ?_
        refine h_iadd C dX9_readLine_61 rfl ?_
        refine h_iastore C dX9_readLine_62 kd_201 6 rfl (by rw [ln_201]; decide) ?_
        obtain ⟨τ9, e9⟩ : ∃ μ : hpMem, μ = hpw τ3 201 6 (r8 + 1) := ⟨_, rfl⟩
        rw [← e9]
        have hI9 : hpInv τ9 := by rw [e9]; exact hI3.w ((bw_201 6).trans (show hpwb 6 = (0, 16) by decide)) (by omega) (by omega)
        have hF9 : ∀ j i : Nat, (j ≠ 195 ∨ (i ≠ 8 ∧ i ≠ 9 ∧ i ≠ 10 ∧ i ≠ 11 ∧ i ≠ 12 ∧ i ≠ 13)) → j ≠ 201 → τ9 j i = σ j i := fun j i h_0 h_1 => by rw [e9]; exact (hpw_fr (by omega)).trans (hF3 j i h_0 h_1)
        have hg10 : τ9 201 6 = r8 + 1 := by rw [e9]; exact hpw_eq
        refine h_return C hr hlk dX9_readLine_63 ?_
        exact ⟨rfl, hI9, hF9, by omega, by omega⟩
      · refine h_aload_n C dX9_readLine_48 0 rfl rfl ?_
        refine h_callV (As := []) (rest := []) C Z yyX9_advance wd_1424 (tgX9_advance l D cy z _ hI3) kd_195 rfl rfl ⟨rfl, rfl, Nat.le_of_ble_eq_true rfl, Nat.le_of_ble_eq_true rfl⟩ ⟨Nat.le_of_ble_eq_true rfl, Nat.le_of_ble_eq_true rfl⟩ (Nat.le_of_ble_eq_true rfl) dX9_readLine_49 (fun r11 τ11 hp11 => ?_)
        obtain ⟨rfl, hI11, hG11⟩ := hp11
        have hF11 : ∀ j i : Nat, (j ≠ 195 ∨ (i ≠ 8 ∧ i ≠ 9 ∧ i ≠ 10 ∧ i ≠ 11 ∧ i ≠ 12 ∧ i ≠ 13)) → j ≠ 201 → τ11 j i = σ j i := fun j i h_0 h_1 => (hG11 j i (by omega)).trans (hF3 j i h_0 h_1)
        show hpV _ _ _ _ _ _ _ _ _ _ _ _ _ _ _ _ _ _ _ _ _ []
        refine h_aload_n C dX9_readLine_52 0 rfl rfl ?_
        refine h_get C O9 14 kd_195 (by decide) wd_1270 dX9_readLine_53 fr_195_14 ?_
        refine h_bipush C dX9_readLine_56 (by decide) ?_
        refine h_dup2 C rfl rfl dX9_readLine_58 ?_
        refine h_iaload C dX9_readLine_59 kd_201 6 rfl (by rw [ln_201]; decide) rfl ?_
        obtain ⟨hr12a, hr12b⟩ := hI11.b ((bw_201 6).trans (show hpwb 6 = (0, 16) by decide))
        generalize hg12 : τ11 201 6 = r12 at hr12a hr12b ⊢
        refine h_iconst C dX9_readLine_60 ?_
        refine h_iadd C dX9_readLine_61 rfl ?_
        refine h_iastore C dX9_readLine_62 kd_201 6 rfl (by rw [ln_201]; decide) ?_
        obtain ⟨τ13, e13⟩ : ∃ μ : hpMem, μ = hpw τ11 201 6 (r12 + 1) := ⟨_, rfl⟩
        rw [← e13]
        have hI13 : hpInv τ13 := by rw [e13]; exact hI11.w ((bw_201 6).trans (show hpwb 6 = (0, 16) by decide)) (by omega) (by omega)
        have hF13 : ∀ j i : Nat, (j ≠ 195 ∨ (i ≠ 8 ∧ i ≠ 9 ∧ i ≠ 10 ∧ i ≠ 11 ∧ i ≠ 12 ∧ i ≠ 13)) → j ≠ 201 → τ13 j i = σ j i := fun j i h_0 h_1 => by rw [e13]; exact (hpw_fr (by omega)).trans (hF11 j i h_0 h_1)
        have hg14 : τ13 201 6 = r12 + 1 := by rw [e13]; exact hpw_eq
        refine h_return C hr hlk dX9_readLine_63 ?_
        exact ⟨rfl, hI13, hF13, by omega, by omega⟩
    · refine h_aload_n C dX9_readLine_28 0 rfl rfl ?_
      refine h_get C O9 10 kd_195 (by decide) wd_1266 dX9_readLine_29 (hp_fvI (by rw [kd_195]; rfl) rfl) ?_
      obtain ⟨hr15a, hr15b⟩ := hI3.b (bf_9_10 kd_195)
      generalize hg15 : τ3 195 10 = r15 at hr15a hr15b ⊢
      refine h_iconst C dX9_readLine_32 ?_
      refine h_icmp_eq (tgt := 41) C dX9_readLine_33 (by decide) ⟨by omega, by omega⟩ ⟨by decide, by decide⟩ (fun h16 => ?_) (fun h16 => ?_)
      · refine h_aload_n C dX9_readLine_41 0 rfl rfl ?_
        refine h_callV (As := []) (rest := []) C Z yyX9_good wd_1438 (tgX9_good l D cy z _ hI3) kd_195 rfl rfl ⟨rfl, rfl, Nat.le_of_ble_eq_true rfl, Nat.le_of_ble_eq_true rfl⟩ ⟨Nat.le_of_ble_eq_true rfl, Nat.le_of_ble_eq_true rfl⟩ (Nat.le_of_ble_eq_true rfl) dX9_readLine_42 (fun r17 τ17 hp17 => ?_)
        obtain ⟨⟨x17, rfl, ⟨hx17a, hx17b⟩, hx17⟩, rfl⟩ := hp17
        show hpV _ _ _ _ _ _ _ _ _ _ _ _ _ _ _ _ _ _ _ _ _ (_ :: _)
        refine h_if_eq (tgt := 52) C dX9_readLine_45 (by decide) ⟨by omega, by omega⟩ (fun h18 => ?_) (fun h18 => ?_)
        · refine h_aload_n C dX9_readLine_52 0 rfl rfl ?_
          refine h_get C O9 14 kd_195 (by decide) wd_1270 dX9_readLine_53 fr_195_14 ?_
          refine h_bipush C dX9_readLine_56 (by decide) ?_
          refine h_dup2 C rfl rfl dX9_readLine_58 ?_
          refine h_iaload C dX9_readLine_59 kd_201 6 rfl (by rw [ln_201]; decide) rfl ?_
          obtain ⟨hr19a, hr19b⟩ := hI3.b ((bw_201 6).trans (show hpwb 6 = (0, 16) by decide))
          generalize hg19 : τ3 201 6 = r19 at hr19a hr19b ⊢
          refine h_iconst C dX9_readLine_60 ?_
          refine h_iadd C dX9_readLine_61 rfl ?_
          refine h_iastore C dX9_readLine_62 kd_201 6 rfl (by rw [ln_201]; decide) ?_
          obtain ⟨τ20, e20⟩ : ∃ μ : hpMem, μ = hpw τ3 201 6 (r19 + 1) := ⟨_, rfl⟩
          rw [← e20]
          have hI20 : hpInv τ20 := by rw [e20]; exact hI3.w ((bw_201 6).trans (show hpwb 6 = (0, 16) by decide)) (by omega) (by omega)
          have hF20 : ∀ j i : Nat, (j ≠ 195 ∨ (i ≠ 8 ∧ i ≠ 9 ∧ i ≠ 10 ∧ i ≠ 11 ∧ i ≠ 12 ∧ i ≠ 13)) → j ≠ 201 → τ20 j i = σ j i := fun j i h_0 h_1 => by rw [e20]; exact (hpw_fr (by omega)).trans (hF3 j i h_0 h_1)
          have hg21 : τ20 195 10 = r15 := by rw [e20]; exact (hpw_fr (Or.inl (by omega))).trans hg15
          have hg22 : τ20 201 6 = r19 + 1 := by rw [e20]; exact hpw_eq
          refine h_return C hr hlk dX9_readLine_63 ?_
          exact ⟨rfl, hI20, hF20, by omega, by omega⟩
        · refine h_aload_n C dX9_readLine_48 0 rfl rfl ?_
          refine h_callV (As := []) (rest := []) C Z yyX9_advance wd_1424 (tgX9_advance l D cy z _ hI3) kd_195 rfl rfl ⟨rfl, rfl, Nat.le_of_ble_eq_true rfl, Nat.le_of_ble_eq_true rfl⟩ ⟨Nat.le_of_ble_eq_true rfl, Nat.le_of_ble_eq_true rfl⟩ (Nat.le_of_ble_eq_true rfl) dX9_readLine_49 (fun r23 τ23 hp23 => ?_)
          obtain ⟨rfl, hI23, hG23⟩ := hp23
          have hF23 : ∀ j i : Nat, (j ≠ 195 ∨ (i ≠ 8 ∧ i ≠ 9 ∧ i ≠ 10 ∧ i ≠ 11 ∧ i ≠ 12 ∧ i ≠ 13)) → j ≠ 201 → τ23 j i = σ j i := fun j i h_0 h_1 => (hG23 j i (by omega)).trans (hF3 j i h_0 h_1)
          show hpV _ _ _ _ _ _ _ _ _ _ _ _ _ _ _ _ _ _ _ _ _ []
          refine h_aload_n C dX9_readLine_52 0 rfl rfl ?_
          refine h_get C O9 14 kd_195 (by decide) wd_1270 dX9_readLine_53 fr_195_14 ?_
          refine h_bipush C dX9_readLine_56 (by decide) ?_
          refine h_dup2 C rfl rfl dX9_readLine_58 ?_
          refine h_iaload C dX9_readLine_59 kd_201 6 rfl (by rw [ln_201]; decide) rfl ?_
          obtain ⟨hr24a, hr24b⟩ := hI23.b ((bw_201 6).trans (show hpwb 6 = (0, 16) by decide))
          generalize hg24 : τ23 201 6 = r24 at hr24a hr24b ⊢
          refine h_iconst C dX9_readLine_60 ?_
          refine h_iadd C dX9_readLine_61 rfl ?_
          refine h_iastore C dX9_readLine_62 kd_201 6 rfl (by rw [ln_201]; decide) ?_
          obtain ⟨τ25, e25⟩ : ∃ μ : hpMem, μ = hpw τ23 201 6 (r24 + 1) := ⟨_, rfl⟩
          rw [← e25]
          have hI25 : hpInv τ25 := by rw [e25]; exact hI23.w ((bw_201 6).trans (show hpwb 6 = (0, 16) by decide)) (by omega) (by omega)
          have hF25 : ∀ j i : Nat, (j ≠ 195 ∨ (i ≠ 8 ∧ i ≠ 9 ∧ i ≠ 10 ∧ i ≠ 11 ∧ i ≠ 12 ∧ i ≠ 13)) → j ≠ 201 → τ25 j i = σ j i := fun j i h_0 h_1 => by rw [e25]; exact (hpw_fr (by omega)).trans (hF23 j i h_0 h_1)
          have hg26 : τ25 201 6 = r24 + 1 := by rw [e25]; exact hpw_eq
          refine h_return C hr hlk dX9_readLine_63 ?_
          exact ⟨rfl, hI25, hF25, by omega, by omega⟩
      · refine h_aload_n C dX9_readLine_36 0 rfl rfl ?_
        refine h_iconst C dX9_readLine_37 ?_
        refine h_callV (As := [.int (hpI 1)]) (rest := []) C Z yyX9_errs wd_1465 (tgX9_errs l D cy z _ 1 ⟨by decide, by decide⟩ hI3 (by omega)) kd_195 rfl rfl ⟨rfl, rfl, Nat.le_of_ble_eq_true rfl, Nat.le_of_ble_eq_true rfl⟩ ⟨Nat.le_of_ble_eq_true rfl, Nat.le_of_ble_eq_true rfl⟩ (Nat.le_of_ble_eq_true rfl) dX9_readLine_38 (fun r27 τ27 hp27 => ?_)
        obtain ⟨rfl, hI27, hG27, hq27_0⟩ := hp27
        have hF27 : ∀ j i : Nat, (j ≠ 195 ∨ (i ≠ 8 ∧ i ≠ 9 ∧ i ≠ 10 ∧ i ≠ 11 ∧ i ≠ 12 ∧ i ≠ 13)) → j ≠ 201 → τ27 j i = σ j i := fun j i h_0 h_1 => (hG27 j i (by omega)).trans (hF3 j i h_0 h_1)
        have hg28 : τ27 195 10 = r15 := (hG27 195 10 (by omega)).trans hg15
        show hpV _ _ _ _ _ _ _ _ _ _ _ _ _ _ _ _ _ _ _ _ _ []
        refine h_aload_n C dX9_readLine_41 0 rfl rfl ?_
        refine h_callV (As := []) (rest := []) C Z yyX9_good wd_1438 (tgX9_good l D cy z _ hI27) kd_195 rfl rfl ⟨rfl, rfl, Nat.le_of_ble_eq_true rfl, Nat.le_of_ble_eq_true rfl⟩ ⟨Nat.le_of_ble_eq_true rfl, Nat.le_of_ble_eq_true rfl⟩ (Nat.le_of_ble_eq_true rfl) dX9_readLine_42 (fun r29 τ29 hp29 => ?_)
        obtain ⟨⟨x29, rfl, ⟨hx29a, hx29b⟩, hx29⟩, rfl⟩ := hp29
        show hpV _ _ _ _ _ _ _ _ _ _ _ _ _ _ _ _ _ _ _ _ _ (_ :: _)
        refine h_if_eq (tgt := 52) C dX9_readLine_45 (by decide) ⟨by omega, by omega⟩ (fun h30 => ?_) (fun h30 => ?_)
        · refine h_aload_n C dX9_readLine_52 0 rfl rfl ?_
          refine h_get C O9 14 kd_195 (by decide) wd_1270 dX9_readLine_53 fr_195_14 ?_
          refine h_bipush C dX9_readLine_56 (by decide) ?_
          refine h_dup2 C rfl rfl dX9_readLine_58 ?_
          refine h_iaload C dX9_readLine_59 kd_201 6 rfl (by rw [ln_201]; decide) rfl ?_
          obtain ⟨hr31a, hr31b⟩ := hI27.b ((bw_201 6).trans (show hpwb 6 = (0, 16) by decide))
          generalize hg31 : τ27 201 6 = r31 at hr31a hr31b ⊢
          refine h_iconst C dX9_readLine_60 ?_
          refine h_iadd C dX9_readLine_61 rfl ?_
          refine h_iastore C dX9_readLine_62 kd_201 6 rfl (by rw [ln_201]; decide) ?_
          obtain ⟨τ32, e32⟩ : ∃ μ : hpMem, μ = hpw τ27 201 6 (r31 + 1) := ⟨_, rfl⟩
          rw [← e32]
          have hI32 : hpInv τ32 := by rw [e32]; exact hI27.w ((bw_201 6).trans (show hpwb 6 = (0, 16) by decide)) (by omega) (by omega)
          have hF32 : ∀ j i : Nat, (j ≠ 195 ∨ (i ≠ 8 ∧ i ≠ 9 ∧ i ≠ 10 ∧ i ≠ 11 ∧ i ≠ 12 ∧ i ≠ 13)) → j ≠ 201 → τ32 j i = σ j i := fun j i h_0 h_1 => by rw [e32]; exact (hpw_fr (by omega)).trans (hF27 j i h_0 h_1)
          have hg33 : τ32 195 10 = r15 := by rw [e32]; exact (hpw_fr (Or.inl (by omega))).trans hg28
          have hg34 : τ32 201 6 = r31 + 1 := by rw [e32]; exact hpw_eq
          refine h_return C hr hlk dX9_readLine_63 ?_
          exact ⟨rfl, hI32, hF32, by omega, by omega⟩
        · refine h_aload_n C dX9_readLine_48 0 rfl rfl ?_
          refine h_callV (As := []) (rest := []) C Z yyX9_advance wd_1424 (tgX9_advance l D cy z _ hI27) kd_195 rfl rfl ⟨rfl, rfl, Nat.le_of_ble_eq_true rfl, Nat.le_of_ble_eq_true rfl⟩ ⟨Nat.le_of_ble_eq_true rfl, Nat.le_of_ble_eq_true rfl⟩ (Nat.le_of_ble_eq_true rfl) dX9_readLine_49 (fun r35 τ35 hp35 => ?_)
          obtain ⟨rfl, hI35, hG35⟩ := hp35
          have hF35 : ∀ j i : Nat, (j ≠ 195 ∨ (i ≠ 8 ∧ i ≠ 9 ∧ i ≠ 10 ∧ i ≠ 11 ∧ i ≠ 12 ∧ i ≠ 13)) → j ≠ 201 → τ35 j i = σ j i := fun j i h_0 h_1 => (hG35 j i (by omega)).trans (hF27 j i h_0 h_1)
          show hpV _ _ _ _ _ _ _ _ _ _ _ _ _ _ _ _ _ _ _ _ _ []
          refine h_aload_n C dX9_readLine_52 0 rfl rfl ?_
          refine h_get C O9 14 kd_195 (by decide) wd_1270 dX9_readLine_53 fr_195_14 ?_
          refine h_bipush C dX9_readLine_56 (by decide) ?_
          refine h_dup2 C rfl rfl dX9_readLine_58 ?_
          refine h_iaload C dX9_readLine_59 kd_201 6 rfl (by rw [ln_201]; decide) rfl ?_
          obtain ⟨hr36a, hr36b⟩ := hI35.b ((bw_201 6).trans (show hpwb 6 = (0, 16) by decide))
          generalize hg36 : τ35 201 6 = r36 at hr36a hr36b ⊢
          refine h_iconst C dX9_readLine_60 ?_
          refine h_iadd C dX9_readLine_61 rfl ?_
          refine h_iastore C dX9_readLine_62 kd_201 6 rfl (by rw [ln_201]; decide) ?_
          obtain ⟨τ37, e37⟩ : ∃ μ : hpMem, μ = hpw τ35 201 6 (r36 + 1) := ⟨_, rfl⟩
          rw [← e37]
          have hI37 : hpInv τ37 := by rw [e37]; exact hI35.w ((bw_201 6).trans (show hpwb 6 = (0, 16) by decide)) (by omega) (by omega)
          have hF37 : ∀ j i : Nat, (j ≠ 195 ∨ (i ≠ 8 ∧ i ≠ 9 ∧ i ≠ 10 ∧ i ≠ 11 ∧ i ≠ 12 ∧ i ≠ 13)) → j ≠ 201 → τ37 j i = σ j i := fun j i h_0 h_1 => by rw [e37]; exact (hpw_fr (by omega)).trans (hF35 j i h_0 h_1)
          have hg38 : τ37 201 6 = r36 + 1 := by rw [e37]; exact hpw_eq
          refine h_return C hr hlk dX9_readLine_63 ?_
          exact ⟨rfl, hI37, hF37, by omega, by omega⟩
  · refine h_aload_n C dX9_readLine_10 0 rfl rfl ?_
    refine h_callV (As := []) (rest := []) C Z yyX9_readFirst wd_1446 (tgX9_readFirst l D cy z _ hI) kd_195 rfl rfl ⟨rfl, rfl, Nat.le_of_ble_eq_true rfl, Nat.le_of_ble_eq_true rfl⟩ ⟨Nat.le_of_ble_eq_true rfl, Nat.le_of_ble_eq_true rfl⟩ (Nat.le_of_ble_eq_true rfl) dX9_readLine_11 (fun r39 τ39 hp39 => ?_)
    obtain ⟨rfl, hI39, hG39⟩ := hp39
    have hF39 : ∀ j i : Nat, (j ≠ 195 ∨ (i ≠ 8 ∧ i ≠ 9 ∧ i ≠ 10 ∧ i ≠ 11 ∧ i ≠ 12 ∧ i ≠ 13)) → j ≠ 201 → τ39 j i = σ j i := fun j i h_0 h_1 => (hG39 j i (by omega) (by omega)).trans (hF0 j i h_0 h_1)
    have hg40 : τ39 201 6 = r1 := (hG39 201 6 (by omega) (by omega)).trans hg1
    show hpV _ _ _ _ _ _ _ _ _ _ _ _ _ _ _ _ _ _ _ _ _ []
    refine h_goto (tgt := 21) C dX9_readLine_14 (by decide) ?_
    refine h_aload_n C dX9_readLine_21 0 rfl rfl ?_
    refine h_callV (As := []) (rest := []) C Z yyX9_good wd_1438 (tgX9_good l D cy z _ hI39) kd_195 rfl rfl ⟨rfl, rfl, Nat.le_of_ble_eq_true rfl, Nat.le_of_ble_eq_true rfl⟩ ⟨Nat.le_of_ble_eq_true rfl, Nat.le_of_ble_eq_true rfl⟩ (Nat.le_of_ble_eq_true rfl) dX9_readLine_22 (fun r41 τ41 hp41 => ?_)
    obtain ⟨⟨x41, rfl, ⟨hx41a, hx41b⟩, hx41⟩, rfl⟩ := hp41
    show hpV _ _ _ _ _ _ _ _ _ _ _ _ _ _ _ _ _ _ _ _ _ (_ :: _)
    refine h_if_eq (tgt := 41) C dX9_readLine_25 (by decide) ⟨by omega, by omega⟩ (fun h42 => ?_) (fun h42 => ?_)
    · refine h_aload_n C dX9_readLine_41 0 rfl rfl ?_
      refine h_callV (As := []) (rest := []) C Z yyX9_good wd_1438 (tgX9_good l D cy z _ hI39) kd_195 rfl rfl ⟨rfl, rfl, Nat.le_of_ble_eq_true rfl, Nat.le_of_ble_eq_true rfl⟩ ⟨Nat.le_of_ble_eq_true rfl, Nat.le_of_ble_eq_true rfl⟩ (Nat.le_of_ble_eq_true rfl) dX9_readLine_42 (fun r43 τ43 hp43 => ?_)
      obtain ⟨⟨x43, rfl, ⟨hx43a, hx43b⟩, hx43⟩, rfl⟩ := hp43
      show hpV _ _ _ _ _ _ _ _ _ _ _ _ _ _ _ _ _ _ _ _ _ (_ :: _)
      refine h_if_eq (tgt := 52) C dX9_readLine_45 (by decide) ⟨by omega, by omega⟩ (fun h44 => ?_) (fun h44 => ?_)
      · refine h_aload_n C dX9_readLine_52 0 rfl rfl ?_
        refine h_get C O9 14 kd_195 (by decide) wd_1270 dX9_readLine_53 fr_195_14 ?_
        refine h_bipush C dX9_readLine_56 (by decide) ?_
        refine h_dup2 C rfl rfl dX9_readLine_58 ?_
        refine h_iaload C dX9_readLine_59 kd_201 6 rfl (by rw [ln_201]; decide) rfl ?_
        rw [hg40]
        refine h_iconst C dX9_readLine_60 ?_
        refine h_iadd C dX9_readLine_61 rfl ?_
        refine h_iastore C dX9_readLine_62 kd_201 6 rfl (by rw [ln_201]; decide) ?_
        obtain ⟨τ45, e45⟩ : ∃ μ : hpMem, μ = hpw τ39 201 6 (r1 + 1) := ⟨_, rfl⟩
        rw [← e45]
        have hI45 : hpInv τ45 := by rw [e45]; exact hI39.w ((bw_201 6).trans (show hpwb 6 = (0, 16) by decide)) (by omega) (by omega)
        have hF45 : ∀ j i : Nat, (j ≠ 195 ∨ (i ≠ 8 ∧ i ≠ 9 ∧ i ≠ 10 ∧ i ≠ 11 ∧ i ≠ 12 ∧ i ≠ 13)) → j ≠ 201 → τ45 j i = σ j i := fun j i h_0 h_1 => by rw [e45]; exact (hpw_fr (by omega)).trans (hF39 j i h_0 h_1)
        have hg46 : τ45 201 6 = r1 + 1 := by rw [e45]; exact hpw_eq
        refine h_return C hr hlk dX9_readLine_63 ?_
        exact ⟨rfl, hI45, hF45, by omega, by omega⟩
      · refine h_aload_n C dX9_readLine_48 0 rfl rfl ?_
        refine h_callV (As := []) (rest := []) C Z yyX9_advance wd_1424 (tgX9_advance l D cy z _ hI39) kd_195 rfl rfl ⟨rfl, rfl, Nat.le_of_ble_eq_true rfl, Nat.le_of_ble_eq_true rfl⟩ ⟨Nat.le_of_ble_eq_true rfl, Nat.le_of_ble_eq_true rfl⟩ (Nat.le_of_ble_eq_true rfl) dX9_readLine_49 (fun r47 τ47 hp47 => ?_)
        obtain ⟨rfl, hI47, hG47⟩ := hp47
        have hF47 : ∀ j i : Nat, (j ≠ 195 ∨ (i ≠ 8 ∧ i ≠ 9 ∧ i ≠ 10 ∧ i ≠ 11 ∧ i ≠ 12 ∧ i ≠ 13)) → j ≠ 201 → τ47 j i = σ j i := fun j i h_0 h_1 => (hG47 j i (by omega)).trans (hF39 j i h_0 h_1)
        have hg48 : τ47 201 6 = r1 := (hG47 201 6 (by omega)).trans hg40
        show hpV _ _ _ _ _ _ _ _ _ _ _ _ _ _ _ _ _ _ _ _ _ []
        refine h_aload_n C dX9_readLine_52 0 rfl rfl ?_
        refine h_get C O9 14 kd_195 (by decide) wd_1270 dX9_readLine_53 fr_195_14 ?_
        refine h_bipush C dX9_readLine_56 (by decide) ?_
        refine h_dup2 C rfl rfl dX9_readLine_58 ?_
        refine h_iaload C dX9_readLine_59 kd_201 6 rfl (by rw [ln_201]; decide) rfl ?_
        rw [hg48]
        refine h_iconst C dX9_readLine_60 ?_
        refine h_iadd C dX9_readLine_61 rfl ?_
        refine h_iastore C dX9_readLine_62 kd_201 6 rfl (by rw [ln_201]; decide) ?_
        obtain ⟨τ49, e49⟩ : ∃ μ : hpMem, μ = hpw τ47 201 6 (r1 + 1) := ⟨_, rfl⟩
        rw [← e49]
        have hI49 : hpInv τ49 := by rw [e49]; exact hI47.w ((bw_201 6).trans (show hpwb 6 = (0, 16) by decide)) (by omega) (by omega)
        have hF49 : ∀ j i : Nat, (j ≠ 195 ∨ (i ≠ 8 ∧ i ≠ 9 ∧ i ≠ 10 ∧ i ≠ 11 ∧ i ≠ 12 ∧ i ≠ 13)) → j ≠ 201 → τ49 j i = σ j i := fun j i h_0 h_1 => by rw [e49]; exact (hpw_fr (by omega)).trans (hF47 j i h_0 h_1)
        have hg50 : τ49 201 6 = r1 + 1 := by rw [e49]; exact hpw_eq
        refine h_return C hr hlk dX9_readLine_63 ?_
        exact ⟨rfl, hI49, hF49, by omega, by omega⟩
    · refine h_aload_n C dX9_readLine_28 0 rfl rfl ?_
      refine h_get C O9 10 kd_195 (by decide) wd_1266 dX9_readLine_29 (hp_fvI (by rw [kd_195]; rfl) rfl) ?_
      obtain ⟨hr51a, hr51b⟩ := hI39.b (bf_9_10 kd_195)
      generalize hg51 : τ39 195 10 = r51 at hr51a hr51b ⊢
      refine h_iconst C dX9_readLine_32 ?_
      refine h_icmp_eq (tgt := 41) C dX9_readLine_33 (by decide) ⟨by omega, by omega⟩ ⟨by decide, by decide⟩ (fun h52 => ?_) (fun h52 => ?_)
      · refine h_aload_n C dX9_readLine_41 0 rfl rfl ?_
        refine h_callV (As := []) (rest := []) C Z yyX9_good wd_1438 (tgX9_good l D cy z _ hI39) kd_195 rfl rfl ⟨rfl, rfl, Nat.le_of_ble_eq_true rfl, Nat.le_of_ble_eq_true rfl⟩ ⟨Nat.le_of_ble_eq_true rfl, Nat.le_of_ble_eq_true rfl⟩ (Nat.le_of_ble_eq_true rfl) dX9_readLine_42 (fun r53 τ53 hp53 => ?_)
        obtain ⟨⟨x53, rfl, ⟨hx53a, hx53b⟩, hx53⟩, rfl⟩ := hp53
        show hpV _ _ _ _ _ _ _ _ _ _ _ _ _ _ _ _ _ _ _ _ _ (_ :: _)
        refine h_if_eq (tgt := 52) C dX9_readLine_45 (by decide) ⟨by omega, by omega⟩ (fun h54 => ?_) (fun h54 => ?_)
        · refine h_aload_n C dX9_readLine_52 0 rfl rfl ?_
          refine h_get C O9 14 kd_195 (by decide) wd_1270 dX9_readLine_53 fr_195_14 ?_
          refine h_bipush C dX9_readLine_56 (by decide) ?_
          refine h_dup2 C rfl rfl dX9_readLine_58 ?_
          refine h_iaload C dX9_readLine_59 kd_201 6 rfl (by rw [ln_201]; decide) rfl ?_
          rw [hg40]
          refine h_iconst C dX9_readLine_60 ?_
          refine h_iadd C dX9_readLine_61 rfl ?_
          refine h_iastore C dX9_readLine_62 kd_201 6 rfl (by rw [ln_201]; decide) ?_
          obtain ⟨τ55, e55⟩ : ∃ μ : hpMem, μ = hpw τ39 201 6 (r1 + 1) := ⟨_, rfl⟩
          rw [← e55]
          have hI55 : hpInv τ55 := by rw [e55]; exact hI39.w ((bw_201 6).trans (show hpwb 6 = (0, 16) by decide)) (by omega) (by omega)
          have hF55 : ∀ j i : Nat, (j ≠ 195 ∨ (i ≠ 8 ∧ i ≠ 9 ∧ i ≠ 10 ∧ i ≠ 11 ∧ i ≠ 12 ∧ i ≠ 13)) → j ≠ 201 → τ55 j i = σ j i := fun j i h_0 h_1 => by rw [e55]; exact (hpw_fr (by omega)).trans (hF39 j i h_0 h_1)
          have hg56 : τ55 195 10 = r51 := by rw [e55]; exact (hpw_fr (Or.inl (by omega))).trans hg51
          have hg57 : τ55 201 6 = r1 + 1 := by rw [e55]; exact hpw_eq
          refine h_return C hr hlk dX9_readLine_63 ?_
          exact ⟨rfl, hI55, hF55, by omega, by omega⟩
        · refine h_aload_n C dX9_readLine_48 0 rfl rfl ?_
          refine h_callV (As := []) (rest := []) C Z yyX9_advance wd_1424 (tgX9_advance l D cy z _ hI39) kd_195 rfl rfl ⟨rfl, rfl, Nat.le_of_ble_eq_true rfl, Nat.le_of_ble_eq_true rfl⟩ ⟨Nat.le_of_ble_eq_true rfl, Nat.le_of_ble_eq_true rfl⟩ (Nat.le_of_ble_eq_true rfl) dX9_readLine_49 (fun r58 τ58 hp58 => ?_)
          obtain ⟨rfl, hI58, hG58⟩ := hp58
          have hF58 : ∀ j i : Nat, (j ≠ 195 ∨ (i ≠ 8 ∧ i ≠ 9 ∧ i ≠ 10 ∧ i ≠ 11 ∧ i ≠ 12 ∧ i ≠ 13)) → j ≠ 201 → τ58 j i = σ j i := fun j i h_0 h_1 => (hG58 j i (by omega)).trans (hF39 j i h_0 h_1)
          have hg59 : τ58 201 6 = r1 := (hG58 201 6 (by omega)).trans hg40
          show hpV _ _ _ _ _ _ _ _ _ _ _ _ _ _ _ _ _ _ _ _ _ []
          refine h_aload_n C dX9_readLine_52 0 rfl rfl ?_
          refine h_get C O9 14 kd_195 (by decide) wd_1270 dX9_readLine_53 fr_195_14 ?_
          refine h_bipush C dX9_readLine_56 (by decide) ?_
          refine h_dup2 C rfl rfl dX9_readLine_58 ?_
          refine h_iaload C dX9_readLine_59 kd_201 6 rfl (by rw [ln_201]; decide) rfl ?_
          rw [hg59]
          refine h_iconst C dX9_readLine_60 ?_
          refine h_iadd C dX9_readLine_61 rfl ?_
          refine h_iastore C dX9_readLine_62 kd_201 6 rfl (by rw [ln_201]; decide) ?_
          obtain ⟨τ60, e60⟩ : ∃ μ : hpMem, μ = hpw τ58 201 6 (r1 + 1) := ⟨_, rfl⟩
          rw [← e60]
          have hI60 : hpInv τ60 := by rw [e60]; exact hI58.w ((bw_201 6).trans (show hpwb 6 = (0, 16) by decide)) (by omega) (by omega)
          have hF60 : ∀ j i : Nat, (j ≠ 195 ∨ (i ≠ 8 ∧ i ≠ 9 ∧ i ≠ 10 ∧ i ≠ 11 ∧ i ≠ 12 ∧ i ≠ 13)) → j ≠ 201 → τ60 j i = σ j i := fun j i h_0 h_1 => by rw [e60]; exact (hpw_fr (by omega)).trans (hF58 j i h_0 h_1)
          have hg61 : τ60 201 6 = r1 + 1 := by rw [e60]; exact hpw_eq
          refine h_return C hr hlk dX9_readLine_63 ?_
          exact ⟨rfl, hI60, hF60, by omega, by omega⟩
      · refine h_aload_n C dX9_readLine_36 0 rfl rfl ?_
        refine h_iconst C dX9_readLine_37 ?_
        refine h_callV (As := [.int (hpI 1)]) (rest := []) C Z yyX9_errs wd_1465 (tgX9_errs l D cy z _ 1 ⟨by decide, by decide⟩ hI39 (by omega)) kd_195 rfl rfl ⟨rfl, rfl, Nat.le_of_ble_eq_true rfl, Nat.le_of_ble_eq_true rfl⟩ ⟨Nat.le_of_ble_eq_true rfl, Nat.le_of_ble_eq_true rfl⟩ (Nat.le_of_ble_eq_true rfl) dX9_readLine_38 (fun r62 τ62 hp62 => ?_)
        obtain ⟨rfl, hI62, hG62, hq62_0⟩ := hp62
        have hF62 : ∀ j i : Nat, (j ≠ 195 ∨ (i ≠ 8 ∧ i ≠ 9 ∧ i ≠ 10 ∧ i ≠ 11 ∧ i ≠ 12 ∧ i ≠ 13)) → j ≠ 201 → τ62 j i = σ j i := fun j i h_0 h_1 => (hG62 j i (by omega)).trans (hF39 j i h_0 h_1)
        have hg63 : τ62 201 6 = r1 := (hG62 201 6 (by omega)).trans hg40
        have hg64 : τ62 195 10 = r51 := (hG62 195 10 (by omega)).trans hg51
        show hpV _ _ _ _ _ _ _ _ _ _ _ _ _ _ _ _ _ _ _ _ _ []
        refine h_aload_n C dX9_readLine_41 0 rfl rfl ?_
        refine h_callV (As := []) (rest := []) C Z yyX9_good wd_1438 (tgX9_good l D cy z _ hI62) kd_195 rfl rfl ⟨rfl, rfl, Nat.le_of_ble_eq_true rfl, Nat.le_of_ble_eq_true rfl⟩ ⟨Nat.le_of_ble_eq_true rfl, Nat.le_of_ble_eq_true rfl⟩ (Nat.le_of_ble_eq_true rfl) dX9_readLine_42 (fun r65 τ65 hp65 => ?_)
        obtain ⟨⟨x65, rfl, ⟨hx65a, hx65b⟩, hx65⟩, rfl⟩ := hp65
        show hpV _ _ _ _ _ _ _ _ _ _ _ _ _ _ _ _ _ _ _ _ _ (_ :: _)
        refine h_if_eq (tgt := 52) C dX9_readLine_45 (by decide) ⟨by omega, by omega⟩ (fun h66 => ?_) (fun h66 => ?_)
        · refine h_aload_n C dX9_readLine_52 0 rfl rfl ?_
          refine h_get C O9 14 kd_195 (by decide) wd_1270 dX9_readLine_53 fr_195_14 ?_
          refine h_bipush C dX9_readLine_56 (by decide) ?_
          refine h_dup2 C rfl rfl dX9_readLine_58 ?_
          refine h_iaload C dX9_readLine_59 kd_201 6 rfl (by rw [ln_201]; decide) rfl ?_
          rw [hg63]
          refine h_iconst C dX9_readLine_60 ?_
          refine h_iadd C dX9_readLine_61 rfl ?_
          refine h_iastore C dX9_readLine_62 kd_201 6 rfl (by rw [ln_201]; decide) ?_
          obtain ⟨τ67, e67⟩ : ∃ μ : hpMem, μ = hpw τ62 201 6 (r1 + 1) := ⟨_, rfl⟩
          rw [← e67]
          have hI67 : hpInv τ67 := by rw [e67]; exact hI62.w ((bw_201 6).trans (show hpwb 6 = (0, 16) by decide)) (by omega) (by omega)
          have hF67 : ∀ j i : Nat, (j ≠ 195 ∨ (i ≠ 8 ∧ i ≠ 9 ∧ i ≠ 10 ∧ i ≠ 11 ∧ i ≠ 12 ∧ i ≠ 13)) → j ≠ 201 → τ67 j i = σ j i := fun j i h_0 h_1 => by rw [e67]; exact (hpw_fr (by omega)).trans (hF62 j i h_0 h_1)
          have hg68 : τ67 195 10 = r51 := by rw [e67]; exact (hpw_fr (Or.inl (by omega))).trans hg64
          have hg69 : τ67 201 6 = r1 + 1 := by rw [e67]; exact hpw_eq
          refine h_return C hr hlk dX9_readLine_63 ?_
          exact ⟨rfl, hI67, hF67, by omega, by omega⟩
        · refine h_aload_n C dX9_readLine_48 0 rfl rfl ?_
          refine h_callV (As := []) (rest := []) C Z yyX9_advance wd_1424 (tgX9_advance l D cy z _ hI62) kd_195 rfl rfl ⟨rfl, rfl, Nat.le_of_ble_eq_true rfl, Nat.le_of_ble_eq_true rfl⟩ ⟨Nat.le_of_ble_eq_true rfl, Nat.le_of_ble_eq_true rfl⟩ (Nat.le_of_ble_eq_true rfl) dX9_readLine_49 (fun r70 τ70 hp70 => ?_)
          obtain ⟨rfl, hI70, hG70⟩ := hp70
          have hF70 : ∀ j i : Nat, (j ≠ 195 ∨ (i ≠ 8 ∧ i ≠ 9 ∧ i ≠ 10 ∧ i ≠ 11 ∧ i ≠ 12 ∧ i ≠ 13)) → j ≠ 201 → τ70 j i = σ j i := fun j i h_0 h_1 => (hG70 j i (by omega)).trans (hF62 j i h_0 h_1)
          have hg71 : τ70 201 6 = r1 := (hG70 201 6 (by omega)).trans hg63
          show hpV _ _ _ _ _ _ _ _ _ _ _ _ _ _ _ _ _ _ _ _ _ []
          refine h_aload_n C dX9_readLine_52 0 rfl rfl ?_
          refine h_get C O9 14 kd_195 (by decide) wd_1270 dX9_readLine_53 fr_195_14 ?_
          refine h_bipush C dX9_readLine_56 (by decide) ?_
          refine h_dup2 C rfl rfl dX9_readLine_58 ?_
          refine h_iaload C dX9_readLine_59 kd_201 6 rfl (by rw [ln_201]; decide) rfl ?_
          rw [hg71]
          refine h_iconst C dX9_readLine_60 ?_
          refine h_iadd C dX9_readLine_61 rfl ?_
          refine h_iastore C dX9_readLine_62 kd_201 6 rfl (by rw [ln_201]; decide) ?_
          obtain ⟨τ72, e72⟩ : ∃ μ : hpMem, μ = hpw τ70 201 6 (r1 + 1) := ⟨_, rfl⟩
          rw [← e72]
          have hI72 : hpInv τ72 := by rw [e72]; exact hI70.w ((bw_201 6).trans (show hpwb 6 = (0, 16) by decide)) (by omega) (by omega)
          have hF72 : ∀ j i : Nat, (j ≠ 195 ∨ (i ≠ 8 ∧ i ≠ 9 ∧ i ≠ 10 ∧ i ≠ 11 ∧ i ≠ 12 ∧ i ≠ 13)) → j ≠ 201 → τ72 j i = σ j i := fun j i h_0 h_1 => by rw [e72]; exact (hpw_fr (by omega)).trans (hF70 j i h_0 h_1)
          have hg73 : τ72 201 6 = r1 + 1 := by rw [e72]; exact hpw_eq
          refine h_return C hr hlk dX9_readLine_63 ?_
          exact ⟨rfl, hI72, hF72, by omega, by omega⟩
abbrev rgX9_moor : Room := { frames := 10, cells := 0, slots := 0, locals := 215 }
abbrev pgX9_moor (z : Nat) (σ : hpMem) : Option Value → hpMem → Prop := fun r τ => (∃ x : Int, r = some (.int (hpI x)) ∧ (hpR x)) ∧ hpInv τ ∧ (∀ j i : Nat, j ≠ 196 → j ≠ 201 → (j ≠ 195 ∨ (i ≠ 5 ∧ i ≠ 7 ∧ i ≠ 8 ∧ i ≠ 9 ∧ i ≠ 10 ∧ i ≠ 11 ∧ i ≠ 12 ∧ i ≠ 13)) → τ j i = σ j i)
set_option maxHeartbeats 4000000 in
set_option maxRecDepth 20000 in
theorem tgX9_moor (l : Launch) (D : va_G) (cy : Nat → ClassId) (z : Nat) (σ : hpMem) (hI : hpInv σ) : hpM l D cy z yX9_moor cX9_moor 2 (some .int) rgX9_moor [.ref (z + 195)] σ (pgX9_moor z σ) := by
  refine hp_met rfl (Nat.le_of_ble_eq_true rfl) (fun p e s m below meth c C Z hr hlk => ?_)
  have hF0 : ∀ j i : Nat, j ≠ 196 → j ≠ 201 → (j ≠ 195 ∨ (i ≠ 5 ∧ i ≠ 7 ∧ i ≠ 8 ∧ i ≠ 9 ∧ i ≠ 10 ∧ i ≠ 11 ∧ i ≠ 12 ∧ i ≠ 13)) → σ j i = σ j i := fun j i _ _ _ => rfl
  refine h_aload_n C dX9_moor_0 0 rfl rfl ?_
  refine h_aload_n C dX9_moor_1 0 rfl rfl ?_
  refine h_get C O9 5 kd_195 (by decide) wd_1261 dX9_moor_2 (hp_fvI (by rw [kd_195]; rfl) rfl) ?_
  obtain ⟨hr1a, hr1b⟩ := hI.b (bf_9_5 kd_195)
  generalize hg1 : σ 195 5 = r1 at hr1a hr1b ⊢
  refine h_put C O9 7 kd_195 (by decide) rfl wd_1263 dX9_moor_5 rfl rfl (hp_fvI (by rw [kd_195]; rfl) hpu_at) ?_
  obtain ⟨τ2, e2⟩ : ∃ μ : hpMem, μ = hpw σ 195 7 r1 := ⟨_, rfl⟩
  rw [← e2]
  have hI2 : hpInv τ2 := by rw [e2]; exact hI.w (bf_9_7 kd_195) (by omega) (by omega)
  have hF2 : ∀ j i : Nat, j ≠ 196 → j ≠ 201 → (j ≠ 195 ∨ (i ≠ 5 ∧ i ≠ 7 ∧ i ≠ 8 ∧ i ≠ 9 ∧ i ≠ 10 ∧ i ≠ 11 ∧ i ≠ 12 ∧ i ≠ 13)) → τ2 j i = σ j i := fun j i h_0 h_1 h_2 => by rw [e2]; exact (hpw_fr (by omega)).trans (hF0 j i h_0 h_1 h_2)
  have hg3 : τ2 195 5 = r1 := by rw [e2]; exact (hpw_fr (Or.inr (by decide))).trans hg1
  have hg4 : τ2 195 7 = r1 := by rw [e2]; exact hpw_eq
  refine h_aload_n C dX9_moor_8 0 rfl rfl ?_
  refine h_iconst C dX9_moor_9 ?_
  refine h_put C O9 5 kd_195 (by decide) rfl wd_1261 dX9_moor_10 rfl rfl (hp_fvI (by rw [kd_195]; rfl) hpu_at) ?_
  obtain ⟨τ5, e5⟩ : ∃ μ : hpMem, μ = hpw τ2 195 5 0 := ⟨_, rfl⟩
  rw [← e5]
  have hI5 : hpInv τ5 := by rw [e5]; exact hI2.w (bf_9_5 kd_195) (by omega) (by omega)
  have hF5 : ∀ j i : Nat, j ≠ 196 → j ≠ 201 → (j ≠ 195 ∨ (i ≠ 5 ∧ i ≠ 7 ∧ i ≠ 8 ∧ i ≠ 9 ∧ i ≠ 10 ∧ i ≠ 11 ∧ i ≠ 12 ∧ i ≠ 13)) → τ5 j i = σ j i := fun j i h_0 h_1 h_2 => by rw [e5]; exact (hpw_fr (by omega)).trans (hF2 j i h_0 h_1 h_2)
  have hg6 : τ5 195 7 = r1 := by rw [e5]; exact (hpw_fr (Or.inr (by decide))).trans hg4
  have hg7 : τ5 195 5 = 0 := by rw [e5]; exact hpw_eq
  refine h_aload_n C dX9_moor_13 0 rfl rfl ?_
  refine h_iconst C dX9_moor_14 ?_
  refine h_put C O9 8 kd_195 (by decide) rfl wd_1264 dX9_moor_15 rfl rfl (hp_fvI (by rw [kd_195]; rfl) hpu_at) ?_
  obtain ⟨τ8, e8⟩ : ∃ μ : hpMem, μ = hpw τ5 195 8 0 := ⟨_, rfl⟩
  rw [← e8]
  have hI8 : hpInv τ8 := by rw [e8]; exact hI5.w (bf_9_8 kd_195) (by omega) (by omega)
  have hF8 : ∀ j i : Nat, j ≠ 196 → j ≠ 201 → (j ≠ 195 ∨ (i ≠ 5 ∧ i ≠ 7 ∧ i ≠ 8 ∧ i ≠ 9 ∧ i ≠ 10 ∧ i ≠ 11 ∧ i ≠ 12 ∧ i ≠ 13)) → τ8 j i = σ j i := fun j i h_0 h_1 h_2 => by rw [e8]; exact (hpw_fr (by omega)).trans (hF5 j i h_0 h_1 h_2)
  have hg9 : τ8 195 7 = r1 := by rw [e8]; exact (hpw_fr (Or.inr (by decide))).trans hg6
  have hg10 : τ8 195 5 = 0 := by rw [e8]; exact (hpw_fr (Or.inr (by decide))).trans hg7
  have hg11 : τ8 195 8 = 0 := by rw [e8]; exact hpw_eq
  refine h_aload_n C dX9_moor_18 0 rfl rfl ?_
  refine h_iconst C dX9_moor_19 ?_
  refine h_put C O9 12 kd_195 (by decide) rfl wd_1268 dX9_moor_20 rfl rfl (hp_fvI (by rw [kd_195]; rfl) hpu_at) ?_
  obtain ⟨τ12, e12⟩ : ∃ μ : hpMem, μ = hpw τ8 195 12 0 := ⟨_, rfl⟩
  rw [← e12]
  have hI12 : hpInv τ12 := by rw [e12]; exact hI8.w (bf_9_12 kd_195) (by omega) (by omega)
  have hF12 : ∀ j i : Nat, j ≠ 196 → j ≠ 201 → (j ≠ 195 ∨ (i ≠ 5 ∧ i ≠ 7 ∧ i ≠ 8 ∧ i ≠ 9 ∧ i ≠ 10 ∧ i ≠ 11 ∧ i ≠ 12 ∧ i ≠ 13)) → τ12 j i = σ j i := fun j i h_0 h_1 h_2 => by rw [e12]; exact (hpw_fr (by omega)).trans (hF8 j i h_0 h_1 h_2)
  have hg13 : τ12 195 7 = r1 := by rw [e12]; exact (hpw_fr (Or.inr (by decide))).trans hg9
  have hg14 : τ12 195 5 = 0 := by rw [e12]; exact (hpw_fr (Or.inr (by decide))).trans hg10
  have hg15 : τ12 195 8 = 0 := by rw [e12]; exact (hpw_fr (Or.inr (by decide))).trans hg11
  have hg16 : τ12 195 12 = 0 := by rw [e12]; exact hpw_eq
  refine h_aload_n C dX9_moor_23 0 rfl rfl ?_
  refine h_iconst C dX9_moor_24 ?_
  refine h_put C O9 13 kd_195 (by decide) rfl wd_1269 dX9_moor_25 rfl rfl (hp_fvI (by rw [kd_195]; rfl) hpu_at) ?_
  obtain ⟨τ17, e17⟩ : ∃ μ : hpMem, μ = hpw τ12 195 13 (-1) := ⟨_, rfl⟩
  rw [← e17]
  have hI17 : hpInv τ17 := by rw [e17]; exact hI12.w (bf_9_13 kd_195) (by omega) (by omega)
  have hF17 : ∀ j i : Nat, j ≠ 196 → j ≠ 201 → (j ≠ 195 ∨ (i ≠ 5 ∧ i ≠ 7 ∧ i ≠ 8 ∧ i ≠ 9 ∧ i ≠ 10 ∧ i ≠ 11 ∧ i ≠ 12 ∧ i ≠ 13)) → τ17 j i = σ j i := fun j i h_0 h_1 h_2 => by rw [e17]; exact (hpw_fr (by omega)).trans (hF12 j i h_0 h_1 h_2)
  have hg18 : τ17 195 7 = r1 := by rw [e17]; exact (hpw_fr (Or.inr (by decide))).trans hg13
  have hg19 : τ17 195 5 = 0 := by rw [e17]; exact (hpw_fr (Or.inr (by decide))).trans hg14
  have hg20 : τ17 195 8 = 0 := by rw [e17]; exact (hpw_fr (Or.inr (by decide))).trans hg15
  have hg21 : τ17 195 12 = 0 := by rw [e17]; exact (hpw_fr (Or.inr (by decide))).trans hg16
  have hg22 : τ17 195 13 = (-1) := by rw [e17]; exact hpw_eq
  refine h_iconst C dX9_moor_28 ?_
  refine h_istore_n (lv' := [(1, .int (hpI 0)), (0, .ref (z + 195))]) C dX9_moor_29 rfl (by decide) rfl ?_
  have L23 : ∀ (n23 : Nat) (τ23 : hpMem) (w23_1 : Int), 0 ≤ w23_1 → w23_1 ≤ 47 → hpInv τ23 → (∀ j i : Nat, j ≠ 196 → j ≠ 201 → (j ≠ 195 ∨ (i ≠ 5 ∧ i ≠ 7 ∧ i ≠ 8 ∧ i ≠ 9 ∧ i ≠ 10 ∧ i ≠ 11 ∧ i ≠ 12 ∧ i ≠ 13)) → τ23 j i = σ j i) → (∀ q : Nat, (q : Int) < w23_1 → τ23 201 q = 0) → (4294967296 - w23_1) < (n23 : Int) → hpF p l e rgX9_moor s m [.ref (z + 195)] below meth c 2 D cy z (pgX9_moor z σ) τ23 30 [(0, .ref (z + 195)), (1, .int (hpI w23_1))] [] := by
    intro n23
    induction n23 with
    | zero => intro τ23 w23_1 hv23_0 hv23_1 hI23 hF23 hM23_0 hm23; exfalso; omega
    | succ n23 ih23 =>
      intro τ23 w23_1 hv23_0 hv23_1 hI23 hF23 hM23_0 hm23
      refine h_iload_n C dX9_moor_30 1 rfl rfl ?_
      refine h_bipush C dX9_moor_31 (by decide) ?_
      refine h_icmp_ge (tgt := 49) C dX9_moor_33 (by decide) ⟨by omega, by omega⟩ ⟨by decide, by decide⟩ (fun h24 => ?_) (fun h24 => ?_)
      · refine h_aload_n C dX9_moor_49 0 rfl rfl ?_
        refine h_callV (As := []) (rest := []) C Z yyX9_advance wd_1424 (tgX9_advance l D cy z _ hI23) kd_195 rfl rfl ⟨rfl, rfl, Nat.le_of_ble_eq_true rfl, Nat.le_of_ble_eq_true rfl⟩ ⟨Nat.le_of_ble_eq_true rfl, Nat.le_of_ble_eq_true rfl⟩ (Nat.le_of_ble_eq_true rfl) dX9_moor_50 (fun r25 τ25 hp25 => ?_)
        obtain ⟨rfl, hI25, hG25⟩ := hp25
        have hF25 : ∀ j i : Nat, j ≠ 196 → j ≠ 201 → (j ≠ 195 ∨ (i ≠ 5 ∧ i ≠ 7 ∧ i ≠ 8 ∧ i ≠ 9 ∧ i ≠ 10 ∧ i ≠ 11 ∧ i ≠ 12 ∧ i ≠ 13)) → τ25 j i = σ j i := fun j i h_0 h_1 h_2 => (hG25 j i (by omega)).trans (hF23 j i h_0 h_1 h_2)
        show hpV _ _ _ _ _ _ _ _ _ _ _ _ _ _ _ _ _ _ _ _ _ []
        have L26 : ∀ (n26 : Nat) (τ26 : hpMem), hpInv τ26 → (∀ j i : Nat, j ≠ 196 → j ≠ 201 → (j ≠ 195 ∨ (i ≠ 5 ∧ i ≠ 7 ∧ i ≠ 8 ∧ i ≠ 9 ∧ i ≠ 10 ∧ i ≠ 11 ∧ i ≠ 12 ∧ i ≠ 13)) → τ26 j i = σ j i) → (τ26 195 12 = 0 → τ26 201 6 ≤ 1 + τ26 201 3 + τ26 201 4) → (17 - τ26 201 6) < (n26 : Int) → hpF p l e rgX9_moor s m [.ref (z + 195)] below meth c 2 D cy z (pgX9_moor z σ) τ26 53 [(0, .ref (z + 195))] [] := by
          intro n26
          induction n26 with
          | zero => intro τ26 hI26 hF26 hM26_0 hm26; have hz26_0 := hI26.b ((bw_201 6).trans (show hpwb 6 = (0, 16) by decide)); exfalso; omega
          | succ n26 ih26 =>
            intro τ26 hI26 hF26 hM26_0 hm26
            have hz26_0 := hI26.b ((bw_201 6).trans (show hpwb 6 = (0, 16) by decide))
            refine h_aload_n C dX9_moor_53 0 rfl rfl ?_
            refine h_callV (As := []) (rest := []) C Z yyX9_good wd_1438 (tgX9_good l D cy z _ hI26) kd_195 rfl rfl ⟨rfl, rfl, Nat.le_of_ble_eq_true rfl, Nat.le_of_ble_eq_true rfl⟩ ⟨Nat.le_of_ble_eq_true rfl, Nat.le_of_ble_eq_true rfl⟩ (Nat.le_of_ble_eq_true rfl) dX9_moor_54 (fun r27 τ27 hp27 => ?_)
            obtain ⟨⟨x27, rfl, ⟨hx27a, hx27b⟩, hx27⟩, rfl⟩ := hp27
            show hpV _ _ _ _ _ _ _ _ _ _ _ _ _ _ _ _ _ _ _ _ _ (_ :: _)
            refine h_if_eq (tgt := 74) C dX9_moor_57 (by decide) ⟨by omega, by omega⟩ (fun h28 => ?_) (fun h28 => ?_)
            · refine h_aload_n C dX9_moor_74 0 rfl rfl ?_
              refine h_callV (As := []) (rest := []) C Z yyX9_good wd_1438 (tgX9_good l D cy z _ hI26) kd_195 rfl rfl ⟨rfl, rfl, Nat.le_of_ble_eq_true rfl, Nat.le_of_ble_eq_true rfl⟩ ⟨Nat.le_of_ble_eq_true rfl, Nat.le_of_ble_eq_true rfl⟩ (Nat.le_of_ble_eq_true rfl) dX9_moor_75 (fun r29 τ29 hp29 => ?_)
              obtain ⟨⟨x29, rfl, ⟨hx29a, hx29b⟩, hx29⟩, rfl⟩ := hp29
              show hpV _ _ _ _ _ _ _ _ _ _ _ _ _ _ _ _ _ _ _ _ _ (_ :: _)
              refine h_if_ne (tgt := 84) C dX9_moor_78 (by decide) ⟨by omega, by omega⟩ (fun h30 => ?_) (fun h30 => ?_)
              · refine h_iconst C dX9_moor_84 ?_
                refine h_istore_n (lv' := [(1, .int (hpI 0)), (0, .ref (z + 195))]) C dX9_moor_85 rfl (by decide) rfl ?_
                have L31 : ∀ (n31 : Nat) (τ31 : hpMem) (w31_1 : Int), 0 ≤ w31_1 → w31_1 ≤ 47 → hpInv τ31 → (∀ j i : Nat, j ≠ 196 → j ≠ 201 → (j ≠ 195 ∨ (i ≠ 5 ∧ i ≠ 7 ∧ i ≠ 8 ∧ i ≠ 9 ∧ i ≠ 10 ∧ i ≠ 11 ∧ i ≠ 12 ∧ i ≠ 13)) → τ31 j i = σ j i) → (4294967296 - w31_1) < (n31 : Int) → hpF p l e rgX9_moor s m [.ref (z + 195)] below meth c 2 D cy z (pgX9_moor z σ) τ31 86 [(0, .ref (z + 195)), (1, .int (hpI w31_1))] [] := by
                  intro n31
                  induction n31 with
                  | zero => intro τ31 w31_1 hv31_0 hv31_1 hI31 hF31 hm31; exfalso; omega
                  | succ n31 ih31 =>
                    intro τ31 w31_1 hv31_0 hv31_1 hI31 hF31 hm31
                    refine h_iload_n C dX9_moor_86 1 rfl rfl ?_
                    refine h_bipush C dX9_moor_87 (by decide) ?_
                    refine h_icmp_ge (tgt := 110) C dX9_moor_89 (by decide) ⟨by omega, by omega⟩ ⟨by decide, by decide⟩ (fun h32 => ?_) (fun h32 => ?_)
                    · refine h_aload_n C dX9_moor_110 0 rfl rfl ?_
                      refine h_get C O9 1 kd_195 (by decide) wd_1257 dX9_moor_111 fr_195_1 ?_
                      refine h_bipush C dX9_moor_114 (by decide) ?_
                      refine h_iaload C dX9_moor_116 kd_196 6 rfl (by rw [ln_196]; decide) rfl ?_
                      obtain ⟨hr33a, hr33b⟩ := hI31.b ((bw_196 6).trans (show hpwb 6 = (0, 16) by decide))
                      generalize hg33 : τ31 196 6 = r33 at hr33a hr33b ⊢
                      refine h_ireturn C hr hlk dX9_moor_117 ?_
                      exact ⟨⟨_, rfl, ⟨by omega, by omega⟩⟩, hI31, hF31⟩
                    · refine h_aload_n C dX9_moor_92 0 rfl rfl ?_
                      refine h_get C O9 1 kd_195 (by decide) wd_1257 dX9_moor_93 fr_195_1 ?_
                      refine h_iload_n C dX9_moor_96 1 rfl rfl ?_
                      refine h_aload_n C dX9_moor_97 0 rfl rfl ?_
                      refine h_get C O9 14 kd_195 (by decide) wd_1270 dX9_moor_98 fr_195_14 ?_
                      refine h_iload_n C dX9_moor_101 1 rfl rfl ?_
                      refine h_iaload C dX9_moor_102 kd_201 (w31_1).toNat (Int.toNat_of_nonneg (by omega)) (by rw [ln_201]; omega) rfl ?_
                      have hwb34 := hpInv.q201 hI31 ((w31_1).toNat)
                      obtain ⟨hr35a, hr35b⟩ := hpInv.r201 hI31 ((w31_1).toNat) 0 46 (0) 2016 (by omega) (by omega) (by decide)
                      generalize hg35 : τ31 201 ((w31_1).toNat) = r35 at hr35a hr35b ⊢
                      rw [hg35] at hwb34
                      refine h_iastore C dX9_moor_103 kd_196 (w31_1).toNat (Int.toNat_of_nonneg (by omega)) (by rw [ln_196]; omega) ?_
                      obtain ⟨τ36, e36⟩ : ∃ μ : hpMem, μ = hpw τ31 196 ((w31_1).toNat) r35 := ⟨_, rfl⟩
                      rw [← e36]
                      have hI36 : hpInv τ36 := by rw [e36]; exact hpInv.c196 hI31 hwb34
                      have hF36 : ∀ j i : Nat, j ≠ 196 → j ≠ 201 → (j ≠ 195 ∨ (i ≠ 5 ∧ i ≠ 7 ∧ i ≠ 8 ∧ i ≠ 9 ∧ i ≠ 10 ∧ i ≠ 11 ∧ i ≠ 12 ∧ i ≠ 13)) → τ36 j i = σ j i := fun j i h_0 h_1 h_2 => by rw [e36]; exact (hpw_fr (by omega)).trans (hF31 j i h_0 h_1 h_2)
                      have hg37 : τ36 201 ((w31_1).toNat) = r35 := by rw [e36]; exact (hpw_fr (Or.inl (by omega))).trans hg35
                      refine h_iinc (lv' := [(1, .int (hpI (w31_1 + 1))), (0, .ref (z + 195))]) C dX9_moor_104 1 rfl rfl (by decide) rfl ?_
                      refine h_goto (tgt := 86) C dX9_moor_107 (by decide) ?_
                      exact hp_sub [1, 0] rfl (ih31 _ (w31_1 + 1) (by omega) (by omega) hI36 hF36 (by omega))
                exact hp_sub [1, 0] rfl (L31 8589934592 _ 0 (by omega) (by omega) hI26 hF26 (by omega))
              · refine h_bipush C dX9_moor_81 (by decide) ?_
                refine h_ireturn C hr hlk dX9_moor_83 ?_
                exact ⟨⟨_, rfl, ⟨by decide, by decide⟩⟩, hI26, hF26⟩
            · refine h_aload_n C dX9_moor_60 0 rfl rfl ?_
              refine h_get C O9 10 kd_195 (by decide) wd_1266 dX9_moor_61 (hp_fvI (by rw [kd_195]; rfl) rfl) ?_
              obtain ⟨hr38a, hr38b⟩ := hI26.b (bf_9_10 kd_195)
              generalize hg38 : τ26 195 10 = r38 at hr38a hr38b ⊢
              refine h_if_eq (tgt := 74) C dX9_moor_64 (by decide) ⟨by omega, by omega⟩ (fun h39 => ?_) (fun h39 => ?_)
              · refine h_aload_n C dX9_moor_74 0 rfl rfl ?_
                refine h_callV (As := []) (rest := []) C Z yyX9_good wd_1438 (tgX9_good l D cy z _ hI26) kd_195 rfl rfl ⟨rfl, rfl, Nat.le_of_ble_eq_true rfl, Nat.le_of_ble_eq_true rfl⟩ ⟨Nat.le_of_ble_eq_true rfl, Nat.le_of_ble_eq_true rfl⟩ (Nat.le_of_ble_eq_true rfl) dX9_moor_75 (fun r40 τ40 hp40 => ?_)
                obtain ⟨⟨x40, rfl, ⟨hx40a, hx40b⟩, hx40⟩, rfl⟩ := hp40
                show hpV _ _ _ _ _ _ _ _ _ _ _ _ _ _ _ _ _ _ _ _ _ (_ :: _)
                refine h_if_ne (tgt := 84) C dX9_moor_78 (by decide) ⟨by omega, by omega⟩ (fun h41 => ?_) (fun h41 => ?_)
                · refine h_iconst C dX9_moor_84 ?_
                  refine h_istore_n (lv' := [(1, .int (hpI 0)), (0, .ref (z + 195))]) C dX9_moor_85 rfl (by decide) rfl ?_
                  have L42 : ∀ (n42 : Nat) (τ42 : hpMem) (w42_1 : Int), 0 ≤ w42_1 → w42_1 ≤ 47 → hpInv τ42 → (∀ j i : Nat, j ≠ 196 → j ≠ 201 → (j ≠ 195 ∨ (i ≠ 5 ∧ i ≠ 7 ∧ i ≠ 8 ∧ i ≠ 9 ∧ i ≠ 10 ∧ i ≠ 11 ∧ i ≠ 12 ∧ i ≠ 13)) → τ42 j i = σ j i) → (4294967296 - w42_1) < (n42 : Int) → hpF p l e rgX9_moor s m [.ref (z + 195)] below meth c 2 D cy z (pgX9_moor z σ) τ42 86 [(0, .ref (z + 195)), (1, .int (hpI w42_1))] [] := by
                    intro n42
                    induction n42 with
                    | zero => intro τ42 w42_1 hv42_0 hv42_1 hI42 hF42 hm42; exfalso; omega
                    | succ n42 ih42 =>
                      intro τ42 w42_1 hv42_0 hv42_1 hI42 hF42 hm42
                      refine h_iload_n C dX9_moor_86 1 rfl rfl ?_
                      refine h_bipush C dX9_moor_87 (by decide) ?_
                      refine h_icmp_ge (tgt := 110) C dX9_moor_89 (by decide) ⟨by omega, by omega⟩ ⟨by decide, by decide⟩ (fun h43 => ?_) (fun h43 => ?_)
                      · refine h_aload_n C dX9_moor_110 0 rfl rfl ?_
                        refine h_get C O9 1 kd_195 (by decide) wd_1257 dX9_moor_111 fr_195_1 ?_
                        refine h_bipush C dX9_moor_114 (by decide) ?_
                        refine h_iaload C dX9_moor_116 kd_196 6 rfl (by rw [ln_196]; decide) rfl ?_
                        obtain ⟨hr44a, hr44b⟩ := hI42.b ((bw_196 6).trans (show hpwb 6 = (0, 16) by decide))
                        generalize hg44 : τ42 196 6 = r44 at hr44a hr44b ⊢
                        refine h_ireturn C hr hlk dX9_moor_117 ?_
                        exact ⟨⟨_, rfl, ⟨by omega, by omega⟩⟩, hI42, hF42⟩
                      · refine h_aload_n C dX9_moor_92 0 rfl rfl ?_
                        refine h_get C O9 1 kd_195 (by decide) wd_1257 dX9_moor_93 fr_195_1 ?_
                        refine h_iload_n C dX9_moor_96 1 rfl rfl ?_
                        refine h_aload_n C dX9_moor_97 0 rfl rfl ?_
                        refine h_get C O9 14 kd_195 (by decide) wd_1270 dX9_moor_98 fr_195_14 ?_
                        refine h_iload_n C dX9_moor_101 1 rfl rfl ?_
                        refine h_iaload C dX9_moor_102 kd_201 (w42_1).toNat (Int.toNat_of_nonneg (by omega)) (by rw [ln_201]; omega) rfl ?_
                        have hwb45 := hpInv.q201 hI42 ((w42_1).toNat)
                        obtain ⟨hr46a, hr46b⟩ := hpInv.r201 hI42 ((w42_1).toNat) 0 46 (0) 2016 (by omega) (by omega) (by decide)
                        generalize hg46 : τ42 201 ((w42_1).toNat) = r46 at hr46a hr46b ⊢
                        rw [hg46] at hwb45
                        refine h_iastore C dX9_moor_103 kd_196 (w42_1).toNat (Int.toNat_of_nonneg (by omega)) (by rw [ln_196]; omega) ?_
                        obtain ⟨τ47, e47⟩ : ∃ μ : hpMem, μ = hpw τ42 196 ((w42_1).toNat) r46 := ⟨_, rfl⟩
                        rw [← e47]
                        have hI47 : hpInv τ47 := by rw [e47]; exact hpInv.c196 hI42 hwb45
                        have hF47 : ∀ j i : Nat, j ≠ 196 → j ≠ 201 → (j ≠ 195 ∨ (i ≠ 5 ∧ i ≠ 7 ∧ i ≠ 8 ∧ i ≠ 9 ∧ i ≠ 10 ∧ i ≠ 11 ∧ i ≠ 12 ∧ i ≠ 13)) → τ47 j i = σ j i := fun j i h_0 h_1 h_2 => by rw [e47]; exact (hpw_fr (by omega)).trans (hF42 j i h_0 h_1 h_2)
                        have hg48 : τ47 201 ((w42_1).toNat) = r46 := by rw [e47]; exact (hpw_fr (Or.inl (by omega))).trans hg46
                        refine h_iinc (lv' := [(1, .int (hpI (w42_1 + 1))), (0, .ref (z + 195))]) C dX9_moor_104 1 rfl rfl (by decide) rfl ?_
                        refine h_goto (tgt := 86) C dX9_moor_107 (by decide) ?_
                        exact hp_sub [1, 0] rfl (ih42 _ (w42_1 + 1) (by omega) (by omega) hI47 hF47 (by omega))
                  exact hp_sub [1, 0] rfl (L42 8589934592 _ 0 (by omega) (by omega) hI26 hF26 (by omega))
                · refine h_bipush C dX9_moor_81 (by decide) ?_
                  refine h_ireturn C hr hlk dX9_moor_83 ?_
                  exact ⟨⟨_, rfl, ⟨by decide, by decide⟩⟩, hI26, hF26⟩
              · refine h_aload_n C dX9_moor_67 0 rfl rfl ?_
                refine h_callV (As := []) (rest := []) C Z yyX9_readLine wd_1442 (tgX9_readLine l D cy z _ hI26 (by omega)) kd_195 rfl rfl ⟨rfl, rfl, Nat.le_of_ble_eq_true rfl, Nat.le_of_ble_eq_true rfl⟩ ⟨Nat.le_of_ble_eq_true rfl, Nat.le_of_ble_eq_true rfl⟩ (Nat.le_of_ble_eq_true rfl) dX9_moor_68 (fun r49 τ49 hp49 => ?_)
                obtain ⟨rfl, hI49, hG49, hq49_0, hq49_1⟩ := hp49
                have hF49 : ∀ j i : Nat, j ≠ 196 → j ≠ 201 → (j ≠ 195 ∨ (i ≠ 5 ∧ i ≠ 7 ∧ i ≠ 8 ∧ i ≠ 9 ∧ i ≠ 10 ∧ i ≠ 11 ∧ i ≠ 12 ∧ i ≠ 13)) → τ49 j i = σ j i := fun j i h_0 h_1 h_2 => (hG49 j i (by omega) (by omega)).trans (hF26 j i h_0 h_1 h_2)
                show hpV _ _ _ _ _ _ _ _ _ _ _ _ _ _ _ _ _ _ _ _ _ []
                refine h_goto (tgt := 53) C dX9_moor_71 (by decide) ?_
                have hy26_0 := hI49.b ((bw_201 6).trans (show hpwb 6 = (0, 16) by decide))
                exact hp_sub [0] rfl (ih26 _ hI49 hF49 hq49_1 (by omega))
        have hz26_0 := hI25.b ((bw_201 6).trans (show hpwb 6 = (0, 16) by decide))
        exact hp_sub [0] rfl (L26 8589934592 _ hI25 hF25 (fun _ => by have z3 := hM23_0 3 (by omega); have z4 := hM23_0 4 (by omega); have z6 := hM23_0 6 (by omega); have y3 := hG25 201 3 (by omega); have y4 := hG25 201 4 (by omega); have y6 := hG25 201 6 (by omega); omega) (by omega))
      · refine h_aload_n C dX9_moor_36 0 rfl rfl ?_
        refine h_get C O9 14 kd_195 (by decide) wd_1270 dX9_moor_37 fr_195_14 ?_
        refine h_iload_n C dX9_moor_40 1 rfl rfl ?_
        refine h_iconst C dX9_moor_41 ?_
        refine h_iastore C dX9_moor_42 kd_201 (w23_1).toNat (Int.toNat_of_nonneg (by omega)) (by rw [ln_201]; omega) ?_
        obtain ⟨τ50, e50⟩ : ∃ μ : hpMem, μ = hpw τ23 201 ((w23_1).toNat) 0 := ⟨_, rfl⟩
        rw [← e50]
        have hI50 : hpInv τ50 := by rw [e50]; exact hpInv.w201 hI23 ((w23_1).toNat) 0 46 (0) 3 (by omega) (by omega) (by decide) (by omega) (by omega)
        have hF50 : ∀ j i : Nat, j ≠ 196 → j ≠ 201 → (j ≠ 195 ∨ (i ≠ 5 ∧ i ≠ 7 ∧ i ≠ 8 ∧ i ≠ 9 ∧ i ≠ 10 ∧ i ≠ 11 ∧ i ≠ 12 ∧ i ≠ 13)) → τ50 j i = σ j i := fun j i h_0 h_1 h_2 => by rw [e50]; exact (hpw_fr (by omega)).trans (hF23 j i h_0 h_1 h_2)
        refine h_iinc (lv' := [(1, .int (hpI (w23_1 + 1))), (0, .ref (z + 195))]) C dX9_moor_43 1 rfl rfl (by decide) rfl ?_
        refine h_goto (tgt := 30) C dX9_moor_46 (by decide) ?_
        exact hp_sub [1, 0] rfl (ih23 _ (w23_1 + 1) (by omega) (by omega) hI50 hF50 (fun q hq => by rw [e50]; by_cases eq : q = (w23_1).toNat; · rw [eq]; exact hpw_eq; · rw [hpw_fr (Or.inr eq)]; exact hM23_0 q (by omega)) (by omega))
  exact hp_sub [1, 0] rfl (L23 8589934592 _ 0 (by omega) (by omega) hI17 hF17 (fun q hq => by exfalso; omega) (by omega))
abbrev rgX9_told : Room := { frames := 2, cells := 0, slots := 0, locals := 46 }
abbrev pgX9_told (z : Nat) (σ : hpMem) (a0 : Int) : Option Value → hpMem → Prop := fun r τ => (∃ x : Int, r = some (.int (hpI x)) ∧ (hpR x)) ∧ σ = τ
set_option maxHeartbeats 4000000 in
set_option maxRecDepth 20000 in
theorem tgX9_told (l : Launch) (D : va_G) (cy : Nat → ClassId) (z : Nat) (σ : hpMem) (a0 : Int) (ha0 : hpR a0) (hI : hpInv σ) : hpM l D cy z yX9_told cX9_told 2 (some .int) rgX9_told [.ref (z + 195), .int (hpI a0)] σ (pgX9_told z σ a0) := by
  obtain ⟨ha01, ha02⟩ := ha0
  refine hp_met rfl (Nat.le_of_ble_eq_true rfl) (fun p e s m below meth c C Z hr hlk => ?_)
  refine h_aload_n C dX9_told_0 0 rfl rfl ?_
  refine h_iload_n C dX9_told_1 1 rfl rfl ?_
  refine h_callV (As := [.int (hpI a0)]) (rest := []) C Z yyX9_isHeap wd_1492 (tgX9_isHeap l D cy z _ a0 ⟨by omega, by omega⟩ hI) kd_195 rfl rfl ⟨rfl, rfl, Nat.le_of_ble_eq_true rfl, Nat.le_of_ble_eq_true rfl⟩ ⟨Nat.le_of_ble_eq_true rfl, Nat.le_of_ble_eq_true rfl⟩ (Nat.le_of_ble_eq_true rfl) dX9_told_2 (fun r1 τ1 hp1 => ?_)
  obtain ⟨⟨x1, rfl, ⟨hx1a, hx1b⟩, hx1⟩, rfl⟩ := hp1
  show hpV _ _ _ _ _ _ _ _ _ _ _ _ _ _ _ _ _ _ _ _ _ (_ :: _)
  refine h_if_eq (tgt := 20) C dX9_told_5 (by decide) ⟨by omega, by omega⟩ (fun h2 => ?_) (fun h2 => ?_)
  · refine h_bipush C dX9_told_20 (by decide) ?_
    refine h_ireturn C hr hlk dX9_told_22 ?_
    exact ⟨⟨_, rfl, ⟨by decide, by decide⟩⟩, rfl⟩
  · refine h_aload_n C dX9_told_8 0 rfl rfl ?_
    refine h_get C O9 1 kd_195 (by decide) wd_1257 dX9_told_9 fr_195_1 ?_
    refine h_bipush C dX9_told_12 (by decide) ?_
    refine h_iload_n C dX9_told_14 1 rfl rfl ?_
    refine h_iadd C dX9_told_15 rfl ?_
    refine hp_anyI (fun r3 hr3 => ?_)
    obtain ⟨hr3a, hr3b⟩ := hr3
    refine h_iaload C dX9_told_16 kd_196 (r3).toNat (Int.toNat_of_nonneg (by omega)) (by rw [ln_196]; omega) rfl ?_
    obtain ⟨hr4a, hr4b⟩ := hpInv.r196 hI ((r3).toNat) 0 46 (0) 2016 (by omega) (by omega) (by decide)
    generalize hg4 : σ 196 ((r3).toNat) = r4 at hr4a hr4b ⊢
    refine h_goto (tgt := 22) C dX9_told_17 (by decide) ?_
    refine h_ireturn C hr hlk dX9_told_22 ?_
    exact ⟨⟨_, rfl, ⟨by omega, by omega⟩⟩, rfl⟩
abbrev rgX9_cart : Room := { frames := 2, cells := 0, slots := 0, locals := 46 }
abbrev pgX9_cart (z : Nat) (σ : hpMem) (a0 : Int) (a1 : Int) : Option Value → hpMem → Prop := fun r τ => (∃ x : Int, r = some (.int (hpI x)) ∧ (hpR x)) ∧ σ = τ
set_option maxHeartbeats 4000000 in
set_option maxRecDepth 20000 in
theorem tgX9_cart (l : Launch) (D : va_G) (cy : Nat → ClassId) (z : Nat) (σ : hpMem) (a0 : Int) (ha0 : hpR a0) (a1 : Int) (ha1 : hpR a1) (hI : hpInv σ) : hpM l D cy z yX9_cart cX9_cart 3 (some .int) rgX9_cart [.ref (z + 195), .int (hpI a0), .int (hpI a1)] σ (pgX9_cart z σ a0 a1) := by
  obtain ⟨ha01, ha02⟩ := ha0
  obtain ⟨ha11, ha12⟩ := ha1
  refine hp_met rfl (Nat.le_of_ble_eq_true rfl) (fun p e s m below meth c C Z hr hlk => ?_)
  refine h_aload_n C dX9_cart_0 0 rfl rfl ?_
  refine h_iload_n C dX9_cart_1 1 rfl rfl ?_
  refine h_callV (As := [.int (hpI a0)]) (rest := []) C Z yyX9_isCart wd_1500 (tgX9_isCart l D cy z _ a0 ⟨by omega, by omega⟩ hI) kd_195 rfl rfl ⟨rfl, rfl, Nat.le_of_ble_eq_true rfl, Nat.le_of_ble_eq_true rfl⟩ ⟨Nat.le_of_ble_eq_true rfl, Nat.le_of_ble_eq_true rfl⟩ (Nat.le_of_ble_eq_true rfl) dX9_cart_2 (fun r1 τ1 hp1 => ?_)
  obtain ⟨⟨x1, rfl, ⟨hx1a, hx1b⟩, hx1⟩, rfl⟩ := hp1
  show hpV _ _ _ _ _ _ _ _ _ _ _ _ _ _ _ _ _ _ _ _ _ (_ :: _)
  refine h_if_eq (tgt := 34) C dX9_cart_5 (by decide) ⟨by omega, by omega⟩ (fun h2 => ?_) (fun h2 => ?_)
  · refine h_bipush C dX9_cart_34 (by decide) ?_
    refine h_ireturn C hr hlk dX9_cart_36 ?_
    exact ⟨⟨_, rfl, ⟨by decide, by decide⟩⟩, rfl⟩
  · refine h_iload_n C dX9_cart_8 2 rfl rfl ?_
    refine h_i2l C dX9_cart_9 ⟨by omega, by omega⟩ ?_
    refine h_lconst C 0 dX9_cart_10 (by decide) ?_
    refine h_lconst C 1 dX9_cart_11 (by decide) ?_
    refine h_callS (As := [.long (hpJ a1), .long (hpJ 0), .long (hpJ 1)]) (rest := []) C Z yyX9_in rfl wd_1401 (tgX9_in l D cy z _ a1 ⟨by omega, by omega⟩ 0 ⟨by decide, by decide⟩ 1 ⟨by decide, by decide⟩ hI) rfl rfl ⟨rfl, rfl, Nat.le_of_ble_eq_true rfl, Nat.le_of_ble_eq_true rfl⟩ ⟨Nat.le_of_ble_eq_true rfl, Nat.le_of_ble_eq_true rfl⟩ (Nat.le_of_ble_eq_true rfl) dX9_cart_12 (fun r3 τ3 hp3 => ?_)
    obtain ⟨⟨x3, rfl, ⟨hx3a, hx3b⟩, hx3⟩, rfl⟩ := hp3
    show hpV _ _ _ _ _ _ _ _ _ _ _ _ _ _ _ _ _ _ _ _ _ (_ :: _)
    refine h_if_eq (tgt := 34) C dX9_cart_15 (by decide) ⟨by omega, by omega⟩ (fun h4 => ?_) (fun h4 => ?_)
    · refine h_bipush C dX9_cart_34 (by decide) ?_
      refine h_ireturn C hr hlk dX9_cart_36 ?_
      exact ⟨⟨_, rfl, ⟨by decide, by decide⟩⟩, rfl⟩
    · refine h_aload_n C dX9_cart_18 0 rfl rfl ?_
      refine h_get C O9 1 kd_195 (by decide) wd_1257 dX9_cart_19 fr_195_1 ?_
      refine h_bipush C dX9_cart_22 (by decide) ?_
      refine h_iconst C dX9_cart_24 ?_
      refine h_iload_n C dX9_cart_25 1 rfl rfl ?_
      refine h_imul C dX9_cart_26 rfl ?_
      refine hp_anyI (fun r5 hr5 => ?_)
      obtain ⟨hr5a, hr5b⟩ := hr5
      refine h_iadd C dX9_cart_27 rfl ?_
      refine hp_anyI (fun r6 hr6 => ?_)
      obtain ⟨hr6a, hr6b⟩ := hr6
      refine h_iload_n C dX9_cart_28 2 rfl rfl ?_
      refine h_iadd C dX9_cart_29 rfl ?_
      refine hp_anyI (fun r7 hr7 => ?_)
      obtain ⟨hr7a, hr7b⟩ := hr7
      refine h_iaload C dX9_cart_30 kd_196 (r7).toNat (Int.toNat_of_nonneg (by omega)) (by rw [ln_196]; omega) rfl ?_
      obtain ⟨hr8a, hr8b⟩ := hpInv.r196 hI ((r7).toNat) 0 46 (0) 2016 (by omega) (by omega) (by decide)
      generalize hg8 : σ 196 ((r7).toNat) = r8 at hr8a hr8b ⊢
      refine h_goto (tgt := 36) C dX9_cart_31 (by decide) ?_
      refine h_ireturn C hr hlk dX9_cart_36 ?_
      exact ⟨⟨_, rfl, ⟨by omega, by omega⟩⟩, rfl⟩
abbrev rgX9_count : Room := { frames := 1, cells := 0, slots := 0, locals := 25 }
abbrev pgX9_count (z : Nat) (σ : hpMem) (a0 : Int) : Option Value → hpMem → Prop := fun r τ => (∃ x : Int, r = some (.int (hpI x)) ∧ (hpR x)) ∧ σ = τ
set_option maxHeartbeats 4000000 in
set_option maxRecDepth 20000 in
theorem tgX9_count (l : Launch) (D : va_G) (cy : Nat → ClassId) (z : Nat) (σ : hpMem) (a0 : Int) (ha0 : hpR a0) (hI : hpInv σ) : hpM l D cy z yX9_count cX9_count 4 (some .int) rgX9_count [.ref (z + 195), .int (hpI a0)] σ (pgX9_count z σ a0) := by
  obtain ⟨ha01, ha02⟩ := ha0
  refine hp_met rfl (Nat.le_of_ble_eq_true rfl) (fun p e s m below meth c C Z hr hlk => ?_)
  refine h_iload_n C dX9_count_0 1 rfl rfl ?_
  refine h_i2l C dX9_count_1 ⟨by omega, by omega⟩ ?_
  refine h_lconst C 0 dX9_count_2 (by decide) ?_
  refine h_ldc2 C 6 wd_2008 (by decide) dX9_count_3 ?_
  refine h_callS (As := [.long (hpJ a0), .long (hpJ 0), .long (hpJ 6)]) (rest := []) C Z yyX9_in rfl wd_1401 (tgX9_in l D cy z _ a0 ⟨by omega, by omega⟩ 0 ⟨by decide, by decide⟩ 6 ⟨by decide, by decide⟩ hI) rfl rfl ⟨rfl, rfl, Nat.le_of_ble_eq_true rfl, Nat.le_of_ble_eq_true rfl⟩ ⟨Nat.le_of_ble_eq_true rfl, Nat.le_of_ble_eq_true rfl⟩ (Nat.le_of_ble_eq_true rfl) dX9_count_6 (fun r1 τ1 hp1 => ?_)
  obtain ⟨⟨x1, rfl, ⟨hx1a, hx1b⟩, hx1⟩, rfl⟩ := hp1
  show hpV _ _ _ _ _ _ _ _ _ _ _ _ _ _ _ _ _ _ _ _ _ (_ :: _)
  refine h_if_eq (tgt := 19) C dX9_count_9 (by decide) ⟨by omega, by omega⟩ (fun h2 => ?_) (fun h2 => ?_)
  · refine h_iload_n C dX9_count_19 1 rfl rfl ?_
    refine h_bipush C dX9_count_20 (by decide) ?_
    refine h_icmp_ne (tgt := 30) C dX9_count_22 (by decide) ⟨by omega, by omega⟩ ⟨by decide, by decide⟩ (fun h3 => ?_) (fun h3 => ?_)
    · refine h_iload_n C dX9_count_30 1 rfl rfl ?_
      refine h_bipush C dX9_count_31 (by decide) ?_
      refine h_icmp_eq (tgt := 38) C dX9_count_33 (by decide) ⟨by omega, by omega⟩ ⟨by decide, by decide⟩ (fun h4 => ?_) (fun h4 => ?_)
      · refine h_iconst C dX9_count_38 ?_
        refine h_istore_n (lv' := [(2, .int (hpI 0)), (0, .ref (z + 195)), (1, .int (hpI a0))]) C dX9_count_39 rfl (by decide) rfl ?_
        refine h_iconst C dX9_count_40 ?_
        refine h_istore_n (lv' := [(3, .int (hpI 0)), (2, .int (hpI 0)), (0, .ref (z + 195)), (1, .int (hpI a0))]) C dX9_count_41 rfl (by decide) rfl ?_
        have L5 : ∀ (n5 : Nat) (w5_2 : Int) (w5_3 : Int), -2147483648 ≤ w5_2 → w5_2 ≤ 2147483647 → 0 ≤ w5_3 → w5_3 ≤ 2147483647 → (4294967296 - w5_3) < (n5 : Int) → hpF p l e rgX9_count s m [.ref (z + 195), .int (hpI a0)] below meth c 4 D cy z (pgX9_count z σ a0) σ 42 [(0, .ref (z + 195)), (1, .int (hpI a0)), (2, .int (hpI w5_2)), (3, .int (hpI w5_3))] [] := by
          intro n5
          induction n5 with
          | zero => intro w5_2 w5_3 hv5_0 hv5_1 hv5_2 hv5_3 hm5; exfalso; omega
          | succ n5 ih5 =>
            intro w5_2 w5_3 hv5_0 hv5_1 hv5_2 hv5_3 hm5
            refine h_iload_n C dX9_count_42 3 rfl rfl ?_
            refine h_iconst C dX9_count_43 ?_
            refine h_icmp_ge (tgt := 71) C dX9_count_44 (by decide) ⟨by omega, by omega⟩ ⟨by decide, by decide⟩ (fun h6 => ?_) (fun h6 => ?_)
            · refine h_iload_n C dX9_count_71 2 rfl rfl ?_
              refine h_ireturn C hr hlk dX9_count_72 ?_
              exact ⟨⟨_, rfl, ⟨by omega, by omega⟩⟩, rfl⟩
            · refine h_iload_n C dX9_count_47 2 rfl rfl ?_
              refine h_aload_n C dX9_count_48 0 rfl rfl ?_
              refine h_get C O9 42 kd_195 (by decide) wd_1298 dX9_count_49 fr_195_42 ?_
              refine h_iload_n C dX9_count_52 3 rfl rfl ?_
              refine h_iaload C dX9_count_53 kd_213 (w5_3).toNat (Int.toNat_of_nonneg (by omega)) (by rw [ln_213]; omega) rfl ?_
              obtain ⟨hr7a, hr7b⟩ := hI.b (bo_213 _)
              generalize hg7 : σ 213 ((w5_3).toNat) = r7 at hr7a hr7b ⊢
              refine h_iconst C dX9_count_54 ?_
              refine h_icmp_ne (tgt := 62) C dX9_count_55 (by decide) ⟨by omega, by omega⟩ ⟨by decide, by decide⟩ (fun h8 => ?_) (fun h8 => ?_)
              · refine h_iconst C dX9_count_62 ?_
                refine h_iadd C dX9_count_63 rfl ?_
                refine hp_anyI (fun r9 hr9 => ?_)
                obtain ⟨hr9a, hr9b⟩ := hr9
                refine h_istore_n (lv' := [(2, .int (hpI r9)), (0, .ref (z + 195)), (1, .int (hpI a0)), (3, .int (hpI w5_3))]) C dX9_count_64 rfl (by decide) rfl ?_
                refine h_iinc (lv' := [(3, .int (hpI (w5_3 + 1))), (2, .int (hpI r9)), (0, .ref (z + 195)), (1, .int (hpI a0))]) C dX9_count_65 3 rfl rfl (by decide) rfl ?_
                refine h_goto (tgt := 42) C dX9_count_68 (by decide) ?_
                exact hp_sub [2, 3, 1, 0] rfl (ih5 r9 (w5_3 + 1) (by omega) (by omega) (by omega) (by omega) (by omega))
              · refine h_iconst C dX9_count_58 ?_
                refine h_goto (tgt := 63) C dX9_count_59 (by decide) ?_
                refine h_iadd C dX9_count_63 rfl ?_
                refine h_istore_n (lv' := [(2, .int (hpI (w5_2 + 0))), (0, .ref (z + 195)), (1, .int (hpI a0)), (3, .int (hpI w5_3))]) C dX9_count_64 rfl (by decide) rfl ?_
                refine h_iinc (lv' := [(3, .int (hpI (w5_3 + 1))), (2, .int (hpI (w5_2 + 0))), (0, .ref (z + 195)), (1, .int (hpI a0))]) C dX9_count_65 3 rfl rfl (by decide) rfl ?_
                refine h_goto (tgt := 42) C dX9_count_68 (by decide) ?_
                exact hp_sub [2, 3, 1, 0] rfl (ih5 (w5_2 + 0) (w5_3 + 1) (by omega) (by omega) (by omega) (by omega) (by omega))
        exact hp_sub [2, 3, 1, 0] rfl (L5 8589934592 0 0 (by omega) (by omega) (by omega) (by omega) (by omega))
      · refine h_iconst C dX9_count_36 ?_
        refine h_ireturn C hr hlk dX9_count_37 ?_
        exact ⟨⟨_, rfl, ⟨by decide, by decide⟩⟩, rfl⟩
    · refine h_aload_n C dX9_count_25 0 rfl rfl ?_
      refine h_get C O9 5 kd_195 (by decide) wd_1261 dX9_count_26 (hp_fvI (by rw [kd_195]; rfl) rfl) ?_
      obtain ⟨hr10a, hr10b⟩ := hI.b (bf_9_5 kd_195)
      generalize hg10 : σ 195 5 = r10 at hr10a hr10b ⊢
      refine h_ireturn C hr hlk dX9_count_29 ?_
      exact ⟨⟨_, rfl, ⟨by omega, by omega⟩⟩, rfl⟩
  · refine h_aload_n C dX9_count_12 0 rfl rfl ?_
    refine h_get C O9 1 kd_195 (by decide) wd_1257 dX9_count_13 fr_195_1 ?_
    refine h_iload_n C dX9_count_16 1 rfl rfl ?_
    refine h_iaload C dX9_count_17 kd_196 (a0).toNat (Int.toNat_of_nonneg (by omega)) (by rw [ln_196]; omega) rfl ?_
    obtain ⟨hr11a, hr11b⟩ := hpInv.r196 hI ((a0).toNat) 0 46 (0) 2016 (by omega) (by omega) (by decide)
    generalize hg11 : σ 196 ((a0).toNat) = r11 at hr11a hr11b ⊢
    refine h_ireturn C hr hlk dX9_count_18 ?_
    exact ⟨⟨_, rfl, ⟨by omega, by omega⟩⟩, rfl⟩
abbrev rgX9_image : Room := { frames := 1, cells := 0, slots := 0, locals := 25 }
abbrev pgX9_image (z : Nat) (σ : hpMem) (a0 : Int) : Option Value → hpMem → Prop := fun r τ => (∃ x : Int, r = some (.int (hpI x)) ∧ (hpR x)) ∧ hpInv τ ∧ (∀ j i : Nat, j ≠ 197 → j ≠ 198 → τ j i = σ j i)
set_option maxHeartbeats 4000000 in
set_option maxRecDepth 20000 in
theorem tgX9_image (l : Launch) (D : va_G) (cy : Nat → ClassId) (z : Nat) (σ : hpMem) (a0 : Int) (ha0 : hpR a0) (hI : hpInv σ) : hpM l D cy z yX9_image cX9_image 3 (some .int) rgX9_image [.ref (z + 195), .int (hpI a0)] σ (pgX9_image z σ a0) := by
  obtain ⟨ha01, ha02⟩ := ha0
  refine hp_met rfl (Nat.le_of_ble_eq_true rfl) (fun p e s m below meth c C Z hr hlk => ?_)
  have hF0 : ∀ j i : Nat, j ≠ 197 → j ≠ 198 → σ j i = σ j i := fun j i _ _ => rfl
  refine h_iload_n C dX9_image_0 1 rfl rfl ?_
  refine h_i2l C dX9_image_1 ⟨by omega, by omega⟩ ?_
  refine h_lconst C 0 dX9_image_2 (by decide) ?_
  refine h_ldc2 C 2 wd_1400 (by decide) dX9_image_3 ?_
  refine h_callS (As := [.long (hpJ a0), .long (hpJ 0), .long (hpJ 2)]) (rest := []) C Z yyX9_in rfl wd_1401 (tgX9_in l D cy z _ a0 ⟨by omega, by omega⟩ 0 ⟨by decide, by decide⟩ 2 ⟨by decide, by decide⟩ hI) rfl rfl ⟨rfl, rfl, Nat.le_of_ble_eq_true rfl, Nat.le_of_ble_eq_true rfl⟩ ⟨Nat.le_of_ble_eq_true rfl, Nat.le_of_ble_eq_true rfl⟩ (Nat.le_of_ble_eq_true rfl) dX9_image_6 (fun r1 τ1 hp1 => ?_)
  obtain ⟨⟨x1, rfl, ⟨hx1a, hx1b⟩, hx1⟩, rfl⟩ := hp1
  show hpV _ _ _ _ _ _ _ _ _ _ _ _ _ _ _ _ _ _ _ _ _ (_ :: _)
  refine h_if_ne (tgt := 15) C dX9_image_9 (by decide) ⟨by omega, by omega⟩ (fun h2 => ?_) (fun h2 => ?_)
  · refine h_iconst C dX9_image_15 ?_
    refine h_istore_n (lv' := [(2, .int (hpI 0)), (0, .ref (z + 195)), (1, .int (hpI a0))]) C dX9_image_16 rfl (by decide) rfl ?_
    have L3 : ∀ (n3 : Nat) (τ3 : hpMem) (w3_2 : Int), 0 ≤ w3_2 → w3_2 ≤ 2147483647 → hpInv τ3 → (∀ j i : Nat, j ≠ 197 → j ≠ 198 → τ3 j i = σ j i) → (4294967296 - w3_2) < (n3 : Int) → hpF p l e rgX9_image s m [.ref (z + 195), .int (hpI a0)] below meth c 3 D cy z (pgX9_image z σ a0) τ3 17 [(0, .ref (z + 195)), (1, .int (hpI a0)), (2, .int (hpI w3_2))] [] := by
      intro n3
      induction n3 with
      | zero => intro τ3 w3_2 hv3_0 hv3_1 hI3 hF3 hm3; exfalso; omega
      | succ n3 ih3 =>
        intro τ3 w3_2 hv3_0 hv3_1 hI3 hF3 hm3
        refine h_iload_n C dX9_image_17 2 rfl rfl ?_
        refine h_bipush C dX9_image_18 (by decide) ?_
        refine h_icmp_ge (tgt := 46) C dX9_image_20 (by decide) ⟨by omega, by omega⟩ ⟨by decide, by decide⟩ (fun h4 => ?_) (fun h4 => ?_)
        · refine h_aload_n C dX9_image_46 0 rfl rfl ?_
          refine h_get C O9 3 kd_195 (by decide) wd_1259 dX9_image_47 fr_195_3 ?_
          refine h_iload_n C dX9_image_50 1 rfl rfl ?_
          refine h_iconst C dX9_image_51 ?_
          refine h_zastore C dX9_image_52 kd_198 (by omega) (a0).toNat (Int.toNat_of_nonneg (by omega)) (by rw [ln_198]; omega) ?_
          obtain ⟨τ5, e5⟩ : ∃ μ : hpMem, μ = hpw τ3 198 ((a0).toNat) 1 := ⟨_, rfl⟩
          rw [← e5]
          have hI5 : hpInv τ5 := by rw [e5]; exact hI3.w (bo_198 _) (by omega) (by omega)
          have hF5 : ∀ j i : Nat, j ≠ 197 → j ≠ 198 → τ5 j i = σ j i := fun j i h_0 h_1 => by rw [e5]; exact (hpw_fr (by omega)).trans (hF3 j i h_0 h_1)
          refine h_iconst C dX9_image_53 ?_
          refine h_ireturn C hr hlk dX9_image_54 ?_
          exact ⟨⟨_, rfl, ⟨by decide, by decide⟩⟩, hI5, hF5⟩
        · refine h_aload_n C dX9_image_23 0 rfl rfl ?_
          refine h_get C O9 2 kd_195 (by decide) wd_1258 dX9_image_24 fr_195_2 ?_
          refine h_bipush C dX9_image_27 (by decide) ?_
          refine h_iload_n C dX9_image_29 1 rfl rfl ?_
          refine h_imul C dX9_image_30 rfl ?_
          refine hp_anyI (fun r6 hr6 => ?_)
          obtain ⟨hr6a, hr6b⟩ := hr6
          refine h_iload_n C dX9_image_31 2 rfl rfl ?_
          refine h_iadd C dX9_image_32 rfl ?_
          refine hp_anyI (fun r7 hr7 => ?_)
          obtain ⟨hr7a, hr7b⟩ := hr7
          refine h_aload_n C dX9_image_33 0 rfl rfl ?_
          refine h_get C O9 1 kd_195 (by decide) wd_1257 dX9_image_34 fr_195_1 ?_
          refine h_iload_n C dX9_image_37 2 rfl rfl ?_
          refine h_iaload C dX9_image_38 kd_196 (w3_2).toNat (Int.toNat_of_nonneg (by omega)) (by rw [ln_196]; omega) rfl ?_
          have hwb8 := hpInv.q196 hI3 ((w3_2).toNat)
          obtain ⟨hr9a, hr9b⟩ := hpInv.r196 hI3 ((w3_2).toNat) 0 46 (0) 2016 (by omega) (by omega) (by decide)
          generalize hg9 : τ3 196 ((w3_2).toNat) = r9 at hr9a hr9b ⊢
          rw [hg9] at hwb8
          refine h_iastore C dX9_image_39 kd_197 (r7).toNat (Int.toNat_of_nonneg (by omega)) (by rw [ln_197]; omega) ?_
          obtain ⟨τ10, e10⟩ : ∃ μ : hpMem, μ = hpw τ3 197 ((r7).toNat) r9 := ⟨_, rfl⟩
          rw [← e10]
          have hI10 : hpInv τ10 := by rw [e10]; exact hpInv.c197 hI3 (by rw [show ((47 * a0) + «v2»).toNat % 47 = («v2»).toNat by omega]; exact hwb8)
          have hF10 : ∀ j i : Nat, j ≠ 197 → j ≠ 198 → τ10 j i = σ j i := fun j i h_0 h_1 => by rw [e10]; exact (hpw_fr (by omega)).trans (hF3 j i h_0 h_1)
          have hg11 : τ10 196 ((w3_2).toNat) = r9 := by rw [e10]; exact (hpw_fr (Or.inl (by omega))).trans hg9
          refine h_iinc (lv' := [(2, .int (hpI (w3_2 + 1))), (0, .ref (z + 195)), (1, .int (hpI a0))]) C dX9_image_40 2 rfl rfl (by decide) rfl ?_
          refine h_goto (tgt := 17) C dX9_image_43 (by decide) ?_
          exact hp_sub [1, 2, 0] rfl (ih3 _ (w3_2 + 1) (by omega) (by omega) hI10 hF10 (by omega))
    exact hp_sub [1, 2, 0] rfl (L3 8589934592 _ 0 (by omega) (by omega) hI hF0 (by omega))
  · refine h_bipush C dX9_image_12 (by decide) ?_
    refine h_ireturn C hr hlk dX9_image_14 ?_
    exact ⟨⟨_, rfl, ⟨by decide, by decide⟩⟩, hI, hF0⟩
abbrev rgX9_back : Room := { frames := 1, cells := 0, slots := 0, locals := 25 }
abbrev pgX9_back (z : Nat) (σ : hpMem) (a0 : Int) : Option Value → hpMem → Prop := fun r τ => (∃ x : Int, r = some (.int (hpI x)) ∧ (hpR x)) ∧ hpInv τ ∧ (∀ j i : Nat, j ≠ 196 → τ j i = σ j i)
set_option maxHeartbeats 4000000 in
set_option maxRecDepth 20000 in
theorem tgX9_back (l : Launch) (D : va_G) (cy : Nat → ClassId) (z : Nat) (σ : hpMem) (a0 : Int) (ha0 : hpR a0) (hI : hpInv σ) : hpM l D cy z yX9_back cX9_back 3 (some .int) rgX9_back [.ref (z + 195), .int (hpI a0)] σ (pgX9_back z σ a0) := by
  obtain ⟨ha01, ha02⟩ := ha0
  refine hp_met rfl (Nat.le_of_ble_eq_true rfl) (fun p e s m below meth c C Z hr hlk => ?_)
  have hF0 : ∀ j i : Nat, j ≠ 196 → σ j i = σ j i := fun j i _ => rfl
  refine h_iload_n C dX9_back_0 1 rfl rfl ?_
  refine h_i2l C dX9_back_1 ⟨by omega, by omega⟩ ?_
  refine h_lconst C 0 dX9_back_2 (by decide) ?_
  refine h_ldc2 C 2 wd_1400 (by decide) dX9_back_3 ?_
  refine h_callS (As := [.long (hpJ a0), .long (hpJ 0), .long (hpJ 2)]) (rest := []) C Z yyX9_in rfl wd_1401 (tgX9_in l D cy z _ a0 ⟨by omega, by omega⟩ 0 ⟨by decide, by decide⟩ 2 ⟨by decide, by decide⟩ hI) rfl rfl ⟨rfl, rfl, Nat.le_of_ble_eq_true rfl, Nat.le_of_ble_eq_true rfl⟩ ⟨Nat.le_of_ble_eq_true rfl, Nat.le_of_ble_eq_true rfl⟩ (Nat.le_of_ble_eq_true rfl) dX9_back_6 (fun r1 τ1 hp1 => ?_)
  obtain ⟨⟨x1, rfl, ⟨hx1a, hx1b⟩, hx1⟩, rfl⟩ := hp1
  show hpV _ _ _ _ _ _ _ _ _ _ _ _ _ _ _ _ _ _ _ _ _ (_ :: _)
  refine h_if_ne (tgt := 15) C dX9_back_9 (by decide) ⟨by omega, by omega⟩ (fun h2 => ?_) (fun h2 => ?_)
  · refine h_aload_n C dX9_back_15 0 rfl rfl ?_
    refine h_get C O9 3 kd_195 (by decide) wd_1259 dX9_back_16 fr_195_3 ?_
    refine h_iload_n C dX9_back_19 1 rfl rfl ?_
    refine h_zaload C dX9_back_20 kd_198 (a0).toNat (Int.toNat_of_nonneg (by omega)) (by rw [ln_198]; omega) rfl ?_
    obtain ⟨hr3a, hr3b⟩ := hI.b (bo_198 _)
    generalize hg3 : σ 198 ((a0).toNat) = r3 at hr3a hr3b ⊢
    refine h_if_ne (tgt := 27) C dX9_back_21 (by decide) ⟨by omega, by omega⟩ (fun h4 => ?_) (fun h4 => ?_)
    · refine h_iconst C dX9_back_27 ?_
      refine h_istore_n (lv' := [(2, .int (hpI 0)), (0, .ref (z + 195)), (1, .int (hpI a0))]) C dX9_back_28 rfl (by decide) rfl ?_
      have L5 : ∀ (n5 : Nat) (τ5 : hpMem) (w5_2 : Int), 0 ≤ w5_2 → w5_2 ≤ 2147483647 → hpInv τ5 → (∀ j i : Nat, j ≠ 196 → τ5 j i = σ j i) → (4294967296 - w5_2) < (n5 : Int) → hpF p l e rgX9_back s m [.ref (z + 195), .int (hpI a0)] below meth c 3 D cy z (pgX9_back z σ a0) τ5 29 [(0, .ref (z + 195)), (1, .int (hpI a0)), (2, .int (hpI w5_2))] [] := by
        intro n5
        induction n5 with
        | zero => intro τ5 w5_2 hv5_0 hv5_1 hI5 hF5 hm5; exfalso; omega
        | succ n5 ih5 =>
          intro τ5 w5_2 hv5_0 hv5_1 hI5 hF5 hm5
          refine h_iload_n C dX9_back_29 2 rfl rfl ?_
          refine h_bipush C dX9_back_30 (by decide) ?_
          refine h_icmp_ge (tgt := 58) C dX9_back_32 (by decide) ⟨by omega, by omega⟩ ⟨by decide, by decide⟩ (fun h6 => ?_) (fun h6 => ?_)
          · refine h_iconst C dX9_back_58 ?_
            refine h_ireturn C hr hlk dX9_back_59 ?_
            exact ⟨⟨_, rfl, ⟨by decide, by decide⟩⟩, hI5, hF5⟩
          · refine h_aload_n C dX9_back_35 0 rfl rfl ?_
            refine h_get C O9 1 kd_195 (by decide) wd_1257 dX9_back_36 fr_195_1 ?_
            refine h_iload_n C dX9_back_39 2 rfl rfl ?_
            refine h_aload_n C dX9_back_40 0 rfl rfl ?_
            refine h_get C O9 2 kd_195 (by decide) wd_1258 dX9_back_41 fr_195_2 ?_
            refine h_bipush C dX9_back_44 (by decide) ?_
            refine h_iload_n C dX9_back_46 1 rfl rfl ?_
            refine h_imul C dX9_back_47 rfl ?_
            refine hp_anyI (fun r7 hr7 => ?_)
            obtain ⟨hr7a, hr7b⟩ := hr7
            refine h_iload_n C dX9_back_48 2 rfl rfl ?_
            refine h_iadd C dX9_back_49 rfl ?_
            refine hp_anyI (fun r8 hr8 => ?_)
            obtain ⟨hr8a, hr8b⟩ := hr8
            refine h_iaload C dX9_back_50 kd_197 (r8).toNat (Int.toNat_of_nonneg (by omega)) (by rw [ln_197]; omega) rfl ?_
            have hwb9 := hpInv.q197 hI5 ((r8).toNat)
            obtain ⟨hr10a, hr10b⟩ := hpInv.r197 hI5 _
            generalize hg10 : τ5 197 ((r8).toNat) = r10 at hr10a hr10b ⊢
            rw [hg10] at hwb9
            refine h_iastore C dX9_back_51 kd_196 (w5_2).toNat (Int.toNat_of_nonneg (by omega)) (by rw [ln_196]; omega) ?_
            obtain ⟨τ11, e11⟩ : ∃ μ : hpMem, μ = hpw τ5 196 ((w5_2).toNat) r10 := ⟨_, rfl⟩
            rw [← e11]
            have hI11 : hpInv τ11 := by rw [e11]; exact hpInv.c196 hI5 (by rw [show («v2»).toNat = ((47 * a0) + «v2»).toNat % 47 by omega]; exact hwb9)
            have hF11 : ∀ j i : Nat, j ≠ 196 → τ11 j i = σ j i := fun j i h_0 => by rw [e11]; exact (hpw_fr (by omega)).trans (hF5 j i h_0)
            have hg12 : τ11 197 ((r8).toNat) = r10 := by rw [e11]; exact (hpw_fr (Or.inl (by omega))).trans hg10
            refine h_iinc (lv' := [(2, .int (hpI (w5_2 + 1))), (0, .ref (z + 195)), (1, .int (hpI a0))]) C dX9_back_52 2 rfl rfl (by decide) rfl ?_
            refine h_goto (tgt := 29) C dX9_back_55 (by decide) ?_
            exact hp_sub [1, 2, 0] rfl (ih5 _ (w5_2 + 1) (by omega) (by omega) hI11 hF11 (by omega))
      exact hp_sub [1, 2, 0] rfl (L5 8589934592 _ 0 (by omega) (by omega) hI hF0 (by omega))
    · refine h_bipush C dX9_back_24 (by decide) ?_
      refine h_ireturn C hr hlk dX9_back_26 ?_
      exact ⟨⟨_, rfl, ⟨by decide, by decide⟩⟩, hI, hF0⟩
  · refine h_bipush C dX9_back_12 (by decide) ?_
    refine h_ireturn C hr hlk dX9_back_14 ?_
    exact ⟨⟨_, rfl, ⟨by decide, by decide⟩⟩, hI, hF0⟩
abbrev rgX9_manyOf : Room := { frames := 0, cells := 0, slots := 0, locals := 0 }
abbrev pgX9_manyOf (z : Nat) (σ : hpMem) (a0 : Int) : Option Value → hpMem → Prop := fun r τ => (∃ x : Int, r = some (.int (hpI x)) ∧ (hpR x) ∧ (x = σ 202 (701 * a0).toNat ∧ 0 ≤ x ∧ x ≤ 700)) ∧ σ = τ
set_option maxHeartbeats 4000000 in
set_option maxRecDepth 20000 in
theorem tgX9_manyOf (l : Launch) (D : va_G) (cy : Nat → ClassId) (z : Nat) (σ : hpMem) (a0 : Int) (ha0 : hpR a0) (hI : hpInv σ) (hr0 : 0 ≤ a0 ∧ a0 ≤ 20) : hpM l D cy z yX9_manyOf cX9_manyOf 2 (some .int) rgX9_manyOf [.ref (z + 195), .int (hpI a0)] σ (pgX9_manyOf z σ a0) := by
  obtain ⟨ha01, ha02⟩ := ha0
  refine hp_met rfl (Nat.le_of_ble_eq_true rfl) (fun p e s m below meth c C Z hr hlk => ?_)
  refine h_aload_n C dX9_manyOf_0 0 rfl rfl ?_
  refine h_get C O9 15 kd_195 (by decide) wd_1271 dX9_manyOf_1 fr_195_15 ?_
  refine h_sipush C dX9_manyOf_4 (by decide) ?_
  refine h_iload_n C dX9_manyOf_7 1 rfl rfl ?_
  refine h_imul C dX9_manyOf_8 rfl ?_
  refine h_iaload C dX9_manyOf_9 kd_202 (701 * a0).toNat (Int.toNat_of_nonneg (by omega)) (by rw [ln_202]; omega) rfl ?_
  obtain ⟨hr1a, hr1b⟩ := hI.b (bh_202 (by omega))
  generalize hg1 : σ 202 ((701 * a0).toNat) = r1 at hr1a hr1b ⊢
  refine h_ireturn C hr hlk dX9_manyOf_10 ?_
  exact ⟨⟨_, rfl, ⟨by omega, by omega⟩, by omega⟩, rfl⟩
abbrev rgX9_heightOf : Room := { frames := 0, cells := 0, slots := 0, locals := 0 }
abbrev pgX9_heightOf (z : Nat) (σ : hpMem) (a0 : Int) (a1 : Int) : Option Value → hpMem → Prop := fun r τ => (∃ x : Int, r = some (.int (hpI x)) ∧ (hpR x) ∧ (x = σ 202 (701 * a0 + 1 + a1).toNat)) ∧ σ = τ
set_option maxHeartbeats 4000000 in
set_option maxRecDepth 20000 in
theorem tgX9_heightOf (l : Launch) (D : va_G) (cy : Nat → ClassId) (z : Nat) (σ : hpMem) (a0 : Int) (ha0 : hpR a0) (a1 : Int) (ha1 : hpR a1) (hI : hpInv σ) (hr0 : 0 ≤ a0 ∧ a0 ≤ 20) (hi0 : 0 ≤ a1 ∧ a1 ≤ 699) : hpM l D cy z yX9_heightOf cX9_heightOf 3 (some .int) rgX9_heightOf [.ref (z + 195), .int (hpI a0), .int (hpI a1)] σ (pgX9_heightOf z σ a0 a1) := by
  obtain ⟨ha01, ha02⟩ := ha0
  obtain ⟨ha11, ha12⟩ := ha1
  refine hp_met rfl (Nat.le_of_ble_eq_true rfl) (fun p e s m below meth c C Z hr hlk => ?_)
  refine h_aload_n C dX9_heightOf_0 0 rfl rfl ?_
  refine h_get C O9 15 kd_195 (by decide) wd_1271 dX9_heightOf_1 fr_195_15 ?_
  refine h_sipush C dX9_heightOf_4 (by decide) ?_
  refine h_iload_n C dX9_heightOf_7 1 rfl rfl ?_
  refine h_imul C dX9_heightOf_8 rfl ?_
  refine h_iconst C dX9_heightOf_9 ?_
  refine h_iadd C dX9_heightOf_10 rfl ?_
  refine h_iload_n C dX9_heightOf_11 2 rfl rfl ?_
  refine h_iadd C dX9_heightOf_12 rfl ?_
  refine h_iaload C dX9_heightOf_13 kd_202 (((701 * a0) + 1) + a1).toNat (Int.toNat_of_nonneg (by omega)) (by rw [ln_202]; omega) rfl ?_
  obtain ⟨hr1a, hr1b⟩ := hpInv.r202 hI _
  generalize hg1 : σ 202 ((((701 * a0) + 1) + a1).toNat) = r1 at hr1a hr1b ⊢
  refine h_ireturn C hr hlk dX9_heightOf_14 ?_
  exact ⟨⟨_, rfl, ⟨by omega, by omega⟩, by omega⟩, rfl⟩
abbrev rgX9_empty : Room := { frames := 0, cells := 0, slots := 0, locals := 0 }
abbrev pgX9_empty (z : Nat) (σ : hpMem) (a0 : Int) : Option Value → hpMem → Prop := fun r τ => r = none ∧ hpInv τ ∧ (∀ j i : Nat, (j ≠ 202 ∨ (i : Int) < 701 * a0 ∨ 701 * a0 + 700 < (i : Int)) → τ j i = σ j i) ∧ (τ 202 (701 * a0).toNat = 0)
set_option maxHeartbeats 4000000 in
set_option maxRecDepth 20000 in
theorem tgX9_empty (l : Launch) (D : va_G) (cy : Nat → ClassId) (z : Nat) (σ : hpMem) (a0 : Int) (ha0 : hpR a0) (hI : hpInv σ) (hr0 : 0 ≤ a0 ∧ a0 ≤ 20) : hpM l D cy z yX9_empty cX9_empty 2 none rgX9_empty [.ref (z + 195), .int (hpI a0)] σ (pgX9_empty z σ a0) := by
  obtain ⟨ha01, ha02⟩ := ha0
  refine hp_met rfl (Nat.le_of_ble_eq_true rfl) (fun p e s m below meth c C Z hr hlk => ?_)
  have hF0 : ∀ j i : Nat, (j ≠ 202 ∨ (i : Int) < 701 * a0 ∨ 701 * a0 + 700 < (i : Int)) → σ j i = σ j i := fun j i _ => rfl
  refine h_aload_n C dX9_empty_0 0 rfl rfl ?_
  refine h_get C O9 15 kd_195 (by decide) wd_1271 dX9_empty_1 fr_195_15 ?_
  refine h_sipush C dX9_empty_4 (by decide) ?_
  refine h_iload_n C dX9_empty_7 1 rfl rfl ?_
  refine h_imul C dX9_empty_8 rfl ?_
  refine h_iconst C dX9_empty_9 ?_
  refine h_iastore C dX9_empty_10 kd_202 (701 * a0).toNat (Int.toNat_of_nonneg (by omega)) (by rw [ln_202]; omega) ?_
  obtain ⟨τ1, e1⟩ : ∃ μ : hpMem, μ = hpw σ 202 ((701 * a0).toNat) 0 := ⟨_, rfl⟩
  rw [← e1]
  have hI1 : hpInv τ1 := by rw [e1]; exact hpInv.w202 hI (fun hm => ⟨by omega, by omega⟩) ⟨by omega, by omega⟩
  have hF1 : ∀ j i : Nat, (j ≠ 202 ∨ (i : Int) < 701 * a0 ∨ 701 * a0 + 700 < (i : Int)) → τ1 j i = σ j i := fun j i h_0 => by rw [e1]; exact (hpw_fr (by omega)).trans (hF0 j i h_0)
  refine h_return C hr hlk dX9_empty_11 ?_
  exact ⟨rfl, hI1, hF1, by rw [no_such]; exact hpw_eq⟩
abbrev rgX9_copyRow : Room := { frames := 1, cells := 0, slots := 0, locals := 21 }
abbrev pgX9_copyRow (z : Nat) (σ : hpMem) (a0 : Int) (a1 : Int) : Option Value → hpMem → Prop := fun r τ => r = none ∧ hpInv τ ∧ (∀ j i : Nat, (j ≠ 202 ∨ (i : Int) < 701 * a1 ∨ 701 * a1 + 700 < (i : Int)) → τ j i = σ j i) ∧ (∀ M, hpRw (σ 202) a0 M → hpRw (τ 202) a1 M)
set_option maxHeartbeats 4000000 in
set_option maxRecDepth 20000 in
theorem tgX9_copyRow (l : Launch) (D : va_G) (cy : Nat → ClassId) (z : Nat) (σ : hpMem) (a0 : Int) (ha0 : hpR a0) (a1 : Int) (ha1 : hpR a1) (hI : hpInv σ) (hr0 : 0 ≤ a0 ∧ a0 ≤ 20) (hr1 : 0 ≤ a1 ∧ a1 ≤ 20 ∧ a0 ≠ a1) : hpM l D cy z yX9_copyRow cX9_copyRow 4 none rgX9_copyRow [.ref (z + 195), .int (hpI a0), .int (hpI a1)] σ (pgX9_copyRow z σ a0 a1) := by
  obtain ⟨ha01, ha02⟩ := ha0
  obtain ⟨ha11, ha12⟩ := ha1
  refine hp_met rfl (Nat.le_of_ble_eq_true rfl) (fun p e s m below meth c C Z hr hlk => ?_)
  have hF0 : ∀ j i : Nat, (j ≠ 202 ∨ (i : Int) < 701 * a1 ∨ 701 * a1 + 700 < (i : Int)) → σ j i = σ j i := fun j i _ => rfl
  refine h_iconst C dX9_copyRow_0 ?_
  refine h_istore_n (lv' := [(3, .int (hpI 0)), (0, .ref (z + 195)), (1, .int (hpI a0)), (2, .int (hpI a1))]) C dX9_copyRow_1 rfl (by decide) rfl ?_
  have L1 : ∀ (n1 : Nat) (τ1 : hpMem) (w1_3 : Int), 0 ≤ w1_3 → w1_3 ≤ 701 → hpInv τ1 → (∀ j i : Nat, (j ≠ 202 ∨ (i : Int) < 701 * a1 ∨ 701 * a1 + 700 < (i : Int)) → τ1 j i = σ j i) → (∀ q : Nat, (q : Int) < w1_3 → τ1 202 (701 * a1 + (q : Int)).toNat = σ 202 (701 * a0 + (q : Int)).toNat) → (4294967296 - w1_3) < (n1 : Int) → hpF p l e rgX9_copyRow s m [.ref (z + 195), .int (hpI a0), .int (hpI a1)] below meth c 4 D cy z (pgX9_copyRow z σ a0 a1) τ1 2 [(0, .ref (z + 195)), (1, .int (hpI a0)), (2, .int (hpI a1)), (3, .int (hpI w1_3))] [] := by
    intro n1
    induction n1 with
    | zero => intro τ1 w1_3 hv1_0 hv1_1 hI1 hF1 hM1_0 hm1; exfalso; omega
    | succ n1 ih1 =>
      intro τ1 w1_3 hv1_0 hv1_1 hI1 hF1 hM1_0 hm1
      refine h_iload_n C dX9_copyRow_2 3 rfl rfl ?_
      refine h_aload_n C dX9_copyRow_3 0 rfl rfl ?_
      refine h_iload_n C dX9_copyRow_4 1 rfl rfl ?_
      refine h_callV (As := [.int (hpI a0)]) (rest := [.int (hpI w1_3)]) C Z yyX9_manyOf wd_1536 (tgX9_manyOf l D cy z _ a0 ⟨by omega, by omega⟩ hI1 (by omega)) kd_195 rfl rfl ⟨rfl, rfl, Nat.le_of_ble_eq_true rfl, Nat.le_of_ble_eq_true rfl⟩ ⟨Nat.le_of_ble_eq_true rfl, Nat.le_of_ble_eq_true rfl⟩ (Nat.le_of_ble_eq_true rfl) dX9_copyRow_5 (fun r2 τ2 hp2 => ?_)
      obtain ⟨⟨x2, rfl, ⟨hx2a, hx2b⟩, hx2⟩, rfl⟩ := hp2
      show hpV _ _ _ _ _ _ _ _ _ _ _ _ _ _ _ _ _ _ _ _ _ (_ :: _)
      refine h_icmp_gt (tgt := 41) C dX9_copyRow_8 (by decide) ⟨by omega, by omega⟩ ⟨by omega, by omega⟩ (fun h3 => ?_) (fun h3 => ?_)
      · refine h_return C hr hlk dX9_copyRow_41 ?_
        exact ⟨rfl, hI1, hF1, fun M hM => hM.copy (fun q hq => hM1_0 q (by have q1 := hM.1; have q2 := hF1 202 (701 * a0).toNat (by omega); omega))⟩
      · refine h_aload_n C dX9_copyRow_11 0 rfl rfl ?_
        refine h_get C O9 15 kd_195 (by decide) wd_1271 dX9_copyRow_12 fr_195_15 ?_
        refine h_sipush C dX9_copyRow_15 (by decide) ?_
        refine h_iload_n C dX9_copyRow_18 2 rfl rfl ?_
        refine h_imul C dX9_copyRow_19 rfl ?_
        refine h_iload_n C dX9_copyRow_20 3 rfl rfl ?_
        refine h_iadd C dX9_copyRow_21 rfl ?_
        refine h_aload_n C dX9_copyRow_22 0 rfl rfl ?_
        refine h_get C O9 15 kd_195 (by decide) wd_1271 dX9_copyRow_23 fr_195_15 ?_
        refine h_sipush C dX9_copyRow_26 (by decide) ?_
        refine h_iload_n C dX9_copyRow_29 1 rfl rfl ?_
        refine h_imul C dX9_copyRow_30 rfl ?_
        refine h_iload_n C dX9_copyRow_31 3 rfl rfl ?_
        refine h_iadd C dX9_copyRow_32 rfl ?_
        refine h_iaload C dX9_copyRow_33 kd_202 ((701 * a0) + w1_3).toNat (Int.toNat_of_nonneg (by omega)) (by rw [ln_202]; omega) rfl ?_
        obtain ⟨hr4a, hr4b⟩ := hpInv.r202 hI1 _
        generalize hg4 : τ1 202 (((701 * a0) + w1_3).toNat) = r4 at hr4a hr4b ⊢
        refine h_iastore C dX9_copyRow_34 kd_202 ((701 * a1) + w1_3).toNat (Int.toNat_of_nonneg (by omega)) (by rw [ln_202]; omega) ?_
        obtain ⟨τ5, e5⟩ : ∃ μ : hpMem, μ = hpw τ1 202 (((701 * a1) + w1_3).toNat) r4 := ⟨_, rfl⟩
        rw [← e5]
        have hI5 : hpInv τ5 := by rw [e5]; exact hpInv.w202 hI1 (fun hm => ⟨by omega, by omega⟩) ⟨by omega, by omega⟩
        have hF5 : ∀ j i : Nat, (j ≠ 202 ∨ (i : Int) < 701 * a1 ∨ 701 * a1 + 700 < (i : Int)) → τ5 j i = σ j i := fun j i h_0 => by rw [e5]; exact (hpw_fr (by omega)).trans (hF1 j i h_0)
        have hg6 : τ5 202 (((701 * a1) + w1_3).toNat) = r4 := by rw [e5]; exact hpw_eq
        refine h_iinc (lv' := [(3, .int (hpI (w1_3 + 1))), (0, .ref (z + 195)), (1, .int (hpI a0)), (2, .int (hpI a1))]) C dX9_copyRow_35 3 rfl rfl (by decide) rfl ?_
        refine h_goto (tgt := 2) C dX9_copyRow_38 (by decide) ?_
        exact hp_sub [1, 2, 3, 0] rfl (ih1 _ (w1_3 + 1) (by omega) (by omega) hI5 hF5 (fun q hq => by rw [e5]; by_cases eq : (q : Int) = w1_3; · rw [eq, hpw_eq, ← hF1 202 (701 * a0 + w1_3).toNat (by omega)]; omega; · rw [hpw_fr (by omega)]; exact hM1_0 q (by omega)) (by omega))
  exact hp_sub [1, 2, 3, 0] rfl (L1 8589934592 _ 0 (by omega) (by omega) hI hF0 (fun q hq => by exfalso; omega) (by omega))
abbrev rgX9_lay : Room := { frames := 1, cells := 0, slots := 0, locals := 22 }
abbrev pgX9_lay (z : Nat) (σ : hpMem) (a0 : Int) (a1 : Int) : Option Value → hpMem → Prop := fun r τ => r = none ∧ hpInv τ ∧ (∀ j i : Nat, (j ≠ 202 ∨ (i : Int) < 701 * a0 ∨ 701 * a0 + 700 < (i : Int)) → τ j i = σ j i) ∧ (∀ M, hpRw (σ 202) a0 M → hpRw (τ 202) a0 (hpLy a1.toNat M))
set_option maxHeartbeats 4000000 in
set_option maxRecDepth 20000 in
theorem tgX9_lay (l : Launch) (D : va_G) (cy : Nat → ClassId) (z : Nat) (σ : hpMem) (a0 : Int) (ha0 : hpR a0) (a1 : Int) (ha1 : hpR a1) (hI : hpInv σ) (hr0 : 0 ≤ a0 ∧ a0 ≤ 20) (ht0 : 0 ≤ a1 ∧ (a1 = 0 ∨ σ 202 (701 * a0).toNat ≤ 699)) : hpM l D cy z yX9_lay cX9_lay 4 none rgX9_lay [.ref (z + 195), .int (hpI a0), .int (hpI a1)] σ (pgX9_lay z σ a0 a1) := by
  obtain ⟨ha01, ha02⟩ := ha0
  obtain ⟨ha11, ha12⟩ := ha1
  refine hp_met rfl (Nat.le_of_ble_eq_true rfl) (fun p e s m below meth c C Z hr hlk => ?_)
  have hF0 : ∀ j i : Nat, (j ≠ 202 ∨ (i : Int) < 701 * a0 ∨ 701 * a0 + 700 < (i : Int)) → σ j i = σ j i := fun j i _ => rfl
  refine h_iload_n C dX9_lay_0 2 rfl rfl ?_
  refine h_if_ne (tgt := 5) C dX9_lay_1 (by decide) ⟨by omega, by omega⟩ (fun h1 => ?_) (fun h1 => ?_)
  · refine h_aload_n C dX9_lay_5 0 rfl rfl ?_
    refine h_iload_n C dX9_lay_6 1 rfl rfl ?_
    refine h_callV (As := [.int (hpI a0)]) (rest := []) C Z yyX9_manyOf wd_1536 (tgX9_manyOf l D cy z _ a0 ⟨by omega, by omega⟩ hI (by omega)) kd_195 rfl rfl ⟨rfl, rfl, Nat.le_of_ble_eq_true rfl, Nat.le_of_ble_eq_true rfl⟩ ⟨Nat.le_of_ble_eq_true rfl, Nat.le_of_ble_eq_true rfl⟩ (Nat.le_of_ble_eq_true rfl) dX9_lay_7 (fun r2 τ2 hp2 => ?_)
    obtain ⟨⟨x2, rfl, ⟨hx2a, hx2b⟩, hx2⟩, rfl⟩ := hp2
    show hpV _ _ _ _ _ _ _ _ _ _ _ _ _ _ _ _ _ _ _ _ _ (_ :: _)
    refine h_istore_n (lv' := [(3, .int (hpI x2)), (0, .ref (z + 195)), (1, .int (hpI a0)), (2, .int (hpI a1))]) C dX9_lay_10 rfl (by decide) rfl ?_
    have L3 : ∀ (n3 : Nat) (τ3 : hpMem) (w3_3 : Int), 0 ≤ w3_3 → w3_3 ≤ 699 → hpInv τ3 → (∀ j i : Nat, (j ≠ 202 ∨ (i : Int) < 701 * a0 ∨ 701 * a0 + 700 < (i : Int)) → τ3 j i = σ j i) → (hpLI (σ 202) (τ3 202) a0 w3_3 a1) → (w3_3 + 4294967296) < (n3 : Int) → hpF p l e rgX9_lay s m [.ref (z + 195), .int (hpI a0), .int (hpI a1)] below meth c 4 D cy z (pgX9_lay z σ a0 a1) τ3 11 [(0, .ref (z + 195)), (1, .int (hpI a0)), (2, .int (hpI a1)), (3, .int (hpI w3_3))] [] := by
      intro n3
      induction n3 with
      | zero => intro τ3 w3_3 hv3_0 hv3_1 hI3 hF3 hM3_0 hm3; exfalso; omega
      | succ n3 ih3 =>
        intro τ3 w3_3 hv3_0 hv3_1 hI3 hF3 hM3_0 hm3
        refine h_iload_n C dX9_lay_11 3 rfl rfl ?_
        refine h_if_le (tgt := 55) C dX9_lay_12 (by decide) ⟨by omega, by omega⟩ (fun h4 => ?_) (fun h4 => ?_)
        · refine h_aload_n C dX9_lay_55 0 rfl rfl ?_
          refine h_get C O9 15 kd_195 (by decide) wd_1271 dX9_lay_56 fr_195_15 ?_
          refine h_sipush C dX9_lay_59 (by decide) ?_
          refine h_iload_n C dX9_lay_62 1 rfl rfl ?_
          refine h_imul C dX9_lay_63 rfl ?_
          refine h_iconst C dX9_lay_64 ?_
          refine h_iadd C dX9_lay_65 rfl ?_
          refine h_iload_n C dX9_lay_66 3 rfl rfl ?_
          refine h_iadd C dX9_lay_67 rfl ?_
          refine h_iload_n C dX9_lay_68 2 rfl rfl ?_
          refine h_iastore C dX9_lay_69 kd_202 (((701 * a0) + 1) + w3_3).toNat (Int.toNat_of_nonneg (by omega)) (by rw [ln_202]; omega) ?_
          obtain ⟨τ5, e5⟩ : ∃ μ : hpMem, μ = hpw τ3 202 ((((701 * a0) + 1) + w3_3).toNat) a1 := ⟨_, rfl⟩
          rw [← e5]
          have hI5 : hpInv τ5 := by rw [e5]; exact hpInv.w202 hI3 (fun hm => ⟨by omega, by omega⟩) ⟨by omega, by omega⟩
          have hF5 : ∀ j i : Nat, (j ≠ 202 ∨ (i : Int) < 701 * a0 ∨ 701 * a0 + 700 < (i : Int)) → τ5 j i = σ j i := fun j i h_0 => by rw [e5]; exact (hpw_fr (by omega)).trans (hF3 j i h_0)
          refine h_aload_n C dX9_lay_70 0 rfl rfl ?_
          refine h_get C O9 15 kd_195 (by decide) wd_1271 dX9_lay_71 fr_195_15 ?_
          refine h_sipush C dX9_lay_74 (by decide) ?_
          refine h_iload_n C dX9_lay_77 1 rfl rfl ?_
          refine h_imul C dX9_lay_78 rfl ?_
          refine h_dup2 C rfl rfl dX9_lay_79 ?_
          refine h_iaload C dX9_lay_80 kd_202 (701 * a0).toNat (Int.toNat_of_nonneg (by omega)) (by rw [ln_202]; omega) rfl ?_
          obtain ⟨hr6a, hr6b⟩ := hI5.b (bh_202 (by omega))
          generalize hg6 : τ5 202 ((701 * a0).toNat) = r6 at hr6a hr6b ⊢
          refine h_iconst C dX9_lay_81 ?_
          refine h_iadd C dX9_lay_82 rfl ?_
          refine h_iastore C dX9_lay_83 kd_202 (701 * a0).toNat (Int.toNat_of_nonneg (by omega)) (by rw [ln_202]; omega) ?_
          obtain ⟨τ7, e7⟩ : ∃ μ : hpMem, μ = hpw τ5 202 ((701 * a0).toNat) (r6 + 1) := ⟨_, rfl⟩
          rw [← e7]
          have hI7 : hpInv τ7 := by rw [e7]; exact hpInv.w202 hI5 (fun hm => ⟨by omega, by omega⟩) ⟨by omega, by omega⟩
          have hF7 : ∀ j i : Nat, (j ≠ 202 ∨ (i : Int) < 701 * a0 ∨ 701 * a0 + 700 < (i : Int)) → τ7 j i = σ j i := fun j i h_0 => by rw [e7]; exact (hpw_fr (by omega)).trans (hF5 j i h_0)
          refine h_return C hr hlk dX9_lay_84 ?_
          exact ⟨rfl, hI7, hF7, fun M hM => by have q := hM3_0.1; have q3 : τ5 202 (701 * a0).toNat = τ3 202 (701 * a0).toNat := by rw [e5]; exact hpw_fr (Or.inr (by omega)); rw [show hpLy a1.toNat M = hpIn a1.toNat M from if_neg (by omega), e7, hpw_row, e5, hpw_row]; exact hpLI_f hM3_0 (by omega) (by omega) (by omega) (by omega) (by omega) hM⟩
        · refine h_aload_n C dX9_lay_15 0 rfl rfl ?_
          refine h_iload_n C dX9_lay_16 1 rfl rfl ?_
          refine h_iload_n C dX9_lay_17 3 rfl rfl ?_
          refine h_iconst C dX9_lay_18 ?_
          refine h_isub C dX9_lay_19 rfl ?_
          refine h_callV (As := [.int (hpI a0), .int (hpI (w3_3 - 1))]) (rest := []) C Z yyX9_heightOf wd_1540 (tgX9_heightOf l D cy z _ a0 ⟨by omega, by omega⟩ (w3_3 - 1) ⟨by omega, by omega⟩ hI3 (by omega) (by omega)) kd_195 rfl rfl ⟨rfl, rfl, Nat.le_of_ble_eq_true rfl, Nat.le_of_ble_eq_true rfl⟩ ⟨Nat.le_of_ble_eq_true rfl, Nat.le_of_ble_eq_true rfl⟩ (Nat.le_of_ble_eq_true rfl) dX9_lay_20 (fun r8 τ8 hp8 => ?_)
          obtain ⟨⟨x8, rfl, ⟨hx8a, hx8b⟩, hx8⟩, rfl⟩ := hp8
          show hpV _ _ _ _ _ _ _ _ _ _ _ _ _ _ _ _ _ _ _ _ _ (_ :: _)
          refine h_iload_n C dX9_lay_23 2 rfl rfl ?_
          refine h_icmp_ge (tgt := 55) C dX9_lay_24 (by decide) ⟨by omega, by omega⟩ ⟨by omega, by omega⟩ (fun h9 => ?_) (fun h9 => ?_)
          · refine h_aload_n C dX9_lay_55 0 rfl rfl ?_
            refine h_get C O9 15 kd_195 (by decide) wd_1271 dX9_lay_56 fr_195_15 ?_
            refine h_sipush C dX9_lay_59 (by decide) ?_
            refine h_iload_n C dX9_lay_62 1 rfl rfl ?_
            refine h_imul C dX9_lay_63 rfl ?_
            refine h_iconst C dX9_lay_64 ?_
            refine h_iadd C dX9_lay_65 rfl ?_
            refine h_iload_n C dX9_lay_66 3 rfl rfl ?_
            refine h_iadd C dX9_lay_67 rfl ?_
            refine h_iload_n C dX9_lay_68 2 rfl rfl ?_
            refine h_iastore C dX9_lay_69 kd_202 (((701 * a0) + 1) + w3_3).toNat (Int.toNat_of_nonneg (by omega)) (by rw [ln_202]; omega) ?_
            obtain ⟨τ10, e10⟩ : ∃ μ : hpMem, μ = hpw τ3 202 ((((701 * a0) + 1) + w3_3).toNat) a1 := ⟨_, rfl⟩
            rw [← e10]
            have hI10 : hpInv τ10 := by rw [e10]; exact hpInv.w202 hI3 (fun hm => ⟨by omega, by omega⟩) ⟨by omega, by omega⟩
            have hF10 : ∀ j i : Nat, (j ≠ 202 ∨ (i : Int) < 701 * a0 ∨ 701 * a0 + 700 < (i : Int)) → τ10 j i = σ j i := fun j i h_0 => by rw [e10]; exact (hpw_fr (by omega)).trans (hF3 j i h_0)
            refine h_aload_n C dX9_lay_70 0 rfl rfl ?_
            refine h_get C O9 15 kd_195 (by decide) wd_1271 dX9_lay_71 fr_195_15 ?_
            refine h_sipush C dX9_lay_74 (by decide) ?_
            refine h_iload_n C dX9_lay_77 1 rfl rfl ?_
            refine h_imul C dX9_lay_78 rfl ?_
            refine h_dup2 C rfl rfl dX9_lay_79 ?_
            refine h_iaload C dX9_lay_80 kd_202 (701 * a0).toNat (Int.toNat_of_nonneg (by omega)) (by rw [ln_202]; omega) rfl ?_
            obtain ⟨hr11a, hr11b⟩ := hI10.b (bh_202 (by omega))
            generalize hg11 : τ10 202 ((701 * a0).toNat) = r11 at hr11a hr11b ⊢
            refine h_iconst C dX9_lay_81 ?_
            refine h_iadd C dX9_lay_82 rfl ?_
            refine h_iastore C dX9_lay_83 kd_202 (701 * a0).toNat (Int.toNat_of_nonneg (by omega)) (by rw [ln_202]; omega) ?_
            obtain ⟨τ12, e12⟩ : ∃ μ : hpMem, μ = hpw τ10 202 ((701 * a0).toNat) (r11 + 1) := ⟨_, rfl⟩
            rw [← e12]
            have hI12 : hpInv τ12 := by rw [e12]; exact hpInv.w202 hI10 (fun hm => ⟨by omega, by omega⟩) ⟨by omega, by omega⟩
            have hF12 : ∀ j i : Nat, (j ≠ 202 ∨ (i : Int) < 701 * a0 ∨ 701 * a0 + 700 < (i : Int)) → τ12 j i = σ j i := fun j i h_0 => by rw [e12]; exact (hpw_fr (by omega)).trans (hF10 j i h_0)
            refine h_return C hr hlk dX9_lay_84 ?_
            exact ⟨rfl, hI12, hF12, fun M hM => by have q := hM3_0.1; have q3 : τ10 202 (701 * a0).toNat = τ3 202 (701 * a0).toNat := by rw [e10]; exact hpw_fr (Or.inr (by omega)); rw [show hpLy a1.toNat M = hpIn a1.toNat M from if_neg (by omega), e12, hpw_row, e10, hpw_row]; exact hpLI_f hM3_0 (by omega) (by omega) (by omega) (by omega) (by omega) hM⟩
          · refine h_aload_n C dX9_lay_27 0 rfl rfl ?_
            refine h_get C O9 15 kd_195 (by decide) wd_1271 dX9_lay_28 fr_195_15 ?_
            refine h_sipush C dX9_lay_31 (by decide) ?_
            refine h_iload_n C dX9_lay_34 1 rfl rfl ?_
            refine h_imul C dX9_lay_35 rfl ?_
            refine h_iconst C dX9_lay_36 ?_
            refine h_iadd C dX9_lay_37 rfl ?_
            refine h_iload_n C dX9_lay_38 3 rfl rfl ?_
            refine h_iadd C dX9_lay_39 rfl ?_
            refine h_aload_n C dX9_lay_40 0 rfl rfl ?_
            refine h_iload_n C dX9_lay_41 1 rfl rfl ?_
            refine h_iload_n C dX9_lay_42 3 rfl rfl ?_
            refine h_iconst C dX9_lay_43 ?_
            refine h_isub C dX9_lay_44 rfl ?_
            refine h_callV (As := [.int (hpI a0), .int (hpI (w3_3 - 1))]) (rest := [.int (hpI (((701 * a0) + 1) + w3_3)), .ref (z + 202)]) C Z yyX9_heightOf wd_1540 (tgX9_heightOf l D cy z _ a0 ⟨by omega, by omega⟩ (w3_3 - 1) ⟨by omega, by omega⟩ hI3 (by omega) (by omega)) kd_195 rfl rfl ⟨rfl, rfl, Nat.le_of_ble_eq_true rfl, Nat.le_of_ble_eq_true rfl⟩ ⟨Nat.le_of_ble_eq_true rfl, Nat.le_of_ble_eq_true rfl⟩ (Nat.le_of_ble_eq_true rfl) dX9_lay_45 (fun r13 τ13 hp13 => ?_)
            obtain ⟨⟨x13, rfl, ⟨hx13a, hx13b⟩, hx13⟩, rfl⟩ := hp13
            show hpV _ _ _ _ _ _ _ _ _ _ _ _ _ _ _ _ _ _ _ _ _ (_ :: _)
            refine h_iastore C dX9_lay_48 kd_202 (((701 * a0) + 1) + w3_3).toNat (Int.toNat_of_nonneg (by omega)) (by rw [ln_202]; omega) ?_
            obtain ⟨τ14, e14⟩ : ∃ μ : hpMem, μ = hpw τ3 202 ((((701 * a0) + 1) + w3_3).toNat) x13 := ⟨_, rfl⟩
            rw [← e14]
            have hI14 : hpInv τ14 := by rw [e14]; exact hpInv.w202 hI3 (fun hm => ⟨by omega, by omega⟩) ⟨by omega, by omega⟩
            have hF14 : ∀ j i : Nat, (j ≠ 202 ∨ (i : Int) < 701 * a0 ∨ 701 * a0 + 700 < (i : Int)) → τ14 j i = σ j i := fun j i h_0 => by rw [e14]; exact (hpw_fr (by omega)).trans (hF3 j i h_0)
            refine h_iinc (lv' := [(3, .int (hpI (w3_3 + (-1)))), (0, .ref (z + 195)), (1, .int (hpI a0)), (2, .int (hpI a1))]) C dX9_lay_49 3 rfl rfl (by decide) rfl ?_
            refine h_goto (tgt := 11) C dX9_lay_52 (by decide) ?_
            exact hp_sub [1, 2, 3, 0] rfl (ih3 _ (w3_3 + (-1)) (by omega) (by omega) hI14 hF14 (by rw [e14, hpw_row]; exact hpLI_s hM3_0 (by omega) (by omega) (by omega) (by omega) (by omega)) (by omega))
    exact hp_sub [1, 2, 3, 0] rfl (L3 8589934592 _ x2 (by omega) (by omega) hI hF0 (hpLI_0 (by omega)) (by omega))
  · refine h_return C hr hlk dX9_lay_4 ?_
    exact ⟨rfl, hI, hF0, fun M hM => by rw [show a1.toNat = 0 by omega]; exact hM⟩
abbrev rgX9_takeHighest : Room := { frames := 1, cells := 0, slots := 0, locals := 22 }
abbrev pgX9_takeHighest (z : Nat) (σ : hpMem) (a0 : Int) : Option Value → hpMem → Prop := fun r τ => r = none ∧ hpInv τ ∧ (∀ j i : Nat, (j ≠ 202 ∨ (i : Int) < 701 * a0 ∨ 701 * a0 + 700 < (i : Int)) → τ j i = σ j i) ∧ (∀ M, hpRw (σ 202) a0 M → hpRw (τ 202) a0 M.tail)
set_option maxHeartbeats 4000000 in
set_option maxRecDepth 20000 in
theorem tgX9_takeHighest (l : Launch) (D : va_G) (cy : Nat → ClassId) (z : Nat) (σ : hpMem) (a0 : Int) (ha0 : hpR a0) (hI : hpInv σ) (hr0 : 0 ≤ a0 ∧ a0 ≤ 20) : hpM l D cy z yX9_takeHighest cX9_takeHighest 3 none rgX9_takeHighest [.ref (z + 195), .int (hpI a0)] σ (pgX9_takeHighest z σ a0) := by
  obtain ⟨ha01, ha02⟩ := ha0
  refine hp_met rfl (Nat.le_of_ble_eq_true rfl) (fun p e s m below meth c C Z hr hlk => ?_)
  have hF0 : ∀ j i : Nat, (j ≠ 202 ∨ (i : Int) < 701 * a0 ∨ 701 * a0 + 700 < (i : Int)) → σ j i = σ j i := fun j i _ => rfl
  refine h_aload_n C dX9_takeHighest_0 0 rfl rfl ?_
  refine h_iload_n C dX9_takeHighest_1 1 rfl rfl ?_
  refine h_callV (As := [.int (hpI a0)]) (rest := []) C Z yyX9_manyOf wd_1536 (tgX9_manyOf l D cy z _ a0 ⟨by omega, by omega⟩ hI (by omega)) kd_195 rfl rfl ⟨rfl, rfl, Nat.le_of_ble_eq_true rfl, Nat.le_of_ble_eq_true rfl⟩ ⟨Nat.le_of_ble_eq_true rfl, Nat.le_of_ble_eq_true rfl⟩ (Nat.le_of_ble_eq_true rfl) dX9_takeHighest_2 (fun r1 τ1 hp1 => ?_)
  obtain ⟨⟨x1, rfl, ⟨hx1a, hx1b⟩, hx1⟩, rfl⟩ := hp1
  show hpV _ _ _ _ _ _ _ _ _ _ _ _ _ _ _ _ _ _ _ _ _ (_ :: _)
  refine h_if_ne (tgt := 9) C dX9_takeHighest_5 (by decide) ⟨by omega, by omega⟩ (fun h2 => ?_) (fun h2 => ?_)
  · refine h_aload_n C dX9_takeHighest_9 0 rfl rfl ?_
    refine h_get C O9 15 kd_195 (by decide) wd_1271 dX9_takeHighest_10 fr_195_15 ?_
    refine h_sipush C dX9_takeHighest_13 (by decide) ?_
    refine h_iload_n C dX9_takeHighest_16 1 rfl rfl ?_
    refine h_imul C dX9_takeHighest_17 rfl ?_
    refine h_dup2 C rfl rfl dX9_takeHighest_18 ?_
    refine h_iaload C dX9_takeHighest_19 kd_202 (701 * a0).toNat (Int.toNat_of_nonneg (by omega)) (by rw [ln_202]; omega) rfl ?_
    obtain ⟨hr3a, hr3b⟩ := hI.b (bh_202 (by omega))
    generalize hg3 : σ 202 ((701 * a0).toNat) = r3 at hr3a hr3b ⊢
    refine h_iconst C dX9_takeHighest_20 ?_
    refine h_isub C dX9_takeHighest_21 rfl ?_
    refine h_iastore C dX9_takeHighest_22 kd_202 (701 * a0).toNat (Int.toNat_of_nonneg (by omega)) (by rw [ln_202]; omega) ?_
    obtain ⟨τ4, e4⟩ : ∃ μ : hpMem, μ = hpw σ 202 ((701 * a0).toNat) (r3 - 1) := ⟨_, rfl⟩
    rw [← e4]
    have hI4 : hpInv τ4 := by rw [e4]; exact hpInv.w202 hI (fun hm => ⟨by omega, by omega⟩) ⟨by omega, by omega⟩
    have hF4 : ∀ j i : Nat, (j ≠ 202 ∨ (i : Int) < 701 * a0 ∨ 701 * a0 + 700 < (i : Int)) → τ4 j i = σ j i := fun j i h_0 => by rw [e4]; exact (hpw_fr (by omega)).trans (hF0 j i h_0)
    refine h_iconst C dX9_takeHighest_23 ?_
    refine h_istore_n (lv' := [(2, .int (hpI 0)), (0, .ref (z + 195)), (1, .int (hpI a0))]) C dX9_takeHighest_24 rfl (by decide) rfl ?_
    have L5 : ∀ (n5 : Nat) (τ5 : hpMem) (w5_2 : Int), 0 ≤ w5_2 → w5_2 ≤ 700 → hpInv τ5 → (∀ j i : Nat, (j ≠ 202 ∨ (i : Int) < 701 * a0 ∨ 701 * a0 + 700 < (i : Int)) → τ5 j i = σ j i) → (hpTI (σ 202) (τ5 202) a0 w5_2) → (4294967296 - w5_2) < (n5 : Int) → hpF p l e rgX9_takeHighest s m [.ref (z + 195), .int (hpI a0)] below meth c 3 D cy z (pgX9_takeHighest z σ a0) τ5 25 [(0, .ref (z + 195)), (1, .int (hpI a0)), (2, .int (hpI w5_2))] [] := by
      intro n5
      induction n5 with
      | zero => intro τ5 w5_2 hv5_0 hv5_1 hI5 hF5 hM5_0 hm5; exfalso; omega
      | succ n5 ih5 =>
        intro τ5 w5_2 hv5_0 hv5_1 hI5 hF5 hM5_0 hm5
        refine h_iload_n C dX9_takeHighest_25 2 rfl rfl ?_
        refine h_aload_n C dX9_takeHighest_26 0 rfl rfl ?_
        refine h_iload_n C dX9_takeHighest_27 1 rfl rfl ?_
        refine h_callV (As := [.int (hpI a0)]) (rest := [.int (hpI w5_2)]) C Z yyX9_manyOf wd_1536 (tgX9_manyOf l D cy z _ a0 ⟨by omega, by omega⟩ hI5 (by omega)) kd_195 rfl rfl ⟨rfl, rfl, Nat.le_of_ble_eq_true rfl, Nat.le_of_ble_eq_true rfl⟩ ⟨Nat.le_of_ble_eq_true rfl, Nat.le_of_ble_eq_true rfl⟩ (Nat.le_of_ble_eq_true rfl) dX9_takeHighest_28 (fun r6 τ6 hp6 => ?_)
        obtain ⟨⟨x6, rfl, ⟨hx6a, hx6b⟩, hx6⟩, rfl⟩ := hp6
        show hpV _ _ _ _ _ _ _ _ _ _ _ _ _ _ _ _ _ _ _ _ _ (_ :: _)
        refine h_icmp_ge (tgt := 62) C dX9_takeHighest_31 (by decide) ⟨by omega, by omega⟩ ⟨by omega, by omega⟩ (fun h7 => ?_) (fun h7 => ?_)
        · refine h_return C hr hlk dX9_takeHighest_62 ?_
          exact ⟨rfl, hI5, hF5, fun M hM => hpTI_f hM5_0 (by omega) (by omega) hM⟩
        · refine h_aload_n C dX9_takeHighest_34 0 rfl rfl ?_
          refine h_get C O9 15 kd_195 (by decide) wd_1271 dX9_takeHighest_35 fr_195_15 ?_
          refine h_sipush C dX9_takeHighest_38 (by decide) ?_
          refine h_iload_n C dX9_takeHighest_41 1 rfl rfl ?_
          refine h_imul C dX9_takeHighest_42 rfl ?_
          refine h_iconst C dX9_takeHighest_43 ?_
          refine h_iadd C dX9_takeHighest_44 rfl ?_
          refine h_iload_n C dX9_takeHighest_45 2 rfl rfl ?_
          refine h_iadd C dX9_takeHighest_46 rfl ?_
          have hq47 := hM5_0.1
          refine h_aload_n C dX9_takeHighest_47 0 rfl rfl ?_
          refine h_iload_n C dX9_takeHighest_48 1 rfl rfl ?_
          refine h_iload_n C dX9_takeHighest_49 2 rfl rfl ?_
          refine h_iconst C dX9_takeHighest_50 ?_
          refine h_iadd C dX9_takeHighest_51 rfl ?_
          refine h_callV (As := [.int (hpI a0), .int (hpI (w5_2 + 1))]) (rest := [.int (hpI (((701 * a0) + 1) + w5_2)), .ref (z + 202)]) C Z yyX9_heightOf wd_1540 (tgX9_heightOf l D cy z _ a0 ⟨by omega, by omega⟩ (w5_2 + 1) ⟨by omega, by omega⟩ hI5 (by omega) (by omega)) kd_195 rfl rfl ⟨rfl, rfl, Nat.le_of_ble_eq_true rfl, Nat.le_of_ble_eq_true rfl⟩ ⟨Nat.le_of_ble_eq_true rfl, Nat.le_of_ble_eq_true rfl⟩ (Nat.le_of_ble_eq_true rfl) dX9_takeHighest_52 (fun r8 τ8 hp8 => ?_)
          obtain ⟨⟨x8, rfl, ⟨hx8a, hx8b⟩, hx8⟩, rfl⟩ := hp8
          show hpV _ _ _ _ _ _ _ _ _ _ _ _ _ _ _ _ _ _ _ _ _ (_ :: _)
          refine h_iastore C dX9_takeHighest_55 kd_202 (((701 * a0) + 1) + w5_2).toNat (Int.toNat_of_nonneg (by omega)) (by rw [ln_202]; omega) ?_
          obtain ⟨τ9, e9⟩ : ∃ μ : hpMem, μ = hpw τ5 202 ((((701 * a0) + 1) + w5_2).toNat) x8 := ⟨_, rfl⟩
          rw [← e9]
          have hI9 : hpInv τ9 := by rw [e9]; exact hpInv.w202 hI5 (fun hm => ⟨by omega, by omega⟩) ⟨by omega, by omega⟩
          have hF9 : ∀ j i : Nat, (j ≠ 202 ∨ (i : Int) < 701 * a0 ∨ 701 * a0 + 700 < (i : Int)) → τ9 j i = σ j i := fun j i h_0 => by rw [e9]; exact (hpw_fr (by omega)).trans (hF5 j i h_0)
          refine h_iinc (lv' := [(2, .int (hpI (w5_2 + 1))), (0, .ref (z + 195)), (1, .int (hpI a0))]) C dX9_takeHighest_56 2 rfl rfl (by decide) rfl ?_
          refine h_goto (tgt := 25) C dX9_takeHighest_59 (by decide) ?_
          exact hp_sub [1, 2, 0] rfl (ih5 _ (w5_2 + 1) (by omega) (by omega) hI9 hF9 (by rw [e9, hpw_row]; exact hpTI_s hM5_0 (by omega) (by omega) (by omega)) (by omega))
    exact hp_sub [1, 2, 0] rfl (L5 8589934592 _ 0 (by omega) (by omega) hI4 hF4 (by rw [e4, hpw_row]; exact hpTI_0 (by omega) (by omega)) (by omega))
  · refine h_return C hr hlk dX9_takeHighest_8 ?_
    exact ⟨rfl, hI, hF0, fun M hM => by cases M with | nil => exact hM | cons a l => exfalso; have q := hM.1; rw [List.length_cons] at q; omega⟩
abbrev rgX9_areSame : Room := { frames := 1, cells := 0, slots := 0, locals := 22 }
abbrev pgX9_areSame (z : Nat) (σ : hpMem) (a0 : Int) (a1 : Int) : Option Value → hpMem → Prop := fun r τ => (∃ x : Int, r = some (.int (hpI x)) ∧ (0 ≤ x ∧ x ≤ 1) ∧ ((x = 1 → hpEq (σ 202) a0 a1) ∧ (x = 0 → ¬ hpEq (σ 202) a0 a1))) ∧ σ = τ
set_option maxHeartbeats 4000000 in
set_option maxRecDepth 20000 in
theorem tgX9_areSame (l : Launch) (D : va_G) (cy : Nat → ClassId) (z : Nat) (σ : hpMem) (a0 : Int) (ha0 : hpR a0) (a1 : Int) (ha1 : hpR a1) (hI : hpInv σ) (hr0 : 0 ≤ a0 ∧ a0 ≤ 20) (hr1 : 0 ≤ a1 ∧ a1 ≤ 20) : hpM l D cy z yX9_areSame cX9_areSame 5 (some .boolean) rgX9_areSame [.ref (z + 195), .int (hpI a0), .int (hpI a1)] σ (pgX9_areSame z σ a0 a1) := by
  obtain ⟨ha01, ha02⟩ := ha0
  obtain ⟨ha11, ha12⟩ := ha1
  refine hp_met rfl (Nat.le_of_ble_eq_true rfl) (fun p e s m below meth c C Z hr hlk => ?_)
  refine h_aload_n C dX9_areSame_0 0 rfl rfl ?_
  refine h_iload_n C dX9_areSame_1 1 rfl rfl ?_
  refine h_callV (As := [.int (hpI a0)]) (rest := []) C Z yyX9_manyOf wd_1536 (tgX9_manyOf l D cy z _ a0 ⟨by omega, by omega⟩ hI (by omega)) kd_195 rfl rfl ⟨rfl, rfl, Nat.le_of_ble_eq_true rfl, Nat.le_of_ble_eq_true rfl⟩ ⟨Nat.le_of_ble_eq_true rfl, Nat.le_of_ble_eq_true rfl⟩ (Nat.le_of_ble_eq_true rfl) dX9_areSame_2 (fun r1 τ1 hp1 => ?_)
  obtain ⟨⟨x1, rfl, ⟨hx1a, hx1b⟩, hx1⟩, rfl⟩ := hp1
  show hpV _ _ _ _ _ _ _ _ _ _ _ _ _ _ _ _ _ _ _ _ _ (_ :: _)
  refine h_aload_n C dX9_areSame_5 0 rfl rfl ?_
  refine h_iload_n C dX9_areSame_6 2 rfl rfl ?_
  refine h_callV (As := [.int (hpI a1)]) (rest := [.int (hpI x1)]) C Z yyX9_manyOf wd_1536 (tgX9_manyOf l D cy z _ a1 ⟨by omega, by omega⟩ hI (by omega)) kd_195 rfl rfl ⟨rfl, rfl, Nat.le_of_ble_eq_true rfl, Nat.le_of_ble_eq_true rfl⟩ ⟨Nat.le_of_ble_eq_true rfl, Nat.le_of_ble_eq_true rfl⟩ (Nat.le_of_ble_eq_true rfl) dX9_areSame_7 (fun r2 τ2 hp2 => ?_)
  obtain ⟨⟨x2, rfl, ⟨hx2a, hx2b⟩, hx2⟩, rfl⟩ := hp2
  show hpV _ _ _ _ _ _ _ _ _ _ _ _ _ _ _ _ _ _ _ _ _ (_ :: _)
  refine h_icmp_ne (tgt := 17) C dX9_areSame_10 (by decide) ⟨by omega, by omega⟩ ⟨by omega, by omega⟩ (fun h3 => ?_) (fun h3 => ?_)
  · refine h_iconst C dX9_areSame_17 ?_
    refine h_istore_n (lv' := [(3, .int (hpI 0)), (0, .ref (z + 195)), (1, .int (hpI a0)), (2, .int (hpI a1))]) C dX9_areSame_18 rfl (by decide) rfl ?_
    refine h_iconst C dX9_areSame_19 ?_
    refine h_istore (lv' := [(4, .int (hpI 0)), (3, .int (hpI 0)), (0, .ref (z + 195)), (1, .int (hpI a0)), (2, .int (hpI a1))]) C dX9_areSame_20 (by decide) rfl ?_
    have L4 : ∀ (n4 : Nat) (w4_3 : Int) (w4_4 : Int), 0 ≤ w4_3 → w4_3 ≤ 1 → 0 ≤ w4_4 → w4_4 ≤ 700 → (hpEI (σ 202) a0 a1 w4_3 w4_4) → (4294967296 - w4_4) < (n4 : Int) → hpF p l e rgX9_areSame s m [.ref (z + 195), .int (hpI a0), .int (hpI a1)] below meth c 5 D cy z (pgX9_areSame z σ a0 a1) σ 22 [(0, .ref (z + 195)), (1, .int (hpI a0)), (2, .int (hpI a1)), (3, .int (hpI w4_3)), (4, .int (hpI w4_4))] [] := by
      intro n4
      induction n4 with
      | zero => intro w4_3 w4_4 hv4_0 hv4_1 hv4_2 hv4_3 hM4_0 hm4; exfalso; omega
      | succ n4 ih4 =>
        intro w4_3 w4_4 hv4_0 hv4_1 hv4_2 hv4_3 hM4_0 hm4
        refine h_iload C dX9_areSame_22 4 rfl ?_
        refine h_aload_n C dX9_areSame_24 0 rfl rfl ?_
        refine h_iload_n C dX9_areSame_25 1 rfl rfl ?_
        refine h_callV (As := [.int (hpI a0)]) (rest := [.int (hpI w4_4)]) C Z yyX9_manyOf wd_1536 (tgX9_manyOf l D cy z _ a0 ⟨by omega, by omega⟩ hI (by omega)) kd_195 rfl rfl ⟨rfl, rfl, Nat.le_of_ble_eq_true rfl, Nat.le_of_ble_eq_true rfl⟩ ⟨Nat.le_of_ble_eq_true rfl, Nat.le_of_ble_eq_true rfl⟩ (Nat.le_of_ble_eq_true rfl) dX9_areSame_26 (fun r5 τ5 hp5 => ?_)
        obtain ⟨⟨x5, rfl, ⟨hx5a, hx5b⟩, hx5⟩, rfl⟩ := hp5
        show hpV _ _ _ _ _ _ _ _ _ _ _ _ _ _ _ _ _ _ _ _ _ (_ :: _)
        refine h_icmp_ge (tgt := 65) C dX9_areSame_29 (by decide) ⟨by omega, by omega⟩ ⟨by omega, by omega⟩ (fun h6 => ?_) (fun h6 => ?_)
        · refine h_iload_n C dX9_areSame_65 3 rfl rfl ?_
          refine h_zreturn C (by omega) hr hlk dX9_areSame_66 ?_
          exact ⟨⟨_, rfl, ⟨by omega, by omega⟩, hpEI_f hM4_0 (by omega) (by omega)⟩, rfl⟩
        · refine h_iload_n C dX9_areSame_32 3 rfl rfl ?_
          refine h_if_eq (tgt := 65) C dX9_areSame_33 (by decide) ⟨by omega, by omega⟩ (fun h7 => ?_) (fun h7 => ?_)
          · refine h_iload_n C dX9_areSame_65 3 rfl rfl ?_
            refine h_zreturn C (by omega) hr hlk dX9_areSame_66 ?_
            exact ⟨⟨_, rfl, ⟨by omega, by omega⟩, hpEI_f hM4_0 (by omega) (by omega)⟩, rfl⟩
          · refine h_aload_n C dX9_areSame_36 0 rfl rfl ?_
            refine h_iload_n C dX9_areSame_37 1 rfl rfl ?_
            refine h_iload C dX9_areSame_38 4 rfl ?_
            refine h_callV (As := [.int (hpI a0), .int (hpI w4_4)]) (rest := []) C Z yyX9_heightOf wd_1540 (tgX9_heightOf l D cy z _ a0 ⟨by omega, by omega⟩ w4_4 ⟨by omega, by omega⟩ hI (by omega) (by omega)) kd_195 rfl rfl ⟨rfl, rfl, Nat.le_of_ble_eq_true rfl, Nat.le_of_ble_eq_true rfl⟩ ⟨Nat.le_of_ble_eq_true rfl, Nat.le_of_ble_eq_true rfl⟩ (Nat.le_of_ble_eq_true rfl) dX9_areSame_40 (fun r8 τ8 hp8 => ?_)
            obtain ⟨⟨x8, rfl, ⟨hx8a, hx8b⟩, hx8⟩, rfl⟩ := hp8
            show hpV _ _ _ _ _ _ _ _ _ _ _ _ _ _ _ _ _ _ _ _ _ (_ :: _)
            refine h_aload_n C dX9_areSame_43 0 rfl rfl ?_
            refine h_iload_n C dX9_areSame_44 2 rfl rfl ?_
            refine h_iload C dX9_areSame_45 4 rfl ?_
            refine h_callV (As := [.int (hpI a1), .int (hpI w4_4)]) (rest := [.int (hpI x8)]) C Z yyX9_heightOf wd_1540 (tgX9_heightOf l D cy z _ a1 ⟨by omega, by omega⟩ w4_4 ⟨by omega, by omega⟩ hI (by omega) (by omega)) kd_195 rfl rfl ⟨rfl, rfl, Nat.le_of_ble_eq_true rfl, Nat.le_of_ble_eq_true rfl⟩ ⟨Nat.le_of_ble_eq_true rfl, Nat.le_of_ble_eq_true rfl⟩ (Nat.le_of_ble_eq_true rfl) dX9_areSame_47 (fun r9 τ9 hp9 => ?_)
            obtain ⟨⟨x9, rfl, ⟨hx9a, hx9b⟩, hx9⟩, rfl⟩ := hp9
            show hpV _ _ _ _ _ _ _ _ _ _ _ _ _ _ _ _ _ _ _ _ _ (_ :: _)
            refine h_icmp_ne (tgt := 57) C dX9_areSame_50 (by decide) ⟨by omega, by omega⟩ ⟨by omega, by omega⟩ (fun h10 => ?_) (fun h10 => ?_)
            · refine h_iconst C dX9_areSame_57 ?_
              refine h_istore_n (lv' := [(3, .int (hpI 0)), (0, .ref (z + 195)), (1, .int (hpI a0)), (2, .int (hpI a1)), (4, .int (hpI w4_4))]) C dX9_areSame_58 rfl (by decide) rfl ?_
              refine h_iinc (lv' := [(4, .int (hpI (w4_4 + 1))), (3, .int (hpI 0)), (0, .ref (z + 195)), (1, .int (hpI a0)), (2, .int (hpI a1))]) C dX9_areSame_59 4 rfl rfl (by decide) rfl ?_
              refine h_goto (tgt := 22) C dX9_areSame_62 (by decide) ?_
              exact hp_sub [2, 3, 4, 1, 0] rfl (ih4 0 (w4_4 + 1) (by omega) (by omega) (by omega) (by omega) (hpEI_s hM4_0 (by omega) (by omega) (by omega) (by omega)) (by omega))
            · refine h_iconst C dX9_areSame_53 ?_
              refine h_goto (tgt := 58) C dX9_areSame_54 (by decide) ?_
              refine h_istore_n (lv' := [(3, .int (hpI 1)), (0, .ref (z + 195)), (1, .int (hpI a0)), (2, .int (hpI a1)), (4, .int (hpI w4_4))]) C dX9_areSame_58 rfl (by decide) rfl ?_
              refine h_iinc (lv' := [(4, .int (hpI (w4_4 + 1))), (3, .int (hpI 1)), (0, .ref (z + 195)), (1, .int (hpI a0)), (2, .int (hpI a1))]) C dX9_areSame_59 4 rfl rfl (by decide) rfl ?_
              refine h_goto (tgt := 22) C dX9_areSame_62 (by decide) ?_
              exact hp_sub [2, 3, 4, 1, 0] rfl (ih4 1 (w4_4 + 1) (by omega) (by omega) (by omega) (by omega) (hpEI_s hM4_0 (by omega) (by omega) (by omega) (by omega)) (by omega))
    exact hp_sub [2, 3, 4, 1, 0] rfl (L4 8589934592 0 0 (by omega) (by omega) (by omega) (by omega) (hpEI_0 (by omega)) (by omega))
  · refine h_iconst C dX9_areSame_13 ?_
    refine h_goto (tgt := 18) C dX9_areSame_14 (by decide) ?_
    refine h_istore_n (lv' := [(3, .int (hpI 1)), (0, .ref (z + 195)), (1, .int (hpI a0)), (2, .int (hpI a1))]) C dX9_areSame_18 rfl (by decide) rfl ?_
    refine h_iconst C dX9_areSame_19 ?_
    refine h_istore (lv' := [(4, .int (hpI 0)), (3, .int (hpI 1)), (0, .ref (z + 195)), (1, .int (hpI a0)), (2, .int (hpI a1))]) C dX9_areSame_20 (by decide) rfl ?_
    have L11 : ∀ (n11 : Nat) (w11_3 : Int) (w11_4 : Int), 0 ≤ w11_3 → w11_3 ≤ 1 → 0 ≤ w11_4 → w11_4 ≤ 700 → (hpEI (σ 202) a0 a1 w11_3 w11_4) → (4294967296 - w11_4) < (n11 : Int) → hpF p l e rgX9_areSame s m [.ref (z + 195), .int (hpI a0), .int (hpI a1)] below meth c 5 D cy z (pgX9_areSame z σ a0 a1) σ 22 [(0, .ref (z + 195)), (1, .int (hpI a0)), (2, .int (hpI a1)), (3, .int (hpI w11_3)), (4, .int (hpI w11_4))] [] := by
      intro n11
      induction n11 with
      | zero => intro w11_3 w11_4 hv11_0 hv11_1 hv11_2 hv11_3 hM11_0 hm11; exfalso; omega
      | succ n11 ih11 =>
        intro w11_3 w11_4 hv11_0 hv11_1 hv11_2 hv11_3 hM11_0 hm11
        refine h_iload C dX9_areSame_22 4 rfl ?_
        refine h_aload_n C dX9_areSame_24 0 rfl rfl ?_
        refine h_iload_n C dX9_areSame_25 1 rfl rfl ?_
        refine h_callV (As := [.int (hpI a0)]) (rest := [.int (hpI w11_4)]) C Z yyX9_manyOf wd_1536 (tgX9_manyOf l D cy z _ a0 ⟨by omega, by omega⟩ hI (by omega)) kd_195 rfl rfl ⟨rfl, rfl, Nat.le_of_ble_eq_true rfl, Nat.le_of_ble_eq_true rfl⟩ ⟨Nat.le_of_ble_eq_true rfl, Nat.le_of_ble_eq_true rfl⟩ (Nat.le_of_ble_eq_true rfl) dX9_areSame_26 (fun r12 τ12 hp12 => ?_)
        obtain ⟨⟨x12, rfl, ⟨hx12a, hx12b⟩, hx12⟩, rfl⟩ := hp12
        show hpV _ _ _ _ _ _ _ _ _ _ _ _ _ _ _ _ _ _ _ _ _ (_ :: _)
        refine h_icmp_ge (tgt := 65) C dX9_areSame_29 (by decide) ⟨by omega, by omega⟩ ⟨by omega, by omega⟩ (fun h13 => ?_) (fun h13 => ?_)
        · refine h_iload_n C dX9_areSame_65 3 rfl rfl ?_
          refine h_zreturn C (by omega) hr hlk dX9_areSame_66 ?_
          exact ⟨⟨_, rfl, ⟨by omega, by omega⟩, hpEI_f hM11_0 (by omega) (by omega)⟩, rfl⟩
        · refine h_iload_n C dX9_areSame_32 3 rfl rfl ?_
          refine h_if_eq (tgt := 65) C dX9_areSame_33 (by decide) ⟨by omega, by omega⟩ (fun h14 => ?_) (fun h14 => ?_)
          · refine h_iload_n C dX9_areSame_65 3 rfl rfl ?_
            refine h_zreturn C (by omega) hr hlk dX9_areSame_66 ?_
            exact ⟨⟨_, rfl, ⟨by omega, by omega⟩, hpEI_f hM11_0 (by omega) (by omega)⟩, rfl⟩
          · refine h_aload_n C dX9_areSame_36 0 rfl rfl ?_
            refine h_iload_n C dX9_areSame_37 1 rfl rfl ?_
            refine h_iload C dX9_areSame_38 4 rfl ?_
            refine h_callV (As := [.int (hpI a0), .int (hpI w11_4)]) (rest := []) C Z yyX9_heightOf wd_1540 (tgX9_heightOf l D cy z _ a0 ⟨by omega, by omega⟩ w11_4 ⟨by omega, by omega⟩ hI (by omega) (by omega)) kd_195 rfl rfl ⟨rfl, rfl, Nat.le_of_ble_eq_true rfl, Nat.le_of_ble_eq_true rfl⟩ ⟨Nat.le_of_ble_eq_true rfl, Nat.le_of_ble_eq_true rfl⟩ (Nat.le_of_ble_eq_true rfl) dX9_areSame_40 (fun r15 τ15 hp15 => ?_)
            obtain ⟨⟨x15, rfl, ⟨hx15a, hx15b⟩, hx15⟩, rfl⟩ := hp15
            show hpV _ _ _ _ _ _ _ _ _ _ _ _ _ _ _ _ _ _ _ _ _ (_ :: _)
            refine h_aload_n C dX9_areSame_43 0 rfl rfl ?_
            refine h_iload_n C dX9_areSame_44 2 rfl rfl ?_
            refine h_iload C dX9_areSame_45 4 rfl ?_
            refine h_callV (As := [.int (hpI a1), .int (hpI w11_4)]) (rest := [.int (hpI x15)]) C Z yyX9_heightOf wd_1540 (tgX9_heightOf l D cy z _ a1 ⟨by omega, by omega⟩ w11_4 ⟨by omega, by omega⟩ hI (by omega) (by omega)) kd_195 rfl rfl ⟨rfl, rfl, Nat.le_of_ble_eq_true rfl, Nat.le_of_ble_eq_true rfl⟩ ⟨Nat.le_of_ble_eq_true rfl, Nat.le_of_ble_eq_true rfl⟩ (Nat.le_of_ble_eq_true rfl) dX9_areSame_47 (fun r16 τ16 hp16 => ?_)
            obtain ⟨⟨x16, rfl, ⟨hx16a, hx16b⟩, hx16⟩, rfl⟩ := hp16
            show hpV _ _ _ _ _ _ _ _ _ _ _ _ _ _ _ _ _ _ _ _ _ (_ :: _)
            refine h_icmp_ne (tgt := 57) C dX9_areSame_50 (by decide) ⟨by omega, by omega⟩ ⟨by omega, by omega⟩ (fun h17 => ?_) (fun h17 => ?_)
            · refine h_iconst C dX9_areSame_57 ?_
              refine h_istore_n (lv' := [(3, .int (hpI 0)), (0, .ref (z + 195)), (1, .int (hpI a0)), (2, .int (hpI a1)), (4, .int (hpI w11_4))]) C dX9_areSame_58 rfl (by decide) rfl ?_
              refine h_iinc (lv' := [(4, .int (hpI (w11_4 + 1))), (3, .int (hpI 0)), (0, .ref (z + 195)), (1, .int (hpI a0)), (2, .int (hpI a1))]) C dX9_areSame_59 4 rfl rfl (by decide) rfl ?_
              refine h_goto (tgt := 22) C dX9_areSame_62 (by decide) ?_
              exact hp_sub [2, 3, 4, 1, 0] rfl (ih11 0 (w11_4 + 1) (by omega) (by omega) (by omega) (by omega) (hpEI_s hM11_0 (by omega) (by omega) (by omega) (by omega)) (by omega))
            · refine h_iconst C dX9_areSame_53 ?_
              refine h_goto (tgt := 58) C dX9_areSame_54 (by decide) ?_
              refine h_istore_n (lv' := [(3, .int (hpI 1)), (0, .ref (z + 195)), (1, .int (hpI a0)), (2, .int (hpI a1)), (4, .int (hpI w11_4))]) C dX9_areSame_58 rfl (by decide) rfl ?_
              refine h_iinc (lv' := [(4, .int (hpI (w11_4 + 1))), (3, .int (hpI 1)), (0, .ref (z + 195)), (1, .int (hpI a0)), (2, .int (hpI a1))]) C dX9_areSame_59 4 rfl rfl (by decide) rfl ?_
              refine h_goto (tgt := 22) C dX9_areSame_62 (by decide) ?_
              exact hp_sub [2, 3, 4, 1, 0] rfl (ih11 1 (w11_4 + 1) (by omega) (by omega) (by omega) (by omega) (hpEI_s hM11_0 (by omega) (by omega) (by omega) (by omega)) (by omega))
    exact hp_sub [2, 3, 4, 1, 0] rfl (L11 8589934592 1 0 (by omega) (by omega) (by omega) (by omega) (hpEI_0 (by omega)) (by omega))
abbrev rgX9_turfsOf : Room := { frames := 1, cells := 0, slots := 0, locals := 22 }
abbrev pgX9_turfsOf (z : Nat) (σ : hpMem) (a0 : Int) : Option Value → hpMem → Prop := fun r τ => (∃ x : Int, r = some (.int (hpI x)) ∧ (hpR x)) ∧ σ = τ
set_option maxHeartbeats 4000000 in
set_option maxRecDepth 20000 in
theorem tgX9_turfsOf (l : Launch) (D : va_G) (cy : Nat → ClassId) (z : Nat) (σ : hpMem) (a0 : Int) (ha0 : hpR a0) (hI : hpInv σ) (hr0 : 0 ≤ a0 ∧ a0 ≤ 20) : hpM l D cy z yX9_turfsOf cX9_turfsOf 4 (some .int) rgX9_turfsOf [.ref (z + 195), .int (hpI a0)] σ (pgX9_turfsOf z σ a0) := by
  obtain ⟨ha01, ha02⟩ := ha0
  refine hp_met rfl (Nat.le_of_ble_eq_true rfl) (fun p e s m below meth c C Z hr hlk => ?_)
  refine h_iconst C dX9_turfsOf_0 ?_
  refine h_istore_n (lv' := [(2, .int (hpI 0)), (0, .ref (z + 195)), (1, .int (hpI a0))]) C dX9_turfsOf_1 rfl (by decide) rfl ?_
  refine h_iconst C dX9_turfsOf_2 ?_
  refine h_istore_n (lv' := [(3, .int (hpI 0)), (2, .int (hpI 0)), (0, .ref (z + 195)), (1, .int (hpI a0))]) C dX9_turfsOf_3 rfl (by decide) rfl ?_
  have L1 : ∀ (n1 : Nat) (w1_2 : Int) (w1_3 : Int), -2147483648 ≤ w1_2 → w1_2 ≤ 2147483647 → 0 ≤ w1_3 → w1_3 ≤ 2147483647 → (4294967296 - w1_3) < (n1 : Int) → hpF p l e rgX9_turfsOf s m [.ref (z + 195), .int (hpI a0)] below meth c 4 D cy z (pgX9_turfsOf z σ a0) σ 4 [(0, .ref (z + 195)), (1, .int (hpI a0)), (2, .int (hpI w1_2)), (3, .int (hpI w1_3))] [] := by
    intro n1
    induction n1 with
    | zero => intro w1_2 w1_3 hv1_0 hv1_1 hv1_2 hv1_3 hm1; exfalso; omega
    | succ n1 ih1 =>
      intro w1_2 w1_3 hv1_0 hv1_1 hv1_2 hv1_3 hm1
      refine h_iload_n C dX9_turfsOf_4 3 rfl rfl ?_
      refine h_aload_n C dX9_turfsOf_5 0 rfl rfl ?_
      refine h_iload_n C dX9_turfsOf_6 1 rfl rfl ?_
      refine h_callV (As := [.int (hpI a0)]) (rest := [.int (hpI w1_3)]) C Z yyX9_manyOf wd_1536 (tgX9_manyOf l D cy z _ a0 ⟨by omega, by omega⟩ hI (by omega)) kd_195 rfl rfl ⟨rfl, rfl, Nat.le_of_ble_eq_true rfl, Nat.le_of_ble_eq_true rfl⟩ ⟨Nat.le_of_ble_eq_true rfl, Nat.le_of_ble_eq_true rfl⟩ (Nat.le_of_ble_eq_true rfl) dX9_turfsOf_7 (fun r2 τ2 hp2 => ?_)
      obtain ⟨⟨x2, rfl, ⟨hx2a, hx2b⟩, hx2⟩, rfl⟩ := hp2
      show hpV _ _ _ _ _ _ _ _ _ _ _ _ _ _ _ _ _ _ _ _ _ (_ :: _)
      refine h_icmp_ge (tgt := 28) C dX9_turfsOf_10 (by decide) ⟨by omega, by omega⟩ ⟨by omega, by omega⟩ (fun h3 => ?_) (fun h3 => ?_)
      · refine h_iload_n C dX9_turfsOf_28 2 rfl rfl ?_
        refine h_ireturn C hr hlk dX9_turfsOf_29 ?_
        exact ⟨⟨_, rfl, ⟨by omega, by omega⟩⟩, rfl⟩
      · refine h_iload_n C dX9_turfsOf_13 2 rfl rfl ?_
        refine h_aload_n C dX9_turfsOf_14 0 rfl rfl ?_
        refine h_iload_n C dX9_turfsOf_15 1 rfl rfl ?_
        refine h_iload_n C dX9_turfsOf_16 3 rfl rfl ?_
        refine h_callV (As := [.int (hpI a0), .int (hpI w1_3)]) (rest := [.int (hpI w1_2)]) C Z yyX9_heightOf wd_1540 (tgX9_heightOf l D cy z _ a0 ⟨by omega, by omega⟩ w1_3 ⟨by omega, by omega⟩ hI (by omega) (by omega)) kd_195 rfl rfl ⟨rfl, rfl, Nat.le_of_ble_eq_true rfl, Nat.le_of_ble_eq_true rfl⟩ ⟨Nat.le_of_ble_eq_true rfl, Nat.le_of_ble_eq_true rfl⟩ (Nat.le_of_ble_eq_true rfl) dX9_turfsOf_17 (fun r4 τ4 hp4 => ?_)
        obtain ⟨⟨x4, rfl, ⟨hx4a, hx4b⟩, hx4⟩, rfl⟩ := hp4
        show hpV _ _ _ _ _ _ _ _ _ _ _ _ _ _ _ _ _ _ _ _ _ (_ :: _)
        refine h_iadd C dX9_turfsOf_20 rfl ?_
        refine hp_anyI (fun r5 hr5 => ?_)
        obtain ⟨hr5a, hr5b⟩ := hr5
        refine h_istore_n (lv' := [(2, .int (hpI r5)), (0, .ref (z + 195)), (1, .int (hpI a0)), (3, .int (hpI w1_3))]) C dX9_turfsOf_21 rfl (by decide) rfl ?_
        refine h_iinc (lv' := [(3, .int (hpI (w1_3 + 1))), (2, .int (hpI r5)), (0, .ref (z + 195)), (1, .int (hpI a0))]) C dX9_turfsOf_22 3 rfl rfl (by decide) rfl ?_
        refine h_goto (tgt := 4) C dX9_turfsOf_25 (by decide) ?_
        exact hp_sub [2, 3, 1, 0] rfl (ih1 r5 (w1_3 + 1) (by omega) (by omega) (by omega) (by omega) (by omega))
  exact hp_sub [2, 3, 1, 0] rfl (L1 8589934592 0 0 (by omega) (by omega) (by omega) (by omega) (by omega))
abbrev rgX9_highestOf : Room := { frames := 1, cells := 0, slots := 0, locals := 22 }
abbrev pgX9_highestOf (z : Nat) (σ : hpMem) (a0 : Int) : Option Value → hpMem → Prop := fun r τ => (∃ x : Int, r = some (.int (hpI x)) ∧ (hpR x)) ∧ σ = τ
set_option maxHeartbeats 4000000 in
set_option maxRecDepth 20000 in
theorem tgX9_highestOf (l : Launch) (D : va_G) (cy : Nat → ClassId) (z : Nat) (σ : hpMem) (a0 : Int) (ha0 : hpR a0) (hI : hpInv σ) (hr0 : 0 ≤ a0 ∧ a0 ≤ 20) : hpM l D cy z yX9_highestOf cX9_highestOf 2 (some .int) rgX9_highestOf [.ref (z + 195), .int (hpI a0)] σ (pgX9_highestOf z σ a0) := by
  obtain ⟨ha01, ha02⟩ := ha0
  refine hp_met rfl (Nat.le_of_ble_eq_true rfl) (fun p e s m below meth c C Z hr hlk => ?_)
  refine h_aload_n C dX9_highestOf_0 0 rfl rfl ?_
  refine h_iload_n C dX9_highestOf_1 1 rfl rfl ?_
  refine h_callV (As := [.int (hpI a0)]) (rest := []) C Z yyX9_manyOf wd_1536 (tgX9_manyOf l D cy z _ a0 ⟨by omega, by omega⟩ hI (by omega)) kd_195 rfl rfl ⟨rfl, rfl, Nat.le_of_ble_eq_true rfl, Nat.le_of_ble_eq_true rfl⟩ ⟨Nat.le_of_ble_eq_true rfl, Nat.le_of_ble_eq_true rfl⟩ (Nat.le_of_ble_eq_true rfl) dX9_highestOf_2 (fun r1 τ1 hp1 => ?_)
  obtain ⟨⟨x1, rfl, ⟨hx1a, hx1b⟩, hx1⟩, rfl⟩ := hp1
  show hpV _ _ _ _ _ _ _ _ _ _ _ _ _ _ _ _ _ _ _ _ _ (_ :: _)
  refine h_if_ne (tgt := 12) C dX9_highestOf_5 (by decide) ⟨by omega, by omega⟩ (fun h2 => ?_) (fun h2 => ?_)
  · refine h_aload_n C dX9_highestOf_12 0 rfl rfl ?_
    refine h_iload_n C dX9_highestOf_13 1 rfl rfl ?_
    refine h_iconst C dX9_highestOf_14 ?_
    refine h_callV (As := [.int (hpI a0), .int (hpI 0)]) (rest := []) C Z yyX9_heightOf wd_1540 (tgX9_heightOf l D cy z _ a0 ⟨by omega, by omega⟩ 0 ⟨by decide, by decide⟩ hI (by omega) (by omega)) kd_195 rfl rfl ⟨rfl, rfl, Nat.le_of_ble_eq_true rfl, Nat.le_of_ble_eq_true rfl⟩ ⟨Nat.le_of_ble_eq_true rfl, Nat.le_of_ble_eq_true rfl⟩ (Nat.le_of_ble_eq_true rfl) dX9_highestOf_15 (fun r3 τ3 hp3 => ?_)
    obtain ⟨⟨x3, rfl, ⟨hx3a, hx3b⟩, hx3⟩, rfl⟩ := hp3
    show hpV _ _ _ _ _ _ _ _ _ _ _ _ _ _ _ _ _ _ _ _ _ (_ :: _)
    refine h_ireturn C hr hlk dX9_highestOf_18 ?_
    exact ⟨⟨_, rfl, ⟨by omega, by omega⟩⟩, rfl⟩
  · refine h_iconst C dX9_highestOf_8 ?_
    refine h_goto (tgt := 18) C dX9_highestOf_9 (by decide) ?_
    refine h_ireturn C hr hlk dX9_highestOf_18 ?_
    exact ⟨⟨_, rfl, ⟨by decide, by decide⟩⟩, rfl⟩
abbrev rgX9_offHeap : Room := { frames := 1, cells := 0, slots := 0, locals := 22 }
abbrev pgX9_offHeap (z : Nat) (σ : hpMem) (a0 : Int) (a1 : Int) : Option Value → hpMem → Prop := fun r τ => (∃ x : Int, r = some (.int (hpI x)) ∧ (hpR x) ∧ (x = (hpOn (σ 195 16).toNat a1.toNat (σ 202 (701 * a0 + 1 + a1).toNat).toNat : Int) ∧ 0 ≤ x ∧ x ≤ 2)) ∧ σ = τ
set_option maxHeartbeats 4000000 in
set_option maxRecDepth 20000 in
theorem tgX9_offHeap (l : Launch) (D : va_G) (cy : Nat → ClassId) (z : Nat) (σ : hpMem) (a0 : Int) (ha0 : hpR a0) (a1 : Int) (ha1 : hpR a1) (hI : hpInv σ) (hr0 : 0 ≤ a0 ∧ a0 ≤ 20) (hi0 : 0 ≤ a1 ∧ a1 ≤ 699) : hpM l D cy z yX9_offHeap cX9_offHeap 4 (some .int) rgX9_offHeap [.ref (z + 195), .int (hpI a0), .int (hpI a1)] σ (pgX9_offHeap z σ a0 a1) := by
  obtain ⟨ha01, ha02⟩ := ha0
  obtain ⟨ha11, ha12⟩ := ha1
  refine hp_met rfl (Nat.le_of_ble_eq_true rfl) (fun p e s m below meth c C Z hr hlk => ?_)
  refine h_aload_n C dX9_offHeap_0 0 rfl rfl ?_
  refine h_iload_n C dX9_offHeap_1 1 rfl rfl ?_
  refine h_iload_n C dX9_offHeap_2 2 rfl rfl ?_
  refine h_callV (As := [.int (hpI a0), .int (hpI a1)]) (rest := []) C Z yyX9_heightOf wd_1540 (tgX9_heightOf l D cy z _ a0 ⟨by omega, by omega⟩ a1 ⟨by omega, by omega⟩ hI (by omega) (by omega)) kd_195 rfl rfl ⟨rfl, rfl, Nat.le_of_ble_eq_true rfl, Nat.le_of_ble_eq_true rfl⟩ ⟨Nat.le_of_ble_eq_true rfl, Nat.le_of_ble_eq_true rfl⟩ (Nat.le_of_ble_eq_true rfl) dX9_offHeap_3 (fun r1 τ1 hp1 => ?_)
  obtain ⟨⟨x1, rfl, ⟨hx1a, hx1b⟩, hx1⟩, rfl⟩ := hp1
  show hpV _ _ _ _ _ _ _ _ _ _ _ _ _ _ _ _ _ _ _ _ _ (_ :: _)
  refine h_istore_n (lv' := [(3, .int (hpI x1)), (0, .ref (z + 195)), (1, .int (hpI a0)), (2, .int (hpI a1))]) C dX9_offHeap_6 rfl (by decide) rfl ?_
  refine h_aload_n C dX9_offHeap_7 1 rfl rfl ?_
  refine h_get C O9 16 kd_195 (by decide) wd_1272 dX9_offHeap_8 (hp_fvI (by rw [kd_195]; rfl) rfl) ?_
  obtain ⟨hr2a, hr2b⟩ := hI.b (bf_9_16 kd_195)
  generalize hg2 : σ 195 16 = r2 at hr2a hr2b ⊢
  refine h_iconst C dX9_offHeap_11 ?_
  refine h_icmp_ne (tgt := 19) C dX9_offHeap_12 (by decide) ⟨by omega, by omega⟩ ⟨by decide, by decide⟩ (fun h3 => ?_) (fun h3 => ?_)
  · refine h_aload_n C dX9_offHeap_19 1 rfl rfl ?_
    refine h_get C O9 16 kd_195 (by decide) wd_1272 dX9_offHeap_20 (hp_fvI (by rw [kd_195]; rfl) rfl) ?_
    rw [hg2]
    refine h_iconst C dX9_offHeap_23 ?_
    refine h_icmp_ne (tgt := 34) C dX9_offHeap_24 (by decide) ⟨by omega, by omega⟩ ⟨by decide, by decide⟩ (fun h4 => ?_) (fun h4 => ?_)
    · refine h_aload_n C dX9_offHeap_34 1 rfl rfl ?_
      refine h_get C O9 16 kd_195 (by decide) wd_1272 dX9_offHeap_35 (hp_fvI (by rw [kd_195]; rfl) rfl) ?_
      rw [hg2]
      refine h_iconst C dX9_offHeap_38 ?_
      refine h_icmp_ne (tgt := 51) C dX9_offHeap_39 (by decide) ⟨by omega, by omega⟩ ⟨by decide, by decide⟩ (fun h5 => ?_) (fun h5 => ?_)
      · refine h_iconst C dX9_offHeap_51 ?_
        refine h_ireturn C hr hlk dX9_offHeap_52 ?_
        exact ⟨⟨_, rfl, ⟨by decide, by decide⟩, by unfold hpOn; split <;> (try split) <;> omega⟩, rfl⟩
      · refine h_iload_n C dX9_offHeap_42 0 rfl rfl ?_
        refine h_iconst C dX9_offHeap_43 ?_
        refine h_icmp_le (tgt := 51) C dX9_offHeap_44 (by decide) ⟨by omega, by omega⟩ ⟨by decide, by decide⟩ (fun h6 => ?_) (fun h6 => ?_)
        · refine h_iconst C dX9_offHeap_51 ?_
          refine h_ireturn C hr hlk dX9_offHeap_52 ?_
          exact ⟨⟨_, rfl, ⟨by decide, by decide⟩, by unfold hpOn; split <;> (try split) <;> omega⟩, rfl⟩
        · refine h_iconst C dX9_offHeap_47 ?_
          refine h_goto (tgt := 52) C dX9_offHeap_48 (by decide) ?_
          refine h_ireturn C hr hlk dX9_offHeap_52 ?_
          exact ⟨⟨_, rfl, ⟨by decide, by decide⟩, by unfold hpOn; split <;> (try split) <;> omega⟩, rfl⟩
    · refine h_iload_n C dX9_offHeap_27 0 rfl rfl ?_
      refine h_iconst C dX9_offHeap_28 ?_
      refine h_icmp_ne (tgt := 34) C dX9_offHeap_29 (by decide) ⟨by omega, by omega⟩ ⟨by decide, by decide⟩ (fun h7 => ?_) (fun h7 => ?_)
      · refine h_aload_n C dX9_offHeap_34 1 rfl rfl ?_
        refine h_get C O9 16 kd_195 (by decide) wd_1272 dX9_offHeap_35 (hp_fvI (by rw [kd_195]; rfl) rfl) ?_
        rw [hg2]
        refine h_iconst C dX9_offHeap_38 ?_
        refine h_icmp_ne (tgt := 51) C dX9_offHeap_39 (by decide) ⟨by omega, by omega⟩ ⟨by decide, by decide⟩ (fun h8 => ?_) (fun h8 => ?_)
        · refine h_iconst C dX9_offHeap_51 ?_
          refine h_ireturn C hr hlk dX9_offHeap_52 ?_
          exact ⟨⟨_, rfl, ⟨by decide, by decide⟩, by unfold hpOn; split <;> (try split) <;> omega⟩, rfl⟩
        · exfalso; omega
      · refine h_iconst C dX9_offHeap_32 ?_
        refine h_ireturn C hr hlk dX9_offHeap_33 ?_
        exact ⟨⟨_, rfl, ⟨by decide, by decide⟩, by unfold hpOn; split <;> (try split) <;> omega⟩, rfl⟩
  · refine h_iload_n C dX9_offHeap_15 3 rfl rfl ?_
    refine h_if_eq (tgt := 32) C dX9_offHeap_16 (by decide) ⟨by omega, by omega⟩ (fun h9 => ?_) (fun h9 => ?_)
    · refine h_iconst C dX9_offHeap_32 ?_
      refine h_ireturn C hr hlk dX9_offHeap_33 ?_
      exact ⟨⟨_, rfl, ⟨by decide, by decide⟩, by unfold hpOn; split <;> (try split) <;> omega⟩, rfl⟩
    · refine h_aload_n C dX9_offHeap_19 1 rfl rfl ?_
      refine h_get C O9 16 kd_195 (by decide) wd_1272 dX9_offHeap_20 (hp_fvI (by rw [kd_195]; rfl) rfl) ?_
      rw [hg2]
      refine h_iconst C dX9_offHeap_23 ?_
      refine h_icmp_ne (tgt := 34) C dX9_offHeap_24 (by decide) ⟨by omega, by omega⟩ ⟨by decide, by decide⟩ (fun h10 => ?_) (fun h10 => ?_)
      · refine h_aload_n C dX9_offHeap_34 1 rfl rfl ?_
        refine h_get C O9 16 kd_195 (by decide) wd_1272 dX9_offHeap_35 (hp_fvI (by rw [kd_195]; rfl) rfl) ?_
        rw [hg2]
        refine h_iconst C dX9_offHeap_38 ?_
        refine h_icmp_ne (tgt := 51) C dX9_offHeap_39 (by decide) ⟨by omega, by omega⟩ ⟨by decide, by decide⟩ (fun h11 => ?_) (fun h11 => ?_)
        · refine h_iconst C dX9_offHeap_51 ?_
          refine h_ireturn C hr hlk dX9_offHeap_52 ?_
          exact ⟨⟨_, rfl, ⟨by decide, by decide⟩, by unfold hpOn; split <;> (try split) <;> omega⟩, rfl⟩
        · exfalso; omega
      · exfalso; omega
abbrev rgX9_step : Room := { frames := 2, cells := 0, slots := 0, locals := 45 }
abbrev pgX9_step (z : Nat) (σ : hpMem) (a0 : Int) (L : List Nat) : Option Value → hpMem → Prop := fun r τ => r = none ∧ hpInv τ ∧ (∀ j i : Nat, (j ≠ 202 ∨ (((i : Int) < 701 * a0 ∨ 701 * a0 + 700 < (i : Int)) ∧ (i : Int) < 14020)) → (j ≠ 195 ∨ (i ≠ 17 ∧ i ≠ 18)) → τ j i = σ j i) ∧ (hpRw (τ 202) a0 (hpSt (σ 195 16).toNat L))
set_option maxHeartbeats 4000000 in
set_option maxRecDepth 20000 in
theorem tgX9_step (l : Launch) (D : va_G) (cy : Nat → ClassId) (z : Nat) (σ : hpMem) (a0 : Int) (ha0 : hpR a0) (hI : hpInv σ) (L : List Nat) (hr0 : 0 ≤ a0 ∧ a0 ≤ 19) (hL : hpRw (σ 202) a0 L) (hV : hpOk L) : hpM l D cy z yX9_step cX9_step 5 none rgX9_step [.ref (z + 195), .int (hpI a0)] σ (pgX9_step z σ a0 L) := by
  obtain ⟨ha01, ha02⟩ := ha0
  refine hp_met rfl (Nat.le_of_ble_eq_true rfl) (fun p e s m below meth c C Z hr hlk => ?_)
  have hF0 : ∀ j i : Nat, (j ≠ 202 ∨ (((i : Int) < 701 * a0 ∨ 701 * a0 + 700 < (i : Int)) ∧ (i : Int) < 14020)) → (j ≠ 195 ∨ (i ≠ 17 ∧ i ≠ 18)) → σ j i = σ j i := fun j i _ _ => rfl
  have hLl := hV.len
  have hL1 := hL.1
  refine h_aload_n C dX9_step_0 0 rfl rfl ?_
  refine h_iload_n C dX9_step_1 1 rfl rfl ?_
  refine h_callV (As := [.int (hpI a0)]) (rest := []) C Z yyX9_manyOf wd_1536 (tgX9_manyOf l D cy z _ a0 ⟨by omega, by omega⟩ hI (by omega)) kd_195 rfl rfl ⟨rfl, rfl, Nat.le_of_ble_eq_true rfl, Nat.le_of_ble_eq_true rfl⟩ ⟨Nat.le_of_ble_eq_true rfl, Nat.le_of_ble_eq_true rfl⟩ (Nat.le_of_ble_eq_true rfl) dX9_step_2 (fun r1 τ1 hp1 => ?_)
  obtain ⟨⟨x1, rfl, ⟨hx1a, hx1b⟩, hx1⟩, rfl⟩ := hp1
  show hpV _ _ _ _ _ _ _ _ _ _ _ _ _ _ _ _ _ _ _ _ _ (_ :: _)
  refine h_istore_n (lv' := [(2, .int (hpI x1)), (0, .ref (z + 195)), (1, .int (hpI a0))]) C dX9_step_5 rfl (by decide) rfl ?_
  refine h_aload_n C dX9_step_6 1 rfl rfl ?_
  refine h_iconst C dX9_step_7 ?_
  refine h_put C O9 17 kd_195 (by decide) rfl wd_1273 dX9_step_8 rfl rfl (hp_fvI (by rw [kd_195]; rfl) hpu_at) ?_
  obtain ⟨τ2, e2⟩ : ∃ μ : hpMem, μ = hpw σ 195 17 0 := ⟨_, rfl⟩
  rw [← e2]
  have hI2 : hpInv τ2 := by rw [e2]; exact hI.w (bf_9_17 kd_195) (by omega) (by omega)
  have hF2 : ∀ j i : Nat, (j ≠ 202 ∨ (((i : Int) < 701 * a0 ∨ 701 * a0 + 700 < (i : Int)) ∧ (i : Int) < 14020)) → (j ≠ 195 ∨ (i ≠ 17 ∧ i ≠ 18)) → τ2 j i = σ j i := fun j i h_0 h_1 => by rw [e2]; exact (hpw_fr (by omega)).trans (hF0 j i h_0 h_1)
  have hg3 : τ2 195 17 = 0 := by rw [e2]; exact hpw_eq
  refine h_aload_n C dX9_step_11 1 rfl rfl ?_
  refine h_iconst C dX9_step_12 ?_
  refine h_put C O9 18 kd_195 (by decide) rfl wd_1274 dX9_step_13 rfl rfl (hp_fvI (by rw [kd_195]; rfl) hpu_at) ?_
  obtain ⟨τ4, e4⟩ : ∃ μ : hpMem, μ = hpw τ2 195 18 0 := ⟨_, rfl⟩
  rw [← e4]
  have hI4 : hpInv τ4 := by rw [e4]; exact hI2.w (bf_9_18 kd_195) (by omega) (by omega)
  have hF4 : ∀ j i : Nat, (j ≠ 202 ∨ (((i : Int) < 701 * a0 ∨ 701 * a0 + 700 < (i : Int)) ∧ (i : Int) < 14020)) → (j ≠ 195 ∨ (i ≠ 17 ∧ i ≠ 18)) → τ4 j i = σ j i := fun j i h_0 h_1 => by rw [e4]; exact (hpw_fr (by omega)).trans (hF2 j i h_0 h_1)
  have hg5 : τ4 195 17 = 0 := by rw [e4]; exact (hpw_fr (Or.inr (by decide))).trans hg3
  have hg6 : τ4 195 18 = 0 := by rw [e4]; exact hpw_eq
  refine h_iconst C dX9_step_16 ?_
  refine h_istore_n (lv' := [(3, .int (hpI 0)), (2, .int (hpI x1)), (0, .ref (z + 195)), (1, .int (hpI a0))]) C dX9_step_17 rfl (by decide) rfl ?_
  have L7 : ∀ (n7 : Nat) (τ7 : hpMem) (w7_3 : Int), 0 ≤ w7_3 → w7_3 ≤ 700 → w7_3 ≤ x1 → hpInv τ7 → (∀ j i : Nat, (j ≠ 202 ∨ (((i : Int) < 701 * a0 ∨ 701 * a0 + 700 < (i : Int)) ∧ (i : Int) < 14020)) → (j ≠ 195 ∨ (i ≠ 17 ∧ i ≠ 18)) → τ7 j i = σ j i) → (τ7 195 17 = ((hpTk (σ 195 16).toNat L w7_3.toNat : Nat) : Int)) → (∀ q, τ7 202 q = σ 202 q) → (4294967296 - w7_3) < (n7 : Int) → hpF p l e rgX9_step s m [.ref (z + 195), .int (hpI a0)] below meth c 5 D cy z (pgX9_step z σ a0 L) τ7 18 [(0, .ref (z + 195)), (1, .int (hpI a0)), (2, .int (hpI x1)), (3, .int (hpI w7_3))] [] := by
    intro n7
    induction n7 with
    | zero => intro τ7 w7_3 hv7_0 hv7_1 hv7_2 hI7 hF7 hM7_0 hM7_1 hm7; exfalso; omega
    | succ n7 ih7 =>
      intro τ7 w7_3 hv7_0 hv7_1 hv7_2 hI7 hF7 hM7_0 hM7_1 hm7
      refine h_iload_n C dX9_step_18 3 rfl rfl ?_
      refine h_iload_n C dX9_step_19 2 rfl rfl ?_
      refine h_icmp_ge (tgt := 44) C dX9_step_20 (by decide) ⟨by omega, by omega⟩ ⟨by omega, by omega⟩ (fun h8 => ?_) (fun h8 => ?_)
      · refine h_aload_n C dX9_step_44 0 rfl rfl ?_
        refine h_iload_n C dX9_step_45 1 rfl rfl ?_
        refine h_bipush C dX9_step_46 (by decide) ?_
        refine h_callV (As := [.int (hpI a0), .int (hpI 20)]) (rest := []) C Z yyX9_copyRow wd_1559 (tgX9_copyRow l D cy z _ a0 ⟨by omega, by omega⟩ 20 ⟨by decide, by decide⟩ hI7 (by omega) (by omega)) kd_195 rfl rfl ⟨rfl, rfl, Nat.le_of_ble_eq_true rfl, Nat.le_of_ble_eq_true rfl⟩ ⟨Nat.le_of_ble_eq_true rfl, Nat.le_of_ble_eq_true rfl⟩ (Nat.le_of_ble_eq_true rfl) dX9_step_48 (fun r9 τ9 hp9 => ?_)
        obtain ⟨rfl, hI9, hG9, hq9_0⟩ := hp9
        have hF9 : ∀ j i : Nat, (j ≠ 202 ∨ (((i : Int) < 701 * a0 ∨ 701 * a0 + 700 < (i : Int)) ∧ (i : Int) < 14020)) → (j ≠ 195 ∨ (i ≠ 17 ∧ i ≠ 18)) → τ9 j i = σ j i := fun j i h_0 h_1 => (hG9 j i (by omega)).trans (hF7 j i h_0 h_1)
        show hpV _ _ _ _ _ _ _ _ _ _ _ _ _ _ _ _ _ _ _ _ _ []
        have hO := hq9_0 L (hL.same hM7_1)
        have hT := (hG9 195 17 (by omega)).trans hM7_0
        refine h_aload_n C dX9_step_51 0 rfl rfl ?_
        refine h_iload_n C dX9_step_52 1 rfl rfl ?_
        refine h_callV (As := [.int (hpI a0)]) (rest := []) C Z yyX9_empty wd_1528 (tgX9_empty l D cy z _ a0 ⟨by omega, by omega⟩ hI9 (by omega)) kd_195 rfl rfl ⟨rfl, rfl, Nat.le_of_ble_eq_true rfl, Nat.le_of_ble_eq_true rfl⟩ ⟨Nat.le_of_ble_eq_true rfl, Nat.le_of_ble_eq_true rfl⟩ (Nat.le_of_ble_eq_true rfl) dX9_step_53 (fun r10 τ10 hp10 => ?_)
        obtain ⟨rfl, hI10, hG10, hq10_0⟩ := hp10
        have hF10 : ∀ j i : Nat, (j ≠ 202 ∨ (((i : Int) < 701 * a0 ∨ 701 * a0 + 700 < (i : Int)) ∧ (i : Int) < 14020)) → (j ≠ 195 ∨ (i ≠ 17 ∧ i ≠ 18)) → τ10 j i = σ j i := fun j i h_0 h_1 => (hG10 j i (by omega)).trans (hF9 j i h_0 h_1)
        show hpV _ _ _ _ _ _ _ _ _ _ _ _ _ _ _ _ _ _ _ _ _ []
        have hO2 : hpRw (τ10 202) 20 L := hO.fr hLl (by decide) (fun i h1 h2 => hG10 202 i (by omega))
        have hA0 : hpRw (τ10 202) a0 [] := hpRw.nil hq10_0
        have hT2 := (hG10 195 17 (by omega)).trans hT
        refine h_iconst C dX9_step_56 ?_
        refine h_istore_n (lv' := [(3, .int (hpI 0)), (0, .ref (z + 195)), (1, .int (hpI a0)), (2, .int (hpI x1))]) C dX9_step_57 rfl (by decide) rfl ?_
        have L11 : ∀ (n11 : Nat) (τ11 : hpMem) (w11_3 : Int), 0 ≤ w11_3 → w11_3 ≤ 700 → w11_3 ≤ x1 → hpInv τ11 → (∀ j i : Nat, (j ≠ 202 ∨ (((i : Int) < 701 * a0 ∨ 701 * a0 + 700 < (i : Int)) ∧ (i : Int) < 14020)) → (j ≠ 195 ∨ (i ≠ 17 ∧ i ≠ 18)) → τ11 j i = σ j i) → (hpRw (τ11 202) 20 L) → (hpRw (τ11 202) a0 (hpSP (σ 195 16).toNat L w11_3.toNat)) → (τ11 195 17 = ((hpTk (σ 195 16).toNat L L.length : Nat) : Int)) → (4294967296 - w11_3) < (n11 : Int) → hpF p l e rgX9_step s m [.ref (z + 195), .int (hpI a0)] below meth c 5 D cy z (pgX9_step z σ a0 L) τ11 58 [(0, .ref (z + 195)), (1, .int (hpI a0)), (2, .int (hpI x1)), (3, .int (hpI w11_3))] [] := by
          intro n11
          induction n11 with
          | zero => intro τ11 w11_3 hv11_0 hv11_1 hv11_2 hI11 hF11 hM11_0 hM11_1 hM11_2 hm11; exfalso; omega
          | succ n11 ih11 =>
            intro τ11 w11_3 hv11_0 hv11_1 hv11_2 hI11 hF11 hM11_0 hM11_1 hM11_2 hm11
            refine h_iload_n C dX9_step_58 3 rfl rfl ?_
            refine h_iload_n C dX9_step_59 2 rfl rfl ?_
            refine h_icmp_ge (tgt := 112) C dX9_step_60 (by decide) ⟨by omega, by omega⟩ ⟨by omega, by omega⟩ (fun h12 => ?_) (fun h12 => ?_)
            · refine h_aload_n C dX9_step_112 0 rfl rfl ?_
              refine h_iload_n C dX9_step_113 1 rfl rfl ?_
              refine h_aload_n C dX9_step_114 0 rfl rfl ?_
              refine h_get C O9 17 kd_195 (by decide) wd_1273 dX9_step_115 (hp_fvI (by rw [kd_195]; rfl) rfl) ?_
              obtain ⟨hr13a, hr13b⟩ := hI11.b (bf_9_17 kd_195)
              generalize hg13 : τ11 195 17 = r13 at hr13a hr13b ⊢
              have htk := hV.tk (w := (σ 195 16).toNat)
              have hsm := hM11_1.1
              have hwl : (w11_3).toNat = L.length := by omega
              rw [hwl] at hsm
              refine h_callV (As := [.int (hpI a0), .int (hpI r13)]) (rest := []) C Z yyX9_lay wd_1532 (tgX9_lay l D cy z _ a0 ⟨by omega, by omega⟩ r13 ⟨by omega, by omega⟩ hI11 (by omega) (by omega)) kd_195 rfl rfl ⟨rfl, rfl, Nat.le_of_ble_eq_true rfl, Nat.le_of_ble_eq_true rfl⟩ ⟨Nat.le_of_ble_eq_true rfl, Nat.le_of_ble_eq_true rfl⟩ (Nat.le_of_ble_eq_true rfl) dX9_step_118 (fun r14 τ14 hp14 => ?_)
              obtain ⟨rfl, hI14, hG14, hq14_0⟩ := hp14
              have hF14 : ∀ j i : Nat, (j ≠ 202 ∨ (((i : Int) < 701 * a0 ∨ 701 * a0 + 700 < (i : Int)) ∧ (i : Int) < 14020)) → (j ≠ 195 ∨ (i ≠ 17 ∧ i ≠ 18)) → τ14 j i = σ j i := fun j i h_0 h_1 => (hG14 j i (by omega)).trans (hF11 j i h_0 h_1)
              show hpV _ _ _ _ _ _ _ _ _ _ _ _ _ _ _ _ _ _ _ _ _ []
              refine h_return C hr hlk dX9_step_121 ?_
              exact ⟨rfl, hI14, hF14, by have q := hq14_0 _ (by rw [hwl] at hM11_1; exact hM11_1); rw [show no_such.toNat = hpTk (σ 195 16).toNat L L.length by omega] at q; exact q⟩
            · refine h_aload_n C dX9_step_63 0 rfl rfl ?_
              refine h_bipush C dX9_step_64 (by decide) ?_
              refine h_iload_n C dX9_step_66 3 rfl rfl ?_
              refine h_callV (As := [.int (hpI 20), .int (hpI w11_3)]) (rest := []) C Z yyX9_heightOf wd_1540 (tgX9_heightOf l D cy z _ 20 ⟨by decide, by decide⟩ w11_3 ⟨by omega, by omega⟩ hI11 (by omega) (by omega)) kd_195 rfl rfl ⟨rfl, rfl, Nat.le_of_ble_eq_true rfl, Nat.le_of_ble_eq_true rfl⟩ ⟨Nat.le_of_ble_eq_true rfl, Nat.le_of_ble_eq_true rfl⟩ (Nat.le_of_ble_eq_true rfl) dX9_step_67 (fun r15 τ15 hp15 => ?_)
              obtain ⟨⟨x15, rfl, ⟨hx15a, hx15b⟩, hx15⟩, rfl⟩ := hp15
              show hpV _ _ _ _ _ _ _ _ _ _ _ _ _ _ _ _ _ _ _ _ _ (_ :: _)
              refine h_aload_n C dX9_step_70 0 rfl rfl ?_
              refine h_bipush C dX9_step_71 (by decide) ?_
              refine h_iload_n C dX9_step_73 3 rfl rfl ?_
              refine h_callV (As := [.int (hpI 20), .int (hpI w11_3)]) (rest := [.int (hpI x15)]) C Z yyX9_offHeap wd_1567 (tgX9_offHeap l D cy z _ 20 ⟨by decide, by decide⟩ w11_3 ⟨by omega, by omega⟩ hI11 (by omega) (by omega)) kd_195 rfl rfl ⟨rfl, rfl, Nat.le_of_ble_eq_true rfl, Nat.le_of_ble_eq_true rfl⟩ ⟨Nat.le_of_ble_eq_true rfl, Nat.le_of_ble_eq_true rfl⟩ (Nat.le_of_ble_eq_true rfl) dX9_step_74 (fun r16 τ16 hp16 => ?_)
              obtain ⟨⟨x16, rfl, ⟨hx16a, hx16b⟩, hx16⟩, rfl⟩ := hp16
              show hpV _ _ _ _ _ _ _ _ _ _ _ _ _ _ _ _ _ _ _ _ _ (_ :: _)
              have hw17 : τ11 195 16 = σ 195 16 := hF11 195 16 (by omega) (by omega)
              have hge : (τ11 202 (701 * 20 + 1 + w11_3).toNat) = ((L.getD (w11_3).toNat 0 : Nat) : Int) := by have q := hM11_0.2 (w11_3).toNat (by omega); rw [show (((w11_3).toNat : Nat) : Int) = w11_3 by omega] at q; exact q
              have hge2 : (τ11 202 (701 * 20 + 1 + w11_3).toNat).toNat = L.getD (w11_3).toNat 0 := by omega
              rw [hw17, hge2] at hx16
              have hpo := hV.1 _ (hp_gd (L := L) (j := (w11_3).toNat) (by omega))
              have hon := hpOn_le (w := (σ 195 16).toNat) (i := (w11_3).toNat) hpo
              refine h_isub C dX9_step_77 rfl ?_
              refine hp_anyI (fun r17 hr17 => ?_)
              obtain ⟨hr17a, hr17b⟩ := hr17
              refine h_istore (lv' := [(4, .int (hpI r17)), (0, .ref (z + 195)), (1, .int (hpI a0)), (2, .int (hpI x1)), (3, .int (hpI w11_3))]) C dX9_step_78 (by decide) rfl ?_
              refine h_aload_n C dX9_step_80 1 rfl rfl ?_
              refine h_dup C rfl dX9_step_81 ?_
              refine h_get C O9 18 kd_195 (by decide) wd_1274 dX9_step_82 (hp_fvI (by rw [kd_195]; rfl) rfl) ?_
              obtain ⟨hr18a, hr18b⟩ := hI11.b (bf_9_18 kd_195)
              generalize hg18 : τ11 195 18 = r18 at hr18a hr18b ⊢
              refine h_iload C dX9_step_85 0 rfl ?_
              refine h_if_ne (tgt := 94) C dX9_step_87 (by decide) ⟨by omega, by omega⟩ (fun h19 => ?_) (fun h19 => ?_)
              · refine h_iconst C dX9_step_94 ?_
                refine h_iadd C dX9_step_95 rfl ?_
                refine h_put C O9 18 kd_195 (by decide) rfl wd_1274 dX9_step_96 rfl rfl (hp_fvI (by rw [kd_195]; rfl) hpu_at) ?_
                obtain ⟨τ20, e20⟩ : ∃ μ : hpMem, μ = hpw τ11 195 18 (r18 + 0) := ⟨_, rfl⟩
                rw [← e20]
                have hI20 : hpInv τ20 := by rw [e20]; exact hI11.w (bf_9_18 kd_195) (by omega) (by omega)
                have hF20 : ∀ j i : Nat, (j ≠ 202 ∨ (((i : Int) < 701 * a0 ∨ 701 * a0 + 700 < (i : Int)) ∧ (i : Int) < 14020)) → (j ≠ 195 ∨ (i ≠ 17 ∧ i ≠ 18)) → τ20 j i = σ j i := fun j i h_0 h_1 => by rw [e20]; exact (hpw_fr (by omega)).trans (hF11 j i h_0 h_1)
                have hg21 : τ20 195 18 = r18 + 0 := by rw [e20]; exact hpw_eq
                refine h_aload_n C dX9_step_99 1 rfl rfl ?_
                refine h_iload_n C dX9_step_100 2 rfl rfl ?_
                refine h_iload C dX9_step_101 0 rfl ?_
                have hsl := hpSP_len (σ 195 16).toNat L (w11_3).toNat
                have hsm := hM11_1.1
                have hs9 : τ20 202 (701 * a0).toNat = τ11 202 (701 * a0).toNat := by rw [e20]; exact hpw_fr (Or.inl (by decide))
                refine h_callV (As := [.int (hpI a0), .int (hpI r17)]) (rest := []) C Z yyX9_lay wd_1532 (tgX9_lay l D cy z _ a0 ⟨by omega, by omega⟩ r17 ⟨by omega, by omega⟩ hI20 (by omega) (by omega)) kd_195 rfl rfl ⟨rfl, rfl, Nat.le_of_ble_eq_true rfl, Nat.le_of_ble_eq_true rfl⟩ ⟨Nat.le_of_ble_eq_true rfl, Nat.le_of_ble_eq_true rfl⟩ (Nat.le_of_ble_eq_true rfl) dX9_step_103 (fun r22 τ22 hp22 => ?_)
                obtain ⟨rfl, hI22, hG22, hq22_0⟩ := hp22
                have hF22 : ∀ j i : Nat, (j ≠ 202 ∨ (((i : Int) < 701 * a0 ∨ 701 * a0 + 700 < (i : Int)) ∧ (i : Int) < 14020)) → (j ≠ 195 ∨ (i ≠ 17 ∧ i ≠ 18)) → τ22 j i = σ j i := fun j i h_0 h_1 => (hG22 j i (by omega)).trans (hF20 j i h_0 h_1)
                show hpV _ _ _ _ _ _ _ _ _ _ _ _ _ _ _ _ _ _ _ _ _ []
                refine h_iinc (lv' := [(3, .int (hpI (w11_3 + 1))), (4, .int (hpI r17)), (0, .ref (z + 195)), (1, .int (hpI a0)), (2, .int (hpI x1))]) C dX9_step_106 4 rfl rfl (by decide) rfl ?_
                refine h_goto (tgt := 58) C dX9_step_109 (by decide) ?_
                exact hp_sub [2, 3, 4, 0] rfl (ih11 _ (w11_3 + 1) (by omega) (by omega) (by omega) hI22 hF22 (hM11_0.fr hLl (by decide) (fun i h1 h2 => (hG22 202 i (by omega)).trans (by rw [e20]; exact hpw_fr (Or.inl (by decide))))) (by rw [show (w11_3 + 1).toNat = (w11_3).toNat + 1 by omega]; have q := hq22_0 _ (hM11_1.same (fun i => by rw [e20]; exact hpw_fr (Or.inl (by decide)))); rw [show (r17).toNat = L.getD (w11_3).toNat 0 - hpOn (σ 195 16).toNat (w11_3).toNat (L.getD (w11_3).toNat 0) by omega] at q; exact q) ((hG22 195 17 (by omega)).trans (by rw [e20, hpw_fr (Or.inr (by decide))]; exact hM11_2)) (by omega))
              · refine h_iconst C dX9_step_90 ?_
                refine h_goto (tgt := 95) C dX9_step_91 (by decide) ?_
                refine h_iadd C dX9_step_95 rfl ?_
                refine hp_anyI (fun r23 hr23 => ?_)
                obtain ⟨hr23a, hr23b⟩ := hr23
                refine h_put C O9 18 kd_195 (by decide) rfl wd_1274 dX9_step_96 rfl rfl (hp_fvI (by rw [kd_195]; rfl) hpu_at) ?_
                obtain ⟨τ24, e24⟩ : ∃ μ : hpMem, μ = hpw τ11 195 18 r23 := ⟨_, rfl⟩
                rw [← e24]
                have hI24 : hpInv τ24 := by rw [e24]; exact hI11.w (bf_9_18 kd_195) (by omega) (by omega)
                have hF24 : ∀ j i : Nat, (j ≠ 202 ∨ (((i : Int) < 701 * a0 ∨ 701 * a0 + 700 < (i : Int)) ∧ (i : Int) < 14020)) → (j ≠ 195 ∨ (i ≠ 17 ∧ i ≠ 18)) → τ24 j i = σ j i := fun j i h_0 h_1 => by rw [e24]; exact (hpw_fr (by omega)).trans (hF11 j i h_0 h_1)
                have hg25 : τ24 195 18 = r23 := by rw [e24]; exact hpw_eq
                refine h_aload_n C dX9_step_99 1 rfl rfl ?_
                refine h_iload_n C dX9_step_100 2 rfl rfl ?_
                refine h_iload C dX9_step_101 0 rfl ?_
                have hsl := hpSP_len (σ 195 16).toNat L (w11_3).toNat
                have hsm := hM11_1.1
                have hs9 : τ24 202 (701 * a0).toNat = τ11 202 (701 * a0).toNat := by rw [e24]; exact hpw_fr (Or.inl (by decide))
                refine h_callV (As := [.int (hpI a0), .int (hpI r17)]) (rest := []) C Z yyX9_lay wd_1532 (tgX9_lay l D cy z _ a0 ⟨by omega, by omega⟩ r17 ⟨by omega, by omega⟩ hI24 (by omega) (by omega)) kd_195 rfl rfl ⟨rfl, rfl, Nat.le_of_ble_eq_true rfl, Nat.le_of_ble_eq_true rfl⟩ ⟨Nat.le_of_ble_eq_true rfl, Nat.le_of_ble_eq_true rfl⟩ (Nat.le_of_ble_eq_true rfl) dX9_step_103 (fun r26 τ26 hp26 => ?_)
                obtain ⟨rfl, hI26, hG26, hq26_0⟩ := hp26
                have hF26 : ∀ j i : Nat, (j ≠ 202 ∨ (((i : Int) < 701 * a0 ∨ 701 * a0 + 700 < (i : Int)) ∧ (i : Int) < 14020)) → (j ≠ 195 ∨ (i ≠ 17 ∧ i ≠ 18)) → τ26 j i = σ j i := fun j i h_0 h_1 => (hG26 j i (by omega)).trans (hF24 j i h_0 h_1)
                show hpV _ _ _ _ _ _ _ _ _ _ _ _ _ _ _ _ _ _ _ _ _ []
                refine h_iinc (lv' := [(3, .int (hpI (w11_3 + 1))), (4, .int (hpI r17)), (0, .ref (z + 195)), (1, .int (hpI a0)), (2, .int (hpI x1))]) C dX9_step_106 4 rfl rfl (by decide) rfl ?_
                refine h_goto (tgt := 58) C dX9_step_109 (by decide) ?_
                exact hp_sub [2, 3, 4, 0] rfl (ih11 _ (w11_3 + 1) (by omega) (by omega) (by omega) hI26 hF26 (hM11_0.fr hLl (by decide) (fun i h1 h2 => (hG26 202 i (by omega)).trans (by rw [e24]; exact hpw_fr (Or.inl (by decide))))) (by rw [show (w11_3 + 1).toNat = (w11_3).toNat + 1 by omega]; have q := hq26_0 _ (hM11_1.same (fun i => by rw [e24]; exact hpw_fr (Or.inl (by decide)))); rw [show (r17).toNat = L.getD (w11_3).toNat 0 - hpOn (σ 195 16).toNat (w11_3).toNat (L.getD (w11_3).toNat 0) by omega] at q; exact q) ((hG26 195 17 (by omega)).trans (by rw [e24, hpw_fr (Or.inr (by decide))]; exact hM11_2)) (by omega))
        exact hp_sub [1, 2, 3, 0] rfl (L11 8589934592 _ 0 (by omega) (by omega) (by omega) hI10 hF10 hO2 hA0 (by rw [show L.length = (w7_3).toNat by omega]; exact hT2) (by omega))
      · refine h_aload_n C dX9_step_23 0 rfl rfl ?_
        refine h_dup C rfl dX9_step_24 ?_
        refine h_get C O9 17 kd_195 (by decide) wd_1273 dX9_step_25 (hp_fvI (by rw [kd_195]; rfl) rfl) ?_
        obtain ⟨hr27a, hr27b⟩ := hI7.b (bf_9_17 kd_195)
        generalize hg27 : τ7 195 17 = r27 at hr27a hr27b ⊢
        refine h_aload_n C dX9_step_28 0 rfl rfl ?_
        refine h_iload_n C dX9_step_29 1 rfl rfl ?_
        refine h_iload_n C dX9_step_30 3 rfl rfl ?_
        refine h_callV (As := [.int (hpI a0), .int (hpI w7_3)]) (rest := [.int (hpI r27), .ref (z + 195)]) C Z yyX9_offHeap wd_1567 (tgX9_offHeap l D cy z _ a0 ⟨by omega, by omega⟩ w7_3 ⟨by omega, by omega⟩ hI7 (by omega) (by omega)) kd_195 rfl rfl ⟨rfl, rfl, Nat.le_of_ble_eq_true rfl, Nat.le_of_ble_eq_true rfl⟩ ⟨Nat.le_of_ble_eq_true rfl, Nat.le_of_ble_eq_true rfl⟩ (Nat.le_of_ble_eq_true rfl) dX9_step_31 (fun r28 τ28 hp28 => ?_)
        obtain ⟨⟨x28, rfl, ⟨hx28a, hx28b⟩, hx28⟩, rfl⟩ := hp28
        show hpV _ _ _ _ _ _ _ _ _ _ _ _ _ _ _ _ _ _ _ _ _ (_ :: _)
        have hw16 : τ7 195 16 = σ 195 16 := hF7 195 16 (by omega) (by omega)
        have hgd : (τ7 202 (701 * a0 + 1 + w7_3).toNat) = ((L.getD (w7_3).toNat 0 : Nat) : Int) := by rw [hM7_1]; have q := hL.2 (w7_3).toNat (by omega); rw [show (((w7_3).toNat : Nat) : Int) = w7_3 by omega] at q; exact q
        have hgd2 : (τ7 202 (701 * a0 + 1 + w7_3).toNat).toNat = L.getD (w7_3).toNat 0 := by omega
        rw [hw16, hgd2] at hx28
        refine h_iadd C dX9_step_34 rfl ?_
        have hTk := hpTk_le (σ 195 16).toNat L (w7_3).toNat
        refine h_put C O9 17 kd_195 (by decide) rfl wd_1273 dX9_step_35 rfl rfl (hp_fvI (by rw [kd_195]; rfl) hpu_at) ?_
        obtain ⟨τ29, e29⟩ : ∃ μ : hpMem, μ = hpw τ7 195 17 (r27 + x28) := ⟨_, rfl⟩
        rw [← e29]
        have hI29 : hpInv τ29 := by rw [e29]; exact hI7.w (bf_9_17 kd_195) (by omega) (by omega)
        have hF29 : ∀ j i : Nat, (j ≠ 202 ∨ (((i : Int) < 701 * a0 ∨ 701 * a0 + 700 < (i : Int)) ∧ (i : Int) < 14020)) → (j ≠ 195 ∨ (i ≠ 17 ∧ i ≠ 18)) → τ29 j i = σ j i := fun j i h_0 h_1 => by rw [e29]; exact (hpw_fr (by omega)).trans (hF7 j i h_0 h_1)
        have hg30 : τ29 195 17 = r27 + x28 := by rw [e29]; exact hpw_eq
        refine h_iinc (lv' := [(3, .int (hpI (w7_3 + 1))), (0, .ref (z + 195)), (1, .int (hpI a0)), (2, .int (hpI x1))]) C dX9_step_38 3 rfl rfl (by decide) rfl ?_
        refine h_goto (tgt := 18) C dX9_step_41 (by decide) ?_
        exact hp_sub [1, 2, 3, 0] rfl (ih7 _ (w7_3 + 1) (by omega) (by omega) (by omega) hI29 hF29 (by rw [show (w7_3 + 1).toNat = (w7_3).toNat + 1 by omega]; have e1 : hpTk (σ 195 16).toNat L ((w7_3).toNat + 1) = hpTk (σ 195 16).toNat L (w7_3).toNat + hpOn (σ 195 16).toNat (w7_3).toNat (L.getD (w7_3).toNat 0) := rfl; rw [e1]; omega) (fun q => by rw [e29, hpw_fr (Or.inl (by decide))]; exact hM7_1 q) (by omega))
  exact hp_sub [2, 3, 1, 0] rfl (L7 8589934592 _ 0 (by omega) (by omega) (by omega) hI4 hF4 (by have e0 : hpTk (σ 195 16).toNat L (0 : Int).toNat = 0 := rfl; rw [e0]; omega) (fun q => by rw [e4, hpw_fr (Or.inl (by decide)), e2, hpw_fr (Or.inl (by decide))]) (by omega))
abbrev rgX9_isStair : Room := { frames := 1, cells := 0, slots := 0, locals := 22 }
abbrev pgX9_isStair (z : Nat) (σ : hpMem) (a0 : Int) : Option Value → hpMem → Prop := fun r τ => (∃ x : Int, r = some (.int (hpI x)) ∧ (0 ≤ x ∧ x ≤ 1)) ∧ σ = τ
set_option maxHeartbeats 4000000 in
set_option maxRecDepth 20000 in
theorem tgX9_isStair (l : Launch) (D : va_G) (cy : Nat → ClassId) (z : Nat) (σ : hpMem) (a0 : Int) (ha0 : hpR a0) (hI : hpInv σ) (hr0 : 0 ≤ a0 ∧ a0 ≤ 20) : hpM l D cy z yX9_isStair cX9_isStair 5 (some .boolean) rgX9_isStair [.ref (z + 195), .int (hpI a0)] σ (pgX9_isStair z σ a0) := by
  obtain ⟨ha01, ha02⟩ := ha0
  refine hp_met rfl (Nat.le_of_ble_eq_true rfl) (fun p e s m below meth c C Z hr hlk => ?_)
  refine h_aload_n C dX9_isStair_0 0 rfl rfl ?_
  refine h_iload_n C dX9_isStair_1 1 rfl rfl ?_
  refine h_callV (As := [.int (hpI a0)]) (rest := []) C Z yyX9_manyOf wd_1536 (tgX9_manyOf l D cy z _ a0 ⟨by omega, by omega⟩ hI (by omega)) kd_195 rfl rfl ⟨rfl, rfl, Nat.le_of_ble_eq_true rfl, Nat.le_of_ble_eq_true rfl⟩ ⟨Nat.le_of_ble_eq_true rfl, Nat.le_of_ble_eq_true rfl⟩ (Nat.le_of_ble_eq_true rfl) dX9_isStair_2 (fun r1 τ1 hp1 => ?_)
  obtain ⟨⟨x1, rfl, ⟨hx1a, hx1b⟩, hx1⟩, rfl⟩ := hp1
  show hpV _ _ _ _ _ _ _ _ _ _ _ _ _ _ _ _ _ _ _ _ _ (_ :: _)
  refine h_istore_n (lv' := [(2, .int (hpI x1)), (0, .ref (z + 195)), (1, .int (hpI a0))]) C dX9_isStair_5 rfl (by decide) rfl ?_
  refine h_iload_n C dX9_isStair_6 0 rfl rfl ?_
  refine h_if_le (tgt := 14) C dX9_isStair_7 (by decide) ⟨by omega, by omega⟩ (fun h2 => ?_) (fun h2 => ?_)
  · refine h_iconst C dX9_isStair_14 ?_
    refine h_istore_n (lv' := [(3, .int (hpI 0)), (2, .int (hpI x1)), (0, .ref (z + 195)), (1, .int (hpI a0))]) C dX9_isStair_15 rfl (by decide) rfl ?_
    refine h_iconst C dX9_isStair_16 ?_
    refine h_istore (lv' := [(4, .int (hpI 0)), (3, .int (hpI 0)), (2, .int (hpI x1)), (0, .ref (z + 195)), (1, .int (hpI a0))]) C dX9_isStair_17 (by decide) rfl ?_
    have L3 : ∀ (n3 : Nat) (w3_3 : Int) (w3_4 : Int), -2147483648 ≤ w3_3 → w3_3 ≤ 2147483647 → 0 ≤ w3_4 → w3_4 ≤ 2147483647 → (4294967296 - w3_4) < (n3 : Int) → hpF p l e rgX9_isStair s m [.ref (z + 195), .int (hpI a0)] below meth c 5 D cy z (pgX9_isStair z σ a0) σ 19 [(0, .ref (z + 195)), (1, .int (hpI a0)), (2, .int (hpI x1)), (3, .int (hpI w3_3)), (4, .int (hpI w3_4))] [] := by
      intro n3
      induction n3 with
      | zero => intro w3_3 w3_4 hv3_0 hv3_1 hv3_2 hv3_3 hm3; exfalso; omega
      | succ n3 ih3 =>
        intro w3_3 w3_4 hv3_0 hv3_1 hv3_2 hv3_3 hm3
        refine h_iload C dX9_isStair_19 4 rfl ?_
        refine h_iload_n C dX9_isStair_21 2 rfl rfl ?_
        refine h_icmp_ge (tgt := 55) C dX9_isStair_22 (by decide) ⟨by omega, by omega⟩ ⟨by omega, by omega⟩ (fun h4 => ?_) (fun h4 => ?_)
        · refine h_iload_n C dX9_isStair_55 3 rfl rfl ?_
          refine h_zreturn C (by omega) hr hlk dX9_isStair_56 ?_
          exact ⟨⟨_, rfl, ⟨by omega, by omega⟩⟩, rfl⟩
        · exfalso; omega
    exact hp_sub [3, 4, 2, 1, 0] rfl (L3 8589934592 0 0 (by omega) (by omega) (by omega) (by omega) (by omega))
  · refine h_iconst C dX9_isStair_10 ?_
    refine h_goto (tgt := 15) C dX9_isStair_11 (by decide) ?_
    refine h_istore_n (lv' := [(3, .int (hpI 1)), (2, .int (hpI x1)), (0, .ref (z + 195)), (1, .int (hpI a0))]) C dX9_isStair_15 rfl (by decide) rfl ?_
    refine h_iconst C dX9_isStair_16 ?_
    refine h_istore (lv' := [(4, .int (hpI 0)), (3, .int (hpI 1)), (2, .int (hpI x1)), (0, .ref (z + 195)), (1, .int (hpI a0))]) C dX9_isStair_17 (by decide) rfl ?_
    have L5 : ∀ (n5 : Nat) (w5_3 : Int) (w5_4 : Int), -2147483648 ≤ w5_3 → w5_3 ≤ 2147483647 → 0 ≤ w5_4 → w5_4 ≤ 2147483647 → (4294967296 - w5_4) < (n5 : Int) → hpF p l e rgX9_isStair s m [.ref (z + 195), .int (hpI a0)] below meth c 5 D cy z (pgX9_isStair z σ a0) σ 19 [(0, .ref (z + 195)), (1, .int (hpI a0)), (2, .int (hpI x1)), (3, .int (hpI w5_3)), (4, .int (hpI w5_4))] [] := by
      intro n5
      induction n5 with
      | zero => intro w5_3 w5_4 hv5_0 hv5_1 hv5_2 hv5_3 hm5; exfalso; omega
      | succ n5 ih5 =>
        intro w5_3 w5_4 hv5_0 hv5_1 hv5_2 hv5_3 hm5
        refine h_iload C dX9_isStair_19 4 rfl ?_
        refine h_iload_n C dX9_isStair_21 2 rfl rfl ?_
        refine h_icmp_ge (tgt := 55) C dX9_isStair_22 (by decide) ⟨by omega, by omega⟩ ⟨by omega, by omega⟩ (fun h6 => ?_) (fun h6 => ?_)
        · refine h_iload_n C dX9_isStair_55 3 rfl rfl ?_
          refine h_zreturn C (by omega) hr hlk dX9_isStair_56 ?_
          exact ⟨⟨_, rfl, ⟨by omega, by omega⟩⟩, rfl⟩
        · refine h_iload_n C dX9_isStair_25 3 rfl rfl ?_
          refine h_if_eq (tgt := 55) C dX9_isStair_26 (by decide) ⟨by omega, by omega⟩ (fun h7 => ?_) (fun h7 => ?_)
          · refine h_iload_n C dX9_isStair_55 3 rfl rfl ?_
            refine h_zreturn C (by omega) hr hlk dX9_isStair_56 ?_
            exact ⟨⟨_, rfl, ⟨by omega, by omega⟩⟩, rfl⟩
          · refine h_aload_n C dX9_isStair_29 0 rfl rfl ?_
            refine h_iload_n C dX9_isStair_30 1 rfl rfl ?_
            refine h_iload C dX9_isStair_31 4 rfl ?_
            refine h_callV (As := [.int (hpI a0), .int (hpI w5_4)]) (rest := []) C Z yyX9_heightOf wd_1540 (tgX9_heightOf l D cy z _ a0 ⟨by omega, by omega⟩ w5_4 ⟨by omega, by omega⟩ hI (by omega) (by omega)) kd_195 rfl rfl ⟨rfl, rfl, Nat.le_of_ble_eq_true rfl, Nat.le_of_ble_eq_true rfl⟩ ⟨Nat.le_of_ble_eq_true rfl, Nat.le_of_ble_eq_true rfl⟩ (Nat.le_of_ble_eq_true rfl) dX9_isStair_33 (fun r8 τ8 hp8 => ?_)
            obtain ⟨⟨x8, rfl, ⟨hx8a, hx8b⟩, hx8⟩, rfl⟩ := hp8
            show hpV _ _ _ _ _ _ _ _ _ _ _ _ _ _ _ _ _ _ _ _ _ (_ :: _)
            refine h_iload_n C dX9_isStair_36 2 rfl rfl ?_
            refine h_iload C dX9_isStair_37 4 rfl ?_
            refine h_isub C dX9_isStair_39 rfl ?_
            refine h_icmp_ne (tgt := 47) C dX9_isStair_40 (by decide) ⟨by omega, by omega⟩ ⟨by omega, by omega⟩ (fun h9 => ?_) (fun h9 => ?_)
            · refine h_iconst C dX9_isStair_47 ?_
              refine h_istore_n (lv' := [(3, .int (hpI 0)), (0, .ref (z + 195)), (1, .int (hpI a0)), (2, .int (hpI x1)), (4, .int (hpI w5_4))]) C dX9_isStair_48 rfl (by decide) rfl ?_
              refine h_iinc (lv' := [(4, .int (hpI (w5_4 + 1))), (3, .int (hpI 0)), (0, .ref (z + 195)), (1, .int (hpI a0)), (2, .int (hpI x1))]) C dX9_isStair_49 4 rfl rfl (by decide) rfl ?_
              refine h_goto (tgt := 19) C dX9_isStair_52 (by decide) ?_
              exact hp_sub [2, 3, 4, 1, 0] rfl (ih5 0 (w5_4 + 1) (by omega) (by omega) (by omega) (by omega) (by omega))
            · refine h_iconst C dX9_isStair_43 ?_
              refine h_goto (tgt := 48) C dX9_isStair_44 (by decide) ?_
              refine h_istore_n (lv' := [(3, .int (hpI 1)), (0, .ref (z + 195)), (1, .int (hpI a0)), (2, .int (hpI x1)), (4, .int (hpI w5_4))]) C dX9_isStair_48 rfl (by decide) rfl ?_
              refine h_iinc (lv' := [(4, .int (hpI (w5_4 + 1))), (3, .int (hpI 1)), (0, .ref (z + 195)), (1, .int (hpI a0)), (2, .int (hpI x1))]) C dX9_isStair_49 4 rfl rfl (by decide) rfl ?_
              refine h_goto (tgt := 19) C dX9_isStair_52 (by decide) ?_
              exact hp_sub [2, 3, 4, 1, 0] rfl (ih5 1 (w5_4 + 1) (by omega) (by omega) (by omega) (by omega) (by omega))
    exact hp_sub [3, 4, 2, 1, 0] rfl (L5 8589934592 1 0 (by omega) (by omega) (by omega) (by omega) (by omega))
abbrev rgX9_asItIs : Room := { frames := 0, cells := 0, slots := 0, locals := 0 }
abbrev pgX9_asItIs (z : Nat) (σ : hpMem) : Option Value → hpMem → Prop := fun r τ => r = none ∧ hpInv τ ∧ (∀ j i : Nat, j ≠ 203 → j ≠ 204 → (j ≠ 195 ∨ (i ≠ 16 ∧ i ≠ 21 ∧ i ≠ 22 ∧ i ≠ 23)) → τ j i = σ j i)
set_option maxHeartbeats 4000000 in
set_option maxRecDepth 20000 in
theorem tgX9_asItIs (l : Launch) (D : va_G) (cy : Nat → ClassId) (z : Nat) (σ : hpMem) (hI : hpInv σ) : hpM l D cy z yX9_asItIs cX9_asItIs 2 none rgX9_asItIs [.ref (z + 195)] σ (pgX9_asItIs z σ) := by
  refine hp_met rfl (Nat.le_of_ble_eq_true rfl) (fun p e s m below meth c C Z hr hlk => ?_)
  have hF0 : ∀ j i : Nat, j ≠ 203 → j ≠ 204 → (j ≠ 195 ∨ (i ≠ 16 ∧ i ≠ 21 ∧ i ≠ 22 ∧ i ≠ 23)) → σ j i = σ j i := fun j i _ _ _ => rfl
  refine h_aload_n C dX9_asItIs_0 0 rfl rfl ?_
  refine h_aload_n C dX9_asItIs_1 0 rfl rfl ?_
  refine h_get C O9 1 kd_195 (by decide) wd_1257 dX9_asItIs_2 fr_195_1 ?_
  refine h_iconst C dX9_asItIs_5 ?_
  refine h_iaload C dX9_asItIs_6 kd_196 1 rfl (by rw [ln_196]; decide) rfl ?_
  obtain ⟨hr1a, hr1b⟩ := hI.b ((bw_196 1).trans (show hpwb 1 = (0, 3) by decide))
  generalize hg1 : σ 196 1 = r1 at hr1a hr1b ⊢
  refine h_put C O9 16 kd_195 (by decide) rfl wd_1272 dX9_asItIs_7 rfl rfl (hp_fvI (by rw [kd_195]; rfl) hpu_at) ?_
  obtain ⟨τ2, e2⟩ : ∃ μ : hpMem, μ = hpw σ 195 16 r1 := ⟨_, rfl⟩
  rw [← e2]
  have hI2 : hpInv τ2 := by rw [e2]; exact hI.w (bf_9_16 kd_195) (by omega) (by omega)
  have hF2 : ∀ j i : Nat, j ≠ 203 → j ≠ 204 → (j ≠ 195 ∨ (i ≠ 16 ∧ i ≠ 21 ∧ i ≠ 22 ∧ i ≠ 23)) → τ2 j i = σ j i := fun j i h_0 h_1 h_2 => by rw [e2]; exact (hpw_fr (by omega)).trans (hF0 j i h_0 h_1 h_2)
  have hg3 : τ2 196 1 = r1 := by rw [e2]; exact (hpw_fr (Or.inl (by omega))).trans hg1
  have hg4 : τ2 195 16 = r1 := by rw [e2]; exact hpw_eq
  refine h_aload_n C dX9_asItIs_10 0 rfl rfl ?_
  refine h_iconst C dX9_asItIs_11 ?_
  refine h_put C O9 21 kd_195 (by decide) rfl wd_1277 dX9_asItIs_12 rfl rfl (hp_fvI (by rw [kd_195]; rfl) hpu_at) ?_
  obtain ⟨τ5, e5⟩ : ∃ μ : hpMem, μ = hpw τ2 195 21 0 := ⟨_, rfl⟩
  rw [← e5]
  have hI5 : hpInv τ5 := by rw [e5]; exact hI2.w (bf_9_21 kd_195) (by omega) (by omega)
  have hF5 : ∀ j i : Nat, j ≠ 203 → j ≠ 204 → (j ≠ 195 ∨ (i ≠ 16 ∧ i ≠ 21 ∧ i ≠ 22 ∧ i ≠ 23)) → τ5 j i = σ j i := fun j i h_0 h_1 h_2 => by rw [e5]; exact (hpw_fr (by omega)).trans (hF2 j i h_0 h_1 h_2)
  have hg6 : τ5 196 1 = r1 := by rw [e5]; exact (hpw_fr (Or.inl (by omega))).trans hg3
  have hg7 : τ5 195 16 = r1 := by rw [e5]; exact (hpw_fr (Or.inr (by decide))).trans hg4
  have hg8 : τ5 195 21 = 0 := by rw [e5]; exact hpw_eq
  refine h_aload_n C dX9_asItIs_15 0 rfl rfl ?_
  refine h_bipush C dX9_asItIs_16 (by decide) ?_
  refine h_put C O9 22 kd_195 (by decide) rfl wd_1278 dX9_asItIs_18 rfl rfl (hp_fvI (by rw [kd_195]; rfl) hpu_at) ?_
  obtain ⟨τ9, e9⟩ : ∃ μ : hpMem, μ = hpw τ5 195 22 63 := ⟨_, rfl⟩
  rw [← e9]
  have hI9 : hpInv τ9 := by rw [e9]; exact hI5.w (bf_9_22 kd_195) (by omega) (by omega)
  have hF9 : ∀ j i : Nat, j ≠ 203 → j ≠ 204 → (j ≠ 195 ∨ (i ≠ 16 ∧ i ≠ 21 ∧ i ≠ 22 ∧ i ≠ 23)) → τ9 j i = σ j i := fun j i h_0 h_1 h_2 => by rw [e9]; exact (hpw_fr (by omega)).trans (hF5 j i h_0 h_1 h_2)
  have hg10 : τ9 196 1 = r1 := by rw [e9]; exact (hpw_fr (Or.inl (by omega))).trans hg6
  have hg11 : τ9 195 16 = r1 := by rw [e9]; exact (hpw_fr (Or.inr (by decide))).trans hg7
  have hg12 : τ9 195 21 = 0 := by rw [e9]; exact (hpw_fr (Or.inr (by decide))).trans hg8
  have hg13 : τ9 195 22 = 63 := by rw [e9]; exact hpw_eq
  refine h_aload_n C dX9_asItIs_21 0 rfl rfl ?_
  refine h_iconst C dX9_asItIs_22 ?_
  refine h_put C O9 23 kd_195 (by decide) rfl wd_1279 dX9_asItIs_23 rfl rfl (hp_fvI (by rw [kd_195]; rfl) hpu_at) ?_
  obtain ⟨τ14, e14⟩ : ∃ μ : hpMem, μ = hpw τ9 195 23 (-1) := ⟨_, rfl⟩
  rw [← e14]
  have hI14 : hpInv τ14 := by rw [e14]; exact hI9.w (bf_9_23 kd_195) (by omega) (by omega)
  have hF14 : ∀ j i : Nat, j ≠ 203 → j ≠ 204 → (j ≠ 195 ∨ (i ≠ 16 ∧ i ≠ 21 ∧ i ≠ 22 ∧ i ≠ 23)) → τ14 j i = σ j i := fun j i h_0 h_1 h_2 => by rw [e14]; exact (hpw_fr (by omega)).trans (hF9 j i h_0 h_1 h_2)
  have hg15 : τ14 196 1 = r1 := by rw [e14]; exact (hpw_fr (Or.inl (by omega))).trans hg10
  have hg16 : τ14 195 16 = r1 := by rw [e14]; exact (hpw_fr (Or.inr (by decide))).trans hg11
  have hg17 : τ14 195 21 = 0 := by rw [e14]; exact (hpw_fr (Or.inr (by decide))).trans hg12
  have hg18 : τ14 195 22 = 63 := by rw [e14]; exact (hpw_fr (Or.inr (by decide))).trans hg13
  have hg19 : τ14 195 23 = (-1) := by rw [e14]; exact hpw_eq
  refine h_iconst C dX9_asItIs_26 ?_
  refine h_istore_n (lv' := [(1, .int (hpI 0)), (0, .ref (z + 195))]) C dX9_asItIs_27 rfl (by decide) rfl ?_
  have L20 : ∀ (n20 : Nat) (τ20 : hpMem) (w20_1 : Int), 0 ≤ w20_1 → w20_1 ≤ 2147483647 → hpInv τ20 → (∀ j i : Nat, j ≠ 203 → j ≠ 204 → (j ≠ 195 ∨ (i ≠ 16 ∧ i ≠ 21 ∧ i ≠ 22 ∧ i ≠ 23)) → τ20 j i = σ j i) → (4294967296 - w20_1) < (n20 : Int) → hpF p l e rgX9_asItIs s m [.ref (z + 195)] below meth c 2 D cy z (pgX9_asItIs z σ) τ20 28 [(0, .ref (z + 195)), (1, .int (hpI w20_1))] [] := by
    intro n20
    induction n20 with
    | zero => intro τ20 w20_1 hv20_0 hv20_1 hI20 hF20 hm20; exfalso; omega
    | succ n20 ih20 =>
      intro τ20 w20_1 hv20_0 hv20_1 hI20 hF20 hm20
      refine h_iload_n C dX9_asItIs_28 1 rfl rfl ?_
      refine h_bipush C dX9_asItIs_29 (by decide) ?_
      refine h_icmp_ge (tgt := 55) C dX9_asItIs_31 (by decide) ⟨by omega, by omega⟩ ⟨by decide, by decide⟩ (fun h21 => ?_) (fun h21 => ?_)
      · refine h_iconst C dX9_asItIs_55 ?_
        refine h_istore_n (lv' := [(1, .int (hpI 0)), (0, .ref (z + 195))]) C dX9_asItIs_56 rfl (by decide) rfl ?_
        have L22 : ∀ (n22 : Nat) (τ22 : hpMem) (w22_1 : Int), 0 ≤ w22_1 → w22_1 ≤ 2147483647 → hpInv τ22 → (∀ j i : Nat, j ≠ 203 → j ≠ 204 → (j ≠ 195 ∨ (i ≠ 16 ∧ i ≠ 21 ∧ i ≠ 22 ∧ i ≠ 23)) → τ22 j i = σ j i) → (4294967296 - w22_1) < (n22 : Int) → hpF p l e rgX9_asItIs s m [.ref (z + 195)] below meth c 2 D cy z (pgX9_asItIs z σ) τ22 57 [(0, .ref (z + 195)), (1, .int (hpI w22_1))] [] := by
          intro n22
          induction n22 with
          | zero => intro τ22 w22_1 hv22_0 hv22_1 hI22 hF22 hm22; exfalso; omega
          | succ n22 ih22 =>
            intro τ22 w22_1 hv22_0 hv22_1 hI22 hF22 hm22
            refine h_iload_n C dX9_asItIs_57 1 rfl rfl ?_
            refine h_bipush C dX9_asItIs_58 (by decide) ?_
            refine h_icmp_ge (tgt := 88) C dX9_asItIs_60 (by decide) ⟨by omega, by omega⟩ ⟨by decide, by decide⟩ (fun h23 => ?_) (fun h23 => ?_)
            · refine h_return C hr hlk dX9_asItIs_88 ?_
              exact ⟨rfl, hI22, hF22⟩
            · refine h_aload_n C dX9_asItIs_63 0 rfl rfl ?_
              refine h_get C O9 20 kd_195 (by decide) wd_1276 dX9_asItIs_64 fr_195_20 ?_
              refine h_iload_n C dX9_asItIs_67 1 rfl rfl ?_
              refine h_aload_n C dX9_asItIs_68 0 rfl rfl ?_
              refine h_get C O9 1 kd_195 (by decide) wd_1257 dX9_asItIs_69 fr_195_1 ?_
              refine h_bipush C dX9_asItIs_72 (by decide) ?_
              refine h_iconst C dX9_asItIs_74 ?_
              refine h_iload_n C dX9_asItIs_75 1 rfl rfl ?_
              refine h_imul C dX9_asItIs_76 rfl ?_
              refine h_iadd C dX9_asItIs_77 rfl ?_
              refine h_iconst C dX9_asItIs_78 ?_
              refine h_iadd C dX9_asItIs_79 rfl ?_
              refine h_iaload C dX9_asItIs_80 kd_196 ((15 + (2 * w22_1)) + 1).toNat (Int.toNat_of_nonneg (by omega)) (by rw [ln_196]; omega) rfl ?_
              obtain ⟨hr24a, hr24b⟩ := hpInv.r196 hI22 (((15 + (2 * w22_1)) + 1).toNat) 16 26 (0) 20 (by omega) (by omega) (by decide)
              generalize hg24 : τ22 196 (((15 + (2 * w22_1)) + 1).toNat) = r24 at hr24a hr24b ⊢
              refine h_iastore C dX9_asItIs_81 kd_204 (w22_1).toNat (Int.toNat_of_nonneg (by omega)) (by rw [ln_204]; omega) ?_
              obtain ⟨τ25, e25⟩ : ∃ μ : hpMem, μ = hpw τ22 204 ((w22_1).toNat) r24 := ⟨_, rfl⟩
              rw [← e25]
              have hI25 : hpInv τ25 := by rw [e25]; exact hI22.w (bo_204 _) (by omega) (by omega)
              have hF25 : ∀ j i : Nat, j ≠ 203 → j ≠ 204 → (j ≠ 195 ∨ (i ≠ 16 ∧ i ≠ 21 ∧ i ≠ 22 ∧ i ≠ 23)) → τ25 j i = σ j i := fun j i h_0 h_1 h_2 => by rw [e25]; exact (hpw_fr (by omega)).trans (hF22 j i h_0 h_1 h_2)
              have hg26 : τ25 196 (((15 + (2 * w22_1)) + 1).toNat) = r24 := by rw [e25]; exact (hpw_fr (Or.inl (by omega))).trans hg24
              refine h_iinc (lv' := [(1, .int (hpI (w22_1 + 1))), (0, .ref (z + 195))]) C dX9_asItIs_82 1 rfl rfl (by decide) rfl ?_
              refine h_goto (tgt := 57) C dX9_asItIs_85 (by decide) ?_
              exact hp_sub [1, 0] rfl (ih22 _ (w22_1 + 1) (by omega) (by omega) hI25 hF25 (by omega))
        exact hp_sub [1, 0] rfl (L22 8589934592 _ 0 (by omega) (by omega) hI20 hF20 (by omega))
      · refine h_aload_n C dX9_asItIs_34 0 rfl rfl ?_
        refine h_get C O9 19 kd_195 (by decide) wd_1275 dX9_asItIs_35 fr_195_19 ?_
        refine h_iload_n C dX9_asItIs_38 1 rfl rfl ?_
        refine h_aload_n C dX9_asItIs_39 0 rfl rfl ?_
        refine h_get C O9 1 kd_195 (by decide) wd_1257 dX9_asItIs_40 fr_195_1 ?_
        refine h_bipush C dX9_asItIs_43 (by decide) ?_
        refine h_iload_n C dX9_asItIs_45 1 rfl rfl ?_
        refine h_iadd C dX9_asItIs_46 rfl ?_
        refine h_iaload C dX9_asItIs_47 kd_196 (7 + w20_1).toNat (Int.toNat_of_nonneg (by omega)) (by rw [ln_196]; omega) rfl ?_
        obtain ⟨hr27a, hr27b⟩ := hpInv.r196 hI20 ((7 + w20_1).toNat) 7 14 (0) 20 (by omega) (by omega) (by decide)
        generalize hg27 : τ20 196 ((7 + w20_1).toNat) = r27 at hr27a hr27b ⊢
        refine h_iastore C dX9_asItIs_48 kd_203 (w20_1).toNat (Int.toNat_of_nonneg (by omega)) (by rw [ln_203]; omega) ?_
        obtain ⟨τ28, e28⟩ : ∃ μ : hpMem, μ = hpw τ20 203 ((w20_1).toNat) r27 := ⟨_, rfl⟩
        rw [← e28]
        have hI28 : hpInv τ28 := by rw [e28]; exact hI20.w (bo_203 _) (by omega) (by omega)
        have hF28 : ∀ j i : Nat, j ≠ 203 → j ≠ 204 → (j ≠ 195 ∨ (i ≠ 16 ∧ i ≠ 21 ∧ i ≠ 22 ∧ i ≠ 23)) → τ28 j i = σ j i := fun j i h_0 h_1 h_2 => by rw [e28]; exact (hpw_fr (by omega)).trans (hF20 j i h_0 h_1 h_2)
        have hg29 : τ28 196 ((7 + w20_1).toNat) = r27 := by rw [e28]; exact (hpw_fr (Or.inl (by omega))).trans hg27
        refine h_iinc (lv' := [(1, .int (hpI (w20_1 + 1))), (0, .ref (z + 195))]) C dX9_asItIs_49 1 rfl rfl (by decide) rfl ?_
        refine h_goto (tgt := 28) C dX9_asItIs_52 (by decide) ?_
        exact hp_sub [1, 0] rfl (ih20 _ (w20_1 + 1) (by omega) (by omega) hI28 hF28 (by omega))
  exact hp_sub [1, 0] rfl (L20 8589934592 _ 0 (by omega) (by omega) hI14 hF14 (by omega))
abbrev rgX9_beginDay : Room := { frames := 2, cells := 0, slots := 0, locals := 45 }
abbrev pgX9_beginDay (z : Nat) (σ : hpMem) (a0 : Int) (B : Int) : Option Value → hpMem → Prop := fun r τ => r = none ∧ hpInv τ ∧ (∀ j i : Nat, (j ≠ 202 ∨ (i : Int) < 701 * 17 ∨ 701 * 17 + 700 < (i : Int)) → τ j i = σ j i) ∧ (hpLe (τ 202) 17 (B + 20 * hpC1 (σ 204) a0 (σ 196 4).toNat + 20 * hpC1 (fun q => σ 196 (27 + q) % 100) a0 (σ 196 5).toNat + hpE1 (σ 195 23) a0))
set_option maxHeartbeats 4000000 in
set_option maxRecDepth 20000 in
theorem tgX9_beginDay (l : Launch) (D : va_G) (cy : Nat → ClassId) (z : Nat) (σ : hpMem) (a0 : Int) (ha0 : hpR a0) (hI : hpInv σ) (B : Int) (hd0 : 0 ≤ a0 ∧ a0 ≤ 16) (hB : hpLe (σ 202) 17 B) (hW : B + 20 * hpC1 (σ 204) a0 (σ 196 4).toNat + 20 * hpC1 (fun q => σ 196 (27 + q) % 100) a0 (σ 196 5).toNat + hpE1 (σ 195 23) a0 ≤ 700) : hpM l D cy z yX9_beginDay cX9_beginDay 3 none rgX9_beginDay [.ref (z + 195), .int (hpI a0)] σ (pgX9_beginDay z σ a0 B) := by
  obtain ⟨ha01, ha02⟩ := ha0
  refine hp_met rfl (Nat.le_of_ble_eq_true rfl) (fun p e s m below meth c C Z hr hlk => ?_)
  have hF0 : ∀ j i : Nat, (j ≠ 202 ∨ (i : Int) < 701 * 17 ∨ 701 * 17 + 700 < (i : Int)) → σ j i = σ j i := fun j i _ => rfl
  have n1 := hpC1_0 (σ 204) a0 (σ 196 4).toNat
  have n2 := hpC1_0 (fun q => σ 196 (27 + q) % 100) a0 (σ 196 5).toNat
  have n3 := hpE1_b (σ 195 23) a0
  have b4 := hI.b ((bw_196 4).trans (show hpwb 4 = (0, 6) by decide))
  have b5 := hI.b ((bw_196 5).trans (show hpwb 5 = (0, 20) by decide))
  refine h_iconst C dX9_beginDay_0 ?_
  refine h_istore_n (lv' := [(2, .int (hpI 0)), (0, .ref (z + 195)), (1, .int (hpI a0))]) C dX9_beginDay_1 rfl (by decide) rfl ?_
  have L1 : ∀ (n1 : Nat) (τ1 : hpMem) (w1_2 : Int), 0 ≤ w1_2 → w1_2 ≤ 6 → w1_2 ≤ σ 196 4 → hpInv τ1 → (∀ j i : Nat, (j ≠ 202 ∨ (i : Int) < 701 * 17 ∨ 701 * 17 + 700 < (i : Int)) → τ1 j i = σ j i) → (hpLe (τ1 202) 17 (B + 20 * hpC1 (σ 204) a0 w1_2.toNat)) → (4294967296 - w1_2) < (n1 : Int) → hpF p l e rgX9_beginDay s m [.ref (z + 195), .int (hpI a0)] below meth c 3 D cy z (pgX9_beginDay z σ a0 B) τ1 2 [(0, .ref (z + 195)), (1, .int (hpI a0)), (2, .int (hpI w1_2))] [] := by
    intro n1
    induction n1 with
    | zero => intro τ1 w1_2 hv1_0 hv1_1 hv1_2 hI1 hF1 hM1_0 hm1; exfalso; omega
    | succ n1 ih1 =>
      intro τ1 w1_2 hv1_0 hv1_1 hv1_2 hI1 hF1 hM1_0 hm1
      refine h_iload_n C dX9_beginDay_2 2 rfl rfl ?_
      refine h_aload_n C dX9_beginDay_3 0 rfl rfl ?_
      refine h_callV (As := []) (rest := [.int (hpI w1_2)]) C Z yyX9_cartMany wd_1504 (tgX9_cartMany l D cy z _ hI1) kd_195 rfl rfl ⟨rfl, rfl, Nat.le_of_ble_eq_true rfl, Nat.le_of_ble_eq_true rfl⟩ ⟨Nat.le_of_ble_eq_true rfl, Nat.le_of_ble_eq_true rfl⟩ (Nat.le_of_ble_eq_true rfl) dX9_beginDay_4 (fun r2 τ2 hp2 => ?_)
      obtain ⟨⟨x2, rfl, ⟨hx2a, hx2b⟩, hx2⟩, rfl⟩ := hp2
      show hpV _ _ _ _ _ _ _ _ _ _ _ _ _ _ _ _ _ _ _ _ _ (_ :: _)
      have hq4 := hF1 196 4 (by omega)
      refine h_icmp_ge (tgt := 55) C dX9_beginDay_7 (by decide) ⟨by omega, by omega⟩ ⟨by omega, by omega⟩ (fun h3 => ?_) (fun h3 => ?_)
      · refine h_iconst C dX9_beginDay_55 ?_
        refine h_istore_n (lv' := [(2, .int (hpI 0)), (0, .ref (z + 195)), (1, .int (hpI a0))]) C dX9_beginDay_56 rfl (by decide) rfl ?_
        have L4 : ∀ (n4 : Nat) (τ4 : hpMem) (w4_2 : Int), 0 ≤ w4_2 → w4_2 ≤ 20 → w4_2 ≤ σ 196 5 → hpInv τ4 → (∀ j i : Nat, (j ≠ 202 ∨ (i : Int) < 701 * 17 ∨ 701 * 17 + 700 < (i : Int)) → τ4 j i = σ j i) → (hpLe (τ4 202) 17 (B + 20 * hpC1 (σ 204) a0 (σ 196 4).toNat + 20 * hpC1 (fun q => σ 196 (27 + q) % 100) a0 w4_2.toNat)) → (4294967296 - w4_2) < (n4 : Int) → hpF p l e rgX9_beginDay s m [.ref (z + 195), .int (hpI a0)] below meth c 3 D cy z (pgX9_beginDay z σ a0 B) τ4 57 [(0, .ref (z + 195)), (1, .int (hpI a0)), (2, .int (hpI w4_2))] [] := by
          intro n4
          induction n4 with
          | zero => intro τ4 w4_2 hv4_0 hv4_1 hv4_2 hI4 hF4 hM4_0 hm4; exfalso; omega
          | succ n4 ih4 =>
            intro τ4 w4_2 hv4_0 hv4_1 hv4_2 hI4 hF4 hM4_0 hm4
            refine h_iload_n C dX9_beginDay_57 2 rfl rfl ?_
            refine h_aload_n C dX9_beginDay_58 0 rfl rfl ?_
            refine h_get C O9 1 kd_195 (by decide) wd_1257 dX9_beginDay_59 fr_195_1 ?_
            refine h_iconst C dX9_beginDay_62 ?_
            refine h_iaload C dX9_beginDay_63 kd_196 5 rfl (by rw [ln_196]; decide) rfl ?_
            obtain ⟨hr5a, hr5b⟩ := hI4.b ((bw_196 5).trans (show hpwb 5 = (0, 20) by decide))
            generalize hg5 : τ4 196 5 = r5 at hr5a hr5b ⊢
            have hq5 := hF4 196 5 (by omega)
            refine h_icmp_ge (tgt := 107) C dX9_beginDay_64 (by decide) ⟨by omega, by omega⟩ ⟨by omega, by omega⟩ (fun h6 => ?_) (fun h6 => ?_)
            · refine h_aload_n C dX9_beginDay_107 0 rfl rfl ?_
              refine h_get C O9 23 kd_195 (by decide) wd_1279 dX9_beginDay_108 (hp_fvI (by rw [kd_195]; rfl) rfl) ?_
              obtain ⟨hr7a, hr7b⟩ := hI4.b (bf_9_23 kd_195)
              generalize hg7 : τ4 195 23 = r7 at hr7a hr7b ⊢
              refine h_iload_n C dX9_beginDay_111 1 rfl rfl ?_
              have h23 := hF4 195 23 (by omega)
              refine h_icmp_ne (tgt := 125) C dX9_beginDay_112 (by decide) ⟨by omega, by omega⟩ ⟨by omega, by omega⟩ (fun h8 => ?_) (fun h8 => ?_)
              · refine h_iconst C dX9_beginDay_125 ?_
                refine h_istore_n (lv' := [(2, .int (hpI 0)), (0, .ref (z + 195)), (1, .int (hpI a0))]) C dX9_beginDay_126 rfl (by decide) rfl ?_
                have L9 : ∀ (n9 : Nat) (τ9 : hpMem) (w9_2 : Int), 0 ≤ w9_2 → w9_2 ≤ 20 → hpInv τ9 → (∀ j i : Nat, (j ≠ 202 ∨ (i : Int) < 701 * 17 ∨ 701 * 17 + 700 < (i : Int)) → τ9 j i = σ j i) → (hpLe (τ9 202) 17 (B + 20 * hpC1 (σ 204) a0 (σ 196 4).toNat + 20 * hpC1 (fun q => σ 196 (27 + q) % 100) a0 (σ 196 5).toNat + hpE1 (σ 195 23) a0)) → (4294967296 - w9_2) < (n9 : Int) → hpF p l e rgX9_beginDay s m [.ref (z + 195), .int (hpI a0)] below meth c 3 D cy z (pgX9_beginDay z σ a0 B) τ9 127 [(0, .ref (z + 195)), (1, .int (hpI a0)), (2, .int (hpI w9_2))] [] := by
                  intro n9
                  induction n9 with
                  | zero => intro τ9 w9_2 hv9_0 hv9_1 hI9 hF9 hM9_0 hm9; exfalso; omega
                  | succ n9 ih9 =>
                    intro τ9 w9_2 hv9_0 hv9_1 hI9 hF9 hM9_0 hm9
                    refine h_iload_n C dX9_beginDay_127 2 rfl rfl ?_
                    refine h_aload_n C dX9_beginDay_128 0 rfl rfl ?_
                    refine h_get C O9 1 kd_195 (by decide) wd_1257 dX9_beginDay_129 fr_195_1 ?_
                    refine h_iconst C dX9_beginDay_132 ?_
                    refine h_iaload C dX9_beginDay_133 kd_196 5 rfl (by rw [ln_196]; decide) rfl ?_
                    obtain ⟨hr10a, hr10b⟩ := hI9.b ((bw_196 5).trans (show hpwb 5 = (0, 20) by decide))
                    generalize hg10 : τ9 196 5 = r10 at hr10a hr10b ⊢
                    have hq6 := hF9 196 5 (by omega)
                    refine h_icmp_ge (tgt := 162) C dX9_beginDay_134 (by decide) ⟨by omega, by omega⟩ ⟨by omega, by omega⟩ (fun h11 => ?_) (fun h11 => ?_)
                    · refine h_return C hr hlk dX9_beginDay_162 ?_
                      exact ⟨rfl, hI9, hF9, hM9_0⟩
                    · refine h_aload_n C dX9_beginDay_137 0 rfl rfl ?_
                      refine h_get C O9 1 kd_195 (by decide) wd_1257 dX9_beginDay_138 fr_195_1 ?_
                      refine h_bipush C dX9_beginDay_141 (by decide) ?_
                      refine h_iload_n C dX9_beginDay_143 2 rfl rfl ?_
                      refine h_iadd C dX9_beginDay_144 rfl ?_
                      refine h_iaload C dX9_beginDay_145 kd_196 (27 + w9_2).toNat (Int.toNat_of_nonneg (by omega)) (by rw [ln_196]; omega) rfl ?_
                      obtain ⟨hr12a, hr12b⟩ := hpInv.r196 hI9 ((27 + w9_2).toNat) 27 46 (0) 2016 (by omega) (by omega) (by decide)
                      generalize hg12 : τ9 196 ((27 + w9_2).toNat) = r12 at hr12a hr12b ⊢
                      refine h_iload_n C dX9_beginDay_146 1 rfl rfl ?_
                      refine h_icmp_ne (tgt := 156) C dX9_beginDay_147 (by decide) ⟨by omega, by omega⟩ ⟨by omega, by omega⟩ (fun h13 => ?_) (fun h13 => ?_)
                      · refine h_iinc (lv' := [(2, .int (hpI (w9_2 + 1))), (0, .ref (z + 195)), (1, .int (hpI a0))]) C dX9_beginDay_156 2 rfl rfl (by decide) rfl ?_
                        refine h_goto (tgt := 127) C dX9_beginDay_159 (by decide) ?_
                        exact hp_sub [1, 2, 0] rfl (ih9 _ (w9_2 + 1) (by omega) (by omega) hI9 hF9 (by first | exact hM9_0.tail no_such | exact hM9_0) (by omega))
                      · refine h_aload_n C dX9_beginDay_150 0 rfl rfl ?_
                        refine h_bipush C dX9_beginDay_151 (by decide) ?_
                        refine h_callV (As := [.int (hpI 17)]) (rest := []) C Z yyX9_takeHighest wd_1555 (tgX9_takeHighest l D cy z _ 17 ⟨by decide, by decide⟩ hI9 (by omega)) kd_195 rfl rfl ⟨rfl, rfl, Nat.le_of_ble_eq_true rfl, Nat.le_of_ble_eq_true rfl⟩ ⟨Nat.le_of_ble_eq_true rfl, Nat.le_of_ble_eq_true rfl⟩ (Nat.le_of_ble_eq_true rfl) dX9_beginDay_153 (fun r14 τ14 hp14 => ?_)
                        obtain ⟨rfl, hI14, hG14, hq14_0⟩ := hp14
                        have hF14 : ∀ j i : Nat, (j ≠ 202 ∨ (i : Int) < 701 * 17 ∨ 701 * 17 + 700 < (i : Int)) → τ14 j i = σ j i := fun j i h_0 => (hG14 j i (by omega)).trans (hF9 j i h_0)
                        show hpV _ _ _ _ _ _ _ _ _ _ _ _ _ _ _ _ _ _ _ _ _ []
                        refine h_iinc (lv' := [(2, .int (hpI (w9_2 + 1))), (0, .ref (z + 195)), (1, .int (hpI a0))]) C dX9_beginDay_156 2 rfl rfl (by decide) rfl ?_
                        refine h_goto (tgt := 127) C dX9_beginDay_159 (by decide) ?_
                        exact hp_sub [1, 2, 0] rfl (ih9 _ (w9_2 + 1) (by omega) (by omega) hI14 hF14 (by first | exact hM9_0.tail hq14_0 | exact hM9_0) (by omega))
                exact hp_sub [1, 2, 0] rfl (L9 8589934592 _ 0 (by omega) (by omega) hI4 hF4 (by have ew : w4_2 = σ 196 5 := by omega; have hz := hM4_0; rw [ew] at hz; first | exact (hz.lay (by omega) no_such).mono (by omega) | exact hz.mono (by omega)) (by omega))
              · refine h_aload_n C dX9_beginDay_115 0 rfl rfl ?_
                refine h_bipush C dX9_beginDay_116 (by decide) ?_
                refine h_aload_n C dX9_beginDay_118 0 rfl rfl ?_
                refine h_get C O9 24 kd_195 (by decide) wd_1280 dX9_beginDay_119 (hp_fvI (by rw [kd_195]; rfl) rfl) ?_
                obtain ⟨hr15a, hr15b⟩ := hI4.b (bf_9_24 kd_195)
                generalize hg15 : τ4 195 24 = r15 at hr15a hr15b ⊢
                have hm := hM4_0.many
                have ew5 : w4_2 = σ 196 5 := by omega
                rw [ew5] at hm
                have he := hpE1_eq (a := σ 195 23) (b := a0) (by omega)
                refine h_callV (As := [.int (hpI 17), .int (hpI r15)]) (rest := []) C Z yyX9_lay wd_1532 (tgX9_lay l D cy z _ 17 ⟨by decide, by decide⟩ r15 ⟨by omega, by omega⟩ hI4 (by omega) (by omega)) kd_195 rfl rfl ⟨rfl, rfl, Nat.le_of_ble_eq_true rfl, Nat.le_of_ble_eq_true rfl⟩ ⟨Nat.le_of_ble_eq_true rfl, Nat.le_of_ble_eq_true rfl⟩ (Nat.le_of_ble_eq_true rfl) dX9_beginDay_122 (fun r16 τ16 hp16 => ?_)
                obtain ⟨rfl, hI16, hG16, hq16_0⟩ := hp16
                have hF16 : ∀ j i : Nat, (j ≠ 202 ∨ (i : Int) < 701 * 17 ∨ 701 * 17 + 700 < (i : Int)) → τ16 j i = σ j i := fun j i h_0 => (hG16 j i (by omega)).trans (hF4 j i h_0)
                show hpV _ _ _ _ _ _ _ _ _ _ _ _ _ _ _ _ _ _ _ _ _ []
                refine h_iconst C dX9_beginDay_125 ?_
                refine h_istore_n (lv' := [(2, .int (hpI 0)), (0, .ref (z + 195)), (1, .int (hpI a0))]) C dX9_beginDay_126 rfl (by decide) rfl ?_
                have L17 : ∀ (n17 : Nat) (τ17 : hpMem) (w17_2 : Int), 0 ≤ w17_2 → w17_2 ≤ 20 → hpInv τ17 → (∀ j i : Nat, (j ≠ 202 ∨ (i : Int) < 701 * 17 ∨ 701 * 17 + 700 < (i : Int)) → τ17 j i = σ j i) → (hpLe (τ17 202) 17 (B + 20 * hpC1 (σ 204) a0 (σ 196 4).toNat + 20 * hpC1 (fun q => σ 196 (27 + q) % 100) a0 (σ 196 5).toNat + hpE1 (σ 195 23) a0)) → (4294967296 - w17_2) < (n17 : Int) → hpF p l e rgX9_beginDay s m [.ref (z + 195), .int (hpI a0)] below meth c 3 D cy z (pgX9_beginDay z σ a0 B) τ17 127 [(0, .ref (z + 195)), (1, .int (hpI a0)), (2, .int (hpI w17_2))] [] := by
                  intro n17
                  induction n17 with
                  | zero => intro τ17 w17_2 hv17_0 hv17_1 hI17 hF17 hM17_0 hm17; exfalso; omega
                  | succ n17 ih17 =>
                    intro τ17 w17_2 hv17_0 hv17_1 hI17 hF17 hM17_0 hm17
                    refine h_iload_n C dX9_beginDay_127 2 rfl rfl ?_
                    refine h_aload_n C dX9_beginDay_128 0 rfl rfl ?_
                    refine h_get C O9 1 kd_195 (by decide) wd_1257 dX9_beginDay_129 fr_195_1 ?_
                    refine h_iconst C dX9_beginDay_132 ?_
                    refine h_iaload C dX9_beginDay_133 kd_196 5 rfl (by rw [ln_196]; decide) rfl ?_
                    obtain ⟨hr18a, hr18b⟩ := hI17.b ((bw_196 5).trans (show hpwb 5 = (0, 20) by decide))
                    generalize hg18 : τ17 196 5 = r18 at hr18a hr18b ⊢
                    have hq6 := hF17 196 5 (by omega)
                    refine h_icmp_ge (tgt := 162) C dX9_beginDay_134 (by decide) ⟨by omega, by omega⟩ ⟨by omega, by omega⟩ (fun h19 => ?_) (fun h19 => ?_)
                    · refine h_return C hr hlk dX9_beginDay_162 ?_
                      exact ⟨rfl, hI17, hF17, hM17_0⟩
                    · refine h_aload_n C dX9_beginDay_137 0 rfl rfl ?_
                      refine h_get C O9 1 kd_195 (by decide) wd_1257 dX9_beginDay_138 fr_195_1 ?_
                      refine h_bipush C dX9_beginDay_141 (by decide) ?_
                      refine h_iload_n C dX9_beginDay_143 2 rfl rfl ?_
                      refine h_iadd C dX9_beginDay_144 rfl ?_
                      refine h_iaload C dX9_beginDay_145 kd_196 (27 + w17_2).toNat (Int.toNat_of_nonneg (by omega)) (by rw [ln_196]; omega) rfl ?_
                      obtain ⟨hr20a, hr20b⟩ := hpInv.r196 hI17 ((27 + w17_2).toNat) 27 46 (0) 2016 (by omega) (by omega) (by decide)
                      generalize hg20 : τ17 196 ((27 + w17_2).toNat) = r20 at hr20a hr20b ⊢
                      refine h_iload_n C dX9_beginDay_146 1 rfl rfl ?_
                      refine h_icmp_ne (tgt := 156) C dX9_beginDay_147 (by decide) ⟨by omega, by omega⟩ ⟨by omega, by omega⟩ (fun h21 => ?_) (fun h21 => ?_)
                      · refine h_iinc (lv' := [(2, .int (hpI (w17_2 + 1))), (0, .ref (z + 195)), (1, .int (hpI a0))]) C dX9_beginDay_156 2 rfl rfl (by decide) rfl ?_
                        refine h_goto (tgt := 127) C dX9_beginDay_159 (by decide) ?_
                        exact hp_sub [1, 2, 0] rfl (ih17 _ (w17_2 + 1) (by omega) (by omega) hI17 hF17 (by first | exact hM17_0.tail no_such | exact hM17_0) (by omega))
                      · refine h_aload_n C dX9_beginDay_150 0 rfl rfl ?_
                        refine h_bipush C dX9_beginDay_151 (by decide) ?_
                        refine h_callV (As := [.int (hpI 17)]) (rest := []) C Z yyX9_takeHighest wd_1555 (tgX9_takeHighest l D cy z _ 17 ⟨by decide, by decide⟩ hI17 (by omega)) kd_195 rfl rfl ⟨rfl, rfl, Nat.le_of_ble_eq_true rfl, Nat.le_of_ble_eq_true rfl⟩ ⟨Nat.le_of_ble_eq_true rfl, Nat.le_of_ble_eq_true rfl⟩ (Nat.le_of_ble_eq_true rfl) dX9_beginDay_153 (fun r22 τ22 hp22 => ?_)
                        obtain ⟨rfl, hI22, hG22, hq22_0⟩ := hp22
                        have hF22 : ∀ j i : Nat, (j ≠ 202 ∨ (i : Int) < 701 * 17 ∨ 701 * 17 + 700 < (i : Int)) → τ22 j i = σ j i := fun j i h_0 => (hG22 j i (by omega)).trans (hF17 j i h_0)
                        show hpV _ _ _ _ _ _ _ _ _ _ _ _ _ _ _ _ _ _ _ _ _ []
                        refine h_iinc (lv' := [(2, .int (hpI (w17_2 + 1))), (0, .ref (z + 195)), (1, .int (hpI a0))]) C dX9_beginDay_156 2 rfl rfl (by decide) rfl ?_
                        refine h_goto (tgt := 127) C dX9_beginDay_159 (by decide) ?_
                        exact hp_sub [1, 2, 0] rfl (ih17 _ (w17_2 + 1) (by omega) (by omega) hI22 hF22 (by first | exact hM17_0.tail hq22_0 | exact hM17_0) (by omega))
                exact hp_sub [1, 2, 0] rfl (L17 8589934592 _ 0 (by omega) (by omega) hI16 hF16 (by have ew : w4_2 = σ 196 5 := by omega; have hz := hM4_0; rw [ew] at hz; first | exact (hz.lay (by omega) hq16_0).mono (by omega) | exact hz.mono (by omega)) (by omega))
            · refine h_aload_n C dX9_beginDay_67 0 rfl rfl ?_
              refine h_get C O9 1 kd_195 (by decide) wd_1257 dX9_beginDay_68 fr_195_1 ?_
              refine h_bipush C dX9_beginDay_71 (by decide) ?_
              refine h_iload_n C dX9_beginDay_73 2 rfl rfl ?_
              refine h_iadd C dX9_beginDay_74 rfl ?_
              refine h_iaload C dX9_beginDay_75 kd_196 (27 + w4_2).toNat (Int.toNat_of_nonneg (by omega)) (by rw [ln_196]; omega) rfl ?_
              obtain ⟨hr23a, hr23b⟩ := hpInv.r196 hI4 ((27 + w4_2).toNat) 27 46 (0) 2016 (by omega) (by omega) (by decide)
              generalize hg23 : τ4 196 ((27 + w4_2).toNat) = r23 at hr23a hr23b ⊢
              refine h_bipush C dX9_beginDay_76 (by decide) ?_
              refine h_irem C dX9_beginDay_78 (by omega) (by omega) (by omega) (by omega) ?_
              refine h_iload_n C dX9_beginDay_79 1 rfl rfl ?_
              refine h_icmp_ne (tgt := 101) C dX9_beginDay_80 (by decide) ⟨by omega, by omega⟩ ⟨by omega, by omega⟩ (fun h24 => ?_) (fun h24 => ?_)
              · refine h_iinc (lv' := [(2, .int (hpI (w4_2 + 1))), (0, .ref (z + 195)), (1, .int (hpI a0))]) C dX9_beginDay_101 2 rfl rfl (by decide) rfl ?_
                refine h_goto (tgt := 57) C dX9_beginDay_104 (by decide) ?_
                exact hp_sub [1, 2, 0] rfl (ih4 _ (w4_2 + 1) (by omega) (by omega) (by omega) hI4 hF4 (by rw [show (w4_2 + 1).toNat = (w4_2).toNat + 1 by omega]; have hs := hpC1_s (fun q => σ 196 (27 + q) % 100) a0 (w4_2).toNat; first | exact (hM4_0.lay (by omega) no_such).mono (by omega) | exact hM4_0.mono (by omega)) (by omega))
              · refine h_aload_n C dX9_beginDay_83 0 rfl rfl ?_
                refine h_bipush C dX9_beginDay_84 (by decide) ?_
                refine h_aload_n C dX9_beginDay_86 0 rfl rfl ?_
                refine h_get C O9 1 kd_195 (by decide) wd_1257 dX9_beginDay_87 fr_195_1 ?_
                refine h_bipush C dX9_beginDay_90 (by decide) ?_
                refine h_iload_n C dX9_beginDay_92 2 rfl rfl ?_
                refine h_iadd C dX9_beginDay_93 rfl ?_
                refine h_iaload C dX9_beginDay_94 kd_196 (27 + w4_2).toNat (Int.toNat_of_nonneg (by omega)) (by rw [ln_196]; omega) rfl ?_
                rw [hg23]
                refine h_bipush C dX9_beginDay_95 (by decide) ?_
                refine h_idiv C dX9_beginDay_97 (by omega) (by omega) (by omega) (by omega) ?_
                have hm := hM4_0.many
                have hcd : (fun q => σ 196 (27 + q) % 100) (w4_2).toNat = a0 := by show σ 196 (27 + (w4_2).toNat) % 100 = a0; have q1 := hF4 196 (27 + w4_2).toNat (by omega); rw [show 27 + (w4_2).toNat = (27 + w4_2).toNat by omega]; omega
                have hc1 := hpC1_eq (f := (fun q => σ 196 (27 + q) % 100)) hcd
                have hc2 := hpC1_m (fun q => σ 196 (27 + q) % 100) a0 ((w4_2).toNat + 1) (σ 196 5).toNat (by omega)
                refine h_callV (As := [.int (hpI 17), .int (hpI (r23 / 100))]) (rest := []) C Z yyX9_lay wd_1532 (tgX9_lay l D cy z _ 17 ⟨by decide, by decide⟩ (r23 / 100) ⟨by omega, by omega⟩ hI4 (by omega) (by omega)) kd_195 rfl rfl ⟨rfl, rfl, Nat.le_of_ble_eq_true rfl, Nat.le_of_ble_eq_true rfl⟩ ⟨Nat.le_of_ble_eq_true rfl, Nat.le_of_ble_eq_true rfl⟩ (Nat.le_of_ble_eq_true rfl) dX9_beginDay_98 (fun r25 τ25 hp25 => ?_)
                obtain ⟨rfl, hI25, hG25, hq25_0⟩ := hp25
                have hF25 : ∀ j i : Nat, (j ≠ 202 ∨ (i : Int) < 701 * 17 ∨ 701 * 17 + 700 < (i : Int)) → τ25 j i = σ j i := fun j i h_0 => (hG25 j i (by omega)).trans (hF4 j i h_0)
                show hpV _ _ _ _ _ _ _ _ _ _ _ _ _ _ _ _ _ _ _ _ _ []
                refine h_iinc (lv' := [(2, .int (hpI (w4_2 + 1))), (0, .ref (z + 195)), (1, .int (hpI a0))]) C dX9_beginDay_101 2 rfl rfl (by decide) rfl ?_
                refine h_goto (tgt := 57) C dX9_beginDay_104 (by decide) ?_
                exact hp_sub [1, 2, 0] rfl (ih4 _ (w4_2 + 1) (by omega) (by omega) (by omega) hI25 hF25 (by rw [show (w4_2 + 1).toNat = (w4_2).toNat + 1 by omega]; have hs := hpC1_s (fun q => σ 196 (27 + q) % 100) a0 (w4_2).toNat; first | exact (hM4_0.lay (by omega) hq25_0).mono (by omega) | exact hM4_0.mono (by omega)) (by omega))
        exact hp_sub [1, 2, 0] rfl (L4 8589934592 _ 0 (by omega) (by omega) (by omega) hI1 hF1 (by have e0 : hpC1 (fun q => σ 196 (27 + q) % 100) a0 (0 : Int).toNat = 0 := rfl; have ew : w1_2 = σ 196 4 := by omega; rw [e0, ← ew]; exact hM1_0.mono (by omega)) (by omega))
      · refine h_aload_n C dX9_beginDay_10 0 rfl rfl ?_
        refine h_get C O9 20 kd_195 (by decide) wd_1276 dX9_beginDay_11 fr_195_20 ?_
        refine h_iload_n C dX9_beginDay_14 2 rfl rfl ?_
        refine h_iaload C dX9_beginDay_15 kd_204 (w1_2).toNat (Int.toNat_of_nonneg (by omega)) (by rw [ln_204]; omega) rfl ?_
        obtain ⟨hr26a, hr26b⟩ := hI1.b (bo_204 _)
        generalize hg26 : τ1 204 ((w1_2).toNat) = r26 at hr26a hr26b ⊢
        refine h_iload_n C dX9_beginDay_16 1 rfl rfl ?_
        refine h_icmp_ne (tgt := 49) C dX9_beginDay_17 (by decide) ⟨by omega, by omega⟩ ⟨by omega, by omega⟩ (fun h27 => ?_) (fun h27 => ?_)
        · refine h_iinc (lv' := [(2, .int (hpI (w1_2 + 1))), (0, .ref (z + 195)), (1, .int (hpI a0))]) C dX9_beginDay_49 2 rfl rfl (by decide) rfl ?_
          refine h_goto (tgt := 2) C dX9_beginDay_52 (by decide) ?_
          exact hp_sub [1, 2, 0] rfl (ih1 _ (w1_2 + 1) (by omega) (by omega) (by omega) hI1 hF1 (by rw [show (w1_2 + 1).toNat = (w1_2).toNat + 1 by omega]; have hs := hpC1_s (σ 204) a0 (w1_2).toNat; first | exact (hM1_0.lay (by omega) no_such).mono (by omega) | exact hM1_0.mono (by omega)) (by omega))
        · refine h_aload_n C dX9_beginDay_20 0 rfl rfl ?_
          refine h_get C O9 22 kd_195 (by decide) wd_1278 dX9_beginDay_21 (hp_fvI (by rw [kd_195]; rfl) rfl) ?_
          obtain ⟨hr28a, hr28b⟩ := hI1.b (bf_9_22 kd_195)
          generalize hg28 : τ1 195 22 = r28 at hr28a hr28b ⊢
          refine h_iload_n C dX9_beginDay_24 2 rfl rfl ?_
          refine h_callS (As := [.int (hpI r28), .int (hpI w1_2)]) (rest := []) C Z yyX9_bit rfl wd_1552 (tgX9_bit l D cy z _ r28 ⟨by omega, by omega⟩ w1_2 ⟨by omega, by omega⟩ hI1) rfl rfl ⟨rfl, rfl, Nat.le_of_ble_eq_true rfl, Nat.le_of_ble_eq_true rfl⟩ ⟨Nat.le_of_ble_eq_true rfl, Nat.le_of_ble_eq_true rfl⟩ (Nat.le_of_ble_eq_true rfl) dX9_beginDay_25 (fun r29 τ29 hp29 => ?_)
          obtain ⟨⟨x29, rfl, ⟨hx29a, hx29b⟩, hx29⟩, rfl⟩ := hp29
          show hpV _ _ _ _ _ _ _ _ _ _ _ _ _ _ _ _ _ _ _ _ _ (_ :: _)
          refine h_iconst C dX9_beginDay_28 ?_
          refine h_icmp_ne (tgt := 49) C dX9_beginDay_29 (by decide) ⟨by omega, by omega⟩ ⟨by decide, by decide⟩ (fun h30 => ?_) (fun h30 => ?_)
          · refine h_iinc (lv' := [(2, .int (hpI (w1_2 + 1))), (0, .ref (z + 195)), (1, .int (hpI a0))]) C dX9_beginDay_49 2 rfl rfl (by decide) rfl ?_
            refine h_goto (tgt := 2) C dX9_beginDay_52 (by decide) ?_
            exact hp_sub [1, 2, 0] rfl (ih1 _ (w1_2 + 1) (by omega) (by omega) (by omega) hI1 hF1 (by rw [show (w1_2 + 1).toNat = (w1_2).toNat + 1 by omega]; have hs := hpC1_s (σ 204) a0 (w1_2).toNat; first | exact (hM1_0.lay (by omega) no_such).mono (by omega) | exact hM1_0.mono (by omega)) (by omega))
          · refine h_aload_n C dX9_beginDay_32 0 rfl rfl ?_
            refine h_bipush C dX9_beginDay_33 (by decide) ?_
            refine h_aload_n C dX9_beginDay_35 0 rfl rfl ?_
            refine h_get C O9 1 kd_195 (by decide) wd_1257 dX9_beginDay_36 fr_195_1 ?_
            refine h_bipush C dX9_beginDay_39 (by decide) ?_
            refine h_iconst C dX9_beginDay_41 ?_
            refine h_iload_n C dX9_beginDay_42 2 rfl rfl ?_
            refine h_imul C dX9_beginDay_43 rfl ?_
            refine h_iadd C dX9_beginDay_44 rfl ?_
            refine h_iaload C dX9_beginDay_45 kd_196 (15 + (2 * w1_2)).toNat (Int.toNat_of_nonneg (by omega)) (by rw [ln_196]; omega) rfl ?_
            obtain ⟨hr31a, hr31b⟩ := hpInv.r196 hI1 ((15 + (2 * w1_2)).toNat) 15 25 (0) 20 (by omega) (by omega) (by decide)
            generalize hg31 : τ1 196 ((15 + (2 * w1_2)).toNat) = r31 at hr31a hr31b ⊢
            have hm := hM1_0.many
            have hcd : σ 204 (w1_2).toNat = a0 := by have q := hF1 204 (w1_2).toNat (by omega); omega
            have hc1 := hpC1_eq (f := σ 204) hcd
            have hc2 := hpC1_m (σ 204) a0 ((w1_2).toNat + 1) (σ 196 4).toNat (by omega)
            refine h_callV (As := [.int (hpI 17), .int (hpI r31)]) (rest := []) C Z yyX9_lay wd_1532 (tgX9_lay l D cy z _ 17 ⟨by decide, by decide⟩ r31 ⟨by omega, by omega⟩ hI1 (by omega) (by omega)) kd_195 rfl rfl ⟨rfl, rfl, Nat.le_of_ble_eq_true rfl, Nat.le_of_ble_eq_true rfl⟩ ⟨Nat.le_of_ble_eq_true rfl, Nat.le_of_ble_eq_true rfl⟩ (Nat.le_of_ble_eq_true rfl) dX9_beginDay_46 (fun r32 τ32 hp32 => ?_)
            obtain ⟨rfl, hI32, hG32, hq32_0⟩ := hp32
            have hF32 : ∀ j i : Nat, (j ≠ 202 ∨ (i : Int) < 701 * 17 ∨ 701 * 17 + 700 < (i : Int)) → τ32 j i = σ j i := fun j i h_0 => (hG32 j i (by omega)).trans (hF1 j i h_0)
            show hpV _ _ _ _ _ _ _ _ _ _ _ _ _ _ _ _ _ _ _ _ _ []
            refine h_iinc (lv' := [(2, .int (hpI (w1_2 + 1))), (0, .ref (z + 195)), (1, .int (hpI a0))]) C dX9_beginDay_49 2 rfl rfl (by decide) rfl ?_
            refine h_goto (tgt := 2) C dX9_beginDay_52 (by decide) ?_
            exact hp_sub [1, 2, 0] rfl (ih1 _ (w1_2 + 1) (by omega) (by omega) (by omega) hI32 hF32 (by rw [show (w1_2 + 1).toNat = (w1_2).toNat + 1 by omega]; have hs := hpC1_s (σ 204) a0 (w1_2).toNat; first | exact (hM1_0.lay (by omega) hq32_0).mono (by omega) | exact hM1_0.mono (by omega)) (by omega))
  exact hp_sub [1, 2, 0] rfl (L1 8589934592 _ 0 (by omega) (by omega) (by omega) hI hF0 (hB.mono (by have e0 : hpC1 (σ 204) a0 (0 : Int).toNat = 0 := rfl; omega)) (by omega))
abbrev rgX9_goAll : Room := { frames := 3, cells := 0, slots := 0, locals := 69 }
abbrev pgX9_goAll (z : Nat) (σ : hpMem) : Option Value → hpMem → Prop := fun r τ => r = none ∧ hpInv τ ∧ (∀ j i : Nat, j ≠ 202 → j ≠ 205 → j ≠ 206 → (j ≠ 195 ∨ (i ≠ 17 ∧ i ≠ 18)) → τ j i = σ j i) ∧ (∀ r : Int, 0 ≤ r → r ≤ τ 196 0 → hpLe (τ 202) r 700)
set_option maxHeartbeats 4000000 in
set_option maxRecDepth 20000 in
theorem tgX9_goAll (l : Launch) (D : va_G) (cy : Nat → ClassId) (z : Nat) (σ : hpMem) (hI : hpInv σ) : hpM l D cy z yX9_goAll cX9_goAll 2 none rgX9_goAll [.ref (z + 195)] σ (pgX9_goAll z σ) := by
  refine hp_met rfl (Nat.le_of_ble_eq_true rfl) (fun p e s m below meth c C Z hr hlk => ?_)
  have hF0 : ∀ j i : Nat, j ≠ 202 → j ≠ 205 → j ≠ 206 → (j ≠ 195 ∨ (i ≠ 17 ∧ i ≠ 18)) → σ j i = σ j i := fun j i _ _ _ _ => rfl
  have b0 := hI.b ((bw_196 0).trans (show hpwb 0 = (0, 16) by decide))
  have b4 := hI.b ((bw_196 4).trans (show hpwb 4 = (0, 6) by decide))
  have b5 := hI.b ((bw_196 5).trans (show hpwb 5 = (0, 20) by decide))
  refine h_aload_n C dX9_goAll_0 0 rfl rfl ?_
  refine h_bipush C dX9_goAll_1 (by decide) ?_
  refine h_callV (As := [.int (hpI 17)]) (rest := []) C Z yyX9_empty wd_1528 (tgX9_empty l D cy z _ 17 ⟨by decide, by decide⟩ hI (by omega)) kd_195 rfl rfl ⟨rfl, rfl, Nat.le_of_ble_eq_true rfl, Nat.le_of_ble_eq_true rfl⟩ ⟨Nat.le_of_ble_eq_true rfl, Nat.le_of_ble_eq_true rfl⟩ (Nat.le_of_ble_eq_true rfl) dX9_goAll_3 (fun r1 τ1 hp1 => ?_)
  obtain ⟨rfl, hI1, hG1, hq1_0⟩ := hp1
  have hF1 : ∀ j i : Nat, j ≠ 202 → j ≠ 205 → j ≠ 206 → (j ≠ 195 ∨ (i ≠ 17 ∧ i ≠ 18)) → τ1 j i = σ j i := fun j i h_0 h_1 h_2 h_3 => (hG1 j i (by omega)).trans (hF0 j i h_0 h_1 h_2 h_3)
  show hpV _ _ _ _ _ _ _ _ _ _ _ _ _ _ _ _ _ _ _ _ _ []
  refine h_iconst C dX9_goAll_6 ?_
  refine h_istore_n (lv' := [(1, .int (hpI 0)), (0, .ref (z + 195))]) C dX9_goAll_7 rfl (by decide) rfl ?_
  have L2 : ∀ (n2 : Nat) (τ2 : hpMem) (w2_1 : Int), 0 ≤ w2_1 → w2_1 ≤ 8 → hpInv τ2 → (∀ j i : Nat, j ≠ 202 → j ≠ 205 → j ≠ 206 → (j ≠ 195 ∨ (i ≠ 17 ∧ i ≠ 18)) → τ2 j i = σ j i) → (hpLe (τ2 202) 17 (20 * w2_1)) → (4294967296 - w2_1) < (n2 : Int) → hpF p l e rgX9_goAll s m [.ref (z + 195)] below meth c 2 D cy z (pgX9_goAll z σ) τ2 8 [(0, .ref (z + 195)), (1, .int (hpI w2_1))] [] := by
    intro n2
    induction n2 with
    | zero => intro τ2 w2_1 hv2_0 hv2_1 hI2 hF2 hM2_0 hm2; exfalso; omega
    | succ n2 ih2 =>
      intro τ2 w2_1 hv2_0 hv2_1 hI2 hF2 hM2_0 hm2
      refine h_iload_n C dX9_goAll_8 1 rfl rfl ?_
      refine h_aload_n C dX9_goAll_9 0 rfl rfl ?_
      refine h_get C O9 1 kd_195 (by decide) wd_1257 dX9_goAll_10 fr_195_1 ?_
      refine h_iconst C dX9_goAll_13 ?_
      refine h_iaload C dX9_goAll_14 kd_196 3 rfl (by rw [ln_196]; decide) rfl ?_
      obtain ⟨hr3a, hr3b⟩ := hI2.b ((bw_196 3).trans (show hpwb 3 = (0, 8) by decide))
      generalize hg3 : τ2 196 3 = r3 at hr3a hr3b ⊢
      refine h_icmp_ge (tgt := 36) C dX9_goAll_15 (by decide) ⟨by omega, by omega⟩ ⟨by omega, by omega⟩ (fun h4 => ?_) (fun h4 => ?_)
      · refine h_iconst C dX9_goAll_36 ?_
        refine h_istore_n (lv' := [(1, .int (hpI 0)), (0, .ref (z + 195))]) C dX9_goAll_37 rfl (by decide) rfl ?_
        have L5 : ∀ (n5 : Nat) (τ5 : hpMem) (w5_1 : Int), 0 ≤ w5_1 → w5_1 ≤ 17 → hpInv τ5 → (∀ j i : Nat, j ≠ 202 → j ≠ 205 → j ≠ 206 → (j ≠ 195 ∨ (i ≠ 17 ∧ i ≠ 18)) → τ5 j i = σ j i) → (hpLe (τ5 202) 17 (700 - hpWd σ w5_1)) → (∀ r : Int, 0 ≤ r → r < w5_1 → hpLe (τ5 202) r 700) → (4294967296 - w5_1) < (n5 : Int) → hpF p l e rgX9_goAll s m [.ref (z + 195)] below meth c 2 D cy z (pgX9_goAll z σ) τ5 38 [(0, .ref (z + 195)), (1, .int (hpI w5_1))] [] := by
          intro n5
          induction n5 with
          | zero => intro τ5 w5_1 hv5_0 hv5_1 hI5 hF5 hM5_0 hM5_1 hm5; exfalso; omega
          | succ n5 ih5 =>
            intro τ5 w5_1 hv5_0 hv5_1 hI5 hF5 hM5_0 hM5_1 hm5
            refine h_iload_n C dX9_goAll_38 1 rfl rfl ?_
            refine h_aload_n C dX9_goAll_39 0 rfl rfl ?_
            refine h_callV (As := []) (rest := [.int (hpI w5_1)]) C Z yyX9_days wd_1544 (tgX9_days l D cy z _ hI5) kd_195 rfl rfl ⟨rfl, rfl, Nat.le_of_ble_eq_true rfl, Nat.le_of_ble_eq_true rfl⟩ ⟨Nat.le_of_ble_eq_true rfl, Nat.le_of_ble_eq_true rfl⟩ (Nat.le_of_ble_eq_true rfl) dX9_goAll_40 (fun r6 τ6 hp6 => ?_)
            obtain ⟨⟨x6, rfl, ⟨hx6a, hx6b⟩, hx6⟩, rfl⟩ := hp6
            show hpV _ _ _ _ _ _ _ _ _ _ _ _ _ _ _ _ _ _ _ _ _ (_ :: _)
            refine h_icmp_gt (tgt := 120) C dX9_goAll_43 (by decide) ⟨by omega, by omega⟩ ⟨by omega, by omega⟩ (fun h7 => ?_) (fun h7 => ?_)
            · refine h_return C hr hlk dX9_goAll_120 ?_
              exact ⟨rfl, hI5, hF5, fun r h1 h2 => hM5_1 r h1 (by omega)⟩
            · refine h_aload_n C dX9_goAll_46 0 rfl rfl ?_
              refine h_iload_n C dX9_goAll_47 1 rfl rfl ?_
              have f4 : τ5 204 = σ 204 := funext (fun i => hF5 204 i (by omega) (by omega) (by omega) (by omega))
              have f6 : τ5 196 = σ 196 := funext (fun i => hF5 196 i (by omega) (by omega) (by omega) (by omega))
              have f23 : τ5 195 23 = σ 195 23 := hF5 195 23 (by omega) (by omega) (by omega) (by omega)
              have wb0 := hpWd_b σ w5_1 b4 b5
              have wb1 := hpWd_b σ (w5_1 + 1) b4 b5
              have ws := hpWd_s σ w5_1
              refine h_callV (As := [.int (hpI w5_1)]) (rest := []) C Z yyX9_beginDay wd_1548 (tgX9_beginDay l D cy z _ w5_1 ⟨by omega, by omega⟩ hI5 700 - hpWd σ w5_1 (by omega) hM5_0 (by rw [f4, f6, f23]; omega)) kd_195 rfl rfl ⟨rfl, rfl, Nat.le_of_ble_eq_true rfl, Nat.le_of_ble_eq_true rfl⟩ ⟨Nat.le_of_ble_eq_true rfl, Nat.le_of_ble_eq_true rfl⟩ (Nat.le_of_ble_eq_true rfl) dX9_goAll_48 (fun r8 τ8 hp8 => ?_)
              obtain ⟨rfl, hI8, hG8, hq8_0⟩ := hp8
              have hF8 : ∀ j i : Nat, j ≠ 202 → j ≠ 205 → j ≠ 206 → (j ≠ 195 ∨ (i ≠ 17 ∧ i ≠ 18)) → τ8 j i = σ j i := fun j i h_0 h_1 h_2 h_3 => (hG8 j i (by omega)).trans (hF5 j i h_0 h_1 h_2 h_3)
              show hpV _ _ _ _ _ _ _ _ _ _ _ _ _ _ _ _ _ _ _ _ _ []
              have hN := hq8_0
              rw [f4, f6, f23] at hN
              have hN2 : hpLe (τ8 202) 17 (700 - hpWd σ (w5_1 + 1)) := hN.mono (by omega)
              refine h_aload_n C dX9_goAll_51 0 rfl rfl ?_
              refine h_bipush C dX9_goAll_52 (by decide) ?_
              refine h_iload_n C dX9_goAll_54 1 rfl rfl ?_
              refine h_callV (As := [.int (hpI 17), .int (hpI w5_1)]) (rest := []) C Z yyX9_copyRow wd_1559 (tgX9_copyRow l D cy z _ 17 ⟨by decide, by decide⟩ w5_1 ⟨by omega, by omega⟩ hI8 (by omega) (by omega)) kd_195 rfl rfl ⟨rfl, rfl, Nat.le_of_ble_eq_true rfl, Nat.le_of_ble_eq_true rfl⟩ ⟨Nat.le_of_ble_eq_true rfl, Nat.le_of_ble_eq_true rfl⟩ (Nat.le_of_ble_eq_true rfl) dX9_goAll_55 (fun r9 τ9 hp9 => ?_)
              obtain ⟨rfl, hI9, hG9, hq9_0⟩ := hp9
              have hF9 : ∀ j i : Nat, j ≠ 202 → j ≠ 205 → j ≠ 206 → (j ≠ 195 ∨ (i ≠ 17 ∧ i ≠ 18)) → τ9 j i = σ j i := fun j i h_0 h_1 h_2 h_3 => (hG9 j i (by omega)).trans (hF8 j i h_0 h_1 h_2 h_3)
              show hpV _ _ _ _ _ _ _ _ _ _ _ _ _ _ _ _ _ _ _ _ _ []
              have hD : hpLe (τ9 202) w5_1 700 := (hN2.copy hq9_0).mono (by omega)
              have hN3 : hpLe (τ9 202) 17 (700 - hpWd σ (w5_1 + 1)) := hN2.fr (by omega) (by decide) (fun i h1 h2 => hG9 202 i (by omega))
              have hAll : ∀ r : Int, 0 ≤ r → r < w5_1 + 1 → hpLe (τ9 202) r 700 := fun r h1 h2 => by by_cases e : r = w5_1; · rw [e]; exact hD; · exact ((hM5_1 r h1 (by omega)).fr (by decide) h1 (fun i g1 g2 => hG8 202 i (by omega))).fr (by decide) h1 (fun i g1 g2 => hG9 202 i (by omega))
              refine h_iload_n C dX9_goAll_58 1 rfl rfl ?_
              refine h_aload_n C dX9_goAll_59 0 rfl rfl ?_
              refine h_callV (As := []) (rest := [.int (hpI w5_1)]) C Z yyX9_days wd_1544 (tgX9_days l D cy z _ hI9) kd_195 rfl rfl ⟨rfl, rfl, Nat.le_of_ble_eq_true rfl, Nat.le_of_ble_eq_true rfl⟩ ⟨Nat.le_of_ble_eq_true rfl, Nat.le_of_ble_eq_true rfl⟩ (Nat.le_of_ble_eq_true rfl) dX9_goAll_60 (fun r10 τ10 hp10 => ?_)
              obtain ⟨⟨x10, rfl, ⟨hx10a, hx10b⟩, hx10⟩, rfl⟩ := hp10
              show hpV _ _ _ _ _ _ _ _ _ _ _ _ _ _ _ _ _ _ _ _ _ (_ :: _)
              refine h_icmp_ne (tgt := 67) C dX9_goAll_63 (by decide) ⟨by omega, by omega⟩ ⟨by omega, by omega⟩ (fun h11 => ?_) (fun h11 => ?_)
              · refine h_aload_n C dX9_goAll_67 0 rfl rfl ?_
                refine h_iconst C dX9_goAll_68 ?_
                refine h_put C O9 17 kd_195 (by decide) rfl wd_1273 dX9_goAll_69 rfl rfl (hp_fvI (by rw [kd_195]; rfl) hpu_at) ?_
                obtain ⟨τ12, e12⟩ : ∃ μ : hpMem, μ = hpw τ9 195 17 0 := ⟨_, rfl⟩
                rw [← e12]
                have hI12 : hpInv τ12 := by rw [e12]; exact hI9.w (bf_9_17 kd_195) (by omega) (by omega)
                have hF12 : ∀ j i : Nat, j ≠ 202 → j ≠ 205 → j ≠ 206 → (j ≠ 195 ∨ (i ≠ 17 ∧ i ≠ 18)) → τ12 j i = σ j i := fun j i h_0 h_1 h_2 h_3 => by rw [e12]; exact (hpw_fr (by omega)).trans (hF9 j i h_0 h_1 h_2 h_3)
                have hg13 : τ12 195 17 = 0 := by rw [e12]; exact hpw_eq
                refine h_aload_n C dX9_goAll_72 0 rfl rfl ?_
                refine h_iconst C dX9_goAll_73 ?_
                refine h_put C O9 18 kd_195 (by decide) rfl wd_1274 dX9_goAll_74 rfl rfl (hp_fvI (by rw [kd_195]; rfl) hpu_at) ?_
                obtain ⟨τ14, e14⟩ : ∃ μ : hpMem, μ = hpw τ12 195 18 0 := ⟨_, rfl⟩
                rw [← e14]
                have hI14 : hpInv τ14 := by rw [e14]; exact hI12.w (bf_9_18 kd_195) (by omega) (by omega)
                have hF14 : ∀ j i : Nat, j ≠ 202 → j ≠ 205 → j ≠ 206 → (j ≠ 195 ∨ (i ≠ 17 ∧ i ≠ 18)) → τ14 j i = σ j i := fun j i h_0 h_1 h_2 h_3 => by rw [e14]; exact (hpw_fr (by omega)).trans (hF12 j i h_0 h_1 h_2 h_3)
                have hg15 : τ14 195 17 = 0 := by rw [e14]; exact (hpw_fr (Or.inr (by decide))).trans hg13
                have hg16 : τ14 195 18 = 0 := by rw [e14]; exact hpw_eq
                have hN4 : hpLe (τ14 202) 17 (700 - hpWd σ (w5_1 + 1)) := hN3.same (fun i => by rw [e14, hpw_fr (Or.inl (by decide)), e12, hpw_fr (Or.inl (by decide))])
                have hA4 : ∀ r : Int, 0 ≤ r → r < w5_1 + 1 → hpLe (τ14 202) r 700 := fun r h1 h2 => (hAll r h1 h2).same (fun i => by rw [e14, hpw_fr (Or.inl (by decide)), e12, hpw_fr (Or.inl (by decide))])
                refine h_aload_n C dX9_goAll_77 0 rfl rfl ?_
                refine h_get C O9 21 kd_195 (by decide) wd_1277 dX9_goAll_78 (hp_fvI (by rw [kd_195]; rfl) rfl) ?_
                obtain ⟨hr17a, hr17b⟩ := hI14.b (bf_9_21 kd_195)
                generalize hg17 : τ14 195 21 = r17 at hr17a hr17b ⊢
                refine h_iload_n C dX9_goAll_81 1 rfl rfl ?_
                refine h_callS (As := [.int (hpI r17), .int (hpI w5_1)]) (rest := []) C Z yyX9_bit rfl wd_1552 (tgX9_bit l D cy z _ r17 ⟨by omega, by omega⟩ w5_1 ⟨by omega, by omega⟩ hI14) rfl rfl ⟨rfl, rfl, Nat.le_of_ble_eq_true rfl, Nat.le_of_ble_eq_true rfl⟩ ⟨Nat.le_of_ble_eq_true rfl, Nat.le_of_ble_eq_true rfl⟩ (Nat.le_of_ble_eq_true rfl) dX9_goAll_82 (fun r18 τ18 hp18 => ?_)
                obtain ⟨⟨x18, rfl, ⟨hx18a, hx18b⟩, hx18⟩, rfl⟩ := hp18
                show hpV _ _ _ _ _ _ _ _ _ _ _ _ _ _ _ _ _ _ _ _ _ (_ :: _)
                refine h_if_ne (tgt := 94) C dX9_goAll_85 (by decide) ⟨by omega, by omega⟩ (fun h19 => ?_) (fun h19 => ?_)
                · have hK : hpLe (τ14 202) 17 (700 - hpWd σ (w5_1 + 1)) := by first | exact hN5 | exact hN4
                  have hKA : ∀ r : Int, 0 ≤ r → r < w5_1 + 1 → hpLe (τ14 202) r 700 := by first | exact hA5 | exact hA4
                  refine h_aload_n C dX9_goAll_94 0 rfl rfl ?_
                  refine h_get C O9 25 kd_195 (by decide) wd_1281 dX9_goAll_95 fr_195_25 ?_
                  refine h_iload_n C dX9_goAll_98 1 rfl rfl ?_
                  refine h_aload_n C dX9_goAll_99 0 rfl rfl ?_
                  refine h_get C O9 17 kd_195 (by decide) wd_1273 dX9_goAll_100 (hp_fvI (by rw [kd_195]; rfl) rfl) ?_
                  rw [hg15]
                  refine h_iastore C dX9_goAll_103 kd_205 (w5_1).toNat (Int.toNat_of_nonneg (by omega)) (by rw [ln_205]; omega) ?_
                  obtain ⟨τ20, e20⟩ : ∃ μ : hpMem, μ = hpw τ14 205 ((w5_1).toNat) 0 := ⟨_, rfl⟩
                  rw [← e20]
                  have hI20 : hpInv τ20 := by rw [e20]; exact hI14.w (bo_205 _) (by omega) (by omega)
                  have hF20 : ∀ j i : Nat, j ≠ 202 → j ≠ 205 → j ≠ 206 → (j ≠ 195 ∨ (i ≠ 17 ∧ i ≠ 18)) → τ20 j i = σ j i := fun j i h_0 h_1 h_2 h_3 => by rw [e20]; exact (hpw_fr (by omega)).trans (hF14 j i h_0 h_1 h_2 h_3)
                  have hg21 : τ20 195 17 = 0 := by rw [e20]; exact (hpw_fr (Or.inl (by omega))).trans hg15
                  have hg22 : τ20 195 18 = 0 := by rw [e20]; exact (hpw_fr (Or.inl (by omega))).trans hg16
                  have hg23 : τ20 195 21 = r17 := by rw [e20]; exact (hpw_fr (Or.inl (by omega))).trans hg17
                  refine h_aload_n C dX9_goAll_104 0 rfl rfl ?_
                  refine h_get C O9 26 kd_195 (by decide) wd_1282 dX9_goAll_105 fr_195_26 ?_
                  refine h_iload_n C dX9_goAll_108 1 rfl rfl ?_
                  refine h_aload_n C dX9_goAll_109 0 rfl rfl ?_
                  refine h_get C O9 18 kd_195 (by decide) wd_1274 dX9_goAll_110 (hp_fvI (by rw [kd_195]; rfl) rfl) ?_
                  rw [hg22]
                  refine h_iastore C dX9_goAll_113 kd_206 (w5_1).toNat (Int.toNat_of_nonneg (by omega)) (by rw [ln_206]; omega) ?_
                  obtain ⟨τ24, e24⟩ : ∃ μ : hpMem, μ = hpw τ20 206 ((w5_1).toNat) 0 := ⟨_, rfl⟩
                  rw [← e24]
                  have hI24 : hpInv τ24 := by rw [e24]; exact hI20.w (bo_206 _) (by omega) (by omega)
                  have hF24 : ∀ j i : Nat, j ≠ 202 → j ≠ 205 → j ≠ 206 → (j ≠ 195 ∨ (i ≠ 17 ∧ i ≠ 18)) → τ24 j i = σ j i := fun j i h_0 h_1 h_2 h_3 => by rw [e24]; exact (hpw_fr (by omega)).trans (hF20 j i h_0 h_1 h_2 h_3)
                  have hg25 : τ24 195 17 = 0 := by rw [e24]; exact (hpw_fr (Or.inl (by omega))).trans hg21
                  have hg26 : τ24 195 18 = 0 := by rw [e24]; exact (hpw_fr (Or.inl (by omega))).trans hg22
                  have hg27 : τ24 195 21 = r17 := by rw [e24]; exact (hpw_fr (Or.inl (by omega))).trans hg23
                  refine h_iinc (lv' := [(1, .int (hpI (w5_1 + 1))), (0, .ref (z + 195))]) C dX9_goAll_114 1 rfl rfl (by decide) rfl ?_
                  refine h_goto (tgt := 38) C dX9_goAll_117 (by decide) ?_
                  exact hp_sub [1, 0] rfl (ih5 _ (w5_1 + 1) (by omega) (by omega) hI24 hF24 (hK.same (fun i => by rw [e24, hpw_fr (Or.inl (by decide)), e20, hpw_fr (Or.inl (by decide))])) (fun r h1 h2 => (hKA r h1 h2).same (fun i => by rw [e24, hpw_fr (Or.inl (by decide)), e20, hpw_fr (Or.inl (by decide))])) (by omega))
                · obtain ⟨L0, hL0, hO1, hO2⟩ := hN4
                  refine h_aload_n C dX9_goAll_88 0 rfl rfl ?_
                  refine h_bipush C dX9_goAll_89 (by decide) ?_
                  refine h_callV (As := [.int (hpI 17)]) (rest := []) C Z yyX9_step wd_1563 (tgX9_step l D cy z _ 17 ⟨by decide, by decide⟩ hI14 _ (by omega) hL0 ⟨hO1, by omega⟩) kd_195 rfl rfl ⟨rfl, rfl, Nat.le_of_ble_eq_true rfl, Nat.le_of_ble_eq_true rfl⟩ ⟨Nat.le_of_ble_eq_true rfl, Nat.le_of_ble_eq_true rfl⟩ (Nat.le_of_ble_eq_true rfl) dX9_goAll_91 (fun r28 τ28 hp28 => ?_)
                  obtain ⟨rfl, hI28, hG28, hq28_0⟩ := hp28
                  have hF28 : ∀ j i : Nat, j ≠ 202 → j ≠ 205 → j ≠ 206 → (j ≠ 195 ∨ (i ≠ 17 ∧ i ≠ 18)) → τ28 j i = σ j i := fun j i h_0 h_1 h_2 h_3 => (hG28 j i (by omega) (by omega)).trans (hF14 j i h_0 h_1 h_2 h_3)
                  show hpV _ _ _ _ _ _ _ _ _ _ _ _ _ _ _ _ _ _ _ _ _ []
                  have hN5 : hpLe (τ28 202) 17 (700 - hpWd σ (w5_1 + 1)) := ⟨_, hq28_0, hpSt_pos, by rw [hpSt_sum hO1]; exact hO2⟩
                  have hA5 : ∀ r : Int, 0 ≤ r → r < w5_1 + 1 → hpLe (τ28 202) r 700 := fun r h1 h2 => (hA4 r h1 h2).fr (by decide) h1 (fun i g1 g2 => hG28 202 i (by omega) (by omega))
                  have hK : hpLe (τ28 202) 17 (700 - hpWd σ (w5_1 + 1)) := by first | exact hN5 | exact hN4
                  have hKA : ∀ r : Int, 0 ≤ r → r < w5_1 + 1 → hpLe (τ28 202) r 700 := by first | exact hA5 | exact hA4
                  refine h_aload_n C dX9_goAll_94 0 rfl rfl ?_
                  refine h_get C O9 25 kd_195 (by decide) wd_1281 dX9_goAll_95 fr_195_25 ?_
                  refine h_iload_n C dX9_goAll_98 1 rfl rfl ?_
                  refine h_aload_n C dX9_goAll_99 0 rfl rfl ?_
                  refine h_get C O9 17 kd_195 (by decide) wd_1273 dX9_goAll_100 (hp_fvI (by rw [kd_195]; rfl) rfl) ?_
                  obtain ⟨hr29a, hr29b⟩ := hI28.b (bf_9_17 kd_195)
                  generalize hg29 : τ28 195 17 = r29 at hr29a hr29b ⊢
                  refine h_iastore C dX9_goAll_103 kd_205 (w5_1).toNat (Int.toNat_of_nonneg (by omega)) (by rw [ln_205]; omega) ?_
                  obtain ⟨τ30, e30⟩ : ∃ μ : hpMem, μ = hpw τ28 205 ((w5_1).toNat) r29 := ⟨_, rfl⟩
                  rw [← e30]
                  have hI30 : hpInv τ30 := by rw [e30]; exact hI28.w (bo_205 _) (by omega) (by omega)
                  have hF30 : ∀ j i : Nat, j ≠ 202 → j ≠ 205 → j ≠ 206 → (j ≠ 195 ∨ (i ≠ 17 ∧ i ≠ 18)) → τ30 j i = σ j i := fun j i h_0 h_1 h_2 h_3 => by rw [e30]; exact (hpw_fr (by omega)).trans (hF28 j i h_0 h_1 h_2 h_3)
                  have hg31 : τ30 195 17 = r29 := by rw [e30]; exact (hpw_fr (Or.inl (by omega))).trans hg29
                  refine h_aload_n C dX9_goAll_104 0 rfl rfl ?_
                  refine h_get C O9 26 kd_195 (by decide) wd_1282 dX9_goAll_105 fr_195_26 ?_
                  refine h_iload_n C dX9_goAll_108 1 rfl rfl ?_
                  refine h_aload_n C dX9_goAll_109 0 rfl rfl ?_
                  refine h_get C O9 18 kd_195 (by decide) wd_1274 dX9_goAll_110 (hp_fvI (by rw [kd_195]; rfl) rfl) ?_
                  obtain ⟨hr32a, hr32b⟩ := hI30.b (bf_9_18 kd_195)
                  generalize hg32 : τ30 195 18 = r32 at hr32a hr32b ⊢
                  refine h_iastore C dX9_goAll_113 kd_206 (w5_1).toNat (Int.toNat_of_nonneg (by omega)) (by rw [ln_206]; omega) ?_
                  obtain ⟨τ33, e33⟩ : ∃ μ : hpMem, μ = hpw τ30 206 ((w5_1).toNat) r32 := ⟨_, rfl⟩
                  rw [← e33]
                  have hI33 : hpInv τ33 := by rw [e33]; exact hI30.w (bo_206 _) (by omega) (by omega)
                  have hF33 : ∀ j i : Nat, j ≠ 202 → j ≠ 205 → j ≠ 206 → (j ≠ 195 ∨ (i ≠ 17 ∧ i ≠ 18)) → τ33 j i = σ j i := fun j i h_0 h_1 h_2 h_3 => by rw [e33]; exact (hpw_fr (by omega)).trans (hF30 j i h_0 h_1 h_2 h_3)
                  have hg34 : τ33 195 17 = r29 := by rw [e33]; exact (hpw_fr (Or.inl (by omega))).trans hg31
                  have hg35 : τ33 195 18 = r32 := by rw [e33]; exact (hpw_fr (Or.inl (by omega))).trans hg32
                  refine h_iinc (lv' := [(1, .int (hpI (w5_1 + 1))), (0, .ref (z + 195))]) C dX9_goAll_114 1 rfl rfl (by decide) rfl ?_
                  refine h_goto (tgt := 38) C dX9_goAll_117 (by decide) ?_
                  exact hp_sub [1, 0] rfl (ih5 _ (w5_1 + 1) (by omega) (by omega) hI33 hF33 (hK.same (fun i => by rw [e33, hpw_fr (Or.inl (by decide)), e30, hpw_fr (Or.inl (by decide))])) (fun r h1 h2 => (hKA r h1 h2).same (fun i => by rw [e33, hpw_fr (Or.inl (by decide)), e30, hpw_fr (Or.inl (by decide))])) (by omega))
              · refine h_return C hr hlk dX9_goAll_66 ?_
                exact ⟨rfl, hI9, hF9, fun r h1 h2 => hAll r h1 (by omega)⟩
        exact hp_sub [1, 0] rfl (L5 8589934592 _ 0 (by omega) (by omega) hI2 hF2 (hM2_0.mono (by have q := hpWd_b σ 0 b4 b5; omega)) (fun r h1 h2 => by exfalso; omega) (by omega))
      · refine h_aload_n C dX9_goAll_18 0 rfl rfl ?_
        refine h_bipush C dX9_goAll_19 (by decide) ?_
        refine h_aload_n C dX9_goAll_21 0 rfl rfl ?_
        refine h_get C O9 19 kd_195 (by decide) wd_1275 dX9_goAll_22 fr_195_19 ?_
        refine h_iload_n C dX9_goAll_25 1 rfl rfl ?_
        refine h_iaload C dX9_goAll_26 kd_203 (w2_1).toNat (Int.toNat_of_nonneg (by omega)) (by rw [ln_203]; omega) rfl ?_
        obtain ⟨hr36a, hr36b⟩ := hI2.b (bo_203 _)
        generalize hg36 : τ2 203 ((w2_1).toNat) = r36 at hr36a hr36b ⊢
        have hm := hM2_0.many
        refine h_callV (As := [.int (hpI 17), .int (hpI r36)]) (rest := []) C Z yyX9_lay wd_1532 (tgX9_lay l D cy z _ 17 ⟨by decide, by decide⟩ r36 ⟨by omega, by omega⟩ hI2 (by omega) (by omega)) kd_195 rfl rfl ⟨rfl, rfl, Nat.le_of_ble_eq_true rfl, Nat.le_of_ble_eq_true rfl⟩ ⟨Nat.le_of_ble_eq_true rfl, Nat.le_of_ble_eq_true rfl⟩ (Nat.le_of_ble_eq_true rfl) dX9_goAll_27 (fun r37 τ37 hp37 => ?_)
        obtain ⟨rfl, hI37, hG37, hq37_0⟩ := hp37
        have hF37 : ∀ j i : Nat, j ≠ 202 → j ≠ 205 → j ≠ 206 → (j ≠ 195 ∨ (i ≠ 17 ∧ i ≠ 18)) → τ37 j i = σ j i := fun j i h_0 h_1 h_2 h_3 => (hG37 j i (by omega)).trans (hF2 j i h_0 h_1 h_2 h_3)
        show hpV _ _ _ _ _ _ _ _ _ _ _ _ _ _ _ _ _ _ _ _ _ []
        refine h_iinc (lv' := [(1, .int (hpI (w2_1 + 1))), (0, .ref (z + 195))]) C dX9_goAll_30 1 rfl rfl (by decide) rfl ?_
        refine h_goto (tgt := 8) C dX9_goAll_33 (by decide) ?_
        exact hp_sub [1, 0] rfl (ih2 _ (w2_1 + 1) (by omega) (by omega) hI37 hF37 ((hM2_0.lay (by omega) hq37_0).mono (by omega)) (by omega))
  exact hp_sub [1, 0] rfl (L2 8589934592 _ 0 (by omega) (by omega) hI1 hF1 ((hpLe.nil hq1_0).mono (by omega)) (by omega))
abbrev rgX9_asksMoor : Room := { frames := 4, cells := 0, slots := 0, locals := 90 }
abbrev pgX9_asksMoor (z : Nat) (σ : hpMem) : Option Value → hpMem → Prop := fun r τ => (∃ x : Int, r = some (.int (hpI x)) ∧ (0 ≤ x ∧ x ≤ 1) ∧ hpInv τ ∧ (∀ j i : Nat, j ≠ 202 → j ≠ 203 → j ≠ 204 → j ≠ 205 → j ≠ 206 → (j ≠ 195 ∨ (i ≠ 16 ∧ i ≠ 17 ∧ i ≠ 18 ∧ i ≠ 21 ∧ i ≠ 22 ∧ i ≠ 23)) → τ j i = σ j i) ∧ (∀ r : Int, 0 ≤ r → r ≤ τ 196 0 → hpLe (τ 202) r 700))
set_option maxHeartbeats 4000000 in
set_option maxRecDepth 20000 in
theorem tgX9_asksMoor (l : Launch) (D : va_G) (cy : Nat → ClassId) (z : Nat) (σ : hpMem) (hI : hpInv σ) : hpM l D cy z yX9_asksMoor cX9_asksMoor 1 (some .boolean) rgX9_asksMoor [.ref (z + 195)] σ (pgX9_asksMoor z σ) := by
  refine hp_met rfl (Nat.le_of_ble_eq_true rfl) (fun p e s m below meth c C Z hr hlk => ?_)
  have hF0 : ∀ j i : Nat, j ≠ 202 → j ≠ 203 → j ≠ 204 → j ≠ 205 → j ≠ 206 → (j ≠ 195 ∨ (i ≠ 16 ∧ i ≠ 17 ∧ i ≠ 18 ∧ i ≠ 21 ∧ i ≠ 22 ∧ i ≠ 23)) → σ j i = σ j i := fun j i _ _ _ _ _ _ => rfl
  refine h_aload_n C dX9_asksMoor_0 0 rfl rfl ?_
  refine h_callV (As := []) (rest := []) C Z yyX9_asItIs wd_1520 (tgX9_asItIs l D cy z _ hI) kd_195 rfl rfl ⟨rfl, rfl, Nat.le_of_ble_eq_true rfl, Nat.le_of_ble_eq_true rfl⟩ ⟨Nat.le_of_ble_eq_true rfl, Nat.le_of_ble_eq_true rfl⟩ (Nat.le_of_ble_eq_true rfl) dX9_asksMoor_1 (fun r1 τ1 hp1 => ?_)
  obtain ⟨rfl, hI1, hG1⟩ := hp1
  have hF1 : ∀ j i : Nat, j ≠ 202 → j ≠ 203 → j ≠ 204 → j ≠ 205 → j ≠ 206 → (j ≠ 195 ∨ (i ≠ 16 ∧ i ≠ 17 ∧ i ≠ 18 ∧ i ≠ 21 ∧ i ≠ 22 ∧ i ≠ 23)) → τ1 j i = σ j i := fun j i h_0 h_1 h_2 h_3 h_4 h_5 => (hG1 j i (by omega) (by omega) (by omega)).trans (hF0 j i h_0 h_1 h_2 h_3 h_4 h_5)
  show hpV _ _ _ _ _ _ _ _ _ _ _ _ _ _ _ _ _ _ _ _ _ []
  refine h_aload_n C dX9_asksMoor_4 0 rfl rfl ?_
  refine h_callV (As := []) (rest := []) C Z yyX9_goAll wd_1524 (tgX9_goAll l D cy z _ hI1) kd_195 rfl rfl ⟨rfl, rfl, Nat.le_of_ble_eq_true rfl, Nat.le_of_ble_eq_true rfl⟩ ⟨Nat.le_of_ble_eq_true rfl, Nat.le_of_ble_eq_true rfl⟩ (Nat.le_of_ble_eq_true rfl) dX9_asksMoor_5 (fun r2 τ2 hp2 => ?_)
  obtain ⟨rfl, hI2, hG2, hq2_0⟩ := hp2
  have hF2 : ∀ j i : Nat, j ≠ 202 → j ≠ 203 → j ≠ 204 → j ≠ 205 → j ≠ 206 → (j ≠ 195 ∨ (i ≠ 16 ∧ i ≠ 17 ∧ i ≠ 18 ∧ i ≠ 21 ∧ i ≠ 22 ∧ i ≠ 23)) → τ2 j i = σ j i := fun j i h_0 h_1 h_2 h_3 h_4 h_5 => (hG2 j i (by omega) (by omega) (by omega) (by omega)).trans (hF1 j i h_0 h_1 h_2 h_3 h_4 h_5)
  show hpV _ _ _ _ _ _ _ _ _ _ _ _ _ _ _ _ _ _ _ _ _ []
  refine h_aload_n C dX9_asksMoor_8 0 rfl rfl ?_
  refine h_callV (As := []) (rest := []) C Z yyX9_isMoor wd_1571 (tgX9_isMoor l D cy z _ hI2) kd_195 rfl rfl ⟨rfl, rfl, Nat.le_of_ble_eq_true rfl, Nat.le_of_ble_eq_true rfl⟩ ⟨Nat.le_of_ble_eq_true rfl, Nat.le_of_ble_eq_true rfl⟩ (Nat.le_of_ble_eq_true rfl) dX9_asksMoor_9 (fun r3 τ3 hp3 => ?_)
  obtain ⟨⟨x3, rfl, ⟨hx3a, hx3b⟩⟩, rfl⟩ := hp3
  show hpV _ _ _ _ _ _ _ _ _ _ _ _ _ _ _ _ _ _ _ _ _ (_ :: _)
  refine h_zreturn C (by omega) hr hlk dX9_asksMoor_12 ?_
  exact ⟨_, rfl, ⟨by omega, by omega⟩, hI2, hF2, hq2_0⟩
abbrev rgX9_asksDay : Room := { frames := 5, cells := 0, slots := 0, locals := 110 }
abbrev pgX9_asksDay (z : Nat) (σ : hpMem) (a0 : Int) : Option Value → hpMem → Prop := fun r τ => (∃ x : Int, r = some (.int (hpI x)) ∧ (0 ≤ x ∧ x ≤ 1) ∧ (x = 1 → (0 ≤ a0 ∧ a0 ≤ τ 196 0 ∧ a0 ≤ 16)) ∧ hpInv τ ∧ (∀ j i : Nat, j ≠ 202 → j ≠ 203 → j ≠ 204 → j ≠ 205 → j ≠ 206 → (j ≠ 195 ∨ (i ≠ 16 ∧ i ≠ 17 ∧ i ≠ 18 ∧ i ≠ 21 ∧ i ≠ 22 ∧ i ≠ 23)) → τ j i = σ j i) ∧ (∀ r : Int, 0 ≤ r → r ≤ τ 196 0 → hpLe (τ 202) r 700))
set_option maxHeartbeats 4000000 in
set_option maxRecDepth 20000 in
theorem tgX9_asksDay (l : Launch) (D : va_G) (cy : Nat → ClassId) (z : Nat) (σ : hpMem) (a0 : Int) (ha0 : hpR a0) (hI : hpInv σ) : hpM l D cy z yX9_asksDay cX9_asksDay 2 (some .boolean) rgX9_asksDay [.ref (z + 195), .int (hpI a0)] σ (pgX9_asksDay z σ a0) := by
  obtain ⟨ha01, ha02⟩ := ha0
  refine hp_met rfl (Nat.le_of_ble_eq_true rfl) (fun p e s m below meth c C Z hr hlk => ?_)
  have hF0 : ∀ j i : Nat, j ≠ 202 → j ≠ 203 → j ≠ 204 → j ≠ 205 → j ≠ 206 → (j ≠ 195 ∨ (i ≠ 16 ∧ i ≠ 17 ∧ i ≠ 18 ∧ i ≠ 21 ∧ i ≠ 22 ∧ i ≠ 23)) → σ j i = σ j i := fun j i _ _ _ _ _ _ => rfl
  refine h_aload_n C dX9_asksDay_0 0 rfl rfl ?_
  refine h_callV (As := []) (rest := []) C Z yyX9_asksMoor wd_1516 (tgX9_asksMoor l D cy z _ hI) kd_195 rfl rfl ⟨rfl, rfl, Nat.le_of_ble_eq_true rfl, Nat.le_of_ble_eq_true rfl⟩ ⟨Nat.le_of_ble_eq_true rfl, Nat.le_of_ble_eq_true rfl⟩ (Nat.le_of_ble_eq_true rfl) dX9_asksDay_1 (fun r1 τ1 hp1 => ?_)
  obtain ⟨x1, rfl, ⟨hx1a, hx1b⟩, hI1, hG1, hq1_0⟩ := hp1
  have hF1 : ∀ j i : Nat, j ≠ 202 → j ≠ 203 → j ≠ 204 → j ≠ 205 → j ≠ 206 → (j ≠ 195 ∨ (i ≠ 16 ∧ i ≠ 17 ∧ i ≠ 18 ∧ i ≠ 21 ∧ i ≠ 22 ∧ i ≠ 23)) → τ1 j i = σ j i := fun j i h_0 h_1 h_2 h_3 h_4 h_5 => (hG1 j i (by omega) (by omega) (by omega) (by omega) (by omega) (by omega)).trans (hF0 j i h_0 h_1 h_2 h_3 h_4 h_5)
  show hpV _ _ _ _ _ _ _ _ _ _ _ _ _ _ _ _ _ _ _ _ _ (_ :: _)
  refine h_pop C rfl dX9_asksDay_4 ?_
  refine h_aload_n C dX9_asksDay_5 0 rfl rfl ?_
  refine h_iload_n C dX9_asksDay_6 1 rfl rfl ?_
  refine h_i2l C dX9_asksDay_7 ⟨by omega, by omega⟩ ?_
  refine h_callV (As := [.long (hpJ a0)]) (rest := []) C Z yyX9_isDay wd_1575 (tgX9_isDay l D cy z _ a0 ⟨by omega, by omega⟩ hI1) kd_195 rfl rfl ⟨rfl, rfl, Nat.le_of_ble_eq_true rfl, Nat.le_of_ble_eq_true rfl⟩ ⟨Nat.le_of_ble_eq_true rfl, Nat.le_of_ble_eq_true rfl⟩ (Nat.le_of_ble_eq_true rfl) dX9_asksDay_8 (fun r2 τ2 hp2 => ?_)
  obtain ⟨⟨x2, rfl, ⟨hx2a, hx2b⟩, hx2⟩, rfl⟩ := hp2
  show hpV _ _ _ _ _ _ _ _ _ _ _ _ _ _ _ _ _ _ _ _ _ (_ :: _)
  refine h_zreturn C (by omega) hr hlk dX9_asksDay_11 ?_
  exact ⟨_, rfl, ⟨by omega, by omega⟩, by omega, hI1, hF1, hq1_0⟩

abbrev rgX9_in : Room := { frames := 0, cells := 0, slots := 0, locals := 0 }
abbrev pgX9_in (z : Nat) (σ : hpMem) (a0 : Int) (a1 : Int) (a2 : Int) : Option Value → hpMem → Prop := fun r τ => (∃ x : Int, r = some (.int (hpI x)) ∧ (0 ≤ x ∧ x ≤ 1) ∧ ((a1 ≤ a0 ∧ a0 ≤ a2 ∧ x = 1) ∨ ((a0 < a1 ∨ a2 < a0) ∧ x = 0))) ∧ σ = τ
set_option maxHeartbeats 4000000 in
set_option maxRecDepth 20000 in
theorem tgX9_in (l : Launch) (D : va_G) (cy : Nat → ClassId) (z : Nat) (σ : hpMem) (a0 : Int) (ha0 : hpRL a0) (a1 : Int) (ha1 : hpRL a1) (a2 : Int) (ha2 : hpRL a2) (hI : hpInv σ) : hpM l D cy z yX9_in cX9_in 6 (some .boolean) rgX9_in [.long (hpJ a0), .long (hpJ a1), .long (hpJ a2)] σ (pgX9_in z σ a0 a1 a2) := by
  obtain ⟨ha01, ha02⟩ := ha0
  obtain ⟨ha11, ha12⟩ := ha1
  obtain ⟨ha21, ha22⟩ := ha2
  refine hp_met rfl (Nat.le_of_ble_eq_true rfl) (fun p e s m below meth c C Z hr hlk => ?_)
  refine h_lload_n C dX9_in_0 0 rfl rfl ?_
  refine h_lload_n C dX9_in_1 1 rfl rfl ?_
  refine h_lcmp C dX9_in_2 ⟨by omega, by omega⟩ ⟨by omega, by omega⟩ (fun r1 hr1 => ?_)
  refine h_if_lt (tgt := 17) C dX9_in_3 (by decide) ⟨by omega, by omega⟩ (fun h2 => ?_) (fun h2 => ?_)
  · refine h_iconst C dX9_in_17 ?_
    refine h_zreturn C (by omega) hr hlk dX9_in_18 ?_
    exact ⟨⟨_, rfl, ⟨by decide, by decide⟩, by omega⟩, rfl⟩
  · refine h_lload_n C dX9_in_6 0 rfl rfl ?_
    refine h_lload C dX9_in_7 2 rfl ?_
    refine h_lcmp C dX9_in_9 ⟨by omega, by omega⟩ ⟨by omega, by omega⟩ (fun r3 hr3 => ?_)
    refine h_if_gt (tgt := 17) C dX9_in_10 (by decide) ⟨by omega, by omega⟩ (fun h4 => ?_) (fun h4 => ?_)
    · refine h_iconst C dX9_in_17 ?_
      refine h_zreturn C (by omega) hr hlk dX9_in_18 ?_
      exact ⟨⟨_, rfl, ⟨by decide, by decide⟩, by omega⟩, rfl⟩
    · refine h_iconst C dX9_in_13 ?_
      refine h_goto (tgt := 18) C dX9_in_14 (by decide) ?_
      refine h_zreturn C (by omega) hr hlk dX9_in_18 ?_
      exact ⟨⟨_, rfl, ⟨by decide, by decide⟩, by omega⟩, rfl⟩
abbrev rgX9_bits : Room := { frames := 0, cells := 0, slots := 0, locals := 0 }
abbrev pgX9_bits (z : Nat) (σ : hpMem) (a0 : Int) : Option Value → hpMem → Prop := fun r τ => (∃ x : Int, r = some (.int (hpI x)) ∧ (hpR x) ∧ (0 ≤ x ∧ x ≤ 16)) ∧ σ = τ
set_option maxHeartbeats 4000000 in
set_option maxRecDepth 20000 in
theorem tgX9_bits (l : Launch) (D : va_G) (cy : Nat → ClassId) (z : Nat) (σ : hpMem) (a0 : Int) (ha0 : hpR a0) (hI : hpInv σ) : hpM l D cy z yX9_bits cX9_bits 3 (some .int) rgX9_bits [.int (hpI a0)] σ (pgX9_bits z σ a0) := by
  obtain ⟨ha01, ha02⟩ := ha0
  refine hp_met rfl (Nat.le_of_ble_eq_true rfl) (fun p e s m below meth c C Z hr hlk => ?_)
  refine h_iconst C dX9_bits_0 ?_
  refine h_istore_n (lv' := [(1, .int (hpI 0)), (0, .int (hpI a0))]) C dX9_bits_1 rfl (by decide) rfl ?_
  refine h_iconst C dX9_bits_2 ?_
  refine h_istore_n (lv' := [(2, .int (hpI 0)), (1, .int (hpI 0)), (0, .int (hpI a0))]) C dX9_bits_3 rfl (by decide) rfl ?_
  have L1 : ∀ (n1 : Nat) (w1_1 : Int) (w1_2 : Int), 0 ≤ w1_1 → w1_1 ≤ 16 → 0 ≤ w1_2 → w1_2 ≤ 16 → w1_1 ≤ w1_2 → (4294967296 - w1_2) < (n1 : Int) → hpF p l e rgX9_bits s m [.int (hpI a0)] below meth c 3 D cy z (pgX9_bits z σ a0) σ 4 [(0, .int (hpI a0)), (1, .int (hpI w1_1)), (2, .int (hpI w1_2))] [] := by
    intro n1
    induction n1 with
    | zero => intro w1_1 w1_2 hv1_0 hv1_1 hv1_2 hv1_3 hv1_4 hm1; exfalso; omega
    | succ n1 ih1 =>
      intro w1_1 w1_2 hv1_0 hv1_1 hv1_2 hv1_3 hv1_4 hm1
      refine h_iload_n C dX9_bits_4 2 rfl rfl ?_
      refine h_bipush C dX9_bits_5 (by decide) ?_
      refine h_icmp_ge (tgt := 24) C dX9_bits_7 (by decide) ⟨by omega, by omega⟩ ⟨by decide, by decide⟩ (fun h2 => ?_) (fun h2 => ?_)
      · refine h_iload_n C dX9_bits_24 1 rfl rfl ?_
        refine h_ireturn C hr hlk dX9_bits_25 ?_
        exact ⟨⟨_, rfl, ⟨by omega, by omega⟩, by omega⟩, rfl⟩
      · refine h_iload_n C dX9_bits_10 1 rfl rfl ?_
        refine h_iload_n C dX9_bits_11 0 rfl rfl ?_
        refine h_iload_n C dX9_bits_12 2 rfl rfl ?_
        refine h_ishr_any C dX9_bits_13 (fun r3 hr3 => ?_)
        obtain ⟨hr3a, hr3b⟩ := hr3
        refine h_iconst C dX9_bits_14 ?_
        refine h_iand_r C dX9_bits_15 ⟨by decide, by decide⟩ (by omega) (fun r4 hr4a hr4b => ?_)
        refine h_iadd C dX9_bits_16 rfl ?_
        refine h_istore_n (lv' := [(1, .int (hpI (w1_1 + r4))), (0, .int (hpI a0)), (2, .int (hpI w1_2))]) C dX9_bits_17 rfl (by decide) rfl ?_
        refine h_iinc (lv' := [(2, .int (hpI (w1_2 + 1))), (1, .int (hpI (w1_1 + r4))), (0, .int (hpI a0))]) C dX9_bits_18 2 rfl rfl (by decide) rfl ?_
        refine h_goto (tgt := 4) C dX9_bits_21 (by decide) ?_
        exact hp_sub [2, 1, 0] rfl (ih1 (w1_1 + r4) (w1_2 + 1) (by omega) (by omega) (by omega) (by omega) (by omega) (by omega))
  exact hp_sub [2, 1, 0] rfl (L1 8589934592 0 0 (by omega) (by omega) (by omega) (by omega) (by omega) (by omega))
abbrev rgX9_bit : Room := { frames := 0, cells := 0, slots := 0, locals := 0 }
abbrev pgX9_bit (z : Nat) (σ : hpMem) (a0 : Int) (a1 : Int) : Option Value → hpMem → Prop := fun r τ => (∃ x : Int, r = some (.int (hpI x)) ∧ (hpR x) ∧ (x = hpAnd (hpShr a0 a1) 1 ∧ 0 ≤ x ∧ x ≤ 1)) ∧ σ = τ
set_option maxHeartbeats 4000000 in
set_option maxRecDepth 20000 in
theorem tgX9_bit (l : Launch) (D : va_G) (cy : Nat → ClassId) (z : Nat) (σ : hpMem) (a0 : Int) (ha0 : hpR a0) (a1 : Int) (ha1 : hpR a1) (hI : hpInv σ) : hpM l D cy z yX9_bit cX9_bit 2 (some .int) rgX9_bit [.int (hpI a0), .int (hpI a1)] σ (pgX9_bit z σ a0 a1) := by
  obtain ⟨ha01, ha02⟩ := ha0
  obtain ⟨ha11, ha12⟩ := ha1
  refine hp_met rfl (Nat.le_of_ble_eq_true rfl) (fun p e s m below meth c C Z hr hlk => ?_)
  refine h_iload_n C dX9_bit_0 0 rfl rfl ?_
  refine h_iload_n C dX9_bit_1 1 rfl rfl ?_
  refine h_ishrx C dX9_bit_2 ?_
  have hs1 := hpShr_b a0 a1
  obtain ⟨hs1a, hs1b⟩ := hs1
  refine h_iconst C dX9_bit_3 ?_
  refine h_iandx C dX9_bit_4 ?_
  obtain ⟨hs2a, hs2b⟩ := hpAnd_b (hpShr a0 a1)
  refine h_ireturn C hr hlk dX9_bit_5 ?_
  exact ⟨⟨_, rfl, ⟨by omega, by omega⟩, by omega⟩, rfl⟩
abbrev rgX9_isMoor : Room := { frames := 0, cells := 0, slots := 0, locals := 0 }
abbrev pgX9_isMoor (z : Nat) (σ : hpMem) : Option Value → hpMem → Prop := fun r τ => (∃ x : Int, r = some (.int (hpI x)) ∧ (0 ≤ x ∧ x ≤ 1) ∧ ((x = 1 ∧ 0 < σ 196 6) ∨ (x = 0 ∧ σ 196 6 ≤ 0))) ∧ σ = τ
set_option maxHeartbeats 4000000 in
set_option maxRecDepth 20000 in
theorem tgX9_isMoor (l : Launch) (D : va_G) (cy : Nat → ClassId) (z : Nat) (σ : hpMem) (hI : hpInv σ) : hpM l D cy z yX9_isMoor cX9_isMoor 1 (some .boolean) rgX9_isMoor [.ref (z + 195)] σ (pgX9_isMoor z σ) := by
  refine hp_met rfl (Nat.le_of_ble_eq_true rfl) (fun p e s m below meth c C Z hr hlk => ?_)
  refine h_aload_n C dX9_isMoor_0 0 rfl rfl ?_
  refine h_get C O9 1 kd_195 (by decide) wd_1257 dX9_isMoor_1 fr_195_1 ?_
  refine h_bipush C dX9_isMoor_4 (by decide) ?_
  refine h_iaload C dX9_isMoor_6 kd_196 6 rfl (by rw [ln_196]; decide) rfl ?_
  obtain ⟨hr1a, hr1b⟩ := hI.b ((bw_196 6).trans (show hpwb 6 = (0, 16) by decide))
  generalize hg1 : σ 196 6 = r1 at hr1a hr1b ⊢
  refine h_if_le (tgt := 14) C dX9_isMoor_7 (by decide) ⟨by omega, by omega⟩ (fun h2 => ?_) (fun h2 => ?_)
  · refine h_iconst C dX9_isMoor_14 ?_
    refine h_zreturn C (by omega) hr hlk dX9_isMoor_15 ?_
    exact ⟨⟨_, rfl, ⟨by decide, by decide⟩, by omega⟩, rfl⟩
  · refine h_iconst C dX9_isMoor_10 ?_
    refine h_goto (tgt := 15) C dX9_isMoor_11 (by decide) ?_
    refine h_zreturn C (by omega) hr hlk dX9_isMoor_15 ?_
    exact ⟨⟨_, rfl, ⟨by decide, by decide⟩, by omega⟩, rfl⟩
abbrev rgX9_days : Room := { frames := 0, cells := 0, slots := 0, locals := 0 }
abbrev pgX9_days (z : Nat) (σ : hpMem) : Option Value → hpMem → Prop := fun r τ => (∃ x : Int, r = some (.int (hpI x)) ∧ (hpR x) ∧ (x = σ 196 0 ∧ 0 ≤ x ∧ x ≤ 16)) ∧ σ = τ
set_option maxHeartbeats 4000000 in
set_option maxRecDepth 20000 in
theorem tgX9_days (l : Launch) (D : va_G) (cy : Nat → ClassId) (z : Nat) (σ : hpMem) (hI : hpInv σ) : hpM l D cy z yX9_days cX9_days 1 (some .int) rgX9_days [.ref (z + 195)] σ (pgX9_days z σ) := by
  refine hp_met rfl (Nat.le_of_ble_eq_true rfl) (fun p e s m below meth c C Z hr hlk => ?_)
  refine h_aload_n C dX9_days_0 0 rfl rfl ?_
  refine h_get C O9 1 kd_195 (by decide) wd_1257 dX9_days_1 fr_195_1 ?_
  refine h_iconst C dX9_days_4 ?_
  refine h_iaload C dX9_days_5 kd_196 0 rfl (by rw [ln_196]; decide) rfl ?_
  obtain ⟨hr1a, hr1b⟩ := hI.b ((bw_196 0).trans (show hpwb 0 = (0, 16) by decide))
  generalize hg1 : σ 196 0 = r1 at hr1a hr1b ⊢
  refine h_ireturn C hr hlk dX9_days_6 ?_
  exact ⟨⟨_, rfl, ⟨by omega, by omega⟩, by omega⟩, rfl⟩
abbrev rgX9_cartMany : Room := { frames := 0, cells := 0, slots := 0, locals := 0 }
abbrev pgX9_cartMany (z : Nat) (σ : hpMem) : Option Value → hpMem → Prop := fun r τ => (∃ x : Int, r = some (.int (hpI x)) ∧ (hpR x) ∧ (x = σ 196 4 ∧ 0 ≤ x ∧ x ≤ 6)) ∧ σ = τ
set_option maxHeartbeats 4000000 in
set_option maxRecDepth 20000 in
theorem tgX9_cartMany (l : Launch) (D : va_G) (cy : Nat → ClassId) (z : Nat) (σ : hpMem) (hI : hpInv σ) : hpM l D cy z yX9_cartMany cX9_cartMany 1 (some .int) rgX9_cartMany [.ref (z + 195)] σ (pgX9_cartMany z σ) := by
  refine hp_met rfl (Nat.le_of_ble_eq_true rfl) (fun p e s m below meth c C Z hr hlk => ?_)
  refine h_aload_n C dX9_cartMany_0 0 rfl rfl ?_
  refine h_get C O9 1 kd_195 (by decide) wd_1257 dX9_cartMany_1 fr_195_1 ?_
  refine h_iconst C dX9_cartMany_4 ?_
  refine h_iaload C dX9_cartMany_5 kd_196 4 rfl (by rw [ln_196]; decide) rfl ?_
  obtain ⟨hr1a, hr1b⟩ := hI.b ((bw_196 4).trans (show hpwb 4 = (0, 6) by decide))
  generalize hg1 : σ 196 4 = r1 at hr1a hr1b ⊢
  refine h_ireturn C hr hlk dX9_cartMany_6 ?_
  exact ⟨⟨_, rfl, ⟨by omega, by omega⟩, by omega⟩, rfl⟩
abbrev rgX9_isDay : Room := { frames := 1, cells := 0, slots := 0, locals := 25 }
abbrev pgX9_isDay (z : Nat) (σ : hpMem) (a0 : Int) : Option Value → hpMem → Prop := fun r τ => (∃ x : Int, r = some (.int (hpI x)) ∧ (0 ≤ x ∧ x ≤ 1) ∧ (x = 1 → (0 ≤ a0 ∧ a0 ≤ σ 196 0 ∧ a0 ≤ 16))) ∧ σ = τ
set_option maxHeartbeats 4000000 in
set_option maxRecDepth 20000 in
theorem tgX9_isDay (l : Launch) (D : va_G) (cy : Nat → ClassId) (z : Nat) (σ : hpMem) (a0 : Int) (ha0 : hpRL a0) (hI : hpInv σ) : hpM l D cy z yX9_isDay cX9_isDay 3 (some .boolean) rgX9_isDay [.ref (z + 195), .long (hpJ a0)] σ (pgX9_isDay z σ a0) := by
  obtain ⟨ha01, ha02⟩ := ha0
  refine hp_met rfl (Nat.le_of_ble_eq_true rfl) (fun p e s m below meth c C Z hr hlk => ?_)
  refine h_aload_n C dX9_isDay_0 0 rfl rfl ?_
  refine h_callV (As := []) (rest := []) C Z yyX9_isMoor wd_1571 (tgX9_isMoor l D cy z _ hI) kd_195 rfl rfl ⟨rfl, rfl, Nat.le_of_ble_eq_true rfl, Nat.le_of_ble_eq_true rfl⟩ ⟨Nat.le_of_ble_eq_true rfl, Nat.le_of_ble_eq_true rfl⟩ (Nat.le_of_ble_eq_true rfl) dX9_isDay_1 (fun r1 τ1 hp1 => ?_)
  obtain ⟨⟨x1, rfl, ⟨hx1a, hx1b⟩, hx1⟩, rfl⟩ := hp1
  show hpV _ _ _ _ _ _ _ _ _ _ _ _ _ _ _ _ _ _ _ _ _ (_ :: _)
  refine h_if_eq (tgt := 24) C dX9_isDay_4 (by decide) ⟨by omega, by omega⟩ (fun h2 => ?_) (fun h2 => ?_)
  · refine h_iconst C dX9_isDay_24 ?_
    refine h_zreturn C (by omega) hr hlk dX9_isDay_25 ?_
    exact ⟨⟨_, rfl, ⟨by decide, by decide⟩, by omega⟩, rfl⟩
  · refine h_lload_n C dX9_isDay_7 1 rfl rfl ?_
    refine h_lconst C 0 dX9_isDay_8 (by decide) ?_
    refine h_aload_n C dX9_isDay_9 0 rfl rfl ?_
    refine h_callV (As := []) (rest := [.long (hpJ 0), .long (hpJ a0)]) C Z yyX9_days wd_1544 (tgX9_days l D cy z _ hI) kd_195 rfl rfl ⟨rfl, rfl, Nat.le_of_ble_eq_true rfl, Nat.le_of_ble_eq_true rfl⟩ ⟨Nat.le_of_ble_eq_true rfl, Nat.le_of_ble_eq_true rfl⟩ (Nat.le_of_ble_eq_true rfl) dX9_isDay_10 (fun r3 τ3 hp3 => ?_)
    obtain ⟨⟨x3, rfl, ⟨hx3a, hx3b⟩, hx3⟩, rfl⟩ := hp3
    show hpV _ _ _ _ _ _ _ _ _ _ _ _ _ _ _ _ _ _ _ _ _ (_ :: _)
    refine h_i2l C dX9_isDay_13 ⟨by omega, by omega⟩ ?_
    refine h_callS (As := [.long (hpJ a0), .long (hpJ 0), .long (hpJ x3)]) (rest := []) C Z yyX9_in rfl wd_1401 (tgX9_in l D cy z _ a0 ⟨by omega, by omega⟩ 0 ⟨by decide, by decide⟩ x3 ⟨by omega, by omega⟩ hI) rfl rfl ⟨rfl, rfl, Nat.le_of_ble_eq_true rfl, Nat.le_of_ble_eq_true rfl⟩ ⟨Nat.le_of_ble_eq_true rfl, Nat.le_of_ble_eq_true rfl⟩ (Nat.le_of_ble_eq_true rfl) dX9_isDay_14 (fun r4 τ4 hp4 => ?_)
    obtain ⟨⟨x4, rfl, ⟨hx4a, hx4b⟩, hx4⟩, rfl⟩ := hp4
    show hpV _ _ _ _ _ _ _ _ _ _ _ _ _ _ _ _ _ _ _ _ _ (_ :: _)
    refine h_if_eq (tgt := 24) C dX9_isDay_17 (by decide) ⟨by omega, by omega⟩ (fun h5 => ?_) (fun h5 => ?_)
    · refine h_iconst C dX9_isDay_24 ?_
      refine h_zreturn C (by omega) hr hlk dX9_isDay_25 ?_
      exact ⟨⟨_, rfl, ⟨by decide, by decide⟩, by omega⟩, rfl⟩
    · refine h_iconst C dX9_isDay_20 ?_
      refine h_goto (tgt := 25) C dX9_isDay_21 (by decide) ?_
      refine h_zreturn C (by omega) hr hlk dX9_isDay_25 ?_
      exact ⟨⟨_, rfl, ⟨by decide, by decide⟩, by omega⟩, rfl⟩
abbrev rgX9_isAhead : Room := { frames := 1, cells := 0, slots := 0, locals := 25 }
abbrev pgX9_isAhead (z : Nat) (σ : hpMem) (a0 : Int) : Option Value → hpMem → Prop := fun r τ => (∃ x : Int, r = some (.int (hpI x)) ∧ (0 ≤ x ∧ x ≤ 1) ∧ (x = 1 → (0 ≤ a0 ∧ a0 ≤ σ 196 0 - 1 ∧ a0 ≤ 15))) ∧ σ = τ
set_option maxHeartbeats 4000000 in
set_option maxRecDepth 20000 in
theorem tgX9_isAhead (l : Launch) (D : va_G) (cy : Nat → ClassId) (z : Nat) (σ : hpMem) (a0 : Int) (ha0 : hpRL a0) (hI : hpInv σ) : hpM l D cy z yX9_isAhead cX9_isAhead 3 (some .boolean) rgX9_isAhead [.ref (z + 195), .long (hpJ a0)] σ (pgX9_isAhead z σ a0) := by
  obtain ⟨ha01, ha02⟩ := ha0
  refine hp_met rfl (Nat.le_of_ble_eq_true rfl) (fun p e s m below meth c C Z hr hlk => ?_)
  refine h_aload_n C dX9_isAhead_0 0 rfl rfl ?_
  refine h_callV (As := []) (rest := []) C Z yyX9_isMoor wd_1571 (tgX9_isMoor l D cy z _ hI) kd_195 rfl rfl ⟨rfl, rfl, Nat.le_of_ble_eq_true rfl, Nat.le_of_ble_eq_true rfl⟩ ⟨Nat.le_of_ble_eq_true rfl, Nat.le_of_ble_eq_true rfl⟩ (Nat.le_of_ble_eq_true rfl) dX9_isAhead_1 (fun r1 τ1 hp1 => ?_)
  obtain ⟨⟨x1, rfl, ⟨hx1a, hx1b⟩, hx1⟩, rfl⟩ := hp1
  show hpV _ _ _ _ _ _ _ _ _ _ _ _ _ _ _ _ _ _ _ _ _ (_ :: _)
  refine h_if_eq (tgt := 26) C dX9_isAhead_4 (by decide) ⟨by omega, by omega⟩ (fun h2 => ?_) (fun h2 => ?_)
  · refine h_iconst C dX9_isAhead_26 ?_
    refine h_zreturn C (by omega) hr hlk dX9_isAhead_27 ?_
    exact ⟨⟨_, rfl, ⟨by decide, by decide⟩, by omega⟩, rfl⟩
  · refine h_lload_n C dX9_isAhead_7 1 rfl rfl ?_
    refine h_lconst C 0 dX9_isAhead_8 (by decide) ?_
    refine h_aload_n C dX9_isAhead_9 0 rfl rfl ?_
    refine h_callV (As := []) (rest := [.long (hpJ 0), .long (hpJ a0)]) C Z yyX9_days wd_1544 (tgX9_days l D cy z _ hI) kd_195 rfl rfl ⟨rfl, rfl, Nat.le_of_ble_eq_true rfl, Nat.le_of_ble_eq_true rfl⟩ ⟨Nat.le_of_ble_eq_true rfl, Nat.le_of_ble_eq_true rfl⟩ (Nat.le_of_ble_eq_true rfl) dX9_isAhead_10 (fun r3 τ3 hp3 => ?_)
    obtain ⟨⟨x3, rfl, ⟨hx3a, hx3b⟩, hx3⟩, rfl⟩ := hp3
    show hpV _ _ _ _ _ _ _ _ _ _ _ _ _ _ _ _ _ _ _ _ _ (_ :: _)
    refine h_iconst C dX9_isAhead_13 ?_
    refine h_isub C dX9_isAhead_14 rfl ?_
    refine h_i2l C dX9_isAhead_15 ⟨by omega, by omega⟩ ?_
    refine h_callS (As := [.long (hpJ a0), .long (hpJ 0), .long (hpJ (x3 - 1))]) (rest := []) C Z yyX9_in rfl wd_1401 (tgX9_in l D cy z _ a0 ⟨by omega, by omega⟩ 0 ⟨by decide, by decide⟩ (x3 - 1) ⟨by omega, by omega⟩ hI) rfl rfl ⟨rfl, rfl, Nat.le_of_ble_eq_true rfl, Nat.le_of_ble_eq_true rfl⟩ ⟨Nat.le_of_ble_eq_true rfl, Nat.le_of_ble_eq_true rfl⟩ (Nat.le_of_ble_eq_true rfl) dX9_isAhead_16 (fun r4 τ4 hp4 => ?_)
    obtain ⟨⟨x4, rfl, ⟨hx4a, hx4b⟩, hx4⟩, rfl⟩ := hp4
    show hpV _ _ _ _ _ _ _ _ _ _ _ _ _ _ _ _ _ _ _ _ _ (_ :: _)
    refine h_if_eq (tgt := 26) C dX9_isAhead_19 (by decide) ⟨by omega, by omega⟩ (fun h5 => ?_) (fun h5 => ?_)
    · refine h_iconst C dX9_isAhead_26 ?_
      refine h_zreturn C (by omega) hr hlk dX9_isAhead_27 ?_
      exact ⟨⟨_, rfl, ⟨by decide, by decide⟩, by omega⟩, rfl⟩
    · refine h_iconst C dX9_isAhead_22 ?_
      refine h_goto (tgt := 27) C dX9_isAhead_23 (by decide) ?_
      refine h_zreturn C (by omega) hr hlk dX9_isAhead_27 ?_
      exact ⟨⟨_, rfl, ⟨by decide, by decide⟩, by omega⟩, rfl⟩
abbrev rgX9_isHeap : Room := { frames := 1, cells := 0, slots := 0, locals := 25 }
abbrev pgX9_isHeap (z : Nat) (σ : hpMem) (a0 : Int) : Option Value → hpMem → Prop := fun r τ => (∃ x : Int, r = some (.int (hpI x)) ∧ (0 ≤ x ∧ x ≤ 1) ∧ (x = 1 → (0 ≤ a0 ∧ a0 ≤ σ 196 3 - 1 ∧ a0 ≤ 7))) ∧ σ = τ
set_option maxHeartbeats 4000000 in
set_option maxRecDepth 20000 in
theorem tgX9_isHeap (l : Launch) (D : va_G) (cy : Nat → ClassId) (z : Nat) (σ : hpMem) (a0 : Int) (ha0 : hpR a0) (hI : hpInv σ) : hpM l D cy z yX9_isHeap cX9_isHeap 2 (some .boolean) rgX9_isHeap [.ref (z + 195), .int (hpI a0)] σ (pgX9_isHeap z σ a0) := by
  obtain ⟨ha01, ha02⟩ := ha0
  refine hp_met rfl (Nat.le_of_ble_eq_true rfl) (fun p e s m below meth c C Z hr hlk => ?_)
  refine h_iload_n C dX9_isHeap_0 1 rfl rfl ?_
  refine h_i2l C dX9_isHeap_1 ⟨by omega, by omega⟩ ?_
  refine h_lconst C 0 dX9_isHeap_2 (by decide) ?_
  refine h_aload_n C dX9_isHeap_3 0 rfl rfl ?_
  refine h_get C O9 1 kd_195 (by decide) wd_1257 dX9_isHeap_4 fr_195_1 ?_
  refine h_iconst C dX9_isHeap_7 ?_
  refine h_iaload C dX9_isHeap_8 kd_196 3 rfl (by rw [ln_196]; decide) rfl ?_
  obtain ⟨hr1a, hr1b⟩ := hI.b ((bw_196 3).trans (show hpwb 3 = (0, 8) by decide))
  generalize hg1 : σ 196 3 = r1 at hr1a hr1b ⊢
  refine h_iconst C dX9_isHeap_9 ?_
  refine h_isub C dX9_isHeap_10 rfl ?_
  refine h_i2l C dX9_isHeap_11 ⟨by omega, by omega⟩ ?_
  refine h_callS (As := [.long (hpJ a0), .long (hpJ 0), .long (hpJ (r1 - 1))]) (rest := []) C Z yyX9_in rfl wd_1401 (tgX9_in l D cy z _ a0 ⟨by omega, by omega⟩ 0 ⟨by decide, by decide⟩ (r1 - 1) ⟨by omega, by omega⟩ hI) rfl rfl ⟨rfl, rfl, Nat.le_of_ble_eq_true rfl, Nat.le_of_ble_eq_true rfl⟩ ⟨Nat.le_of_ble_eq_true rfl, Nat.le_of_ble_eq_true rfl⟩ (Nat.le_of_ble_eq_true rfl) dX9_isHeap_12 (fun r2 τ2 hp2 => ?_)
  obtain ⟨⟨x2, rfl, ⟨hx2a, hx2b⟩, hx2⟩, rfl⟩ := hp2
  show hpV _ _ _ _ _ _ _ _ _ _ _ _ _ _ _ _ _ _ _ _ _ (_ :: _)
  refine h_zreturn C (by omega) hr hlk dX9_isHeap_15 ?_
  exact ⟨⟨_, rfl, ⟨by omega, by omega⟩, by omega⟩, rfl⟩
abbrev rgX9_isCart : Room := { frames := 1, cells := 0, slots := 0, locals := 25 }
abbrev pgX9_isCart (z : Nat) (σ : hpMem) (a0 : Int) : Option Value → hpMem → Prop := fun r τ => (∃ x : Int, r = some (.int (hpI x)) ∧ (0 ≤ x ∧ x ≤ 1) ∧ (x = 1 → (0 ≤ a0 ∧ a0 ≤ σ 196 4 - 1 ∧ a0 ≤ 5))) ∧ σ = τ
set_option maxHeartbeats 4000000 in
set_option maxRecDepth 20000 in
theorem tgX9_isCart (l : Launch) (D : va_G) (cy : Nat → ClassId) (z : Nat) (σ : hpMem) (a0 : Int) (ha0 : hpR a0) (hI : hpInv σ) : hpM l D cy z yX9_isCart cX9_isCart 2 (some .boolean) rgX9_isCart [.ref (z + 195), .int (hpI a0)] σ (pgX9_isCart z σ a0) := by
  obtain ⟨ha01, ha02⟩ := ha0
  refine hp_met rfl (Nat.le_of_ble_eq_true rfl) (fun p e s m below meth c C Z hr hlk => ?_)
  refine h_iload_n C dX9_isCart_0 1 rfl rfl ?_
  refine h_i2l C dX9_isCart_1 ⟨by omega, by omega⟩ ?_
  refine h_lconst C 0 dX9_isCart_2 (by decide) ?_
  refine h_aload_n C dX9_isCart_3 0 rfl rfl ?_
  refine h_callV (As := []) (rest := [.long (hpJ 0), .long (hpJ a0)]) C Z yyX9_cartMany wd_1504 (tgX9_cartMany l D cy z _ hI) kd_195 rfl rfl ⟨rfl, rfl, Nat.le_of_ble_eq_true rfl, Nat.le_of_ble_eq_true rfl⟩ ⟨Nat.le_of_ble_eq_true rfl, Nat.le_of_ble_eq_true rfl⟩ (Nat.le_of_ble_eq_true rfl) dX9_isCart_4 (fun r1 τ1 hp1 => ?_)
  obtain ⟨⟨x1, rfl, ⟨hx1a, hx1b⟩, hx1⟩, rfl⟩ := hp1
  show hpV _ _ _ _ _ _ _ _ _ _ _ _ _ _ _ _ _ _ _ _ _ (_ :: _)
  refine h_iconst C dX9_isCart_7 ?_
  refine h_isub C dX9_isCart_8 rfl ?_
  refine h_i2l C dX9_isCart_9 ⟨by omega, by omega⟩ ?_
  refine h_callS (As := [.long (hpJ a0), .long (hpJ 0), .long (hpJ (x1 - 1))]) (rest := []) C Z yyX9_in rfl wd_1401 (tgX9_in l D cy z _ a0 ⟨by omega, by omega⟩ 0 ⟨by decide, by decide⟩ (x1 - 1) ⟨by omega, by omega⟩ hI) rfl rfl ⟨rfl, rfl, Nat.le_of_ble_eq_true rfl, Nat.le_of_ble_eq_true rfl⟩ ⟨Nat.le_of_ble_eq_true rfl, Nat.le_of_ble_eq_true rfl⟩ (Nat.le_of_ble_eq_true rfl) dX9_isCart_10 (fun r2 τ2 hp2 => ?_)
  obtain ⟨⟨x2, rfl, ⟨hx2a, hx2b⟩, hx2⟩, rfl⟩ := hp2
  show hpV _ _ _ _ _ _ _ _ _ _ _ _ _ _ _ _ _ _ _ _ _ (_ :: _)
  refine h_zreturn C (by omega) hr hlk dX9_isCart_13 ?_
  exact ⟨⟨_, rfl, ⟨by omega, by omega⟩, by omega⟩, rfl⟩
abbrev rgX9_isSlot : Room := { frames := 1, cells := 0, slots := 0, locals := 25 }
abbrev pgX9_isSlot (z : Nat) (σ : hpMem) (a0 : Int) : Option Value → hpMem → Prop := fun r τ => (∃ x : Int, r = some (.int (hpI x)) ∧ (0 ≤ x ∧ x ≤ 1) ∧ ((x = 1 ∧ 0 ≤ a0 ∧ a0 ≤ 3) ∨ (x = 0 ∧ (a0 < 0 ∨ 3 < a0)))) ∧ σ = τ
set_option maxHeartbeats 4000000 in
set_option maxRecDepth 20000 in
theorem tgX9_isSlot (l : Launch) (D : va_G) (cy : Nat → ClassId) (z : Nat) (σ : hpMem) (a0 : Int) (ha0 : hpR a0) (hI : hpInv σ) : hpM l D cy z yX9_isSlot cX9_isSlot 1 (some .boolean) rgX9_isSlot [.int (hpI a0)] σ (pgX9_isSlot z σ a0) := by
  obtain ⟨ha01, ha02⟩ := ha0
  refine hp_met rfl (Nat.le_of_ble_eq_true rfl) (fun p e s m below meth c C Z hr hlk => ?_)
  refine h_iload_n C dX9_isSlot_0 0 rfl rfl ?_
  refine h_i2l C dX9_isSlot_1 ⟨by omega, by omega⟩ ?_
  refine h_lconst C 0 dX9_isSlot_2 (by decide) ?_
  refine h_ldc2 C 3 wd_1782 (by decide) dX9_isSlot_3 ?_
  refine h_callS (As := [.long (hpJ a0), .long (hpJ 0), .long (hpJ 3)]) (rest := []) C Z yyX9_in rfl wd_1401 (tgX9_in l D cy z _ a0 ⟨by omega, by omega⟩ 0 ⟨by decide, by decide⟩ 3 ⟨by decide, by decide⟩ hI) rfl rfl ⟨rfl, rfl, Nat.le_of_ble_eq_true rfl, Nat.le_of_ble_eq_true rfl⟩ ⟨Nat.le_of_ble_eq_true rfl, Nat.le_of_ble_eq_true rfl⟩ (Nat.le_of_ble_eq_true rfl) dX9_isSlot_6 (fun r1 τ1 hp1 => ?_)
  obtain ⟨⟨x1, rfl, ⟨hx1a, hx1b⟩, hx1⟩, rfl⟩ := hp1
  show hpV _ _ _ _ _ _ _ _ _ _ _ _ _ _ _ _ _ _ _ _ _ (_ :: _)
  refine h_zreturn C (by omega) hr hlk dX9_isSlot_9 ?_
  exact ⟨⟨_, rfl, ⟨by omega, by omega⟩, by omega⟩, rfl⟩
abbrev rgX9_feed : Room := { frames := 0, cells := 0, slots := 0, locals := 0 }
abbrev pgX9_feed (z : Nat) (σ : hpMem) (a0 : Int) (a1 : Int) (a2 : Int) (a3 : Int) (a4 : Int) : Option Value → hpMem → Prop := fun r τ => (∃ x : Int, r = some (.int (hpI x)) ∧ (hpR x)) ∧ hpInv τ ∧ (∀ j i : Nat, j ≠ 199 → j ≠ 200 → (j ≠ 195 ∨ (i ≠ 5)) → τ j i = σ j i)
set_option maxHeartbeats 4000000 in
set_option maxRecDepth 20000 in
theorem tgX9_feed (l : Launch) (D : va_G) (cy : Nat → ClassId) (z : Nat) (σ : hpMem) (a0 : Int) (ha0 : hpR a0) (a1 : Int) (ha1 : hpR a1) (a2 : Int) (ha2 : hpR a2) (a3 : Int) (ha3 : hpR a3) (a4 : Int) (ha4 : hpR a4) (hI : hpInv σ) : hpM l D cy z yX9_feed cX9_feed 7 (some .int) rgX9_feed [.ref (z + 195), .int (hpI a0), .int (hpI a1), .int (hpI a2), .int (hpI a3), .int (hpI a4)] σ (pgX9_feed z σ a0 a1 a2 a3 a4) := by
  obtain ⟨ha01, ha02⟩ := ha0
  obtain ⟨ha11, ha12⟩ := ha1
  obtain ⟨ha21, ha22⟩ := ha2
  obtain ⟨ha31, ha32⟩ := ha3
  obtain ⟨ha41, ha42⟩ := ha4
  refine hp_met rfl (Nat.le_of_ble_eq_true rfl) (fun p e s m below meth c C Z hr hlk => ?_)
  have hF0 : ∀ j i : Nat, j ≠ 199 → j ≠ 200 → (j ≠ 195 ∨ (i ≠ 5)) → σ j i = σ j i := fun j i _ _ _ => rfl
  refine h_aload_n C dX9_feed_0 0 rfl rfl ?_
  refine h_get C O9 5 kd_195 (by decide) wd_1261 dX9_feed_1 (hp_fvI (by rw [kd_195]; rfl) rfl) ?_
  obtain ⟨hr1a, hr1b⟩ := hI.b (bf_9_5 kd_195)
  generalize hg1 : σ 195 5 = r1 at hr1a hr1b ⊢
  refine h_bipush C dX9_feed_4 (by decide) ?_
  refine h_iadd C dX9_feed_6 rfl ?_
  refine h_sipush C dX9_feed_7 (by decide) ?_
  refine h_icmp_le (tgt := 15) C dX9_feed_10 (by decide) ⟨by omega, by omega⟩ ⟨by decide, by decide⟩ (fun h2 => ?_) (fun h2 => ?_)
  · refine h_aload_n C dX9_feed_15 0 rfl rfl ?_
    refine h_get C O9 6 kd_195 (by decide) wd_1262 dX9_feed_16 fr_195_6 ?_
    refine h_iconst C dX9_feed_19 ?_
    refine h_iload_n C dX9_feed_20 1 rfl rfl ?_
    refine h_iastore C dX9_feed_21 kd_200 0 rfl (by rw [ln_200]; decide) ?_
    obtain ⟨τ3, e3⟩ : ∃ μ : hpMem, μ = hpw σ 200 0 a0 := ⟨_, rfl⟩
    rw [← e3]
    have hI3 : hpInv τ3 := by rw [e3]; exact hI.w (bo_200 _) (by omega) (by omega)
    have hF3 : ∀ j i : Nat, j ≠ 199 → j ≠ 200 → (j ≠ 195 ∨ (i ≠ 5)) → τ3 j i = σ j i := fun j i h_0 h_1 h_2 => by rw [e3]; exact (hpw_fr (by omega)).trans (hF0 j i h_0 h_1 h_2)
    have hg4 : τ3 195 5 = r1 := by rw [e3]; exact (hpw_fr (Or.inl (by omega))).trans hg1
    have hg5 : τ3 200 0 = a0 := by rw [e3]; exact hpw_eq
    refine h_aload_n C dX9_feed_22 0 rfl rfl ?_
    refine h_get C O9 6 kd_195 (by decide) wd_1262 dX9_feed_23 fr_195_6 ?_
    refine h_iconst C dX9_feed_26 ?_
    refine h_iload_n C dX9_feed_27 2 rfl rfl ?_
    refine h_iastore C dX9_feed_28 kd_200 1 rfl (by rw [ln_200]; decide) ?_
    obtain ⟨τ6, e6⟩ : ∃ μ : hpMem, μ = hpw τ3 200 1 a1 := ⟨_, rfl⟩
    rw [← e6]
    have hI6 : hpInv τ6 := by rw [e6]; exact hI3.w (bo_200 _) (by omega) (by omega)
    have hF6 : ∀ j i : Nat, j ≠ 199 → j ≠ 200 → (j ≠ 195 ∨ (i ≠ 5)) → τ6 j i = σ j i := fun j i h_0 h_1 h_2 => by rw [e6]; exact (hpw_fr (by omega)).trans (hF3 j i h_0 h_1 h_2)
    have hg7 : τ6 195 5 = r1 := by rw [e6]; exact (hpw_fr (Or.inl (by omega))).trans hg4
    have hg8 : τ6 200 0 = a0 := by rw [e6]; exact (hpw_fr (Or.inr (by decide))).trans hg5
    have hg9 : τ6 200 1 = a1 := by rw [e6]; exact hpw_eq
    refine h_aload_n C dX9_feed_29 0 rfl rfl ?_
    refine h_get C O9 6 kd_195 (by decide) wd_1262 dX9_feed_30 fr_195_6 ?_
    refine h_iconst C dX9_feed_33 ?_
    refine h_iload_n C dX9_feed_34 3 rfl rfl ?_
    refine h_iastore C dX9_feed_35 kd_200 2 rfl (by rw [ln_200]; decide) ?_
    obtain ⟨τ10, e10⟩ : ∃ μ : hpMem, μ = hpw τ6 200 2 a2 := ⟨_, rfl⟩
    rw [← e10]
    have hI10 : hpInv τ10 := by rw [e10]; exact hI6.w (bo_200 _) (by omega) (by omega)
    have hF10 : ∀ j i : Nat, j ≠ 199 → j ≠ 200 → (j ≠ 195 ∨ (i ≠ 5)) → τ10 j i = σ j i := fun j i h_0 h_1 h_2 => by rw [e10]; exact (hpw_fr (by omega)).trans (hF6 j i h_0 h_1 h_2)
    have hg11 : τ10 195 5 = r1 := by rw [e10]; exact (hpw_fr (Or.inl (by omega))).trans hg7
    have hg12 : τ10 200 0 = a0 := by rw [e10]; exact (hpw_fr (Or.inr (by decide))).trans hg8
    have hg13 : τ10 200 1 = a1 := by rw [e10]; exact (hpw_fr (Or.inr (by decide))).trans hg9
    have hg14 : τ10 200 2 = a2 := by rw [e10]; exact hpw_eq
    refine h_aload_n C dX9_feed_36 0 rfl rfl ?_
    refine h_get C O9 6 kd_195 (by decide) wd_1262 dX9_feed_37 fr_195_6 ?_
    refine h_iconst C dX9_feed_40 ?_
    refine h_iload C dX9_feed_41 4 rfl ?_
    refine h_iastore C dX9_feed_43 kd_200 3 rfl (by rw [ln_200]; decide) ?_
    obtain ⟨τ15, e15⟩ : ∃ μ : hpMem, μ = hpw τ10 200 3 a3 := ⟨_, rfl⟩
    rw [← e15]
    have hI15 : hpInv τ15 := by rw [e15]; exact hI10.w (bo_200 _) (by omega) (by omega)
    have hF15 : ∀ j i : Nat, j ≠ 199 → j ≠ 200 → (j ≠ 195 ∨ (i ≠ 5)) → τ15 j i = σ j i := fun j i h_0 h_1 h_2 => by rw [e15]; exact (hpw_fr (by omega)).trans (hF10 j i h_0 h_1 h_2)
    have hg16 : τ15 195 5 = r1 := by rw [e15]; exact (hpw_fr (Or.inl (by omega))).trans hg11
    have hg17 : τ15 200 0 = a0 := by rw [e15]; exact (hpw_fr (Or.inr (by decide))).trans hg12
    have hg18 : τ15 200 1 = a1 := by rw [e15]; exact (hpw_fr (Or.inr (by decide))).trans hg13
    have hg19 : τ15 200 2 = a2 := by rw [e15]; exact (hpw_fr (Or.inr (by decide))).trans hg14
    have hg20 : τ15 200 3 = a3 := by rw [e15]; exact hpw_eq
    refine h_aload_n C dX9_feed_44 0 rfl rfl ?_
    refine h_get C O9 6 kd_195 (by decide) wd_1262 dX9_feed_45 fr_195_6 ?_
    refine h_iconst C dX9_feed_48 ?_
    refine h_iload C dX9_feed_49 5 rfl ?_
    refine h_iastore C dX9_feed_51 kd_200 4 rfl (by rw [ln_200]; decide) ?_
    obtain ⟨τ21, e21⟩ : ∃ μ : hpMem, μ = hpw τ15 200 4 a4 := ⟨_, rfl⟩
    rw [← e21]
    have hI21 : hpInv τ21 := by rw [e21]; exact hI15.w (bo_200 _) (by omega) (by omega)
    have hF21 : ∀ j i : Nat, j ≠ 199 → j ≠ 200 → (j ≠ 195 ∨ (i ≠ 5)) → τ21 j i = σ j i := fun j i h_0 h_1 h_2 => by rw [e21]; exact (hpw_fr (by omega)).trans (hF15 j i h_0 h_1 h_2)
    have hg22 : τ21 195 5 = r1 := by rw [e21]; exact (hpw_fr (Or.inl (by omega))).trans hg16
    have hg23 : τ21 200 0 = a0 := by rw [e21]; exact (hpw_fr (Or.inr (by decide))).trans hg17
    have hg24 : τ21 200 1 = a1 := by rw [e21]; exact (hpw_fr (Or.inr (by decide))).trans hg18
    have hg25 : τ21 200 2 = a2 := by rw [e21]; exact (hpw_fr (Or.inr (by decide))).trans hg19
    have hg26 : τ21 200 3 = a3 := by rw [e21]; exact (hpw_fr (Or.inr (by decide))).trans hg20
    have hg27 : τ21 200 4 = a4 := by rw [e21]; exact hpw_eq
    refine h_iconst C dX9_feed_52 ?_
    refine h_istore (lv' := [(6, .int (hpI 0)), (0, .ref (z + 195)), (1, .int (hpI a0)), (2, .int (hpI a1)), (3, .int (hpI a2)), (4, .int (hpI a3)), (5, .int (hpI a4))]) C dX9_feed_53 (by decide) rfl ?_
    have L28 : ∀ (n28 : Nat) (τ28 : hpMem) (w28_6 : Int), 0 ≤ w28_6 → w28_6 ≤ 2147483647 → hpInv τ28 → (∀ j i : Nat, j ≠ 199 → j ≠ 200 → (j ≠ 195 ∨ (i ≠ 5)) → τ28 j i = σ j i) → (τ28 195 5 ≤ 480) → (4294967296 - w28_6) < (n28 : Int) → hpF p l e rgX9_feed s m [.ref (z + 195), .int (hpI a0), .int (hpI a1), .int (hpI a2), .int (hpI a3), .int (hpI a4)] below meth c 7 D cy z (pgX9_feed z σ a0 a1 a2 a3 a4) τ28 55 [(0, .ref (z + 195)), (1, .int (hpI a0)), (2, .int (hpI a1)), (3, .int (hpI a2)), (4, .int (hpI a3)), (5, .int (hpI a4)), (6, .int (hpI w28_6))] [] := by
      intro n28
      induction n28 with
      | zero => intro τ28 w28_6 hv28_0 hv28_1 hI28 hF28 hM28_0 hm28; exfalso; omega
      | succ n28 ih28 =>
        intro τ28 w28_6 hv28_0 hv28_1 hI28 hF28 hM28_0 hm28
        refine h_iload C dX9_feed_55 6 rfl ?_
        refine h_bipush C dX9_feed_57 (by decide) ?_
        refine h_icmp_ge (tgt := 101) C dX9_feed_59 (by decide) ⟨by omega, by omega⟩ ⟨by decide, by decide⟩ (fun h29 => ?_) (fun h29 => ?_)
        · refine h_aload_n C dX9_feed_101 0 rfl rfl ?_
          refine h_dup C rfl dX9_feed_102 ?_
          refine h_get C O9 5 kd_195 (by decide) wd_1261 dX9_feed_103 (hp_fvI (by rw [kd_195]; rfl) rfl) ?_
          obtain ⟨hr30a, hr30b⟩ := hI28.b (bf_9_5 kd_195)
          generalize hg30 : τ28 195 5 = r30 at hr30a hr30b ⊢
          refine h_bipush C dX9_feed_106 (by decide) ?_
          refine h_iadd C dX9_feed_108 rfl ?_
          refine h_put C O9 5 kd_195 (by decide) rfl wd_1261 dX9_feed_109 rfl rfl (hp_fvI (by rw [kd_195]; rfl) hpu_at) ?_
          obtain ⟨τ31, e31⟩ : ∃ μ : hpMem, μ = hpw τ28 195 5 (r30 + 20) := ⟨_, rfl⟩
          rw [← e31]
          have hI31 : hpInv τ31 := by rw [e31]; exact hI28.w (bf_9_5 kd_195) (by omega) (by omega)
          have hF31 : ∀ j i : Nat, j ≠ 199 → j ≠ 200 → (j ≠ 195 ∨ (i ≠ 5)) → τ31 j i = σ j i := fun j i h_0 h_1 h_2 => by rw [e31]; exact (hpw_fr (by omega)).trans (hF28 j i h_0 h_1 h_2)
          have hg32 : τ31 195 5 = r30 + 20 := by rw [e31]; exact hpw_eq
          refine h_aload_n C dX9_feed_112 0 rfl rfl ?_
          refine h_get C O9 5 kd_195 (by decide) wd_1261 dX9_feed_113 (hp_fvI (by rw [kd_195]; rfl) rfl) ?_
          rw [hg32]
          refine h_ireturn C hr hlk dX9_feed_116 ?_
          exact ⟨⟨_, rfl, ⟨by omega, by omega⟩⟩, hI31, hF31⟩
        · refine h_aload_n C dX9_feed_62 0 rfl rfl ?_
          refine h_get C O9 4 kd_195 (by decide) wd_1260 dX9_feed_63 fr_195_4 ?_
          refine h_aload_n C dX9_feed_66 0 rfl rfl ?_
          refine h_get C O9 5 kd_195 (by decide) wd_1261 dX9_feed_67 (hp_fvI (by rw [kd_195]; rfl) rfl) ?_
          obtain ⟨hr33a, hr33b⟩ := hI28.b (bf_9_5 kd_195)
          generalize hg33 : τ28 195 5 = r33 at hr33a hr33b ⊢
          refine h_iload C dX9_feed_70 6 rfl ?_
          refine h_iadd C dX9_feed_72 rfl ?_
          refine h_aload_n C dX9_feed_73 0 rfl rfl ?_
          refine h_get C O9 6 kd_195 (by decide) wd_1262 dX9_feed_74 fr_195_6 ?_
          refine h_iload C dX9_feed_77 6 rfl ?_
          refine h_iconst C dX9_feed_79 ?_
          refine h_idiv C dX9_feed_80 (by omega) (by omega) (by omega) (by omega) ?_
          refine h_iaload C dX9_feed_81 kd_200 (w28_6 / 4).toNat (Int.toNat_of_nonneg (by omega)) (by rw [ln_200]; omega) rfl ?_
          obtain ⟨hr34a, hr34b⟩ := hI28.b (bo_200 _)
          generalize hg34 : τ28 200 ((w28_6 / 4).toNat) = r34 at hr34a hr34b ⊢
          refine h_bipush C dX9_feed_82 (by decide) ?_
          refine h_bipush C dX9_feed_84 (by decide) ?_
          refine h_iload C dX9_feed_86 6 rfl ?_
          refine h_iconst C dX9_feed_88 ?_
          refine h_irem C dX9_feed_89 (by omega) (by omega) (by omega) (by omega) ?_
          refine h_imul C dX9_feed_90 rfl ?_
          refine h_isub C dX9_feed_91 rfl ?_
          refine h_ishr_any C dX9_feed_92 (fun r35 hr35 => ?_)
          obtain ⟨hr35a, hr35b⟩ := hr35
          refine h_i2b C dX9_feed_93 (fun r36 hr36a hr36b => ?_)
          refine h_bastore C dX9_feed_94 kd_199 (by omega) (by omega) (r33 + w28_6).toNat (Int.toNat_of_nonneg (by omega)) (by rw [ln_199]; omega) ?_
          obtain ⟨τ37, e37⟩ : ∃ μ : hpMem, μ = hpw τ28 199 ((r33 + w28_6).toNat) r36 := ⟨_, rfl⟩
          rw [← e37]
          have hI37 : hpInv τ37 := by rw [e37]; exact hI28.w (bo_199 _) (by omega) (by omega)
          have hF37 : ∀ j i : Nat, j ≠ 199 → j ≠ 200 → (j ≠ 195 ∨ (i ≠ 5)) → τ37 j i = σ j i := fun j i h_0 h_1 h_2 => by rw [e37]; exact (hpw_fr (by omega)).trans (hF28 j i h_0 h_1 h_2)
          have hg38 : τ37 195 5 = r33 := by rw [e37]; exact (hpw_fr (Or.inl (by omega))).trans hg33
          have hg39 : τ37 200 ((w28_6 / 4).toNat) = r34 := by rw [e37]; exact (hpw_fr (Or.inl (by omega))).trans hg34
          refine h_iinc (lv' := [(6, .int (hpI (w28_6 + 1))), (0, .ref (z + 195)), (1, .int (hpI a0)), (2, .int (hpI a1)), (3, .int (hpI a2)), (4, .int (hpI a3)), (5, .int (hpI a4))]) C dX9_feed_95 6 rfl rfl (by decide) rfl ?_
          refine h_goto (tgt := 55) C dX9_feed_98 (by decide) ?_
          exact hp_sub [1, 2, 3, 4, 5, 6, 0] rfl (ih28 _ (w28_6 + 1) (by omega) (by omega) hI37 hF37 (by rw [e37, hpw_fr (Or.inl (by decide))]; omega) (by omega))
    exact hp_sub [1, 2, 3, 4, 5, 6, 0] rfl (L28 8589934592 _ 0 (by omega) (by omega) hI21 hF21 (by omega) (by omega))
  · refine h_iconst C dX9_feed_13 ?_
    refine h_ireturn C hr hlk dX9_feed_14 ?_
    exact ⟨⟨_, rfl, ⟨by decide, by decide⟩⟩, hI, hF0⟩
abbrev rgX9_end : Room := { frames := 1, cells := 0, slots := 0, locals := 25 }
abbrev pgX9_end (z : Nat) (σ : hpMem) (a0 : Int) : Option Value → hpMem → Prop := fun r τ => (∃ x : Int, r = some (.int (hpI x)) ∧ (hpR x)) ∧ hpInv τ ∧ (∀ j i : Nat, (j ≠ 195 ∨ (i ≠ 5)) → τ j i = σ j i)
set_option maxHeartbeats 4000000 in
set_option maxRecDepth 20000 in
theorem tgX9_end (l : Launch) (D : va_G) (cy : Nat → ClassId) (z : Nat) (σ : hpMem) (a0 : Int) (ha0 : hpR a0) (hI : hpInv σ) : hpM l D cy z yX9_end cX9_end 2 (some .int) rgX9_end [.ref (z + 195), .int (hpI a0)] σ (pgX9_end z σ a0) := by
  obtain ⟨ha01, ha02⟩ := ha0
  refine hp_met rfl (Nat.le_of_ble_eq_true rfl) (fun p e s m below meth c C Z hr hlk => ?_)
  have hF0 : ∀ j i : Nat, (j ≠ 195 ∨ (i ≠ 5)) → σ j i = σ j i := fun j i _ => rfl
  refine h_iload_n C dX9_end_0 1 rfl rfl ?_
  refine h_i2l C dX9_end_1 ⟨by omega, by omega⟩ ?_
  refine h_lconst C 0 dX9_end_2 (by decide) ?_
  refine h_aload_n C dX9_end_3 0 rfl rfl ?_
  refine h_get C O9 5 kd_195 (by decide) wd_1261 dX9_end_4 (hp_fvI (by rw [kd_195]; rfl) rfl) ?_
  obtain ⟨hr1a, hr1b⟩ := hI.b (bf_9_5 kd_195)
  generalize hg1 : σ 195 5 = r1 at hr1a hr1b ⊢
  refine h_i2l C dX9_end_7 ⟨by omega, by omega⟩ ?_
  refine h_callS (As := [.long (hpJ a0), .long (hpJ 0), .long (hpJ r1)]) (rest := []) C Z yyX9_in rfl wd_1401 (tgX9_in l D cy z _ a0 ⟨by omega, by omega⟩ 0 ⟨by decide, by decide⟩ r1 ⟨by omega, by omega⟩ hI) rfl rfl ⟨rfl, rfl, Nat.le_of_ble_eq_true rfl, Nat.le_of_ble_eq_true rfl⟩ ⟨Nat.le_of_ble_eq_true rfl, Nat.le_of_ble_eq_true rfl⟩ (Nat.le_of_ble_eq_true rfl) dX9_end_8 (fun r2 τ2 hp2 => ?_)
  obtain ⟨⟨x2, rfl, ⟨hx2a, hx2b⟩, hx2⟩, rfl⟩ := hp2
  show hpV _ _ _ _ _ _ _ _ _ _ _ _ _ _ _ _ _ _ _ _ _ (_ :: _)
  refine h_if_ne (tgt := 16) C dX9_end_11 (by decide) ⟨by omega, by omega⟩ (fun h3 => ?_) (fun h3 => ?_)
  · refine h_aload_n C dX9_end_16 0 rfl rfl ?_
    refine h_iload_n C dX9_end_17 1 rfl rfl ?_
    refine h_put C O9 5 kd_195 (by decide) rfl wd_1261 dX9_end_18 rfl rfl (hp_fvI (by rw [kd_195]; rfl) hpu_at) ?_
    obtain ⟨τ4, e4⟩ : ∃ μ : hpMem, μ = hpw σ 195 5 a0 := ⟨_, rfl⟩
    rw [← e4]
    have hI4 : hpInv τ4 := by rw [e4]; exact hI.w (bf_9_5 kd_195) (by omega) (by omega)
    have hF4 : ∀ j i : Nat, (j ≠ 195 ∨ (i ≠ 5)) → τ4 j i = σ j i := fun j i h_0 => by rw [e4]; exact (hpw_fr (by omega)).trans (hF0 j i h_0)
    have hg5 : τ4 195 5 = a0 := by rw [e4]; exact hpw_eq
    refine h_iload_n C dX9_end_21 1 rfl rfl ?_
    refine h_ireturn C hr hlk dX9_end_22 ?_
    exact ⟨⟨_, rfl, ⟨by omega, by omega⟩⟩, hI4, hF4⟩
  · refine h_iconst C dX9_end_14 ?_
    refine h_ireturn C hr hlk dX9_end_15 ?_
    exact ⟨⟨_, rfl, ⟨by decide, by decide⟩⟩, hI, hF0⟩
abbrev rgX9_see : Room := { frames := 0, cells := 0, slots := 0, locals := 0 }
abbrev pgX9_see (z : Nat) (σ : hpMem) (a0 : Int) : Option Value → hpMem → Prop := fun r τ => (∃ x : Int, r = some (.int (hpI x)) ∧ (hpR x) ∧ (-1 ≤ x ∧ x ≤ 255 ∧ (x ≠ -1 → a0 ≤ 499))) ∧ σ = τ
set_option maxHeartbeats 4000000 in
set_option maxRecDepth 20000 in
theorem tgX9_see (l : Launch) (D : va_G) (cy : Nat → ClassId) (z : Nat) (σ : hpMem) (a0 : Int) (ha0 : hpR a0) (hI : hpInv σ) (hk0 : 0 ≤ a0 ∧ a0 ≤ 500) : hpM l D cy z yX9_see cX9_see 2 (some .int) rgX9_see [.ref (z + 195), .int (hpI a0)] σ (pgX9_see z σ a0) := by
  obtain ⟨ha01, ha02⟩ := ha0
  refine hp_met rfl (Nat.le_of_ble_eq_true rfl) (fun p e s m below meth c C Z hr hlk => ?_)
  refine h_iload_n C dX9_see_0 1 rfl rfl ?_
  refine h_aload_n C dX9_see_1 0 rfl rfl ?_
  refine h_get C O9 7 kd_195 (by decide) wd_1263 dX9_see_2 (hp_fvI (by rw [kd_195]; rfl) rfl) ?_
  obtain ⟨hr1a, hr1b⟩ := hI.b (bf_9_7 kd_195)
  generalize hg1 : σ 195 7 = r1 at hr1a hr1b ⊢
  refine h_icmp_ge (tgt := 21) C dX9_see_5 (by decide) ⟨by omega, by omega⟩ ⟨by omega, by omega⟩ (fun h2 => ?_) (fun h2 => ?_)
  · refine h_iconst C dX9_see_21 ?_
    refine h_ireturn C hr hlk dX9_see_22 ?_
    exact ⟨⟨_, rfl, ⟨by decide, by decide⟩, by omega⟩, rfl⟩
  · refine h_aload_n C dX9_see_8 0 rfl rfl ?_
    refine h_get C O9 4 kd_195 (by decide) wd_1260 dX9_see_9 fr_195_4 ?_
    refine h_iload_n C dX9_see_12 1 rfl rfl ?_
    refine h_baload C dX9_see_13 kd_199 (a0).toNat (Int.toNat_of_nonneg (by omega)) (by rw [ln_199]; omega) rfl ?_
    obtain ⟨hr3a, hr3b⟩ := hI.b (bo_199 _)
    generalize hg3 : σ 199 ((a0).toNat) = r3 at hr3a hr3b ⊢
    refine h_sipush C dX9_see_14 (by decide) ?_
    refine h_iand_r C dX9_see_17 ⟨by decide, by decide⟩ (by omega) (fun r4 hr4a hr4b => ?_)
    refine h_goto (tgt := 22) C dX9_see_18 (by decide) ?_
    refine h_ireturn C hr hlk dX9_see_22 ?_
    exact ⟨⟨_, rfl, ⟨by omega, by omega⟩, by omega⟩, rfl⟩
abbrev rgX9_advance : Room := { frames := 1, cells := 0, slots := 0, locals := 29 }
abbrev pgX9_advance (z : Nat) (σ : hpMem) : Option Value → hpMem → Prop := fun r τ => r = none ∧ hpInv τ ∧ (∀ j i : Nat, (j ≠ 195 ∨ (i ≠ 8 ∧ i ≠ 9 ∧ i ≠ 10 ∧ i ≠ 11)) → τ j i = σ j i)
set_option maxHeartbeats 4000000 in
set_option maxRecDepth 20000 in
theorem tgX9_advance (l : Launch) (D : va_G) (cy : Nat → ClassId) (z : Nat) (σ : hpMem) (hI : hpInv σ) : hpM l D cy z yX9_advance cX9_advance 2 none rgX9_advance [.ref (z + 195)] σ (pgX9_advance z σ) := by
  refine hp_met rfl (Nat.le_of_ble_eq_true rfl) (fun p e s m below meth c C Z hr hlk => ?_)
  have hF0 : ∀ j i : Nat, (j ≠ 195 ∨ (i ≠ 8 ∧ i ≠ 9 ∧ i ≠ 10 ∧ i ≠ 11)) → σ j i = σ j i := fun j i _ => rfl
  have L1 : ∀ (n1 : Nat) (τ1 : hpMem), hpInv τ1 → (∀ j i : Nat, (j ≠ 195 ∨ (i ≠ 8 ∧ i ≠ 9 ∧ i ≠ 10 ∧ i ≠ 11)) → τ1 j i = σ j i) → (501 - τ1 195 8) < (n1 : Int) → hpF p l e rgX9_advance s m [.ref (z + 195)] below meth c 2 D cy z (pgX9_advance z σ) τ1 0 [(0, .ref (z + 195))] [] := by
    intro n1
    induction n1 with
    | zero => intro τ1 hI1 hF1 hm1; have hz1_0 := hI1.b (bf_9_8 kd_195); exfalso; omega
    | succ n1 ih1 =>
      intro τ1 hI1 hF1 hm1
      have hz1_0 := hI1.b (bf_9_8 kd_195)
      refine h_aload_n C dX9_advance_0 0 rfl rfl ?_
      refine h_aload_n C dX9_advance_1 0 rfl rfl ?_
      refine h_get C O9 8 kd_195 (by decide) wd_1264 dX9_advance_2 (hp_fvI (by rw [kd_195]; rfl) rfl) ?_
      obtain ⟨hr2a, hr2b⟩ := hI1.b (bf_9_8 kd_195)
      generalize hg2 : τ1 195 8 = r2 at hr2a hr2b ⊢
      refine h_callV (As := [.int (hpI r2)]) (rest := []) C Z yyX9_see wd_1428 (tgX9_see l D cy z _ r2 ⟨by omega, by omega⟩ hI1 (by omega)) kd_195 rfl rfl ⟨rfl, rfl, Nat.le_of_ble_eq_true rfl, Nat.le_of_ble_eq_true rfl⟩ ⟨Nat.le_of_ble_eq_true rfl, Nat.le_of_ble_eq_true rfl⟩ (Nat.le_of_ble_eq_true rfl) dX9_advance_5 (fun r3 τ3 hp3 => ?_)
      obtain ⟨⟨x3, rfl, ⟨hx3a, hx3b⟩, hx3⟩, rfl⟩ := hp3
      show hpV _ _ _ _ _ _ _ _ _ _ _ _ _ _ _ _ _ _ _ _ _ (_ :: _)
      refine h_bipush C dX9_advance_8 (by decide) ?_
      refine h_icmp_eq (tgt := 26) C dX9_advance_10 (by decide) ⟨by omega, by omega⟩ ⟨by decide, by decide⟩ (fun h4 => ?_) (fun h4 => ?_)
      · refine h_aload_n C dX9_advance_26 0 rfl rfl ?_
        refine h_dup C rfl dX9_advance_27 ?_
        refine h_get C O9 8 kd_195 (by decide) wd_1264 dX9_advance_28 (hp_fvI (by rw [kd_195]; rfl) rfl) ?_
        rw [hg2]
        refine h_iconst C dX9_advance_31 ?_
        refine h_iadd C dX9_advance_32 rfl ?_
        refine h_put C O9 8 kd_195 (by decide) rfl wd_1264 dX9_advance_33 rfl rfl (hp_fvI (by rw [kd_195]; rfl) hpu_at) ?_
        obtain ⟨τ5, e5⟩ : ∃ μ : hpMem, μ = hpw τ1 195 8 (r2 + 1) := ⟨_, rfl⟩
        rw [← e5]
        have hI5 : hpInv τ5 := by rw [e5]; exact hI1.w (bf_9_8 kd_195) (by omega) (by omega)
        have hF5 : ∀ j i : Nat, (j ≠ 195 ∨ (i ≠ 8 ∧ i ≠ 9 ∧ i ≠ 10 ∧ i ≠ 11)) → τ5 j i = σ j i := fun j i h_0 => by rw [e5]; exact (hpw_fr (by omega)).trans (hF1 j i h_0)
        have hg6 : τ5 195 8 = r2 + 1 := by rw [e5]; exact hpw_eq
        refine h_goto (tgt := 0) C dX9_advance_36 (by decide) ?_
        have hy1_0 := hI5.b (bf_9_8 kd_195)
        exact hp_sub [0] rfl (ih1 _ hI5 hF5 (by omega))
      · refine h_aload_n C dX9_advance_13 0 rfl rfl ?_
        refine h_aload_n C dX9_advance_14 0 rfl rfl ?_
        refine h_get C O9 8 kd_195 (by decide) wd_1264 dX9_advance_15 (hp_fvI (by rw [kd_195]; rfl) rfl) ?_
        rw [hg2]
        refine h_callV (As := [.int (hpI r2)]) (rest := []) C Z yyX9_see wd_1428 (tgX9_see l D cy z _ r2 ⟨by omega, by omega⟩ hI1 (by omega)) kd_195 rfl rfl ⟨rfl, rfl, Nat.le_of_ble_eq_true rfl, Nat.le_of_ble_eq_true rfl⟩ ⟨Nat.le_of_ble_eq_true rfl, Nat.le_of_ble_eq_true rfl⟩ (Nat.le_of_ble_eq_true rfl) dX9_advance_18 (fun r7 τ7 hp7 => ?_)
        obtain ⟨⟨x7, rfl, ⟨hx7a, hx7b⟩, hx7⟩, rfl⟩ := hp7
        show hpV _ _ _ _ _ _ _ _ _ _ _ _ _ _ _ _ _ _ _ _ _ (_ :: _)
        refine h_bipush C dX9_advance_21 (by decide) ?_
        refine h_icmp_ne (tgt := 39) C dX9_advance_23 (by decide) ⟨by omega, by omega⟩ ⟨by decide, by decide⟩ (fun h8 => ?_) (fun h8 => ?_)
        · refine h_aload_n C dX9_advance_39 0 rfl rfl ?_
          refine h_aload_n C dX9_advance_40 0 rfl rfl ?_
          refine h_get C O9 8 kd_195 (by decide) wd_1264 dX9_advance_41 (hp_fvI (by rw [kd_195]; rfl) rfl) ?_
          rw [hg2]
          refine h_put C O9 9 kd_195 (by decide) rfl wd_1265 dX9_advance_44 rfl rfl (hp_fvI (by rw [kd_195]; rfl) hpu_at) ?_
          obtain ⟨τ9, e9⟩ : ∃ μ : hpMem, μ = hpw τ1 195 9 r2 := ⟨_, rfl⟩
          rw [← e9]
          have hI9 : hpInv τ9 := by rw [e9]; exact hI1.w (bf_9_9 kd_195) (by omega) (by omega)
          have hF9 : ∀ j i : Nat, (j ≠ 195 ∨ (i ≠ 8 ∧ i ≠ 9 ∧ i ≠ 10 ∧ i ≠ 11)) → τ9 j i = σ j i := fun j i h_0 => by rw [e9]; exact (hpw_fr (by omega)).trans (hF1 j i h_0)
          have hg10 : τ9 195 8 = r2 := by rw [e9]; exact (hpw_fr (Or.inr (by decide))).trans hg2
          have hg11 : τ9 195 9 = r2 := by rw [e9]; exact hpw_eq
          refine h_aload_n C dX9_advance_47 0 rfl rfl ?_
          refine h_aload_n C dX9_advance_48 0 rfl rfl ?_
          refine h_get C O9 8 kd_195 (by decide) wd_1264 dX9_advance_49 (hp_fvI (by rw [kd_195]; rfl) rfl) ?_
          rw [hg10]
          refine h_callV (As := [.int (hpI r2)]) (rest := []) C Z yyX9_see wd_1428 (tgX9_see l D cy z _ r2 ⟨by omega, by omega⟩ hI9 (by omega)) kd_195 rfl rfl ⟨rfl, rfl, Nat.le_of_ble_eq_true rfl, Nat.le_of_ble_eq_true rfl⟩ ⟨Nat.le_of_ble_eq_true rfl, Nat.le_of_ble_eq_true rfl⟩ (Nat.le_of_ble_eq_true rfl) dX9_advance_52 (fun r12 τ12 hp12 => ?_)
          obtain ⟨⟨x12, rfl, ⟨hx12a, hx12b⟩, hx12⟩, rfl⟩ := hp12
          show hpV _ _ _ _ _ _ _ _ _ _ _ _ _ _ _ _ _ _ _ _ _ (_ :: _)
          refine h_istore_n (lv' := [(1, .int (hpI x12)), (0, .ref (z + 195))]) C dX9_advance_55 rfl (by decide) rfl ?_
          refine h_iload_n C dX9_advance_56 0 rfl rfl ?_
          refine h_iconst C dX9_advance_57 ?_
          refine h_icmp_ne (tgt := 69) C dX9_advance_58 (by decide) ⟨by omega, by omega⟩ ⟨by decide, by decide⟩ (fun h13 => ?_) (fun h13 => ?_)
          · refine h_iload_n C dX9_advance_69 0 rfl rfl ?_
            refine h_i2l C dX9_advance_70 ⟨by omega, by omega⟩ ?_
            refine h_ldc2 C 97 wd_1432 (by decide) dX9_advance_71 ?_
            refine h_ldc2 C 122 wd_1433 (by decide) dX9_advance_74 ?_
            refine h_callS (As := [.long (hpJ x12), .long (hpJ 97), .long (hpJ 122)]) (rest := []) C Z yyX9_in rfl wd_1401 (tgX9_in l D cy z _ x12 ⟨by omega, by omega⟩ 97 ⟨by decide, by decide⟩ 122 ⟨by decide, by decide⟩ hI9) rfl rfl ⟨rfl, rfl, Nat.le_of_ble_eq_true rfl, Nat.le_of_ble_eq_true rfl⟩ ⟨Nat.le_of_ble_eq_true rfl, Nat.le_of_ble_eq_true rfl⟩ (Nat.le_of_ble_eq_true rfl) dX9_advance_77 (fun r14 τ14 hp14 => ?_)
            obtain ⟨⟨x14, rfl, ⟨hx14a, hx14b⟩, hx14⟩, rfl⟩ := hp14
            show hpV _ _ _ _ _ _ _ _ _ _ _ _ _ _ _ _ _ _ _ _ _ (_ :: _)
            refine h_if_eq (tgt := 125) C dX9_advance_80 (by decide) ⟨by omega, by omega⟩ (fun h15 => ?_) (fun h15 => ?_)
            · refine h_iload_n C dX9_advance_125 0 rfl rfl ?_
              refine h_i2l C dX9_advance_126 ⟨by omega, by omega⟩ ?_
              refine h_ldc2 C 48 wd_1434 (by decide) dX9_advance_127 ?_
              refine h_ldc2 C 57 wd_1435 (by decide) dX9_advance_130 ?_
              refine h_callS (As := [.long (hpJ x12), .long (hpJ 48), .long (hpJ 57)]) (rest := []) C Z yyX9_in rfl wd_1401 (tgX9_in l D cy z _ x12 ⟨by omega, by omega⟩ 48 ⟨by decide, by decide⟩ 57 ⟨by decide, by decide⟩ hI9) rfl rfl ⟨rfl, rfl, Nat.le_of_ble_eq_true rfl, Nat.le_of_ble_eq_true rfl⟩ ⟨Nat.le_of_ble_eq_true rfl, Nat.le_of_ble_eq_true rfl⟩ (Nat.le_of_ble_eq_true rfl) dX9_advance_133 (fun r16 τ16 hp16 => ?_)
              obtain ⟨⟨x16, rfl, ⟨hx16a, hx16b⟩, hx16⟩, rfl⟩ := hp16
              show hpV _ _ _ _ _ _ _ _ _ _ _ _ _ _ _ _ _ _ _ _ _ (_ :: _)
              refine h_if_eq (tgt := 214) C dX9_advance_136 (by decide) ⟨by omega, by omega⟩ (fun h17 => ?_) (fun h17 => ?_)
              · refine h_aload_n C dX9_advance_214 1 rfl rfl ?_
                refine h_iload_n C dX9_advance_215 0 rfl rfl ?_
                refine h_bipush C dX9_advance_216 (by decide) ?_
                refine h_icmp_ne (tgt := 225) C dX9_advance_218 (by decide) ⟨by omega, by omega⟩ ⟨by decide, by decide⟩ (fun h18 => ?_) (fun h18 => ?_)
                · refine h_iconst C dX9_advance_225 ?_
                  refine h_put C O9 10 kd_195 (by decide) rfl wd_1266 dX9_advance_226 rfl rfl (hp_fvI (by rw [kd_195]; rfl) hpu_at) ?_
                  obtain ⟨τ19, e19⟩ : ∃ μ : hpMem, μ = hpw τ9 195 10 4 := ⟨_, rfl⟩
                  rw [← e19]
                  have hI19 : hpInv τ19 := by rw [e19]; exact hI9.w (bf_9_10 kd_195) (by omega) (by omega)
                  have hF19 : ∀ j i : Nat, (j ≠ 195 ∨ (i ≠ 8 ∧ i ≠ 9 ∧ i ≠ 10 ∧ i ≠ 11)) → τ19 j i = σ j i := fun j i h_0 => by rw [e19]; exact (hpw_fr (by omega)).trans (hF9 j i h_0)
                  have hg20 : τ19 195 8 = r2 := by rw [e19]; exact (hpw_fr (Or.inr (by decide))).trans hg10
                  have hg21 : τ19 195 9 = r2 := by rw [e19]; exact (hpw_fr (Or.inr (by decide))).trans hg11
                  have hg22 : τ19 195 10 = 4 := by rw [e19]; exact hpw_eq
                  refine h_aload_n C dX9_advance_229 1 rfl rfl ?_
                  refine h_dup C rfl dX9_advance_230 ?_
                  refine h_get C O9 8 kd_195 (by decide) wd_1264 dX9_advance_231 (hp_fvI (by rw [kd_195]; rfl) rfl) ?_
                  rw [hg20]
                  refine h_iconst C dX9_advance_234 ?_
                  refine h_iadd C dX9_advance_235 rfl ?_
                  refine h_put C O9 8 kd_195 (by decide) rfl wd_1264 dX9_advance_236 rfl rfl (hp_fvI (by rw [kd_195]; rfl) hpu_at) ?_
                  obtain ⟨τ23, e23⟩ : ∃ μ : hpMem, μ = hpw τ19 195 8 (r2 + 1) := ⟨_, rfl⟩
                  rw [← e23]
                  have hI23 : hpInv τ23 := by rw [e23]; exact hI19.w (bf_9_8 kd_195) (by omega) (by omega)
                  have hF23 : ∀ j i : Nat, (j ≠ 195 ∨ (i ≠ 8 ∧ i ≠ 9 ∧ i ≠ 10 ∧ i ≠ 11)) → τ23 j i = σ j i := fun j i h_0 => by rw [e23]; exact (hpw_fr (by omega)).trans (hF19 j i h_0)
                  have hg24 : τ23 195 9 = r2 := by rw [e23]; exact (hpw_fr (Or.inr (by decide))).trans hg21
                  have hg25 : τ23 195 10 = 4 := by rw [e23]; exact (hpw_fr (Or.inr (by decide))).trans hg22
                  have hg26 : τ23 195 8 = r2 + 1 := by rw [e23]; exact hpw_eq
                  refine h_return C hr hlk dX9_advance_239 ?_
                  exact ⟨rfl, hI23, hF23⟩
                · refine h_iconst C dX9_advance_221 ?_
                  refine h_goto (tgt := 226) C dX9_advance_222 (by decide) ?_
                  refine h_put C O9 10 kd_195 (by decide) rfl wd_1266 dX9_advance_226 rfl rfl (hp_fvI (by rw [kd_195]; rfl) hpu_at) ?_
                  obtain ⟨τ27, e27⟩ : ∃ μ : hpMem, μ = hpw τ9 195 10 3 := ⟨_, rfl⟩
                  rw [← e27]
                  have hI27 : hpInv τ27 := by rw [e27]; exact hI9.w (bf_9_10 kd_195) (by omega) (by omega)
                  have hF27 : ∀ j i : Nat, (j ≠ 195 ∨ (i ≠ 8 ∧ i ≠ 9 ∧ i ≠ 10 ∧ i ≠ 11)) → τ27 j i = σ j i := fun j i h_0 => by rw [e27]; exact (hpw_fr (by omega)).trans (hF9 j i h_0)
                  have hg28 : τ27 195 8 = r2 := by rw [e27]; exact (hpw_fr (Or.inr (by decide))).trans hg10
                  have hg29 : τ27 195 9 = r2 := by rw [e27]; exact (hpw_fr (Or.inr (by decide))).trans hg11
                  have hg30 : τ27 195 10 = 3 := by rw [e27]; exact hpw_eq
                  refine h_aload_n C dX9_advance_229 1 rfl rfl ?_
                  refine h_dup C rfl dX9_advance_230 ?_
                  refine h_get C O9 8 kd_195 (by decide) wd_1264 dX9_advance_231 (hp_fvI (by rw [kd_195]; rfl) rfl) ?_
                  rw [hg28]
                  refine h_iconst C dX9_advance_234 ?_
                  refine h_iadd C dX9_advance_235 rfl ?_
                  refine h_put C O9 8 kd_195 (by decide) rfl wd_1264 dX9_advance_236 rfl rfl (hp_fvI (by rw [kd_195]; rfl) hpu_at) ?_
                  obtain ⟨τ31, e31⟩ : ∃ μ : hpMem, μ = hpw τ27 195 8 (r2 + 1) := ⟨_, rfl⟩
                  rw [← e31]
                  have hI31 : hpInv τ31 := by rw [e31]; exact hI27.w (bf_9_8 kd_195) (by omega) (by omega)
                  have hF31 : ∀ j i : Nat, (j ≠ 195 ∨ (i ≠ 8 ∧ i ≠ 9 ∧ i ≠ 10 ∧ i ≠ 11)) → τ31 j i = σ j i := fun j i h_0 => by rw [e31]; exact (hpw_fr (by omega)).trans (hF27 j i h_0)
                  have hg32 : τ31 195 9 = r2 := by rw [e31]; exact (hpw_fr (Or.inr (by decide))).trans hg29
                  have hg33 : τ31 195 10 = 3 := by rw [e31]; exact (hpw_fr (Or.inr (by decide))).trans hg30
                  have hg34 : τ31 195 8 = r2 + 1 := by rw [e31]; exact hpw_eq
                  refine h_return C hr hlk dX9_advance_239 ?_
                  exact ⟨rfl, hI31, hF31⟩
              · refine h_aload_n C dX9_advance_139 1 rfl rfl ?_
                refine h_iconst C dX9_advance_140 ?_
                refine h_put C O9 11 kd_195 (by decide) rfl wd_1267 dX9_advance_141 rfl rfl (hp_fvI (by rw [kd_195]; rfl) hpu_at) ?_
                obtain ⟨τ35, e35⟩ : ∃ μ : hpMem, μ = hpw τ9 195 11 0 := ⟨_, rfl⟩
                rw [← e35]
                have hI35 : hpInv τ35 := by rw [e35]; exact hI9.w (bf_9_11 kd_195) (by omega) (by omega)
                have hF35 : ∀ j i : Nat, (j ≠ 195 ∨ (i ≠ 8 ∧ i ≠ 9 ∧ i ≠ 10 ∧ i ≠ 11)) → τ35 j i = σ j i := fun j i h_0 => by rw [e35]; exact (hpw_fr (by omega)).trans (hF9 j i h_0)
                have hg36 : τ35 195 8 = r2 := by rw [e35]; exact (hpw_fr (Or.inr (by decide))).trans hg10
                have hg37 : τ35 195 9 = r2 := by rw [e35]; exact (hpw_fr (Or.inr (by decide))).trans hg11
                have hg38 : τ35 195 11 = 0 := by rw [e35]; exact hpw_eq
                have L39 : ∀ (n39 : Nat) (τ39 : hpMem), hpInv τ39 → (∀ j i : Nat, (j ≠ 195 ∨ (i ≠ 8 ∧ i ≠ 9 ∧ i ≠ 10 ∧ i ≠ 11)) → τ39 j i = σ j i) → (501 - τ39 195 8) < (n39 : Int) → hpF p l e rgX9_advance s m [.ref (z + 195)] below meth c 2 D cy z (pgX9_advance z σ) τ39 144 [(0, .ref (z + 195)), (1, .int (hpI x12))] [] := by
                  intro n39
                  induction n39 with
                  | zero => intro τ39 hI39 hF39 hm39; have hz39_0 := hI39.b (bf_9_8 kd_195); exfalso; omega
                  | succ n39 ih39 =>
                    intro τ39 hI39 hF39 hm39
                    have hz39_0 := hI39.b (bf_9_8 kd_195)
                    refine h_aload_n C dX9_advance_144 0 rfl rfl ?_
                    refine h_aload_n C dX9_advance_145 0 rfl rfl ?_
                    refine h_get C O9 8 kd_195 (by decide) wd_1264 dX9_advance_146 (hp_fvI (by rw [kd_195]; rfl) rfl) ?_
                    obtain ⟨hr40a, hr40b⟩ := hI39.b (bf_9_8 kd_195)
                    generalize hg40 : τ39 195 8 = r40 at hr40a hr40b ⊢
                    refine h_callV (As := [.int (hpI r40)]) (rest := []) C Z yyX9_see wd_1428 (tgX9_see l D cy z _ r40 ⟨by omega, by omega⟩ hI39 (by omega)) kd_195 rfl rfl ⟨rfl, rfl, Nat.le_of_ble_eq_true rfl, Nat.le_of_ble_eq_true rfl⟩ ⟨Nat.le_of_ble_eq_true rfl, Nat.le_of_ble_eq_true rfl⟩ (Nat.le_of_ble_eq_true rfl) dX9_advance_149 (fun r41 τ41 hp41 => ?_)
                    obtain ⟨⟨x41, rfl, ⟨hx41a, hx41b⟩, hx41⟩, rfl⟩ := hp41
                    show hpV _ _ _ _ _ _ _ _ _ _ _ _ _ _ _ _ _ _ _ _ _ (_ :: _)
                    refine h_i2l C dX9_advance_152 ⟨by omega, by omega⟩ ?_
                    refine h_ldc2 C 48 wd_1434 (by decide) dX9_advance_153 ?_
                    refine h_ldc2 C 57 wd_1435 (by decide) dX9_advance_156 ?_
                    refine h_callS (As := [.long (hpJ x41), .long (hpJ 48), .long (hpJ 57)]) (rest := []) C Z yyX9_in rfl wd_1401 (tgX9_in l D cy z _ x41 ⟨by omega, by omega⟩ 48 ⟨by decide, by decide⟩ 57 ⟨by decide, by decide⟩ hI39) rfl rfl ⟨rfl, rfl, Nat.le_of_ble_eq_true rfl, Nat.le_of_ble_eq_true rfl⟩ ⟨Nat.le_of_ble_eq_true rfl, Nat.le_of_ble_eq_true rfl⟩ (Nat.le_of_ble_eq_true rfl) dX9_advance_159 (fun r42 τ42 hp42 => ?_)
                    obtain ⟨⟨x42, rfl, ⟨hx42a, hx42b⟩, hx42⟩, rfl⟩ := hp42
                    show hpV _ _ _ _ _ _ _ _ _ _ _ _ _ _ _ _ _ _ _ _ _ (_ :: _)
                    refine h_if_eq (tgt := 206) C dX9_advance_162 (by decide) ⟨by omega, by omega⟩ (fun h43 => ?_) (fun h43 => ?_)
                    · refine h_aload_n C dX9_advance_206 0 rfl rfl ?_
                      refine h_iconst C dX9_advance_207 ?_
                      refine h_put C O9 10 kd_195 (by decide) rfl wd_1266 dX9_advance_208 rfl rfl (hp_fvI (by rw [kd_195]; rfl) hpu_at) ?_
                      obtain ⟨τ44, e44⟩ : ∃ μ : hpMem, μ = hpw τ39 195 10 2 := ⟨_, rfl⟩
                      rw [← e44]
                      have hI44 : hpInv τ44 := by rw [e44]; exact hI39.w (bf_9_10 kd_195) (by omega) (by omega)
                      have hF44 : ∀ j i : Nat, (j ≠ 195 ∨ (i ≠ 8 ∧ i ≠ 9 ∧ i ≠ 10 ∧ i ≠ 11)) → τ44 j i = σ j i := fun j i h_0 => by rw [e44]; exact (hpw_fr (by omega)).trans (hF39 j i h_0)
                      have hg45 : τ44 195 8 = r40 := by rw [e44]; exact (hpw_fr (Or.inr (by decide))).trans hg40
                      have hg46 : τ44 195 10 = 2 := by rw [e44]; exact hpw_eq
                      refine h_goto (tgt := 239) C dX9_advance_211 (by decide) ?_
                      refine h_return C hr hlk dX9_advance_239 ?_
                      exact ⟨rfl, hI44, hF44⟩
                    · refine h_aload_n C dX9_advance_165 0 rfl rfl ?_
                      refine h_ldc C 99999 wd_1436 (by decide) dX9_advance_166 ?_
                      refine h_bipush C dX9_advance_168 (by decide) ?_
                      refine h_aload_n C dX9_advance_170 0 rfl rfl ?_
                      refine h_get C O9 11 kd_195 (by decide) wd_1267 dX9_advance_171 (hp_fvI (by rw [kd_195]; rfl) rfl) ?_
                      obtain ⟨hr47a, hr47b⟩ := hI39.b (bf_9_11 kd_195)
                      generalize hg47 : τ39 195 11 = r47 at hr47a hr47b ⊢
                      refine h_imul C dX9_advance_174 rfl ?_
                      refine hp_anyI (fun r48 hr48 => ?_)
                      obtain ⟨hr48a, hr48b⟩ := hr48
                      refine h_aload_n C dX9_advance_175 0 rfl rfl ?_
                      refine h_aload_n C dX9_advance_176 0 rfl rfl ?_
                      refine h_get C O9 8 kd_195 (by decide) wd_1264 dX9_advance_177 (hp_fvI (by rw [kd_195]; rfl) rfl) ?_
                      rw [hg40]
                      refine h_callV (As := [.int (hpI r40)]) (rest := [.int (hpI r48), .int (hpI 99999), .ref (z + 195)]) C Z yyX9_see wd_1428 (tgX9_see l D cy z _ r40 ⟨by omega, by omega⟩ hI39 (by omega)) kd_195 rfl rfl ⟨rfl, rfl, Nat.le_of_ble_eq_true rfl, Nat.le_of_ble_eq_true rfl⟩ ⟨Nat.le_of_ble_eq_true rfl, Nat.le_of_ble_eq_true rfl⟩ (Nat.le_of_ble_eq_true rfl) dX9_advance_180 (fun r49 τ49 hp49 => ?_)
                      obtain ⟨⟨x49, rfl, ⟨hx49a, hx49b⟩, hx49⟩, rfl⟩ := hp49
                      show hpV _ _ _ _ _ _ _ _ _ _ _ _ _ _ _ _ _ _ _ _ _ (_ :: _)
                      refine h_iadd C dX9_advance_183 rfl ?_
                      refine hp_anyI (fun r50 hr50 => ?_)
                      obtain ⟨hr50a, hr50b⟩ := hr50
                      refine h_bipush C dX9_advance_184 (by decide) ?_
                      refine h_isub C dX9_advance_186 rfl ?_
                      refine hp_anyI (fun r51 hr51 => ?_)
                      obtain ⟨hr51a, hr51b⟩ := hr51
                      refine h_mmin C wd_1437 wd_514 wd_515 wd_15 dX9_advance_187 ⟨by decide, by decide⟩ ⟨by omega, by omega⟩ (Nat.le_of_ble_eq_true rfl) (Nat.le_of_ble_eq_true rfl) ⟨Nat.le_of_ble_eq_true rfl, Nat.le_of_ble_eq_true rfl⟩ (fun r52 hr52a hr52b hr52c => ?_)
                      refine h_put C O9 11 kd_195 (by decide) rfl wd_1267 dX9_advance_190 rfl rfl (hp_fvI (by rw [kd_195]; rfl) hpu_at) ?_
                      obtain ⟨τ53, e53⟩ : ∃ μ : hpMem, μ = hpw τ39 195 11 r52 := ⟨_, rfl⟩
                      rw [← e53]
                      have hI53 : hpInv τ53 := by rw [e53]; exact hI39.w (bf_9_11 kd_195) (by omega) (by omega)
                      have hF53 : ∀ j i : Nat, (j ≠ 195 ∨ (i ≠ 8 ∧ i ≠ 9 ∧ i ≠ 10 ∧ i ≠ 11)) → τ53 j i = σ j i := fun j i h_0 => by rw [e53]; exact (hpw_fr (by omega)).trans (hF39 j i h_0)
                      have hg54 : τ53 195 8 = r40 := by rw [e53]; exact (hpw_fr (Or.inr (by decide))).trans hg40
                      have hg55 : τ53 195 11 = r52 := by rw [e53]; exact hpw_eq
                      refine h_aload_n C dX9_advance_193 0 rfl rfl ?_
                      refine h_dup C rfl dX9_advance_194 ?_
                      refine h_get C O9 8 kd_195 (by decide) wd_1264 dX9_advance_195 (hp_fvI (by rw [kd_195]; rfl) rfl) ?_
                      rw [hg54]
                      refine h_iconst C dX9_advance_198 ?_
                      refine h_iadd C dX9_advance_199 rfl ?_
                      refine h_put C O9 8 kd_195 (by decide) rfl wd_1264 dX9_advance_200 rfl rfl (hp_fvI (by rw [kd_195]; rfl) hpu_at) ?_
                      obtain ⟨τ56, e56⟩ : ∃ μ : hpMem, μ = hpw τ53 195 8 (r40 + 1) := ⟨_, rfl⟩
                      rw [← e56]
                      have hI56 : hpInv τ56 := by rw [e56]; exact hI53.w (bf_9_8 kd_195) (by omega) (by omega)
                      have hF56 : ∀ j i : Nat, (j ≠ 195 ∨ (i ≠ 8 ∧ i ≠ 9 ∧ i ≠ 10 ∧ i ≠ 11)) → τ56 j i = σ j i := fun j i h_0 => by rw [e56]; exact (hpw_fr (by omega)).trans (hF53 j i h_0)
                      have hg57 : τ56 195 11 = r52 := by rw [e56]; exact (hpw_fr (Or.inr (by decide))).trans hg55
                      have hg58 : τ56 195 8 = r40 + 1 := by rw [e56]; exact hpw_eq
                      refine h_goto (tgt := 144) C dX9_advance_203 (by decide) ?_
                      have hy39_0 := hI56.b (bf_9_8 kd_195)
                      exact hp_sub [0, 1] rfl (ih39 _ hI56 hF56 (by omega))
                have hz39_0 := hI35.b (bf_9_8 kd_195)
                exact hp_sub [1, 0] rfl (L39 8589934592 _ hI35 hF35 (by omega))
            · have L59 : ∀ (n59 : Nat) (τ59 : hpMem), hpInv τ59 → (∀ j i : Nat, (j ≠ 195 ∨ (i ≠ 8 ∧ i ≠ 9 ∧ i ≠ 10 ∧ i ≠ 11)) → τ59 j i = σ j i) → (501 - τ59 195 8) < (n59 : Int) → hpF p l e rgX9_advance s m [.ref (z + 195)] below meth c 2 D cy z (pgX9_advance z σ) τ59 83 [(0, .ref (z + 195)), (1, .int (hpI x12))] [] := by
                intro n59
                induction n59 with
                | zero => intro τ59 hI59 hF59 hm59; have hz59_0 := hI59.b (bf_9_8 kd_195); exfalso; omega
                | succ n59 ih59 =>
                  intro τ59 hI59 hF59 hm59
                  have hz59_0 := hI59.b (bf_9_8 kd_195)
                  refine h_aload_n C dX9_advance_83 0 rfl rfl ?_
                  refine h_aload_n C dX9_advance_84 0 rfl rfl ?_
                  refine h_get C O9 8 kd_195 (by decide) wd_1264 dX9_advance_85 (hp_fvI (by rw [kd_195]; rfl) rfl) ?_
                  obtain ⟨hr60a, hr60b⟩ := hI59.b (bf_9_8 kd_195)
                  generalize hg60 : τ59 195 8 = r60 at hr60a hr60b ⊢
                  refine h_callV (As := [.int (hpI r60)]) (rest := []) C Z yyX9_see wd_1428 (tgX9_see l D cy z _ r60 ⟨by omega, by omega⟩ hI59 (by omega)) kd_195 rfl rfl ⟨rfl, rfl, Nat.le_of_ble_eq_true rfl, Nat.le_of_ble_eq_true rfl⟩ ⟨Nat.le_of_ble_eq_true rfl, Nat.le_of_ble_eq_true rfl⟩ (Nat.le_of_ble_eq_true rfl) dX9_advance_88 (fun r61 τ61 hp61 => ?_)
                  obtain ⟨⟨x61, rfl, ⟨hx61a, hx61b⟩, hx61⟩, rfl⟩ := hp61
                  show hpV _ _ _ _ _ _ _ _ _ _ _ _ _ _ _ _ _ _ _ _ _ (_ :: _)
                  refine h_i2l C dX9_advance_91 ⟨by omega, by omega⟩ ?_
                  refine h_ldc2 C 97 wd_1432 (by decide) dX9_advance_92 ?_
                  refine h_ldc2 C 122 wd_1433 (by decide) dX9_advance_95 ?_
                  refine h_callS (As := [.long (hpJ x61), .long (hpJ 97), .long (hpJ 122)]) (rest := []) C Z yyX9_in rfl wd_1401 (tgX9_in l D cy z _ x61 ⟨by omega, by omega⟩ 97 ⟨by decide, by decide⟩ 122 ⟨by decide, by decide⟩ hI59) rfl rfl ⟨rfl, rfl, Nat.le_of_ble_eq_true rfl, Nat.le_of_ble_eq_true rfl⟩ ⟨Nat.le_of_ble_eq_true rfl, Nat.le_of_ble_eq_true rfl⟩ (Nat.le_of_ble_eq_true rfl) dX9_advance_98 (fun r62 τ62 hp62 => ?_)
                  obtain ⟨⟨x62, rfl, ⟨hx62a, hx62b⟩, hx62⟩, rfl⟩ := hp62
                  show hpV _ _ _ _ _ _ _ _ _ _ _ _ _ _ _ _ _ _ _ _ _ (_ :: _)
                  refine h_if_eq (tgt := 117) C dX9_advance_101 (by decide) ⟨by omega, by omega⟩ (fun h63 => ?_) (fun h63 => ?_)
                  · refine h_aload_n C dX9_advance_117 0 rfl rfl ?_
                    refine h_iconst C dX9_advance_118 ?_
                    refine h_put C O9 10 kd_195 (by decide) rfl wd_1266 dX9_advance_119 rfl rfl (hp_fvI (by rw [kd_195]; rfl) hpu_at) ?_
                    obtain ⟨τ64, e64⟩ : ∃ μ : hpMem, μ = hpw τ59 195 10 1 := ⟨_, rfl⟩
                    rw [← e64]
                    have hI64 : hpInv τ64 := by rw [e64]; exact hI59.w (bf_9_10 kd_195) (by omega) (by omega)
                    have hF64 : ∀ j i : Nat, (j ≠ 195 ∨ (i ≠ 8 ∧ i ≠ 9 ∧ i ≠ 10 ∧ i ≠ 11)) → τ64 j i = σ j i := fun j i h_0 => by rw [e64]; exact (hpw_fr (by omega)).trans (hF59 j i h_0)
                    have hg65 : τ64 195 8 = r60 := by rw [e64]; exact (hpw_fr (Or.inr (by decide))).trans hg60
                    have hg66 : τ64 195 10 = 1 := by rw [e64]; exact hpw_eq
                    refine h_goto (tgt := 239) C dX9_advance_122 (by decide) ?_
                    refine h_return C hr hlk dX9_advance_239 ?_
                    exact ⟨rfl, hI64, hF64⟩
                  · refine h_aload_n C dX9_advance_104 0 rfl rfl ?_
                    refine h_dup C rfl dX9_advance_105 ?_
                    refine h_get C O9 8 kd_195 (by decide) wd_1264 dX9_advance_106 (hp_fvI (by rw [kd_195]; rfl) rfl) ?_
                    rw [hg60]
                    refine h_iconst C dX9_advance_109 ?_
                    refine h_iadd C dX9_advance_110 rfl ?_
                    refine h_put C O9 8 kd_195 (by decide) rfl wd_1264 dX9_advance_111 rfl rfl (hp_fvI (by rw [kd_195]; rfl) hpu_at) ?_
                    obtain ⟨τ67, e67⟩ : ∃ μ : hpMem, μ = hpw τ59 195 8 (r60 + 1) := ⟨_, rfl⟩
                    rw [← e67]
                    have hI67 : hpInv τ67 := by rw [e67]; exact hI59.w (bf_9_8 kd_195) (by omega) (by omega)
                    have hF67 : ∀ j i : Nat, (j ≠ 195 ∨ (i ≠ 8 ∧ i ≠ 9 ∧ i ≠ 10 ∧ i ≠ 11)) → τ67 j i = σ j i := fun j i h_0 => by rw [e67]; exact (hpw_fr (by omega)).trans (hF59 j i h_0)
                    have hg68 : τ67 195 8 = r60 + 1 := by rw [e67]; exact hpw_eq
                    refine h_goto (tgt := 83) C dX9_advance_114 (by decide) ?_
                    have hy59_0 := hI67.b (bf_9_8 kd_195)
                    exact hp_sub [0, 1] rfl (ih59 _ hI67 hF67 (by omega))
              have hz59_0 := hI9.b (bf_9_8 kd_195)
              exact hp_sub [1, 0] rfl (L59 8589934592 _ hI9 hF9 (by omega))
          · refine h_aload_n C dX9_advance_61 1 rfl rfl ?_
            refine h_iconst C dX9_advance_62 ?_
            refine h_put C O9 10 kd_195 (by decide) rfl wd_1266 dX9_advance_63 rfl rfl (hp_fvI (by rw [kd_195]; rfl) hpu_at) ?_
            obtain ⟨τ69, e69⟩ : ∃ μ : hpMem, μ = hpw τ9 195 10 0 := ⟨_, rfl⟩
            rw [← e69]
            have hI69 : hpInv τ69 := by rw [e69]; exact hI9.w (bf_9_10 kd_195) (by omega) (by omega)
            have hF69 : ∀ j i : Nat, (j ≠ 195 ∨ (i ≠ 8 ∧ i ≠ 9 ∧ i ≠ 10 ∧ i ≠ 11)) → τ69 j i = σ j i := fun j i h_0 => by rw [e69]; exact (hpw_fr (by omega)).trans (hF9 j i h_0)
            have hg70 : τ69 195 8 = r2 := by rw [e69]; exact (hpw_fr (Or.inr (by decide))).trans hg10
            have hg71 : τ69 195 9 = r2 := by rw [e69]; exact (hpw_fr (Or.inr (by decide))).trans hg11
            have hg72 : τ69 195 10 = 0 := by rw [e69]; exact hpw_eq
            refine h_goto (tgt := 239) C dX9_advance_66 (by decide) ?_
            refine h_return C hr hlk dX9_advance_239 ?_
            exact ⟨rfl, hI69, hF69⟩
        · refine h_aload_n C dX9_advance_26 0 rfl rfl ?_
          refine h_dup C rfl dX9_advance_27 ?_
          refine h_get C O9 8 kd_195 (by decide) wd_1264 dX9_advance_28 (hp_fvI (by rw [kd_195]; rfl) rfl) ?_
          rw [hg2]
          refine h_iconst C dX9_advance_31 ?_
          refine h_iadd C dX9_advance_32 rfl ?_
          refine h_put C O9 8 kd_195 (by decide) rfl wd_1264 dX9_advance_33 rfl rfl (hp_fvI (by rw [kd_195]; rfl) hpu_at) ?_
          obtain ⟨τ73, e73⟩ : ∃ μ : hpMem, μ = hpw τ1 195 8 (r2 + 1) := ⟨_, rfl⟩
          rw [← e73]
          have hI73 : hpInv τ73 := by rw [e73]; exact hI1.w (bf_9_8 kd_195) (by omega) (by omega)
          have hF73 : ∀ j i : Nat, (j ≠ 195 ∨ (i ≠ 8 ∧ i ≠ 9 ∧ i ≠ 10 ∧ i ≠ 11)) → τ73 j i = σ j i := fun j i h_0 => by rw [e73]; exact (hpw_fr (by omega)).trans (hF1 j i h_0)
          have hg74 : τ73 195 8 = r2 + 1 := by rw [e73]; exact hpw_eq
          refine h_goto (tgt := 0) C dX9_advance_36 (by decide) ?_
          have hy1_0 := hI73.b (bf_9_8 kd_195)
          exact hp_sub [0] rfl (ih1 _ hI73 hF73 (by omega))
  have hz1_0 := hI.b (bf_9_8 kd_195)
  exact hp_sub [0] rfl (L1 8589934592 _ hI hF0 (by omega))
abbrev rgX9_good : Room := { frames := 0, cells := 0, slots := 0, locals := 0 }
abbrev pgX9_good (z : Nat) (σ : hpMem) : Option Value → hpMem → Prop := fun r τ => (∃ x : Int, r = some (.int (hpI x)) ∧ (0 ≤ x ∧ x ≤ 1) ∧ ((x = 1 ∧ σ 195 12 = 0) ∨ (x = 0 ∧ σ 195 12 ≠ 0))) ∧ σ = τ
set_option maxHeartbeats 4000000 in
set_option maxRecDepth 20000 in
theorem tgX9_good (l : Launch) (D : va_G) (cy : Nat → ClassId) (z : Nat) (σ : hpMem) (hI : hpInv σ) : hpM l D cy z yX9_good cX9_good 1 (some .boolean) rgX9_good [.ref (z + 195)] σ (pgX9_good z σ) := by
  refine hp_met rfl (Nat.le_of_ble_eq_true rfl) (fun p e s m below meth c C Z hr hlk => ?_)
  refine h_aload_n C dX9_good_0 0 rfl rfl ?_
  refine h_get C O9 12 kd_195 (by decide) wd_1268 dX9_good_1 (hp_fvI (by rw [kd_195]; rfl) rfl) ?_
  obtain ⟨hr1a, hr1b⟩ := hI.b (bf_9_12 kd_195)
  generalize hg1 : σ 195 12 = r1 at hr1a hr1b ⊢
  refine h_if_ne (tgt := 11) C dX9_good_4 (by decide) ⟨by omega, by omega⟩ (fun h2 => ?_) (fun h2 => ?_)
  · refine h_iconst C dX9_good_11 ?_
    refine h_zreturn C (by omega) hr hlk dX9_good_12 ?_
    exact ⟨⟨_, rfl, ⟨by decide, by decide⟩, by omega⟩, rfl⟩
  · refine h_iconst C dX9_good_7 ?_
    refine h_goto (tgt := 12) C dX9_good_8 (by decide) ?_
    refine h_zreturn C (by omega) hr hlk dX9_good_12 ?_
    exact ⟨⟨_, rfl, ⟨by decide, by decide⟩, by omega⟩, rfl⟩
abbrev rgX9_errs : Room := { frames := 1, cells := 0, slots := 0, locals := 20 }
abbrev pgX9_errs (z : Nat) (σ : hpMem) (a0 : Int) : Option Value → hpMem → Prop := fun r τ => r = none ∧ hpInv τ ∧ (∀ j i : Nat, (j ≠ 195 ∨ (i ≠ 12 ∧ i ≠ 13)) → τ j i = σ j i) ∧ (τ 195 12 ≠ 0)
set_option maxHeartbeats 4000000 in
set_option maxRecDepth 20000 in
theorem tgX9_errs (l : Launch) (D : va_G) (cy : Nat → ClassId) (z : Nat) (σ : hpMem) (a0 : Int) (ha0 : hpR a0) (hI : hpInv σ) (hk1 : 1 ≤ a0) : hpM l D cy z yX9_errs cX9_errs 2 none rgX9_errs [.ref (z + 195), .int (hpI a0)] σ (pgX9_errs z σ a0) := by
  obtain ⟨ha01, ha02⟩ := ha0
  refine hp_met rfl (Nat.le_of_ble_eq_true rfl) (fun p e s m below meth c C Z hr hlk => ?_)
  have hF0 : ∀ j i : Nat, (j ≠ 195 ∨ (i ≠ 12 ∧ i ≠ 13)) → σ j i = σ j i := fun j i _ => rfl
  refine h_aload_n C dX9_errs_0 0 rfl rfl ?_
  refine h_callV (As := []) (rest := []) C Z yyX9_good wd_1438 (tgX9_good l D cy z _ hI) kd_195 rfl rfl ⟨rfl, rfl, Nat.le_of_ble_eq_true rfl, Nat.le_of_ble_eq_true rfl⟩ ⟨Nat.le_of_ble_eq_true rfl, Nat.le_of_ble_eq_true rfl⟩ (Nat.le_of_ble_eq_true rfl) dX9_errs_1 (fun r1 τ1 hp1 => ?_)
  obtain ⟨⟨x1, rfl, ⟨hx1a, hx1b⟩, hx1⟩, rfl⟩ := hp1
  show hpV _ _ _ _ _ _ _ _ _ _ _ _ _ _ _ _ _ _ _ _ _ (_ :: _)
  refine h_if_ne (tgt := 8) C dX9_errs_4 (by decide) ⟨by omega, by omega⟩ (fun h2 => ?_) (fun h2 => ?_)
  · refine h_aload_n C dX9_errs_8 0 rfl rfl ?_
    refine h_iload_n C dX9_errs_9 1 rfl rfl ?_
    refine h_put C O9 12 kd_195 (by decide) rfl wd_1268 dX9_errs_10 rfl rfl (hp_fvI (by rw [kd_195]; rfl) hpu_at) ?_
    obtain ⟨τ3, e3⟩ : ∃ μ : hpMem, μ = hpw σ 195 12 a0 := ⟨_, rfl⟩
    rw [← e3]
    have hI3 : hpInv τ3 := by rw [e3]; exact hI.w (bf_9_12 kd_195) (by omega) (by omega)
    have hF3 : ∀ j i : Nat, (j ≠ 195 ∨ (i ≠ 12 ∧ i ≠ 13)) → τ3 j i = σ j i := fun j i h_0 => by rw [e3]; exact (hpw_fr (by omega)).trans (hF0 j i h_0)
    have hg4 : τ3 195 12 = a0 := by rw [e3]; exact hpw_eq
    refine h_aload_n C dX9_errs_13 0 rfl rfl ?_
    refine h_aload_n C dX9_errs_14 0 rfl rfl ?_
    refine h_get C O9 9 kd_195 (by decide) wd_1265 dX9_errs_15 (hp_fvI (by rw [kd_195]; rfl) rfl) ?_
    obtain ⟨hr5a, hr5b⟩ := hI3.b (bf_9_9 kd_195)
    generalize hg5 : τ3 195 9 = r5 at hr5a hr5b ⊢
    refine h_put C O9 13 kd_195 (by decide) rfl wd_1269 dX9_errs_18 rfl rfl (hp_fvI (by rw [kd_195]; rfl) hpu_at) ?_
    obtain ⟨τ6, e6⟩ : ∃ μ : hpMem, μ = hpw τ3 195 13 r5 := ⟨_, rfl⟩
    rw [← e6]
    have hI6 : hpInv τ6 := by rw [e6]; exact hI3.w (bf_9_13 kd_195) (by omega) (by omega)
    have hF6 : ∀ j i : Nat, (j ≠ 195 ∨ (i ≠ 12 ∧ i ≠ 13)) → τ6 j i = σ j i := fun j i h_0 => by rw [e6]; exact (hpw_fr (by omega)).trans (hF3 j i h_0)
    have hg7 : τ6 195 12 = a0 := by rw [e6]; exact (hpw_fr (Or.inr (by decide))).trans hg4
    have hg8 : τ6 195 9 = r5 := by rw [e6]; exact (hpw_fr (Or.inr (by decide))).trans hg5
    have hg9 : τ6 195 13 = r5 := by rw [e6]; exact hpw_eq
    refine h_return C hr hlk dX9_errs_21 ?_
    exact ⟨rfl, hI6, hF6, by omega⟩
  · refine h_return C hr hlk dX9_errs_7 ?_
    exact ⟨rfl, hI, hF0, by omega⟩
abbrev rgX9_is : Room := { frames := 4, cells := 0, slots := 0, locals := 85 }
abbrev pgX9_is (z : Nat) (σ : hpMem) (a0 : Nat) : Option Value → hpMem → Prop := fun r τ => (∃ x : Int, r = some (.int (hpI x)) ∧ (0 ≤ x ∧ x ≤ 1) ∧ (x = hpIsI σ a0)) ∧ σ = τ
set_option maxHeartbeats 4000000 in
set_option maxRecDepth 20000 in
theorem tgX9_is (l : Launch) (D : va_G) (cy : Nat → ClassId) (z : Nat) (σ : hpMem) (a0 : Nat) (ha0 : a0 < 16) (hI : hpInv σ) : hpM l D cy z yX9_is cX9_is 4 (some .boolean) rgX9_is [.ref (z + 195), .ref (cy (1000 + a0))] σ (pgX9_is z σ a0) := by
  have hl_a0 := hpsL_le ha0
  refine hp_met rfl (Nat.le_of_ble_eq_true rfl) (fun p e s m below meth c C Z hr hlk => ?_)
  refine h_aload_n C dX9_is_0 0 rfl rfl ?_
  refine h_callV (As := []) (rest := []) C Z yyX9_good wd_1438 (tgX9_good l D cy z _ hI) kd_195 rfl rfl ⟨rfl, rfl, Nat.le_of_ble_eq_true rfl, Nat.le_of_ble_eq_true rfl⟩ ⟨Nat.le_of_ble_eq_true rfl, Nat.le_of_ble_eq_true rfl⟩ (Nat.le_of_ble_eq_true rfl) dX9_is_1 (fun r1 τ1 hp1 => ?_)
  obtain ⟨⟨x1, rfl, ⟨hx1a, hx1b⟩, hx1⟩, rfl⟩ := hp1
  show hpV _ _ _ _ _ _ _ _ _ _ _ _ _ _ _ _ _ _ _ _ _ (_ :: _)
  refine h_if_eq (tgt := 35) C dX9_is_4 (by decide) ⟨by omega, by omega⟩ (fun h2 => ?_) (fun h2 => ?_)
  · refine h_iconst C dX9_is_35 ?_
    refine h_istore_n (lv' := [(2, .int (hpI 0)), (0, .ref (z + 195)), (1, .ref (cy (1000 + a0)))]) C dX9_is_36 rfl (by decide) rfl ?_
    refine h_iconst C dX9_is_37 ?_
    refine h_istore_n (lv' := [(3, .int (hpI 0)), (2, .int (hpI 0)), (0, .ref (z + 195)), (1, .ref (cy (1000 + a0)))]) C dX9_is_38 rfl (by decide) rfl ?_
    have L3 : ∀ (n3 : Nat) (w3_2 : Int) (w3_3 : Int), 0 ≤ w3_2 → w3_2 ≤ 1 → 0 ≤ w3_3 → w3_3 ≤ 4 → (hpIJ σ a0 w3_2 w3_3.toNat) → (4294967296 - w3_3) < (n3 : Int) → hpF p l e rgX9_is s m [.ref (z + 195), .ref (cy (1000 + a0))] below meth c 4 D cy z (pgX9_is z σ a0) σ 39 [(0, .ref (z + 195)), (1, .ref (cy (1000 + a0))), (2, .int (hpI w3_2)), (3, .int (hpI w3_3))] [] := by
      intro n3
      induction n3 with
      | zero => intro w3_2 w3_3 hv3_0 hv3_1 hv3_2 hv3_3 hM3_0 hm3; exfalso; omega
      | succ n3 ih3 =>
        intro w3_2 w3_3 hv3_0 hv3_1 hv3_2 hv3_3 hM3_0 hm3
        refine h_iload_n C dX9_is_39 3 rfl rfl ?_
        refine h_aload_n C dX9_is_40 1 rfl rfl ?_
        refine h_callO (As := []) (rest := [.int (hpI w3_3)]) C Z yyJ0_length_8abf5 wd_1463 (jdJ0_length_8abf5 l D cy z _ ha0) (Z.2.2 a0 ha0).2.1 rfl rfl ⟨rfl, rfl, Nat.le_of_ble_eq_true rfl, Nat.le_of_ble_eq_true rfl⟩ ⟨Nat.le_of_ble_eq_true rfl, Nat.le_of_ble_eq_true rfl⟩ (Nat.le_of_ble_eq_true rfl) dX9_is_41 (fun r4 τ4 hp4 => ?_)
        obtain ⟨rfl, rfl⟩ := hp4
        show hpV _ _ _ _ _ _ _ _ _ _ _ _ _ _ _ _ _ _ _ _ _ (_ :: _)
        refine h_icmp_ge (tgt := 82) C dX9_is_44 (by decide) ⟨by omega, by omega⟩ ⟨by omega, by omega⟩ (fun h5 => ?_) (fun h5 => ?_)
        · refine h_iload_n C dX9_is_82 2 rfl rfl ?_
          refine h_zreturn C (by omega) hr hlk dX9_is_83 ?_
          exact ⟨⟨_, rfl, ⟨by omega, by omega⟩, hpIsI_of (by omega) (hpIJ_f hM3_0 (by omega))⟩, rfl⟩
        · refine h_iload_n C dX9_is_47 2 rfl rfl ?_
          refine h_if_eq (tgt := 82) C dX9_is_48 (by decide) ⟨by omega, by omega⟩ (fun h6 => ?_) (fun h6 => ?_)
          · refine h_iload_n C dX9_is_82 2 rfl rfl ?_
            refine h_zreturn C (by omega) hr hlk dX9_is_83 ?_
            exact ⟨⟨_, rfl, ⟨by omega, by omega⟩, hpIsI_of (by omega) (hpIJ_f hM3_0 (by omega))⟩, rfl⟩
          · obtain ⟨-, -, hj3, -⟩ := hM3_0.1 (by omega)
            have hb8 := hI.b (bf_9_8 kd_195)
            refine h_aload_n C dX9_is_51 0 rfl rfl ?_
            refine h_get C O9 4 kd_195 (by decide) wd_1260 dX9_is_52 fr_195_4 ?_
            refine h_aload_n C dX9_is_55 0 rfl rfl ?_
            refine h_get C O9 9 kd_195 (by decide) wd_1265 dX9_is_56 (hp_fvI (by rw [kd_195]; rfl) rfl) ?_
            obtain ⟨hr7a, hr7b⟩ := hI.b (bf_9_9 kd_195)
            generalize hg7 : σ 195 9 = r7 at hr7a hr7b ⊢
            refine h_iload_n C dX9_is_59 3 rfl rfl ?_
            refine h_iadd C dX9_is_60 rfl ?_
            refine h_baload C dX9_is_61 kd_199 (r7 + w3_3).toNat (Int.toNat_of_nonneg (by omega)) (by rw [ln_199]; omega) rfl ?_
            obtain ⟨hr8a, hr8b⟩ := hI.b (bo_199 _)
            generalize hg8 : σ 199 ((r7 + w3_3).toNat) = r8 at hr8a hr8b ⊢
            refine h_aload_n C dX9_is_62 1 rfl rfl ?_
            refine h_iload_n C dX9_is_63 3 rfl rfl ?_
            refine h_callO (As := [.int (hpI w3_3)]) (rest := [.int (hpI r8)]) C Z yyJ0_charAt_5068e wd_1464 (jdJ0_charAt_5068e l D cy z _ ha0 (by omega) (by omega) (by omega)) (Z.2.2 a0 ha0).2.1 rfl rfl ⟨rfl, rfl, Nat.le_of_ble_eq_true rfl, Nat.le_of_ble_eq_true rfl⟩ ⟨Nat.le_of_ble_eq_true rfl, Nat.le_of_ble_eq_true rfl⟩ (Nat.le_of_ble_eq_true rfl) dX9_is_64 (fun r9 τ9 hp9 => ?_)
            obtain ⟨rfl, rfl⟩ := hp9
            obtain ⟨hx9a, hx9b⟩ := hpsC_b a0 ((w3_3).toNat)
            show hpV _ _ _ _ _ _ _ _ _ _ _ _ _ _ _ _ _ _ _ _ _ (_ :: _)
            refine h_icmp_ne (tgt := 74) C dX9_is_67 (by decide) ⟨by omega, by omega⟩ ⟨by omega, by omega⟩ (fun h10 => ?_) (fun h10 => ?_)
            · refine h_iconst C dX9_is_74 ?_
              refine h_istore_n (lv' := [(2, .int (hpI 0)), (0, .ref (z + 195)), (1, .ref (cy (1000 + a0))), (3, .int (hpI w3_3))]) C dX9_is_75 rfl (by decide) rfl ?_
              refine h_iinc (lv' := [(3, .int (hpI (w3_3 + 1))), (2, .int (hpI 0)), (0, .ref (z + 195)), (1, .ref (cy (1000 + a0)))]) C dX9_is_76 3 rfl rfl (by decide) rfl ?_
              refine h_goto (tgt := 39) C dX9_is_79 (by decide) ?_
              exact hp_sub [2, 3, 1, 0] rfl (ih3 0 (w3_3 + 1) (by omega) (by omega) (by omega) (by omega) (hpIJ_s hM3_0 hg7 (by omega) (by omega) (by omega) (by omega) (by omega)) (by omega))
            · refine h_iconst C dX9_is_70 ?_
              refine h_goto (tgt := 75) C dX9_is_71 (by decide) ?_
              refine h_istore_n (lv' := [(2, .int (hpI 1)), (0, .ref (z + 195)), (1, .ref (cy (1000 + a0))), (3, .int (hpI w3_3))]) C dX9_is_75 rfl (by decide) rfl ?_
              refine h_iinc (lv' := [(3, .int (hpI (w3_3 + 1))), (2, .int (hpI 1)), (0, .ref (z + 195)), (1, .ref (cy (1000 + a0)))]) C dX9_is_76 3 rfl rfl (by decide) rfl ?_
              refine h_goto (tgt := 39) C dX9_is_79 (by decide) ?_
              exact hp_sub [2, 3, 1, 0] rfl (ih3 1 (w3_3 + 1) (by omega) (by omega) (by omega) (by omega) (hpIJ_s hM3_0 hg7 (by omega) (by omega) (by omega) (by omega) (by omega)) (by omega))
    exact hp_sub [2, 3, 1, 0] rfl (L3 8589934592 0 0 (by omega) (by omega) (by omega) (by omega) (hpIJ_0 (by omega)) (by omega))
  · refine h_aload_n C dX9_is_7 0 rfl rfl ?_
    refine h_get C O9 10 kd_195 (by decide) wd_1266 dX9_is_8 (hp_fvI (by rw [kd_195]; rfl) rfl) ?_
    obtain ⟨hr11a, hr11b⟩ := hI.b (bf_9_10 kd_195)
    generalize hg11 : σ 195 10 = r11 at hr11a hr11b ⊢
    refine h_iconst C dX9_is_11 ?_
    refine h_icmp_ne (tgt := 35) C dX9_is_12 (by decide) ⟨by omega, by omega⟩ ⟨by decide, by decide⟩ (fun h12 => ?_) (fun h12 => ?_)
    · refine h_iconst C dX9_is_35 ?_
      refine h_istore_n (lv' := [(2, .int (hpI 0)), (0, .ref (z + 195)), (1, .ref (cy (1000 + a0)))]) C dX9_is_36 rfl (by decide) rfl ?_
      refine h_iconst C dX9_is_37 ?_
      refine h_istore_n (lv' := [(3, .int (hpI 0)), (2, .int (hpI 0)), (0, .ref (z + 195)), (1, .ref (cy (1000 + a0)))]) C dX9_is_38 rfl (by decide) rfl ?_
      have L13 : ∀ (n13 : Nat) (w13_2 : Int) (w13_3 : Int), 0 ≤ w13_2 → w13_2 ≤ 1 → 0 ≤ w13_3 → w13_3 ≤ 4 → (hpIJ σ a0 w13_2 w13_3.toNat) → (4294967296 - w13_3) < (n13 : Int) → hpF p l e rgX9_is s m [.ref (z + 195), .ref (cy (1000 + a0))] below meth c 4 D cy z (pgX9_is z σ a0) σ 39 [(0, .ref (z + 195)), (1, .ref (cy (1000 + a0))), (2, .int (hpI w13_2)), (3, .int (hpI w13_3))] [] := by
        intro n13
        induction n13 with
        | zero => intro w13_2 w13_3 hv13_0 hv13_1 hv13_2 hv13_3 hM13_0 hm13; exfalso; omega
        | succ n13 ih13 =>
          intro w13_2 w13_3 hv13_0 hv13_1 hv13_2 hv13_3 hM13_0 hm13
          refine h_iload_n C dX9_is_39 3 rfl rfl ?_
          refine h_aload_n C dX9_is_40 1 rfl rfl ?_
          refine h_callO (As := []) (rest := [.int (hpI w13_3)]) C Z yyJ0_length_8abf5 wd_1463 (jdJ0_length_8abf5 l D cy z _ ha0) (Z.2.2 a0 ha0).2.1 rfl rfl ⟨rfl, rfl, Nat.le_of_ble_eq_true rfl, Nat.le_of_ble_eq_true rfl⟩ ⟨Nat.le_of_ble_eq_true rfl, Nat.le_of_ble_eq_true rfl⟩ (Nat.le_of_ble_eq_true rfl) dX9_is_41 (fun r14 τ14 hp14 => ?_)
          obtain ⟨rfl, rfl⟩ := hp14
          show hpV _ _ _ _ _ _ _ _ _ _ _ _ _ _ _ _ _ _ _ _ _ (_ :: _)
          refine h_icmp_ge (tgt := 82) C dX9_is_44 (by decide) ⟨by omega, by omega⟩ ⟨by omega, by omega⟩ (fun h15 => ?_) (fun h15 => ?_)
          · refine h_iload_n C dX9_is_82 2 rfl rfl ?_
            refine h_zreturn C (by omega) hr hlk dX9_is_83 ?_
            exact ⟨⟨_, rfl, ⟨by omega, by omega⟩, hpIsI_of (by omega) (hpIJ_f hM13_0 (by omega))⟩, rfl⟩
          · refine h_iload_n C dX9_is_47 2 rfl rfl ?_
            refine h_if_eq (tgt := 82) C dX9_is_48 (by decide) ⟨by omega, by omega⟩ (fun h16 => ?_) (fun h16 => ?_)
            · refine h_iload_n C dX9_is_82 2 rfl rfl ?_
              refine h_zreturn C (by omega) hr hlk dX9_is_83 ?_
              exact ⟨⟨_, rfl, ⟨by omega, by omega⟩, hpIsI_of (by omega) (hpIJ_f hM13_0 (by omega))⟩, rfl⟩
            · obtain ⟨-, -, hj3, -⟩ := hM13_0.1 (by omega)
              have hb8 := hI.b (bf_9_8 kd_195)
              refine h_aload_n C dX9_is_51 0 rfl rfl ?_
              refine h_get C O9 4 kd_195 (by decide) wd_1260 dX9_is_52 fr_195_4 ?_
              refine h_aload_n C dX9_is_55 0 rfl rfl ?_
              refine h_get C O9 9 kd_195 (by decide) wd_1265 dX9_is_56 (hp_fvI (by rw [kd_195]; rfl) rfl) ?_
              obtain ⟨hr17a, hr17b⟩ := hI.b (bf_9_9 kd_195)
              generalize hg17 : σ 195 9 = r17 at hr17a hr17b ⊢
              refine h_iload_n C dX9_is_59 3 rfl rfl ?_
              refine h_iadd C dX9_is_60 rfl ?_
              refine h_baload C dX9_is_61 kd_199 (r17 + w13_3).toNat (Int.toNat_of_nonneg (by omega)) (by rw [ln_199]; omega) rfl ?_
              obtain ⟨hr18a, hr18b⟩ := hI.b (bo_199 _)
              generalize hg18 : σ 199 ((r17 + w13_3).toNat) = r18 at hr18a hr18b ⊢
              refine h_aload_n C dX9_is_62 1 rfl rfl ?_
              refine h_iload_n C dX9_is_63 3 rfl rfl ?_
              refine h_callO (As := [.int (hpI w13_3)]) (rest := [.int (hpI r18)]) C Z yyJ0_charAt_5068e wd_1464 (jdJ0_charAt_5068e l D cy z _ ha0 (by omega) (by omega) (by omega)) (Z.2.2 a0 ha0).2.1 rfl rfl ⟨rfl, rfl, Nat.le_of_ble_eq_true rfl, Nat.le_of_ble_eq_true rfl⟩ ⟨Nat.le_of_ble_eq_true rfl, Nat.le_of_ble_eq_true rfl⟩ (Nat.le_of_ble_eq_true rfl) dX9_is_64 (fun r19 τ19 hp19 => ?_)
              obtain ⟨rfl, rfl⟩ := hp19
              obtain ⟨hx19a, hx19b⟩ := hpsC_b a0 ((w13_3).toNat)
              show hpV _ _ _ _ _ _ _ _ _ _ _ _ _ _ _ _ _ _ _ _ _ (_ :: _)
              refine h_icmp_ne (tgt := 74) C dX9_is_67 (by decide) ⟨by omega, by omega⟩ ⟨by omega, by omega⟩ (fun h20 => ?_) (fun h20 => ?_)
              · refine h_iconst C dX9_is_74 ?_
                refine h_istore_n (lv' := [(2, .int (hpI 0)), (0, .ref (z + 195)), (1, .ref (cy (1000 + a0))), (3, .int (hpI w13_3))]) C dX9_is_75 rfl (by decide) rfl ?_
                refine h_iinc (lv' := [(3, .int (hpI (w13_3 + 1))), (2, .int (hpI 0)), (0, .ref (z + 195)), (1, .ref (cy (1000 + a0)))]) C dX9_is_76 3 rfl rfl (by decide) rfl ?_
                refine h_goto (tgt := 39) C dX9_is_79 (by decide) ?_
                exact hp_sub [2, 3, 1, 0] rfl (ih13 0 (w13_3 + 1) (by omega) (by omega) (by omega) (by omega) (hpIJ_s hM13_0 hg17 (by omega) (by omega) (by omega) (by omega) (by omega)) (by omega))
              · refine h_iconst C dX9_is_70 ?_
                refine h_goto (tgt := 75) C dX9_is_71 (by decide) ?_
                refine h_istore_n (lv' := [(2, .int (hpI 1)), (0, .ref (z + 195)), (1, .ref (cy (1000 + a0))), (3, .int (hpI w13_3))]) C dX9_is_75 rfl (by decide) rfl ?_
                refine h_iinc (lv' := [(3, .int (hpI (w13_3 + 1))), (2, .int (hpI 1)), (0, .ref (z + 195)), (1, .ref (cy (1000 + a0)))]) C dX9_is_76 3 rfl rfl (by decide) rfl ?_
                refine h_goto (tgt := 39) C dX9_is_79 (by decide) ?_
                exact hp_sub [2, 3, 1, 0] rfl (ih13 1 (w13_3 + 1) (by omega) (by omega) (by omega) (by omega) (hpIJ_s hM13_0 hg17 (by omega) (by omega) (by omega) (by omega) (by omega)) (by omega))
      exact hp_sub [2, 3, 1, 0] rfl (L13 8589934592 0 0 (by omega) (by omega) (by omega) (by omega) (hpIJ_0 (by omega)) (by omega))
    · refine h_aload_n C dX9_is_15 0 rfl rfl ?_
      refine h_get C O9 8 kd_195 (by decide) wd_1264 dX9_is_16 (hp_fvI (by rw [kd_195]; rfl) rfl) ?_
      obtain ⟨hr21a, hr21b⟩ := hI.b (bf_9_8 kd_195)
      generalize hg21 : σ 195 8 = r21 at hr21a hr21b ⊢
      refine h_aload_n C dX9_is_19 0 rfl rfl ?_
      refine h_get C O9 9 kd_195 (by decide) wd_1265 dX9_is_20 (hp_fvI (by rw [kd_195]; rfl) rfl) ?_
      obtain ⟨hr22a, hr22b⟩ := hI.b (bf_9_9 kd_195)
      generalize hg22 : σ 195 9 = r22 at hr22a hr22b ⊢
      refine h_isub C dX9_is_23 rfl ?_
      refine h_aload_n C dX9_is_24 1 rfl rfl ?_
      refine h_callO (As := []) (rest := [.int (hpI (r21 - r22))]) C Z yyJ0_length_8abf5 wd_1463 (jdJ0_length_8abf5 l D cy z _ ha0) (Z.2.2 a0 ha0).2.1 rfl rfl ⟨rfl, rfl, Nat.le_of_ble_eq_true rfl, Nat.le_of_ble_eq_true rfl⟩ ⟨Nat.le_of_ble_eq_true rfl, Nat.le_of_ble_eq_true rfl⟩ (Nat.le_of_ble_eq_true rfl) dX9_is_25 (fun r23 τ23 hp23 => ?_)
      obtain ⟨rfl, rfl⟩ := hp23
      show hpV _ _ _ _ _ _ _ _ _ _ _ _ _ _ _ _ _ _ _ _ _ (_ :: _)
      refine h_icmp_ne (tgt := 35) C dX9_is_28 (by decide) ⟨by omega, by omega⟩ ⟨by omega, by omega⟩ (fun h24 => ?_) (fun h24 => ?_)
      · refine h_iconst C dX9_is_35 ?_
        refine h_istore_n (lv' := [(2, .int (hpI 0)), (0, .ref (z + 195)), (1, .ref (cy (1000 + a0)))]) C dX9_is_36 rfl (by decide) rfl ?_
        refine h_iconst C dX9_is_37 ?_
        refine h_istore_n (lv' := [(3, .int (hpI 0)), (2, .int (hpI 0)), (0, .ref (z + 195)), (1, .ref (cy (1000 + a0)))]) C dX9_is_38 rfl (by decide) rfl ?_
        have L25 : ∀ (n25 : Nat) (w25_2 : Int) (w25_3 : Int), 0 ≤ w25_2 → w25_2 ≤ 1 → 0 ≤ w25_3 → w25_3 ≤ 4 → (hpIJ σ a0 w25_2 w25_3.toNat) → (4294967296 - w25_3) < (n25 : Int) → hpF p l e rgX9_is s m [.ref (z + 195), .ref (cy (1000 + a0))] below meth c 4 D cy z (pgX9_is z σ a0) σ 39 [(0, .ref (z + 195)), (1, .ref (cy (1000 + a0))), (2, .int (hpI w25_2)), (3, .int (hpI w25_3))] [] := by
          intro n25
          induction n25 with
          | zero => intro w25_2 w25_3 hv25_0 hv25_1 hv25_2 hv25_3 hM25_0 hm25; exfalso; omega
          | succ n25 ih25 =>
            intro w25_2 w25_3 hv25_0 hv25_1 hv25_2 hv25_3 hM25_0 hm25
            refine h_iload_n C dX9_is_39 3 rfl rfl ?_
            refine h_aload_n C dX9_is_40 1 rfl rfl ?_
            refine h_callO (As := []) (rest := [.int (hpI w25_3)]) C Z yyJ0_length_8abf5 wd_1463 (jdJ0_length_8abf5 l D cy z _ ha0) (Z.2.2 a0 ha0).2.1 rfl rfl ⟨rfl, rfl, Nat.le_of_ble_eq_true rfl, Nat.le_of_ble_eq_true rfl⟩ ⟨Nat.le_of_ble_eq_true rfl, Nat.le_of_ble_eq_true rfl⟩ (Nat.le_of_ble_eq_true rfl) dX9_is_41 (fun r26 τ26 hp26 => ?_)
            obtain ⟨rfl, rfl⟩ := hp26
            show hpV _ _ _ _ _ _ _ _ _ _ _ _ _ _ _ _ _ _ _ _ _ (_ :: _)
            refine h_icmp_ge (tgt := 82) C dX9_is_44 (by decide) ⟨by omega, by omega⟩ ⟨by omega, by omega⟩ (fun h27 => ?_) (fun h27 => ?_)
            · refine h_iload_n C dX9_is_82 2 rfl rfl ?_
              refine h_zreturn C (by omega) hr hlk dX9_is_83 ?_
              exact ⟨⟨_, rfl, ⟨by omega, by omega⟩, hpIsI_of (by omega) (hpIJ_f hM25_0 (by omega))⟩, rfl⟩
            · refine h_iload_n C dX9_is_47 2 rfl rfl ?_
              refine h_if_eq (tgt := 82) C dX9_is_48 (by decide) ⟨by omega, by omega⟩ (fun h28 => ?_) (fun h28 => ?_)
              · refine h_iload_n C dX9_is_82 2 rfl rfl ?_
                refine h_zreturn C (by omega) hr hlk dX9_is_83 ?_
                exact ⟨⟨_, rfl, ⟨by omega, by omega⟩, hpIsI_of (by omega) (hpIJ_f hM25_0 (by omega))⟩, rfl⟩
              · obtain ⟨-, -, hj3, -⟩ := hM25_0.1 (by omega)
                have hb8 := hI.b (bf_9_8 kd_195)
                refine h_aload_n C dX9_is_51 0 rfl rfl ?_
                refine h_get C O9 4 kd_195 (by decide) wd_1260 dX9_is_52 fr_195_4 ?_
                refine h_aload_n C dX9_is_55 0 rfl rfl ?_
                refine h_get C O9 9 kd_195 (by decide) wd_1265 dX9_is_56 (hp_fvI (by rw [kd_195]; rfl) rfl) ?_
                rw [hg22]
                refine h_iload_n C dX9_is_59 3 rfl rfl ?_
                refine h_iadd C dX9_is_60 rfl ?_
                refine h_baload C dX9_is_61 kd_199 (r22 + w25_3).toNat (Int.toNat_of_nonneg (by omega)) (by rw [ln_199]; omega) rfl ?_
                obtain ⟨hr29a, hr29b⟩ := hI.b (bo_199 _)
                generalize hg29 : σ 199 ((r22 + w25_3).toNat) = r29 at hr29a hr29b ⊢
                refine h_aload_n C dX9_is_62 1 rfl rfl ?_
                refine h_iload_n C dX9_is_63 3 rfl rfl ?_
                refine h_callO (As := [.int (hpI w25_3)]) (rest := [.int (hpI r29)]) C Z yyJ0_charAt_5068e wd_1464 (jdJ0_charAt_5068e l D cy z _ ha0 (by omega) (by omega) (by omega)) (Z.2.2 a0 ha0).2.1 rfl rfl ⟨rfl, rfl, Nat.le_of_ble_eq_true rfl, Nat.le_of_ble_eq_true rfl⟩ ⟨Nat.le_of_ble_eq_true rfl, Nat.le_of_ble_eq_true rfl⟩ (Nat.le_of_ble_eq_true rfl) dX9_is_64 (fun r30 τ30 hp30 => ?_)
                obtain ⟨rfl, rfl⟩ := hp30
                obtain ⟨hx30a, hx30b⟩ := hpsC_b a0 ((w25_3).toNat)
                show hpV _ _ _ _ _ _ _ _ _ _ _ _ _ _ _ _ _ _ _ _ _ (_ :: _)
                refine h_icmp_ne (tgt := 74) C dX9_is_67 (by decide) ⟨by omega, by omega⟩ ⟨by omega, by omega⟩ (fun h31 => ?_) (fun h31 => ?_)
                · refine h_iconst C dX9_is_74 ?_
                  refine h_istore_n (lv' := [(2, .int (hpI 0)), (0, .ref (z + 195)), (1, .ref (cy (1000 + a0))), (3, .int (hpI w25_3))]) C dX9_is_75 rfl (by decide) rfl ?_
                  refine h_iinc (lv' := [(3, .int (hpI (w25_3 + 1))), (2, .int (hpI 0)), (0, .ref (z + 195)), (1, .ref (cy (1000 + a0)))]) C dX9_is_76 3 rfl rfl (by decide) rfl ?_
                  refine h_goto (tgt := 39) C dX9_is_79 (by decide) ?_
                  exact hp_sub [2, 3, 1, 0] rfl (ih25 0 (w25_3 + 1) (by omega) (by omega) (by omega) (by omega) (hpIJ_s hM25_0 hg22 (by omega) (by omega) (by omega) (by omega) (by omega)) (by omega))
                · refine h_iconst C dX9_is_70 ?_
                  refine h_goto (tgt := 75) C dX9_is_71 (by decide) ?_
                  refine h_istore_n (lv' := [(2, .int (hpI 1)), (0, .ref (z + 195)), (1, .ref (cy (1000 + a0))), (3, .int (hpI w25_3))]) C dX9_is_75 rfl (by decide) rfl ?_
                  refine h_iinc (lv' := [(3, .int (hpI (w25_3 + 1))), (2, .int (hpI 1)), (0, .ref (z + 195)), (1, .ref (cy (1000 + a0)))]) C dX9_is_76 3 rfl rfl (by decide) rfl ?_
                  refine h_goto (tgt := 39) C dX9_is_79 (by decide) ?_
                  exact hp_sub [2, 3, 1, 0] rfl (ih25 1 (w25_3 + 1) (by omega) (by omega) (by omega) (by omega) (hpIJ_s hM25_0 hg22 (by omega) (by omega) (by omega) (by omega) (by omega)) (by omega))
        exact hp_sub [2, 3, 1, 0] rfl (L25 8589934592 0 0 (by omega) (by omega) (by omega) (by omega) (hpIJ_0 (by omega)) (by omega))
      · refine h_iconst C dX9_is_31 ?_
        refine h_goto (tgt := 36) C dX9_is_32 (by decide) ?_
        refine h_istore_n (lv' := [(2, .int (hpI 1)), (0, .ref (z + 195)), (1, .ref (cy (1000 + a0)))]) C dX9_is_36 rfl (by decide) rfl ?_
        refine h_iconst C dX9_is_37 ?_
        refine h_istore_n (lv' := [(3, .int (hpI 0)), (2, .int (hpI 1)), (0, .ref (z + 195)), (1, .ref (cy (1000 + a0)))]) C dX9_is_38 rfl (by decide) rfl ?_
        have L32 : ∀ (n32 : Nat) (w32_2 : Int) (w32_3 : Int), 0 ≤ w32_2 → w32_2 ≤ 1 → 0 ≤ w32_3 → w32_3 ≤ 4 → (hpIJ σ a0 w32_2 w32_3.toNat) → (4294967296 - w32_3) < (n32 : Int) → hpF p l e rgX9_is s m [.ref (z + 195), .ref (cy (1000 + a0))] below meth c 4 D cy z (pgX9_is z σ a0) σ 39 [(0, .ref (z + 195)), (1, .ref (cy (1000 + a0))), (2, .int (hpI w32_2)), (3, .int (hpI w32_3))] [] := by
          intro n32
          induction n32 with
          | zero => intro w32_2 w32_3 hv32_0 hv32_1 hv32_2 hv32_3 hM32_0 hm32; exfalso; omega
          | succ n32 ih32 =>
            intro w32_2 w32_3 hv32_0 hv32_1 hv32_2 hv32_3 hM32_0 hm32
            refine h_iload_n C dX9_is_39 3 rfl rfl ?_
            refine h_aload_n C dX9_is_40 1 rfl rfl ?_
            refine h_callO (As := []) (rest := [.int (hpI w32_3)]) C Z yyJ0_length_8abf5 wd_1463 (jdJ0_length_8abf5 l D cy z _ ha0) (Z.2.2 a0 ha0).2.1 rfl rfl ⟨rfl, rfl, Nat.le_of_ble_eq_true rfl, Nat.le_of_ble_eq_true rfl⟩ ⟨Nat.le_of_ble_eq_true rfl, Nat.le_of_ble_eq_true rfl⟩ (Nat.le_of_ble_eq_true rfl) dX9_is_41 (fun r33 τ33 hp33 => ?_)
            obtain ⟨rfl, rfl⟩ := hp33
            show hpV _ _ _ _ _ _ _ _ _ _ _ _ _ _ _ _ _ _ _ _ _ (_ :: _)
            refine h_icmp_ge (tgt := 82) C dX9_is_44 (by decide) ⟨by omega, by omega⟩ ⟨by omega, by omega⟩ (fun h34 => ?_) (fun h34 => ?_)
            · refine h_iload_n C dX9_is_82 2 rfl rfl ?_
              refine h_zreturn C (by omega) hr hlk dX9_is_83 ?_
              exact ⟨⟨_, rfl, ⟨by omega, by omega⟩, hpIsI_of (by omega) (hpIJ_f hM32_0 (by omega))⟩, rfl⟩
            · refine h_iload_n C dX9_is_47 2 rfl rfl ?_
              refine h_if_eq (tgt := 82) C dX9_is_48 (by decide) ⟨by omega, by omega⟩ (fun h35 => ?_) (fun h35 => ?_)
              · refine h_iload_n C dX9_is_82 2 rfl rfl ?_
                refine h_zreturn C (by omega) hr hlk dX9_is_83 ?_
                exact ⟨⟨_, rfl, ⟨by omega, by omega⟩, hpIsI_of (by omega) (hpIJ_f hM32_0 (by omega))⟩, rfl⟩
              · obtain ⟨-, -, hj3, -⟩ := hM32_0.1 (by omega)
                have hb8 := hI.b (bf_9_8 kd_195)
                refine h_aload_n C dX9_is_51 0 rfl rfl ?_
                refine h_get C O9 4 kd_195 (by decide) wd_1260 dX9_is_52 fr_195_4 ?_
                refine h_aload_n C dX9_is_55 0 rfl rfl ?_
                refine h_get C O9 9 kd_195 (by decide) wd_1265 dX9_is_56 (hp_fvI (by rw [kd_195]; rfl) rfl) ?_
                rw [hg22]
                refine h_iload_n C dX9_is_59 3 rfl rfl ?_
                refine h_iadd C dX9_is_60 rfl ?_
                refine h_baload C dX9_is_61 kd_199 (r22 + w32_3).toNat (Int.toNat_of_nonneg (by omega)) (by rw [ln_199]; omega) rfl ?_
                obtain ⟨hr36a, hr36b⟩ := hI.b (bo_199 _)
                generalize hg36 : σ 199 ((r22 + w32_3).toNat) = r36 at hr36a hr36b ⊢
                refine h_aload_n C dX9_is_62 1 rfl rfl ?_
                refine h_iload_n C dX9_is_63 3 rfl rfl ?_
                refine h_callO (As := [.int (hpI w32_3)]) (rest := [.int (hpI r36)]) C Z yyJ0_charAt_5068e wd_1464 (jdJ0_charAt_5068e l D cy z _ ha0 (by omega) (by omega) (by omega)) (Z.2.2 a0 ha0).2.1 rfl rfl ⟨rfl, rfl, Nat.le_of_ble_eq_true rfl, Nat.le_of_ble_eq_true rfl⟩ ⟨Nat.le_of_ble_eq_true rfl, Nat.le_of_ble_eq_true rfl⟩ (Nat.le_of_ble_eq_true rfl) dX9_is_64 (fun r37 τ37 hp37 => ?_)
                obtain ⟨rfl, rfl⟩ := hp37
                obtain ⟨hx37a, hx37b⟩ := hpsC_b a0 ((w32_3).toNat)
                show hpV _ _ _ _ _ _ _ _ _ _ _ _ _ _ _ _ _ _ _ _ _ (_ :: _)
                refine h_icmp_ne (tgt := 74) C dX9_is_67 (by decide) ⟨by omega, by omega⟩ ⟨by omega, by omega⟩ (fun h38 => ?_) (fun h38 => ?_)
                · refine h_iconst C dX9_is_74 ?_
                  refine h_istore_n (lv' := [(2, .int (hpI 0)), (0, .ref (z + 195)), (1, .ref (cy (1000 + a0))), (3, .int (hpI w32_3))]) C dX9_is_75 rfl (by decide) rfl ?_
                  refine h_iinc (lv' := [(3, .int (hpI (w32_3 + 1))), (2, .int (hpI 0)), (0, .ref (z + 195)), (1, .ref (cy (1000 + a0)))]) C dX9_is_76 3 rfl rfl (by decide) rfl ?_
                  refine h_goto (tgt := 39) C dX9_is_79 (by decide) ?_
                  exact hp_sub [2, 3, 1, 0] rfl (ih32 0 (w32_3 + 1) (by omega) (by omega) (by omega) (by omega) (hpIJ_s hM32_0 hg22 (by omega) (by omega) (by omega) (by omega) (by omega)) (by omega))
                · refine h_iconst C dX9_is_70 ?_
                  refine h_goto (tgt := 75) C dX9_is_71 (by decide) ?_
                  refine h_istore_n (lv' := [(2, .int (hpI 1)), (0, .ref (z + 195)), (1, .ref (cy (1000 + a0))), (3, .int (hpI w32_3))]) C dX9_is_75 rfl (by decide) rfl ?_
                  refine h_iinc (lv' := [(3, .int (hpI (w32_3 + 1))), (2, .int (hpI 1)), (0, .ref (z + 195)), (1, .ref (cy (1000 + a0)))]) C dX9_is_76 3 rfl rfl (by decide) rfl ?_
                  refine h_goto (tgt := 39) C dX9_is_79 (by decide) ?_
                  exact hp_sub [2, 3, 1, 0] rfl (ih32 1 (w32_3 + 1) (by omega) (by omega) (by omega) (by omega) (hpIJ_s hM32_0 hg22 (by omega) (by omega) (by omega) (by omega) (by omega)) (by omega))
        exact hp_sub [2, 3, 1, 0] rfl (L32 8589934592 1 0 (by omega) (by omega) (by omega) (by omega) (hpIJ_0 (by omega)) (by omega))
abbrev rgX9_takes : Room := { frames := 5, cells := 0, slots := 0, locals := 108 }
abbrev pgX9_takes (z : Nat) (σ : hpMem) (a0 : Nat) : Option Value → hpMem → Prop := fun r τ => (∃ x : Int, r = some (.int (hpI x)) ∧ (0 ≤ x ∧ x ≤ 1) ∧ (x = hpIsI σ a0)) ∧ hpInv τ ∧ (∀ j i : Nat, (j ≠ 195 ∨ (i ≠ 8 ∧ i ≠ 9 ∧ i ≠ 10 ∧ i ≠ 11)) → τ j i = σ j i)
set_option maxHeartbeats 4000000 in
set_option maxRecDepth 20000 in
theorem tgX9_takes (l : Launch) (D : va_G) (cy : Nat → ClassId) (z : Nat) (σ : hpMem) (a0 : Nat) (ha0 : a0 < 16) (hI : hpInv σ) : hpM l D cy z yX9_takes cX9_takes 3 (some .boolean) rgX9_takes [.ref (z + 195), .ref (cy (1000 + a0))] σ (pgX9_takes z σ a0) := by
  have hl_a0 := hpsL_le ha0
  refine hp_met rfl (Nat.le_of_ble_eq_true rfl) (fun p e s m below meth c C Z hr hlk => ?_)
  have hF0 : ∀ j i : Nat, (j ≠ 195 ∨ (i ≠ 8 ∧ i ≠ 9 ∧ i ≠ 10 ∧ i ≠ 11)) → σ j i = σ j i := fun j i _ => rfl
  refine h_aload_n C dX9_takes_0 0 rfl rfl ?_
  refine h_aload_n C dX9_takes_1 1 rfl rfl ?_
  refine h_callV (As := [.ref (cy (1000 + a0))]) (rest := []) C Z yyX9_is wd_1459 (tgX9_is l D cy z _ a0 ha0 hI) kd_195 rfl rfl ⟨rfl, rfl, Nat.le_of_ble_eq_true rfl, Nat.le_of_ble_eq_true rfl⟩ ⟨Nat.le_of_ble_eq_true rfl, Nat.le_of_ble_eq_true rfl⟩ (Nat.le_of_ble_eq_true rfl) dX9_takes_2 (fun r1 τ1 hp1 => ?_)
  obtain ⟨⟨x1, rfl, ⟨hx1a, hx1b⟩, hx1⟩, rfl⟩ := hp1
  show hpV _ _ _ _ _ _ _ _ _ _ _ _ _ _ _ _ _ _ _ _ _ (_ :: _)
  refine h_istore_n (lv' := [(2, .int (hpI x1)), (0, .ref (z + 195)), (1, .ref (cy (1000 + a0)))]) C dX9_takes_5 rfl (by decide) rfl ?_
  refine h_iload_n C dX9_takes_6 0 rfl rfl ?_
  refine h_if_eq (tgt := 14) C dX9_takes_7 (by decide) ⟨by omega, by omega⟩ (fun h2 => ?_) (fun h2 => ?_)
  · refine h_iload_n C dX9_takes_14 0 rfl rfl ?_
    refine h_zreturn C (by omega) hr hlk dX9_takes_15 ?_
    exact ⟨⟨_, rfl, ⟨by omega, by omega⟩, by omega⟩, hI, hF0⟩
  · refine h_aload_n C dX9_takes_10 1 rfl rfl ?_
    refine h_callV (As := []) (rest := []) C Z yyX9_advance wd_1424 (tgX9_advance l D cy z _ hI) kd_195 rfl rfl ⟨rfl, rfl, Nat.le_of_ble_eq_true rfl, Nat.le_of_ble_eq_true rfl⟩ ⟨Nat.le_of_ble_eq_true rfl, Nat.le_of_ble_eq_true rfl⟩ (Nat.le_of_ble_eq_true rfl) dX9_takes_11 (fun r3 τ3 hp3 => ?_)
    obtain ⟨rfl, hI3, hG3⟩ := hp3
    have hF3 : ∀ j i : Nat, (j ≠ 195 ∨ (i ≠ 8 ∧ i ≠ 9 ∧ i ≠ 10 ∧ i ≠ 11)) → τ3 j i = σ j i := fun j i h_0 => (hG3 j i (by omega)).trans (hF0 j i h_0)
    show hpV _ _ _ _ _ _ _ _ _ _ _ _ _ _ _ _ _ _ _ _ _ []
    refine h_iload_n C dX9_takes_14 0 rfl rfl ?_
    refine h_zreturn C (by omega) hr hlk dX9_takes_15 ?_
    exact ⟨⟨_, rfl, ⟨by omega, by omega⟩, by omega⟩, hI3, hF3⟩
abbrev rgX9_expects : Room := { frames := 6, cells := 0, slots := 0, locals := 130 }
abbrev pgX9_expects (z : Nat) (σ : hpMem) (a0 : Nat) : Option Value → hpMem → Prop := fun r τ => r = none ∧ hpInv τ ∧ (∀ j i : Nat, (j ≠ 195 ∨ (i ≠ 8 ∧ i ≠ 9 ∧ i ≠ 10 ∧ i ≠ 11 ∧ i ≠ 12 ∧ i ≠ 13)) → τ j i = σ j i)
set_option maxHeartbeats 4000000 in
set_option maxRecDepth 20000 in
theorem tgX9_expects (l : Launch) (D : va_G) (cy : Nat → ClassId) (z : Nat) (σ : hpMem) (a0 : Nat) (ha0 : a0 < 16) (hI : hpInv σ) : hpM l D cy z yX9_expects cX9_expects 2 none rgX9_expects [.ref (z + 195), .ref (cy (1000 + a0))] σ (pgX9_expects z σ a0) := by
  have hl_a0 := hpsL_le ha0
  refine hp_met rfl (Nat.le_of_ble_eq_true rfl) (fun p e s m below meth c C Z hr hlk => ?_)
  have hF0 : ∀ j i : Nat, (j ≠ 195 ∨ (i ≠ 8 ∧ i ≠ 9 ∧ i ≠ 10 ∧ i ≠ 11 ∧ i ≠ 12 ∧ i ≠ 13)) → σ j i = σ j i := fun j i _ => rfl
  refine h_aload_n C dX9_expects_0 0 rfl rfl ?_
  refine h_aload_n C dX9_expects_1 1 rfl rfl ?_
  refine h_callV (As := [.ref (cy (1000 + a0))]) (rest := []) C Z yyX9_takes wd_1455 (tgX9_takes l D cy z _ a0 ha0 hI) kd_195 rfl rfl ⟨rfl, rfl, Nat.le_of_ble_eq_true rfl, Nat.le_of_ble_eq_true rfl⟩ ⟨Nat.le_of_ble_eq_true rfl, Nat.le_of_ble_eq_true rfl⟩ (Nat.le_of_ble_eq_true rfl) dX9_expects_2 (fun r1 τ1 hp1 => ?_)
  obtain ⟨⟨x1, rfl, ⟨hx1a, hx1b⟩, hx1⟩, hI1, hG1⟩ := hp1
  have hF1 : ∀ j i : Nat, (j ≠ 195 ∨ (i ≠ 8 ∧ i ≠ 9 ∧ i ≠ 10 ∧ i ≠ 11 ∧ i ≠ 12 ∧ i ≠ 13)) → τ1 j i = σ j i := fun j i h_0 => (hG1 j i (by omega)).trans (hF0 j i h_0)
  show hpV _ _ _ _ _ _ _ _ _ _ _ _ _ _ _ _ _ _ _ _ _ (_ :: _)
  refine h_if_ne (tgt := 13) C dX9_expects_5 (by decide) ⟨by omega, by omega⟩ (fun h2 => ?_) (fun h2 => ?_)
  · refine h_return C hr hlk dX9_expects_13 ?_
    exact ⟨rfl, hI1, hF1⟩
  · refine h_aload_n C dX9_expects_8 0 rfl rfl ?_
    refine h_iconst C dX9_expects_9 ?_
    refine h_callV (As := [.int (hpI 1)]) (rest := []) C Z yyX9_errs wd_1465 (tgX9_errs l D cy z _ 1 ⟨by decide, by decide⟩ hI1 (by omega)) kd_195 rfl rfl ⟨rfl, rfl, Nat.le_of_ble_eq_true rfl, Nat.le_of_ble_eq_true rfl⟩ ⟨Nat.le_of_ble_eq_true rfl, Nat.le_of_ble_eq_true rfl⟩ (Nat.le_of_ble_eq_true rfl) dX9_expects_10 (fun r3 τ3 hp3 => ?_)
    obtain ⟨rfl, hI3, hG3, hq3_0⟩ := hp3
    have hF3 : ∀ j i : Nat, (j ≠ 195 ∨ (i ≠ 8 ∧ i ≠ 9 ∧ i ≠ 10 ∧ i ≠ 11 ∧ i ≠ 12 ∧ i ≠ 13)) → τ3 j i = σ j i := fun j i h_0 => (hG3 j i (by omega)).trans (hF1 j i h_0)
    show hpV _ _ _ _ _ _ _ _ _ _ _ _ _ _ _ _ _ _ _ _ _ []
    refine h_return C hr hlk dX9_expects_13 ?_
    exact ⟨rfl, hI3, hF3⟩
abbrev rgX9_number : Room := { frames := 2, cells := 0, slots := 0, locals := 50 }
abbrev pgX9_number (z : Nat) (σ : hpMem) (a0 : Int) (a1 : Int) : Option Value → hpMem → Prop := fun r τ => (∃ x : Int, r = some (.int (hpI x)) ∧ (hpR x) ∧ (x = 0 ∨ (a0 ≤ x ∧ x ≤ a1))) ∧ hpInv τ ∧ (∀ j i : Nat, (j ≠ 195 ∨ (i ≠ 8 ∧ i ≠ 9 ∧ i ≠ 10 ∧ i ≠ 11 ∧ i ≠ 12 ∧ i ≠ 13)) → τ j i = σ j i)
set_option maxHeartbeats 4000000 in
set_option maxRecDepth 20000 in
theorem tgX9_number (l : Launch) (D : va_G) (cy : Nat → ClassId) (z : Nat) (σ : hpMem) (a0 : Int) (ha0 : hpR a0) (a1 : Int) (ha1 : hpR a1) (hI : hpInv σ) (hlh : 0 ≤ a0 ∧ a1 ≤ 1000) : hpM l D cy z yX9_number cX9_number 4 (some .int) rgX9_number [.ref (z + 195), .int (hpI a0), .int (hpI a1)] σ (pgX9_number z σ a0 a1) := by
  obtain ⟨ha01, ha02⟩ := ha0
  obtain ⟨ha11, ha12⟩ := ha1
  refine hp_met rfl (Nat.le_of_ble_eq_true rfl) (fun p e s m below meth c C Z hr hlk => ?_)
  have hF0 : ∀ j i : Nat, (j ≠ 195 ∨ (i ≠ 8 ∧ i ≠ 9 ∧ i ≠ 10 ∧ i ≠ 11 ∧ i ≠ 12 ∧ i ≠ 13)) → σ j i = σ j i := fun j i _ => rfl
  refine h_aload_n C dX9_number_0 0 rfl rfl ?_
  refine h_callV (As := []) (rest := []) C Z yyX9_good wd_1438 (tgX9_good l D cy z _ hI) kd_195 rfl rfl ⟨rfl, rfl, Nat.le_of_ble_eq_true rfl, Nat.le_of_ble_eq_true rfl⟩ ⟨Nat.le_of_ble_eq_true rfl, Nat.le_of_ble_eq_true rfl⟩ (Nat.le_of_ble_eq_true rfl) dX9_number_1 (fun r1 τ1 hp1 => ?_)
  obtain ⟨⟨x1, rfl, ⟨hx1a, hx1b⟩, hx1⟩, rfl⟩ := hp1
  show hpV _ _ _ _ _ _ _ _ _ _ _ _ _ _ _ _ _ _ _ _ _ (_ :: _)
  refine h_if_eq (tgt := 20) C dX9_number_4 (by decide) ⟨by omega, by omega⟩ (fun h2 => ?_) (fun h2 => ?_)
  · refine h_aload_n C dX9_number_20 0 rfl rfl ?_
    refine h_callV (As := []) (rest := []) C Z yyX9_good wd_1438 (tgX9_good l D cy z _ hI) kd_195 rfl rfl ⟨rfl, rfl, Nat.le_of_ble_eq_true rfl, Nat.le_of_ble_eq_true rfl⟩ ⟨Nat.le_of_ble_eq_true rfl, Nat.le_of_ble_eq_true rfl⟩ (Nat.le_of_ble_eq_true rfl) dX9_number_21 (fun r3 τ3 hp3 => ?_)
    obtain ⟨⟨x3, rfl, ⟨hx3a, hx3b⟩, hx3⟩, rfl⟩ := hp3
    show hpV _ _ _ _ _ _ _ _ _ _ _ _ _ _ _ _ _ _ _ _ _ (_ :: _)
    refine h_if_eq (tgt := 47) C dX9_number_24 (by decide) ⟨by omega, by omega⟩ (fun h4 => ?_) (fun h4 => ?_)
    · refine h_aload_n C dX9_number_47 0 rfl rfl ?_
      refine h_callV (As := []) (rest := []) C Z yyX9_good wd_1438 (tgX9_good l D cy z _ hI) kd_195 rfl rfl ⟨rfl, rfl, Nat.le_of_ble_eq_true rfl, Nat.le_of_ble_eq_true rfl⟩ ⟨Nat.le_of_ble_eq_true rfl, Nat.le_of_ble_eq_true rfl⟩ (Nat.le_of_ble_eq_true rfl) dX9_number_48 (fun r5 τ5 hp5 => ?_)
      obtain ⟨⟨x5, rfl, ⟨hx5a, hx5b⟩, hx5⟩, rfl⟩ := hp5
      show hpV _ _ _ _ _ _ _ _ _ _ _ _ _ _ _ _ _ _ _ _ _ (_ :: _)
      refine h_if_ne (tgt := 56) C dX9_number_51 (by decide) ⟨by omega, by omega⟩ (fun h6 => ?_) (fun h6 => ?_)
      · refine h_aload_n C dX9_number_56 0 rfl rfl ?_
        refine h_get C O9 11 kd_195 (by decide) wd_1267 dX9_number_57 (hp_fvI (by rw [kd_195]; rfl) rfl) ?_
        obtain ⟨hr7a, hr7b⟩ := hI.b (bf_9_11 kd_195)
        generalize hg7 : σ 195 11 = r7 at hr7a hr7b ⊢
        refine h_istore_n (lv' := [(3, .int (hpI r7)), (0, .ref (z + 195)), (1, .int (hpI a0)), (2, .int (hpI a1))]) C dX9_number_60 rfl (by decide) rfl ?_
        refine h_aload_n C dX9_number_61 1 rfl rfl ?_
        refine h_callV (As := []) (rest := []) C Z yyX9_advance wd_1424 (tgX9_advance l D cy z _ hI) kd_195 rfl rfl ⟨rfl, rfl, Nat.le_of_ble_eq_true rfl, Nat.le_of_ble_eq_true rfl⟩ ⟨Nat.le_of_ble_eq_true rfl, Nat.le_of_ble_eq_true rfl⟩ (Nat.le_of_ble_eq_true rfl) dX9_number_62 (fun r8 τ8 hp8 => ?_)
        obtain ⟨rfl, hI8, hG8⟩ := hp8
        have hF8 : ∀ j i : Nat, (j ≠ 195 ∨ (i ≠ 8 ∧ i ≠ 9 ∧ i ≠ 10 ∧ i ≠ 11 ∧ i ≠ 12 ∧ i ≠ 13)) → τ8 j i = σ j i := fun j i h_0 => (hG8 j i (by omega)).trans (hF0 j i h_0)
        show hpV _ _ _ _ _ _ _ _ _ _ _ _ _ _ _ _ _ _ _ _ _ []
        refine h_iload_n C dX9_number_65 0 rfl rfl ?_
        refine h_ireturn C hr hlk dX9_number_66 ?_
        exact ⟨⟨_, rfl, ⟨by omega, by omega⟩, by omega⟩, hI8, hF8⟩
      · refine h_iconst C dX9_number_54 ?_
        refine h_ireturn C hr hlk dX9_number_55 ?_
        exact ⟨⟨_, rfl, ⟨by decide, by decide⟩, by omega⟩, hI, hF0⟩
    · refine h_aload_n C dX9_number_27 0 rfl rfl ?_
      refine h_get C O9 11 kd_195 (by decide) wd_1267 dX9_number_28 (hp_fvI (by rw [kd_195]; rfl) rfl) ?_
      obtain ⟨hr9a, hr9b⟩ := hI.b (bf_9_11 kd_195)
      generalize hg9 : σ 195 11 = r9 at hr9a hr9b ⊢
      refine h_i2l C dX9_number_31 ⟨by omega, by omega⟩ ?_
      refine h_iload_n C dX9_number_32 1 rfl rfl ?_
      refine h_i2l C dX9_number_33 ⟨by omega, by omega⟩ ?_
      refine h_iload_n C dX9_number_34 2 rfl rfl ?_
      refine h_i2l C dX9_number_35 ⟨by omega, by omega⟩ ?_
      refine h_callS (As := [.long (hpJ r9), .long (hpJ a0), .long (hpJ a1)]) (rest := []) C Z yyX9_in rfl wd_1401 (tgX9_in l D cy z _ r9 ⟨by omega, by omega⟩ a0 ⟨by omega, by omega⟩ a1 ⟨by omega, by omega⟩ hI) rfl rfl ⟨rfl, rfl, Nat.le_of_ble_eq_true rfl, Nat.le_of_ble_eq_true rfl⟩ ⟨Nat.le_of_ble_eq_true rfl, Nat.le_of_ble_eq_true rfl⟩ (Nat.le_of_ble_eq_true rfl) dX9_number_36 (fun r10 τ10 hp10 => ?_)
      obtain ⟨⟨x10, rfl, ⟨hx10a, hx10b⟩, hx10⟩, rfl⟩ := hp10
      show hpV _ _ _ _ _ _ _ _ _ _ _ _ _ _ _ _ _ _ _ _ _ (_ :: _)
      refine h_if_ne (tgt := 47) C dX9_number_39 (by decide) ⟨by omega, by omega⟩ (fun h11 => ?_) (fun h11 => ?_)
      · refine h_aload_n C dX9_number_47 0 rfl rfl ?_
        refine h_callV (As := []) (rest := []) C Z yyX9_good wd_1438 (tgX9_good l D cy z _ hI) kd_195 rfl rfl ⟨rfl, rfl, Nat.le_of_ble_eq_true rfl, Nat.le_of_ble_eq_true rfl⟩ ⟨Nat.le_of_ble_eq_true rfl, Nat.le_of_ble_eq_true rfl⟩ (Nat.le_of_ble_eq_true rfl) dX9_number_48 (fun r12 τ12 hp12 => ?_)
        obtain ⟨⟨x12, rfl, ⟨hx12a, hx12b⟩, hx12⟩, rfl⟩ := hp12
        show hpV _ _ _ _ _ _ _ _ _ _ _ _ _ _ _ _ _ _ _ _ _ (_ :: _)
        refine h_if_ne (tgt := 56) C dX9_number_51 (by decide) ⟨by omega, by omega⟩ (fun h13 => ?_) (fun h13 => ?_)
        · refine h_aload_n C dX9_number_56 0 rfl rfl ?_
          refine h_get C O9 11 kd_195 (by decide) wd_1267 dX9_number_57 (hp_fvI (by rw [kd_195]; rfl) rfl) ?_
          rw [hg9]
          refine h_istore_n (lv' := [(3, .int (hpI r9)), (0, .ref (z + 195)), (1, .int (hpI a0)), (2, .int (hpI a1))]) C dX9_number_60 rfl (by decide) rfl ?_
          refine h_aload_n C dX9_number_61 1 rfl rfl ?_
          refine h_callV (As := []) (rest := []) C Z yyX9_advance wd_1424 (tgX9_advance l D cy z _ hI) kd_195 rfl rfl ⟨rfl, rfl, Nat.le_of_ble_eq_true rfl, Nat.le_of_ble_eq_true rfl⟩ ⟨Nat.le_of_ble_eq_true rfl, Nat.le_of_ble_eq_true rfl⟩ (Nat.le_of_ble_eq_true rfl) dX9_number_62 (fun r14 τ14 hp14 => ?_)
          obtain ⟨rfl, hI14, hG14⟩ := hp14
          have hF14 : ∀ j i : Nat, (j ≠ 195 ∨ (i ≠ 8 ∧ i ≠ 9 ∧ i ≠ 10 ∧ i ≠ 11 ∧ i ≠ 12 ∧ i ≠ 13)) → τ14 j i = σ j i := fun j i h_0 => (hG14 j i (by omega)).trans (hF0 j i h_0)
          show hpV _ _ _ _ _ _ _ _ _ _ _ _ _ _ _ _ _ _ _ _ _ []
          refine h_iload_n C dX9_number_65 0 rfl rfl ?_
          refine h_ireturn C hr hlk dX9_number_66 ?_
          exact ⟨⟨_, rfl, ⟨by omega, by omega⟩, by omega⟩, hI14, hF14⟩
        · refine h_iconst C dX9_number_54 ?_
          refine h_ireturn C hr hlk dX9_number_55 ?_
          exact ⟨⟨_, rfl, ⟨by decide, by decide⟩, by omega⟩, hI, hF0⟩
      · refine h_aload_n C dX9_number_42 0 rfl rfl ?_
        refine h_iconst C dX9_number_43 ?_
        refine h_callV (As := [.int (hpI 2)]) (rest := []) C Z yyX9_errs wd_1465 (tgX9_errs l D cy z _ 2 ⟨by decide, by decide⟩ hI (by omega)) kd_195 rfl rfl ⟨rfl, rfl, Nat.le_of_ble_eq_true rfl, Nat.le_of_ble_eq_true rfl⟩ ⟨Nat.le_of_ble_eq_true rfl, Nat.le_of_ble_eq_true rfl⟩ (Nat.le_of_ble_eq_true rfl) dX9_number_44 (fun r15 τ15 hp15 => ?_)
        obtain ⟨rfl, hI15, hG15, hq15_0⟩ := hp15
        have hF15 : ∀ j i : Nat, (j ≠ 195 ∨ (i ≠ 8 ∧ i ≠ 9 ∧ i ≠ 10 ∧ i ≠ 11 ∧ i ≠ 12 ∧ i ≠ 13)) → τ15 j i = σ j i := fun j i h_0 => (hG15 j i (by omega)).trans (hF0 j i h_0)
        have hg16 : τ15 195 11 = r9 := (hG15 195 11 (by omega)).trans hg9
        show hpV _ _ _ _ _ _ _ _ _ _ _ _ _ _ _ _ _ _ _ _ _ []
        refine h_aload_n C dX9_number_47 0 rfl rfl ?_
        refine h_callV (As := []) (rest := []) C Z yyX9_good wd_1438 (tgX9_good l D cy z _ hI15) kd_195 rfl rfl ⟨rfl, rfl, Nat.le_of_ble_eq_true rfl, Nat.le_of_ble_eq_true rfl⟩ ⟨Nat.le_of_ble_eq_true rfl, Nat.le_of_ble_eq_true rfl⟩ (Nat.le_of_ble_eq_true rfl) dX9_number_48 (fun r17 τ17 hp17 => ?_)
        obtain ⟨⟨x17, rfl, ⟨hx17a, hx17b⟩, hx17⟩, rfl⟩ := hp17
        show hpV _ _ _ _ _ _ _ _ _ _ _ _ _ _ _ _ _ _ _ _ _ (_ :: _)
        refine h_if_ne (tgt := 56) C dX9_number_51 (by decide) ⟨by omega, by omega⟩ (fun h18 => ?_) (fun h18 => ?_)
        · refine h_aload_n C dX9_number_56 0 rfl rfl ?_
          refine h_get C O9 11 kd_195 (by decide) wd_1267 dX9_number_57 (hp_fvI (by rw [kd_195]; rfl) rfl) ?_
          rw [hg16]
          refine h_istore_n (lv' := [(3, .int (hpI r9)), (0, .ref (z + 195)), (1, .int (hpI a0)), (2, .int (hpI a1))]) C dX9_number_60 rfl (by decide) rfl ?_
          refine h_aload_n C dX9_number_61 1 rfl rfl ?_
          refine h_callV (As := []) (rest := []) C Z yyX9_advance wd_1424 (tgX9_advance l D cy z _ hI15) kd_195 rfl rfl ⟨rfl, rfl, Nat.le_of_ble_eq_true rfl, Nat.le_of_ble_eq_true rfl⟩ ⟨Nat.le_of_ble_eq_true rfl, Nat.le_of_ble_eq_true rfl⟩ (Nat.le_of_ble_eq_true rfl) dX9_number_62 (fun r19 τ19 hp19 => ?_)
          obtain ⟨rfl, hI19, hG19⟩ := hp19
          have hF19 : ∀ j i : Nat, (j ≠ 195 ∨ (i ≠ 8 ∧ i ≠ 9 ∧ i ≠ 10 ∧ i ≠ 11 ∧ i ≠ 12 ∧ i ≠ 13)) → τ19 j i = σ j i := fun j i h_0 => (hG19 j i (by omega)).trans (hF15 j i h_0)
          show hpV _ _ _ _ _ _ _ _ _ _ _ _ _ _ _ _ _ _ _ _ _ []
          refine h_iload_n C dX9_number_65 0 rfl rfl ?_
          refine h_ireturn C hr hlk dX9_number_66 ?_
          exact ⟨⟨_, rfl, ⟨by omega, by omega⟩, by omega⟩, hI19, hF19⟩
        · refine h_iconst C dX9_number_54 ?_
          refine h_ireturn C hr hlk dX9_number_55 ?_
          exact ⟨⟨_, rfl, ⟨by decide, by decide⟩, by omega⟩, hI15, hF15⟩
  · refine h_aload_n C dX9_number_7 0 rfl rfl ?_
    refine h_get C O9 10 kd_195 (by decide) wd_1266 dX9_number_8 (hp_fvI (by rw [kd_195]; rfl) rfl) ?_
    obtain ⟨hr20a, hr20b⟩ := hI.b (bf_9_10 kd_195)
    generalize hg20 : σ 195 10 = r20 at hr20a hr20b ⊢
    refine h_iconst C dX9_number_11 ?_
    refine h_icmp_eq (tgt := 20) C dX9_number_12 (by decide) ⟨by omega, by omega⟩ ⟨by decide, by decide⟩ (fun h21 => ?_) (fun h21 => ?_)
    · refine h_aload_n C dX9_number_20 0 rfl rfl ?_
      refine h_callV (As := []) (rest := []) C Z yyX9_good wd_1438 (tgX9_good l D cy z _ hI) kd_195 rfl rfl ⟨rfl, rfl, Nat.le_of_ble_eq_true rfl, Nat.le_of_ble_eq_true rfl⟩ ⟨Nat.le_of_ble_eq_true rfl, Nat.le_of_ble_eq_true rfl⟩ (Nat.le_of_ble_eq_true rfl) dX9_number_21 (fun r22 τ22 hp22 => ?_)
      obtain ⟨⟨x22, rfl, ⟨hx22a, hx22b⟩, hx22⟩, rfl⟩ := hp22
      show hpV _ _ _ _ _ _ _ _ _ _ _ _ _ _ _ _ _ _ _ _ _ (_ :: _)
      refine h_if_eq (tgt := 47) C dX9_number_24 (by decide) ⟨by omega, by omega⟩ (fun h23 => ?_) (fun h23 => ?_)
      · refine h_aload_n C dX9_number_47 0 rfl rfl ?_
        refine h_callV (As := []) (rest := []) C Z yyX9_good wd_1438 (tgX9_good l D cy z _ hI) kd_195 rfl rfl ⟨rfl, rfl, Nat.le_of_ble_eq_true rfl, Nat.le_of_ble_eq_true rfl⟩ ⟨Nat.le_of_ble_eq_true rfl, Nat.le_of_ble_eq_true rfl⟩ (Nat.le_of_ble_eq_true rfl) dX9_number_48 (fun r24 τ24 hp24 => ?_)
        obtain ⟨⟨x24, rfl, ⟨hx24a, hx24b⟩, hx24⟩, rfl⟩ := hp24
        show hpV _ _ _ _ _ _ _ _ _ _ _ _ _ _ _ _ _ _ _ _ _ (_ :: _)
        refine h_if_ne (tgt := 56) C dX9_number_51 (by decide) ⟨by omega, by omega⟩ (fun h25 => ?_) (fun h25 => ?_)
        · refine h_aload_n C dX9_number_56 0 rfl rfl ?_
          refine h_get C O9 11 kd_195 (by decide) wd_1267 dX9_number_57 (hp_fvI (by rw [kd_195]; rfl) rfl) ?_
          obtain ⟨hr26a, hr26b⟩ := hI.b (bf_9_11 kd_195)
          generalize hg26 : σ 195 11 = r26 at hr26a hr26b ⊢
          refine h_istore_n (lv' := [(3, .int (hpI r26)), (0, .ref (z + 195)), (1, .int (hpI a0)), (2, .int (hpI a1))]) C dX9_number_60 rfl (by decide) rfl ?_
          refine h_aload_n C dX9_number_61 1 rfl rfl ?_
          refine h_callV (As := []) (rest := []) C Z yyX9_advance wd_1424 (tgX9_advance l D cy z _ hI) kd_195 rfl rfl ⟨rfl, rfl, Nat.le_of_ble_eq_true rfl, Nat.le_of_ble_eq_true rfl⟩ ⟨Nat.le_of_ble_eq_true rfl, Nat.le_of_ble_eq_true rfl⟩ (Nat.le_of_ble_eq_true rfl) dX9_number_62 (fun r27 τ27 hp27 => ?_)
          obtain ⟨rfl, hI27, hG27⟩ := hp27
          have hF27 : ∀ j i : Nat, (j ≠ 195 ∨ (i ≠ 8 ∧ i ≠ 9 ∧ i ≠ 10 ∧ i ≠ 11 ∧ i ≠ 12 ∧ i ≠ 13)) → τ27 j i = σ j i := fun j i h_0 => (hG27 j i (by omega)).trans (hF0 j i h_0)
          show hpV _ _ _ _ _ _ _ _ _ _ _ _ _ _ _ _ _ _ _ _ _ []
          refine h_iload_n C dX9_number_65 0 rfl rfl ?_
          refine h_ireturn C hr hlk dX9_number_66 ?_
          exact ⟨⟨_, rfl, ⟨by omega, by omega⟩, by omega⟩, hI27, hF27⟩
        · refine h_iconst C dX9_number_54 ?_
          refine h_ireturn C hr hlk dX9_number_55 ?_
          exact ⟨⟨_, rfl, ⟨by decide, by decide⟩, by omega⟩, hI, hF0⟩
      · refine h_aload_n C dX9_number_27 0 rfl rfl ?_
        refine h_get C O9 11 kd_195 (by decide) wd_1267 dX9_number_28 (hp_fvI (by rw [kd_195]; rfl) rfl) ?_
        obtain ⟨hr28a, hr28b⟩ := hI.b (bf_9_11 kd_195)
        generalize hg28 : σ 195 11 = r28 at hr28a hr28b ⊢
        refine h_i2l C dX9_number_31 ⟨by omega, by omega⟩ ?_
        refine h_iload_n C dX9_number_32 1 rfl rfl ?_
        refine h_i2l C dX9_number_33 ⟨by omega, by omega⟩ ?_
        refine h_iload_n C dX9_number_34 2 rfl rfl ?_
        refine h_i2l C dX9_number_35 ⟨by omega, by omega⟩ ?_
        refine h_callS (As := [.long (hpJ r28), .long (hpJ a0), .long (hpJ a1)]) (rest := []) C Z yyX9_in rfl wd_1401 (tgX9_in l D cy z _ r28 ⟨by omega, by omega⟩ a0 ⟨by omega, by omega⟩ a1 ⟨by omega, by omega⟩ hI) rfl rfl ⟨rfl, rfl, Nat.le_of_ble_eq_true rfl, Nat.le_of_ble_eq_true rfl⟩ ⟨Nat.le_of_ble_eq_true rfl, Nat.le_of_ble_eq_true rfl⟩ (Nat.le_of_ble_eq_true rfl) dX9_number_36 (fun r29 τ29 hp29 => ?_)
        obtain ⟨⟨x29, rfl, ⟨hx29a, hx29b⟩, hx29⟩, rfl⟩ := hp29
        show hpV _ _ _ _ _ _ _ _ _ _ _ _ _ _ _ _ _ _ _ _ _ (_ :: _)
        refine h_if_ne (tgt := 47) C dX9_number_39 (by decide) ⟨by omega, by omega⟩ (fun h30 => ?_) (fun h30 => ?_)
        · refine h_aload_n C dX9_number_47 0 rfl rfl ?_
          refine h_callV (As := []) (rest := []) C Z yyX9_good wd_1438 (tgX9_good l D cy z _ hI) kd_195 rfl rfl ⟨rfl, rfl, Nat.le_of_ble_eq_true rfl, Nat.le_of_ble_eq_true rfl⟩ ⟨Nat.le_of_ble_eq_true rfl, Nat.le_of_ble_eq_true rfl⟩ (Nat.le_of_ble_eq_true rfl) dX9_number_48 (fun r31 τ31 hp31 => ?_)
          obtain ⟨⟨x31, rfl, ⟨hx31a, hx31b⟩, hx31⟩, rfl⟩ := hp31
          show hpV _ _ _ _ _ _ _ _ _ _ _ _ _ _ _ _ _ _ _ _ _ (_ :: _)
          refine h_if_ne (tgt := 56) C dX9_number_51 (by decide) ⟨by omega, by omega⟩ (fun h32 => ?_) (fun h32 => ?_)
          · refine h_aload_n C dX9_number_56 0 rfl rfl ?_
            refine h_get C O9 11 kd_195 (by decide) wd_1267 dX9_number_57 (hp_fvI (by rw [kd_195]; rfl) rfl) ?_
            rw [hg28]
            refine h_istore_n (lv' := [(3, .int (hpI r28)), (0, .ref (z + 195)), (1, .int (hpI a0)), (2, .int (hpI a1))]) C dX9_number_60 rfl (by decide) rfl ?_
            refine h_aload_n C dX9_number_61 1 rfl rfl ?_
            refine h_callV (As := []) (rest := []) C Z yyX9_advance wd_1424 (tgX9_advance l D cy z _ hI) kd_195 rfl rfl ⟨rfl, rfl, Nat.le_of_ble_eq_true rfl, Nat.le_of_ble_eq_true rfl⟩ ⟨Nat.le_of_ble_eq_true rfl, Nat.le_of_ble_eq_true rfl⟩ (Nat.le_of_ble_eq_true rfl) dX9_number_62 (fun r33 τ33 hp33 => ?_)
            obtain ⟨rfl, hI33, hG33⟩ := hp33
            have hF33 : ∀ j i : Nat, (j ≠ 195 ∨ (i ≠ 8 ∧ i ≠ 9 ∧ i ≠ 10 ∧ i ≠ 11 ∧ i ≠ 12 ∧ i ≠ 13)) → τ33 j i = σ j i := fun j i h_0 => (hG33 j i (by omega)).trans (hF0 j i h_0)
            show hpV _ _ _ _ _ _ _ _ _ _ _ _ _ _ _ _ _ _ _ _ _ []
            refine h_iload_n C dX9_number_65 0 rfl rfl ?_
            refine h_ireturn C hr hlk dX9_number_66 ?_
            exact ⟨⟨_, rfl, ⟨by omega, by omega⟩, by omega⟩, hI33, hF33⟩
          · refine h_iconst C dX9_number_54 ?_
            refine h_ireturn C hr hlk dX9_number_55 ?_
            exact ⟨⟨_, rfl, ⟨by decide, by decide⟩, by omega⟩, hI, hF0⟩
        · refine h_aload_n C dX9_number_42 0 rfl rfl ?_
          refine h_iconst C dX9_number_43 ?_
          refine h_callV (As := [.int (hpI 2)]) (rest := []) C Z yyX9_errs wd_1465 (tgX9_errs l D cy z _ 2 ⟨by decide, by decide⟩ hI (by omega)) kd_195 rfl rfl ⟨rfl, rfl, Nat.le_of_ble_eq_true rfl, Nat.le_of_ble_eq_true rfl⟩ ⟨Nat.le_of_ble_eq_true rfl, Nat.le_of_ble_eq_true rfl⟩ (Nat.le_of_ble_eq_true rfl) dX9_number_44 (fun r34 τ34 hp34 => ?_)
          obtain ⟨rfl, hI34, hG34, hq34_0⟩ := hp34
          have hF34 : ∀ j i : Nat, (j ≠ 195 ∨ (i ≠ 8 ∧ i ≠ 9 ∧ i ≠ 10 ∧ i ≠ 11 ∧ i ≠ 12 ∧ i ≠ 13)) → τ34 j i = σ j i := fun j i h_0 => (hG34 j i (by omega)).trans (hF0 j i h_0)
          have hg35 : τ34 195 10 = r20 := (hG34 195 10 (by omega)).trans hg20
          have hg36 : τ34 195 11 = r28 := (hG34 195 11 (by omega)).trans hg28
          show hpV _ _ _ _ _ _ _ _ _ _ _ _ _ _ _ _ _ _ _ _ _ []
          refine h_aload_n C dX9_number_47 0 rfl rfl ?_
          refine h_callV (As := []) (rest := []) C Z yyX9_good wd_1438 (tgX9_good l D cy z _ hI34) kd_195 rfl rfl ⟨rfl, rfl, Nat.le_of_ble_eq_true rfl, Nat.le_of_ble_eq_true rfl⟩ ⟨Nat.le_of_ble_eq_true rfl, Nat.le_of_ble_eq_true rfl⟩ (Nat.le_of_ble_eq_true rfl) dX9_number_48 (fun r37 τ37 hp37 => ?_)
          obtain ⟨⟨x37, rfl, ⟨hx37a, hx37b⟩, hx37⟩, rfl⟩ := hp37
          show hpV _ _ _ _ _ _ _ _ _ _ _ _ _ _ _ _ _ _ _ _ _ (_ :: _)
          refine h_if_ne (tgt := 56) C dX9_number_51 (by decide) ⟨by omega, by omega⟩ (fun h38 => ?_) (fun h38 => ?_)
          · refine h_aload_n C dX9_number_56 0 rfl rfl ?_
            refine h_get C O9 11 kd_195 (by decide) wd_1267 dX9_number_57 (hp_fvI (by rw [kd_195]; rfl) rfl) ?_
            rw [hg36]
            refine h_istore_n (lv' := [(3, .int (hpI r28)), (0, .ref (z + 195)), (1, .int (hpI a0)), (2, .int (hpI a1))]) C dX9_number_60 rfl (by decide) rfl ?_
            refine h_aload_n C dX9_number_61 1 rfl rfl ?_
            refine h_callV (As := []) (rest := []) C Z yyX9_advance wd_1424 (tgX9_advance l D cy z _ hI34) kd_195 rfl rfl ⟨rfl, rfl, Nat.le_of_ble_eq_true rfl, Nat.le_of_ble_eq_true rfl⟩ ⟨Nat.le_of_ble_eq_true rfl, Nat.le_of_ble_eq_true rfl⟩ (Nat.le_of_ble_eq_true rfl) dX9_number_62 (fun r39 τ39 hp39 => ?_)
            obtain ⟨rfl, hI39, hG39⟩ := hp39
            have hF39 : ∀ j i : Nat, (j ≠ 195 ∨ (i ≠ 8 ∧ i ≠ 9 ∧ i ≠ 10 ∧ i ≠ 11 ∧ i ≠ 12 ∧ i ≠ 13)) → τ39 j i = σ j i := fun j i h_0 => (hG39 j i (by omega)).trans (hF34 j i h_0)
            show hpV _ _ _ _ _ _ _ _ _ _ _ _ _ _ _ _ _ _ _ _ _ []
            refine h_iload_n C dX9_number_65 0 rfl rfl ?_
            refine h_ireturn C hr hlk dX9_number_66 ?_
            exact ⟨⟨_, rfl, ⟨by omega, by omega⟩, by omega⟩, hI39, hF39⟩
          · refine h_iconst C dX9_number_54 ?_
            refine h_ireturn C hr hlk dX9_number_55 ?_
            exact ⟨⟨_, rfl, ⟨by decide, by decide⟩, by omega⟩, hI34, hF34⟩
    · refine h_aload_n C dX9_number_15 0 rfl rfl ?_
      refine h_iconst C dX9_number_16 ?_
      refine h_callV (As := [.int (hpI 1)]) (rest := []) C Z yyX9_errs wd_1465 (tgX9_errs l D cy z _ 1 ⟨by decide, by decide⟩ hI (by omega)) kd_195 rfl rfl ⟨rfl, rfl, Nat.le_of_ble_eq_true rfl, Nat.le_of_ble_eq_true rfl⟩ ⟨Nat.le_of_ble_eq_true rfl, Nat.le_of_ble_eq_true rfl⟩ (Nat.le_of_ble_eq_true rfl) dX9_number_17 (fun r40 τ40 hp40 => ?_)
      obtain ⟨rfl, hI40, hG40, hq40_0⟩ := hp40
      have hF40 : ∀ j i : Nat, (j ≠ 195 ∨ (i ≠ 8 ∧ i ≠ 9 ∧ i ≠ 10 ∧ i ≠ 11 ∧ i ≠ 12 ∧ i ≠ 13)) → τ40 j i = σ j i := fun j i h_0 => (hG40 j i (by omega)).trans (hF0 j i h_0)
      have hg41 : τ40 195 10 = r20 := (hG40 195 10 (by omega)).trans hg20
      show hpV _ _ _ _ _ _ _ _ _ _ _ _ _ _ _ _ _ _ _ _ _ []
      refine h_aload_n C dX9_number_20 0 rfl rfl ?_
      refine h_callV (As := []) (rest := []) C Z yyX9_good wd_1438 (tgX9_good l D cy z _ hI40) kd_195 rfl rfl ⟨rfl, rfl, Nat.le_of_ble_eq_true rfl, Nat.le_of_ble_eq_true rfl⟩ ⟨Nat.le_of_ble_eq_true rfl, Nat.le_of_ble_eq_true rfl⟩ (Nat.le_of_ble_eq_true rfl) dX9_number_21 (fun r42 τ42 hp42 => ?_)
      obtain ⟨⟨x42, rfl, ⟨hx42a, hx42b⟩, hx42⟩, rfl⟩ := hp42
      show hpV _ _ _ _ _ _ _ _ _ _ _ _ _ _ _ _ _ _ _ _ _ (_ :: _)
      refine h_if_eq (tgt := 47) C dX9_number_24 (by decide) ⟨by omega, by omega⟩ (fun h43 => ?_) (fun h43 => ?_)
      · refine h_aload_n C dX9_number_47 0 rfl rfl ?_
        refine h_callV (As := []) (rest := []) C Z yyX9_good wd_1438 (tgX9_good l D cy z _ hI40) kd_195 rfl rfl ⟨rfl, rfl, Nat.le_of_ble_eq_true rfl, Nat.le_of_ble_eq_true rfl⟩ ⟨Nat.le_of_ble_eq_true rfl, Nat.le_of_ble_eq_true rfl⟩ (Nat.le_of_ble_eq_true rfl) dX9_number_48 (fun r44 τ44 hp44 => ?_)
        obtain ⟨⟨x44, rfl, ⟨hx44a, hx44b⟩, hx44⟩, rfl⟩ := hp44
        show hpV _ _ _ _ _ _ _ _ _ _ _ _ _ _ _ _ _ _ _ _ _ (_ :: _)
        refine h_if_ne (tgt := 56) C dX9_number_51 (by decide) ⟨by omega, by omega⟩ (fun h45 => ?_) (fun h45 => ?_)
        · refine h_aload_n C dX9_number_56 0 rfl rfl ?_
          refine h_get C O9 11 kd_195 (by decide) wd_1267 dX9_number_57 (hp_fvI (by rw [kd_195]; rfl) rfl) ?_
          obtain ⟨hr46a, hr46b⟩ := hI40.b (bf_9_11 kd_195)
          generalize hg46 : τ40 195 11 = r46 at hr46a hr46b ⊢
          refine h_istore_n (lv' := [(3, .int (hpI r46)), (0, .ref (z + 195)), (1, .int (hpI a0)), (2, .int (hpI a1))]) C dX9_number_60 rfl (by decide) rfl ?_
          refine h_aload_n C dX9_number_61 1 rfl rfl ?_
          refine h_callV (As := []) (rest := []) C Z yyX9_advance wd_1424 (tgX9_advance l D cy z _ hI40) kd_195 rfl rfl ⟨rfl, rfl, Nat.le_of_ble_eq_true rfl, Nat.le_of_ble_eq_true rfl⟩ ⟨Nat.le_of_ble_eq_true rfl, Nat.le_of_ble_eq_true rfl⟩ (Nat.le_of_ble_eq_true rfl) dX9_number_62 (fun r47 τ47 hp47 => ?_)
          obtain ⟨rfl, hI47, hG47⟩ := hp47
          have hF47 : ∀ j i : Nat, (j ≠ 195 ∨ (i ≠ 8 ∧ i ≠ 9 ∧ i ≠ 10 ∧ i ≠ 11 ∧ i ≠ 12 ∧ i ≠ 13)) → τ47 j i = σ j i := fun j i h_0 => (hG47 j i (by omega)).trans (hF40 j i h_0)
          show hpV _ _ _ _ _ _ _ _ _ _ _ _ _ _ _ _ _ _ _ _ _ []
          refine h_iload_n C dX9_number_65 0 rfl rfl ?_
          refine h_ireturn C hr hlk dX9_number_66 ?_
          exact ⟨⟨_, rfl, ⟨by omega, by omega⟩, by omega⟩, hI47, hF47⟩
        · refine h_iconst C dX9_number_54 ?_
          refine h_ireturn C hr hlk dX9_number_55 ?_
          exact ⟨⟨_, rfl, ⟨by decide, by decide⟩, by omega⟩, hI40, hF40⟩
      · refine h_aload_n C dX9_number_27 0 rfl rfl ?_
        refine h_get C O9 11 kd_195 (by decide) wd_1267 dX9_number_28 (hp_fvI (by rw [kd_195]; rfl) rfl) ?_
        obtain ⟨hr48a, hr48b⟩ := hI40.b (bf_9_11 kd_195)
        generalize hg48 : τ40 195 11 = r48 at hr48a hr48b ⊢
        refine h_i2l C dX9_number_31 ⟨by omega, by omega⟩ ?_
        refine h_iload_n C dX9_number_32 1 rfl rfl ?_
        refine h_i2l C dX9_number_33 ⟨by omega, by omega⟩ ?_
        refine h_iload_n C dX9_number_34 2 rfl rfl ?_
        refine h_i2l C dX9_number_35 ⟨by omega, by omega⟩ ?_
        refine h_callS (As := [.long (hpJ r48), .long (hpJ a0), .long (hpJ a1)]) (rest := []) C Z yyX9_in rfl wd_1401 (tgX9_in l D cy z _ r48 ⟨by omega, by omega⟩ a0 ⟨by omega, by omega⟩ a1 ⟨by omega, by omega⟩ hI40) rfl rfl ⟨rfl, rfl, Nat.le_of_ble_eq_true rfl, Nat.le_of_ble_eq_true rfl⟩ ⟨Nat.le_of_ble_eq_true rfl, Nat.le_of_ble_eq_true rfl⟩ (Nat.le_of_ble_eq_true rfl) dX9_number_36 (fun r49 τ49 hp49 => ?_)
        obtain ⟨⟨x49, rfl, ⟨hx49a, hx49b⟩, hx49⟩, rfl⟩ := hp49
        show hpV _ _ _ _ _ _ _ _ _ _ _ _ _ _ _ _ _ _ _ _ _ (_ :: _)
        refine h_if_ne (tgt := 47) C dX9_number_39 (by decide) ⟨by omega, by omega⟩ (fun h50 => ?_) (fun h50 => ?_)
        · refine h_aload_n C dX9_number_47 0 rfl rfl ?_
          refine h_callV (As := []) (rest := []) C Z yyX9_good wd_1438 (tgX9_good l D cy z _ hI40) kd_195 rfl rfl ⟨rfl, rfl, Nat.le_of_ble_eq_true rfl, Nat.le_of_ble_eq_true rfl⟩ ⟨Nat.le_of_ble_eq_true rfl, Nat.le_of_ble_eq_true rfl⟩ (Nat.le_of_ble_eq_true rfl) dX9_number_48 (fun r51 τ51 hp51 => ?_)
          obtain ⟨⟨x51, rfl, ⟨hx51a, hx51b⟩, hx51⟩, rfl⟩ := hp51
          show hpV _ _ _ _ _ _ _ _ _ _ _ _ _ _ _ _ _ _ _ _ _ (_ :: _)
          refine h_if_ne (tgt := 56) C dX9_number_51 (by decide) ⟨by omega, by omega⟩ (fun h52 => ?_) (fun h52 => ?_)
          · refine h_aload_n C dX9_number_56 0 rfl rfl ?_
            refine h_get C O9 11 kd_195 (by decide) wd_1267 dX9_number_57 (hp_fvI (by rw [kd_195]; rfl) rfl) ?_
            rw [hg48]
            refine h_istore_n (lv' := [(3, .int (hpI r48)), (0, .ref (z + 195)), (1, .int (hpI a0)), (2, .int (hpI a1))]) C dX9_number_60 rfl (by decide) rfl ?_
            refine h_aload_n C dX9_number_61 1 rfl rfl ?_
            refine h_callV (As := []) (rest := []) C Z yyX9_advance wd_1424 (tgX9_advance l D cy z _ hI40) kd_195 rfl rfl ⟨rfl, rfl, Nat.le_of_ble_eq_true rfl, Nat.le_of_ble_eq_true rfl⟩ ⟨Nat.le_of_ble_eq_true rfl, Nat.le_of_ble_eq_true rfl⟩ (Nat.le_of_ble_eq_true rfl) dX9_number_62 (fun r53 τ53 hp53 => ?_)
            obtain ⟨rfl, hI53, hG53⟩ := hp53
            have hF53 : ∀ j i : Nat, (j ≠ 195 ∨ (i ≠ 8 ∧ i ≠ 9 ∧ i ≠ 10 ∧ i ≠ 11 ∧ i ≠ 12 ∧ i ≠ 13)) → τ53 j i = σ j i := fun j i h_0 => (hG53 j i (by omega)).trans (hF40 j i h_0)
            show hpV _ _ _ _ _ _ _ _ _ _ _ _ _ _ _ _ _ _ _ _ _ []
            refine h_iload_n C dX9_number_65 0 rfl rfl ?_
            refine h_ireturn C hr hlk dX9_number_66 ?_
            exact ⟨⟨_, rfl, ⟨by omega, by omega⟩, by omega⟩, hI53, hF53⟩
          · refine h_iconst C dX9_number_54 ?_
            refine h_ireturn C hr hlk dX9_number_55 ?_
            exact ⟨⟨_, rfl, ⟨by decide, by decide⟩, by omega⟩, hI40, hF40⟩
        · refine h_aload_n C dX9_number_42 0 rfl rfl ?_
          refine h_iconst C dX9_number_43 ?_
          refine h_callV (As := [.int (hpI 2)]) (rest := []) C Z yyX9_errs wd_1465 (tgX9_errs l D cy z _ 2 ⟨by decide, by decide⟩ hI40 (by omega)) kd_195 rfl rfl ⟨rfl, rfl, Nat.le_of_ble_eq_true rfl, Nat.le_of_ble_eq_true rfl⟩ ⟨Nat.le_of_ble_eq_true rfl, Nat.le_of_ble_eq_true rfl⟩ (Nat.le_of_ble_eq_true rfl) dX9_number_44 (fun r54 τ54 hp54 => ?_)
          obtain ⟨rfl, hI54, hG54, hq54_0⟩ := hp54
          have hF54 : ∀ j i : Nat, (j ≠ 195 ∨ (i ≠ 8 ∧ i ≠ 9 ∧ i ≠ 10 ∧ i ≠ 11 ∧ i ≠ 12 ∧ i ≠ 13)) → τ54 j i = σ j i := fun j i h_0 => (hG54 j i (by omega)).trans (hF40 j i h_0)
          have hg55 : τ54 195 10 = r20 := (hG54 195 10 (by omega)).trans hg41
          have hg56 : τ54 195 11 = r48 := (hG54 195 11 (by omega)).trans hg48
          show hpV _ _ _ _ _ _ _ _ _ _ _ _ _ _ _ _ _ _ _ _ _ []
          refine h_aload_n C dX9_number_47 0 rfl rfl ?_
          refine h_callV (As := []) (rest := []) C Z yyX9_good wd_1438 (tgX9_good l D cy z _ hI54) kd_195 rfl rfl ⟨rfl, rfl, Nat.le_of_ble_eq_true rfl, Nat.le_of_ble_eq_true rfl⟩ ⟨Nat.le_of_ble_eq_true rfl, Nat.le_of_ble_eq_true rfl⟩ (Nat.le_of_ble_eq_true rfl) dX9_number_48 (fun r57 τ57 hp57 => ?_)
          obtain ⟨⟨x57, rfl, ⟨hx57a, hx57b⟩, hx57⟩, rfl⟩ := hp57
          show hpV _ _ _ _ _ _ _ _ _ _ _ _ _ _ _ _ _ _ _ _ _ (_ :: _)
          refine h_if_ne (tgt := 56) C dX9_number_51 (by decide) ⟨by omega, by omega⟩ (fun h58 => ?_) (fun h58 => ?_)
          · refine h_aload_n C dX9_number_56 0 rfl rfl ?_
            refine h_get C O9 11 kd_195 (by decide) wd_1267 dX9_number_57 (hp_fvI (by rw [kd_195]; rfl) rfl) ?_
            rw [hg56]
            refine h_istore_n (lv' := [(3, .int (hpI r48)), (0, .ref (z + 195)), (1, .int (hpI a0)), (2, .int (hpI a1))]) C dX9_number_60 rfl (by decide) rfl ?_
            refine h_aload_n C dX9_number_61 1 rfl rfl ?_
            refine h_callV (As := []) (rest := []) C Z yyX9_advance wd_1424 (tgX9_advance l D cy z _ hI54) kd_195 rfl rfl ⟨rfl, rfl, Nat.le_of_ble_eq_true rfl, Nat.le_of_ble_eq_true rfl⟩ ⟨Nat.le_of_ble_eq_true rfl, Nat.le_of_ble_eq_true rfl⟩ (Nat.le_of_ble_eq_true rfl) dX9_number_62 (fun r59 τ59 hp59 => ?_)
            obtain ⟨rfl, hI59, hG59⟩ := hp59
            have hF59 : ∀ j i : Nat, (j ≠ 195 ∨ (i ≠ 8 ∧ i ≠ 9 ∧ i ≠ 10 ∧ i ≠ 11 ∧ i ≠ 12 ∧ i ≠ 13)) → τ59 j i = σ j i := fun j i h_0 => (hG59 j i (by omega)).trans (hF54 j i h_0)
            show hpV _ _ _ _ _ _ _ _ _ _ _ _ _ _ _ _ _ _ _ _ _ []
            refine h_iload_n C dX9_number_65 0 rfl rfl ?_
            refine h_ireturn C hr hlk dX9_number_66 ?_
            exact ⟨⟨_, rfl, ⟨by omega, by omega⟩, by omega⟩, hI59, hF59⟩
          · refine h_iconst C dX9_number_54 ?_
            refine h_ireturn C hr hlk dX9_number_55 ?_
            exact ⟨⟨_, rfl, ⟨by decide, by decide⟩, by omega⟩, hI54, hF54⟩
abbrev rgX9_toldBy : Room := { frames := 7, cells := 0, slots := 0, locals := 151 }
abbrev pgX9_toldBy (z : Nat) (σ : hpMem) (a0 : Nat) (a1 : Int) (a2 : Int) : Option Value → hpMem → Prop := fun r τ => (∃ x : Int, r = some (.int (hpI x)) ∧ (hpR x) ∧ (x = 0 ∨ (a1 ≤ x ∧ x ≤ a2))) ∧ hpInv τ ∧ (∀ j i : Nat, (j ≠ 195 ∨ (i ≠ 8 ∧ i ≠ 9 ∧ i ≠ 10 ∧ i ≠ 11 ∧ i ≠ 12 ∧ i ≠ 13)) → τ j i = σ j i)
set_option maxHeartbeats 4000000 in
set_option maxRecDepth 20000 in
theorem tgX9_toldBy (l : Launch) (D : va_G) (cy : Nat → ClassId) (z : Nat) (σ : hpMem) (a0 : Nat) (ha0 : a0 < 16) (a1 : Int) (ha1 : hpR a1) (a2 : Int) (ha2 : hpR a2) (hI : hpInv σ) (hlh : 0 ≤ a1 ∧ a2 ≤ 1000) : hpM l D cy z yX9_toldBy cX9_toldBy 4 (some .int) rgX9_toldBy [.ref (z + 195), .ref (cy (1000 + a0)), .int (hpI a1), .int (hpI a2)] σ (pgX9_toldBy z σ a0 a1 a2) := by
  have hl_a0 := hpsL_le ha0
  obtain ⟨ha11, ha12⟩ := ha1
  obtain ⟨ha21, ha22⟩ := ha2
  refine hp_met rfl (Nat.le_of_ble_eq_true rfl) (fun p e s m below meth c C Z hr hlk => ?_)
  have hF0 : ∀ j i : Nat, (j ≠ 195 ∨ (i ≠ 8 ∧ i ≠ 9 ∧ i ≠ 10 ∧ i ≠ 11 ∧ i ≠ 12 ∧ i ≠ 13)) → σ j i = σ j i := fun j i _ => rfl
  refine h_aload_n C dX9_toldBy_0 0 rfl rfl ?_
  refine h_aload_n C dX9_toldBy_1 1 rfl rfl ?_
  refine h_callV (As := [.ref (cy (1000 + a0))]) (rest := []) C Z yyX9_expects wd_1451 (tgX9_expects l D cy z _ a0 ha0 hI) kd_195 rfl rfl ⟨rfl, rfl, Nat.le_of_ble_eq_true rfl, Nat.le_of_ble_eq_true rfl⟩ ⟨Nat.le_of_ble_eq_true rfl, Nat.le_of_ble_eq_true rfl⟩ (Nat.le_of_ble_eq_true rfl) dX9_toldBy_2 (fun r1 τ1 hp1 => ?_)
  obtain ⟨rfl, hI1, hG1⟩ := hp1
  have hF1 : ∀ j i : Nat, (j ≠ 195 ∨ (i ≠ 8 ∧ i ≠ 9 ∧ i ≠ 10 ∧ i ≠ 11 ∧ i ≠ 12 ∧ i ≠ 13)) → τ1 j i = σ j i := fun j i h_0 => (hG1 j i (by omega)).trans (hF0 j i h_0)
  show hpV _ _ _ _ _ _ _ _ _ _ _ _ _ _ _ _ _ _ _ _ _ []
  refine h_aload_n C dX9_toldBy_5 0 rfl rfl ?_
  refine h_iload_n C dX9_toldBy_6 2 rfl rfl ?_
  refine h_iload_n C dX9_toldBy_7 3 rfl rfl ?_
  refine h_callV (As := [.int (hpI a1), .int (hpI a2)]) (rest := []) C Z yyX9_number wd_1474 (tgX9_number l D cy z _ a1 ⟨by omega, by omega⟩ a2 ⟨by omega, by omega⟩ hI1 (by omega)) kd_195 rfl rfl ⟨rfl, rfl, Nat.le_of_ble_eq_true rfl, Nat.le_of_ble_eq_true rfl⟩ ⟨Nat.le_of_ble_eq_true rfl, Nat.le_of_ble_eq_true rfl⟩ (Nat.le_of_ble_eq_true rfl) dX9_toldBy_8 (fun r2 τ2 hp2 => ?_)
  obtain ⟨⟨x2, rfl, ⟨hx2a, hx2b⟩, hx2⟩, hI2, hG2⟩ := hp2
  have hF2 : ∀ j i : Nat, (j ≠ 195 ∨ (i ≠ 8 ∧ i ≠ 9 ∧ i ≠ 10 ∧ i ≠ 11 ∧ i ≠ 12 ∧ i ≠ 13)) → τ2 j i = σ j i := fun j i h_0 => (hG2 j i (by omega)).trans (hF1 j i h_0)
  show hpV _ _ _ _ _ _ _ _ _ _ _ _ _ _ _ _ _ _ _ _ _ (_ :: _)
  refine h_ireturn C hr hlk dX9_toldBy_11 ?_
  exact ⟨⟨_, rfl, ⟨by omega, by omega⟩, by omega⟩, hI2, hF2⟩
abbrev rgX9_fault : Room := { frames := 0, cells := 0, slots := 0, locals := 0 }
abbrev pgX9_fault (z : Nat) (σ : hpMem) (a0 : Int) : Option Value → hpMem → Prop := fun r τ => (∃ x : Int, r = some (.int (hpI x)) ∧ (hpR x)) ∧ σ = τ
set_option maxHeartbeats 4000000 in
set_option maxRecDepth 20000 in
theorem tgX9_fault (l : Launch) (D : va_G) (cy : Nat → ClassId) (z : Nat) (σ : hpMem) (a0 : Int) (ha0 : hpR a0) (hI : hpInv σ) : hpM l D cy z yX9_fault cX9_fault 2 (some .int) rgX9_fault [.ref (z + 195), .int (hpI a0)] σ (pgX9_fault z σ a0) := by
  obtain ⟨ha01, ha02⟩ := ha0
  refine hp_met rfl (Nat.le_of_ble_eq_true rfl) (fun p e s m below meth c C Z hr hlk => ?_)
  refine h_iload_n C dX9_fault_0 1 rfl rfl ?_
  refine h_if_ne (tgt := 11) C dX9_fault_1 (by decide) ⟨by omega, by omega⟩ (fun h1 => ?_) (fun h1 => ?_)
  · refine h_iload_n C dX9_fault_11 1 rfl rfl ?_
    refine h_iconst C dX9_fault_12 ?_
    refine h_icmp_ne (tgt := 23) C dX9_fault_13 (by decide) ⟨by omega, by omega⟩ ⟨by decide, by decide⟩ (fun h2 => ?_) (fun h2 => ?_)
    · refine h_iconst C dX9_fault_23 ?_
      refine h_ireturn C hr hlk dX9_fault_24 ?_
      exact ⟨⟨_, rfl, ⟨by decide, by decide⟩⟩, rfl⟩
    · refine h_aload_n C dX9_fault_16 0 rfl rfl ?_
      refine h_get C O9 13 kd_195 (by decide) wd_1269 dX9_fault_17 (hp_fvI (by rw [kd_195]; rfl) rfl) ?_
      obtain ⟨hr3a, hr3b⟩ := hI.b (bf_9_13 kd_195)
      generalize hg3 : σ 195 13 = r3 at hr3a hr3b ⊢
      refine h_goto (tgt := 24) C dX9_fault_20 (by decide) ?_
      refine h_ireturn C hr hlk dX9_fault_24 ?_
      exact ⟨⟨_, rfl, ⟨by omega, by omega⟩⟩, rfl⟩
  · refine h_aload_n C dX9_fault_4 0 rfl rfl ?_
    refine h_get C O9 12 kd_195 (by decide) wd_1268 dX9_fault_5 (hp_fvI (by rw [kd_195]; rfl) rfl) ?_
    obtain ⟨hr4a, hr4b⟩ := hI.b (bf_9_12 kd_195)
    generalize hg4 : σ 195 12 = r4 at hr4a hr4b ⊢
    refine h_goto (tgt := 24) C dX9_fault_8 (by decide) ?_
    refine h_ireturn C hr hlk dX9_fault_24 ?_
    exact ⟨⟨_, rfl, ⟨by omega, by omega⟩⟩, rfl⟩
abbrev rgX9_readFirst : Room := { frames := 8, cells := 0, slots := 0, locals := 174 }
abbrev pgX9_readFirst (z : Nat) (σ : hpMem) : Option Value → hpMem → Prop := fun r τ => r = none ∧ hpInv τ ∧ (∀ j i : Nat, (j ≠ 195 ∨ (i ≠ 8 ∧ i ≠ 9 ∧ i ≠ 10 ∧ i ≠ 11 ∧ i ≠ 12 ∧ i ≠ 13)) → (j ≠ 201 ∨ 2 < i) → τ j i = σ j i)
set_option maxHeartbeats 4000000 in
set_option maxRecDepth 20000 in
theorem tgX9_readFirst (l : Launch) (D : va_G) (cy : Nat → ClassId) (z : Nat) (σ : hpMem) (hI : hpInv σ) : hpM l D cy z yX9_readFirst cX9_readFirst 1 none rgX9_readFirst [.ref (z + 195)] σ (pgX9_readFirst z σ) := by
  refine hp_met rfl (Nat.le_of_ble_eq_true rfl) (fun p e s m below meth c C Z hr hlk => ?_)
  have hF0 : ∀ j i : Nat, (j ≠ 195 ∨ (i ≠ 8 ∧ i ≠ 9 ∧ i ≠ 10 ∧ i ≠ 11 ∧ i ≠ 12 ∧ i ≠ 13)) → (j ≠ 201 ∨ 2 < i) → σ j i = σ j i := fun j i _ _ => rfl
  refine h_aload_n C dX9_readFirst_0 0 rfl rfl ?_
  refine h_ldcS (i := 8) C Z (by decide) rfl dX9_readFirst_1 ?_
  refine h_callV (As := [.ref (cy (1000 + 8))]) (rest := []) C Z yyX9_expects wd_1451 (tgX9_expects l D cy z _ 8 (by decide) hI) kd_195 rfl rfl ⟨rfl, rfl, Nat.le_of_ble_eq_true rfl, Nat.le_of_ble_eq_true rfl⟩ ⟨Nat.le_of_ble_eq_true rfl, Nat.le_of_ble_eq_true rfl⟩ (Nat.le_of_ble_eq_true rfl) dX9_readFirst_3 (fun r1 τ1 hp1 => ?_)
  obtain ⟨rfl, hI1, hG1⟩ := hp1
  have hF1 : ∀ j i : Nat, (j ≠ 195 ∨ (i ≠ 8 ∧ i ≠ 9 ∧ i ≠ 10 ∧ i ≠ 11 ∧ i ≠ 12 ∧ i ≠ 13)) → (j ≠ 201 ∨ 2 < i) → τ1 j i = σ j i := fun j i h_0 h_1 => (hG1 j i (by omega)).trans (hF0 j i h_0 h_1)
  show hpV _ _ _ _ _ _ _ _ _ _ _ _ _ _ _ _ _ _ _ _ _ []
  refine h_aload_n C dX9_readFirst_6 0 rfl rfl ?_
  refine h_get C O9 14 kd_195 (by decide) wd_1270 dX9_readFirst_7 fr_195_14 ?_
  refine h_iconst C dX9_readFirst_10 ?_
  refine h_aload_n C dX9_readFirst_11 0 rfl rfl ?_
  refine h_ldcS (i := 9) C Z (by decide) rfl dX9_readFirst_12 ?_
  refine h_iconst C dX9_readFirst_14 ?_
  refine h_bipush C dX9_readFirst_15 (by decide) ?_
  refine h_callV (As := [.ref (cy (1000 + 9)), .int (hpI 1), .int (hpI 16)]) (rest := [.int (hpI 0), .ref (z + 201)]) C Z yyX9_toldBy wd_1470 (tgX9_toldBy l D cy z _ 9 (by decide) 1 ⟨by decide, by decide⟩ 16 ⟨by decide, by decide⟩ hI1 (by omega)) kd_195 rfl rfl ⟨rfl, rfl, Nat.le_of_ble_eq_true rfl, Nat.le_of_ble_eq_true rfl⟩ ⟨Nat.le_of_ble_eq_true rfl, Nat.le_of_ble_eq_true rfl⟩ (Nat.le_of_ble_eq_true rfl) dX9_readFirst_17 (fun r2 τ2 hp2 => ?_)
  obtain ⟨⟨x2, rfl, ⟨hx2a, hx2b⟩, hx2⟩, hI2, hG2⟩ := hp2
  have hF2 : ∀ j i : Nat, (j ≠ 195 ∨ (i ≠ 8 ∧ i ≠ 9 ∧ i ≠ 10 ∧ i ≠ 11 ∧ i ≠ 12 ∧ i ≠ 13)) → (j ≠ 201 ∨ 2 < i) → τ2 j i = σ j i := fun j i h_0 h_1 => (hG2 j i (by omega)).trans (hF1 j i h_0 h_1)
  show hpV _ _ _ _ _ _ _ _ _ _ _ _ _ _ _ _ _ _ _ _ _ (_ :: _)
  refine h_iastore C dX9_readFirst_20 kd_201 0 rfl (by rw [ln_201]; decide) ?_
  obtain ⟨τ3, e3⟩ : ∃ μ : hpMem, μ = hpw τ2 201 0 x2 := ⟨_, rfl⟩
  rw [← e3]
  have hI3 : hpInv τ3 := by rw [e3]; exact hI2.w ((bw_201 0).trans (show hpwb 0 = (0, 16) by decide)) (by omega) (by omega)
  have hF3 : ∀ j i : Nat, (j ≠ 195 ∨ (i ≠ 8 ∧ i ≠ 9 ∧ i ≠ 10 ∧ i ≠ 11 ∧ i ≠ 12 ∧ i ≠ 13)) → (j ≠ 201 ∨ 2 < i) → τ3 j i = σ j i := fun j i h_0 h_1 => by rw [e3]; exact (hpw_fr (by omega)).trans (hF2 j i h_0 h_1)
  have hg4 : τ3 201 0 = x2 := by rw [e3]; exact hpw_eq
  refine h_aload_n C dX9_readFirst_21 0 rfl rfl ?_
  refine h_get C O9 14 kd_195 (by decide) wd_1270 dX9_readFirst_22 fr_195_14 ?_
  refine h_iconst C dX9_readFirst_25 ?_
  refine h_aload_n C dX9_readFirst_26 0 rfl rfl ?_
  refine h_ldcS (i := 10) C Z (by decide) rfl dX9_readFirst_27 ?_
  refine h_iconst C dX9_readFirst_29 ?_
  refine h_iconst C dX9_readFirst_30 ?_
  refine h_callV (As := [.ref (cy (1000 + 10)), .int (hpI 0), .int (hpI 3)]) (rest := [.int (hpI 1), .ref (z + 201)]) C Z yyX9_toldBy wd_1470 (tgX9_toldBy l D cy z _ 10 (by decide) 0 ⟨by decide, by decide⟩ 3 ⟨by decide, by decide⟩ hI3 (by omega)) kd_195 rfl rfl ⟨rfl, rfl, Nat.le_of_ble_eq_true rfl, Nat.le_of_ble_eq_true rfl⟩ ⟨Nat.le_of_ble_eq_true rfl, Nat.le_of_ble_eq_true rfl⟩ (Nat.le_of_ble_eq_true rfl) dX9_readFirst_31 (fun r5 τ5 hp5 => ?_)
  obtain ⟨⟨x5, rfl, ⟨hx5a, hx5b⟩, hx5⟩, hI5, hG5⟩ := hp5
  have hF5 : ∀ j i : Nat, (j ≠ 195 ∨ (i ≠ 8 ∧ i ≠ 9 ∧ i ≠ 10 ∧ i ≠ 11 ∧ i ≠ 12 ∧ i ≠ 13)) → (j ≠ 201 ∨ 2 < i) → τ5 j i = σ j i := fun j i h_0 h_1 => (hG5 j i (by omega)).trans (hF3 j i h_0 h_1)
  have hg6 : τ5 201 0 = x2 := (hG5 201 0 (by omega)).trans hg4
  show hpV _ _ _ _ _ _ _ _ _ _ _ _ _ _ _ _ _ _ _ _ _ (_ :: _)
  refine h_iastore C dX9_readFirst_34 kd_201 1 rfl (by rw [ln_201]; decide) ?_
  obtain ⟨τ7, e7⟩ : ∃ μ : hpMem, μ = hpw τ5 201 1 x5 := ⟨_, rfl⟩
  rw [← e7]
  have hI7 : hpInv τ7 := by rw [e7]; exact hI5.w ((bw_201 1).trans (show hpwb 1 = (0, 3) by decide)) (by omega) (by omega)
  have hF7 : ∀ j i : Nat, (j ≠ 195 ∨ (i ≠ 8 ∧ i ≠ 9 ∧ i ≠ 10 ∧ i ≠ 11 ∧ i ≠ 12 ∧ i ≠ 13)) → (j ≠ 201 ∨ 2 < i) → τ7 j i = σ j i := fun j i h_0 h_1 => by rw [e7]; exact (hpw_fr (by omega)).trans (hF5 j i h_0 h_1)
  have hg8 : τ7 201 0 = x2 := by rw [e7]; exact (hpw_fr (Or.inr (by decide))).trans hg6
  have hg9 : τ7 201 1 = x5 := by rw [e7]; exact hpw_eq
  refine h_aload_n C dX9_readFirst_35 0 rfl rfl ?_
  refine h_get C O9 14 kd_195 (by decide) wd_1270 dX9_readFirst_36 fr_195_14 ?_
  refine h_iconst C dX9_readFirst_39 ?_
  refine h_aload_n C dX9_readFirst_40 0 rfl rfl ?_
  refine h_ldcS (i := 11) C Z (by decide) rfl dX9_readFirst_41 ?_
  refine h_iconst C dX9_readFirst_43 ?_
  refine h_bipush C dX9_readFirst_44 (by decide) ?_
  refine h_callV (As := [.ref (cy (1000 + 11)), .int (hpI 0), .int (hpI 10)]) (rest := [.int (hpI 2), .ref (z + 201)]) C Z yyX9_toldBy wd_1470 (tgX9_toldBy l D cy z _ 11 (by decide) 0 ⟨by decide, by decide⟩ 10 ⟨by decide, by decide⟩ hI7 (by omega)) kd_195 rfl rfl ⟨rfl, rfl, Nat.le_of_ble_eq_true rfl, Nat.le_of_ble_eq_true rfl⟩ ⟨Nat.le_of_ble_eq_true rfl, Nat.le_of_ble_eq_true rfl⟩ (Nat.le_of_ble_eq_true rfl) dX9_readFirst_46 (fun r10 τ10 hp10 => ?_)
  obtain ⟨⟨x10, rfl, ⟨hx10a, hx10b⟩, hx10⟩, hI10, hG10⟩ := hp10
  have hF10 : ∀ j i : Nat, (j ≠ 195 ∨ (i ≠ 8 ∧ i ≠ 9 ∧ i ≠ 10 ∧ i ≠ 11 ∧ i ≠ 12 ∧ i ≠ 13)) → (j ≠ 201 ∨ 2 < i) → τ10 j i = σ j i := fun j i h_0 h_1 => (hG10 j i (by omega)).trans (hF7 j i h_0 h_1)
  have hg11 : τ10 201 0 = x2 := (hG10 201 0 (by omega)).trans hg8
  have hg12 : τ10 201 1 = x5 := (hG10 201 1 (by omega)).trans hg9
  show hpV _ _ _ _ _ _ _ _ _ _ _ _ _ _ _ _ _ _ _ _ _ (_ :: _)
  refine h_iastore C dX9_readFirst_49 kd_201 2 rfl (by rw [ln_201]; decide) ?_
  obtain ⟨τ13, e13⟩ : ∃ μ : hpMem, μ = hpw τ10 201 2 x10 := ⟨_, rfl⟩
  rw [← e13]
  have hI13 : hpInv τ13 := by rw [e13]; exact hI10.w ((bw_201 2).trans (show hpwb 2 = (0, 10) by decide)) (by omega) (by omega)
  have hF13 : ∀ j i : Nat, (j ≠ 195 ∨ (i ≠ 8 ∧ i ≠ 9 ∧ i ≠ 10 ∧ i ≠ 11 ∧ i ≠ 12 ∧ i ≠ 13)) → (j ≠ 201 ∨ 2 < i) → τ13 j i = σ j i := fun j i h_0 h_1 => by rw [e13]; exact (hpw_fr (by omega)).trans (hF10 j i h_0 h_1)
  have hg14 : τ13 201 0 = x2 := by rw [e13]; exact (hpw_fr (Or.inr (by decide))).trans hg11
  have hg15 : τ13 201 1 = x5 := by rw [e13]; exact (hpw_fr (Or.inr (by decide))).trans hg12
  have hg16 : τ13 201 2 = x10 := by rw [e13]; exact hpw_eq
  refine h_return C hr hlk dX9_readFirst_50 ?_
  exact ⟨rfl, hI13, hF13⟩
abbrev rgX9_readNext : Room := { frames := 8, cells := 0, slots := 0, locals := 174 }
abbrev pgX9_readNext (z : Nat) (σ : hpMem) : Option Value → hpMem → Prop := fun r τ => r = none ∧ hpInv τ ∧ (∀ j i : Nat, (j ≠ 195 ∨ (i ≠ 8 ∧ i ≠ 9 ∧ i ≠ 10 ∧ i ≠ 11 ∧ i ≠ 12 ∧ i ≠ 13)) → (j ≠ 201 ∨ i = 6) → τ j i = σ j i) ∧ (τ 195 12 ≠ 0 ∨ τ 201 3 + τ 201 4 = σ 201 3 + σ 201 4 + 1)
set_option maxHeartbeats 4000000 in
set_option maxRecDepth 20000 in
theorem tgX9_readNext (l : Launch) (D : va_G) (cy : Nat → ClassId) (z : Nat) (σ : hpMem) (hI : hpInv σ) : hpM l D cy z yX9_readNext cX9_readNext 2 none rgX9_readNext [.ref (z + 195)] σ (pgX9_readNext z σ) := by
  refine hp_met rfl (Nat.le_of_ble_eq_true rfl) (fun p e s m below meth c C Z hr hlk => ?_)
  have hF0 : ∀ j i : Nat, (j ≠ 195 ∨ (i ≠ 8 ∧ i ≠ 9 ∧ i ≠ 10 ∧ i ≠ 11 ∧ i ≠ 12 ∧ i ≠ 13)) → (j ≠ 201 ∨ i = 6) → σ j i = σ j i := fun j i _ _ => rfl
  refine h_aload_n C dX9_readNext_0 0 rfl rfl ?_
  refine h_ldcS (i := 12) C Z (by decide) rfl dX9_readNext_1 ?_
  refine h_callV (As := [.ref (cy (1000 + 12))]) (rest := []) C Z yyX9_is wd_1459 (tgX9_is l D cy z _ 12 (by decide) hI) kd_195 rfl rfl ⟨rfl, rfl, Nat.le_of_ble_eq_true rfl, Nat.le_of_ble_eq_true rfl⟩ ⟨Nat.le_of_ble_eq_true rfl, Nat.le_of_ble_eq_true rfl⟩ (Nat.le_of_ble_eq_true rfl) dX9_readNext_3 (fun r1 τ1 hp1 => ?_)
  obtain ⟨⟨x1, rfl, ⟨hx1a, hx1b⟩, hx1⟩, rfl⟩ := hp1
  show hpV _ _ _ _ _ _ _ _ _ _ _ _ _ _ _ _ _ _ _ _ _ (_ :: _)
  refine h_if_ne (tgt := 23) C dX9_readNext_6 (by decide) ⟨by omega, by omega⟩ (fun h2 => ?_) (fun h2 => ?_)
  · refine h_aload_n C dX9_readNext_23 0 rfl rfl ?_
    refine h_ldcS (i := 12) C Z (by decide) rfl dX9_readNext_24 ?_
    refine h_callV (As := [.ref (cy (1000 + 12))]) (rest := []) C Z yyX9_is wd_1459 (tgX9_is l D cy z _ 12 (by decide) hI) kd_195 rfl rfl ⟨rfl, rfl, Nat.le_of_ble_eq_true rfl, Nat.le_of_ble_eq_true rfl⟩ ⟨Nat.le_of_ble_eq_true rfl, Nat.le_of_ble_eq_true rfl⟩ (Nat.le_of_ble_eq_true rfl) dX9_readNext_26 (fun r3 τ3 hp3 => ?_)
    obtain ⟨⟨x3, rfl, ⟨hx3a, hx3b⟩, hx3⟩, rfl⟩ := hp3
    show hpV _ _ _ _ _ _ _ _ _ _ _ _ _ _ _ _ _ _ _ _ _ (_ :: _)
    refine h_if_eq (tgt := 43) C dX9_readNext_29 (by decide) ⟨by omega, by omega⟩ (fun h4 => ?_) (fun h4 => ?_)
    · refine h_aload_n C dX9_readNext_43 0 rfl rfl ?_
      refine h_ldcS (i := 13) C Z (by decide) rfl dX9_readNext_44 ?_
      refine h_callV (As := [.ref (cy (1000 + 13))]) (rest := []) C Z yyX9_is wd_1459 (tgX9_is l D cy z _ 13 (by decide) hI) kd_195 rfl rfl ⟨rfl, rfl, Nat.le_of_ble_eq_true rfl, Nat.le_of_ble_eq_true rfl⟩ ⟨Nat.le_of_ble_eq_true rfl, Nat.le_of_ble_eq_true rfl⟩ (Nat.le_of_ble_eq_true rfl) dX9_readNext_46 (fun r5 τ5 hp5 => ?_)
      obtain ⟨⟨x5, rfl, ⟨hx5a, hx5b⟩, hx5⟩, rfl⟩ := hp5
      show hpV _ _ _ _ _ _ _ _ _ _ _ _ _ _ _ _ _ _ _ _ _ (_ :: _)
      refine h_if_eq (tgt := 68) C dX9_readNext_49 (by decide) ⟨by omega, by omega⟩ (fun h6 => ?_) (fun h6 => ?_)
      · refine h_aload_n C dX9_readNext_68 0 rfl rfl ?_
        refine h_callV (As := []) (rest := []) C Z yyX9_good wd_1438 (tgX9_good l D cy z _ hI) kd_195 rfl rfl ⟨rfl, rfl, Nat.le_of_ble_eq_true rfl, Nat.le_of_ble_eq_true rfl⟩ ⟨Nat.le_of_ble_eq_true rfl, Nat.le_of_ble_eq_true rfl⟩ (Nat.le_of_ble_eq_true rfl) dX9_readNext_69 (fun r7 τ7 hp7 => ?_)
        obtain ⟨⟨x7, rfl, ⟨hx7a, hx7b⟩, hx7⟩, rfl⟩ := hp7
        show hpV _ _ _ _ _ _ _ _ _ _ _ _ _ _ _ _ _ _ _ _ _ (_ :: _)
        refine h_if_ne (tgt := 76) C dX9_readNext_72 (by decide) ⟨by omega, by omega⟩ (fun h8 => ?_) (fun h8 => ?_)
        · refine h_aload_n C dX9_readNext_76 0 rfl rfl ?_
          refine h_ldcS (i := 12) C Z (by decide) rfl dX9_readNext_77 ?_
          refine h_callV (As := [.ref (cy (1000 + 12))]) (rest := []) C Z yyX9_takes wd_1455 (tgX9_takes l D cy z _ 12 (by decide) hI) kd_195 rfl rfl ⟨rfl, rfl, Nat.le_of_ble_eq_true rfl, Nat.le_of_ble_eq_true rfl⟩ ⟨Nat.le_of_ble_eq_true rfl, Nat.le_of_ble_eq_true rfl⟩ (Nat.le_of_ble_eq_true rfl) dX9_readNext_79 (fun r9 τ9 hp9 => ?_)
          obtain ⟨⟨x9, rfl, ⟨hx9a, hx9b⟩, hx9⟩, hI9, hG9⟩ := hp9
          have hF9 : ∀ j i : Nat, (j ≠ 195 ∨ (i ≠ 8 ∧ i ≠ 9 ∧ i ≠ 10 ∧ i ≠ 11 ∧ i ≠ 12 ∧ i ≠ 13)) → (j ≠ 201 ∨ i = 6) → τ9 j i = σ j i := fun j i h_0 h_1 => (hG9 j i (by omega)).trans (hF0 j i h_0 h_1)
          show hpV _ _ _ _ _ _ _ _ _ _ _ _ _ _ _ _ _ _ _ _ _ (_ :: _)
          have y79_3 : τ9 201 3 = σ 201 3 := hG9 201 3 (by omega)
          have y79_4 : τ9 201 4 = σ 201 4 := hG9 201 4 (by omega)
          refine h_if_eq (tgt := 121) C dX9_readNext_82 (by decide) ⟨by omega, by omega⟩ (fun h10 => ?_) (fun h10 => ?_)
          · refine h_aload_n C dX9_readNext_121 0 rfl rfl ?_
            refine h_callV (As := []) (rest := []) C Z yyX9_advance wd_1424 (tgX9_advance l D cy z _ hI9) kd_195 rfl rfl ⟨rfl, rfl, Nat.le_of_ble_eq_true rfl, Nat.le_of_ble_eq_true rfl⟩ ⟨Nat.le_of_ble_eq_true rfl, Nat.le_of_ble_eq_true rfl⟩ (Nat.le_of_ble_eq_true rfl) dX9_readNext_122 (fun r11 τ11 hp11 => ?_)
            obtain ⟨rfl, hI11, hG11⟩ := hp11
            have hF11 : ∀ j i : Nat, (j ≠ 195 ∨ (i ≠ 8 ∧ i ≠ 9 ∧ i ≠ 10 ∧ i ≠ 11 ∧ i ≠ 12 ∧ i ≠ 13)) → (j ≠ 201 ∨ i = 6) → τ11 j i = σ j i := fun j i h_0 h_1 => (hG11 j i (by omega)).trans (hF9 j i h_0 h_1)
            show hpV _ _ _ _ _ _ _ _ _ _ _ _ _ _ _ _ _ _ _ _ _ []
            have y122_3 : τ11 201 3 = τ9 201 3 := hG11 201 3 (by omega)
            have y122_4 : τ11 201 4 = τ9 201 4 := hG11 201 4 (by omega)
            refine h_bipush C dX9_readNext_125 (by decide) ?_
            refine h_iconst C dX9_readNext_127 ?_
            refine h_aload_n C dX9_readNext_128 0 rfl rfl ?_
            refine h_get C O9 14 kd_195 (by decide) wd_1270 dX9_readNext_129 fr_195_14 ?_
            refine h_iconst C dX9_readNext_132 ?_
            refine h_iaload C dX9_readNext_133 kd_201 4 rfl (by rw [ln_201]; decide) rfl ?_
            obtain ⟨hr12a, hr12b⟩ := hI11.b ((bw_201 4).trans (show hpwb 4 = (0, 6) by decide))
            generalize hg12 : τ11 201 4 = r12 at hr12a hr12b ⊢
            refine h_imul C dX9_readNext_134 rfl ?_
            refine h_iadd C dX9_readNext_135 rfl ?_
            refine h_istore_n (lv' := [(1, .int (hpI (15 + (2 * r12)))), (0, .ref (z + 195))]) C dX9_readNext_136 rfl (by decide) rfl ?_
            refine h_aload_n C dX9_readNext_137 1 rfl rfl ?_
            refine h_get C O9 14 kd_195 (by decide) wd_1270 dX9_readNext_138 fr_195_14 ?_
            refine h_iload_n C dX9_readNext_141 0 rfl rfl ?_
            refine h_aload_n C dX9_readNext_142 1 rfl rfl ?_
            refine h_ldcS (i := 14) C Z (by decide) rfl dX9_readNext_143 ?_
            refine h_iconst C dX9_readNext_145 ?_
            refine h_bipush C dX9_readNext_146 (by decide) ?_
            refine h_callV (As := [.ref (cy (1000 + 14)), .int (hpI 1), .int (hpI 20)]) (rest := [.int (hpI (15 + (2 * r12))), .ref (z + 201)]) C Z yyX9_toldBy wd_1470 (tgX9_toldBy l D cy z _ 14 (by decide) 1 ⟨by decide, by decide⟩ 20 ⟨by decide, by decide⟩ hI11 (by omega)) kd_195 rfl rfl ⟨rfl, rfl, Nat.le_of_ble_eq_true rfl, Nat.le_of_ble_eq_true rfl⟩ ⟨Nat.le_of_ble_eq_true rfl, Nat.le_of_ble_eq_true rfl⟩ (Nat.le_of_ble_eq_true rfl) dX9_readNext_148 (fun r13 τ13 hp13 => ?_)
            obtain ⟨⟨x13, rfl, ⟨hx13a, hx13b⟩, hx13⟩, hI13, hG13⟩ := hp13
            have hF13 : ∀ j i : Nat, (j ≠ 195 ∨ (i ≠ 8 ∧ i ≠ 9 ∧ i ≠ 10 ∧ i ≠ 11 ∧ i ≠ 12 ∧ i ≠ 13)) → (j ≠ 201 ∨ i = 6) → τ13 j i = σ j i := fun j i h_0 h_1 => (hG13 j i (by omega)).trans (hF11 j i h_0 h_1)
            have hg14 : τ13 201 4 = r12 := (hG13 201 4 (by omega)).trans hg12
            show hpV _ _ _ _ _ _ _ _ _ _ _ _ _ _ _ _ _ _ _ _ _ (_ :: _)
            have y148_3 : τ13 201 3 = τ11 201 3 := hG13 201 3 (by omega)
            have y148_4 : τ13 201 4 = τ11 201 4 := hG13 201 4 (by omega)
            refine h_iastore C dX9_readNext_151 kd_201 (15 + (2 * r12)).toNat (Int.toNat_of_nonneg (by omega)) (by rw [ln_201]; omega) ?_
            obtain ⟨τ15, e15⟩ : ∃ μ : hpMem, μ = hpw τ13 201 ((15 + (2 * r12)).toNat) x13 := ⟨_, rfl⟩
            rw [← e15]
            have hI15 : hpInv τ15 := by rw [e15]; exact hpInv.w201 hI13 ((15 + (2 * r12)).toNat) 15 27 (0) 20 (by omega) (by omega) (by decide) (by omega) (by omega)
            have hF15 : ∀ j i : Nat, (j ≠ 195 ∨ (i ≠ 8 ∧ i ≠ 9 ∧ i ≠ 10 ∧ i ≠ 11 ∧ i ≠ 12 ∧ i ≠ 13)) → (j ≠ 201 ∨ i = 6) → τ15 j i = σ j i := fun j i h_0 h_1 => by rw [e15]; exact (hpw_fr (by omega)).trans (hF13 j i h_0 h_1)
            have hg16 : τ15 201 4 = r12 := by rw [e15]; exact (hpw_fr (Or.inr (by omega))).trans hg14
            have y151_3 : τ15 201 3 = τ13 201 3 := by rw [e15]; exact hpw_fr (Or.inr (by omega))
            have y151_4 : τ15 201 4 = τ13 201 4 := by rw [e15]; exact hpw_fr (Or.inr (by omega))
            refine h_aload_n C dX9_readNext_152 1 rfl rfl ?_
            refine h_get C O9 14 kd_195 (by decide) wd_1270 dX9_readNext_153 fr_195_14 ?_
            refine h_iload_n C dX9_readNext_156 0 rfl rfl ?_
            refine h_iconst C dX9_readNext_157 ?_
            refine h_iadd C dX9_readNext_158 rfl ?_
            refine h_aload_n C dX9_readNext_159 1 rfl rfl ?_
            refine h_ldcS (i := 15) C Z (by decide) rfl dX9_readNext_160 ?_
            refine h_iconst C dX9_readNext_162 ?_
            refine h_bipush C dX9_readNext_163 (by decide) ?_
            refine h_callV (As := [.ref (cy (1000 + 15)), .int (hpI 0), .int (hpI 15)]) (rest := [.int (hpI ((15 + (2 * r12)) + 1)), .ref (z + 201)]) C Z yyX9_toldBy wd_1470 (tgX9_toldBy l D cy z _ 15 (by decide) 0 ⟨by decide, by decide⟩ 15 ⟨by decide, by decide⟩ hI15 (by omega)) kd_195 rfl rfl ⟨rfl, rfl, Nat.le_of_ble_eq_true rfl, Nat.le_of_ble_eq_true rfl⟩ ⟨Nat.le_of_ble_eq_true rfl, Nat.le_of_ble_eq_true rfl⟩ (Nat.le_of_ble_eq_true rfl) dX9_readNext_165 (fun r17 τ17 hp17 => ?_)
            obtain ⟨⟨x17, rfl, ⟨hx17a, hx17b⟩, hx17⟩, hI17, hG17⟩ := hp17
            have hF17 : ∀ j i : Nat, (j ≠ 195 ∨ (i ≠ 8 ∧ i ≠ 9 ∧ i ≠ 10 ∧ i ≠ 11 ∧ i ≠ 12 ∧ i ≠ 13)) → (j ≠ 201 ∨ i = 6) → τ17 j i = σ j i := fun j i h_0 h_1 => (hG17 j i (by omega)).trans (hF15 j i h_0 h_1)
            have hg18 : τ17 201 4 = r12 := (hG17 201 4 (by omega)).trans hg16
            show hpV _ _ _ _ _ _ _ _ _ _ _ _ _ _ _ _ _ _ _ _ _ (_ :: _)
            have y165_3 : τ17 201 3 = τ15 201 3 := hG17 201 3 (by omega)
            have y165_4 : τ17 201 4 = τ15 201 4 := hG17 201 4 (by omega)
            refine h_iastore C dX9_readNext_168 kd_201 ((15 + (2 * r12)) + 1).toNat (Int.toNat_of_nonneg (by omega)) (by rw [ln_201]; omega) ?_
            obtain ⟨τ19, e19⟩ : ∃ μ : hpMem, μ = hpw τ17 201 (((15 + (2 * r12)) + 1).toNat) x17 := ⟨_, rfl⟩
            rw [← e19]
            have hI19 : hpInv τ19 := by rw [e19]; exact hpInv.w201 hI17 (((15 + (2 * r12)) + 1).toNat) 16 28 (0) 20 (by omega) (by omega) (by decide) (by omega) (by omega)
            have hF19 : ∀ j i : Nat, (j ≠ 195 ∨ (i ≠ 8 ∧ i ≠ 9 ∧ i ≠ 10 ∧ i ≠ 11 ∧ i ≠ 12 ∧ i ≠ 13)) → (j ≠ 201 ∨ i = 6) → τ19 j i = σ j i := fun j i h_0 h_1 => by rw [e19]; exact (hpw_fr (by omega)).trans (hF17 j i h_0 h_1)
            have hg20 : τ19 201 4 = r12 := by rw [e19]; exact (hpw_fr (Or.inr (by omega))).trans hg18
            have y168_3 : τ19 201 3 = τ17 201 3 := by rw [e19]; exact hpw_fr (Or.inr (by omega))
            have y168_4 : τ19 201 4 = τ17 201 4 := by rw [e19]; exact hpw_fr (Or.inr (by omega))
            refine h_aload_n C dX9_readNext_169 1 rfl rfl ?_
            refine h_get C O9 14 kd_195 (by decide) wd_1270 dX9_readNext_170 fr_195_14 ?_
            refine h_iconst C dX9_readNext_173 ?_
            refine h_dup2 C rfl rfl dX9_readNext_174 ?_
            refine h_iaload C dX9_readNext_175 kd_201 4 rfl (by rw [ln_201]; decide) rfl ?_
            rw [hg20]
            refine h_iconst C dX9_readNext_176 ?_
            refine h_iadd C dX9_readNext_177 rfl ?_
            refine h_iastore C dX9_readNext_178 kd_201 4 rfl (by rw [ln_201]; decide) ?_
            obtain ⟨τ21, e21⟩ : ∃ μ : hpMem, μ = hpw τ19 201 4 (r12 + 1) := ⟨_, rfl⟩
            rw [← e21]
            have hI21 : hpInv τ21 := by rw [e21]; exact hI19.w ((bw_201 4).trans (show hpwb 4 = (0, 6) by decide)) (by omega) (by omega)
            have hF21 : ∀ j i : Nat, (j ≠ 195 ∨ (i ≠ 8 ∧ i ≠ 9 ∧ i ≠ 10 ∧ i ≠ 11 ∧ i ≠ 12 ∧ i ≠ 13)) → (j ≠ 201 ∨ i = 6) → τ21 j i = σ j i := fun j i h_0 h_1 => by rw [e21]; exact (hpw_fr (by omega)).trans (hF19 j i h_0 h_1)
            have hg22 : τ21 201 4 = r12 + 1 := by rw [e21]; exact hpw_eq
            have y178_3 : τ21 201 3 = τ19 201 3 := by rw [e21]; exact hpw_fr (Or.inr (by decide))
            refine h_return C hr hlk dX9_readNext_179 ?_
            exact ⟨rfl, hI21, hF21, by omega⟩
          · refine h_aload_n C dX9_readNext_85 0 rfl rfl ?_
            refine h_get C O9 14 kd_195 (by decide) wd_1270 dX9_readNext_86 fr_195_14 ?_
            refine h_bipush C dX9_readNext_89 (by decide) ?_
            refine h_aload_n C dX9_readNext_91 0 rfl rfl ?_
            refine h_get C O9 14 kd_195 (by decide) wd_1270 dX9_readNext_92 fr_195_14 ?_
            refine h_iconst C dX9_readNext_95 ?_
            refine h_iaload C dX9_readNext_96 kd_201 3 rfl (by rw [ln_201]; decide) rfl ?_
            obtain ⟨hr23a, hr23b⟩ := hI9.b ((bw_201 3).trans (show hpwb 3 = (0, 8) by decide))
            generalize hg23 : τ9 201 3 = r23 at hr23a hr23b ⊢
            refine h_iadd C dX9_readNext_97 rfl ?_
            refine h_aload_n C dX9_readNext_98 0 rfl rfl ?_
            refine h_ldcS (i := 14) C Z (by decide) rfl dX9_readNext_99 ?_
            refine h_iconst C dX9_readNext_101 ?_
            refine h_bipush C dX9_readNext_102 (by decide) ?_
            refine h_callV (As := [.ref (cy (1000 + 14)), .int (hpI 1), .int (hpI 20)]) (rest := [.int (hpI (7 + r23)), .ref (z + 201)]) C Z yyX9_toldBy wd_1470 (tgX9_toldBy l D cy z _ 14 (by decide) 1 ⟨by decide, by decide⟩ 20 ⟨by decide, by decide⟩ hI9 (by omega)) kd_195 rfl rfl ⟨rfl, rfl, Nat.le_of_ble_eq_true rfl, Nat.le_of_ble_eq_true rfl⟩ ⟨Nat.le_of_ble_eq_true rfl, Nat.le_of_ble_eq_true rfl⟩ (Nat.le_of_ble_eq_true rfl) dX9_readNext_104 (fun r24 τ24 hp24 => ?_)
            obtain ⟨⟨x24, rfl, ⟨hx24a, hx24b⟩, hx24⟩, hI24, hG24⟩ := hp24
            have hF24 : ∀ j i : Nat, (j ≠ 195 ∨ (i ≠ 8 ∧ i ≠ 9 ∧ i ≠ 10 ∧ i ≠ 11 ∧ i ≠ 12 ∧ i ≠ 13)) → (j ≠ 201 ∨ i = 6) → τ24 j i = σ j i := fun j i h_0 h_1 => (hG24 j i (by omega)).trans (hF9 j i h_0 h_1)
            have hg25 : τ24 201 3 = r23 := (hG24 201 3 (by omega)).trans hg23
            show hpV _ _ _ _ _ _ _ _ _ _ _ _ _ _ _ _ _ _ _ _ _ (_ :: _)
            have y104_3 : τ24 201 3 = τ9 201 3 := hG24 201 3 (by omega)
            have y104_4 : τ24 201 4 = τ9 201 4 := hG24 201 4 (by omega)
            refine h_iastore C dX9_readNext_107 kd_201 (7 + r23).toNat (Int.toNat_of_nonneg (by omega)) (by rw [ln_201]; omega) ?_
            obtain ⟨τ26, e26⟩ : ∃ μ : hpMem, μ = hpw τ24 201 ((7 + r23).toNat) x24 := ⟨_, rfl⟩
            rw [← e26]
            have hI26 : hpInv τ26 := by rw [e26]; exact hpInv.w201 hI24 ((7 + r23).toNat) 7 15 (0) 20 (by omega) (by omega) (by decide) (by omega) (by omega)
            have hF26 : ∀ j i : Nat, (j ≠ 195 ∨ (i ≠ 8 ∧ i ≠ 9 ∧ i ≠ 10 ∧ i ≠ 11 ∧ i ≠ 12 ∧ i ≠ 13)) → (j ≠ 201 ∨ i = 6) → τ26 j i = σ j i := fun j i h_0 h_1 => by rw [e26]; exact (hpw_fr (by omega)).trans (hF24 j i h_0 h_1)
            have hg27 : τ26 201 3 = r23 := by rw [e26]; exact (hpw_fr (Or.inr (by omega))).trans hg25
            have y107_3 : τ26 201 3 = τ24 201 3 := by rw [e26]; exact hpw_fr (Or.inr (by omega))
            have y107_4 : τ26 201 4 = τ24 201 4 := by rw [e26]; exact hpw_fr (Or.inr (by omega))
            refine h_aload_n C dX9_readNext_108 0 rfl rfl ?_
            refine h_get C O9 14 kd_195 (by decide) wd_1270 dX9_readNext_109 fr_195_14 ?_
            refine h_iconst C dX9_readNext_112 ?_
            refine h_dup2 C rfl rfl dX9_readNext_113 ?_
            refine h_iaload C dX9_readNext_114 kd_201 3 rfl (by rw [ln_201]; decide) rfl ?_
            rw [hg27]
            refine h_iconst C dX9_readNext_115 ?_
            refine h_iadd C dX9_readNext_116 rfl ?_
            refine h_iastore C dX9_readNext_117 kd_201 3 rfl (by rw [ln_201]; decide) ?_
            obtain ⟨τ28, e28⟩ : ∃ μ : hpMem, μ = hpw τ26 201 3 (r23 + 1) := ⟨_, rfl⟩
            rw [← e28]
            have hI28 : hpInv τ28 := by rw [e28]; exact hI26.w ((bw_201 3).trans (show hpwb 3 = (0, 8) by decide)) (by omega) (by omega)
            have hF28 : ∀ j i : Nat, (j ≠ 195 ∨ (i ≠ 8 ∧ i ≠ 9 ∧ i ≠ 10 ∧ i ≠ 11 ∧ i ≠ 12 ∧ i ≠ 13)) → (j ≠ 201 ∨ i = 6) → τ28 j i = σ j i := fun j i h_0 h_1 => by rw [e28]; exact (hpw_fr (by omega)).trans (hF26 j i h_0 h_1)
            have hg29 : τ28 201 3 = r23 + 1 := by rw [e28]; exact hpw_eq
            have y117_4 : τ28 201 4 = τ26 201 4 := by rw [e28]; exact hpw_fr (Or.inr (by decide))
            refine h_goto (tgt := 179) C dX9_readNext_118 (by decide) ?_
            refine h_return C hr hlk dX9_readNext_179 ?_
            exact ⟨rfl, hI28, hF28, by omega⟩
        · refine h_return C hr hlk dX9_readNext_75 ?_
          exact ⟨rfl, hI, hF0, by omega⟩
      · refine h_aload_n C dX9_readNext_52 0 rfl rfl ?_
        refine h_get C O9 14 kd_195 (by decide) wd_1270 dX9_readNext_53 fr_195_14 ?_
        refine h_iconst C dX9_readNext_56 ?_
        refine h_iaload C dX9_readNext_57 kd_201 4 rfl (by rw [ln_201]; decide) rfl ?_
        obtain ⟨hr30a, hr30b⟩ := hI.b ((bw_201 4).trans (show hpwb 4 = (0, 6) by decide))
        generalize hg30 : σ 201 4 = r30 at hr30a hr30b ⊢
        refine h_bipush C dX9_readNext_58 (by decide) ?_
        refine h_icmp_ne (tgt := 68) C dX9_readNext_60 (by decide) ⟨by omega, by omega⟩ ⟨by decide, by decide⟩ (fun h31 => ?_) (fun h31 => ?_)
        · refine h_aload_n C dX9_readNext_68 0 rfl rfl ?_
          refine h_callV (As := []) (rest := []) C Z yyX9_good wd_1438 (tgX9_good l D cy z _ hI) kd_195 rfl rfl ⟨rfl, rfl, Nat.le_of_ble_eq_true rfl, Nat.le_of_ble_eq_true rfl⟩ ⟨Nat.le_of_ble_eq_true rfl, Nat.le_of_ble_eq_true rfl⟩ (Nat.le_of_ble_eq_true rfl) dX9_readNext_69 (fun r32 τ32 hp32 => ?_)
          obtain ⟨⟨x32, rfl, ⟨hx32a, hx32b⟩, hx32⟩, rfl⟩ := hp32
          show hpV _ _ _ _ _ _ _ _ _ _ _ _ _ _ _ _ _ _ _ _ _ (_ :: _)
          refine h_if_ne (tgt := 76) C dX9_readNext_72 (by decide) ⟨by omega, by omega⟩ (fun h33 => ?_) (fun h33 => ?_)
          · refine h_aload_n C dX9_readNext_76 0 rfl rfl ?_
            refine h_ldcS (i := 12) C Z (by decide) rfl dX9_readNext_77 ?_
            refine h_callV (As := [.ref (cy (1000 + 12))]) (rest := []) C Z yyX9_takes wd_1455 (tgX9_takes l D cy z _ 12 (by decide) hI) kd_195 rfl rfl ⟨rfl, rfl, Nat.le_of_ble_eq_true rfl, Nat.le_of_ble_eq_true rfl⟩ ⟨Nat.le_of_ble_eq_true rfl, Nat.le_of_ble_eq_true rfl⟩ (Nat.le_of_ble_eq_true rfl) dX9_readNext_79 (fun r34 τ34 hp34 => ?_)
            obtain ⟨⟨x34, rfl, ⟨hx34a, hx34b⟩, hx34⟩, hI34, hG34⟩ := hp34
            have hF34 : ∀ j i : Nat, (j ≠ 195 ∨ (i ≠ 8 ∧ i ≠ 9 ∧ i ≠ 10 ∧ i ≠ 11 ∧ i ≠ 12 ∧ i ≠ 13)) → (j ≠ 201 ∨ i = 6) → τ34 j i = σ j i := fun j i h_0 h_1 => (hG34 j i (by omega)).trans (hF0 j i h_0 h_1)
            have hg35 : τ34 201 4 = r30 := (hG34 201 4 (by omega)).trans hg30
            show hpV _ _ _ _ _ _ _ _ _ _ _ _ _ _ _ _ _ _ _ _ _ (_ :: _)
            have y79_3 : τ34 201 3 = σ 201 3 := hG34 201 3 (by omega)
            have y79_4 : τ34 201 4 = σ 201 4 := hG34 201 4 (by omega)
            refine h_if_eq (tgt := 121) C dX9_readNext_82 (by decide) ⟨by omega, by omega⟩ (fun h36 => ?_) (fun h36 => ?_)
            · refine h_aload_n C dX9_readNext_121 0 rfl rfl ?_
              refine h_callV (As := []) (rest := []) C Z yyX9_advance wd_1424 (tgX9_advance l D cy z _ hI34) kd_195 rfl rfl ⟨rfl, rfl, Nat.le_of_ble_eq_true rfl, Nat.le_of_ble_eq_true rfl⟩ ⟨Nat.le_of_ble_eq_true rfl, Nat.le_of_ble_eq_true rfl⟩ (Nat.le_of_ble_eq_true rfl) dX9_readNext_122 (fun r37 τ37 hp37 => ?_)
              obtain ⟨rfl, hI37, hG37⟩ := hp37
              have hF37 : ∀ j i : Nat, (j ≠ 195 ∨ (i ≠ 8 ∧ i ≠ 9 ∧ i ≠ 10 ∧ i ≠ 11 ∧ i ≠ 12 ∧ i ≠ 13)) → (j ≠ 201 ∨ i = 6) → τ37 j i = σ j i := fun j i h_0 h_1 => (hG37 j i (by omega)).trans (hF34 j i h_0 h_1)
              have hg38 : τ37 201 4 = r30 := (hG37 201 4 (by omega)).trans hg35
              show hpV _ _ _ _ _ _ _ _ _ _ _ _ _ _ _ _ _ _ _ _ _ []
              have y122_3 : τ37 201 3 = τ34 201 3 := hG37 201 3 (by omega)
              have y122_4 : τ37 201 4 = τ34 201 4 := hG37 201 4 (by omega)
              refine h_bipush C dX9_readNext_125 (by decide) ?_
              refine h_iconst C dX9_readNext_127 ?_
              refine h_aload_n C dX9_readNext_128 0 rfl rfl ?_
              refine h_get C O9 14 kd_195 (by decide) wd_1270 dX9_readNext_129 fr_195_14 ?_
              refine h_iconst C dX9_readNext_132 ?_
              refine h_iaload C dX9_readNext_133 kd_201 4 rfl (by rw [ln_201]; decide) rfl ?_
              rw [hg38]
              refine h_imul C dX9_readNext_134 rfl ?_
              refine h_iadd C dX9_readNext_135 rfl ?_
              refine h_istore_n (lv' := [(1, .int (hpI (15 + (2 * r30)))), (0, .ref (z + 195))]) C dX9_readNext_136 rfl (by decide) rfl ?_
              refine h_aload_n C dX9_readNext_137 1 rfl rfl ?_
              refine h_get C O9 14 kd_195 (by decide) wd_1270 dX9_readNext_138 fr_195_14 ?_
              refine h_iload_n C dX9_readNext_141 0 rfl rfl ?_
              refine h_aload_n C dX9_readNext_142 1 rfl rfl ?_
              refine h_ldcS (i := 14) C Z (by decide) rfl dX9_readNext_143 ?_
              refine h_iconst C dX9_readNext_145 ?_
              refine h_bipush C dX9_readNext_146 (by decide) ?_
              refine h_callV (As := [.ref (cy (1000 + 14)), .int (hpI 1), .int (hpI 20)]) (rest := [.int (hpI (15 + (2 * r30))), .ref (z + 201)]) C Z yyX9_toldBy wd_1470 (tgX9_toldBy l D cy z _ 14 (by decide) 1 ⟨by decide, by decide⟩ 20 ⟨by decide, by decide⟩ hI37 (by omega)) kd_195 rfl rfl ⟨rfl, rfl, Nat.le_of_ble_eq_true rfl, Nat.le_of_ble_eq_true rfl⟩ ⟨Nat.le_of_ble_eq_true rfl, Nat.le_of_ble_eq_true rfl⟩ (Nat.le_of_ble_eq_true rfl) dX9_readNext_148 (fun r39 τ39 hp39 => ?_)
              obtain ⟨⟨x39, rfl, ⟨hx39a, hx39b⟩, hx39⟩, hI39, hG39⟩ := hp39
              have hF39 : ∀ j i : Nat, (j ≠ 195 ∨ (i ≠ 8 ∧ i ≠ 9 ∧ i ≠ 10 ∧ i ≠ 11 ∧ i ≠ 12 ∧ i ≠ 13)) → (j ≠ 201 ∨ i = 6) → τ39 j i = σ j i := fun j i h_0 h_1 => (hG39 j i (by omega)).trans (hF37 j i h_0 h_1)
              have hg40 : τ39 201 4 = r30 := (hG39 201 4 (by omega)).trans hg38
              show hpV _ _ _ _ _ _ _ _ _ _ _ _ _ _ _ _ _ _ _ _ _ (_ :: _)
              have y148_3 : τ39 201 3 = τ37 201 3 := hG39 201 3 (by omega)
              have y148_4 : τ39 201 4 = τ37 201 4 := hG39 201 4 (by omega)
              refine h_iastore C dX9_readNext_151 kd_201 (15 + (2 * r30)).toNat (Int.toNat_of_nonneg (by omega)) (by rw [ln_201]; omega) ?_
              obtain ⟨τ41, e41⟩ : ∃ μ : hpMem, μ = hpw τ39 201 ((15 + (2 * r30)).toNat) x39 := ⟨_, rfl⟩
              rw [← e41]
              have hI41 : hpInv τ41 := by rw [e41]; exact hpInv.w201 hI39 ((15 + (2 * r30)).toNat) 15 25 (0) 20 (by omega) (by omega) (by decide) (by omega) (by omega)
              have hF41 : ∀ j i : Nat, (j ≠ 195 ∨ (i ≠ 8 ∧ i ≠ 9 ∧ i ≠ 10 ∧ i ≠ 11 ∧ i ≠ 12 ∧ i ≠ 13)) → (j ≠ 201 ∨ i = 6) → τ41 j i = σ j i := fun j i h_0 h_1 => by rw [e41]; exact (hpw_fr (by omega)).trans (hF39 j i h_0 h_1)
              have hg42 : τ41 201 4 = r30 := by rw [e41]; exact (hpw_fr (Or.inr (by omega))).trans hg40
              have y151_3 : τ41 201 3 = τ39 201 3 := by rw [e41]; exact hpw_fr (Or.inr (by omega))
              have y151_4 : τ41 201 4 = τ39 201 4 := by rw [e41]; exact hpw_fr (Or.inr (by omega))
              refine h_aload_n C dX9_readNext_152 1 rfl rfl ?_
              refine h_get C O9 14 kd_195 (by decide) wd_1270 dX9_readNext_153 fr_195_14 ?_
              refine h_iload_n C dX9_readNext_156 0 rfl rfl ?_
              refine h_iconst C dX9_readNext_157 ?_
              refine h_iadd C dX9_readNext_158 rfl ?_
              refine h_aload_n C dX9_readNext_159 1 rfl rfl ?_
              refine h_ldcS (i := 15) C Z (by decide) rfl dX9_readNext_160 ?_
              refine h_iconst C dX9_readNext_162 ?_
              refine h_bipush C dX9_readNext_163 (by decide) ?_
              refine h_callV (As := [.ref (cy (1000 + 15)), .int (hpI 0), .int (hpI 15)]) (rest := [.int (hpI ((15 + (2 * r30)) + 1)), .ref (z + 201)]) C Z yyX9_toldBy wd_1470 (tgX9_toldBy l D cy z _ 15 (by decide) 0 ⟨by decide, by decide⟩ 15 ⟨by decide, by decide⟩ hI41 (by omega)) kd_195 rfl rfl ⟨rfl, rfl, Nat.le_of_ble_eq_true rfl, Nat.le_of_ble_eq_true rfl⟩ ⟨Nat.le_of_ble_eq_true rfl, Nat.le_of_ble_eq_true rfl⟩ (Nat.le_of_ble_eq_true rfl) dX9_readNext_165 (fun r43 τ43 hp43 => ?_)
              obtain ⟨⟨x43, rfl, ⟨hx43a, hx43b⟩, hx43⟩, hI43, hG43⟩ := hp43
              have hF43 : ∀ j i : Nat, (j ≠ 195 ∨ (i ≠ 8 ∧ i ≠ 9 ∧ i ≠ 10 ∧ i ≠ 11 ∧ i ≠ 12 ∧ i ≠ 13)) → (j ≠ 201 ∨ i = 6) → τ43 j i = σ j i := fun j i h_0 h_1 => (hG43 j i (by omega)).trans (hF41 j i h_0 h_1)
              have hg44 : τ43 201 4 = r30 := (hG43 201 4 (by omega)).trans hg42
              show hpV _ _ _ _ _ _ _ _ _ _ _ _ _ _ _ _ _ _ _ _ _ (_ :: _)
              have y165_3 : τ43 201 3 = τ41 201 3 := hG43 201 3 (by omega)
              have y165_4 : τ43 201 4 = τ41 201 4 := hG43 201 4 (by omega)
              refine h_iastore C dX9_readNext_168 kd_201 ((15 + (2 * r30)) + 1).toNat (Int.toNat_of_nonneg (by omega)) (by rw [ln_201]; omega) ?_
              obtain ⟨τ45, e45⟩ : ∃ μ : hpMem, μ = hpw τ43 201 (((15 + (2 * r30)) + 1).toNat) x43 := ⟨_, rfl⟩
              rw [← e45]
              have hI45 : hpInv τ45 := by rw [e45]; exact hpInv.w201 hI43 (((15 + (2 * r30)) + 1).toNat) 16 26 (0) 20 (by omega) (by omega) (by decide) (by omega) (by omega)
              have hF45 : ∀ j i : Nat, (j ≠ 195 ∨ (i ≠ 8 ∧ i ≠ 9 ∧ i ≠ 10 ∧ i ≠ 11 ∧ i ≠ 12 ∧ i ≠ 13)) → (j ≠ 201 ∨ i = 6) → τ45 j i = σ j i := fun j i h_0 h_1 => by rw [e45]; exact (hpw_fr (by omega)).trans (hF43 j i h_0 h_1)
              have hg46 : τ45 201 4 = r30 := by rw [e45]; exact (hpw_fr (Or.inr (by omega))).trans hg44
              have y168_3 : τ45 201 3 = τ43 201 3 := by rw [e45]; exact hpw_fr (Or.inr (by omega))
              have y168_4 : τ45 201 4 = τ43 201 4 := by rw [e45]; exact hpw_fr (Or.inr (by omega))
              refine h_aload_n C dX9_readNext_169 1 rfl rfl ?_
              refine h_get C O9 14 kd_195 (by decide) wd_1270 dX9_readNext_170 fr_195_14 ?_
              refine h_iconst C dX9_readNext_173 ?_
              refine h_dup2 C rfl rfl dX9_readNext_174 ?_
              refine h_iaload C dX9_readNext_175 kd_201 4 rfl (by rw [ln_201]; decide) rfl ?_
              rw [hg46]
              refine h_iconst C dX9_readNext_176 ?_
              refine h_iadd C dX9_readNext_177 rfl ?_
              refine h_iastore C dX9_readNext_178 kd_201 4 rfl (by rw [ln_201]; decide) ?_
              obtain ⟨τ47, e47⟩ : ∃ μ : hpMem, μ = hpw τ45 201 4 (r30 + 1) := ⟨_, rfl⟩
              rw [← e47]
              have hI47 : hpInv τ47 := by rw [e47]; exact hI45.w ((bw_201 4).trans (show hpwb 4 = (0, 6) by decide)) (by omega) (by omega)
              have hF47 : ∀ j i : Nat, (j ≠ 195 ∨ (i ≠ 8 ∧ i ≠ 9 ∧ i ≠ 10 ∧ i ≠ 11 ∧ i ≠ 12 ∧ i ≠ 13)) → (j ≠ 201 ∨ i = 6) → τ47 j i = σ j i := fun j i h_0 h_1 => by rw [e47]; exact (hpw_fr (by omega)).trans (hF45 j i h_0 h_1)
              have hg48 : τ47 201 4 = r30 + 1 := by rw [e47]; exact hpw_eq
              have y178_3 : τ47 201 3 = τ45 201 3 := by rw [e47]; exact hpw_fr (Or.inr (by decide))
              refine h_return C hr hlk dX9_readNext_179 ?_
              exact ⟨rfl, hI47, hF47, by omega⟩
            · refine h_aload_n C dX9_readNext_85 0 rfl rfl ?_
              refine h_get C O9 14 kd_195 (by decide) wd_1270 dX9_readNext_86 fr_195_14 ?_
              refine h_bipush C dX9_readNext_89 (by decide) ?_
              refine h_aload_n C dX9_readNext_91 0 rfl rfl ?_
              refine h_get C O9 14 kd_195 (by decide) wd_1270 dX9_readNext_92 fr_195_14 ?_
              refine h_iconst C dX9_readNext_95 ?_
              refine h_iaload C dX9_readNext_96 kd_201 3 rfl (by rw [ln_201]; decide) rfl ?_
              obtain ⟨hr49a, hr49b⟩ := hI34.b ((bw_201 3).trans (show hpwb 3 = (0, 8) by decide))
              generalize hg49 : τ34 201 3 = r49 at hr49a hr49b ⊢
              refine h_iadd C dX9_readNext_97 rfl ?_
              refine h_aload_n C dX9_readNext_98 0 rfl rfl ?_
              refine h_ldcS (i := 14) C Z (by decide) rfl dX9_readNext_99 ?_
              refine h_iconst C dX9_readNext_101 ?_
              refine h_bipush C dX9_readNext_102 (by decide) ?_
              refine h_callV (As := [.ref (cy (1000 + 14)), .int (hpI 1), .int (hpI 20)]) (rest := [.int (hpI (7 + r49)), .ref (z + 201)]) C Z yyX9_toldBy wd_1470 (tgX9_toldBy l D cy z _ 14 (by decide) 1 ⟨by decide, by decide⟩ 20 ⟨by decide, by decide⟩ hI34 (by omega)) kd_195 rfl rfl ⟨rfl, rfl, Nat.le_of_ble_eq_true rfl, Nat.le_of_ble_eq_true rfl⟩ ⟨Nat.le_of_ble_eq_true rfl, Nat.le_of_ble_eq_true rfl⟩ (Nat.le_of_ble_eq_true rfl) dX9_readNext_104 (fun r50 τ50 hp50 => ?_)
              obtain ⟨⟨x50, rfl, ⟨hx50a, hx50b⟩, hx50⟩, hI50, hG50⟩ := hp50
              have hF50 : ∀ j i : Nat, (j ≠ 195 ∨ (i ≠ 8 ∧ i ≠ 9 ∧ i ≠ 10 ∧ i ≠ 11 ∧ i ≠ 12 ∧ i ≠ 13)) → (j ≠ 201 ∨ i = 6) → τ50 j i = σ j i := fun j i h_0 h_1 => (hG50 j i (by omega)).trans (hF34 j i h_0 h_1)
              have hg51 : τ50 201 4 = r30 := (hG50 201 4 (by omega)).trans hg35
              have hg52 : τ50 201 3 = r49 := (hG50 201 3 (by omega)).trans hg49
              show hpV _ _ _ _ _ _ _ _ _ _ _ _ _ _ _ _ _ _ _ _ _ (_ :: _)
              have y104_3 : τ50 201 3 = τ34 201 3 := hG50 201 3 (by omega)
              have y104_4 : τ50 201 4 = τ34 201 4 := hG50 201 4 (by omega)
              refine h_iastore C dX9_readNext_107 kd_201 (7 + r49).toNat (Int.toNat_of_nonneg (by omega)) (by rw [ln_201]; omega) ?_
              obtain ⟨τ53, e53⟩ : ∃ μ : hpMem, μ = hpw τ50 201 ((7 + r49).toNat) x50 := ⟨_, rfl⟩
              rw [← e53]
              have hI53 : hpInv τ53 := by rw [e53]; exact hpInv.w201 hI50 ((7 + r49).toNat) 7 15 (0) 20 (by omega) (by omega) (by decide) (by omega) (by omega)
              have hF53 : ∀ j i : Nat, (j ≠ 195 ∨ (i ≠ 8 ∧ i ≠ 9 ∧ i ≠ 10 ∧ i ≠ 11 ∧ i ≠ 12 ∧ i ≠ 13)) → (j ≠ 201 ∨ i = 6) → τ53 j i = σ j i := fun j i h_0 h_1 => by rw [e53]; exact (hpw_fr (by omega)).trans (hF50 j i h_0 h_1)
              have hg54 : τ53 201 4 = r30 := by rw [e53]; exact (hpw_fr (Or.inr (by omega))).trans hg51
              have hg55 : τ53 201 3 = r49 := by rw [e53]; exact (hpw_fr (Or.inr (by omega))).trans hg52
              have y107_3 : τ53 201 3 = τ50 201 3 := by rw [e53]; exact hpw_fr (Or.inr (by omega))
              have y107_4 : τ53 201 4 = τ50 201 4 := by rw [e53]; exact hpw_fr (Or.inr (by omega))
              refine h_aload_n C dX9_readNext_108 0 rfl rfl ?_
              refine h_get C O9 14 kd_195 (by decide) wd_1270 dX9_readNext_109 fr_195_14 ?_
              refine h_iconst C dX9_readNext_112 ?_
              refine h_dup2 C rfl rfl dX9_readNext_113 ?_
              refine h_iaload C dX9_readNext_114 kd_201 3 rfl (by rw [ln_201]; decide) rfl ?_
              rw [hg55]
              refine h_iconst C dX9_readNext_115 ?_
              refine h_iadd C dX9_readNext_116 rfl ?_
              refine h_iastore C dX9_readNext_117 kd_201 3 rfl (by rw [ln_201]; decide) ?_
              obtain ⟨τ56, e56⟩ : ∃ μ : hpMem, μ = hpw τ53 201 3 (r49 + 1) := ⟨_, rfl⟩
              rw [← e56]
              have hI56 : hpInv τ56 := by rw [e56]; exact hI53.w ((bw_201 3).trans (show hpwb 3 = (0, 8) by decide)) (by omega) (by omega)
              have hF56 : ∀ j i : Nat, (j ≠ 195 ∨ (i ≠ 8 ∧ i ≠ 9 ∧ i ≠ 10 ∧ i ≠ 11 ∧ i ≠ 12 ∧ i ≠ 13)) → (j ≠ 201 ∨ i = 6) → τ56 j i = σ j i := fun j i h_0 h_1 => by rw [e56]; exact (hpw_fr (by omega)).trans (hF53 j i h_0 h_1)
              have hg57 : τ56 201 4 = r30 := by rw [e56]; exact (hpw_fr (Or.inr (by decide))).trans hg54
              have hg58 : τ56 201 3 = r49 + 1 := by rw [e56]; exact hpw_eq
              have y117_4 : τ56 201 4 = τ53 201 4 := by rw [e56]; exact hpw_fr (Or.inr (by decide))
              refine h_goto (tgt := 179) C dX9_readNext_118 (by decide) ?_
              refine h_return C hr hlk dX9_readNext_179 ?_
              exact ⟨rfl, hI56, hF56, by omega⟩
          · refine h_return C hr hlk dX9_readNext_75 ?_
            exact ⟨rfl, hI, hF0, by omega⟩
        · refine h_aload_n C dX9_readNext_63 0 rfl rfl ?_
          refine h_iconst C dX9_readNext_64 ?_
          refine h_callV (As := [.int (hpI 3)]) (rest := []) C Z yyX9_errs wd_1465 (tgX9_errs l D cy z _ 3 ⟨by decide, by decide⟩ hI (by omega)) kd_195 rfl rfl ⟨rfl, rfl, Nat.le_of_ble_eq_true rfl, Nat.le_of_ble_eq_true rfl⟩ ⟨Nat.le_of_ble_eq_true rfl, Nat.le_of_ble_eq_true rfl⟩ (Nat.le_of_ble_eq_true rfl) dX9_readNext_65 (fun r59 τ59 hp59 => ?_)
          obtain ⟨rfl, hI59, hG59, hq59_0⟩ := hp59
          have hF59 : ∀ j i : Nat, (j ≠ 195 ∨ (i ≠ 8 ∧ i ≠ 9 ∧ i ≠ 10 ∧ i ≠ 11 ∧ i ≠ 12 ∧ i ≠ 13)) → (j ≠ 201 ∨ i = 6) → τ59 j i = σ j i := fun j i h_0 h_1 => (hG59 j i (by omega)).trans (hF0 j i h_0 h_1)
          have hg60 : τ59 201 4 = r30 := (hG59 201 4 (by omega)).trans hg30
          show hpV _ _ _ _ _ _ _ _ _ _ _ _ _ _ _ _ _ _ _ _ _ []
          refine h_aload_n C dX9_readNext_68 0 rfl rfl ?_
          refine h_callV (As := []) (rest := []) C Z yyX9_good wd_1438 (tgX9_good l D cy z _ hI59) kd_195 rfl rfl ⟨rfl, rfl, Nat.le_of_ble_eq_true rfl, Nat.le_of_ble_eq_true rfl⟩ ⟨Nat.le_of_ble_eq_true rfl, Nat.le_of_ble_eq_true rfl⟩ (Nat.le_of_ble_eq_true rfl) dX9_readNext_69 (fun r61 τ61 hp61 => ?_)
          obtain ⟨⟨x61, rfl, ⟨hx61a, hx61b⟩, hx61⟩, rfl⟩ := hp61
          show hpV _ _ _ _ _ _ _ _ _ _ _ _ _ _ _ _ _ _ _ _ _ (_ :: _)
          refine h_if_ne (tgt := 76) C dX9_readNext_72 (by decide) ⟨by omega, by omega⟩ (fun h62 => ?_) (fun h62 => ?_)
          · refine h_aload_n C dX9_readNext_76 0 rfl rfl ?_
            refine h_ldcS (i := 12) C Z (by decide) rfl dX9_readNext_77 ?_
            refine h_callV (As := [.ref (cy (1000 + 12))]) (rest := []) C Z yyX9_takes wd_1455 (tgX9_takes l D cy z _ 12 (by decide) hI59) kd_195 rfl rfl ⟨rfl, rfl, Nat.le_of_ble_eq_true rfl, Nat.le_of_ble_eq_true rfl⟩ ⟨Nat.le_of_ble_eq_true rfl, Nat.le_of_ble_eq_true rfl⟩ (Nat.le_of_ble_eq_true rfl) dX9_readNext_79 (fun r63 τ63 hp63 => ?_)
            obtain ⟨⟨x63, rfl, ⟨hx63a, hx63b⟩, hx63⟩, hI63, hG63⟩ := hp63
            have hF63 : ∀ j i : Nat, (j ≠ 195 ∨ (i ≠ 8 ∧ i ≠ 9 ∧ i ≠ 10 ∧ i ≠ 11 ∧ i ≠ 12 ∧ i ≠ 13)) → (j ≠ 201 ∨ i = 6) → τ63 j i = σ j i := fun j i h_0 h_1 => (hG63 j i (by omega)).trans (hF59 j i h_0 h_1)
            have hg64 : τ63 201 4 = r30 := (hG63 201 4 (by omega)).trans hg60
            show hpV _ _ _ _ _ _ _ _ _ _ _ _ _ _ _ _ _ _ _ _ _ (_ :: _)
            have y79_3 : τ63 201 3 = τ59 201 3 := hG63 201 3 (by omega)
            have y79_4 : τ63 201 4 = τ59 201 4 := hG63 201 4 (by omega)
            refine h_if_eq (tgt := 121) C dX9_readNext_82 (by decide) ⟨by omega, by omega⟩ (fun h65 => ?_) (fun h65 => ?_)
            · refine h_aload_n C dX9_readNext_121 0 rfl rfl ?_
              refine h_callV (As := []) (rest := []) C Z yyX9_advance wd_1424 (tgX9_advance l D cy z _ hI63) kd_195 rfl rfl ⟨rfl, rfl, Nat.le_of_ble_eq_true rfl, Nat.le_of_ble_eq_true rfl⟩ ⟨Nat.le_of_ble_eq_true rfl, Nat.le_of_ble_eq_true rfl⟩ (Nat.le_of_ble_eq_true rfl) dX9_readNext_122 (fun r66 τ66 hp66 => ?_)
              obtain ⟨rfl, hI66, hG66⟩ := hp66
              have hF66 : ∀ j i : Nat, (j ≠ 195 ∨ (i ≠ 8 ∧ i ≠ 9 ∧ i ≠ 10 ∧ i ≠ 11 ∧ i ≠ 12 ∧ i ≠ 13)) → (j ≠ 201 ∨ i = 6) → τ66 j i = σ j i := fun j i h_0 h_1 => (hG66 j i (by omega)).trans (hF63 j i h_0 h_1)
              have hg67 : τ66 201 4 = r30 := (hG66 201 4 (by omega)).trans hg64
              show hpV _ _ _ _ _ _ _ _ _ _ _ _ _ _ _ _ _ _ _ _ _ []
              have y122_3 : τ66 201 3 = τ63 201 3 := hG66 201 3 (by omega)
              have y122_4 : τ66 201 4 = τ63 201 4 := hG66 201 4 (by omega)
              refine h_bipush C dX9_readNext_125 (by decide) ?_
              refine h_iconst C dX9_readNext_127 ?_
              refine h_aload_n C dX9_readNext_128 0 rfl rfl ?_
              refine h_get C O9 14 kd_195 (by decide) wd_1270 dX9_readNext_129 fr_195_14 ?_
              refine h_iconst C dX9_readNext_132 ?_
              refine h_iaload C dX9_readNext_133 kd_201 4 rfl (by rw [ln_201]; decide) rfl ?_
              rw [hg67]
              refine h_imul C dX9_readNext_134 rfl ?_
              refine h_iadd C dX9_readNext_135 rfl ?_
              refine h_istore_n (lv' := [(1, .int (hpI (15 + (2 * r30)))), (0, .ref (z + 195))]) C dX9_readNext_136 rfl (by decide) rfl ?_
              refine h_aload_n C dX9_readNext_137 1 rfl rfl ?_
              refine h_get C O9 14 kd_195 (by decide) wd_1270 dX9_readNext_138 fr_195_14 ?_
              refine h_iload_n C dX9_readNext_141 0 rfl rfl ?_
              refine h_aload_n C dX9_readNext_142 1 rfl rfl ?_
              refine h_ldcS (i := 14) C Z (by decide) rfl dX9_readNext_143 ?_
              refine h_iconst C dX9_readNext_145 ?_
              refine h_bipush C dX9_readNext_146 (by decide) ?_
              refine h_callV (As := [.ref (cy (1000 + 14)), .int (hpI 1), .int (hpI 20)]) (rest := [.int (hpI (15 + (2 * r30))), .ref (z + 201)]) C Z yyX9_toldBy wd_1470 (tgX9_toldBy l D cy z _ 14 (by decide) 1 ⟨by decide, by decide⟩ 20 ⟨by decide, by decide⟩ hI66 (by omega)) kd_195 rfl rfl ⟨rfl, rfl, Nat.le_of_ble_eq_true rfl, Nat.le_of_ble_eq_true rfl⟩ ⟨Nat.le_of_ble_eq_true rfl, Nat.le_of_ble_eq_true rfl⟩ (Nat.le_of_ble_eq_true rfl) dX9_readNext_148 (fun r68 τ68 hp68 => ?_)
              obtain ⟨⟨x68, rfl, ⟨hx68a, hx68b⟩, hx68⟩, hI68, hG68⟩ := hp68
              have hF68 : ∀ j i : Nat, (j ≠ 195 ∨ (i ≠ 8 ∧ i ≠ 9 ∧ i ≠ 10 ∧ i ≠ 11 ∧ i ≠ 12 ∧ i ≠ 13)) → (j ≠ 201 ∨ i = 6) → τ68 j i = σ j i := fun j i h_0 h_1 => (hG68 j i (by omega)).trans (hF66 j i h_0 h_1)
              have hg69 : τ68 201 4 = r30 := (hG68 201 4 (by omega)).trans hg67
              show hpV _ _ _ _ _ _ _ _ _ _ _ _ _ _ _ _ _ _ _ _ _ (_ :: _)
              have y148_3 : τ68 201 3 = τ66 201 3 := hG68 201 3 (by omega)
              have y148_4 : τ68 201 4 = τ66 201 4 := hG68 201 4 (by omega)
              refine h_iastore C dX9_readNext_151 kd_201 (15 + (2 * r30)).toNat (Int.toNat_of_nonneg (by omega)) (by rw [ln_201]; omega) ?_
              obtain ⟨τ70, e70⟩ : ∃ μ : hpMem, μ = hpw τ68 201 ((15 + (2 * r30)).toNat) x68 := ⟨_, rfl⟩
              rw [← e70]
              have hI70 : hpInv τ70 := by rw [e70]; exact hpInv.w201 hI68 ((15 + (2 * r30)).toNat) 27 27 (0) 2016 (by omega) (by omega) (by decide) (by omega) (by omega)
              have hF70 : ∀ j i : Nat, (j ≠ 195 ∨ (i ≠ 8 ∧ i ≠ 9 ∧ i ≠ 10 ∧ i ≠ 11 ∧ i ≠ 12 ∧ i ≠ 13)) → (j ≠ 201 ∨ i = 6) → τ70 j i = σ j i := fun j i h_0 h_1 => by rw [e70]; exact (hpw_fr (by omega)).trans (hF68 j i h_0 h_1)
              have hg71 : τ70 201 4 = r30 := by rw [e70]; exact (hpw_fr (Or.inr (by omega))).trans hg69
              have y151_3 : τ70 201 3 = τ68 201 3 := by rw [e70]; exact hpw_fr (Or.inr (by omega))
              have y151_4 : τ70 201 4 = τ68 201 4 := by rw [e70]; exact hpw_fr (Or.inr (by omega))
              refine h_aload_n C dX9_readNext_152 1 rfl rfl ?_
              refine h_get C O9 14 kd_195 (by decide) wd_1270 dX9_readNext_153 fr_195_14 ?_
              refine h_iload_n C dX9_readNext_156 0 rfl rfl ?_
              refine h_iconst C dX9_readNext_157 ?_
              refine h_iadd C dX9_readNext_158 rfl ?_
              refine h_aload_n C dX9_readNext_159 1 rfl rfl ?_
              refine h_ldcS (i := 15) C Z (by decide) rfl dX9_readNext_160 ?_
              refine h_iconst C dX9_readNext_162 ?_
              refine h_bipush C dX9_readNext_163 (by decide) ?_
              refine h_callV (As := [.ref (cy (1000 + 15)), .int (hpI 0), .int (hpI 15)]) (rest := [.int (hpI ((15 + (2 * r30)) + 1)), .ref (z + 201)]) C Z yyX9_toldBy wd_1470 (tgX9_toldBy l D cy z _ 15 (by decide) 0 ⟨by decide, by decide⟩ 15 ⟨by decide, by decide⟩ hI70 (by omega)) kd_195 rfl rfl ⟨rfl, rfl, Nat.le_of_ble_eq_true rfl, Nat.le_of_ble_eq_true rfl⟩ ⟨Nat.le_of_ble_eq_true rfl, Nat.le_of_ble_eq_true rfl⟩ (Nat.le_of_ble_eq_true rfl) dX9_readNext_165 (fun r72 τ72 hp72 => ?_)
              obtain ⟨⟨x72, rfl, ⟨hx72a, hx72b⟩, hx72⟩, hI72, hG72⟩ := hp72
              have hF72 : ∀ j i : Nat, (j ≠ 195 ∨ (i ≠ 8 ∧ i ≠ 9 ∧ i ≠ 10 ∧ i ≠ 11 ∧ i ≠ 12 ∧ i ≠ 13)) → (j ≠ 201 ∨ i = 6) → τ72 j i = σ j i := fun j i h_0 h_1 => (hG72 j i (by omega)).trans (hF70 j i h_0 h_1)
              have hg73 : τ72 201 4 = r30 := (hG72 201 4 (by omega)).trans hg71
              show hpV _ _ _ _ _ _ _ _ _ _ _ _ _ _ _ _ _ _ _ _ _ (_ :: _)
              have y165_3 : τ72 201 3 = τ70 201 3 := hG72 201 3 (by omega)
              have y165_4 : τ72 201 4 = τ70 201 4 := hG72 201 4 (by omega)
              refine h_iastore C dX9_readNext_168 kd_201 ((15 + (2 * r30)) + 1).toNat (Int.toNat_of_nonneg (by omega)) (by rw [ln_201]; omega) ?_
              obtain ⟨τ74, e74⟩ : ∃ μ : hpMem, μ = hpw τ72 201 (((15 + (2 * r30)) + 1).toNat) x72 := ⟨_, rfl⟩
              rw [← e74]
              have hI74 : hpInv τ74 := by rw [e74]; exact hpInv.w201 hI72 (((15 + (2 * r30)) + 1).toNat) 28 28 (0) 2016 (by omega) (by omega) (by decide) (by omega) (by omega)
              have hF74 : ∀ j i : Nat, (j ≠ 195 ∨ (i ≠ 8 ∧ i ≠ 9 ∧ i ≠ 10 ∧ i ≠ 11 ∧ i ≠ 12 ∧ i ≠ 13)) → (j ≠ 201 ∨ i = 6) → τ74 j i = σ j i := fun j i h_0 h_1 => by rw [e74]; exact (hpw_fr (by omega)).trans (hF72 j i h_0 h_1)
              have hg75 : τ74 201 4 = r30 := by rw [e74]; exact (hpw_fr (Or.inr (by omega))).trans hg73
              have y168_3 : τ74 201 3 = τ72 201 3 := by rw [e74]; exact hpw_fr (Or.inr (by omega))
              have y168_4 : τ74 201 4 = τ72 201 4 := by rw [e74]; exact hpw_fr (Or.inr (by omega))
              refine h_aload_n C dX9_readNext_169 1 rfl rfl ?_
              refine h_get C O9 14 kd_195 (by decide) wd_1270 dX9_readNext_170 fr_195_14 ?_
              refine h_iconst C dX9_readNext_173 ?_
              refine h_dup2 C rfl rfl dX9_readNext_174 ?_
              refine h_iaload C dX9_readNext_175 kd_201 4 rfl (by rw [ln_201]; decide) rfl ?_
              rw [hg75]
              refine h_iconst C dX9_readNext_176 ?_
              refine h_iadd C dX9_readNext_177 rfl ?_
              refine h_iastore C dX9_readNext_178 kd_201 4 rfl (by rw [ln_201]; decide) ?_
              obtain ⟨τ76, e76⟩ : ∃ μ : hpMem, μ = hpw τ74 201 4 (r30 + 1) := ⟨_, rfl⟩
              rw [← e76]
              have hI76 : hpInv τ76 := by rw [e76]; exact hI74.w ((bw_201 4).trans (show hpwb 4 = (0, 6) by decide)) (by omega) (by omega)
              have hF76 : ∀ j i : Nat, (j ≠ 195 ∨ (i ≠ 8 ∧ i ≠ 9 ∧ i ≠ 10 ∧ i ≠ 11 ∧ i ≠ 12 ∧ i ≠ 13)) → (j ≠ 201 ∨ i = 6) → τ76 j i = σ j i := fun j i h_0 h_1 => by rw [e76]; exact (hpw_fr (by omega)).trans (hF74 j i h_0 h_1)
              have hg77 : τ76 201 4 = r30 + 1 := by rw [e76]; exact hpw_eq
              have y178_3 : τ76 201 3 = τ74 201 3 := by rw [e76]; exact hpw_fr (Or.inr (by decide))
              refine h_return C hr hlk dX9_readNext_179 ?_
              exact ⟨rfl, hI76, hF76, by omega⟩
            · refine h_aload_n C dX9_readNext_85 0 rfl rfl ?_
              refine h_get C O9 14 kd_195 (by decide) wd_1270 dX9_readNext_86 fr_195_14 ?_
              refine h_bipush C dX9_readNext_89 (by decide) ?_
              refine h_aload_n C dX9_readNext_91 0 rfl rfl ?_
              refine h_get C O9 14 kd_195 (by decide) wd_1270 dX9_readNext_92 fr_195_14 ?_
              refine h_iconst C dX9_readNext_95 ?_
              refine h_iaload C dX9_readNext_96 kd_201 3 rfl (by rw [ln_201]; decide) rfl ?_
              obtain ⟨hr78a, hr78b⟩ := hI63.b ((bw_201 3).trans (show hpwb 3 = (0, 8) by decide))
              generalize hg78 : τ63 201 3 = r78 at hr78a hr78b ⊢
              refine h_iadd C dX9_readNext_97 rfl ?_
              refine h_aload_n C dX9_readNext_98 0 rfl rfl ?_
              refine h_ldcS (i := 14) C Z (by decide) rfl dX9_readNext_99 ?_
              refine h_iconst C dX9_readNext_101 ?_
              refine h_bipush C dX9_readNext_102 (by decide) ?_
              refine h_callV (As := [.ref (cy (1000 + 14)), .int (hpI 1), .int (hpI 20)]) (rest := [.int (hpI (7 + r78)), .ref (z + 201)]) C Z yyX9_toldBy wd_1470 (tgX9_toldBy l D cy z _ 14 (by decide) 1 ⟨by decide, by decide⟩ 20 ⟨by decide, by decide⟩ hI63 (by omega)) kd_195 rfl rfl ⟨rfl, rfl, Nat.le_of_ble_eq_true rfl, Nat.le_of_ble_eq_true rfl⟩ ⟨Nat.le_of_ble_eq_true rfl, Nat.le_of_ble_eq_true rfl⟩ (Nat.le_of_ble_eq_true rfl) dX9_readNext_104 (fun r79 τ79 hp79 => ?_)
              obtain ⟨⟨x79, rfl, ⟨hx79a, hx79b⟩, hx79⟩, hI79, hG79⟩ := hp79
              have hF79 : ∀ j i : Nat, (j ≠ 195 ∨ (i ≠ 8 ∧ i ≠ 9 ∧ i ≠ 10 ∧ i ≠ 11 ∧ i ≠ 12 ∧ i ≠ 13)) → (j ≠ 201 ∨ i = 6) → τ79 j i = σ j i := fun j i h_0 h_1 => (hG79 j i (by omega)).trans (hF63 j i h_0 h_1)
              have hg80 : τ79 201 4 = r30 := (hG79 201 4 (by omega)).trans hg64
              have hg81 : τ79 201 3 = r78 := (hG79 201 3 (by omega)).trans hg78
              show hpV _ _ _ _ _ _ _ _ _ _ _ _ _ _ _ _ _ _ _ _ _ (_ :: _)
              have y104_3 : τ79 201 3 = τ63 201 3 := hG79 201 3 (by omega)
              have y104_4 : τ79 201 4 = τ63 201 4 := hG79 201 4 (by omega)
              refine h_iastore C dX9_readNext_107 kd_201 (7 + r78).toNat (Int.toNat_of_nonneg (by omega)) (by rw [ln_201]; omega) ?_
              obtain ⟨τ82, e82⟩ : ∃ μ : hpMem, μ = hpw τ79 201 ((7 + r78).toNat) x79 := ⟨_, rfl⟩
              rw [← e82]
              have hI82 : hpInv τ82 := by rw [e82]; exact hpInv.w201 hI79 ((7 + r78).toNat) 7 15 (0) 20 (by omega) (by omega) (by decide) (by omega) (by omega)
              have hF82 : ∀ j i : Nat, (j ≠ 195 ∨ (i ≠ 8 ∧ i ≠ 9 ∧ i ≠ 10 ∧ i ≠ 11 ∧ i ≠ 12 ∧ i ≠ 13)) → (j ≠ 201 ∨ i = 6) → τ82 j i = σ j i := fun j i h_0 h_1 => by rw [e82]; exact (hpw_fr (by omega)).trans (hF79 j i h_0 h_1)
              have hg83 : τ82 201 4 = r30 := by rw [e82]; exact (hpw_fr (Or.inr (by omega))).trans hg80
              have hg84 : τ82 201 3 = r78 := by rw [e82]; exact (hpw_fr (Or.inr (by omega))).trans hg81
              have y107_3 : τ82 201 3 = τ79 201 3 := by rw [e82]; exact hpw_fr (Or.inr (by omega))
              have y107_4 : τ82 201 4 = τ79 201 4 := by rw [e82]; exact hpw_fr (Or.inr (by omega))
              refine h_aload_n C dX9_readNext_108 0 rfl rfl ?_
              refine h_get C O9 14 kd_195 (by decide) wd_1270 dX9_readNext_109 fr_195_14 ?_
              refine h_iconst C dX9_readNext_112 ?_
              refine h_dup2 C rfl rfl dX9_readNext_113 ?_
              refine h_iaload C dX9_readNext_114 kd_201 3 rfl (by rw [ln_201]; decide) rfl ?_
              rw [hg84]
              refine h_iconst C dX9_readNext_115 ?_
              refine h_iadd C dX9_readNext_116 rfl ?_
              refine h_iastore C dX9_readNext_117 kd_201 3 rfl (by rw [ln_201]; decide) ?_
              obtain ⟨τ85, e85⟩ : ∃ μ : hpMem, μ = hpw τ82 201 3 (r78 + 1) := ⟨_, rfl⟩
              rw [← e85]
              have hI85 : hpInv τ85 := by rw [e85]; exact hI82.w ((bw_201 3).trans (show hpwb 3 = (0, 8) by decide)) (by omega) (by omega)
              have hF85 : ∀ j i : Nat, (j ≠ 195 ∨ (i ≠ 8 ∧ i ≠ 9 ∧ i ≠ 10 ∧ i ≠ 11 ∧ i ≠ 12 ∧ i ≠ 13)) → (j ≠ 201 ∨ i = 6) → τ85 j i = σ j i := fun j i h_0 h_1 => by rw [e85]; exact (hpw_fr (by omega)).trans (hF82 j i h_0 h_1)
              have hg86 : τ85 201 4 = r30 := by rw [e85]; exact (hpw_fr (Or.inr (by decide))).trans hg83
              have hg87 : τ85 201 3 = r78 + 1 := by rw [e85]; exact hpw_eq
              have y117_4 : τ85 201 4 = τ82 201 4 := by rw [e85]; exact hpw_fr (Or.inr (by decide))
              refine h_goto (tgt := 179) C dX9_readNext_118 (by decide) ?_
              refine h_return C hr hlk dX9_readNext_179 ?_
              exact ⟨rfl, hI85, hF85, by omega⟩
          · refine h_return C hr hlk dX9_readNext_75 ?_
            exact ⟨rfl, hI59, hF59, by omega⟩
    · refine h_aload_n C dX9_readNext_32 0 rfl rfl ?_
      refine h_get C O9 14 kd_195 (by decide) wd_1270 dX9_readNext_33 fr_195_14 ?_
      refine h_iconst C dX9_readNext_36 ?_
      refine h_iaload C dX9_readNext_37 kd_201 3 rfl (by rw [ln_201]; decide) rfl ?_
      obtain ⟨hr88a, hr88b⟩ := hI.b ((bw_201 3).trans (show hpwb 3 = (0, 8) by decide))
      generalize hg88 : σ 201 3 = r88 at hr88a hr88b ⊢
      refine h_bipush C dX9_readNext_38 (by decide) ?_
      refine h_icmp_eq (tgt := 63) C dX9_readNext_40 (by decide) ⟨by omega, by omega⟩ ⟨by decide, by decide⟩ (fun h89 => ?_) (fun h89 => ?_)
      · refine h_aload_n C dX9_readNext_63 0 rfl rfl ?_
        refine h_iconst C dX9_readNext_64 ?_
        refine h_callV (As := [.int (hpI 3)]) (rest := []) C Z yyX9_errs wd_1465 (tgX9_errs l D cy z _ 3 ⟨by decide, by decide⟩ hI (by omega)) kd_195 rfl rfl ⟨rfl, rfl, Nat.le_of_ble_eq_true rfl, Nat.le_of_ble_eq_true rfl⟩ ⟨Nat.le_of_ble_eq_true rfl, Nat.le_of_ble_eq_true rfl⟩ (Nat.le_of_ble_eq_true rfl) dX9_readNext_65 (fun r90 τ90 hp90 => ?_)
        obtain ⟨rfl, hI90, hG90, hq90_0⟩ := hp90
        have hF90 : ∀ j i : Nat, (j ≠ 195 ∨ (i ≠ 8 ∧ i ≠ 9 ∧ i ≠ 10 ∧ i ≠ 11 ∧ i ≠ 12 ∧ i ≠ 13)) → (j ≠ 201 ∨ i = 6) → τ90 j i = σ j i := fun j i h_0 h_1 => (hG90 j i (by omega)).trans (hF0 j i h_0 h_1)
        have hg91 : τ90 201 3 = r88 := (hG90 201 3 (by omega)).trans hg88
        show hpV _ _ _ _ _ _ _ _ _ _ _ _ _ _ _ _ _ _ _ _ _ []
        refine h_aload_n C dX9_readNext_68 0 rfl rfl ?_
        refine h_callV (As := []) (rest := []) C Z yyX9_good wd_1438 (tgX9_good l D cy z _ hI90) kd_195 rfl rfl ⟨rfl, rfl, Nat.le_of_ble_eq_true rfl, Nat.le_of_ble_eq_true rfl⟩ ⟨Nat.le_of_ble_eq_true rfl, Nat.le_of_ble_eq_true rfl⟩ (Nat.le_of_ble_eq_true rfl) dX9_readNext_69 (fun r92 τ92 hp92 => ?_)
        obtain ⟨⟨x92, rfl, ⟨hx92a, hx92b⟩, hx92⟩, rfl⟩ := hp92
        show hpV _ _ _ _ _ _ _ _ _ _ _ _ _ _ _ _ _ _ _ _ _ (_ :: _)
        refine h_if_ne (tgt := 76) C dX9_readNext_72 (by decide) ⟨by omega, by omega⟩ (fun h93 => ?_) (fun h93 => ?_)
        · refine h_aload_n C dX9_readNext_76 0 rfl rfl ?_
          refine h_ldcS (i := 12) C Z (by decide) rfl dX9_readNext_77 ?_
          refine h_callV (As := [.ref (cy (1000 + 12))]) (rest := []) C Z yyX9_takes wd_1455 (tgX9_takes l D cy z _ 12 (by decide) hI90) kd_195 rfl rfl ⟨rfl, rfl, Nat.le_of_ble_eq_true rfl, Nat.le_of_ble_eq_true rfl⟩ ⟨Nat.le_of_ble_eq_true rfl, Nat.le_of_ble_eq_true rfl⟩ (Nat.le_of_ble_eq_true rfl) dX9_readNext_79 (fun r94 τ94 hp94 => ?_)
          obtain ⟨⟨x94, rfl, ⟨hx94a, hx94b⟩, hx94⟩, hI94, hG94⟩ := hp94
          have hF94 : ∀ j i : Nat, (j ≠ 195 ∨ (i ≠ 8 ∧ i ≠ 9 ∧ i ≠ 10 ∧ i ≠ 11 ∧ i ≠ 12 ∧ i ≠ 13)) → (j ≠ 201 ∨ i = 6) → τ94 j i = σ j i := fun j i h_0 h_1 => (hG94 j i (by omega)).trans (hF90 j i h_0 h_1)
          have hg95 : τ94 201 3 = r88 := (hG94 201 3 (by omega)).trans hg91
          show hpV _ _ _ _ _ _ _ _ _ _ _ _ _ _ _ _ _ _ _ _ _ (_ :: _)
          have y79_3 : τ94 201 3 = τ90 201 3 := hG94 201 3 (by omega)
          have y79_4 : τ94 201 4 = τ90 201 4 := hG94 201 4 (by omega)
          refine h_if_eq (tgt := 121) C dX9_readNext_82 (by decide) ⟨by omega, by omega⟩ (fun h96 => ?_) (fun h96 => ?_)
          · refine h_aload_n C dX9_readNext_121 0 rfl rfl ?_
            refine h_callV (As := []) (rest := []) C Z yyX9_advance wd_1424 (tgX9_advance l D cy z _ hI94) kd_195 rfl rfl ⟨rfl, rfl, Nat.le_of_ble_eq_true rfl, Nat.le_of_ble_eq_true rfl⟩ ⟨Nat.le_of_ble_eq_true rfl, Nat.le_of_ble_eq_true rfl⟩ (Nat.le_of_ble_eq_true rfl) dX9_readNext_122 (fun r97 τ97 hp97 => ?_)
            obtain ⟨rfl, hI97, hG97⟩ := hp97
            have hF97 : ∀ j i : Nat, (j ≠ 195 ∨ (i ≠ 8 ∧ i ≠ 9 ∧ i ≠ 10 ∧ i ≠ 11 ∧ i ≠ 12 ∧ i ≠ 13)) → (j ≠ 201 ∨ i = 6) → τ97 j i = σ j i := fun j i h_0 h_1 => (hG97 j i (by omega)).trans (hF94 j i h_0 h_1)
            have hg98 : τ97 201 3 = r88 := (hG97 201 3 (by omega)).trans hg95
            show hpV _ _ _ _ _ _ _ _ _ _ _ _ _ _ _ _ _ _ _ _ _ []
            have y122_3 : τ97 201 3 = τ94 201 3 := hG97 201 3 (by omega)
            have y122_4 : τ97 201 4 = τ94 201 4 := hG97 201 4 (by omega)
            refine h_bipush C dX9_readNext_125 (by decide) ?_
            refine h_iconst C dX9_readNext_127 ?_
            refine h_aload_n C dX9_readNext_128 0 rfl rfl ?_
            refine h_get C O9 14 kd_195 (by decide) wd_1270 dX9_readNext_129 fr_195_14 ?_
            refine h_iconst C dX9_readNext_132 ?_
            refine h_iaload C dX9_readNext_133 kd_201 4 rfl (by rw [ln_201]; decide) rfl ?_
            obtain ⟨hr99a, hr99b⟩ := hI97.b ((bw_201 4).trans (show hpwb 4 = (0, 6) by decide))
            generalize hg99 : τ97 201 4 = r99 at hr99a hr99b ⊢
            refine h_imul C dX9_readNext_134 rfl ?_
            refine h_iadd C dX9_readNext_135 rfl ?_
            refine h_istore_n (lv' := [(1, .int (hpI (15 + (2 * r99)))), (0, .ref (z + 195))]) C dX9_readNext_136 rfl (by decide) rfl ?_
            refine h_aload_n C dX9_readNext_137 1 rfl rfl ?_
            refine h_get C O9 14 kd_195 (by decide) wd_1270 dX9_readNext_138 fr_195_14 ?_
            refine h_iload_n C dX9_readNext_141 0 rfl rfl ?_
            refine h_aload_n C dX9_readNext_142 1 rfl rfl ?_
            refine h_ldcS (i := 14) C Z (by decide) rfl dX9_readNext_143 ?_
            refine h_iconst C dX9_readNext_145 ?_
            refine h_bipush C dX9_readNext_146 (by decide) ?_
            refine h_callV (As := [.ref (cy (1000 + 14)), .int (hpI 1), .int (hpI 20)]) (rest := [.int (hpI (15 + (2 * r99))), .ref (z + 201)]) C Z yyX9_toldBy wd_1470 (tgX9_toldBy l D cy z _ 14 (by decide) 1 ⟨by decide, by decide⟩ 20 ⟨by decide, by decide⟩ hI97 (by omega)) kd_195 rfl rfl ⟨rfl, rfl, Nat.le_of_ble_eq_true rfl, Nat.le_of_ble_eq_true rfl⟩ ⟨Nat.le_of_ble_eq_true rfl, Nat.le_of_ble_eq_true rfl⟩ (Nat.le_of_ble_eq_true rfl) dX9_readNext_148 (fun r100 τ100 hp100 => ?_)
            obtain ⟨⟨x100, rfl, ⟨hx100a, hx100b⟩, hx100⟩, hI100, hG100⟩ := hp100
            have hF100 : ∀ j i : Nat, (j ≠ 195 ∨ (i ≠ 8 ∧ i ≠ 9 ∧ i ≠ 10 ∧ i ≠ 11 ∧ i ≠ 12 ∧ i ≠ 13)) → (j ≠ 201 ∨ i = 6) → τ100 j i = σ j i := fun j i h_0 h_1 => (hG100 j i (by omega)).trans (hF97 j i h_0 h_1)
            have hg101 : τ100 201 3 = r88 := (hG100 201 3 (by omega)).trans hg98
            have hg102 : τ100 201 4 = r99 := (hG100 201 4 (by omega)).trans hg99
            show hpV _ _ _ _ _ _ _ _ _ _ _ _ _ _ _ _ _ _ _ _ _ (_ :: _)
            have y148_3 : τ100 201 3 = τ97 201 3 := hG100 201 3 (by omega)
            have y148_4 : τ100 201 4 = τ97 201 4 := hG100 201 4 (by omega)
            refine h_iastore C dX9_readNext_151 kd_201 (15 + (2 * r99)).toNat (Int.toNat_of_nonneg (by omega)) (by rw [ln_201]; omega) ?_
            obtain ⟨τ103, e103⟩ : ∃ μ : hpMem, μ = hpw τ100 201 ((15 + (2 * r99)).toNat) x100 := ⟨_, rfl⟩
            rw [← e103]
            have hI103 : hpInv τ103 := by rw [e103]; exact hpInv.w201 hI100 ((15 + (2 * r99)).toNat) 15 27 (0) 20 (by omega) (by omega) (by decide) (by omega) (by omega)
            have hF103 : ∀ j i : Nat, (j ≠ 195 ∨ (i ≠ 8 ∧ i ≠ 9 ∧ i ≠ 10 ∧ i ≠ 11 ∧ i ≠ 12 ∧ i ≠ 13)) → (j ≠ 201 ∨ i = 6) → τ103 j i = σ j i := fun j i h_0 h_1 => by rw [e103]; exact (hpw_fr (by omega)).trans (hF100 j i h_0 h_1)
            have hg104 : τ103 201 3 = r88 := by rw [e103]; exact (hpw_fr (Or.inr (by omega))).trans hg101
            have hg105 : τ103 201 4 = r99 := by rw [e103]; exact (hpw_fr (Or.inr (by omega))).trans hg102
            have y151_3 : τ103 201 3 = τ100 201 3 := by rw [e103]; exact hpw_fr (Or.inr (by omega))
            have y151_4 : τ103 201 4 = τ100 201 4 := by rw [e103]; exact hpw_fr (Or.inr (by omega))
            refine h_aload_n C dX9_readNext_152 1 rfl rfl ?_
            refine h_get C O9 14 kd_195 (by decide) wd_1270 dX9_readNext_153 fr_195_14 ?_
            refine h_iload_n C dX9_readNext_156 0 rfl rfl ?_
            refine h_iconst C dX9_readNext_157 ?_
            refine h_iadd C dX9_readNext_158 rfl ?_
            refine h_aload_n C dX9_readNext_159 1 rfl rfl ?_
            refine h_ldcS (i := 15) C Z (by decide) rfl dX9_readNext_160 ?_
            refine h_iconst C dX9_readNext_162 ?_
            refine h_bipush C dX9_readNext_163 (by decide) ?_
            refine h_callV (As := [.ref (cy (1000 + 15)), .int (hpI 0), .int (hpI 15)]) (rest := [.int (hpI ((15 + (2 * r99)) + 1)), .ref (z + 201)]) C Z yyX9_toldBy wd_1470 (tgX9_toldBy l D cy z _ 15 (by decide) 0 ⟨by decide, by decide⟩ 15 ⟨by decide, by decide⟩ hI103 (by omega)) kd_195 rfl rfl ⟨rfl, rfl, Nat.le_of_ble_eq_true rfl, Nat.le_of_ble_eq_true rfl⟩ ⟨Nat.le_of_ble_eq_true rfl, Nat.le_of_ble_eq_true rfl⟩ (Nat.le_of_ble_eq_true rfl) dX9_readNext_165 (fun r106 τ106 hp106 => ?_)
            obtain ⟨⟨x106, rfl, ⟨hx106a, hx106b⟩, hx106⟩, hI106, hG106⟩ := hp106
            have hF106 : ∀ j i : Nat, (j ≠ 195 ∨ (i ≠ 8 ∧ i ≠ 9 ∧ i ≠ 10 ∧ i ≠ 11 ∧ i ≠ 12 ∧ i ≠ 13)) → (j ≠ 201 ∨ i = 6) → τ106 j i = σ j i := fun j i h_0 h_1 => (hG106 j i (by omega)).trans (hF103 j i h_0 h_1)
            have hg107 : τ106 201 3 = r88 := (hG106 201 3 (by omega)).trans hg104
            have hg108 : τ106 201 4 = r99 := (hG106 201 4 (by omega)).trans hg105
            show hpV _ _ _ _ _ _ _ _ _ _ _ _ _ _ _ _ _ _ _ _ _ (_ :: _)
            have y165_3 : τ106 201 3 = τ103 201 3 := hG106 201 3 (by omega)
            have y165_4 : τ106 201 4 = τ103 201 4 := hG106 201 4 (by omega)
            refine h_iastore C dX9_readNext_168 kd_201 ((15 + (2 * r99)) + 1).toNat (Int.toNat_of_nonneg (by omega)) (by rw [ln_201]; omega) ?_
            obtain ⟨τ109, e109⟩ : ∃ μ : hpMem, μ = hpw τ106 201 (((15 + (2 * r99)) + 1).toNat) x106 := ⟨_, rfl⟩
            rw [← e109]
            have hI109 : hpInv τ109 := by rw [e109]; exact hpInv.w201 hI106 (((15 + (2 * r99)) + 1).toNat) 16 28 (0) 20 (by omega) (by omega) (by decide) (by omega) (by omega)
            have hF109 : ∀ j i : Nat, (j ≠ 195 ∨ (i ≠ 8 ∧ i ≠ 9 ∧ i ≠ 10 ∧ i ≠ 11 ∧ i ≠ 12 ∧ i ≠ 13)) → (j ≠ 201 ∨ i = 6) → τ109 j i = σ j i := fun j i h_0 h_1 => by rw [e109]; exact (hpw_fr (by omega)).trans (hF106 j i h_0 h_1)
            have hg110 : τ109 201 3 = r88 := by rw [e109]; exact (hpw_fr (Or.inr (by omega))).trans hg107
            have hg111 : τ109 201 4 = r99 := by rw [e109]; exact (hpw_fr (Or.inr (by omega))).trans hg108
            have y168_3 : τ109 201 3 = τ106 201 3 := by rw [e109]; exact hpw_fr (Or.inr (by omega))
            have y168_4 : τ109 201 4 = τ106 201 4 := by rw [e109]; exact hpw_fr (Or.inr (by omega))
            refine h_aload_n C dX9_readNext_169 1 rfl rfl ?_
            refine h_get C O9 14 kd_195 (by decide) wd_1270 dX9_readNext_170 fr_195_14 ?_
            refine h_iconst C dX9_readNext_173 ?_
            refine h_dup2 C rfl rfl dX9_readNext_174 ?_
            refine h_iaload C dX9_readNext_175 kd_201 4 rfl (by rw [ln_201]; decide) rfl ?_
            rw [hg111]
            refine h_iconst C dX9_readNext_176 ?_
            refine h_iadd C dX9_readNext_177 rfl ?_
            refine h_iastore C dX9_readNext_178 kd_201 4 rfl (by rw [ln_201]; decide) ?_
            obtain ⟨τ112, e112⟩ : ∃ μ : hpMem, μ = hpw τ109 201 4 (r99 + 1) := ⟨_, rfl⟩
            rw [← e112]
            have hI112 : hpInv τ112 := by rw [e112]; exact hI109.w ((bw_201 4).trans (show hpwb 4 = (0, 6) by decide)) (by omega) (by omega)
            have hF112 : ∀ j i : Nat, (j ≠ 195 ∨ (i ≠ 8 ∧ i ≠ 9 ∧ i ≠ 10 ∧ i ≠ 11 ∧ i ≠ 12 ∧ i ≠ 13)) → (j ≠ 201 ∨ i = 6) → τ112 j i = σ j i := fun j i h_0 h_1 => by rw [e112]; exact (hpw_fr (by omega)).trans (hF109 j i h_0 h_1)
            have hg113 : τ112 201 3 = r88 := by rw [e112]; exact (hpw_fr (Or.inr (by decide))).trans hg110
            have hg114 : τ112 201 4 = r99 + 1 := by rw [e112]; exact hpw_eq
            have y178_3 : τ112 201 3 = τ109 201 3 := by rw [e112]; exact hpw_fr (Or.inr (by decide))
            refine h_return C hr hlk dX9_readNext_179 ?_
            exact ⟨rfl, hI112, hF112, by omega⟩
          · refine h_aload_n C dX9_readNext_85 0 rfl rfl ?_
            refine h_get C O9 14 kd_195 (by decide) wd_1270 dX9_readNext_86 fr_195_14 ?_
            refine h_bipush C dX9_readNext_89 (by decide) ?_
            refine h_aload_n C dX9_readNext_91 0 rfl rfl ?_
            refine h_get C O9 14 kd_195 (by decide) wd_1270 dX9_readNext_92 fr_195_14 ?_
            refine h_iconst C dX9_readNext_95 ?_
            refine h_iaload C dX9_readNext_96 kd_201 3 rfl (by rw [ln_201]; decide) rfl ?_
            rw [hg95]
            refine h_iadd C dX9_readNext_97 rfl ?_
            refine h_aload_n C dX9_readNext_98 0 rfl rfl ?_
            refine h_ldcS (i := 14) C Z (by decide) rfl dX9_readNext_99 ?_
            refine h_iconst C dX9_readNext_101 ?_
            refine h_bipush C dX9_readNext_102 (by decide) ?_
            refine h_callV (As := [.ref (cy (1000 + 14)), .int (hpI 1), .int (hpI 20)]) (rest := [.int (hpI (7 + r88)), .ref (z + 201)]) C Z yyX9_toldBy wd_1470 (tgX9_toldBy l D cy z _ 14 (by decide) 1 ⟨by decide, by decide⟩ 20 ⟨by decide, by decide⟩ hI94 (by omega)) kd_195 rfl rfl ⟨rfl, rfl, Nat.le_of_ble_eq_true rfl, Nat.le_of_ble_eq_true rfl⟩ ⟨Nat.le_of_ble_eq_true rfl, Nat.le_of_ble_eq_true rfl⟩ (Nat.le_of_ble_eq_true rfl) dX9_readNext_104 (fun r115 τ115 hp115 => ?_)
            obtain ⟨⟨x115, rfl, ⟨hx115a, hx115b⟩, hx115⟩, hI115, hG115⟩ := hp115
            have hF115 : ∀ j i : Nat, (j ≠ 195 ∨ (i ≠ 8 ∧ i ≠ 9 ∧ i ≠ 10 ∧ i ≠ 11 ∧ i ≠ 12 ∧ i ≠ 13)) → (j ≠ 201 ∨ i = 6) → τ115 j i = σ j i := fun j i h_0 h_1 => (hG115 j i (by omega)).trans (hF94 j i h_0 h_1)
            have hg116 : τ115 201 3 = r88 := (hG115 201 3 (by omega)).trans hg95
            show hpV _ _ _ _ _ _ _ _ _ _ _ _ _ _ _ _ _ _ _ _ _ (_ :: _)
            have y104_3 : τ115 201 3 = τ94 201 3 := hG115 201 3 (by omega)
            have y104_4 : τ115 201 4 = τ94 201 4 := hG115 201 4 (by omega)
            refine h_iastore C dX9_readNext_107 kd_201 (7 + r88).toNat (Int.toNat_of_nonneg (by omega)) (by rw [ln_201]; omega) ?_
            obtain ⟨τ117, e117⟩ : ∃ μ : hpMem, μ = hpw τ115 201 ((7 + r88).toNat) x115 := ⟨_, rfl⟩
            rw [← e117]
            have hI117 : hpInv τ117 := by rw [e117]; exact hpInv.w201 hI115 ((7 + r88).toNat) 15 15 (0) 20 (by omega) (by omega) (by decide) (by omega) (by omega)
            have hF117 : ∀ j i : Nat, (j ≠ 195 ∨ (i ≠ 8 ∧ i ≠ 9 ∧ i ≠ 10 ∧ i ≠ 11 ∧ i ≠ 12 ∧ i ≠ 13)) → (j ≠ 201 ∨ i = 6) → τ117 j i = σ j i := fun j i h_0 h_1 => by rw [e117]; exact (hpw_fr (by omega)).trans (hF115 j i h_0 h_1)
            have hg118 : τ117 201 3 = r88 := by rw [e117]; exact (hpw_fr (Or.inr (by omega))).trans hg116
            have y107_3 : τ117 201 3 = τ115 201 3 := by rw [e117]; exact hpw_fr (Or.inr (by omega))
            have y107_4 : τ117 201 4 = τ115 201 4 := by rw [e117]; exact hpw_fr (Or.inr (by omega))
            refine h_aload_n C dX9_readNext_108 0 rfl rfl ?_
            refine h_get C O9 14 kd_195 (by decide) wd_1270 dX9_readNext_109 fr_195_14 ?_
            refine h_iconst C dX9_readNext_112 ?_
            refine h_dup2 C rfl rfl dX9_readNext_113 ?_
            refine h_iaload C dX9_readNext_114 kd_201 3 rfl (by rw [ln_201]; decide) rfl ?_
            rw [hg118]
            refine h_iconst C dX9_readNext_115 ?_
            refine h_iadd C dX9_readNext_116 rfl ?_
            refine h_iastore C dX9_readNext_117 kd_201 3 rfl (by rw [ln_201]; decide) ?_
            obtain ⟨τ119, e119⟩ : ∃ μ : hpMem, μ = hpw τ117 201 3 (r88 + 1) := ⟨_, rfl⟩
            rw [← e119]
            have hI119 : hpInv τ119 := by rw [e119]; exact hI117.w ((bw_201 3).trans (show hpwb 3 = (0, 8) by decide)) (by omega) (by omega)
            have hF119 : ∀ j i : Nat, (j ≠ 195 ∨ (i ≠ 8 ∧ i ≠ 9 ∧ i ≠ 10 ∧ i ≠ 11 ∧ i ≠ 12 ∧ i ≠ 13)) → (j ≠ 201 ∨ i = 6) → τ119 j i = σ j i := fun j i h_0 h_1 => by rw [e119]; exact (hpw_fr (by omega)).trans (hF117 j i h_0 h_1)
            have hg120 : τ119 201 3 = r88 + 1 := by rw [e119]; exact hpw_eq
            have y117_4 : τ119 201 4 = τ117 201 4 := by rw [e119]; exact hpw_fr (Or.inr (by decide))
            refine h_goto (tgt := 179) C dX9_readNext_118 (by decide) ?_
            refine h_return C hr hlk dX9_readNext_179 ?_
            exact ⟨rfl, hI119, hF119, by omega⟩
        · refine h_return C hr hlk dX9_readNext_75 ?_
          exact ⟨rfl, hI90, hF90, by omega⟩
      · refine h_aload_n C dX9_readNext_43 0 rfl rfl ?_
        refine h_ldcS (i := 13) C Z (by decide) rfl dX9_readNext_44 ?_
        refine h_callV (As := [.ref (cy (1000 + 13))]) (rest := []) C Z yyX9_is wd_1459 (tgX9_is l D cy z _ 13 (by decide) hI) kd_195 rfl rfl ⟨rfl, rfl, Nat.le_of_ble_eq_true rfl, Nat.le_of_ble_eq_true rfl⟩ ⟨Nat.le_of_ble_eq_true rfl, Nat.le_of_ble_eq_true rfl⟩ (Nat.le_of_ble_eq_true rfl) dX9_readNext_46 (fun r121 τ121 hp121 => ?_)
        obtain ⟨⟨x121, rfl, ⟨hx121a, hx121b⟩, hx121⟩, rfl⟩ := hp121
        show hpV _ _ _ _ _ _ _ _ _ _ _ _ _ _ _ _ _ _ _ _ _ (_ :: _)
        refine h_if_eq (tgt := 68) C dX9_readNext_49 (by decide) ⟨by omega, by omega⟩ (fun h122 => ?_) (fun h122 => ?_)
        · refine h_aload_n C dX9_readNext_68 0 rfl rfl ?_
          refine h_callV (As := []) (rest := []) C Z yyX9_good wd_1438 (tgX9_good l D cy z _ hI) kd_195 rfl rfl ⟨rfl, rfl, Nat.le_of_ble_eq_true rfl, Nat.le_of_ble_eq_true rfl⟩ ⟨Nat.le_of_ble_eq_true rfl, Nat.le_of_ble_eq_true rfl⟩ (Nat.le_of_ble_eq_true rfl) dX9_readNext_69 (fun r123 τ123 hp123 => ?_)
          obtain ⟨⟨x123, rfl, ⟨hx123a, hx123b⟩, hx123⟩, rfl⟩ := hp123
          show hpV _ _ _ _ _ _ _ _ _ _ _ _ _ _ _ _ _ _ _ _ _ (_ :: _)
          refine h_if_ne (tgt := 76) C dX9_readNext_72 (by decide) ⟨by omega, by omega⟩ (fun h124 => ?_) (fun h124 => ?_)
          · refine h_aload_n C dX9_readNext_76 0 rfl rfl ?_
            refine h_ldcS (i := 12) C Z (by decide) rfl dX9_readNext_77 ?_
            refine h_callV (As := [.ref (cy (1000 + 12))]) (rest := []) C Z yyX9_takes wd_1455 (tgX9_takes l D cy z _ 12 (by decide) hI) kd_195 rfl rfl ⟨rfl, rfl, Nat.le_of_ble_eq_true rfl, Nat.le_of_ble_eq_true rfl⟩ ⟨Nat.le_of_ble_eq_true rfl, Nat.le_of_ble_eq_true rfl⟩ (Nat.le_of_ble_eq_true rfl) dX9_readNext_79 (fun r125 τ125 hp125 => ?_)
            obtain ⟨⟨x125, rfl, ⟨hx125a, hx125b⟩, hx125⟩, hI125, hG125⟩ := hp125
            have hF125 : ∀ j i : Nat, (j ≠ 195 ∨ (i ≠ 8 ∧ i ≠ 9 ∧ i ≠ 10 ∧ i ≠ 11 ∧ i ≠ 12 ∧ i ≠ 13)) → (j ≠ 201 ∨ i = 6) → τ125 j i = σ j i := fun j i h_0 h_1 => (hG125 j i (by omega)).trans (hF0 j i h_0 h_1)
            have hg126 : τ125 201 3 = r88 := (hG125 201 3 (by omega)).trans hg88
            show hpV _ _ _ _ _ _ _ _ _ _ _ _ _ _ _ _ _ _ _ _ _ (_ :: _)
            have y79_3 : τ125 201 3 = σ 201 3 := hG125 201 3 (by omega)
            have y79_4 : τ125 201 4 = σ 201 4 := hG125 201 4 (by omega)
            refine h_if_eq (tgt := 121) C dX9_readNext_82 (by decide) ⟨by omega, by omega⟩ (fun h127 => ?_) (fun h127 => ?_)
            · refine h_aload_n C dX9_readNext_121 0 rfl rfl ?_
              refine h_callV (As := []) (rest := []) C Z yyX9_advance wd_1424 (tgX9_advance l D cy z _ hI125) kd_195 rfl rfl ⟨rfl, rfl, Nat.le_of_ble_eq_true rfl, Nat.le_of_ble_eq_true rfl⟩ ⟨Nat.le_of_ble_eq_true rfl, Nat.le_of_ble_eq_true rfl⟩ (Nat.le_of_ble_eq_true rfl) dX9_readNext_122 (fun r128 τ128 hp128 => ?_)
              obtain ⟨rfl, hI128, hG128⟩ := hp128
              have hF128 : ∀ j i : Nat, (j ≠ 195 ∨ (i ≠ 8 ∧ i ≠ 9 ∧ i ≠ 10 ∧ i ≠ 11 ∧ i ≠ 12 ∧ i ≠ 13)) → (j ≠ 201 ∨ i = 6) → τ128 j i = σ j i := fun j i h_0 h_1 => (hG128 j i (by omega)).trans (hF125 j i h_0 h_1)
              have hg129 : τ128 201 3 = r88 := (hG128 201 3 (by omega)).trans hg126
              show hpV _ _ _ _ _ _ _ _ _ _ _ _ _ _ _ _ _ _ _ _ _ []
              have y122_3 : τ128 201 3 = τ125 201 3 := hG128 201 3 (by omega)
              have y122_4 : τ128 201 4 = τ125 201 4 := hG128 201 4 (by omega)
              refine h_bipush C dX9_readNext_125 (by decide) ?_
              refine h_iconst C dX9_readNext_127 ?_
              refine h_aload_n C dX9_readNext_128 0 rfl rfl ?_
              refine h_get C O9 14 kd_195 (by decide) wd_1270 dX9_readNext_129 fr_195_14 ?_
              refine h_iconst C dX9_readNext_132 ?_
              refine h_iaload C dX9_readNext_133 kd_201 4 rfl (by rw [ln_201]; decide) rfl ?_
              obtain ⟨hr130a, hr130b⟩ := hI128.b ((bw_201 4).trans (show hpwb 4 = (0, 6) by decide))
              generalize hg130 : τ128 201 4 = r130 at hr130a hr130b ⊢
              refine h_imul C dX9_readNext_134 rfl ?_
              refine h_iadd C dX9_readNext_135 rfl ?_
              refine h_istore_n (lv' := [(1, .int (hpI (15 + (2 * r130)))), (0, .ref (z + 195))]) C dX9_readNext_136 rfl (by decide) rfl ?_
              refine h_aload_n C dX9_readNext_137 1 rfl rfl ?_
              refine h_get C O9 14 kd_195 (by decide) wd_1270 dX9_readNext_138 fr_195_14 ?_
              refine h_iload_n C dX9_readNext_141 0 rfl rfl ?_
              refine h_aload_n C dX9_readNext_142 1 rfl rfl ?_
              refine h_ldcS (i := 14) C Z (by decide) rfl dX9_readNext_143 ?_
              refine h_iconst C dX9_readNext_145 ?_
              refine h_bipush C dX9_readNext_146 (by decide) ?_
              refine h_callV (As := [.ref (cy (1000 + 14)), .int (hpI 1), .int (hpI 20)]) (rest := [.int (hpI (15 + (2 * r130))), .ref (z + 201)]) C Z yyX9_toldBy wd_1470 (tgX9_toldBy l D cy z _ 14 (by decide) 1 ⟨by decide, by decide⟩ 20 ⟨by decide, by decide⟩ hI128 (by omega)) kd_195 rfl rfl ⟨rfl, rfl, Nat.le_of_ble_eq_true rfl, Nat.le_of_ble_eq_true rfl⟩ ⟨Nat.le_of_ble_eq_true rfl, Nat.le_of_ble_eq_true rfl⟩ (Nat.le_of_ble_eq_true rfl) dX9_readNext_148 (fun r131 τ131 hp131 => ?_)
              obtain ⟨⟨x131, rfl, ⟨hx131a, hx131b⟩, hx131⟩, hI131, hG131⟩ := hp131
              have hF131 : ∀ j i : Nat, (j ≠ 195 ∨ (i ≠ 8 ∧ i ≠ 9 ∧ i ≠ 10 ∧ i ≠ 11 ∧ i ≠ 12 ∧ i ≠ 13)) → (j ≠ 201 ∨ i = 6) → τ131 j i = σ j i := fun j i h_0 h_1 => (hG131 j i (by omega)).trans (hF128 j i h_0 h_1)
              have hg132 : τ131 201 3 = r88 := (hG131 201 3 (by omega)).trans hg129
              have hg133 : τ131 201 4 = r130 := (hG131 201 4 (by omega)).trans hg130
              show hpV _ _ _ _ _ _ _ _ _ _ _ _ _ _ _ _ _ _ _ _ _ (_ :: _)
              have y148_3 : τ131 201 3 = τ128 201 3 := hG131 201 3 (by omega)
              have y148_4 : τ131 201 4 = τ128 201 4 := hG131 201 4 (by omega)
              refine h_iastore C dX9_readNext_151 kd_201 (15 + (2 * r130)).toNat (Int.toNat_of_nonneg (by omega)) (by rw [ln_201]; omega) ?_
              obtain ⟨τ134, e134⟩ : ∃ μ : hpMem, μ = hpw τ131 201 ((15 + (2 * r130)).toNat) x131 := ⟨_, rfl⟩
              rw [← e134]
              have hI134 : hpInv τ134 := by rw [e134]; exact hpInv.w201 hI131 ((15 + (2 * r130)).toNat) 15 27 (0) 20 (by omega) (by omega) (by decide) (by omega) (by omega)
              have hF134 : ∀ j i : Nat, (j ≠ 195 ∨ (i ≠ 8 ∧ i ≠ 9 ∧ i ≠ 10 ∧ i ≠ 11 ∧ i ≠ 12 ∧ i ≠ 13)) → (j ≠ 201 ∨ i = 6) → τ134 j i = σ j i := fun j i h_0 h_1 => by rw [e134]; exact (hpw_fr (by omega)).trans (hF131 j i h_0 h_1)
              have hg135 : τ134 201 3 = r88 := by rw [e134]; exact (hpw_fr (Or.inr (by omega))).trans hg132
              have hg136 : τ134 201 4 = r130 := by rw [e134]; exact (hpw_fr (Or.inr (by omega))).trans hg133
              have y151_3 : τ134 201 3 = τ131 201 3 := by rw [e134]; exact hpw_fr (Or.inr (by omega))
              have y151_4 : τ134 201 4 = τ131 201 4 := by rw [e134]; exact hpw_fr (Or.inr (by omega))
              refine h_aload_n C dX9_readNext_152 1 rfl rfl ?_
              refine h_get C O9 14 kd_195 (by decide) wd_1270 dX9_readNext_153 fr_195_14 ?_
              refine h_iload_n C dX9_readNext_156 0 rfl rfl ?_
              refine h_iconst C dX9_readNext_157 ?_
              refine h_iadd C dX9_readNext_158 rfl ?_
              refine h_aload_n C dX9_readNext_159 1 rfl rfl ?_
              refine h_ldcS (i := 15) C Z (by decide) rfl dX9_readNext_160 ?_
              refine h_iconst C dX9_readNext_162 ?_
              refine h_bipush C dX9_readNext_163 (by decide) ?_
              refine h_callV (As := [.ref (cy (1000 + 15)), .int (hpI 0), .int (hpI 15)]) (rest := [.int (hpI ((15 + (2 * r130)) + 1)), .ref (z + 201)]) C Z yyX9_toldBy wd_1470 (tgX9_toldBy l D cy z _ 15 (by decide) 0 ⟨by decide, by decide⟩ 15 ⟨by decide, by decide⟩ hI134 (by omega)) kd_195 rfl rfl ⟨rfl, rfl, Nat.le_of_ble_eq_true rfl, Nat.le_of_ble_eq_true rfl⟩ ⟨Nat.le_of_ble_eq_true rfl, Nat.le_of_ble_eq_true rfl⟩ (Nat.le_of_ble_eq_true rfl) dX9_readNext_165 (fun r137 τ137 hp137 => ?_)
              obtain ⟨⟨x137, rfl, ⟨hx137a, hx137b⟩, hx137⟩, hI137, hG137⟩ := hp137
              have hF137 : ∀ j i : Nat, (j ≠ 195 ∨ (i ≠ 8 ∧ i ≠ 9 ∧ i ≠ 10 ∧ i ≠ 11 ∧ i ≠ 12 ∧ i ≠ 13)) → (j ≠ 201 ∨ i = 6) → τ137 j i = σ j i := fun j i h_0 h_1 => (hG137 j i (by omega)).trans (hF134 j i h_0 h_1)
              have hg138 : τ137 201 3 = r88 := (hG137 201 3 (by omega)).trans hg135
              have hg139 : τ137 201 4 = r130 := (hG137 201 4 (by omega)).trans hg136
              show hpV _ _ _ _ _ _ _ _ _ _ _ _ _ _ _ _ _ _ _ _ _ (_ :: _)
              have y165_3 : τ137 201 3 = τ134 201 3 := hG137 201 3 (by omega)
              have y165_4 : τ137 201 4 = τ134 201 4 := hG137 201 4 (by omega)
              refine h_iastore C dX9_readNext_168 kd_201 ((15 + (2 * r130)) + 1).toNat (Int.toNat_of_nonneg (by omega)) (by rw [ln_201]; omega) ?_
              obtain ⟨τ140, e140⟩ : ∃ μ : hpMem, μ = hpw τ137 201 (((15 + (2 * r130)) + 1).toNat) x137 := ⟨_, rfl⟩
              rw [← e140]
              have hI140 : hpInv τ140 := by rw [e140]; exact hpInv.w201 hI137 (((15 + (2 * r130)) + 1).toNat) 16 28 (0) 20 (by omega) (by omega) (by decide) (by omega) (by omega)
              have hF140 : ∀ j i : Nat, (j ≠ 195 ∨ (i ≠ 8 ∧ i ≠ 9 ∧ i ≠ 10 ∧ i ≠ 11 ∧ i ≠ 12 ∧ i ≠ 13)) → (j ≠ 201 ∨ i = 6) → τ140 j i = σ j i := fun j i h_0 h_1 => by rw [e140]; exact (hpw_fr (by omega)).trans (hF137 j i h_0 h_1)
              have hg141 : τ140 201 3 = r88 := by rw [e140]; exact (hpw_fr (Or.inr (by omega))).trans hg138
              have hg142 : τ140 201 4 = r130 := by rw [e140]; exact (hpw_fr (Or.inr (by omega))).trans hg139
              have y168_3 : τ140 201 3 = τ137 201 3 := by rw [e140]; exact hpw_fr (Or.inr (by omega))
              have y168_4 : τ140 201 4 = τ137 201 4 := by rw [e140]; exact hpw_fr (Or.inr (by omega))
              refine h_aload_n C dX9_readNext_169 1 rfl rfl ?_
              refine h_get C O9 14 kd_195 (by decide) wd_1270 dX9_readNext_170 fr_195_14 ?_
              refine h_iconst C dX9_readNext_173 ?_
              refine h_dup2 C rfl rfl dX9_readNext_174 ?_
              refine h_iaload C dX9_readNext_175 kd_201 4 rfl (by rw [ln_201]; decide) rfl ?_
              rw [hg142]
              refine h_iconst C dX9_readNext_176 ?_
              refine h_iadd C dX9_readNext_177 rfl ?_
              refine h_iastore C dX9_readNext_178 kd_201 4 rfl (by rw [ln_201]; decide) ?_
              obtain ⟨τ143, e143⟩ : ∃ μ : hpMem, μ = hpw τ140 201 4 (r130 + 1) := ⟨_, rfl⟩
              rw [← e143]
              have hI143 : hpInv τ143 := by rw [e143]; exact hI140.w ((bw_201 4).trans (show hpwb 4 = (0, 6) by decide)) (by omega) (by omega)
              have hF143 : ∀ j i : Nat, (j ≠ 195 ∨ (i ≠ 8 ∧ i ≠ 9 ∧ i ≠ 10 ∧ i ≠ 11 ∧ i ≠ 12 ∧ i ≠ 13)) → (j ≠ 201 ∨ i = 6) → τ143 j i = σ j i := fun j i h_0 h_1 => by rw [e143]; exact (hpw_fr (by omega)).trans (hF140 j i h_0 h_1)
              have hg144 : τ143 201 3 = r88 := by rw [e143]; exact (hpw_fr (Or.inr (by decide))).trans hg141
              have hg145 : τ143 201 4 = r130 + 1 := by rw [e143]; exact hpw_eq
              have y178_3 : τ143 201 3 = τ140 201 3 := by rw [e143]; exact hpw_fr (Or.inr (by decide))
              refine h_return C hr hlk dX9_readNext_179 ?_
              exact ⟨rfl, hI143, hF143, by omega⟩
            · refine h_aload_n C dX9_readNext_85 0 rfl rfl ?_
              refine h_get C O9 14 kd_195 (by decide) wd_1270 dX9_readNext_86 fr_195_14 ?_
              refine h_bipush C dX9_readNext_89 (by decide) ?_
              refine h_aload_n C dX9_readNext_91 0 rfl rfl ?_
              refine h_get C O9 14 kd_195 (by decide) wd_1270 dX9_readNext_92 fr_195_14 ?_
              refine h_iconst C dX9_readNext_95 ?_
              refine h_iaload C dX9_readNext_96 kd_201 3 rfl (by rw [ln_201]; decide) rfl ?_
              rw [hg126]
              refine h_iadd C dX9_readNext_97 rfl ?_
              refine h_aload_n C dX9_readNext_98 0 rfl rfl ?_
              refine h_ldcS (i := 14) C Z (by decide) rfl dX9_readNext_99 ?_
              refine h_iconst C dX9_readNext_101 ?_
              refine h_bipush C dX9_readNext_102 (by decide) ?_
              refine h_callV (As := [.ref (cy (1000 + 14)), .int (hpI 1), .int (hpI 20)]) (rest := [.int (hpI (7 + r88)), .ref (z + 201)]) C Z yyX9_toldBy wd_1470 (tgX9_toldBy l D cy z _ 14 (by decide) 1 ⟨by decide, by decide⟩ 20 ⟨by decide, by decide⟩ hI125 (by omega)) kd_195 rfl rfl ⟨rfl, rfl, Nat.le_of_ble_eq_true rfl, Nat.le_of_ble_eq_true rfl⟩ ⟨Nat.le_of_ble_eq_true rfl, Nat.le_of_ble_eq_true rfl⟩ (Nat.le_of_ble_eq_true rfl) dX9_readNext_104 (fun r146 τ146 hp146 => ?_)
              obtain ⟨⟨x146, rfl, ⟨hx146a, hx146b⟩, hx146⟩, hI146, hG146⟩ := hp146
              have hF146 : ∀ j i : Nat, (j ≠ 195 ∨ (i ≠ 8 ∧ i ≠ 9 ∧ i ≠ 10 ∧ i ≠ 11 ∧ i ≠ 12 ∧ i ≠ 13)) → (j ≠ 201 ∨ i = 6) → τ146 j i = σ j i := fun j i h_0 h_1 => (hG146 j i (by omega)).trans (hF125 j i h_0 h_1)
              have hg147 : τ146 201 3 = r88 := (hG146 201 3 (by omega)).trans hg126
              show hpV _ _ _ _ _ _ _ _ _ _ _ _ _ _ _ _ _ _ _ _ _ (_ :: _)
              have y104_3 : τ146 201 3 = τ125 201 3 := hG146 201 3 (by omega)
              have y104_4 : τ146 201 4 = τ125 201 4 := hG146 201 4 (by omega)
              refine h_iastore C dX9_readNext_107 kd_201 (7 + r88).toNat (Int.toNat_of_nonneg (by omega)) (by rw [ln_201]; omega) ?_
              obtain ⟨τ148, e148⟩ : ∃ μ : hpMem, μ = hpw τ146 201 ((7 + r88).toNat) x146 := ⟨_, rfl⟩
              rw [← e148]
              have hI148 : hpInv τ148 := by rw [e148]; exact hpInv.w201 hI146 ((7 + r88).toNat) 7 14 (0) 20 (by omega) (by omega) (by decide) (by omega) (by omega)
              have hF148 : ∀ j i : Nat, (j ≠ 195 ∨ (i ≠ 8 ∧ i ≠ 9 ∧ i ≠ 10 ∧ i ≠ 11 ∧ i ≠ 12 ∧ i ≠ 13)) → (j ≠ 201 ∨ i = 6) → τ148 j i = σ j i := fun j i h_0 h_1 => by rw [e148]; exact (hpw_fr (by omega)).trans (hF146 j i h_0 h_1)
              have hg149 : τ148 201 3 = r88 := by rw [e148]; exact (hpw_fr (Or.inr (by omega))).trans hg147
              have y107_3 : τ148 201 3 = τ146 201 3 := by rw [e148]; exact hpw_fr (Or.inr (by omega))
              have y107_4 : τ148 201 4 = τ146 201 4 := by rw [e148]; exact hpw_fr (Or.inr (by omega))
              refine h_aload_n C dX9_readNext_108 0 rfl rfl ?_
              refine h_get C O9 14 kd_195 (by decide) wd_1270 dX9_readNext_109 fr_195_14 ?_
              refine h_iconst C dX9_readNext_112 ?_
              refine h_dup2 C rfl rfl dX9_readNext_113 ?_
              refine h_iaload C dX9_readNext_114 kd_201 3 rfl (by rw [ln_201]; decide) rfl ?_
              rw [hg149]
              refine h_iconst C dX9_readNext_115 ?_
              refine h_iadd C dX9_readNext_116 rfl ?_
              refine h_iastore C dX9_readNext_117 kd_201 3 rfl (by rw [ln_201]; decide) ?_
              obtain ⟨τ150, e150⟩ : ∃ μ : hpMem, μ = hpw τ148 201 3 (r88 + 1) := ⟨_, rfl⟩
              rw [← e150]
              have hI150 : hpInv τ150 := by rw [e150]; exact hI148.w ((bw_201 3).trans (show hpwb 3 = (0, 8) by decide)) (by omega) (by omega)
              have hF150 : ∀ j i : Nat, (j ≠ 195 ∨ (i ≠ 8 ∧ i ≠ 9 ∧ i ≠ 10 ∧ i ≠ 11 ∧ i ≠ 12 ∧ i ≠ 13)) → (j ≠ 201 ∨ i = 6) → τ150 j i = σ j i := fun j i h_0 h_1 => by rw [e150]; exact (hpw_fr (by omega)).trans (hF148 j i h_0 h_1)
              have hg151 : τ150 201 3 = r88 + 1 := by rw [e150]; exact hpw_eq
              have y117_4 : τ150 201 4 = τ148 201 4 := by rw [e150]; exact hpw_fr (Or.inr (by decide))
              refine h_goto (tgt := 179) C dX9_readNext_118 (by decide) ?_
              refine h_return C hr hlk dX9_readNext_179 ?_
              exact ⟨rfl, hI150, hF150, by omega⟩
          · refine h_return C hr hlk dX9_readNext_75 ?_
            exact ⟨rfl, hI, hF0, by omega⟩
        · refine h_aload_n C dX9_readNext_52 0 rfl rfl ?_
          refine h_get C O9 14 kd_195 (by decide) wd_1270 dX9_readNext_53 fr_195_14 ?_
          refine h_iconst C dX9_readNext_56 ?_
          refine h_iaload C dX9_readNext_57 kd_201 4 rfl (by rw [ln_201]; decide) rfl ?_
          obtain ⟨hr152a, hr152b⟩ := hI.b ((bw_201 4).trans (show hpwb 4 = (0, 6) by decide))
          generalize hg152 : σ 201 4 = r152 at hr152a hr152b ⊢
          refine h_bipush C dX9_readNext_58 (by decide) ?_
          refine h_icmp_ne (tgt := 68) C dX9_readNext_60 (by decide) ⟨by omega, by omega⟩ ⟨by decide, by decide⟩ (fun h153 => ?_) (fun h153 => ?_)
          · refine h_aload_n C dX9_readNext_68 0 rfl rfl ?_
            refine h_callV (As := []) (rest := []) C Z yyX9_good wd_1438 (tgX9_good l D cy z _ hI) kd_195 rfl rfl ⟨rfl, rfl, Nat.le_of_ble_eq_true rfl, Nat.le_of_ble_eq_true rfl⟩ ⟨Nat.le_of_ble_eq_true rfl, Nat.le_of_ble_eq_true rfl⟩ (Nat.le_of_ble_eq_true rfl) dX9_readNext_69 (fun r154 τ154 hp154 => ?_)
            obtain ⟨⟨x154, rfl, ⟨hx154a, hx154b⟩, hx154⟩, rfl⟩ := hp154
            show hpV _ _ _ _ _ _ _ _ _ _ _ _ _ _ _ _ _ _ _ _ _ (_ :: _)
            refine h_if_ne (tgt := 76) C dX9_readNext_72 (by decide) ⟨by omega, by omega⟩ (fun h155 => ?_) (fun h155 => ?_)
            · refine h_aload_n C dX9_readNext_76 0 rfl rfl ?_
              refine h_ldcS (i := 12) C Z (by decide) rfl dX9_readNext_77 ?_
              refine h_callV (As := [.ref (cy (1000 + 12))]) (rest := []) C Z yyX9_takes wd_1455 (tgX9_takes l D cy z _ 12 (by decide) hI) kd_195 rfl rfl ⟨rfl, rfl, Nat.le_of_ble_eq_true rfl, Nat.le_of_ble_eq_true rfl⟩ ⟨Nat.le_of_ble_eq_true rfl, Nat.le_of_ble_eq_true rfl⟩ (Nat.le_of_ble_eq_true rfl) dX9_readNext_79 (fun r156 τ156 hp156 => ?_)
              obtain ⟨⟨x156, rfl, ⟨hx156a, hx156b⟩, hx156⟩, hI156, hG156⟩ := hp156
              have hF156 : ∀ j i : Nat, (j ≠ 195 ∨ (i ≠ 8 ∧ i ≠ 9 ∧ i ≠ 10 ∧ i ≠ 11 ∧ i ≠ 12 ∧ i ≠ 13)) → (j ≠ 201 ∨ i = 6) → τ156 j i = σ j i := fun j i h_0 h_1 => (hG156 j i (by omega)).trans (hF0 j i h_0 h_1)
              have hg157 : τ156 201 3 = r88 := (hG156 201 3 (by omega)).trans hg88
              have hg158 : τ156 201 4 = r152 := (hG156 201 4 (by omega)).trans hg152
              show hpV _ _ _ _ _ _ _ _ _ _ _ _ _ _ _ _ _ _ _ _ _ (_ :: _)
              have y79_3 : τ156 201 3 = σ 201 3 := hG156 201 3 (by omega)
              have y79_4 : τ156 201 4 = σ 201 4 := hG156 201 4 (by omega)
              refine h_if_eq (tgt := 121) C dX9_readNext_82 (by decide) ⟨by omega, by omega⟩ (fun h159 => ?_) (fun h159 => ?_)
              · refine h_aload_n C dX9_readNext_121 0 rfl rfl ?_
                refine h_callV (As := []) (rest := []) C Z yyX9_advance wd_1424 (tgX9_advance l D cy z _ hI156) kd_195 rfl rfl ⟨rfl, rfl, Nat.le_of_ble_eq_true rfl, Nat.le_of_ble_eq_true rfl⟩ ⟨Nat.le_of_ble_eq_true rfl, Nat.le_of_ble_eq_true rfl⟩ (Nat.le_of_ble_eq_true rfl) dX9_readNext_122 (fun r160 τ160 hp160 => ?_)
                obtain ⟨rfl, hI160, hG160⟩ := hp160
                have hF160 : ∀ j i : Nat, (j ≠ 195 ∨ (i ≠ 8 ∧ i ≠ 9 ∧ i ≠ 10 ∧ i ≠ 11 ∧ i ≠ 12 ∧ i ≠ 13)) → (j ≠ 201 ∨ i = 6) → τ160 j i = σ j i := fun j i h_0 h_1 => (hG160 j i (by omega)).trans (hF156 j i h_0 h_1)
                have hg161 : τ160 201 3 = r88 := (hG160 201 3 (by omega)).trans hg157
                have hg162 : τ160 201 4 = r152 := (hG160 201 4 (by omega)).trans hg158
                show hpV _ _ _ _ _ _ _ _ _ _ _ _ _ _ _ _ _ _ _ _ _ []
                have y122_3 : τ160 201 3 = τ156 201 3 := hG160 201 3 (by omega)
                have y122_4 : τ160 201 4 = τ156 201 4 := hG160 201 4 (by omega)
                refine h_bipush C dX9_readNext_125 (by decide) ?_
                refine h_iconst C dX9_readNext_127 ?_
                refine h_aload_n C dX9_readNext_128 0 rfl rfl ?_
                refine h_get C O9 14 kd_195 (by decide) wd_1270 dX9_readNext_129 fr_195_14 ?_
                refine h_iconst C dX9_readNext_132 ?_
                refine h_iaload C dX9_readNext_133 kd_201 4 rfl (by rw [ln_201]; decide) rfl ?_
                rw [hg162]
                refine h_imul C dX9_readNext_134 rfl ?_
                refine h_iadd C dX9_readNext_135 rfl ?_
                refine h_istore_n (lv' := [(1, .int (hpI (15 + (2 * r152)))), (0, .ref (z + 195))]) C dX9_readNext_136 rfl (by decide) rfl ?_
                refine h_aload_n C dX9_readNext_137 1 rfl rfl ?_
                refine h_get C O9 14 kd_195 (by decide) wd_1270 dX9_readNext_138 fr_195_14 ?_
                refine h_iload_n C dX9_readNext_141 0 rfl rfl ?_
                refine h_aload_n C dX9_readNext_142 1 rfl rfl ?_
                refine h_ldcS (i := 14) C Z (by decide) rfl dX9_readNext_143 ?_
                refine h_iconst C dX9_readNext_145 ?_
                refine h_bipush C dX9_readNext_146 (by decide) ?_
                refine h_callV (As := [.ref (cy (1000 + 14)), .int (hpI 1), .int (hpI 20)]) (rest := [.int (hpI (15 + (2 * r152))), .ref (z + 201)]) C Z yyX9_toldBy wd_1470 (tgX9_toldBy l D cy z _ 14 (by decide) 1 ⟨by decide, by decide⟩ 20 ⟨by decide, by decide⟩ hI160 (by omega)) kd_195 rfl rfl ⟨rfl, rfl, Nat.le_of_ble_eq_true rfl, Nat.le_of_ble_eq_true rfl⟩ ⟨Nat.le_of_ble_eq_true rfl, Nat.le_of_ble_eq_true rfl⟩ (Nat.le_of_ble_eq_true rfl) dX9_readNext_148 (fun r163 τ163 hp163 => ?_)
                obtain ⟨⟨x163, rfl, ⟨hx163a, hx163b⟩, hx163⟩, hI163, hG163⟩ := hp163
                have hF163 : ∀ j i : Nat, (j ≠ 195 ∨ (i ≠ 8 ∧ i ≠ 9 ∧ i ≠ 10 ∧ i ≠ 11 ∧ i ≠ 12 ∧ i ≠ 13)) → (j ≠ 201 ∨ i = 6) → τ163 j i = σ j i := fun j i h_0 h_1 => (hG163 j i (by omega)).trans (hF160 j i h_0 h_1)
                have hg164 : τ163 201 3 = r88 := (hG163 201 3 (by omega)).trans hg161
                have hg165 : τ163 201 4 = r152 := (hG163 201 4 (by omega)).trans hg162
                show hpV _ _ _ _ _ _ _ _ _ _ _ _ _ _ _ _ _ _ _ _ _ (_ :: _)
                have y148_3 : τ163 201 3 = τ160 201 3 := hG163 201 3 (by omega)
                have y148_4 : τ163 201 4 = τ160 201 4 := hG163 201 4 (by omega)
                refine h_iastore C dX9_readNext_151 kd_201 (15 + (2 * r152)).toNat (Int.toNat_of_nonneg (by omega)) (by rw [ln_201]; omega) ?_
                obtain ⟨τ166, e166⟩ : ∃ μ : hpMem, μ = hpw τ163 201 ((15 + (2 * r152)).toNat) x163 := ⟨_, rfl⟩
                rw [← e166]
                have hI166 : hpInv τ166 := by rw [e166]; exact hpInv.w201 hI163 ((15 + (2 * r152)).toNat) 15 25 (0) 20 (by omega) (by omega) (by decide) (by omega) (by omega)
                have hF166 : ∀ j i : Nat, (j ≠ 195 ∨ (i ≠ 8 ∧ i ≠ 9 ∧ i ≠ 10 ∧ i ≠ 11 ∧ i ≠ 12 ∧ i ≠ 13)) → (j ≠ 201 ∨ i = 6) → τ166 j i = σ j i := fun j i h_0 h_1 => by rw [e166]; exact (hpw_fr (by omega)).trans (hF163 j i h_0 h_1)
                have hg167 : τ166 201 3 = r88 := by rw [e166]; exact (hpw_fr (Or.inr (by omega))).trans hg164
                have hg168 : τ166 201 4 = r152 := by rw [e166]; exact (hpw_fr (Or.inr (by omega))).trans hg165
                have y151_3 : τ166 201 3 = τ163 201 3 := by rw [e166]; exact hpw_fr (Or.inr (by omega))
                have y151_4 : τ166 201 4 = τ163 201 4 := by rw [e166]; exact hpw_fr (Or.inr (by omega))
                refine h_aload_n C dX9_readNext_152 1 rfl rfl ?_
                refine h_get C O9 14 kd_195 (by decide) wd_1270 dX9_readNext_153 fr_195_14 ?_
                refine h_iload_n C dX9_readNext_156 0 rfl rfl ?_
                refine h_iconst C dX9_readNext_157 ?_
                refine h_iadd C dX9_readNext_158 rfl ?_
                refine h_aload_n C dX9_readNext_159 1 rfl rfl ?_
                refine h_ldcS (i := 15) C Z (by decide) rfl dX9_readNext_160 ?_
                refine h_iconst C dX9_readNext_162 ?_
                refine h_bipush C dX9_readNext_163 (by decide) ?_
                refine h_callV (As := [.ref (cy (1000 + 15)), .int (hpI 0), .int (hpI 15)]) (rest := [.int (hpI ((15 + (2 * r152)) + 1)), .ref (z + 201)]) C Z yyX9_toldBy wd_1470 (tgX9_toldBy l D cy z _ 15 (by decide) 0 ⟨by decide, by decide⟩ 15 ⟨by decide, by decide⟩ hI166 (by omega)) kd_195 rfl rfl ⟨rfl, rfl, Nat.le_of_ble_eq_true rfl, Nat.le_of_ble_eq_true rfl⟩ ⟨Nat.le_of_ble_eq_true rfl, Nat.le_of_ble_eq_true rfl⟩ (Nat.le_of_ble_eq_true rfl) dX9_readNext_165 (fun r169 τ169 hp169 => ?_)
                obtain ⟨⟨x169, rfl, ⟨hx169a, hx169b⟩, hx169⟩, hI169, hG169⟩ := hp169
                have hF169 : ∀ j i : Nat, (j ≠ 195 ∨ (i ≠ 8 ∧ i ≠ 9 ∧ i ≠ 10 ∧ i ≠ 11 ∧ i ≠ 12 ∧ i ≠ 13)) → (j ≠ 201 ∨ i = 6) → τ169 j i = σ j i := fun j i h_0 h_1 => (hG169 j i (by omega)).trans (hF166 j i h_0 h_1)
                have hg170 : τ169 201 3 = r88 := (hG169 201 3 (by omega)).trans hg167
                have hg171 : τ169 201 4 = r152 := (hG169 201 4 (by omega)).trans hg168
                show hpV _ _ _ _ _ _ _ _ _ _ _ _ _ _ _ _ _ _ _ _ _ (_ :: _)
                have y165_3 : τ169 201 3 = τ166 201 3 := hG169 201 3 (by omega)
                have y165_4 : τ169 201 4 = τ166 201 4 := hG169 201 4 (by omega)
                refine h_iastore C dX9_readNext_168 kd_201 ((15 + (2 * r152)) + 1).toNat (Int.toNat_of_nonneg (by omega)) (by rw [ln_201]; omega) ?_
                obtain ⟨τ172, e172⟩ : ∃ μ : hpMem, μ = hpw τ169 201 (((15 + (2 * r152)) + 1).toNat) x169 := ⟨_, rfl⟩
                rw [← e172]
                have hI172 : hpInv τ172 := by rw [e172]; exact hpInv.w201 hI169 (((15 + (2 * r152)) + 1).toNat) 16 26 (0) 20 (by omega) (by omega) (by decide) (by omega) (by omega)
                have hF172 : ∀ j i : Nat, (j ≠ 195 ∨ (i ≠ 8 ∧ i ≠ 9 ∧ i ≠ 10 ∧ i ≠ 11 ∧ i ≠ 12 ∧ i ≠ 13)) → (j ≠ 201 ∨ i = 6) → τ172 j i = σ j i := fun j i h_0 h_1 => by rw [e172]; exact (hpw_fr (by omega)).trans (hF169 j i h_0 h_1)
                have hg173 : τ172 201 3 = r88 := by rw [e172]; exact (hpw_fr (Or.inr (by omega))).trans hg170
                have hg174 : τ172 201 4 = r152 := by rw [e172]; exact (hpw_fr (Or.inr (by omega))).trans hg171
                have y168_3 : τ172 201 3 = τ169 201 3 := by rw [e172]; exact hpw_fr (Or.inr (by omega))
                have y168_4 : τ172 201 4 = τ169 201 4 := by rw [e172]; exact hpw_fr (Or.inr (by omega))
                refine h_aload_n C dX9_readNext_169 1 rfl rfl ?_
                refine h_get C O9 14 kd_195 (by decide) wd_1270 dX9_readNext_170 fr_195_14 ?_
                refine h_iconst C dX9_readNext_173 ?_
                refine h_dup2 C rfl rfl dX9_readNext_174 ?_
                refine h_iaload C dX9_readNext_175 kd_201 4 rfl (by rw [ln_201]; decide) rfl ?_
                rw [hg174]
                refine h_iconst C dX9_readNext_176 ?_
                refine h_iadd C dX9_readNext_177 rfl ?_
                refine h_iastore C dX9_readNext_178 kd_201 4 rfl (by rw [ln_201]; decide) ?_
                obtain ⟨τ175, e175⟩ : ∃ μ : hpMem, μ = hpw τ172 201 4 (r152 + 1) := ⟨_, rfl⟩
                rw [← e175]
                have hI175 : hpInv τ175 := by rw [e175]; exact hI172.w ((bw_201 4).trans (show hpwb 4 = (0, 6) by decide)) (by omega) (by omega)
                have hF175 : ∀ j i : Nat, (j ≠ 195 ∨ (i ≠ 8 ∧ i ≠ 9 ∧ i ≠ 10 ∧ i ≠ 11 ∧ i ≠ 12 ∧ i ≠ 13)) → (j ≠ 201 ∨ i = 6) → τ175 j i = σ j i := fun j i h_0 h_1 => by rw [e175]; exact (hpw_fr (by omega)).trans (hF172 j i h_0 h_1)
                have hg176 : τ175 201 3 = r88 := by rw [e175]; exact (hpw_fr (Or.inr (by decide))).trans hg173
                have hg177 : τ175 201 4 = r152 + 1 := by rw [e175]; exact hpw_eq
                have y178_3 : τ175 201 3 = τ172 201 3 := by rw [e175]; exact hpw_fr (Or.inr (by decide))
                refine h_return C hr hlk dX9_readNext_179 ?_
                exact ⟨rfl, hI175, hF175, by omega⟩
              · refine h_aload_n C dX9_readNext_85 0 rfl rfl ?_
                refine h_get C O9 14 kd_195 (by decide) wd_1270 dX9_readNext_86 fr_195_14 ?_
                refine h_bipush C dX9_readNext_89 (by decide) ?_
                refine h_aload_n C dX9_readNext_91 0 rfl rfl ?_
                refine h_get C O9 14 kd_195 (by decide) wd_1270 dX9_readNext_92 fr_195_14 ?_
                refine h_iconst C dX9_readNext_95 ?_
                refine h_iaload C dX9_readNext_96 kd_201 3 rfl (by rw [ln_201]; decide) rfl ?_
                rw [hg157]
                refine h_iadd C dX9_readNext_97 rfl ?_
                refine h_aload_n C dX9_readNext_98 0 rfl rfl ?_
                refine h_ldcS (i := 14) C Z (by decide) rfl dX9_readNext_99 ?_
                refine h_iconst C dX9_readNext_101 ?_
                refine h_bipush C dX9_readNext_102 (by decide) ?_
                refine h_callV (As := [.ref (cy (1000 + 14)), .int (hpI 1), .int (hpI 20)]) (rest := [.int (hpI (7 + r88)), .ref (z + 201)]) C Z yyX9_toldBy wd_1470 (tgX9_toldBy l D cy z _ 14 (by decide) 1 ⟨by decide, by decide⟩ 20 ⟨by decide, by decide⟩ hI156 (by omega)) kd_195 rfl rfl ⟨rfl, rfl, Nat.le_of_ble_eq_true rfl, Nat.le_of_ble_eq_true rfl⟩ ⟨Nat.le_of_ble_eq_true rfl, Nat.le_of_ble_eq_true rfl⟩ (Nat.le_of_ble_eq_true rfl) dX9_readNext_104 (fun r178 τ178 hp178 => ?_)
                obtain ⟨⟨x178, rfl, ⟨hx178a, hx178b⟩, hx178⟩, hI178, hG178⟩ := hp178
                have hF178 : ∀ j i : Nat, (j ≠ 195 ∨ (i ≠ 8 ∧ i ≠ 9 ∧ i ≠ 10 ∧ i ≠ 11 ∧ i ≠ 12 ∧ i ≠ 13)) → (j ≠ 201 ∨ i = 6) → τ178 j i = σ j i := fun j i h_0 h_1 => (hG178 j i (by omega)).trans (hF156 j i h_0 h_1)
                have hg179 : τ178 201 3 = r88 := (hG178 201 3 (by omega)).trans hg157
                have hg180 : τ178 201 4 = r152 := (hG178 201 4 (by omega)).trans hg158
                show hpV _ _ _ _ _ _ _ _ _ _ _ _ _ _ _ _ _ _ _ _ _ (_ :: _)
                have y104_3 : τ178 201 3 = τ156 201 3 := hG178 201 3 (by omega)
                have y104_4 : τ178 201 4 = τ156 201 4 := hG178 201 4 (by omega)
                refine h_iastore C dX9_readNext_107 kd_201 (7 + r88).toNat (Int.toNat_of_nonneg (by omega)) (by rw [ln_201]; omega) ?_
                obtain ⟨τ181, e181⟩ : ∃ μ : hpMem, μ = hpw τ178 201 ((7 + r88).toNat) x178 := ⟨_, rfl⟩
                rw [← e181]
                have hI181 : hpInv τ181 := by rw [e181]; exact hpInv.w201 hI178 ((7 + r88).toNat) 7 14 (0) 20 (by omega) (by omega) (by decide) (by omega) (by omega)
                have hF181 : ∀ j i : Nat, (j ≠ 195 ∨ (i ≠ 8 ∧ i ≠ 9 ∧ i ≠ 10 ∧ i ≠ 11 ∧ i ≠ 12 ∧ i ≠ 13)) → (j ≠ 201 ∨ i = 6) → τ181 j i = σ j i := fun j i h_0 h_1 => by rw [e181]; exact (hpw_fr (by omega)).trans (hF178 j i h_0 h_1)
                have hg182 : τ181 201 3 = r88 := by rw [e181]; exact (hpw_fr (Or.inr (by omega))).trans hg179
                have hg183 : τ181 201 4 = r152 := by rw [e181]; exact (hpw_fr (Or.inr (by omega))).trans hg180
                have y107_3 : τ181 201 3 = τ178 201 3 := by rw [e181]; exact hpw_fr (Or.inr (by omega))
                have y107_4 : τ181 201 4 = τ178 201 4 := by rw [e181]; exact hpw_fr (Or.inr (by omega))
                refine h_aload_n C dX9_readNext_108 0 rfl rfl ?_
                refine h_get C O9 14 kd_195 (by decide) wd_1270 dX9_readNext_109 fr_195_14 ?_
                refine h_iconst C dX9_readNext_112 ?_
                refine h_dup2 C rfl rfl dX9_readNext_113 ?_
                refine h_iaload C dX9_readNext_114 kd_201 3 rfl (by rw [ln_201]; decide) rfl ?_
                rw [hg182]
                refine h_iconst C dX9_readNext_115 ?_
                refine h_iadd C dX9_readNext_116 rfl ?_
                refine h_iastore C dX9_readNext_117 kd_201 3 rfl (by rw [ln_201]; decide) ?_
                obtain ⟨τ184, e184⟩ : ∃ μ : hpMem, μ = hpw τ181 201 3 (r88 + 1) := ⟨_, rfl⟩
                rw [← e184]
                have hI184 : hpInv τ184 := by rw [e184]; exact hI181.w ((bw_201 3).trans (show hpwb 3 = (0, 8) by decide)) (by omega) (by omega)
                have hF184 : ∀ j i : Nat, (j ≠ 195 ∨ (i ≠ 8 ∧ i ≠ 9 ∧ i ≠ 10 ∧ i ≠ 11 ∧ i ≠ 12 ∧ i ≠ 13)) → (j ≠ 201 ∨ i = 6) → τ184 j i = σ j i := fun j i h_0 h_1 => by rw [e184]; exact (hpw_fr (by omega)).trans (hF181 j i h_0 h_1)
                have hg185 : τ184 201 4 = r152 := by rw [e184]; exact (hpw_fr (Or.inr (by decide))).trans hg183
                have hg186 : τ184 201 3 = r88 + 1 := by rw [e184]; exact hpw_eq
                have y117_4 : τ184 201 4 = τ181 201 4 := by rw [e184]; exact hpw_fr (Or.inr (by decide))
                refine h_goto (tgt := 179) C dX9_readNext_118 (by decide) ?_
                refine h_return C hr hlk dX9_readNext_179 ?_
                exact ⟨rfl, hI184, hF184, by omega⟩
            · refine h_return C hr hlk dX9_readNext_75 ?_
              exact ⟨rfl, hI, hF0, by omega⟩
          · refine h_aload_n C dX9_readNext_63 0 rfl rfl ?_
            refine h_iconst C dX9_readNext_64 ?_
            refine h_callV (As := [.int (hpI 3)]) (rest := []) C Z yyX9_errs wd_1465 (tgX9_errs l D cy z _ 3 ⟨by decide, by decide⟩ hI (by omega)) kd_195 rfl rfl ⟨rfl, rfl, Nat.le_of_ble_eq_true rfl, Nat.le_of_ble_eq_true rfl⟩ ⟨Nat.le_of_ble_eq_true rfl, Nat.le_of_ble_eq_true rfl⟩ (Nat.le_of_ble_eq_true rfl) dX9_readNext_65 (fun r187 τ187 hp187 => ?_)
            obtain ⟨rfl, hI187, hG187, hq187_0⟩ := hp187
            have hF187 : ∀ j i : Nat, (j ≠ 195 ∨ (i ≠ 8 ∧ i ≠ 9 ∧ i ≠ 10 ∧ i ≠ 11 ∧ i ≠ 12 ∧ i ≠ 13)) → (j ≠ 201 ∨ i = 6) → τ187 j i = σ j i := fun j i h_0 h_1 => (hG187 j i (by omega)).trans (hF0 j i h_0 h_1)
            have hg188 : τ187 201 3 = r88 := (hG187 201 3 (by omega)).trans hg88
            have hg189 : τ187 201 4 = r152 := (hG187 201 4 (by omega)).trans hg152
            show hpV _ _ _ _ _ _ _ _ _ _ _ _ _ _ _ _ _ _ _ _ _ []
            refine h_aload_n C dX9_readNext_68 0 rfl rfl ?_
            refine h_callV (As := []) (rest := []) C Z yyX9_good wd_1438 (tgX9_good l D cy z _ hI187) kd_195 rfl rfl ⟨rfl, rfl, Nat.le_of_ble_eq_true rfl, Nat.le_of_ble_eq_true rfl⟩ ⟨Nat.le_of_ble_eq_true rfl, Nat.le_of_ble_eq_true rfl⟩ (Nat.le_of_ble_eq_true rfl) dX9_readNext_69 (fun r190 τ190 hp190 => ?_)
            obtain ⟨⟨x190, rfl, ⟨hx190a, hx190b⟩, hx190⟩, rfl⟩ := hp190
            show hpV _ _ _ _ _ _ _ _ _ _ _ _ _ _ _ _ _ _ _ _ _ (_ :: _)
            refine h_if_ne (tgt := 76) C dX9_readNext_72 (by decide) ⟨by omega, by omega⟩ (fun h191 => ?_) (fun h191 => ?_)
            · refine h_aload_n C dX9_readNext_76 0 rfl rfl ?_
              refine h_ldcS (i := 12) C Z (by decide) rfl dX9_readNext_77 ?_
              refine h_callV (As := [.ref (cy (1000 + 12))]) (rest := []) C Z yyX9_takes wd_1455 (tgX9_takes l D cy z _ 12 (by decide) hI187) kd_195 rfl rfl ⟨rfl, rfl, Nat.le_of_ble_eq_true rfl, Nat.le_of_ble_eq_true rfl⟩ ⟨Nat.le_of_ble_eq_true rfl, Nat.le_of_ble_eq_true rfl⟩ (Nat.le_of_ble_eq_true rfl) dX9_readNext_79 (fun r192 τ192 hp192 => ?_)
              obtain ⟨⟨x192, rfl, ⟨hx192a, hx192b⟩, hx192⟩, hI192, hG192⟩ := hp192
              have hF192 : ∀ j i : Nat, (j ≠ 195 ∨ (i ≠ 8 ∧ i ≠ 9 ∧ i ≠ 10 ∧ i ≠ 11 ∧ i ≠ 12 ∧ i ≠ 13)) → (j ≠ 201 ∨ i = 6) → τ192 j i = σ j i := fun j i h_0 h_1 => (hG192 j i (by omega)).trans (hF187 j i h_0 h_1)
              have hg193 : τ192 201 3 = r88 := (hG192 201 3 (by omega)).trans hg188
              have hg194 : τ192 201 4 = r152 := (hG192 201 4 (by omega)).trans hg189
              show hpV _ _ _ _ _ _ _ _ _ _ _ _ _ _ _ _ _ _ _ _ _ (_ :: _)
              have y79_3 : τ192 201 3 = τ187 201 3 := hG192 201 3 (by omega)
              have y79_4 : τ192 201 4 = τ187 201 4 := hG192 201 4 (by omega)
              refine h_if_eq (tgt := 121) C dX9_readNext_82 (by decide) ⟨by omega, by omega⟩ (fun h195 => ?_) (fun h195 => ?_)
              · refine h_aload_n C dX9_readNext_121 0 rfl rfl ?_
                refine h_callV (As := []) (rest := []) C Z yyX9_advance wd_1424 (tgX9_advance l D cy z _ hI192) kd_195 rfl rfl ⟨rfl, rfl, Nat.le_of_ble_eq_true rfl, Nat.le_of_ble_eq_true rfl⟩ ⟨Nat.le_of_ble_eq_true rfl, Nat.le_of_ble_eq_true rfl⟩ (Nat.le_of_ble_eq_true rfl) dX9_readNext_122 (fun r196 τ196 hp196 => ?_)
                obtain ⟨rfl, hI196, hG196⟩ := hp196
                have hF196 : ∀ j i : Nat, (j ≠ 195 ∨ (i ≠ 8 ∧ i ≠ 9 ∧ i ≠ 10 ∧ i ≠ 11 ∧ i ≠ 12 ∧ i ≠ 13)) → (j ≠ 201 ∨ i = 6) → τ196 j i = σ j i := fun j i h_0 h_1 => (hG196 j i (by omega)).trans (hF192 j i h_0 h_1)
                have hg197 : τ196 201 3 = r88 := (hG196 201 3 (by omega)).trans hg193
                have hg198 : τ196 201 4 = r152 := (hG196 201 4 (by omega)).trans hg194
                show hpV _ _ _ _ _ _ _ _ _ _ _ _ _ _ _ _ _ _ _ _ _ []
                have y122_3 : τ196 201 3 = τ192 201 3 := hG196 201 3 (by omega)
                have y122_4 : τ196 201 4 = τ192 201 4 := hG196 201 4 (by omega)
                refine h_bipush C dX9_readNext_125 (by decide) ?_
                refine h_iconst C dX9_readNext_127 ?_
                refine h_aload_n C dX9_readNext_128 0 rfl rfl ?_
                refine h_get C O9 14 kd_195 (by decide) wd_1270 dX9_readNext_129 fr_195_14 ?_
                refine h_iconst C dX9_readNext_132 ?_
                refine h_iaload C dX9_readNext_133 kd_201 4 rfl (by rw [ln_201]; decide) rfl ?_
                rw [hg198]
                refine h_imul C dX9_readNext_134 rfl ?_
                refine h_iadd C dX9_readNext_135 rfl ?_
                refine h_istore_n (lv' := [(1, .int (hpI (15 + (2 * r152)))), (0, .ref (z + 195))]) C dX9_readNext_136 rfl (by decide) rfl ?_
                refine h_aload_n C dX9_readNext_137 1 rfl rfl ?_
                refine h_get C O9 14 kd_195 (by decide) wd_1270 dX9_readNext_138 fr_195_14 ?_
                refine h_iload_n C dX9_readNext_141 0 rfl rfl ?_
                refine h_aload_n C dX9_readNext_142 1 rfl rfl ?_
                refine h_ldcS (i := 14) C Z (by decide) rfl dX9_readNext_143 ?_
                refine h_iconst C dX9_readNext_145 ?_
                refine h_bipush C dX9_readNext_146 (by decide) ?_
                refine h_callV (As := [.ref (cy (1000 + 14)), .int (hpI 1), .int (hpI 20)]) (rest := [.int (hpI (15 + (2 * r152))), .ref (z + 201)]) C Z yyX9_toldBy wd_1470 (tgX9_toldBy l D cy z _ 14 (by decide) 1 ⟨by decide, by decide⟩ 20 ⟨by decide, by decide⟩ hI196 (by omega)) kd_195 rfl rfl ⟨rfl, rfl, Nat.le_of_ble_eq_true rfl, Nat.le_of_ble_eq_true rfl⟩ ⟨Nat.le_of_ble_eq_true rfl, Nat.le_of_ble_eq_true rfl⟩ (Nat.le_of_ble_eq_true rfl) dX9_readNext_148 (fun r199 τ199 hp199 => ?_)
                obtain ⟨⟨x199, rfl, ⟨hx199a, hx199b⟩, hx199⟩, hI199, hG199⟩ := hp199
                have hF199 : ∀ j i : Nat, (j ≠ 195 ∨ (i ≠ 8 ∧ i ≠ 9 ∧ i ≠ 10 ∧ i ≠ 11 ∧ i ≠ 12 ∧ i ≠ 13)) → (j ≠ 201 ∨ i = 6) → τ199 j i = σ j i := fun j i h_0 h_1 => (hG199 j i (by omega)).trans (hF196 j i h_0 h_1)
                have hg200 : τ199 201 3 = r88 := (hG199 201 3 (by omega)).trans hg197
                have hg201 : τ199 201 4 = r152 := (hG199 201 4 (by omega)).trans hg198
                show hpV _ _ _ _ _ _ _ _ _ _ _ _ _ _ _ _ _ _ _ _ _ (_ :: _)
                have y148_3 : τ199 201 3 = τ196 201 3 := hG199 201 3 (by omega)
                have y148_4 : τ199 201 4 = τ196 201 4 := hG199 201 4 (by omega)
                refine h_iastore C dX9_readNext_151 kd_201 (15 + (2 * r152)).toNat (Int.toNat_of_nonneg (by omega)) (by rw [ln_201]; omega) ?_
                obtain ⟨τ202, e202⟩ : ∃ μ : hpMem, μ = hpw τ199 201 ((15 + (2 * r152)).toNat) x199 := ⟨_, rfl⟩
                rw [← e202]
                have hI202 : hpInv τ202 := by rw [e202]; exact hpInv.w201 hI199 ((15 + (2 * r152)).toNat) 27 27 (0) 2016 (by omega) (by omega) (by decide) (by omega) (by omega)
                have hF202 : ∀ j i : Nat, (j ≠ 195 ∨ (i ≠ 8 ∧ i ≠ 9 ∧ i ≠ 10 ∧ i ≠ 11 ∧ i ≠ 12 ∧ i ≠ 13)) → (j ≠ 201 ∨ i = 6) → τ202 j i = σ j i := fun j i h_0 h_1 => by rw [e202]; exact (hpw_fr (by omega)).trans (hF199 j i h_0 h_1)
                have hg203 : τ202 201 3 = r88 := by rw [e202]; exact (hpw_fr (Or.inr (by omega))).trans hg200
                have hg204 : τ202 201 4 = r152 := by rw [e202]; exact (hpw_fr (Or.inr (by omega))).trans hg201
                have y151_3 : τ202 201 3 = τ199 201 3 := by rw [e202]; exact hpw_fr (Or.inr (by omega))
                have y151_4 : τ202 201 4 = τ199 201 4 := by rw [e202]; exact hpw_fr (Or.inr (by omega))
                refine h_aload_n C dX9_readNext_152 1 rfl rfl ?_
                refine h_get C O9 14 kd_195 (by decide) wd_1270 dX9_readNext_153 fr_195_14 ?_
                refine h_iload_n C dX9_readNext_156 0 rfl rfl ?_
                refine h_iconst C dX9_readNext_157 ?_
                refine h_iadd C dX9_readNext_158 rfl ?_
                refine h_aload_n C dX9_readNext_159 1 rfl rfl ?_
                refine h_ldcS (i := 15) C Z (by decide) rfl dX9_readNext_160 ?_
                refine h_iconst C dX9_readNext_162 ?_
                refine h_bipush C dX9_readNext_163 (by decide) ?_
                refine h_callV (As := [.ref (cy (1000 + 15)), .int (hpI 0), .int (hpI 15)]) (rest := [.int (hpI ((15 + (2 * r152)) + 1)), .ref (z + 201)]) C Z yyX9_toldBy wd_1470 (tgX9_toldBy l D cy z _ 15 (by decide) 0 ⟨by decide, by decide⟩ 15 ⟨by decide, by decide⟩ hI202 (by omega)) kd_195 rfl rfl ⟨rfl, rfl, Nat.le_of_ble_eq_true rfl, Nat.le_of_ble_eq_true rfl⟩ ⟨Nat.le_of_ble_eq_true rfl, Nat.le_of_ble_eq_true rfl⟩ (Nat.le_of_ble_eq_true rfl) dX9_readNext_165 (fun r205 τ205 hp205 => ?_)
                obtain ⟨⟨x205, rfl, ⟨hx205a, hx205b⟩, hx205⟩, hI205, hG205⟩ := hp205
                have hF205 : ∀ j i : Nat, (j ≠ 195 ∨ (i ≠ 8 ∧ i ≠ 9 ∧ i ≠ 10 ∧ i ≠ 11 ∧ i ≠ 12 ∧ i ≠ 13)) → (j ≠ 201 ∨ i = 6) → τ205 j i = σ j i := fun j i h_0 h_1 => (hG205 j i (by omega)).trans (hF202 j i h_0 h_1)
                have hg206 : τ205 201 3 = r88 := (hG205 201 3 (by omega)).trans hg203
                have hg207 : τ205 201 4 = r152 := (hG205 201 4 (by omega)).trans hg204
                show hpV _ _ _ _ _ _ _ _ _ _ _ _ _ _ _ _ _ _ _ _ _ (_ :: _)
                have y165_3 : τ205 201 3 = τ202 201 3 := hG205 201 3 (by omega)
                have y165_4 : τ205 201 4 = τ202 201 4 := hG205 201 4 (by omega)
                refine h_iastore C dX9_readNext_168 kd_201 ((15 + (2 * r152)) + 1).toNat (Int.toNat_of_nonneg (by omega)) (by rw [ln_201]; omega) ?_
                obtain ⟨τ208, e208⟩ : ∃ μ : hpMem, μ = hpw τ205 201 (((15 + (2 * r152)) + 1).toNat) x205 := ⟨_, rfl⟩
                rw [← e208]
                have hI208 : hpInv τ208 := by rw [e208]; exact hpInv.w201 hI205 (((15 + (2 * r152)) + 1).toNat) 28 28 (0) 2016 (by omega) (by omega) (by decide) (by omega) (by omega)
                have hF208 : ∀ j i : Nat, (j ≠ 195 ∨ (i ≠ 8 ∧ i ≠ 9 ∧ i ≠ 10 ∧ i ≠ 11 ∧ i ≠ 12 ∧ i ≠ 13)) → (j ≠ 201 ∨ i = 6) → τ208 j i = σ j i := fun j i h_0 h_1 => by rw [e208]; exact (hpw_fr (by omega)).trans (hF205 j i h_0 h_1)
                have hg209 : τ208 201 3 = r88 := by rw [e208]; exact (hpw_fr (Or.inr (by omega))).trans hg206
                have hg210 : τ208 201 4 = r152 := by rw [e208]; exact (hpw_fr (Or.inr (by omega))).trans hg207
                have y168_3 : τ208 201 3 = τ205 201 3 := by rw [e208]; exact hpw_fr (Or.inr (by omega))
                have y168_4 : τ208 201 4 = τ205 201 4 := by rw [e208]; exact hpw_fr (Or.inr (by omega))
                refine h_aload_n C dX9_readNext_169 1 rfl rfl ?_
                refine h_get C O9 14 kd_195 (by decide) wd_1270 dX9_readNext_170 fr_195_14 ?_
                refine h_iconst C dX9_readNext_173 ?_
                refine h_dup2 C rfl rfl dX9_readNext_174 ?_
                refine h_iaload C dX9_readNext_175 kd_201 4 rfl (by rw [ln_201]; decide) rfl ?_
                rw [hg210]
                refine h_iconst C dX9_readNext_176 ?_
                refine h_iadd C dX9_readNext_177 rfl ?_
                refine h_iastore C dX9_readNext_178 kd_201 4 rfl (by rw [ln_201]; decide) ?_
                obtain ⟨τ211, e211⟩ : ∃ μ : hpMem, μ = hpw τ208 201 4 (r152 + 1) := ⟨_, rfl⟩
                rw [← e211]
                have hI211 : hpInv τ211 := by rw [e211]; exact hI208.w ((bw_201 4).trans (show hpwb 4 = (0, 6) by decide)) (by omega) (by omega)
                have hF211 : ∀ j i : Nat, (j ≠ 195 ∨ (i ≠ 8 ∧ i ≠ 9 ∧ i ≠ 10 ∧ i ≠ 11 ∧ i ≠ 12 ∧ i ≠ 13)) → (j ≠ 201 ∨ i = 6) → τ211 j i = σ j i := fun j i h_0 h_1 => by rw [e211]; exact (hpw_fr (by omega)).trans (hF208 j i h_0 h_1)
                have hg212 : τ211 201 3 = r88 := by rw [e211]; exact (hpw_fr (Or.inr (by decide))).trans hg209
                have hg213 : τ211 201 4 = r152 + 1 := by rw [e211]; exact hpw_eq
                have y178_3 : τ211 201 3 = τ208 201 3 := by rw [e211]; exact hpw_fr (Or.inr (by decide))
                refine h_return C hr hlk dX9_readNext_179 ?_
                exact ⟨rfl, hI211, hF211, by omega⟩
              · refine h_aload_n C dX9_readNext_85 0 rfl rfl ?_
                refine h_get C O9 14 kd_195 (by decide) wd_1270 dX9_readNext_86 fr_195_14 ?_
                refine h_bipush C dX9_readNext_89 (by decide) ?_
                refine h_aload_n C dX9_readNext_91 0 rfl rfl ?_
                refine h_get C O9 14 kd_195 (by decide) wd_1270 dX9_readNext_92 fr_195_14 ?_
                refine h_iconst C dX9_readNext_95 ?_
                refine h_iaload C dX9_readNext_96 kd_201 3 rfl (by rw [ln_201]; decide) rfl ?_
                rw [hg193]
                refine h_iadd C dX9_readNext_97 rfl ?_
                refine h_aload_n C dX9_readNext_98 0 rfl rfl ?_
                refine h_ldcS (i := 14) C Z (by decide) rfl dX9_readNext_99 ?_
                refine h_iconst C dX9_readNext_101 ?_
                refine h_bipush C dX9_readNext_102 (by decide) ?_
                refine h_callV (As := [.ref (cy (1000 + 14)), .int (hpI 1), .int (hpI 20)]) (rest := [.int (hpI (7 + r88)), .ref (z + 201)]) C Z yyX9_toldBy wd_1470 (tgX9_toldBy l D cy z _ 14 (by decide) 1 ⟨by decide, by decide⟩ 20 ⟨by decide, by decide⟩ hI192 (by omega)) kd_195 rfl rfl ⟨rfl, rfl, Nat.le_of_ble_eq_true rfl, Nat.le_of_ble_eq_true rfl⟩ ⟨Nat.le_of_ble_eq_true rfl, Nat.le_of_ble_eq_true rfl⟩ (Nat.le_of_ble_eq_true rfl) dX9_readNext_104 (fun r214 τ214 hp214 => ?_)
                obtain ⟨⟨x214, rfl, ⟨hx214a, hx214b⟩, hx214⟩, hI214, hG214⟩ := hp214
                have hF214 : ∀ j i : Nat, (j ≠ 195 ∨ (i ≠ 8 ∧ i ≠ 9 ∧ i ≠ 10 ∧ i ≠ 11 ∧ i ≠ 12 ∧ i ≠ 13)) → (j ≠ 201 ∨ i = 6) → τ214 j i = σ j i := fun j i h_0 h_1 => (hG214 j i (by omega)).trans (hF192 j i h_0 h_1)
                have hg215 : τ214 201 3 = r88 := (hG214 201 3 (by omega)).trans hg193
                have hg216 : τ214 201 4 = r152 := (hG214 201 4 (by omega)).trans hg194
                show hpV _ _ _ _ _ _ _ _ _ _ _ _ _ _ _ _ _ _ _ _ _ (_ :: _)
                have y104_3 : τ214 201 3 = τ192 201 3 := hG214 201 3 (by omega)
                have y104_4 : τ214 201 4 = τ192 201 4 := hG214 201 4 (by omega)
                refine h_iastore C dX9_readNext_107 kd_201 (7 + r88).toNat (Int.toNat_of_nonneg (by omega)) (by rw [ln_201]; omega) ?_
                obtain ⟨τ217, e217⟩ : ∃ μ : hpMem, μ = hpw τ214 201 ((7 + r88).toNat) x214 := ⟨_, rfl⟩
                rw [← e217]
                have hI217 : hpInv τ217 := by rw [e217]; exact hpInv.w201 hI214 ((7 + r88).toNat) 7 14 (0) 20 (by omega) (by omega) (by decide) (by omega) (by omega)
                have hF217 : ∀ j i : Nat, (j ≠ 195 ∨ (i ≠ 8 ∧ i ≠ 9 ∧ i ≠ 10 ∧ i ≠ 11 ∧ i ≠ 12 ∧ i ≠ 13)) → (j ≠ 201 ∨ i = 6) → τ217 j i = σ j i := fun j i h_0 h_1 => by rw [e217]; exact (hpw_fr (by omega)).trans (hF214 j i h_0 h_1)
                have hg218 : τ217 201 3 = r88 := by rw [e217]; exact (hpw_fr (Or.inr (by omega))).trans hg215
                have hg219 : τ217 201 4 = r152 := by rw [e217]; exact (hpw_fr (Or.inr (by omega))).trans hg216
                have y107_3 : τ217 201 3 = τ214 201 3 := by rw [e217]; exact hpw_fr (Or.inr (by omega))
                have y107_4 : τ217 201 4 = τ214 201 4 := by rw [e217]; exact hpw_fr (Or.inr (by omega))
                refine h_aload_n C dX9_readNext_108 0 rfl rfl ?_
                refine h_get C O9 14 kd_195 (by decide) wd_1270 dX9_readNext_109 fr_195_14 ?_
                refine h_iconst C dX9_readNext_112 ?_
                refine h_dup2 C rfl rfl dX9_readNext_113 ?_
                refine h_iaload C dX9_readNext_114 kd_201 3 rfl (by rw [ln_201]; decide) rfl ?_
                rw [hg218]
                refine h_iconst C dX9_readNext_115 ?_
                refine h_iadd C dX9_readNext_116 rfl ?_
                refine h_iastore C dX9_readNext_117 kd_201 3 rfl (by rw [ln_201]; decide) ?_
                obtain ⟨τ220, e220⟩ : ∃ μ : hpMem, μ = hpw τ217 201 3 (r88 + 1) := ⟨_, rfl⟩
                rw [← e220]
                have hI220 : hpInv τ220 := by rw [e220]; exact hI217.w ((bw_201 3).trans (show hpwb 3 = (0, 8) by decide)) (by omega) (by omega)
                have hF220 : ∀ j i : Nat, (j ≠ 195 ∨ (i ≠ 8 ∧ i ≠ 9 ∧ i ≠ 10 ∧ i ≠ 11 ∧ i ≠ 12 ∧ i ≠ 13)) → (j ≠ 201 ∨ i = 6) → τ220 j i = σ j i := fun j i h_0 h_1 => by rw [e220]; exact (hpw_fr (by omega)).trans (hF217 j i h_0 h_1)
                have hg221 : τ220 201 4 = r152 := by rw [e220]; exact (hpw_fr (Or.inr (by decide))).trans hg219
                have hg222 : τ220 201 3 = r88 + 1 := by rw [e220]; exact hpw_eq
                have y117_4 : τ220 201 4 = τ217 201 4 := by rw [e220]; exact hpw_fr (Or.inr (by decide))
                refine h_goto (tgt := 179) C dX9_readNext_118 (by decide) ?_
                refine h_return C hr hlk dX9_readNext_179 ?_
                exact ⟨rfl, hI220, hF220, by omega⟩
            · refine h_return C hr hlk dX9_readNext_75 ?_
              exact ⟨rfl, hI187, hF187, by omega⟩
  · refine h_aload_n C dX9_readNext_9 0 rfl rfl ?_
    refine h_ldcS (i := 13) C Z (by decide) rfl dX9_readNext_10 ?_
    refine h_callV (As := [.ref (cy (1000 + 13))]) (rest := []) C Z yyX9_is wd_1459 (tgX9_is l D cy z _ 13 (by decide) hI) kd_195 rfl rfl ⟨rfl, rfl, Nat.le_of_ble_eq_true rfl, Nat.le_of_ble_eq_true rfl⟩ ⟨Nat.le_of_ble_eq_true rfl, Nat.le_of_ble_eq_true rfl⟩ (Nat.le_of_ble_eq_true rfl) dX9_readNext_12 (fun r223 τ223 hp223 => ?_)
    obtain ⟨⟨x223, rfl, ⟨hx223a, hx223b⟩, hx223⟩, rfl⟩ := hp223
    show hpV _ _ _ _ _ _ _ _ _ _ _ _ _ _ _ _ _ _ _ _ _ (_ :: _)
    refine h_if_ne (tgt := 23) C dX9_readNext_15 (by decide) ⟨by omega, by omega⟩ (fun h224 => ?_) (fun h224 => ?_)
    · refine h_aload_n C dX9_readNext_23 0 rfl rfl ?_
      refine h_ldcS (i := 12) C Z (by decide) rfl dX9_readNext_24 ?_
      refine h_callV (As := [.ref (cy (1000 + 12))]) (rest := []) C Z yyX9_is wd_1459 (tgX9_is l D cy z _ 12 (by decide) hI) kd_195 rfl rfl ⟨rfl, rfl, Nat.le_of_ble_eq_true rfl, Nat.le_of_ble_eq_true rfl⟩ ⟨Nat.le_of_ble_eq_true rfl, Nat.le_of_ble_eq_true rfl⟩ (Nat.le_of_ble_eq_true rfl) dX9_readNext_26 (fun r225 τ225 hp225 => ?_)
      obtain ⟨⟨x225, rfl, ⟨hx225a, hx225b⟩, hx225⟩, rfl⟩ := hp225
      show hpV _ _ _ _ _ _ _ _ _ _ _ _ _ _ _ _ _ _ _ _ _ (_ :: _)
      refine h_if_eq (tgt := 43) C dX9_readNext_29 (by decide) ⟨by omega, by omega⟩ (fun h226 => ?_) (fun h226 => ?_)
      · refine h_aload_n C dX9_readNext_43 0 rfl rfl ?_
        refine h_ldcS (i := 13) C Z (by decide) rfl dX9_readNext_44 ?_
        refine h_callV (As := [.ref (cy (1000 + 13))]) (rest := []) C Z yyX9_is wd_1459 (tgX9_is l D cy z _ 13 (by decide) hI) kd_195 rfl rfl ⟨rfl, rfl, Nat.le_of_ble_eq_true rfl, Nat.le_of_ble_eq_true rfl⟩ ⟨Nat.le_of_ble_eq_true rfl, Nat.le_of_ble_eq_true rfl⟩ (Nat.le_of_ble_eq_true rfl) dX9_readNext_46 (fun r227 τ227 hp227 => ?_)
        obtain ⟨⟨x227, rfl, ⟨hx227a, hx227b⟩, hx227⟩, rfl⟩ := hp227
        show hpV _ _ _ _ _ _ _ _ _ _ _ _ _ _ _ _ _ _ _ _ _ (_ :: _)
        refine h_if_eq (tgt := 68) C dX9_readNext_49 (by decide) ⟨by omega, by omega⟩ (fun h228 => ?_) (fun h228 => ?_)
        · refine h_aload_n C dX9_readNext_68 0 rfl rfl ?_
          refine h_callV (As := []) (rest := []) C Z yyX9_good wd_1438 (tgX9_good l D cy z _ hI) kd_195 rfl rfl ⟨rfl, rfl, Nat.le_of_ble_eq_true rfl, Nat.le_of_ble_eq_true rfl⟩ ⟨Nat.le_of_ble_eq_true rfl, Nat.le_of_ble_eq_true rfl⟩ (Nat.le_of_ble_eq_true rfl) dX9_readNext_69 (fun r229 τ229 hp229 => ?_)
          obtain ⟨⟨x229, rfl, ⟨hx229a, hx229b⟩, hx229⟩, rfl⟩ := hp229
          show hpV _ _ _ _ _ _ _ _ _ _ _ _ _ _ _ _ _ _ _ _ _ (_ :: _)
          refine h_if_ne (tgt := 76) C dX9_readNext_72 (by decide) ⟨by omega, by omega⟩ (fun h230 => ?_) (fun h230 => ?_)
          · refine h_aload_n C dX9_readNext_76 0 rfl rfl ?_
            refine h_ldcS (i := 12) C Z (by decide) rfl dX9_readNext_77 ?_
            refine h_callV (As := [.ref (cy (1000 + 12))]) (rest := []) C Z yyX9_takes wd_1455 (tgX9_takes l D cy z _ 12 (by decide) hI) kd_195 rfl rfl ⟨rfl, rfl, Nat.le_of_ble_eq_true rfl, Nat.le_of_ble_eq_true rfl⟩ ⟨Nat.le_of_ble_eq_true rfl, Nat.le_of_ble_eq_true rfl⟩ (Nat.le_of_ble_eq_true rfl) dX9_readNext_79 (fun r231 τ231 hp231 => ?_)
            obtain ⟨⟨x231, rfl, ⟨hx231a, hx231b⟩, hx231⟩, hI231, hG231⟩ := hp231
            have hF231 : ∀ j i : Nat, (j ≠ 195 ∨ (i ≠ 8 ∧ i ≠ 9 ∧ i ≠ 10 ∧ i ≠ 11 ∧ i ≠ 12 ∧ i ≠ 13)) → (j ≠ 201 ∨ i = 6) → τ231 j i = σ j i := fun j i h_0 h_1 => (hG231 j i (by omega)).trans (hF0 j i h_0 h_1)
            show hpV _ _ _ _ _ _ _ _ _ _ _ _ _ _ _ _ _ _ _ _ _ (_ :: _)
            have y79_3 : τ231 201 3 = σ 201 3 := hG231 201 3 (by omega)
            have y79_4 : τ231 201 4 = σ 201 4 := hG231 201 4 (by omega)
            refine h_if_eq (tgt := 121) C dX9_readNext_82 (by decide) ⟨by omega, by omega⟩ (fun h232 => ?_) (fun h232 => ?_)
            · refine h_aload_n C dX9_readNext_121 0 rfl rfl ?_
              refine h_callV (As := []) (rest := []) C Z yyX9_advance wd_1424 (tgX9_advance l D cy z _ hI231) kd_195 rfl rfl ⟨rfl, rfl, Nat.le_of_ble_eq_true rfl, Nat.le_of_ble_eq_true rfl⟩ ⟨Nat.le_of_ble_eq_true rfl, Nat.le_of_ble_eq_true rfl⟩ (Nat.le_of_ble_eq_true rfl) dX9_readNext_122 (fun r233 τ233 hp233 => ?_)
              obtain ⟨rfl, hI233, hG233⟩ := hp233
              have hF233 : ∀ j i : Nat, (j ≠ 195 ∨ (i ≠ 8 ∧ i ≠ 9 ∧ i ≠ 10 ∧ i ≠ 11 ∧ i ≠ 12 ∧ i ≠ 13)) → (j ≠ 201 ∨ i = 6) → τ233 j i = σ j i := fun j i h_0 h_1 => (hG233 j i (by omega)).trans (hF231 j i h_0 h_1)
              show hpV _ _ _ _ _ _ _ _ _ _ _ _ _ _ _ _ _ _ _ _ _ []
              have y122_3 : τ233 201 3 = τ231 201 3 := hG233 201 3 (by omega)
              have y122_4 : τ233 201 4 = τ231 201 4 := hG233 201 4 (by omega)
              refine h_bipush C dX9_readNext_125 (by decide) ?_
              refine h_iconst C dX9_readNext_127 ?_
              refine h_aload_n C dX9_readNext_128 0 rfl rfl ?_
              refine h_get C O9 14 kd_195 (by decide) wd_1270 dX9_readNext_129 fr_195_14 ?_
              refine h_iconst C dX9_readNext_132 ?_
              refine h_iaload C dX9_readNext_133 kd_201 4 rfl (by rw [ln_201]; decide) rfl ?_
              obtain ⟨hr234a, hr234b⟩ := hI233.b ((bw_201 4).trans (show hpwb 4 = (0, 6) by decide))
              generalize hg234 : τ233 201 4 = r234 at hr234a hr234b ⊢
              refine h_imul C dX9_readNext_134 rfl ?_
              refine h_iadd C dX9_readNext_135 rfl ?_
              refine h_istore_n (lv' := [(1, .int (hpI (15 + (2 * r234)))), (0, .ref (z + 195))]) C dX9_readNext_136 rfl (by decide) rfl ?_
              refine h_aload_n C dX9_readNext_137 1 rfl rfl ?_
              refine h_get C O9 14 kd_195 (by decide) wd_1270 dX9_readNext_138 fr_195_14 ?_
              refine h_iload_n C dX9_readNext_141 0 rfl rfl ?_
              refine h_aload_n C dX9_readNext_142 1 rfl rfl ?_
              refine h_ldcS (i := 14) C Z (by decide) rfl dX9_readNext_143 ?_
              refine h_iconst C dX9_readNext_145 ?_
              refine h_bipush C dX9_readNext_146 (by decide) ?_
              refine h_callV (As := [.ref (cy (1000 + 14)), .int (hpI 1), .int (hpI 20)]) (rest := [.int (hpI (15 + (2 * r234))), .ref (z + 201)]) C Z yyX9_toldBy wd_1470 (tgX9_toldBy l D cy z _ 14 (by decide) 1 ⟨by decide, by decide⟩ 20 ⟨by decide, by decide⟩ hI233 (by omega)) kd_195 rfl rfl ⟨rfl, rfl, Nat.le_of_ble_eq_true rfl, Nat.le_of_ble_eq_true rfl⟩ ⟨Nat.le_of_ble_eq_true rfl, Nat.le_of_ble_eq_true rfl⟩ (Nat.le_of_ble_eq_true rfl) dX9_readNext_148 (fun r235 τ235 hp235 => ?_)
              obtain ⟨⟨x235, rfl, ⟨hx235a, hx235b⟩, hx235⟩, hI235, hG235⟩ := hp235
              have hF235 : ∀ j i : Nat, (j ≠ 195 ∨ (i ≠ 8 ∧ i ≠ 9 ∧ i ≠ 10 ∧ i ≠ 11 ∧ i ≠ 12 ∧ i ≠ 13)) → (j ≠ 201 ∨ i = 6) → τ235 j i = σ j i := fun j i h_0 h_1 => (hG235 j i (by omega)).trans (hF233 j i h_0 h_1)
              have hg236 : τ235 201 4 = r234 := (hG235 201 4 (by omega)).trans hg234
              show hpV _ _ _ _ _ _ _ _ _ _ _ _ _ _ _ _ _ _ _ _ _ (_ :: _)
              have y148_3 : τ235 201 3 = τ233 201 3 := hG235 201 3 (by omega)
              have y148_4 : τ235 201 4 = τ233 201 4 := hG235 201 4 (by omega)
              refine h_iastore C dX9_readNext_151 kd_201 (15 + (2 * r234)).toNat (Int.toNat_of_nonneg (by omega)) (by rw [ln_201]; omega) ?_
              obtain ⟨τ237, e237⟩ : ∃ μ : hpMem, μ = hpw τ235 201 ((15 + (2 * r234)).toNat) x235 := ⟨_, rfl⟩
              rw [← e237]
              have hI237 : hpInv τ237 := by rw [e237]; exact hpInv.w201 hI235 ((15 + (2 * r234)).toNat) 15 27 (0) 20 (by omega) (by omega) (by decide) (by omega) (by omega)
              have hF237 : ∀ j i : Nat, (j ≠ 195 ∨ (i ≠ 8 ∧ i ≠ 9 ∧ i ≠ 10 ∧ i ≠ 11 ∧ i ≠ 12 ∧ i ≠ 13)) → (j ≠ 201 ∨ i = 6) → τ237 j i = σ j i := fun j i h_0 h_1 => by rw [e237]; exact (hpw_fr (by omega)).trans (hF235 j i h_0 h_1)
              have hg238 : τ237 201 4 = r234 := by rw [e237]; exact (hpw_fr (Or.inr (by omega))).trans hg236
              have y151_3 : τ237 201 3 = τ235 201 3 := by rw [e237]; exact hpw_fr (Or.inr (by omega))
              have y151_4 : τ237 201 4 = τ235 201 4 := by rw [e237]; exact hpw_fr (Or.inr (by omega))
              refine h_aload_n C dX9_readNext_152 1 rfl rfl ?_
              refine h_get C O9 14 kd_195 (by decide) wd_1270 dX9_readNext_153 fr_195_14 ?_
              refine h_iload_n C dX9_readNext_156 0 rfl rfl ?_
              refine h_iconst C dX9_readNext_157 ?_
              refine h_iadd C dX9_readNext_158 rfl ?_
              refine h_aload_n C dX9_readNext_159 1 rfl rfl ?_
              refine h_ldcS (i := 15) C Z (by decide) rfl dX9_readNext_160 ?_
              refine h_iconst C dX9_readNext_162 ?_
              refine h_bipush C dX9_readNext_163 (by decide) ?_
              refine h_callV (As := [.ref (cy (1000 + 15)), .int (hpI 0), .int (hpI 15)]) (rest := [.int (hpI ((15 + (2 * r234)) + 1)), .ref (z + 201)]) C Z yyX9_toldBy wd_1470 (tgX9_toldBy l D cy z _ 15 (by decide) 0 ⟨by decide, by decide⟩ 15 ⟨by decide, by decide⟩ hI237 (by omega)) kd_195 rfl rfl ⟨rfl, rfl, Nat.le_of_ble_eq_true rfl, Nat.le_of_ble_eq_true rfl⟩ ⟨Nat.le_of_ble_eq_true rfl, Nat.le_of_ble_eq_true rfl⟩ (Nat.le_of_ble_eq_true rfl) dX9_readNext_165 (fun r239 τ239 hp239 => ?_)
              obtain ⟨⟨x239, rfl, ⟨hx239a, hx239b⟩, hx239⟩, hI239, hG239⟩ := hp239
              have hF239 : ∀ j i : Nat, (j ≠ 195 ∨ (i ≠ 8 ∧ i ≠ 9 ∧ i ≠ 10 ∧ i ≠ 11 ∧ i ≠ 12 ∧ i ≠ 13)) → (j ≠ 201 ∨ i = 6) → τ239 j i = σ j i := fun j i h_0 h_1 => (hG239 j i (by omega)).trans (hF237 j i h_0 h_1)
              have hg240 : τ239 201 4 = r234 := (hG239 201 4 (by omega)).trans hg238
              show hpV _ _ _ _ _ _ _ _ _ _ _ _ _ _ _ _ _ _ _ _ _ (_ :: _)
              have y165_3 : τ239 201 3 = τ237 201 3 := hG239 201 3 (by omega)
              have y165_4 : τ239 201 4 = τ237 201 4 := hG239 201 4 (by omega)
              refine h_iastore C dX9_readNext_168 kd_201 ((15 + (2 * r234)) + 1).toNat (Int.toNat_of_nonneg (by omega)) (by rw [ln_201]; omega) ?_
              obtain ⟨τ241, e241⟩ : ∃ μ : hpMem, μ = hpw τ239 201 (((15 + (2 * r234)) + 1).toNat) x239 := ⟨_, rfl⟩
              rw [← e241]
              have hI241 : hpInv τ241 := by rw [e241]; exact hpInv.w201 hI239 (((15 + (2 * r234)) + 1).toNat) 16 28 (0) 20 (by omega) (by omega) (by decide) (by omega) (by omega)
              have hF241 : ∀ j i : Nat, (j ≠ 195 ∨ (i ≠ 8 ∧ i ≠ 9 ∧ i ≠ 10 ∧ i ≠ 11 ∧ i ≠ 12 ∧ i ≠ 13)) → (j ≠ 201 ∨ i = 6) → τ241 j i = σ j i := fun j i h_0 h_1 => by rw [e241]; exact (hpw_fr (by omega)).trans (hF239 j i h_0 h_1)
              have hg242 : τ241 201 4 = r234 := by rw [e241]; exact (hpw_fr (Or.inr (by omega))).trans hg240
              have y168_3 : τ241 201 3 = τ239 201 3 := by rw [e241]; exact hpw_fr (Or.inr (by omega))
              have y168_4 : τ241 201 4 = τ239 201 4 := by rw [e241]; exact hpw_fr (Or.inr (by omega))
              refine h_aload_n C dX9_readNext_169 1 rfl rfl ?_
              refine h_get C O9 14 kd_195 (by decide) wd_1270 dX9_readNext_170 fr_195_14 ?_
              refine h_iconst C dX9_readNext_173 ?_
              refine h_dup2 C rfl rfl dX9_readNext_174 ?_
              refine h_iaload C dX9_readNext_175 kd_201 4 rfl (by rw [ln_201]; decide) rfl ?_
              rw [hg242]
              refine h_iconst C dX9_readNext_176 ?_
              refine h_iadd C dX9_readNext_177 rfl ?_
              refine h_iastore C dX9_readNext_178 kd_201 4 rfl (by rw [ln_201]; decide) ?_
              obtain ⟨τ243, e243⟩ : ∃ μ : hpMem, μ = hpw τ241 201 4 (r234 + 1) := ⟨_, rfl⟩
              rw [← e243]
              have hI243 : hpInv τ243 := by rw [e243]; exact hI241.w ((bw_201 4).trans (show hpwb 4 = (0, 6) by decide)) (by omega) (by omega)
              have hF243 : ∀ j i : Nat, (j ≠ 195 ∨ (i ≠ 8 ∧ i ≠ 9 ∧ i ≠ 10 ∧ i ≠ 11 ∧ i ≠ 12 ∧ i ≠ 13)) → (j ≠ 201 ∨ i = 6) → τ243 j i = σ j i := fun j i h_0 h_1 => by rw [e243]; exact (hpw_fr (by omega)).trans (hF241 j i h_0 h_1)
              have hg244 : τ243 201 4 = r234 + 1 := by rw [e243]; exact hpw_eq
              have y178_3 : τ243 201 3 = τ241 201 3 := by rw [e243]; exact hpw_fr (Or.inr (by decide))
              refine h_return C hr hlk dX9_readNext_179 ?_
              exact ⟨rfl, hI243, hF243, by omega⟩
            · refine h_aload_n C dX9_readNext_85 0 rfl rfl ?_
              refine h_get C O9 14 kd_195 (by decide) wd_1270 dX9_readNext_86 fr_195_14 ?_
              refine h_bipush C dX9_readNext_89 (by decide) ?_
              refine h_aload_n C dX9_readNext_91 0 rfl rfl ?_
              refine h_get C O9 14 kd_195 (by decide) wd_1270 dX9_readNext_92 fr_195_14 ?_
              refine h_iconst C dX9_readNext_95 ?_
              refine h_iaload C dX9_readNext_96 kd_201 3 rfl (by rw [ln_201]; decide) rfl ?_
              obtain ⟨hr245a, hr245b⟩ := hI231.b ((bw_201 3).trans (show hpwb 3 = (0, 8) by decide))
              generalize hg245 : τ231 201 3 = r245 at hr245a hr245b ⊢
              refine h_iadd C dX9_readNext_97 rfl ?_
              refine h_aload_n C dX9_readNext_98 0 rfl rfl ?_
              refine h_ldcS (i := 14) C Z (by decide) rfl dX9_readNext_99 ?_
              refine h_iconst C dX9_readNext_101 ?_
              refine h_bipush C dX9_readNext_102 (by decide) ?_
              refine h_callV (As := [.ref (cy (1000 + 14)), .int (hpI 1), .int (hpI 20)]) (rest := [.int (hpI (7 + r245)), .ref (z + 201)]) C Z yyX9_toldBy wd_1470 (tgX9_toldBy l D cy z _ 14 (by decide) 1 ⟨by decide, by decide⟩ 20 ⟨by decide, by decide⟩ hI231 (by omega)) kd_195 rfl rfl ⟨rfl, rfl, Nat.le_of_ble_eq_true rfl, Nat.le_of_ble_eq_true rfl⟩ ⟨Nat.le_of_ble_eq_true rfl, Nat.le_of_ble_eq_true rfl⟩ (Nat.le_of_ble_eq_true rfl) dX9_readNext_104 (fun r246 τ246 hp246 => ?_)
              obtain ⟨⟨x246, rfl, ⟨hx246a, hx246b⟩, hx246⟩, hI246, hG246⟩ := hp246
              have hF246 : ∀ j i : Nat, (j ≠ 195 ∨ (i ≠ 8 ∧ i ≠ 9 ∧ i ≠ 10 ∧ i ≠ 11 ∧ i ≠ 12 ∧ i ≠ 13)) → (j ≠ 201 ∨ i = 6) → τ246 j i = σ j i := fun j i h_0 h_1 => (hG246 j i (by omega)).trans (hF231 j i h_0 h_1)
              have hg247 : τ246 201 3 = r245 := (hG246 201 3 (by omega)).trans hg245
              show hpV _ _ _ _ _ _ _ _ _ _ _ _ _ _ _ _ _ _ _ _ _ (_ :: _)
              have y104_3 : τ246 201 3 = τ231 201 3 := hG246 201 3 (by omega)
              have y104_4 : τ246 201 4 = τ231 201 4 := hG246 201 4 (by omega)
              refine h_iastore C dX9_readNext_107 kd_201 (7 + r245).toNat (Int.toNat_of_nonneg (by omega)) (by rw [ln_201]; omega) ?_
              obtain ⟨τ248, e248⟩ : ∃ μ : hpMem, μ = hpw τ246 201 ((7 + r245).toNat) x246 := ⟨_, rfl⟩
              rw [← e248]
              have hI248 : hpInv τ248 := by rw [e248]; exact hpInv.w201 hI246 ((7 + r245).toNat) 7 15 (0) 20 (by omega) (by omega) (by decide) (by omega) (by omega)
              have hF248 : ∀ j i : Nat, (j ≠ 195 ∨ (i ≠ 8 ∧ i ≠ 9 ∧ i ≠ 10 ∧ i ≠ 11 ∧ i ≠ 12 ∧ i ≠ 13)) → (j ≠ 201 ∨ i = 6) → τ248 j i = σ j i := fun j i h_0 h_1 => by rw [e248]; exact (hpw_fr (by omega)).trans (hF246 j i h_0 h_1)
              have hg249 : τ248 201 3 = r245 := by rw [e248]; exact (hpw_fr (Or.inr (by omega))).trans hg247
              have y107_3 : τ248 201 3 = τ246 201 3 := by rw [e248]; exact hpw_fr (Or.inr (by omega))
              have y107_4 : τ248 201 4 = τ246 201 4 := by rw [e248]; exact hpw_fr (Or.inr (by omega))
              refine h_aload_n C dX9_readNext_108 0 rfl rfl ?_
              refine h_get C O9 14 kd_195 (by decide) wd_1270 dX9_readNext_109 fr_195_14 ?_
              refine h_iconst C dX9_readNext_112 ?_
              refine h_dup2 C rfl rfl dX9_readNext_113 ?_
              refine h_iaload C dX9_readNext_114 kd_201 3 rfl (by rw [ln_201]; decide) rfl ?_
              rw [hg249]
              refine h_iconst C dX9_readNext_115 ?_
              refine h_iadd C dX9_readNext_116 rfl ?_
              refine h_iastore C dX9_readNext_117 kd_201 3 rfl (by rw [ln_201]; decide) ?_
              obtain ⟨τ250, e250⟩ : ∃ μ : hpMem, μ = hpw τ248 201 3 (r245 + 1) := ⟨_, rfl⟩
              rw [← e250]
              have hI250 : hpInv τ250 := by rw [e250]; exact hI248.w ((bw_201 3).trans (show hpwb 3 = (0, 8) by decide)) (by omega) (by omega)
              have hF250 : ∀ j i : Nat, (j ≠ 195 ∨ (i ≠ 8 ∧ i ≠ 9 ∧ i ≠ 10 ∧ i ≠ 11 ∧ i ≠ 12 ∧ i ≠ 13)) → (j ≠ 201 ∨ i = 6) → τ250 j i = σ j i := fun j i h_0 h_1 => by rw [e250]; exact (hpw_fr (by omega)).trans (hF248 j i h_0 h_1)
              have hg251 : τ250 201 3 = r245 + 1 := by rw [e250]; exact hpw_eq
              have y117_4 : τ250 201 4 = τ248 201 4 := by rw [e250]; exact hpw_fr (Or.inr (by decide))
              refine h_goto (tgt := 179) C dX9_readNext_118 (by decide) ?_
              refine h_return C hr hlk dX9_readNext_179 ?_
              exact ⟨rfl, hI250, hF250, by omega⟩
          · refine h_return C hr hlk dX9_readNext_75 ?_
            exact ⟨rfl, hI, hF0, by omega⟩
        · refine h_aload_n C dX9_readNext_52 0 rfl rfl ?_
          refine h_get C O9 14 kd_195 (by decide) wd_1270 dX9_readNext_53 fr_195_14 ?_
          refine h_iconst C dX9_readNext_56 ?_
          refine h_iaload C dX9_readNext_57 kd_201 4 rfl (by rw [ln_201]; decide) rfl ?_
          obtain ⟨hr252a, hr252b⟩ := hI.b ((bw_201 4).trans (show hpwb 4 = (0, 6) by decide))
          generalize hg252 : σ 201 4 = r252 at hr252a hr252b ⊢
          refine h_bipush C dX9_readNext_58 (by decide) ?_
          refine h_icmp_ne (tgt := 68) C dX9_readNext_60 (by decide) ⟨by omega, by omega⟩ ⟨by decide, by decide⟩ (fun h253 => ?_) (fun h253 => ?_)
          · refine h_aload_n C dX9_readNext_68 0 rfl rfl ?_
            refine h_callV (As := []) (rest := []) C Z yyX9_good wd_1438 (tgX9_good l D cy z _ hI) kd_195 rfl rfl ⟨rfl, rfl, Nat.le_of_ble_eq_true rfl, Nat.le_of_ble_eq_true rfl⟩ ⟨Nat.le_of_ble_eq_true rfl, Nat.le_of_ble_eq_true rfl⟩ (Nat.le_of_ble_eq_true rfl) dX9_readNext_69 (fun r254 τ254 hp254 => ?_)
            obtain ⟨⟨x254, rfl, ⟨hx254a, hx254b⟩, hx254⟩, rfl⟩ := hp254
            show hpV _ _ _ _ _ _ _ _ _ _ _ _ _ _ _ _ _ _ _ _ _ (_ :: _)
            refine h_if_ne (tgt := 76) C dX9_readNext_72 (by decide) ⟨by omega, by omega⟩ (fun h255 => ?_) (fun h255 => ?_)
            · refine h_aload_n C dX9_readNext_76 0 rfl rfl ?_
              refine h_ldcS (i := 12) C Z (by decide) rfl dX9_readNext_77 ?_
              refine h_callV (As := [.ref (cy (1000 + 12))]) (rest := []) C Z yyX9_takes wd_1455 (tgX9_takes l D cy z _ 12 (by decide) hI) kd_195 rfl rfl ⟨rfl, rfl, Nat.le_of_ble_eq_true rfl, Nat.le_of_ble_eq_true rfl⟩ ⟨Nat.le_of_ble_eq_true rfl, Nat.le_of_ble_eq_true rfl⟩ (Nat.le_of_ble_eq_true rfl) dX9_readNext_79 (fun r256 τ256 hp256 => ?_)
              obtain ⟨⟨x256, rfl, ⟨hx256a, hx256b⟩, hx256⟩, hI256, hG256⟩ := hp256
              have hF256 : ∀ j i : Nat, (j ≠ 195 ∨ (i ≠ 8 ∧ i ≠ 9 ∧ i ≠ 10 ∧ i ≠ 11 ∧ i ≠ 12 ∧ i ≠ 13)) → (j ≠ 201 ∨ i = 6) → τ256 j i = σ j i := fun j i h_0 h_1 => (hG256 j i (by omega)).trans (hF0 j i h_0 h_1)
              have hg257 : τ256 201 4 = r252 := (hG256 201 4 (by omega)).trans hg252
              show hpV _ _ _ _ _ _ _ _ _ _ _ _ _ _ _ _ _ _ _ _ _ (_ :: _)
              have y79_3 : τ256 201 3 = σ 201 3 := hG256 201 3 (by omega)
              have y79_4 : τ256 201 4 = σ 201 4 := hG256 201 4 (by omega)
              refine h_if_eq (tgt := 121) C dX9_readNext_82 (by decide) ⟨by omega, by omega⟩ (fun h258 => ?_) (fun h258 => ?_)
              · refine h_aload_n C dX9_readNext_121 0 rfl rfl ?_
                refine h_callV (As := []) (rest := []) C Z yyX9_advance wd_1424 (tgX9_advance l D cy z _ hI256) kd_195 rfl rfl ⟨rfl, rfl, Nat.le_of_ble_eq_true rfl, Nat.le_of_ble_eq_true rfl⟩ ⟨Nat.le_of_ble_eq_true rfl, Nat.le_of_ble_eq_true rfl⟩ (Nat.le_of_ble_eq_true rfl) dX9_readNext_122 (fun r259 τ259 hp259 => ?_)
                obtain ⟨rfl, hI259, hG259⟩ := hp259
                have hF259 : ∀ j i : Nat, (j ≠ 195 ∨ (i ≠ 8 ∧ i ≠ 9 ∧ i ≠ 10 ∧ i ≠ 11 ∧ i ≠ 12 ∧ i ≠ 13)) → (j ≠ 201 ∨ i = 6) → τ259 j i = σ j i := fun j i h_0 h_1 => (hG259 j i (by omega)).trans (hF256 j i h_0 h_1)
                have hg260 : τ259 201 4 = r252 := (hG259 201 4 (by omega)).trans hg257
                show hpV _ _ _ _ _ _ _ _ _ _ _ _ _ _ _ _ _ _ _ _ _ []
                have y122_3 : τ259 201 3 = τ256 201 3 := hG259 201 3 (by omega)
                have y122_4 : τ259 201 4 = τ256 201 4 := hG259 201 4 (by omega)
                refine h_bipush C dX9_readNext_125 (by decide) ?_
                refine h_iconst C dX9_readNext_127 ?_
                refine h_aload_n C dX9_readNext_128 0 rfl rfl ?_
                refine h_get C O9 14 kd_195 (by decide) wd_1270 dX9_readNext_129 fr_195_14 ?_
                refine h_iconst C dX9_readNext_132 ?_
                refine h_iaload C dX9_readNext_133 kd_201 4 rfl (by rw [ln_201]; decide) rfl ?_
                rw [hg260]
                refine h_imul C dX9_readNext_134 rfl ?_
                refine h_iadd C dX9_readNext_135 rfl ?_
                refine h_istore_n (lv' := [(1, .int (hpI (15 + (2 * r252)))), (0, .ref (z + 195))]) C dX9_readNext_136 rfl (by decide) rfl ?_
                refine h_aload_n C dX9_readNext_137 1 rfl rfl ?_
                refine h_get C O9 14 kd_195 (by decide) wd_1270 dX9_readNext_138 fr_195_14 ?_
                refine h_iload_n C dX9_readNext_141 0 rfl rfl ?_
                refine h_aload_n C dX9_readNext_142 1 rfl rfl ?_
                refine h_ldcS (i := 14) C Z (by decide) rfl dX9_readNext_143 ?_
                refine h_iconst C dX9_readNext_145 ?_
                refine h_bipush C dX9_readNext_146 (by decide) ?_
                refine h_callV (As := [.ref (cy (1000 + 14)), .int (hpI 1), .int (hpI 20)]) (rest := [.int (hpI (15 + (2 * r252))), .ref (z + 201)]) C Z yyX9_toldBy wd_1470 (tgX9_toldBy l D cy z _ 14 (by decide) 1 ⟨by decide, by decide⟩ 20 ⟨by decide, by decide⟩ hI259 (by omega)) kd_195 rfl rfl ⟨rfl, rfl, Nat.le_of_ble_eq_true rfl, Nat.le_of_ble_eq_true rfl⟩ ⟨Nat.le_of_ble_eq_true rfl, Nat.le_of_ble_eq_true rfl⟩ (Nat.le_of_ble_eq_true rfl) dX9_readNext_148 (fun r261 τ261 hp261 => ?_)
                obtain ⟨⟨x261, rfl, ⟨hx261a, hx261b⟩, hx261⟩, hI261, hG261⟩ := hp261
                have hF261 : ∀ j i : Nat, (j ≠ 195 ∨ (i ≠ 8 ∧ i ≠ 9 ∧ i ≠ 10 ∧ i ≠ 11 ∧ i ≠ 12 ∧ i ≠ 13)) → (j ≠ 201 ∨ i = 6) → τ261 j i = σ j i := fun j i h_0 h_1 => (hG261 j i (by omega)).trans (hF259 j i h_0 h_1)
                have hg262 : τ261 201 4 = r252 := (hG261 201 4 (by omega)).trans hg260
                show hpV _ _ _ _ _ _ _ _ _ _ _ _ _ _ _ _ _ _ _ _ _ (_ :: _)
                have y148_3 : τ261 201 3 = τ259 201 3 := hG261 201 3 (by omega)
                have y148_4 : τ261 201 4 = τ259 201 4 := hG261 201 4 (by omega)
                refine h_iastore C dX9_readNext_151 kd_201 (15 + (2 * r252)).toNat (Int.toNat_of_nonneg (by omega)) (by rw [ln_201]; omega) ?_
                obtain ⟨τ263, e263⟩ : ∃ μ : hpMem, μ = hpw τ261 201 ((15 + (2 * r252)).toNat) x261 := ⟨_, rfl⟩
                rw [← e263]
                have hI263 : hpInv τ263 := by rw [e263]; exact hpInv.w201 hI261 ((15 + (2 * r252)).toNat) 15 25 (0) 20 (by omega) (by omega) (by decide) (by omega) (by omega)
                have hF263 : ∀ j i : Nat, (j ≠ 195 ∨ (i ≠ 8 ∧ i ≠ 9 ∧ i ≠ 10 ∧ i ≠ 11 ∧ i ≠ 12 ∧ i ≠ 13)) → (j ≠ 201 ∨ i = 6) → τ263 j i = σ j i := fun j i h_0 h_1 => by rw [e263]; exact (hpw_fr (by omega)).trans (hF261 j i h_0 h_1)
                have hg264 : τ263 201 4 = r252 := by rw [e263]; exact (hpw_fr (Or.inr (by omega))).trans hg262
                have y151_3 : τ263 201 3 = τ261 201 3 := by rw [e263]; exact hpw_fr (Or.inr (by omega))
                have y151_4 : τ263 201 4 = τ261 201 4 := by rw [e263]; exact hpw_fr (Or.inr (by omega))
                refine h_aload_n C dX9_readNext_152 1 rfl rfl ?_
                refine h_get C O9 14 kd_195 (by decide) wd_1270 dX9_readNext_153 fr_195_14 ?_
                refine h_iload_n C dX9_readNext_156 0 rfl rfl ?_
                refine h_iconst C dX9_readNext_157 ?_
                refine h_iadd C dX9_readNext_158 rfl ?_
                refine h_aload_n C dX9_readNext_159 1 rfl rfl ?_
                refine h_ldcS (i := 15) C Z (by decide) rfl dX9_readNext_160 ?_
                refine h_iconst C dX9_readNext_162 ?_
                refine h_bipush C dX9_readNext_163 (by decide) ?_
                refine h_callV (As := [.ref (cy (1000 + 15)), .int (hpI 0), .int (hpI 15)]) (rest := [.int (hpI ((15 + (2 * r252)) + 1)), .ref (z + 201)]) C Z yyX9_toldBy wd_1470 (tgX9_toldBy l D cy z _ 15 (by decide) 0 ⟨by decide, by decide⟩ 15 ⟨by decide, by decide⟩ hI263 (by omega)) kd_195 rfl rfl ⟨rfl, rfl, Nat.le_of_ble_eq_true rfl, Nat.le_of_ble_eq_true rfl⟩ ⟨Nat.le_of_ble_eq_true rfl, Nat.le_of_ble_eq_true rfl⟩ (Nat.le_of_ble_eq_true rfl) dX9_readNext_165 (fun r265 τ265 hp265 => ?_)
                obtain ⟨⟨x265, rfl, ⟨hx265a, hx265b⟩, hx265⟩, hI265, hG265⟩ := hp265
                have hF265 : ∀ j i : Nat, (j ≠ 195 ∨ (i ≠ 8 ∧ i ≠ 9 ∧ i ≠ 10 ∧ i ≠ 11 ∧ i ≠ 12 ∧ i ≠ 13)) → (j ≠ 201 ∨ i = 6) → τ265 j i = σ j i := fun j i h_0 h_1 => (hG265 j i (by omega)).trans (hF263 j i h_0 h_1)
                have hg266 : τ265 201 4 = r252 := (hG265 201 4 (by omega)).trans hg264
                show hpV _ _ _ _ _ _ _ _ _ _ _ _ _ _ _ _ _ _ _ _ _ (_ :: _)
                have y165_3 : τ265 201 3 = τ263 201 3 := hG265 201 3 (by omega)
                have y165_4 : τ265 201 4 = τ263 201 4 := hG265 201 4 (by omega)
                refine h_iastore C dX9_readNext_168 kd_201 ((15 + (2 * r252)) + 1).toNat (Int.toNat_of_nonneg (by omega)) (by rw [ln_201]; omega) ?_
                obtain ⟨τ267, e267⟩ : ∃ μ : hpMem, μ = hpw τ265 201 (((15 + (2 * r252)) + 1).toNat) x265 := ⟨_, rfl⟩
                rw [← e267]
                have hI267 : hpInv τ267 := by rw [e267]; exact hpInv.w201 hI265 (((15 + (2 * r252)) + 1).toNat) 16 26 (0) 20 (by omega) (by omega) (by decide) (by omega) (by omega)
                have hF267 : ∀ j i : Nat, (j ≠ 195 ∨ (i ≠ 8 ∧ i ≠ 9 ∧ i ≠ 10 ∧ i ≠ 11 ∧ i ≠ 12 ∧ i ≠ 13)) → (j ≠ 201 ∨ i = 6) → τ267 j i = σ j i := fun j i h_0 h_1 => by rw [e267]; exact (hpw_fr (by omega)).trans (hF265 j i h_0 h_1)
                have hg268 : τ267 201 4 = r252 := by rw [e267]; exact (hpw_fr (Or.inr (by omega))).trans hg266
                have y168_3 : τ267 201 3 = τ265 201 3 := by rw [e267]; exact hpw_fr (Or.inr (by omega))
                have y168_4 : τ267 201 4 = τ265 201 4 := by rw [e267]; exact hpw_fr (Or.inr (by omega))
                refine h_aload_n C dX9_readNext_169 1 rfl rfl ?_
                refine h_get C O9 14 kd_195 (by decide) wd_1270 dX9_readNext_170 fr_195_14 ?_
                refine h_iconst C dX9_readNext_173 ?_
                refine h_dup2 C rfl rfl dX9_readNext_174 ?_
                refine h_iaload C dX9_readNext_175 kd_201 4 rfl (by rw [ln_201]; decide) rfl ?_
                rw [hg268]
                refine h_iconst C dX9_readNext_176 ?_
                refine h_iadd C dX9_readNext_177 rfl ?_
                refine h_iastore C dX9_readNext_178 kd_201 4 rfl (by rw [ln_201]; decide) ?_
                obtain ⟨τ269, e269⟩ : ∃ μ : hpMem, μ = hpw τ267 201 4 (r252 + 1) := ⟨_, rfl⟩
                rw [← e269]
                have hI269 : hpInv τ269 := by rw [e269]; exact hI267.w ((bw_201 4).trans (show hpwb 4 = (0, 6) by decide)) (by omega) (by omega)
                have hF269 : ∀ j i : Nat, (j ≠ 195 ∨ (i ≠ 8 ∧ i ≠ 9 ∧ i ≠ 10 ∧ i ≠ 11 ∧ i ≠ 12 ∧ i ≠ 13)) → (j ≠ 201 ∨ i = 6) → τ269 j i = σ j i := fun j i h_0 h_1 => by rw [e269]; exact (hpw_fr (by omega)).trans (hF267 j i h_0 h_1)
                have hg270 : τ269 201 4 = r252 + 1 := by rw [e269]; exact hpw_eq
                have y178_3 : τ269 201 3 = τ267 201 3 := by rw [e269]; exact hpw_fr (Or.inr (by decide))
                refine h_return C hr hlk dX9_readNext_179 ?_
                exact ⟨rfl, hI269, hF269, by omega⟩
              · refine h_aload_n C dX9_readNext_85 0 rfl rfl ?_
                refine h_get C O9 14 kd_195 (by decide) wd_1270 dX9_readNext_86 fr_195_14 ?_
                refine h_bipush C dX9_readNext_89 (by decide) ?_
                refine h_aload_n C dX9_readNext_91 0 rfl rfl ?_
                refine h_get C O9 14 kd_195 (by decide) wd_1270 dX9_readNext_92 fr_195_14 ?_
                refine h_iconst C dX9_readNext_95 ?_
                refine h_iaload C dX9_readNext_96 kd_201 3 rfl (by rw [ln_201]; decide) rfl ?_
                obtain ⟨hr271a, hr271b⟩ := hI256.b ((bw_201 3).trans (show hpwb 3 = (0, 8) by decide))
                generalize hg271 : τ256 201 3 = r271 at hr271a hr271b ⊢
                refine h_iadd C dX9_readNext_97 rfl ?_
                refine h_aload_n C dX9_readNext_98 0 rfl rfl ?_
                refine h_ldcS (i := 14) C Z (by decide) rfl dX9_readNext_99 ?_
                refine h_iconst C dX9_readNext_101 ?_
                refine h_bipush C dX9_readNext_102 (by decide) ?_
                refine h_callV (As := [.ref (cy (1000 + 14)), .int (hpI 1), .int (hpI 20)]) (rest := [.int (hpI (7 + r271)), .ref (z + 201)]) C Z yyX9_toldBy wd_1470 (tgX9_toldBy l D cy z _ 14 (by decide) 1 ⟨by decide, by decide⟩ 20 ⟨by decide, by decide⟩ hI256 (by omega)) kd_195 rfl rfl ⟨rfl, rfl, Nat.le_of_ble_eq_true rfl, Nat.le_of_ble_eq_true rfl⟩ ⟨Nat.le_of_ble_eq_true rfl, Nat.le_of_ble_eq_true rfl⟩ (Nat.le_of_ble_eq_true rfl) dX9_readNext_104 (fun r272 τ272 hp272 => ?_)
                obtain ⟨⟨x272, rfl, ⟨hx272a, hx272b⟩, hx272⟩, hI272, hG272⟩ := hp272
                have hF272 : ∀ j i : Nat, (j ≠ 195 ∨ (i ≠ 8 ∧ i ≠ 9 ∧ i ≠ 10 ∧ i ≠ 11 ∧ i ≠ 12 ∧ i ≠ 13)) → (j ≠ 201 ∨ i = 6) → τ272 j i = σ j i := fun j i h_0 h_1 => (hG272 j i (by omega)).trans (hF256 j i h_0 h_1)
                have hg273 : τ272 201 4 = r252 := (hG272 201 4 (by omega)).trans hg257
                have hg274 : τ272 201 3 = r271 := (hG272 201 3 (by omega)).trans hg271
                show hpV _ _ _ _ _ _ _ _ _ _ _ _ _ _ _ _ _ _ _ _ _ (_ :: _)
                have y104_3 : τ272 201 3 = τ256 201 3 := hG272 201 3 (by omega)
                have y104_4 : τ272 201 4 = τ256 201 4 := hG272 201 4 (by omega)
                refine h_iastore C dX9_readNext_107 kd_201 (7 + r271).toNat (Int.toNat_of_nonneg (by omega)) (by rw [ln_201]; omega) ?_
                obtain ⟨τ275, e275⟩ : ∃ μ : hpMem, μ = hpw τ272 201 ((7 + r271).toNat) x272 := ⟨_, rfl⟩
                rw [← e275]
                have hI275 : hpInv τ275 := by rw [e275]; exact hpInv.w201 hI272 ((7 + r271).toNat) 7 15 (0) 20 (by omega) (by omega) (by decide) (by omega) (by omega)
                have hF275 : ∀ j i : Nat, (j ≠ 195 ∨ (i ≠ 8 ∧ i ≠ 9 ∧ i ≠ 10 ∧ i ≠ 11 ∧ i ≠ 12 ∧ i ≠ 13)) → (j ≠ 201 ∨ i = 6) → τ275 j i = σ j i := fun j i h_0 h_1 => by rw [e275]; exact (hpw_fr (by omega)).trans (hF272 j i h_0 h_1)
                have hg276 : τ275 201 4 = r252 := by rw [e275]; exact (hpw_fr (Or.inr (by omega))).trans hg273
                have hg277 : τ275 201 3 = r271 := by rw [e275]; exact (hpw_fr (Or.inr (by omega))).trans hg274
                have y107_3 : τ275 201 3 = τ272 201 3 := by rw [e275]; exact hpw_fr (Or.inr (by omega))
                have y107_4 : τ275 201 4 = τ272 201 4 := by rw [e275]; exact hpw_fr (Or.inr (by omega))
                refine h_aload_n C dX9_readNext_108 0 rfl rfl ?_
                refine h_get C O9 14 kd_195 (by decide) wd_1270 dX9_readNext_109 fr_195_14 ?_
                refine h_iconst C dX9_readNext_112 ?_
                refine h_dup2 C rfl rfl dX9_readNext_113 ?_
                refine h_iaload C dX9_readNext_114 kd_201 3 rfl (by rw [ln_201]; decide) rfl ?_
                rw [hg277]
                refine h_iconst C dX9_readNext_115 ?_
                refine h_iadd C dX9_readNext_116 rfl ?_
                refine h_iastore C dX9_readNext_117 kd_201 3 rfl (by rw [ln_201]; decide) ?_
                obtain ⟨τ278, e278⟩ : ∃ μ : hpMem, μ = hpw τ275 201 3 (r271 + 1) := ⟨_, rfl⟩
                rw [← e278]
                have hI278 : hpInv τ278 := by rw [e278]; exact hI275.w ((bw_201 3).trans (show hpwb 3 = (0, 8) by decide)) (by omega) (by omega)
                have hF278 : ∀ j i : Nat, (j ≠ 195 ∨ (i ≠ 8 ∧ i ≠ 9 ∧ i ≠ 10 ∧ i ≠ 11 ∧ i ≠ 12 ∧ i ≠ 13)) → (j ≠ 201 ∨ i = 6) → τ278 j i = σ j i := fun j i h_0 h_1 => by rw [e278]; exact (hpw_fr (by omega)).trans (hF275 j i h_0 h_1)
                have hg279 : τ278 201 4 = r252 := by rw [e278]; exact (hpw_fr (Or.inr (by decide))).trans hg276
                have hg280 : τ278 201 3 = r271 + 1 := by rw [e278]; exact hpw_eq
                have y117_4 : τ278 201 4 = τ275 201 4 := by rw [e278]; exact hpw_fr (Or.inr (by decide))
                refine h_goto (tgt := 179) C dX9_readNext_118 (by decide) ?_
                refine h_return C hr hlk dX9_readNext_179 ?_
                exact ⟨rfl, hI278, hF278, by omega⟩
            · refine h_return C hr hlk dX9_readNext_75 ?_
              exact ⟨rfl, hI, hF0, by omega⟩
          · refine h_aload_n C dX9_readNext_63 0 rfl rfl ?_
            refine h_iconst C dX9_readNext_64 ?_
            refine h_callV (As := [.int (hpI 3)]) (rest := []) C Z yyX9_errs wd_1465 (tgX9_errs l D cy z _ 3 ⟨by decide, by decide⟩ hI (by omega)) kd_195 rfl rfl ⟨rfl, rfl, Nat.le_of_ble_eq_true rfl, Nat.le_of_ble_eq_true rfl⟩ ⟨Nat.le_of_ble_eq_true rfl, Nat.le_of_ble_eq_true rfl⟩ (Nat.le_of_ble_eq_true rfl) dX9_readNext_65 (fun r281 τ281 hp281 => ?_)
            obtain ⟨rfl, hI281, hG281, hq281_0⟩ := hp281
            have hF281 : ∀ j i : Nat, (j ≠ 195 ∨ (i ≠ 8 ∧ i ≠ 9 ∧ i ≠ 10 ∧ i ≠ 11 ∧ i ≠ 12 ∧ i ≠ 13)) → (j ≠ 201 ∨ i = 6) → τ281 j i = σ j i := fun j i h_0 h_1 => (hG281 j i (by omega)).trans (hF0 j i h_0 h_1)
            have hg282 : τ281 201 4 = r252 := (hG281 201 4 (by omega)).trans hg252
            show hpV _ _ _ _ _ _ _ _ _ _ _ _ _ _ _ _ _ _ _ _ _ []
            refine h_aload_n C dX9_readNext_68 0 rfl rfl ?_
            refine h_callV (As := []) (rest := []) C Z yyX9_good wd_1438 (tgX9_good l D cy z _ hI281) kd_195 rfl rfl ⟨rfl, rfl, Nat.le_of_ble_eq_true rfl, Nat.le_of_ble_eq_true rfl⟩ ⟨Nat.le_of_ble_eq_true rfl, Nat.le_of_ble_eq_true rfl⟩ (Nat.le_of_ble_eq_true rfl) dX9_readNext_69 (fun r283 τ283 hp283 => ?_)
            obtain ⟨⟨x283, rfl, ⟨hx283a, hx283b⟩, hx283⟩, rfl⟩ := hp283
            show hpV _ _ _ _ _ _ _ _ _ _ _ _ _ _ _ _ _ _ _ _ _ (_ :: _)
            refine h_if_ne (tgt := 76) C dX9_readNext_72 (by decide) ⟨by omega, by omega⟩ (fun h284 => ?_) (fun h284 => ?_)
            · refine h_aload_n C dX9_readNext_76 0 rfl rfl ?_
              refine h_ldcS (i := 12) C Z (by decide) rfl dX9_readNext_77 ?_
              refine h_callV (As := [.ref (cy (1000 + 12))]) (rest := []) C Z yyX9_takes wd_1455 (tgX9_takes l D cy z _ 12 (by decide) hI281) kd_195 rfl rfl ⟨rfl, rfl, Nat.le_of_ble_eq_true rfl, Nat.le_of_ble_eq_true rfl⟩ ⟨Nat.le_of_ble_eq_true rfl, Nat.le_of_ble_eq_true rfl⟩ (Nat.le_of_ble_eq_true rfl) dX9_readNext_79 (fun r285 τ285 hp285 => ?_)
              obtain ⟨⟨x285, rfl, ⟨hx285a, hx285b⟩, hx285⟩, hI285, hG285⟩ := hp285
              have hF285 : ∀ j i : Nat, (j ≠ 195 ∨ (i ≠ 8 ∧ i ≠ 9 ∧ i ≠ 10 ∧ i ≠ 11 ∧ i ≠ 12 ∧ i ≠ 13)) → (j ≠ 201 ∨ i = 6) → τ285 j i = σ j i := fun j i h_0 h_1 => (hG285 j i (by omega)).trans (hF281 j i h_0 h_1)
              have hg286 : τ285 201 4 = r252 := (hG285 201 4 (by omega)).trans hg282
              show hpV _ _ _ _ _ _ _ _ _ _ _ _ _ _ _ _ _ _ _ _ _ (_ :: _)
              have y79_3 : τ285 201 3 = τ281 201 3 := hG285 201 3 (by omega)
              have y79_4 : τ285 201 4 = τ281 201 4 := hG285 201 4 (by omega)
              refine h_if_eq (tgt := 121) C dX9_readNext_82 (by decide) ⟨by omega, by omega⟩ (fun h287 => ?_) (fun h287 => ?_)
              · refine h_aload_n C dX9_readNext_121 0 rfl rfl ?_
                refine h_callV (As := []) (rest := []) C Z yyX9_advance wd_1424 (tgX9_advance l D cy z _ hI285) kd_195 rfl rfl ⟨rfl, rfl, Nat.le_of_ble_eq_true rfl, Nat.le_of_ble_eq_true rfl⟩ ⟨Nat.le_of_ble_eq_true rfl, Nat.le_of_ble_eq_true rfl⟩ (Nat.le_of_ble_eq_true rfl) dX9_readNext_122 (fun r288 τ288 hp288 => ?_)
                obtain ⟨rfl, hI288, hG288⟩ := hp288
                have hF288 : ∀ j i : Nat, (j ≠ 195 ∨ (i ≠ 8 ∧ i ≠ 9 ∧ i ≠ 10 ∧ i ≠ 11 ∧ i ≠ 12 ∧ i ≠ 13)) → (j ≠ 201 ∨ i = 6) → τ288 j i = σ j i := fun j i h_0 h_1 => (hG288 j i (by omega)).trans (hF285 j i h_0 h_1)
                have hg289 : τ288 201 4 = r252 := (hG288 201 4 (by omega)).trans hg286
                show hpV _ _ _ _ _ _ _ _ _ _ _ _ _ _ _ _ _ _ _ _ _ []
                have y122_3 : τ288 201 3 = τ285 201 3 := hG288 201 3 (by omega)
                have y122_4 : τ288 201 4 = τ285 201 4 := hG288 201 4 (by omega)
                refine h_bipush C dX9_readNext_125 (by decide) ?_
                refine h_iconst C dX9_readNext_127 ?_
                refine h_aload_n C dX9_readNext_128 0 rfl rfl ?_
                refine h_get C O9 14 kd_195 (by decide) wd_1270 dX9_readNext_129 fr_195_14 ?_
                refine h_iconst C dX9_readNext_132 ?_
                refine h_iaload C dX9_readNext_133 kd_201 4 rfl (by rw [ln_201]; decide) rfl ?_
                rw [hg289]
                refine h_imul C dX9_readNext_134 rfl ?_
                refine h_iadd C dX9_readNext_135 rfl ?_
                refine h_istore_n (lv' := [(1, .int (hpI (15 + (2 * r252)))), (0, .ref (z + 195))]) C dX9_readNext_136 rfl (by decide) rfl ?_
                refine h_aload_n C dX9_readNext_137 1 rfl rfl ?_
                refine h_get C O9 14 kd_195 (by decide) wd_1270 dX9_readNext_138 fr_195_14 ?_
                refine h_iload_n C dX9_readNext_141 0 rfl rfl ?_
                refine h_aload_n C dX9_readNext_142 1 rfl rfl ?_
                refine h_ldcS (i := 14) C Z (by decide) rfl dX9_readNext_143 ?_
                refine h_iconst C dX9_readNext_145 ?_
                refine h_bipush C dX9_readNext_146 (by decide) ?_
                refine h_callV (As := [.ref (cy (1000 + 14)), .int (hpI 1), .int (hpI 20)]) (rest := [.int (hpI (15 + (2 * r252))), .ref (z + 201)]) C Z yyX9_toldBy wd_1470 (tgX9_toldBy l D cy z _ 14 (by decide) 1 ⟨by decide, by decide⟩ 20 ⟨by decide, by decide⟩ hI288 (by omega)) kd_195 rfl rfl ⟨rfl, rfl, Nat.le_of_ble_eq_true rfl, Nat.le_of_ble_eq_true rfl⟩ ⟨Nat.le_of_ble_eq_true rfl, Nat.le_of_ble_eq_true rfl⟩ (Nat.le_of_ble_eq_true rfl) dX9_readNext_148 (fun r290 τ290 hp290 => ?_)
                obtain ⟨⟨x290, rfl, ⟨hx290a, hx290b⟩, hx290⟩, hI290, hG290⟩ := hp290
                have hF290 : ∀ j i : Nat, (j ≠ 195 ∨ (i ≠ 8 ∧ i ≠ 9 ∧ i ≠ 10 ∧ i ≠ 11 ∧ i ≠ 12 ∧ i ≠ 13)) → (j ≠ 201 ∨ i = 6) → τ290 j i = σ j i := fun j i h_0 h_1 => (hG290 j i (by omega)).trans (hF288 j i h_0 h_1)
                have hg291 : τ290 201 4 = r252 := (hG290 201 4 (by omega)).trans hg289
                show hpV _ _ _ _ _ _ _ _ _ _ _ _ _ _ _ _ _ _ _ _ _ (_ :: _)
                have y148_3 : τ290 201 3 = τ288 201 3 := hG290 201 3 (by omega)
                have y148_4 : τ290 201 4 = τ288 201 4 := hG290 201 4 (by omega)
                refine h_iastore C dX9_readNext_151 kd_201 (15 + (2 * r252)).toNat (Int.toNat_of_nonneg (by omega)) (by rw [ln_201]; omega) ?_
                obtain ⟨τ292, e292⟩ : ∃ μ : hpMem, μ = hpw τ290 201 ((15 + (2 * r252)).toNat) x290 := ⟨_, rfl⟩
                rw [← e292]
                have hI292 : hpInv τ292 := by rw [e292]; exact hpInv.w201 hI290 ((15 + (2 * r252)).toNat) 27 27 (0) 2016 (by omega) (by omega) (by decide) (by omega) (by omega)
                have hF292 : ∀ j i : Nat, (j ≠ 195 ∨ (i ≠ 8 ∧ i ≠ 9 ∧ i ≠ 10 ∧ i ≠ 11 ∧ i ≠ 12 ∧ i ≠ 13)) → (j ≠ 201 ∨ i = 6) → τ292 j i = σ j i := fun j i h_0 h_1 => by rw [e292]; exact (hpw_fr (by omega)).trans (hF290 j i h_0 h_1)
                have hg293 : τ292 201 4 = r252 := by rw [e292]; exact (hpw_fr (Or.inr (by omega))).trans hg291
                have y151_3 : τ292 201 3 = τ290 201 3 := by rw [e292]; exact hpw_fr (Or.inr (by omega))
                have y151_4 : τ292 201 4 = τ290 201 4 := by rw [e292]; exact hpw_fr (Or.inr (by omega))
                refine h_aload_n C dX9_readNext_152 1 rfl rfl ?_
                refine h_get C O9 14 kd_195 (by decide) wd_1270 dX9_readNext_153 fr_195_14 ?_
                refine h_iload_n C dX9_readNext_156 0 rfl rfl ?_
                refine h_iconst C dX9_readNext_157 ?_
                refine h_iadd C dX9_readNext_158 rfl ?_
                refine h_aload_n C dX9_readNext_159 1 rfl rfl ?_
                refine h_ldcS (i := 15) C Z (by decide) rfl dX9_readNext_160 ?_
                refine h_iconst C dX9_readNext_162 ?_
                refine h_bipush C dX9_readNext_163 (by decide) ?_
                refine h_callV (As := [.ref (cy (1000 + 15)), .int (hpI 0), .int (hpI 15)]) (rest := [.int (hpI ((15 + (2 * r252)) + 1)), .ref (z + 201)]) C Z yyX9_toldBy wd_1470 (tgX9_toldBy l D cy z _ 15 (by decide) 0 ⟨by decide, by decide⟩ 15 ⟨by decide, by decide⟩ hI292 (by omega)) kd_195 rfl rfl ⟨rfl, rfl, Nat.le_of_ble_eq_true rfl, Nat.le_of_ble_eq_true rfl⟩ ⟨Nat.le_of_ble_eq_true rfl, Nat.le_of_ble_eq_true rfl⟩ (Nat.le_of_ble_eq_true rfl) dX9_readNext_165 (fun r294 τ294 hp294 => ?_)
                obtain ⟨⟨x294, rfl, ⟨hx294a, hx294b⟩, hx294⟩, hI294, hG294⟩ := hp294
                have hF294 : ∀ j i : Nat, (j ≠ 195 ∨ (i ≠ 8 ∧ i ≠ 9 ∧ i ≠ 10 ∧ i ≠ 11 ∧ i ≠ 12 ∧ i ≠ 13)) → (j ≠ 201 ∨ i = 6) → τ294 j i = σ j i := fun j i h_0 h_1 => (hG294 j i (by omega)).trans (hF292 j i h_0 h_1)
                have hg295 : τ294 201 4 = r252 := (hG294 201 4 (by omega)).trans hg293
                show hpV _ _ _ _ _ _ _ _ _ _ _ _ _ _ _ _ _ _ _ _ _ (_ :: _)
                have y165_3 : τ294 201 3 = τ292 201 3 := hG294 201 3 (by omega)
                have y165_4 : τ294 201 4 = τ292 201 4 := hG294 201 4 (by omega)
                refine h_iastore C dX9_readNext_168 kd_201 ((15 + (2 * r252)) + 1).toNat (Int.toNat_of_nonneg (by omega)) (by rw [ln_201]; omega) ?_
                obtain ⟨τ296, e296⟩ : ∃ μ : hpMem, μ = hpw τ294 201 (((15 + (2 * r252)) + 1).toNat) x294 := ⟨_, rfl⟩
                rw [← e296]
                have hI296 : hpInv τ296 := by rw [e296]; exact hpInv.w201 hI294 (((15 + (2 * r252)) + 1).toNat) 28 28 (0) 2016 (by omega) (by omega) (by decide) (by omega) (by omega)
                have hF296 : ∀ j i : Nat, (j ≠ 195 ∨ (i ≠ 8 ∧ i ≠ 9 ∧ i ≠ 10 ∧ i ≠ 11 ∧ i ≠ 12 ∧ i ≠ 13)) → (j ≠ 201 ∨ i = 6) → τ296 j i = σ j i := fun j i h_0 h_1 => by rw [e296]; exact (hpw_fr (by omega)).trans (hF294 j i h_0 h_1)
                have hg297 : τ296 201 4 = r252 := by rw [e296]; exact (hpw_fr (Or.inr (by omega))).trans hg295
                have y168_3 : τ296 201 3 = τ294 201 3 := by rw [e296]; exact hpw_fr (Or.inr (by omega))
                have y168_4 : τ296 201 4 = τ294 201 4 := by rw [e296]; exact hpw_fr (Or.inr (by omega))
                refine h_aload_n C dX9_readNext_169 1 rfl rfl ?_
                refine h_get C O9 14 kd_195 (by decide) wd_1270 dX9_readNext_170 fr_195_14 ?_
                refine h_iconst C dX9_readNext_173 ?_
                refine h_dup2 C rfl rfl dX9_readNext_174 ?_
                refine h_iaload C dX9_readNext_175 kd_201 4 rfl (by rw [ln_201]; decide) rfl ?_
                rw [hg297]
                refine h_iconst C dX9_readNext_176 ?_
                refine h_iadd C dX9_readNext_177 rfl ?_
                refine h_iastore C dX9_readNext_178 kd_201 4 rfl (by rw [ln_201]; decide) ?_
                obtain ⟨τ298, e298⟩ : ∃ μ : hpMem, μ = hpw τ296 201 4 (r252 + 1) := ⟨_, rfl⟩
                rw [← e298]
                have hI298 : hpInv τ298 := by rw [e298]; exact hI296.w ((bw_201 4).trans (show hpwb 4 = (0, 6) by decide)) (by omega) (by omega)
                have hF298 : ∀ j i : Nat, (j ≠ 195 ∨ (i ≠ 8 ∧ i ≠ 9 ∧ i ≠ 10 ∧ i ≠ 11 ∧ i ≠ 12 ∧ i ≠ 13)) → (j ≠ 201 ∨ i = 6) → τ298 j i = σ j i := fun j i h_0 h_1 => by rw [e298]; exact (hpw_fr (by omega)).trans (hF296 j i h_0 h_1)
                have hg299 : τ298 201 4 = r252 + 1 := by rw [e298]; exact hpw_eq
                have y178_3 : τ298 201 3 = τ296 201 3 := by rw [e298]; exact hpw_fr (Or.inr (by decide))
                refine h_return C hr hlk dX9_readNext_179 ?_
                exact ⟨rfl, hI298, hF298, by omega⟩
              · refine h_aload_n C dX9_readNext_85 0 rfl rfl ?_
                refine h_get C O9 14 kd_195 (by decide) wd_1270 dX9_readNext_86 fr_195_14 ?_
                refine h_bipush C dX9_readNext_89 (by decide) ?_
                refine h_aload_n C dX9_readNext_91 0 rfl rfl ?_
                refine h_get C O9 14 kd_195 (by decide) wd_1270 dX9_readNext_92 fr_195_14 ?_
                refine h_iconst C dX9_readNext_95 ?_
                refine h_iaload C dX9_readNext_96 kd_201 3 rfl (by rw [ln_201]; decide) rfl ?_
                obtain ⟨hr300a, hr300b⟩ := hI285.b ((bw_201 3).trans (show hpwb 3 = (0, 8) by decide))
                generalize hg300 : τ285 201 3 = r300 at hr300a hr300b ⊢
                refine h_iadd C dX9_readNext_97 rfl ?_
                refine h_aload_n C dX9_readNext_98 0 rfl rfl ?_
                refine h_ldcS (i := 14) C Z (by decide) rfl dX9_readNext_99 ?_
                refine h_iconst C dX9_readNext_101 ?_
                refine h_bipush C dX9_readNext_102 (by decide) ?_
                refine h_callV (As := [.ref (cy (1000 + 14)), .int (hpI 1), .int (hpI 20)]) (rest := [.int (hpI (7 + r300)), .ref (z + 201)]) C Z yyX9_toldBy wd_1470 (tgX9_toldBy l D cy z _ 14 (by decide) 1 ⟨by decide, by decide⟩ 20 ⟨by decide, by decide⟩ hI285 (by omega)) kd_195 rfl rfl ⟨rfl, rfl, Nat.le_of_ble_eq_true rfl, Nat.le_of_ble_eq_true rfl⟩ ⟨Nat.le_of_ble_eq_true rfl, Nat.le_of_ble_eq_true rfl⟩ (Nat.le_of_ble_eq_true rfl) dX9_readNext_104 (fun r301 τ301 hp301 => ?_)
                obtain ⟨⟨x301, rfl, ⟨hx301a, hx301b⟩, hx301⟩, hI301, hG301⟩ := hp301
                have hF301 : ∀ j i : Nat, (j ≠ 195 ∨ (i ≠ 8 ∧ i ≠ 9 ∧ i ≠ 10 ∧ i ≠ 11 ∧ i ≠ 12 ∧ i ≠ 13)) → (j ≠ 201 ∨ i = 6) → τ301 j i = σ j i := fun j i h_0 h_1 => (hG301 j i (by omega)).trans (hF285 j i h_0 h_1)
                have hg302 : τ301 201 4 = r252 := (hG301 201 4 (by omega)).trans hg286
                have hg303 : τ301 201 3 = r300 := (hG301 201 3 (by omega)).trans hg300
                show hpV _ _ _ _ _ _ _ _ _ _ _ _ _ _ _ _ _ _ _ _ _ (_ :: _)
                have y104_3 : τ301 201 3 = τ285 201 3 := hG301 201 3 (by omega)
                have y104_4 : τ301 201 4 = τ285 201 4 := hG301 201 4 (by omega)
                refine h_iastore C dX9_readNext_107 kd_201 (7 + r300).toNat (Int.toNat_of_nonneg (by omega)) (by rw [ln_201]; omega) ?_
                obtain ⟨τ304, e304⟩ : ∃ μ : hpMem, μ = hpw τ301 201 ((7 + r300).toNat) x301 := ⟨_, rfl⟩
                rw [← e304]
                have hI304 : hpInv τ304 := by rw [e304]; exact hpInv.w201 hI301 ((7 + r300).toNat) 7 15 (0) 20 (by omega) (by omega) (by decide) (by omega) (by omega)
                have hF304 : ∀ j i : Nat, (j ≠ 195 ∨ (i ≠ 8 ∧ i ≠ 9 ∧ i ≠ 10 ∧ i ≠ 11 ∧ i ≠ 12 ∧ i ≠ 13)) → (j ≠ 201 ∨ i = 6) → τ304 j i = σ j i := fun j i h_0 h_1 => by rw [e304]; exact (hpw_fr (by omega)).trans (hF301 j i h_0 h_1)
                have hg305 : τ304 201 4 = r252 := by rw [e304]; exact (hpw_fr (Or.inr (by omega))).trans hg302
                have hg306 : τ304 201 3 = r300 := by rw [e304]; exact (hpw_fr (Or.inr (by omega))).trans hg303
                have y107_3 : τ304 201 3 = τ301 201 3 := by rw [e304]; exact hpw_fr (Or.inr (by omega))
                have y107_4 : τ304 201 4 = τ301 201 4 := by rw [e304]; exact hpw_fr (Or.inr (by omega))
                refine h_aload_n C dX9_readNext_108 0 rfl rfl ?_
                refine h_get C O9 14 kd_195 (by decide) wd_1270 dX9_readNext_109 fr_195_14 ?_
                refine h_iconst C dX9_readNext_112 ?_
                refine h_dup2 C rfl rfl dX9_readNext_113 ?_
                refine h_iaload C dX9_readNext_114 kd_201 3 rfl (by rw [ln_201]; decide) rfl ?_
                rw [hg306]
                refine h_iconst C dX9_readNext_115 ?_
                refine h_iadd C dX9_readNext_116 rfl ?_
                refine h_iastore C dX9_readNext_117 kd_201 3 rfl (by rw [ln_201]; decide) ?_
                obtain ⟨τ307, e307⟩ : ∃ μ : hpMem, μ = hpw τ304 201 3 (r300 + 1) := ⟨_, rfl⟩
                rw [← e307]
                have hI307 : hpInv τ307 := by rw [e307]; exact hI304.w ((bw_201 3).trans (show hpwb 3 = (0, 8) by decide)) (by omega) (by omega)
                have hF307 : ∀ j i : Nat, (j ≠ 195 ∨ (i ≠ 8 ∧ i ≠ 9 ∧ i ≠ 10 ∧ i ≠ 11 ∧ i ≠ 12 ∧ i ≠ 13)) → (j ≠ 201 ∨ i = 6) → τ307 j i = σ j i := fun j i h_0 h_1 => by rw [e307]; exact (hpw_fr (by omega)).trans (hF304 j i h_0 h_1)
                have hg308 : τ307 201 4 = r252 := by rw [e307]; exact (hpw_fr (Or.inr (by decide))).trans hg305
                have hg309 : τ307 201 3 = r300 + 1 := by rw [e307]; exact hpw_eq
                have y117_4 : τ307 201 4 = τ304 201 4 := by rw [e307]; exact hpw_fr (Or.inr (by decide))
                refine h_goto (tgt := 179) C dX9_readNext_118 (by decide) ?_
                refine h_return C hr hlk dX9_readNext_179 ?_
                exact ⟨rfl, hI307, hF307, by omega⟩
            · refine h_return C hr hlk dX9_readNext_75 ?_
              exact ⟨rfl, hI281, hF281, by omega⟩
      · refine h_aload_n C dX9_readNext_32 0 rfl rfl ?_
        refine h_get C O9 14 kd_195 (by decide) wd_1270 dX9_readNext_33 fr_195_14 ?_
        refine h_iconst C dX9_readNext_36 ?_
        refine h_iaload C dX9_readNext_37 kd_201 3 rfl (by rw [ln_201]; decide) rfl ?_
        obtain ⟨hr310a, hr310b⟩ := hI.b ((bw_201 3).trans (show hpwb 3 = (0, 8) by decide))
        generalize hg310 : σ 201 3 = r310 at hr310a hr310b ⊢
        refine h_bipush C dX9_readNext_38 (by decide) ?_
        refine h_icmp_eq (tgt := 63) C dX9_readNext_40 (by decide) ⟨by omega, by omega⟩ ⟨by decide, by decide⟩ (fun h311 => ?_) (fun h311 => ?_)
        · refine h_aload_n C dX9_readNext_63 0 rfl rfl ?_
          refine h_iconst C dX9_readNext_64 ?_
          refine h_callV (As := [.int (hpI 3)]) (rest := []) C Z yyX9_errs wd_1465 (tgX9_errs l D cy z _ 3 ⟨by decide, by decide⟩ hI (by omega)) kd_195 rfl rfl ⟨rfl, rfl, Nat.le_of_ble_eq_true rfl, Nat.le_of_ble_eq_true rfl⟩ ⟨Nat.le_of_ble_eq_true rfl, Nat.le_of_ble_eq_true rfl⟩ (Nat.le_of_ble_eq_true rfl) dX9_readNext_65 (fun r312 τ312 hp312 => ?_)
          obtain ⟨rfl, hI312, hG312, hq312_0⟩ := hp312
          have hF312 : ∀ j i : Nat, (j ≠ 195 ∨ (i ≠ 8 ∧ i ≠ 9 ∧ i ≠ 10 ∧ i ≠ 11 ∧ i ≠ 12 ∧ i ≠ 13)) → (j ≠ 201 ∨ i = 6) → τ312 j i = σ j i := fun j i h_0 h_1 => (hG312 j i (by omega)).trans (hF0 j i h_0 h_1)
          have hg313 : τ312 201 3 = r310 := (hG312 201 3 (by omega)).trans hg310
          show hpV _ _ _ _ _ _ _ _ _ _ _ _ _ _ _ _ _ _ _ _ _ []
          refine h_aload_n C dX9_readNext_68 0 rfl rfl ?_
          refine h_callV (As := []) (rest := []) C Z yyX9_good wd_1438 (tgX9_good l D cy z _ hI312) kd_195 rfl rfl ⟨rfl, rfl, Nat.le_of_ble_eq_true rfl, Nat.le_of_ble_eq_true rfl⟩ ⟨Nat.le_of_ble_eq_true rfl, Nat.le_of_ble_eq_true rfl⟩ (Nat.le_of_ble_eq_true rfl) dX9_readNext_69 (fun r314 τ314 hp314 => ?_)
          obtain ⟨⟨x314, rfl, ⟨hx314a, hx314b⟩, hx314⟩, rfl⟩ := hp314
          show hpV _ _ _ _ _ _ _ _ _ _ _ _ _ _ _ _ _ _ _ _ _ (_ :: _)
          refine h_if_ne (tgt := 76) C dX9_readNext_72 (by decide) ⟨by omega, by omega⟩ (fun h315 => ?_) (fun h315 => ?_)
          · refine h_aload_n C dX9_readNext_76 0 rfl rfl ?_
            refine h_ldcS (i := 12) C Z (by decide) rfl dX9_readNext_77 ?_
            refine h_callV (As := [.ref (cy (1000 + 12))]) (rest := []) C Z yyX9_takes wd_1455 (tgX9_takes l D cy z _ 12 (by decide) hI312) kd_195 rfl rfl ⟨rfl, rfl, Nat.le_of_ble_eq_true rfl, Nat.le_of_ble_eq_true rfl⟩ ⟨Nat.le_of_ble_eq_true rfl, Nat.le_of_ble_eq_true rfl⟩ (Nat.le_of_ble_eq_true rfl) dX9_readNext_79 (fun r316 τ316 hp316 => ?_)
            obtain ⟨⟨x316, rfl, ⟨hx316a, hx316b⟩, hx316⟩, hI316, hG316⟩ := hp316
            have hF316 : ∀ j i : Nat, (j ≠ 195 ∨ (i ≠ 8 ∧ i ≠ 9 ∧ i ≠ 10 ∧ i ≠ 11 ∧ i ≠ 12 ∧ i ≠ 13)) → (j ≠ 201 ∨ i = 6) → τ316 j i = σ j i := fun j i h_0 h_1 => (hG316 j i (by omega)).trans (hF312 j i h_0 h_1)
            have hg317 : τ316 201 3 = r310 := (hG316 201 3 (by omega)).trans hg313
            show hpV _ _ _ _ _ _ _ _ _ _ _ _ _ _ _ _ _ _ _ _ _ (_ :: _)
            have y79_3 : τ316 201 3 = τ312 201 3 := hG316 201 3 (by omega)
            have y79_4 : τ316 201 4 = τ312 201 4 := hG316 201 4 (by omega)
            refine h_if_eq (tgt := 121) C dX9_readNext_82 (by decide) ⟨by omega, by omega⟩ (fun h318 => ?_) (fun h318 => ?_)
            · refine h_aload_n C dX9_readNext_121 0 rfl rfl ?_
              refine h_callV (As := []) (rest := []) C Z yyX9_advance wd_1424 (tgX9_advance l D cy z _ hI316) kd_195 rfl rfl ⟨rfl, rfl, Nat.le_of_ble_eq_true rfl, Nat.le_of_ble_eq_true rfl⟩ ⟨Nat.le_of_ble_eq_true rfl, Nat.le_of_ble_eq_true rfl⟩ (Nat.le_of_ble_eq_true rfl) dX9_readNext_122 (fun r319 τ319 hp319 => ?_)
              obtain ⟨rfl, hI319, hG319⟩ := hp319
              have hF319 : ∀ j i : Nat, (j ≠ 195 ∨ (i ≠ 8 ∧ i ≠ 9 ∧ i ≠ 10 ∧ i ≠ 11 ∧ i ≠ 12 ∧ i ≠ 13)) → (j ≠ 201 ∨ i = 6) → τ319 j i = σ j i := fun j i h_0 h_1 => (hG319 j i (by omega)).trans (hF316 j i h_0 h_1)
              have hg320 : τ319 201 3 = r310 := (hG319 201 3 (by omega)).trans hg317
              show hpV _ _ _ _ _ _ _ _ _ _ _ _ _ _ _ _ _ _ _ _ _ []
              have y122_3 : τ319 201 3 = τ316 201 3 := hG319 201 3 (by omega)
              have y122_4 : τ319 201 4 = τ316 201 4 := hG319 201 4 (by omega)
              refine h_bipush C dX9_readNext_125 (by decide) ?_
              refine h_iconst C dX9_readNext_127 ?_
              refine h_aload_n C dX9_readNext_128 0 rfl rfl ?_
              refine h_get C O9 14 kd_195 (by decide) wd_1270 dX9_readNext_129 fr_195_14 ?_
              refine h_iconst C dX9_readNext_132 ?_
              refine h_iaload C dX9_readNext_133 kd_201 4 rfl (by rw [ln_201]; decide) rfl ?_
              obtain ⟨hr321a, hr321b⟩ := hI319.b ((bw_201 4).trans (show hpwb 4 = (0, 6) by decide))
              generalize hg321 : τ319 201 4 = r321 at hr321a hr321b ⊢
              refine h_imul C dX9_readNext_134 rfl ?_
              refine h_iadd C dX9_readNext_135 rfl ?_
              refine h_istore_n (lv' := [(1, .int (hpI (15 + (2 * r321)))), (0, .ref (z + 195))]) C dX9_readNext_136 rfl (by decide) rfl ?_
              refine h_aload_n C dX9_readNext_137 1 rfl rfl ?_
              refine h_get C O9 14 kd_195 (by decide) wd_1270 dX9_readNext_138 fr_195_14 ?_
              refine h_iload_n C dX9_readNext_141 0 rfl rfl ?_
              refine h_aload_n C dX9_readNext_142 1 rfl rfl ?_
              refine h_ldcS (i := 14) C Z (by decide) rfl dX9_readNext_143 ?_
              refine h_iconst C dX9_readNext_145 ?_
              refine h_bipush C dX9_readNext_146 (by decide) ?_
              refine h_callV (As := [.ref (cy (1000 + 14)), .int (hpI 1), .int (hpI 20)]) (rest := [.int (hpI (15 + (2 * r321))), .ref (z + 201)]) C Z yyX9_toldBy wd_1470 (tgX9_toldBy l D cy z _ 14 (by decide) 1 ⟨by decide, by decide⟩ 20 ⟨by decide, by decide⟩ hI319 (by omega)) kd_195 rfl rfl ⟨rfl, rfl, Nat.le_of_ble_eq_true rfl, Nat.le_of_ble_eq_true rfl⟩ ⟨Nat.le_of_ble_eq_true rfl, Nat.le_of_ble_eq_true rfl⟩ (Nat.le_of_ble_eq_true rfl) dX9_readNext_148 (fun r322 τ322 hp322 => ?_)
              obtain ⟨⟨x322, rfl, ⟨hx322a, hx322b⟩, hx322⟩, hI322, hG322⟩ := hp322
              have hF322 : ∀ j i : Nat, (j ≠ 195 ∨ (i ≠ 8 ∧ i ≠ 9 ∧ i ≠ 10 ∧ i ≠ 11 ∧ i ≠ 12 ∧ i ≠ 13)) → (j ≠ 201 ∨ i = 6) → τ322 j i = σ j i := fun j i h_0 h_1 => (hG322 j i (by omega)).trans (hF319 j i h_0 h_1)
              have hg323 : τ322 201 3 = r310 := (hG322 201 3 (by omega)).trans hg320
              have hg324 : τ322 201 4 = r321 := (hG322 201 4 (by omega)).trans hg321
              show hpV _ _ _ _ _ _ _ _ _ _ _ _ _ _ _ _ _ _ _ _ _ (_ :: _)
              have y148_3 : τ322 201 3 = τ319 201 3 := hG322 201 3 (by omega)
              have y148_4 : τ322 201 4 = τ319 201 4 := hG322 201 4 (by omega)
              refine h_iastore C dX9_readNext_151 kd_201 (15 + (2 * r321)).toNat (Int.toNat_of_nonneg (by omega)) (by rw [ln_201]; omega) ?_
              obtain ⟨τ325, e325⟩ : ∃ μ : hpMem, μ = hpw τ322 201 ((15 + (2 * r321)).toNat) x322 := ⟨_, rfl⟩
              rw [← e325]
              have hI325 : hpInv τ325 := by rw [e325]; exact hpInv.w201 hI322 ((15 + (2 * r321)).toNat) 15 27 (0) 20 (by omega) (by omega) (by decide) (by omega) (by omega)
              have hF325 : ∀ j i : Nat, (j ≠ 195 ∨ (i ≠ 8 ∧ i ≠ 9 ∧ i ≠ 10 ∧ i ≠ 11 ∧ i ≠ 12 ∧ i ≠ 13)) → (j ≠ 201 ∨ i = 6) → τ325 j i = σ j i := fun j i h_0 h_1 => by rw [e325]; exact (hpw_fr (by omega)).trans (hF322 j i h_0 h_1)
              have hg326 : τ325 201 3 = r310 := by rw [e325]; exact (hpw_fr (Or.inr (by omega))).trans hg323
              have hg327 : τ325 201 4 = r321 := by rw [e325]; exact (hpw_fr (Or.inr (by omega))).trans hg324
              have y151_3 : τ325 201 3 = τ322 201 3 := by rw [e325]; exact hpw_fr (Or.inr (by omega))
              have y151_4 : τ325 201 4 = τ322 201 4 := by rw [e325]; exact hpw_fr (Or.inr (by omega))
              refine h_aload_n C dX9_readNext_152 1 rfl rfl ?_
              refine h_get C O9 14 kd_195 (by decide) wd_1270 dX9_readNext_153 fr_195_14 ?_
              refine h_iload_n C dX9_readNext_156 0 rfl rfl ?_
              refine h_iconst C dX9_readNext_157 ?_
              refine h_iadd C dX9_readNext_158 rfl ?_
              refine h_aload_n C dX9_readNext_159 1 rfl rfl ?_
              refine h_ldcS (i := 15) C Z (by decide) rfl dX9_readNext_160 ?_
              refine h_iconst C dX9_readNext_162 ?_
              refine h_bipush C dX9_readNext_163 (by decide) ?_
              refine h_callV (As := [.ref (cy (1000 + 15)), .int (hpI 0), .int (hpI 15)]) (rest := [.int (hpI ((15 + (2 * r321)) + 1)), .ref (z + 201)]) C Z yyX9_toldBy wd_1470 (tgX9_toldBy l D cy z _ 15 (by decide) 0 ⟨by decide, by decide⟩ 15 ⟨by decide, by decide⟩ hI325 (by omega)) kd_195 rfl rfl ⟨rfl, rfl, Nat.le_of_ble_eq_true rfl, Nat.le_of_ble_eq_true rfl⟩ ⟨Nat.le_of_ble_eq_true rfl, Nat.le_of_ble_eq_true rfl⟩ (Nat.le_of_ble_eq_true rfl) dX9_readNext_165 (fun r328 τ328 hp328 => ?_)
              obtain ⟨⟨x328, rfl, ⟨hx328a, hx328b⟩, hx328⟩, hI328, hG328⟩ := hp328
              have hF328 : ∀ j i : Nat, (j ≠ 195 ∨ (i ≠ 8 ∧ i ≠ 9 ∧ i ≠ 10 ∧ i ≠ 11 ∧ i ≠ 12 ∧ i ≠ 13)) → (j ≠ 201 ∨ i = 6) → τ328 j i = σ j i := fun j i h_0 h_1 => (hG328 j i (by omega)).trans (hF325 j i h_0 h_1)
              have hg329 : τ328 201 3 = r310 := (hG328 201 3 (by omega)).trans hg326
              have hg330 : τ328 201 4 = r321 := (hG328 201 4 (by omega)).trans hg327
              show hpV _ _ _ _ _ _ _ _ _ _ _ _ _ _ _ _ _ _ _ _ _ (_ :: _)
              have y165_3 : τ328 201 3 = τ325 201 3 := hG328 201 3 (by omega)
              have y165_4 : τ328 201 4 = τ325 201 4 := hG328 201 4 (by omega)
              refine h_iastore C dX9_readNext_168 kd_201 ((15 + (2 * r321)) + 1).toNat (Int.toNat_of_nonneg (by omega)) (by rw [ln_201]; omega) ?_
              obtain ⟨τ331, e331⟩ : ∃ μ : hpMem, μ = hpw τ328 201 (((15 + (2 * r321)) + 1).toNat) x328 := ⟨_, rfl⟩
              rw [← e331]
              have hI331 : hpInv τ331 := by rw [e331]; exact hpInv.w201 hI328 (((15 + (2 * r321)) + 1).toNat) 16 28 (0) 20 (by omega) (by omega) (by decide) (by omega) (by omega)
              have hF331 : ∀ j i : Nat, (j ≠ 195 ∨ (i ≠ 8 ∧ i ≠ 9 ∧ i ≠ 10 ∧ i ≠ 11 ∧ i ≠ 12 ∧ i ≠ 13)) → (j ≠ 201 ∨ i = 6) → τ331 j i = σ j i := fun j i h_0 h_1 => by rw [e331]; exact (hpw_fr (by omega)).trans (hF328 j i h_0 h_1)
              have hg332 : τ331 201 3 = r310 := by rw [e331]; exact (hpw_fr (Or.inr (by omega))).trans hg329
              have hg333 : τ331 201 4 = r321 := by rw [e331]; exact (hpw_fr (Or.inr (by omega))).trans hg330
              have y168_3 : τ331 201 3 = τ328 201 3 := by rw [e331]; exact hpw_fr (Or.inr (by omega))
              have y168_4 : τ331 201 4 = τ328 201 4 := by rw [e331]; exact hpw_fr (Or.inr (by omega))
              refine h_aload_n C dX9_readNext_169 1 rfl rfl ?_
              refine h_get C O9 14 kd_195 (by decide) wd_1270 dX9_readNext_170 fr_195_14 ?_
              refine h_iconst C dX9_readNext_173 ?_
              refine h_dup2 C rfl rfl dX9_readNext_174 ?_
              refine h_iaload C dX9_readNext_175 kd_201 4 rfl (by rw [ln_201]; decide) rfl ?_
              rw [hg333]
              refine h_iconst C dX9_readNext_176 ?_
              refine h_iadd C dX9_readNext_177 rfl ?_
              refine h_iastore C dX9_readNext_178 kd_201 4 rfl (by rw [ln_201]; decide) ?_
              obtain ⟨τ334, e334⟩ : ∃ μ : hpMem, μ = hpw τ331 201 4 (r321 + 1) := ⟨_, rfl⟩
              rw [← e334]
              have hI334 : hpInv τ334 := by rw [e334]; exact hI331.w ((bw_201 4).trans (show hpwb 4 = (0, 6) by decide)) (by omega) (by omega)
              have hF334 : ∀ j i : Nat, (j ≠ 195 ∨ (i ≠ 8 ∧ i ≠ 9 ∧ i ≠ 10 ∧ i ≠ 11 ∧ i ≠ 12 ∧ i ≠ 13)) → (j ≠ 201 ∨ i = 6) → τ334 j i = σ j i := fun j i h_0 h_1 => by rw [e334]; exact (hpw_fr (by omega)).trans (hF331 j i h_0 h_1)
              have hg335 : τ334 201 3 = r310 := by rw [e334]; exact (hpw_fr (Or.inr (by decide))).trans hg332
              have hg336 : τ334 201 4 = r321 + 1 := by rw [e334]; exact hpw_eq
              have y178_3 : τ334 201 3 = τ331 201 3 := by rw [e334]; exact hpw_fr (Or.inr (by decide))
              refine h_return C hr hlk dX9_readNext_179 ?_
              exact ⟨rfl, hI334, hF334, by omega⟩
            · refine h_aload_n C dX9_readNext_85 0 rfl rfl ?_
              refine h_get C O9 14 kd_195 (by decide) wd_1270 dX9_readNext_86 fr_195_14 ?_
              refine h_bipush C dX9_readNext_89 (by decide) ?_
              refine h_aload_n C dX9_readNext_91 0 rfl rfl ?_
              refine h_get C O9 14 kd_195 (by decide) wd_1270 dX9_readNext_92 fr_195_14 ?_
              refine h_iconst C dX9_readNext_95 ?_
              refine h_iaload C dX9_readNext_96 kd_201 3 rfl (by rw [ln_201]; decide) rfl ?_
              rw [hg317]
              refine h_iadd C dX9_readNext_97 rfl ?_
              refine h_aload_n C dX9_readNext_98 0 rfl rfl ?_
              refine h_ldcS (i := 14) C Z (by decide) rfl dX9_readNext_99 ?_
              refine h_iconst C dX9_readNext_101 ?_
              refine h_bipush C dX9_readNext_102 (by decide) ?_
              refine h_callV (As := [.ref (cy (1000 + 14)), .int (hpI 1), .int (hpI 20)]) (rest := [.int (hpI (7 + r310)), .ref (z + 201)]) C Z yyX9_toldBy wd_1470 (tgX9_toldBy l D cy z _ 14 (by decide) 1 ⟨by decide, by decide⟩ 20 ⟨by decide, by decide⟩ hI316 (by omega)) kd_195 rfl rfl ⟨rfl, rfl, Nat.le_of_ble_eq_true rfl, Nat.le_of_ble_eq_true rfl⟩ ⟨Nat.le_of_ble_eq_true rfl, Nat.le_of_ble_eq_true rfl⟩ (Nat.le_of_ble_eq_true rfl) dX9_readNext_104 (fun r337 τ337 hp337 => ?_)
              obtain ⟨⟨x337, rfl, ⟨hx337a, hx337b⟩, hx337⟩, hI337, hG337⟩ := hp337
              have hF337 : ∀ j i : Nat, (j ≠ 195 ∨ (i ≠ 8 ∧ i ≠ 9 ∧ i ≠ 10 ∧ i ≠ 11 ∧ i ≠ 12 ∧ i ≠ 13)) → (j ≠ 201 ∨ i = 6) → τ337 j i = σ j i := fun j i h_0 h_1 => (hG337 j i (by omega)).trans (hF316 j i h_0 h_1)
              have hg338 : τ337 201 3 = r310 := (hG337 201 3 (by omega)).trans hg317
              show hpV _ _ _ _ _ _ _ _ _ _ _ _ _ _ _ _ _ _ _ _ _ (_ :: _)
              have y104_3 : τ337 201 3 = τ316 201 3 := hG337 201 3 (by omega)
              have y104_4 : τ337 201 4 = τ316 201 4 := hG337 201 4 (by omega)
              refine h_iastore C dX9_readNext_107 kd_201 (7 + r310).toNat (Int.toNat_of_nonneg (by omega)) (by rw [ln_201]; omega) ?_
              obtain ⟨τ339, e339⟩ : ∃ μ : hpMem, μ = hpw τ337 201 ((7 + r310).toNat) x337 := ⟨_, rfl⟩
              rw [← e339]
              have hI339 : hpInv τ339 := by rw [e339]; exact hpInv.w201 hI337 ((7 + r310).toNat) 15 15 (0) 20 (by omega) (by omega) (by decide) (by omega) (by omega)
              have hF339 : ∀ j i : Nat, (j ≠ 195 ∨ (i ≠ 8 ∧ i ≠ 9 ∧ i ≠ 10 ∧ i ≠ 11 ∧ i ≠ 12 ∧ i ≠ 13)) → (j ≠ 201 ∨ i = 6) → τ339 j i = σ j i := fun j i h_0 h_1 => by rw [e339]; exact (hpw_fr (by omega)).trans (hF337 j i h_0 h_1)
              have hg340 : τ339 201 3 = r310 := by rw [e339]; exact (hpw_fr (Or.inr (by omega))).trans hg338
              have y107_3 : τ339 201 3 = τ337 201 3 := by rw [e339]; exact hpw_fr (Or.inr (by omega))
              have y107_4 : τ339 201 4 = τ337 201 4 := by rw [e339]; exact hpw_fr (Or.inr (by omega))
              refine h_aload_n C dX9_readNext_108 0 rfl rfl ?_
              refine h_get C O9 14 kd_195 (by decide) wd_1270 dX9_readNext_109 fr_195_14 ?_
              refine h_iconst C dX9_readNext_112 ?_
              refine h_dup2 C rfl rfl dX9_readNext_113 ?_
              refine h_iaload C dX9_readNext_114 kd_201 3 rfl (by rw [ln_201]; decide) rfl ?_
              rw [hg340]
              refine h_iconst C dX9_readNext_115 ?_
              refine h_iadd C dX9_readNext_116 rfl ?_
              refine h_iastore C dX9_readNext_117 kd_201 3 rfl (by rw [ln_201]; decide) ?_
              obtain ⟨τ341, e341⟩ : ∃ μ : hpMem, μ = hpw τ339 201 3 (r310 + 1) := ⟨_, rfl⟩
              rw [← e341]
              have hI341 : hpInv τ341 := by rw [e341]; exact hI339.w ((bw_201 3).trans (show hpwb 3 = (0, 8) by decide)) (by omega) (by omega)
              have hF341 : ∀ j i : Nat, (j ≠ 195 ∨ (i ≠ 8 ∧ i ≠ 9 ∧ i ≠ 10 ∧ i ≠ 11 ∧ i ≠ 12 ∧ i ≠ 13)) → (j ≠ 201 ∨ i = 6) → τ341 j i = σ j i := fun j i h_0 h_1 => by rw [e341]; exact (hpw_fr (by omega)).trans (hF339 j i h_0 h_1)
              have hg342 : τ341 201 3 = r310 + 1 := by rw [e341]; exact hpw_eq
              have y117_4 : τ341 201 4 = τ339 201 4 := by rw [e341]; exact hpw_fr (Or.inr (by decide))
              refine h_goto (tgt := 179) C dX9_readNext_118 (by decide) ?_
              refine h_return C hr hlk dX9_readNext_179 ?_
              exact ⟨rfl, hI341, hF341, by omega⟩
          · refine h_return C hr hlk dX9_readNext_75 ?_
            exact ⟨rfl, hI312, hF312, by omega⟩
        · refine h_aload_n C dX9_readNext_43 0 rfl rfl ?_
          refine h_ldcS (i := 13) C Z (by decide) rfl dX9_readNext_44 ?_
          refine h_callV (As := [.ref (cy (1000 + 13))]) (rest := []) C Z yyX9_is wd_1459 (tgX9_is l D cy z _ 13 (by decide) hI) kd_195 rfl rfl ⟨rfl, rfl, Nat.le_of_ble_eq_true rfl, Nat.le_of_ble_eq_true rfl⟩ ⟨Nat.le_of_ble_eq_true rfl, Nat.le_of_ble_eq_true rfl⟩ (Nat.le_of_ble_eq_true rfl) dX9_readNext_46 (fun r343 τ343 hp343 => ?_)
          obtain ⟨⟨x343, rfl, ⟨hx343a, hx343b⟩, hx343⟩, rfl⟩ := hp343
          show hpV _ _ _ _ _ _ _ _ _ _ _ _ _ _ _ _ _ _ _ _ _ (_ :: _)
          refine h_if_eq (tgt := 68) C dX9_readNext_49 (by decide) ⟨by omega, by omega⟩ (fun h344 => ?_) (fun h344 => ?_)
          · refine h_aload_n C dX9_readNext_68 0 rfl rfl ?_
            refine h_callV (As := []) (rest := []) C Z yyX9_good wd_1438 (tgX9_good l D cy z _ hI) kd_195 rfl rfl ⟨rfl, rfl, Nat.le_of_ble_eq_true rfl, Nat.le_of_ble_eq_true rfl⟩ ⟨Nat.le_of_ble_eq_true rfl, Nat.le_of_ble_eq_true rfl⟩ (Nat.le_of_ble_eq_true rfl) dX9_readNext_69 (fun r345 τ345 hp345 => ?_)
            obtain ⟨⟨x345, rfl, ⟨hx345a, hx345b⟩, hx345⟩, rfl⟩ := hp345
            show hpV _ _ _ _ _ _ _ _ _ _ _ _ _ _ _ _ _ _ _ _ _ (_ :: _)
            refine h_if_ne (tgt := 76) C dX9_readNext_72 (by decide) ⟨by omega, by omega⟩ (fun h346 => ?_) (fun h346 => ?_)
            · refine h_aload_n C dX9_readNext_76 0 rfl rfl ?_
              refine h_ldcS (i := 12) C Z (by decide) rfl dX9_readNext_77 ?_
              refine h_callV (As := [.ref (cy (1000 + 12))]) (rest := []) C Z yyX9_takes wd_1455 (tgX9_takes l D cy z _ 12 (by decide) hI) kd_195 rfl rfl ⟨rfl, rfl, Nat.le_of_ble_eq_true rfl, Nat.le_of_ble_eq_true rfl⟩ ⟨Nat.le_of_ble_eq_true rfl, Nat.le_of_ble_eq_true rfl⟩ (Nat.le_of_ble_eq_true rfl) dX9_readNext_79 (fun r347 τ347 hp347 => ?_)
              obtain ⟨⟨x347, rfl, ⟨hx347a, hx347b⟩, hx347⟩, hI347, hG347⟩ := hp347
              have hF347 : ∀ j i : Nat, (j ≠ 195 ∨ (i ≠ 8 ∧ i ≠ 9 ∧ i ≠ 10 ∧ i ≠ 11 ∧ i ≠ 12 ∧ i ≠ 13)) → (j ≠ 201 ∨ i = 6) → τ347 j i = σ j i := fun j i h_0 h_1 => (hG347 j i (by omega)).trans (hF0 j i h_0 h_1)
              have hg348 : τ347 201 3 = r310 := (hG347 201 3 (by omega)).trans hg310
              show hpV _ _ _ _ _ _ _ _ _ _ _ _ _ _ _ _ _ _ _ _ _ (_ :: _)
              have y79_3 : τ347 201 3 = σ 201 3 := hG347 201 3 (by omega)
              have y79_4 : τ347 201 4 = σ 201 4 := hG347 201 4 (by omega)
              refine h_if_eq (tgt := 121) C dX9_readNext_82 (by decide) ⟨by omega, by omega⟩ (fun h349 => ?_) (fun h349 => ?_)
              · refine h_aload_n C dX9_readNext_121 0 rfl rfl ?_
                refine h_callV (As := []) (rest := []) C Z yyX9_advance wd_1424 (tgX9_advance l D cy z _ hI347) kd_195 rfl rfl ⟨rfl, rfl, Nat.le_of_ble_eq_true rfl, Nat.le_of_ble_eq_true rfl⟩ ⟨Nat.le_of_ble_eq_true rfl, Nat.le_of_ble_eq_true rfl⟩ (Nat.le_of_ble_eq_true rfl) dX9_readNext_122 (fun r350 τ350 hp350 => ?_)
                obtain ⟨rfl, hI350, hG350⟩ := hp350
                have hF350 : ∀ j i : Nat, (j ≠ 195 ∨ (i ≠ 8 ∧ i ≠ 9 ∧ i ≠ 10 ∧ i ≠ 11 ∧ i ≠ 12 ∧ i ≠ 13)) → (j ≠ 201 ∨ i = 6) → τ350 j i = σ j i := fun j i h_0 h_1 => (hG350 j i (by omega)).trans (hF347 j i h_0 h_1)
                have hg351 : τ350 201 3 = r310 := (hG350 201 3 (by omega)).trans hg348
                show hpV _ _ _ _ _ _ _ _ _ _ _ _ _ _ _ _ _ _ _ _ _ []
                have y122_3 : τ350 201 3 = τ347 201 3 := hG350 201 3 (by omega)
                have y122_4 : τ350 201 4 = τ347 201 4 := hG350 201 4 (by omega)
                refine h_bipush C dX9_readNext_125 (by decide) ?_
                refine h_iconst C dX9_readNext_127 ?_
                refine h_aload_n C dX9_readNext_128 0 rfl rfl ?_
                refine h_get C O9 14 kd_195 (by decide) wd_1270 dX9_readNext_129 fr_195_14 ?_
                refine h_iconst C dX9_readNext_132 ?_
                refine h_iaload C dX9_readNext_133 kd_201 4 rfl (by rw [ln_201]; decide) rfl ?_
                obtain ⟨hr352a, hr352b⟩ := hI350.b ((bw_201 4).trans (show hpwb 4 = (0, 6) by decide))
                generalize hg352 : τ350 201 4 = r352 at hr352a hr352b ⊢
                refine h_imul C dX9_readNext_134 rfl ?_
                refine h_iadd C dX9_readNext_135 rfl ?_
                refine h_istore_n (lv' := [(1, .int (hpI (15 + (2 * r352)))), (0, .ref (z + 195))]) C dX9_readNext_136 rfl (by decide) rfl ?_
                refine h_aload_n C dX9_readNext_137 1 rfl rfl ?_
                refine h_get C O9 14 kd_195 (by decide) wd_1270 dX9_readNext_138 fr_195_14 ?_
                refine h_iload_n C dX9_readNext_141 0 rfl rfl ?_
                refine h_aload_n C dX9_readNext_142 1 rfl rfl ?_
                refine h_ldcS (i := 14) C Z (by decide) rfl dX9_readNext_143 ?_
                refine h_iconst C dX9_readNext_145 ?_
                refine h_bipush C dX9_readNext_146 (by decide) ?_
                refine h_callV (As := [.ref (cy (1000 + 14)), .int (hpI 1), .int (hpI 20)]) (rest := [.int (hpI (15 + (2 * r352))), .ref (z + 201)]) C Z yyX9_toldBy wd_1470 (tgX9_toldBy l D cy z _ 14 (by decide) 1 ⟨by decide, by decide⟩ 20 ⟨by decide, by decide⟩ hI350 (by omega)) kd_195 rfl rfl ⟨rfl, rfl, Nat.le_of_ble_eq_true rfl, Nat.le_of_ble_eq_true rfl⟩ ⟨Nat.le_of_ble_eq_true rfl, Nat.le_of_ble_eq_true rfl⟩ (Nat.le_of_ble_eq_true rfl) dX9_readNext_148 (fun r353 τ353 hp353 => ?_)
                obtain ⟨⟨x353, rfl, ⟨hx353a, hx353b⟩, hx353⟩, hI353, hG353⟩ := hp353
                have hF353 : ∀ j i : Nat, (j ≠ 195 ∨ (i ≠ 8 ∧ i ≠ 9 ∧ i ≠ 10 ∧ i ≠ 11 ∧ i ≠ 12 ∧ i ≠ 13)) → (j ≠ 201 ∨ i = 6) → τ353 j i = σ j i := fun j i h_0 h_1 => (hG353 j i (by omega)).trans (hF350 j i h_0 h_1)
                have hg354 : τ353 201 3 = r310 := (hG353 201 3 (by omega)).trans hg351
                have hg355 : τ353 201 4 = r352 := (hG353 201 4 (by omega)).trans hg352
                show hpV _ _ _ _ _ _ _ _ _ _ _ _ _ _ _ _ _ _ _ _ _ (_ :: _)
                have y148_3 : τ353 201 3 = τ350 201 3 := hG353 201 3 (by omega)
                have y148_4 : τ353 201 4 = τ350 201 4 := hG353 201 4 (by omega)
                refine h_iastore C dX9_readNext_151 kd_201 (15 + (2 * r352)).toNat (Int.toNat_of_nonneg (by omega)) (by rw [ln_201]; omega) ?_
                obtain ⟨τ356, e356⟩ : ∃ μ : hpMem, μ = hpw τ353 201 ((15 + (2 * r352)).toNat) x353 := ⟨_, rfl⟩
                rw [← e356]
                have hI356 : hpInv τ356 := by rw [e356]; exact hpInv.w201 hI353 ((15 + (2 * r352)).toNat) 15 27 (0) 20 (by omega) (by omega) (by decide) (by omega) (by omega)
                have hF356 : ∀ j i : Nat, (j ≠ 195 ∨ (i ≠ 8 ∧ i ≠ 9 ∧ i ≠ 10 ∧ i ≠ 11 ∧ i ≠ 12 ∧ i ≠ 13)) → (j ≠ 201 ∨ i = 6) → τ356 j i = σ j i := fun j i h_0 h_1 => by rw [e356]; exact (hpw_fr (by omega)).trans (hF353 j i h_0 h_1)
                have hg357 : τ356 201 3 = r310 := by rw [e356]; exact (hpw_fr (Or.inr (by omega))).trans hg354
                have hg358 : τ356 201 4 = r352 := by rw [e356]; exact (hpw_fr (Or.inr (by omega))).trans hg355
                have y151_3 : τ356 201 3 = τ353 201 3 := by rw [e356]; exact hpw_fr (Or.inr (by omega))
                have y151_4 : τ356 201 4 = τ353 201 4 := by rw [e356]; exact hpw_fr (Or.inr (by omega))
                refine h_aload_n C dX9_readNext_152 1 rfl rfl ?_
                refine h_get C O9 14 kd_195 (by decide) wd_1270 dX9_readNext_153 fr_195_14 ?_
                refine h_iload_n C dX9_readNext_156 0 rfl rfl ?_
                refine h_iconst C dX9_readNext_157 ?_
                refine h_iadd C dX9_readNext_158 rfl ?_
                refine h_aload_n C dX9_readNext_159 1 rfl rfl ?_
                refine h_ldcS (i := 15) C Z (by decide) rfl dX9_readNext_160 ?_
                refine h_iconst C dX9_readNext_162 ?_
                refine h_bipush C dX9_readNext_163 (by decide) ?_
                refine h_callV (As := [.ref (cy (1000 + 15)), .int (hpI 0), .int (hpI 15)]) (rest := [.int (hpI ((15 + (2 * r352)) + 1)), .ref (z + 201)]) C Z yyX9_toldBy wd_1470 (tgX9_toldBy l D cy z _ 15 (by decide) 0 ⟨by decide, by decide⟩ 15 ⟨by decide, by decide⟩ hI356 (by omega)) kd_195 rfl rfl ⟨rfl, rfl, Nat.le_of_ble_eq_true rfl, Nat.le_of_ble_eq_true rfl⟩ ⟨Nat.le_of_ble_eq_true rfl, Nat.le_of_ble_eq_true rfl⟩ (Nat.le_of_ble_eq_true rfl) dX9_readNext_165 (fun r359 τ359 hp359 => ?_)
                obtain ⟨⟨x359, rfl, ⟨hx359a, hx359b⟩, hx359⟩, hI359, hG359⟩ := hp359
                have hF359 : ∀ j i : Nat, (j ≠ 195 ∨ (i ≠ 8 ∧ i ≠ 9 ∧ i ≠ 10 ∧ i ≠ 11 ∧ i ≠ 12 ∧ i ≠ 13)) → (j ≠ 201 ∨ i = 6) → τ359 j i = σ j i := fun j i h_0 h_1 => (hG359 j i (by omega)).trans (hF356 j i h_0 h_1)
                have hg360 : τ359 201 3 = r310 := (hG359 201 3 (by omega)).trans hg357
                have hg361 : τ359 201 4 = r352 := (hG359 201 4 (by omega)).trans hg358
                show hpV _ _ _ _ _ _ _ _ _ _ _ _ _ _ _ _ _ _ _ _ _ (_ :: _)
                have y165_3 : τ359 201 3 = τ356 201 3 := hG359 201 3 (by omega)
                have y165_4 : τ359 201 4 = τ356 201 4 := hG359 201 4 (by omega)
                refine h_iastore C dX9_readNext_168 kd_201 ((15 + (2 * r352)) + 1).toNat (Int.toNat_of_nonneg (by omega)) (by rw [ln_201]; omega) ?_
                obtain ⟨τ362, e362⟩ : ∃ μ : hpMem, μ = hpw τ359 201 (((15 + (2 * r352)) + 1).toNat) x359 := ⟨_, rfl⟩
                rw [← e362]
                have hI362 : hpInv τ362 := by rw [e362]; exact hpInv.w201 hI359 (((15 + (2 * r352)) + 1).toNat) 16 28 (0) 20 (by omega) (by omega) (by decide) (by omega) (by omega)
                have hF362 : ∀ j i : Nat, (j ≠ 195 ∨ (i ≠ 8 ∧ i ≠ 9 ∧ i ≠ 10 ∧ i ≠ 11 ∧ i ≠ 12 ∧ i ≠ 13)) → (j ≠ 201 ∨ i = 6) → τ362 j i = σ j i := fun j i h_0 h_1 => by rw [e362]; exact (hpw_fr (by omega)).trans (hF359 j i h_0 h_1)
                have hg363 : τ362 201 3 = r310 := by rw [e362]; exact (hpw_fr (Or.inr (by omega))).trans hg360
                have hg364 : τ362 201 4 = r352 := by rw [e362]; exact (hpw_fr (Or.inr (by omega))).trans hg361
                have y168_3 : τ362 201 3 = τ359 201 3 := by rw [e362]; exact hpw_fr (Or.inr (by omega))
                have y168_4 : τ362 201 4 = τ359 201 4 := by rw [e362]; exact hpw_fr (Or.inr (by omega))
                refine h_aload_n C dX9_readNext_169 1 rfl rfl ?_
                refine h_get C O9 14 kd_195 (by decide) wd_1270 dX9_readNext_170 fr_195_14 ?_
                refine h_iconst C dX9_readNext_173 ?_
                refine h_dup2 C rfl rfl dX9_readNext_174 ?_
                refine h_iaload C dX9_readNext_175 kd_201 4 rfl (by rw [ln_201]; decide) rfl ?_
                rw [hg364]
                refine h_iconst C dX9_readNext_176 ?_
                refine h_iadd C dX9_readNext_177 rfl ?_
                refine h_iastore C dX9_readNext_178 kd_201 4 rfl (by rw [ln_201]; decide) ?_
                obtain ⟨τ365, e365⟩ : ∃ μ : hpMem, μ = hpw τ362 201 4 (r352 + 1) := ⟨_, rfl⟩
                rw [← e365]
                have hI365 : hpInv τ365 := by rw [e365]; exact hI362.w ((bw_201 4).trans (show hpwb 4 = (0, 6) by decide)) (by omega) (by omega)
                have hF365 : ∀ j i : Nat, (j ≠ 195 ∨ (i ≠ 8 ∧ i ≠ 9 ∧ i ≠ 10 ∧ i ≠ 11 ∧ i ≠ 12 ∧ i ≠ 13)) → (j ≠ 201 ∨ i = 6) → τ365 j i = σ j i := fun j i h_0 h_1 => by rw [e365]; exact (hpw_fr (by omega)).trans (hF362 j i h_0 h_1)
                have hg366 : τ365 201 3 = r310 := by rw [e365]; exact (hpw_fr (Or.inr (by decide))).trans hg363
                have hg367 : τ365 201 4 = r352 + 1 := by rw [e365]; exact hpw_eq
                have y178_3 : τ365 201 3 = τ362 201 3 := by rw [e365]; exact hpw_fr (Or.inr (by decide))
                refine h_return C hr hlk dX9_readNext_179 ?_
                exact ⟨rfl, hI365, hF365, by omega⟩
              · refine h_aload_n C dX9_readNext_85 0 rfl rfl ?_
                refine h_get C O9 14 kd_195 (by decide) wd_1270 dX9_readNext_86 fr_195_14 ?_
                refine h_bipush C dX9_readNext_89 (by decide) ?_
                refine h_aload_n C dX9_readNext_91 0 rfl rfl ?_
                refine h_get C O9 14 kd_195 (by decide) wd_1270 dX9_readNext_92 fr_195_14 ?_
                refine h_iconst C dX9_readNext_95 ?_
                refine h_iaload C dX9_readNext_96 kd_201 3 rfl (by rw [ln_201]; decide) rfl ?_
                rw [hg348]
                refine h_iadd C dX9_readNext_97 rfl ?_
                refine h_aload_n C dX9_readNext_98 0 rfl rfl ?_
                refine h_ldcS (i := 14) C Z (by decide) rfl dX9_readNext_99 ?_
                refine h_iconst C dX9_readNext_101 ?_
                refine h_bipush C dX9_readNext_102 (by decide) ?_
                refine h_callV (As := [.ref (cy (1000 + 14)), .int (hpI 1), .int (hpI 20)]) (rest := [.int (hpI (7 + r310)), .ref (z + 201)]) C Z yyX9_toldBy wd_1470 (tgX9_toldBy l D cy z _ 14 (by decide) 1 ⟨by decide, by decide⟩ 20 ⟨by decide, by decide⟩ hI347 (by omega)) kd_195 rfl rfl ⟨rfl, rfl, Nat.le_of_ble_eq_true rfl, Nat.le_of_ble_eq_true rfl⟩ ⟨Nat.le_of_ble_eq_true rfl, Nat.le_of_ble_eq_true rfl⟩ (Nat.le_of_ble_eq_true rfl) dX9_readNext_104 (fun r368 τ368 hp368 => ?_)
                obtain ⟨⟨x368, rfl, ⟨hx368a, hx368b⟩, hx368⟩, hI368, hG368⟩ := hp368
                have hF368 : ∀ j i : Nat, (j ≠ 195 ∨ (i ≠ 8 ∧ i ≠ 9 ∧ i ≠ 10 ∧ i ≠ 11 ∧ i ≠ 12 ∧ i ≠ 13)) → (j ≠ 201 ∨ i = 6) → τ368 j i = σ j i := fun j i h_0 h_1 => (hG368 j i (by omega)).trans (hF347 j i h_0 h_1)
                have hg369 : τ368 201 3 = r310 := (hG368 201 3 (by omega)).trans hg348
                show hpV _ _ _ _ _ _ _ _ _ _ _ _ _ _ _ _ _ _ _ _ _ (_ :: _)
                have y104_3 : τ368 201 3 = τ347 201 3 := hG368 201 3 (by omega)
                have y104_4 : τ368 201 4 = τ347 201 4 := hG368 201 4 (by omega)
                refine h_iastore C dX9_readNext_107 kd_201 (7 + r310).toNat (Int.toNat_of_nonneg (by omega)) (by rw [ln_201]; omega) ?_
                obtain ⟨τ370, e370⟩ : ∃ μ : hpMem, μ = hpw τ368 201 ((7 + r310).toNat) x368 := ⟨_, rfl⟩
                rw [← e370]
                have hI370 : hpInv τ370 := by rw [e370]; exact hpInv.w201 hI368 ((7 + r310).toNat) 7 14 (0) 20 (by omega) (by omega) (by decide) (by omega) (by omega)
                have hF370 : ∀ j i : Nat, (j ≠ 195 ∨ (i ≠ 8 ∧ i ≠ 9 ∧ i ≠ 10 ∧ i ≠ 11 ∧ i ≠ 12 ∧ i ≠ 13)) → (j ≠ 201 ∨ i = 6) → τ370 j i = σ j i := fun j i h_0 h_1 => by rw [e370]; exact (hpw_fr (by omega)).trans (hF368 j i h_0 h_1)
                have hg371 : τ370 201 3 = r310 := by rw [e370]; exact (hpw_fr (Or.inr (by omega))).trans hg369
                have y107_3 : τ370 201 3 = τ368 201 3 := by rw [e370]; exact hpw_fr (Or.inr (by omega))
                have y107_4 : τ370 201 4 = τ368 201 4 := by rw [e370]; exact hpw_fr (Or.inr (by omega))
                refine h_aload_n C dX9_readNext_108 0 rfl rfl ?_
                refine h_get C O9 14 kd_195 (by decide) wd_1270 dX9_readNext_109 fr_195_14 ?_
                refine h_iconst C dX9_readNext_112 ?_
                refine h_dup2 C rfl rfl dX9_readNext_113 ?_
                refine h_iaload C dX9_readNext_114 kd_201 3 rfl (by rw [ln_201]; decide) rfl ?_
                rw [hg371]
                refine h_iconst C dX9_readNext_115 ?_
                refine h_iadd C dX9_readNext_116 rfl ?_
                refine h_iastore C dX9_readNext_117 kd_201 3 rfl (by rw [ln_201]; decide) ?_
                obtain ⟨τ372, e372⟩ : ∃ μ : hpMem, μ = hpw τ370 201 3 (r310 + 1) := ⟨_, rfl⟩
                rw [← e372]
                have hI372 : hpInv τ372 := by rw [e372]; exact hI370.w ((bw_201 3).trans (show hpwb 3 = (0, 8) by decide)) (by omega) (by omega)
                have hF372 : ∀ j i : Nat, (j ≠ 195 ∨ (i ≠ 8 ∧ i ≠ 9 ∧ i ≠ 10 ∧ i ≠ 11 ∧ i ≠ 12 ∧ i ≠ 13)) → (j ≠ 201 ∨ i = 6) → τ372 j i = σ j i := fun j i h_0 h_1 => by rw [e372]; exact (hpw_fr (by omega)).trans (hF370 j i h_0 h_1)
                have hg373 : τ372 201 3 = r310 + 1 := by rw [e372]; exact hpw_eq
                have y117_4 : τ372 201 4 = τ370 201 4 := by rw [e372]; exact hpw_fr (Or.inr (by decide))
                refine h_goto (tgt := 179) C dX9_readNext_118 (by decide) ?_
                refine h_return C hr hlk dX9_readNext_179 ?_
                exact ⟨rfl, hI372, hF372, by omega⟩
            · refine h_return C hr hlk dX9_readNext_75 ?_
              exact ⟨rfl, hI, hF0, by omega⟩
          · refine h_aload_n C dX9_readNext_52 0 rfl rfl ?_
            refine h_get C O9 14 kd_195 (by decide) wd_1270 dX9_readNext_53 fr_195_14 ?_
            refine h_iconst C dX9_readNext_56 ?_
            refine h_iaload C dX9_readNext_57 kd_201 4 rfl (by rw [ln_201]; decide) rfl ?_
            obtain ⟨hr374a, hr374b⟩ := hI.b ((bw_201 4).trans (show hpwb 4 = (0, 6) by decide))
            generalize hg374 : σ 201 4 = r374 at hr374a hr374b ⊢
            refine h_bipush C dX9_readNext_58 (by decide) ?_
            refine h_icmp_ne (tgt := 68) C dX9_readNext_60 (by decide) ⟨by omega, by omega⟩ ⟨by decide, by decide⟩ (fun h375 => ?_) (fun h375 => ?_)
            · refine h_aload_n C dX9_readNext_68 0 rfl rfl ?_
              refine h_callV (As := []) (rest := []) C Z yyX9_good wd_1438 (tgX9_good l D cy z _ hI) kd_195 rfl rfl ⟨rfl, rfl, Nat.le_of_ble_eq_true rfl, Nat.le_of_ble_eq_true rfl⟩ ⟨Nat.le_of_ble_eq_true rfl, Nat.le_of_ble_eq_true rfl⟩ (Nat.le_of_ble_eq_true rfl) dX9_readNext_69 (fun r376 τ376 hp376 => ?_)
              obtain ⟨⟨x376, rfl, ⟨hx376a, hx376b⟩, hx376⟩, rfl⟩ := hp376
              show hpV _ _ _ _ _ _ _ _ _ _ _ _ _ _ _ _ _ _ _ _ _ (_ :: _)
              refine h_if_ne (tgt := 76) C dX9_readNext_72 (by decide) ⟨by omega, by omega⟩ (fun h377 => ?_) (fun h377 => ?_)
              · refine h_aload_n C dX9_readNext_76 0 rfl rfl ?_
                refine h_ldcS (i := 12) C Z (by decide) rfl dX9_readNext_77 ?_
                refine h_callV (As := [.ref (cy (1000 + 12))]) (rest := []) C Z yyX9_takes wd_1455 (tgX9_takes l D cy z _ 12 (by decide) hI) kd_195 rfl rfl ⟨rfl, rfl, Nat.le_of_ble_eq_true rfl, Nat.le_of_ble_eq_true rfl⟩ ⟨Nat.le_of_ble_eq_true rfl, Nat.le_of_ble_eq_true rfl⟩ (Nat.le_of_ble_eq_true rfl) dX9_readNext_79 (fun r378 τ378 hp378 => ?_)
                obtain ⟨⟨x378, rfl, ⟨hx378a, hx378b⟩, hx378⟩, hI378, hG378⟩ := hp378
                have hF378 : ∀ j i : Nat, (j ≠ 195 ∨ (i ≠ 8 ∧ i ≠ 9 ∧ i ≠ 10 ∧ i ≠ 11 ∧ i ≠ 12 ∧ i ≠ 13)) → (j ≠ 201 ∨ i = 6) → τ378 j i = σ j i := fun j i h_0 h_1 => (hG378 j i (by omega)).trans (hF0 j i h_0 h_1)
                have hg379 : τ378 201 3 = r310 := (hG378 201 3 (by omega)).trans hg310
                have hg380 : τ378 201 4 = r374 := (hG378 201 4 (by omega)).trans hg374
                show hpV _ _ _ _ _ _ _ _ _ _ _ _ _ _ _ _ _ _ _ _ _ (_ :: _)
                have y79_3 : τ378 201 3 = σ 201 3 := hG378 201 3 (by omega)
                have y79_4 : τ378 201 4 = σ 201 4 := hG378 201 4 (by omega)
                refine h_if_eq (tgt := 121) C dX9_readNext_82 (by decide) ⟨by omega, by omega⟩ (fun h381 => ?_) (fun h381 => ?_)
                · refine h_aload_n C dX9_readNext_121 0 rfl rfl ?_
                  refine h_callV (As := []) (rest := []) C Z yyX9_advance wd_1424 (tgX9_advance l D cy z _ hI378) kd_195 rfl rfl ⟨rfl, rfl, Nat.le_of_ble_eq_true rfl, Nat.le_of_ble_eq_true rfl⟩ ⟨Nat.le_of_ble_eq_true rfl, Nat.le_of_ble_eq_true rfl⟩ (Nat.le_of_ble_eq_true rfl) dX9_readNext_122 (fun r382 τ382 hp382 => ?_)
                  obtain ⟨rfl, hI382, hG382⟩ := hp382
                  have hF382 : ∀ j i : Nat, (j ≠ 195 ∨ (i ≠ 8 ∧ i ≠ 9 ∧ i ≠ 10 ∧ i ≠ 11 ∧ i ≠ 12 ∧ i ≠ 13)) → (j ≠ 201 ∨ i = 6) → τ382 j i = σ j i := fun j i h_0 h_1 => (hG382 j i (by omega)).trans (hF378 j i h_0 h_1)
                  have hg383 : τ382 201 3 = r310 := (hG382 201 3 (by omega)).trans hg379
                  have hg384 : τ382 201 4 = r374 := (hG382 201 4 (by omega)).trans hg380
                  show hpV _ _ _ _ _ _ _ _ _ _ _ _ _ _ _ _ _ _ _ _ _ []
                  have y122_3 : τ382 201 3 = τ378 201 3 := hG382 201 3 (by omega)
                  have y122_4 : τ382 201 4 = τ378 201 4 := hG382 201 4 (by omega)
                  refine h_bipush C dX9_readNext_125 (by decide) ?_
                  refine h_iconst C dX9_readNext_127 ?_
                  refine h_aload_n C dX9_readNext_128 0 rfl rfl ?_
                  refine h_get C O9 14 kd_195 (by decide) wd_1270 dX9_readNext_129 fr_195_14 ?_
                  refine h_iconst C dX9_readNext_132 ?_
                  refine h_iaload C dX9_readNext_133 kd_201 4 rfl (by rw [ln_201]; decide) rfl ?_
                  rw [hg384]
                  refine h_imul C dX9_readNext_134 rfl ?_
                  refine h_iadd C dX9_readNext_135 rfl ?_
                  refine h_istore_n (lv' := [(1, .int (hpI (15 + (2 * r374)))), (0, .ref (z + 195))]) C dX9_readNext_136 rfl (by decide) rfl ?_
                  refine h_aload_n C dX9_readNext_137 1 rfl rfl ?_
                  refine h_get C O9 14 kd_195 (by decide) wd_1270 dX9_readNext_138 fr_195_14 ?_
                  refine h_iload_n C dX9_readNext_141 0 rfl rfl ?_
                  refine h_aload_n C dX9_readNext_142 1 rfl rfl ?_
                  refine h_ldcS (i := 14) C Z (by decide) rfl dX9_readNext_143 ?_
                  refine h_iconst C dX9_readNext_145 ?_
                  refine h_bipush C dX9_readNext_146 (by decide) ?_
                  refine h_callV (As := [.ref (cy (1000 + 14)), .int (hpI 1), .int (hpI 20)]) (rest := [.int (hpI (15 + (2 * r374))), .ref (z + 201)]) C Z yyX9_toldBy wd_1470 (tgX9_toldBy l D cy z _ 14 (by decide) 1 ⟨by decide, by decide⟩ 20 ⟨by decide, by decide⟩ hI382 (by omega)) kd_195 rfl rfl ⟨rfl, rfl, Nat.le_of_ble_eq_true rfl, Nat.le_of_ble_eq_true rfl⟩ ⟨Nat.le_of_ble_eq_true rfl, Nat.le_of_ble_eq_true rfl⟩ (Nat.le_of_ble_eq_true rfl) dX9_readNext_148 (fun r385 τ385 hp385 => ?_)
                  obtain ⟨⟨x385, rfl, ⟨hx385a, hx385b⟩, hx385⟩, hI385, hG385⟩ := hp385
                  have hF385 : ∀ j i : Nat, (j ≠ 195 ∨ (i ≠ 8 ∧ i ≠ 9 ∧ i ≠ 10 ∧ i ≠ 11 ∧ i ≠ 12 ∧ i ≠ 13)) → (j ≠ 201 ∨ i = 6) → τ385 j i = σ j i := fun j i h_0 h_1 => (hG385 j i (by omega)).trans (hF382 j i h_0 h_1)
                  have hg386 : τ385 201 3 = r310 := (hG385 201 3 (by omega)).trans hg383
                  have hg387 : τ385 201 4 = r374 := (hG385 201 4 (by omega)).trans hg384
                  show hpV _ _ _ _ _ _ _ _ _ _ _ _ _ _ _ _ _ _ _ _ _ (_ :: _)
                  have y148_3 : τ385 201 3 = τ382 201 3 := hG385 201 3 (by omega)
                  have y148_4 : τ385 201 4 = τ382 201 4 := hG385 201 4 (by omega)
                  refine h_iastore C dX9_readNext_151 kd_201 (15 + (2 * r374)).toNat (Int.toNat_of_nonneg (by omega)) (by rw [ln_201]; omega) ?_
                  obtain ⟨τ388, e388⟩ : ∃ μ : hpMem, μ = hpw τ385 201 ((15 + (2 * r374)).toNat) x385 := ⟨_, rfl⟩
                  rw [← e388]
                  have hI388 : hpInv τ388 := by rw [e388]; exact hpInv.w201 hI385 ((15 + (2 * r374)).toNat) 15 25 (0) 20 (by omega) (by omega) (by decide) (by omega) (by omega)
                  have hF388 : ∀ j i : Nat, (j ≠ 195 ∨ (i ≠ 8 ∧ i ≠ 9 ∧ i ≠ 10 ∧ i ≠ 11 ∧ i ≠ 12 ∧ i ≠ 13)) → (j ≠ 201 ∨ i = 6) → τ388 j i = σ j i := fun j i h_0 h_1 => by rw [e388]; exact (hpw_fr (by omega)).trans (hF385 j i h_0 h_1)
                  have hg389 : τ388 201 3 = r310 := by rw [e388]; exact (hpw_fr (Or.inr (by omega))).trans hg386
                  have hg390 : τ388 201 4 = r374 := by rw [e388]; exact (hpw_fr (Or.inr (by omega))).trans hg387
                  have y151_3 : τ388 201 3 = τ385 201 3 := by rw [e388]; exact hpw_fr (Or.inr (by omega))
                  have y151_4 : τ388 201 4 = τ385 201 4 := by rw [e388]; exact hpw_fr (Or.inr (by omega))
                  refine h_aload_n C dX9_readNext_152 1 rfl rfl ?_
                  refine h_get C O9 14 kd_195 (by decide) wd_1270 dX9_readNext_153 fr_195_14 ?_
                  refine h_iload_n C dX9_readNext_156 0 rfl rfl ?_
                  refine h_iconst C dX9_readNext_157 ?_
                  refine h_iadd C dX9_readNext_158 rfl ?_
                  refine h_aload_n C dX9_readNext_159 1 rfl rfl ?_
                  refine h_ldcS (i := 15) C Z (by decide) rfl dX9_readNext_160 ?_
                  refine h_iconst C dX9_readNext_162 ?_
                  refine h_bipush C dX9_readNext_163 (by decide) ?_
                  refine h_callV (As := [.ref (cy (1000 + 15)), .int (hpI 0), .int (hpI 15)]) (rest := [.int (hpI ((15 + (2 * r374)) + 1)), .ref (z + 201)]) C Z yyX9_toldBy wd_1470 (tgX9_toldBy l D cy z _ 15 (by decide) 0 ⟨by decide, by decide⟩ 15 ⟨by decide, by decide⟩ hI388 (by omega)) kd_195 rfl rfl ⟨rfl, rfl, Nat.le_of_ble_eq_true rfl, Nat.le_of_ble_eq_true rfl⟩ ⟨Nat.le_of_ble_eq_true rfl, Nat.le_of_ble_eq_true rfl⟩ (Nat.le_of_ble_eq_true rfl) dX9_readNext_165 (fun r391 τ391 hp391 => ?_)
                  obtain ⟨⟨x391, rfl, ⟨hx391a, hx391b⟩, hx391⟩, hI391, hG391⟩ := hp391
                  have hF391 : ∀ j i : Nat, (j ≠ 195 ∨ (i ≠ 8 ∧ i ≠ 9 ∧ i ≠ 10 ∧ i ≠ 11 ∧ i ≠ 12 ∧ i ≠ 13)) → (j ≠ 201 ∨ i = 6) → τ391 j i = σ j i := fun j i h_0 h_1 => (hG391 j i (by omega)).trans (hF388 j i h_0 h_1)
                  have hg392 : τ391 201 3 = r310 := (hG391 201 3 (by omega)).trans hg389
                  have hg393 : τ391 201 4 = r374 := (hG391 201 4 (by omega)).trans hg390
                  show hpV _ _ _ _ _ _ _ _ _ _ _ _ _ _ _ _ _ _ _ _ _ (_ :: _)
                  have y165_3 : τ391 201 3 = τ388 201 3 := hG391 201 3 (by omega)
                  have y165_4 : τ391 201 4 = τ388 201 4 := hG391 201 4 (by omega)
                  refine h_iastore C dX9_readNext_168 kd_201 ((15 + (2 * r374)) + 1).toNat (Int.toNat_of_nonneg (by omega)) (by rw [ln_201]; omega) ?_
                  obtain ⟨τ394, e394⟩ : ∃ μ : hpMem, μ = hpw τ391 201 (((15 + (2 * r374)) + 1).toNat) x391 := ⟨_, rfl⟩
                  rw [← e394]
                  have hI394 : hpInv τ394 := by rw [e394]; exact hpInv.w201 hI391 (((15 + (2 * r374)) + 1).toNat) 16 26 (0) 20 (by omega) (by omega) (by decide) (by omega) (by omega)
                  have hF394 : ∀ j i : Nat, (j ≠ 195 ∨ (i ≠ 8 ∧ i ≠ 9 ∧ i ≠ 10 ∧ i ≠ 11 ∧ i ≠ 12 ∧ i ≠ 13)) → (j ≠ 201 ∨ i = 6) → τ394 j i = σ j i := fun j i h_0 h_1 => by rw [e394]; exact (hpw_fr (by omega)).trans (hF391 j i h_0 h_1)
                  have hg395 : τ394 201 3 = r310 := by rw [e394]; exact (hpw_fr (Or.inr (by omega))).trans hg392
                  have hg396 : τ394 201 4 = r374 := by rw [e394]; exact (hpw_fr (Or.inr (by omega))).trans hg393
                  have y168_3 : τ394 201 3 = τ391 201 3 := by rw [e394]; exact hpw_fr (Or.inr (by omega))
                  have y168_4 : τ394 201 4 = τ391 201 4 := by rw [e394]; exact hpw_fr (Or.inr (by omega))
                  refine h_aload_n C dX9_readNext_169 1 rfl rfl ?_
                  refine h_get C O9 14 kd_195 (by decide) wd_1270 dX9_readNext_170 fr_195_14 ?_
                  refine h_iconst C dX9_readNext_173 ?_
                  refine h_dup2 C rfl rfl dX9_readNext_174 ?_
                  refine h_iaload C dX9_readNext_175 kd_201 4 rfl (by rw [ln_201]; decide) rfl ?_
                  rw [hg396]
                  refine h_iconst C dX9_readNext_176 ?_
                  refine h_iadd C dX9_readNext_177 rfl ?_
                  refine h_iastore C dX9_readNext_178 kd_201 4 rfl (by rw [ln_201]; decide) ?_
                  obtain ⟨τ397, e397⟩ : ∃ μ : hpMem, μ = hpw τ394 201 4 (r374 + 1) := ⟨_, rfl⟩
                  rw [← e397]
                  have hI397 : hpInv τ397 := by rw [e397]; exact hI394.w ((bw_201 4).trans (show hpwb 4 = (0, 6) by decide)) (by omega) (by omega)
                  have hF397 : ∀ j i : Nat, (j ≠ 195 ∨ (i ≠ 8 ∧ i ≠ 9 ∧ i ≠ 10 ∧ i ≠ 11 ∧ i ≠ 12 ∧ i ≠ 13)) → (j ≠ 201 ∨ i = 6) → τ397 j i = σ j i := fun j i h_0 h_1 => by rw [e397]; exact (hpw_fr (by omega)).trans (hF394 j i h_0 h_1)
                  have hg398 : τ397 201 3 = r310 := by rw [e397]; exact (hpw_fr (Or.inr (by decide))).trans hg395
                  have hg399 : τ397 201 4 = r374 + 1 := by rw [e397]; exact hpw_eq
                  have y178_3 : τ397 201 3 = τ394 201 3 := by rw [e397]; exact hpw_fr (Or.inr (by decide))
                  refine h_return C hr hlk dX9_readNext_179 ?_
                  exact ⟨rfl, hI397, hF397, by omega⟩
                · refine h_aload_n C dX9_readNext_85 0 rfl rfl ?_
                  refine h_get C O9 14 kd_195 (by decide) wd_1270 dX9_readNext_86 fr_195_14 ?_
                  refine h_bipush C dX9_readNext_89 (by decide) ?_
                  refine h_aload_n C dX9_readNext_91 0 rfl rfl ?_
                  refine h_get C O9 14 kd_195 (by decide) wd_1270 dX9_readNext_92 fr_195_14 ?_
                  refine h_iconst C dX9_readNext_95 ?_
                  refine h_iaload C dX9_readNext_96 kd_201 3 rfl (by rw [ln_201]; decide) rfl ?_
                  rw [hg379]
                  refine h_iadd C dX9_readNext_97 rfl ?_
                  refine h_aload_n C dX9_readNext_98 0 rfl rfl ?_
                  refine h_ldcS (i := 14) C Z (by decide) rfl dX9_readNext_99 ?_
                  refine h_iconst C dX9_readNext_101 ?_
                  refine h_bipush C dX9_readNext_102 (by decide) ?_
                  refine h_callV (As := [.ref (cy (1000 + 14)), .int (hpI 1), .int (hpI 20)]) (rest := [.int (hpI (7 + r310)), .ref (z + 201)]) C Z yyX9_toldBy wd_1470 (tgX9_toldBy l D cy z _ 14 (by decide) 1 ⟨by decide, by decide⟩ 20 ⟨by decide, by decide⟩ hI378 (by omega)) kd_195 rfl rfl ⟨rfl, rfl, Nat.le_of_ble_eq_true rfl, Nat.le_of_ble_eq_true rfl⟩ ⟨Nat.le_of_ble_eq_true rfl, Nat.le_of_ble_eq_true rfl⟩ (Nat.le_of_ble_eq_true rfl) dX9_readNext_104 (fun r400 τ400 hp400 => ?_)
                  obtain ⟨⟨x400, rfl, ⟨hx400a, hx400b⟩, hx400⟩, hI400, hG400⟩ := hp400
                  have hF400 : ∀ j i : Nat, (j ≠ 195 ∨ (i ≠ 8 ∧ i ≠ 9 ∧ i ≠ 10 ∧ i ≠ 11 ∧ i ≠ 12 ∧ i ≠ 13)) → (j ≠ 201 ∨ i = 6) → τ400 j i = σ j i := fun j i h_0 h_1 => (hG400 j i (by omega)).trans (hF378 j i h_0 h_1)
                  have hg401 : τ400 201 3 = r310 := (hG400 201 3 (by omega)).trans hg379
                  have hg402 : τ400 201 4 = r374 := (hG400 201 4 (by omega)).trans hg380
                  show hpV _ _ _ _ _ _ _ _ _ _ _ _ _ _ _ _ _ _ _ _ _ (_ :: _)
                  have y104_3 : τ400 201 3 = τ378 201 3 := hG400 201 3 (by omega)
                  have y104_4 : τ400 201 4 = τ378 201 4 := hG400 201 4 (by omega)
                  refine h_iastore C dX9_readNext_107 kd_201 (7 + r310).toNat (Int.toNat_of_nonneg (by omega)) (by rw [ln_201]; omega) ?_
                  obtain ⟨τ403, e403⟩ : ∃ μ : hpMem, μ = hpw τ400 201 ((7 + r310).toNat) x400 := ⟨_, rfl⟩
                  rw [← e403]
                  have hI403 : hpInv τ403 := by rw [e403]; exact hpInv.w201 hI400 ((7 + r310).toNat) 7 14 (0) 20 (by omega) (by omega) (by decide) (by omega) (by omega)
                  have hF403 : ∀ j i : Nat, (j ≠ 195 ∨ (i ≠ 8 ∧ i ≠ 9 ∧ i ≠ 10 ∧ i ≠ 11 ∧ i ≠ 12 ∧ i ≠ 13)) → (j ≠ 201 ∨ i = 6) → τ403 j i = σ j i := fun j i h_0 h_1 => by rw [e403]; exact (hpw_fr (by omega)).trans (hF400 j i h_0 h_1)
                  have hg404 : τ403 201 3 = r310 := by rw [e403]; exact (hpw_fr (Or.inr (by omega))).trans hg401
                  have hg405 : τ403 201 4 = r374 := by rw [e403]; exact (hpw_fr (Or.inr (by omega))).trans hg402
                  have y107_3 : τ403 201 3 = τ400 201 3 := by rw [e403]; exact hpw_fr (Or.inr (by omega))
                  have y107_4 : τ403 201 4 = τ400 201 4 := by rw [e403]; exact hpw_fr (Or.inr (by omega))
                  refine h_aload_n C dX9_readNext_108 0 rfl rfl ?_
                  refine h_get C O9 14 kd_195 (by decide) wd_1270 dX9_readNext_109 fr_195_14 ?_
                  refine h_iconst C dX9_readNext_112 ?_
                  refine h_dup2 C rfl rfl dX9_readNext_113 ?_
                  refine h_iaload C dX9_readNext_114 kd_201 3 rfl (by rw [ln_201]; decide) rfl ?_
                  rw [hg404]
                  refine h_iconst C dX9_readNext_115 ?_
                  refine h_iadd C dX9_readNext_116 rfl ?_
                  refine h_iastore C dX9_readNext_117 kd_201 3 rfl (by rw [ln_201]; decide) ?_
                  obtain ⟨τ406, e406⟩ : ∃ μ : hpMem, μ = hpw τ403 201 3 (r310 + 1) := ⟨_, rfl⟩
                  rw [← e406]
                  have hI406 : hpInv τ406 := by rw [e406]; exact hI403.w ((bw_201 3).trans (show hpwb 3 = (0, 8) by decide)) (by omega) (by omega)
                  have hF406 : ∀ j i : Nat, (j ≠ 195 ∨ (i ≠ 8 ∧ i ≠ 9 ∧ i ≠ 10 ∧ i ≠ 11 ∧ i ≠ 12 ∧ i ≠ 13)) → (j ≠ 201 ∨ i = 6) → τ406 j i = σ j i := fun j i h_0 h_1 => by rw [e406]; exact (hpw_fr (by omega)).trans (hF403 j i h_0 h_1)
                  have hg407 : τ406 201 4 = r374 := by rw [e406]; exact (hpw_fr (Or.inr (by decide))).trans hg405
                  have hg408 : τ406 201 3 = r310 + 1 := by rw [e406]; exact hpw_eq
                  have y117_4 : τ406 201 4 = τ403 201 4 := by rw [e406]; exact hpw_fr (Or.inr (by decide))
                  refine h_goto (tgt := 179) C dX9_readNext_118 (by decide) ?_
                  refine h_return C hr hlk dX9_readNext_179 ?_
                  exact ⟨rfl, hI406, hF406, by omega⟩
              · refine h_return C hr hlk dX9_readNext_75 ?_
                exact ⟨rfl, hI, hF0, by omega⟩
            · refine h_aload_n C dX9_readNext_63 0 rfl rfl ?_
              refine h_iconst C dX9_readNext_64 ?_
              refine h_callV (As := [.int (hpI 3)]) (rest := []) C Z yyX9_errs wd_1465 (tgX9_errs l D cy z _ 3 ⟨by decide, by decide⟩ hI (by omega)) kd_195 rfl rfl ⟨rfl, rfl, Nat.le_of_ble_eq_true rfl, Nat.le_of_ble_eq_true rfl⟩ ⟨Nat.le_of_ble_eq_true rfl, Nat.le_of_ble_eq_true rfl⟩ (Nat.le_of_ble_eq_true rfl) dX9_readNext_65 (fun r409 τ409 hp409 => ?_)
              obtain ⟨rfl, hI409, hG409, hq409_0⟩ := hp409
              have hF409 : ∀ j i : Nat, (j ≠ 195 ∨ (i ≠ 8 ∧ i ≠ 9 ∧ i ≠ 10 ∧ i ≠ 11 ∧ i ≠ 12 ∧ i ≠ 13)) → (j ≠ 201 ∨ i = 6) → τ409 j i = σ j i := fun j i h_0 h_1 => (hG409 j i (by omega)).trans (hF0 j i h_0 h_1)
              have hg410 : τ409 201 3 = r310 := (hG409 201 3 (by omega)).trans hg310
              have hg411 : τ409 201 4 = r374 := (hG409 201 4 (by omega)).trans hg374
              show hpV _ _ _ _ _ _ _ _ _ _ _ _ _ _ _ _ _ _ _ _ _ []
              refine h_aload_n C dX9_readNext_68 0 rfl rfl ?_
              refine h_callV (As := []) (rest := []) C Z yyX9_good wd_1438 (tgX9_good l D cy z _ hI409) kd_195 rfl rfl ⟨rfl, rfl, Nat.le_of_ble_eq_true rfl, Nat.le_of_ble_eq_true rfl⟩ ⟨Nat.le_of_ble_eq_true rfl, Nat.le_of_ble_eq_true rfl⟩ (Nat.le_of_ble_eq_true rfl) dX9_readNext_69 (fun r412 τ412 hp412 => ?_)
              obtain ⟨⟨x412, rfl, ⟨hx412a, hx412b⟩, hx412⟩, rfl⟩ := hp412
              show hpV _ _ _ _ _ _ _ _ _ _ _ _ _ _ _ _ _ _ _ _ _ (_ :: _)
              refine h_if_ne (tgt := 76) C dX9_readNext_72 (by decide) ⟨by omega, by omega⟩ (fun h413 => ?_) (fun h413 => ?_)
              · refine h_aload_n C dX9_readNext_76 0 rfl rfl ?_
                refine h_ldcS (i := 12) C Z (by decide) rfl dX9_readNext_77 ?_
                refine h_callV (As := [.ref (cy (1000 + 12))]) (rest := []) C Z yyX9_takes wd_1455 (tgX9_takes l D cy z _ 12 (by decide) hI409) kd_195 rfl rfl ⟨rfl, rfl, Nat.le_of_ble_eq_true rfl, Nat.le_of_ble_eq_true rfl⟩ ⟨Nat.le_of_ble_eq_true rfl, Nat.le_of_ble_eq_true rfl⟩ (Nat.le_of_ble_eq_true rfl) dX9_readNext_79 (fun r414 τ414 hp414 => ?_)
                obtain ⟨⟨x414, rfl, ⟨hx414a, hx414b⟩, hx414⟩, hI414, hG414⟩ := hp414
                have hF414 : ∀ j i : Nat, (j ≠ 195 ∨ (i ≠ 8 ∧ i ≠ 9 ∧ i ≠ 10 ∧ i ≠ 11 ∧ i ≠ 12 ∧ i ≠ 13)) → (j ≠ 201 ∨ i = 6) → τ414 j i = σ j i := fun j i h_0 h_1 => (hG414 j i (by omega)).trans (hF409 j i h_0 h_1)
                have hg415 : τ414 201 3 = r310 := (hG414 201 3 (by omega)).trans hg410
                have hg416 : τ414 201 4 = r374 := (hG414 201 4 (by omega)).trans hg411
                show hpV _ _ _ _ _ _ _ _ _ _ _ _ _ _ _ _ _ _ _ _ _ (_ :: _)
                have y79_3 : τ414 201 3 = τ409 201 3 := hG414 201 3 (by omega)
                have y79_4 : τ414 201 4 = τ409 201 4 := hG414 201 4 (by omega)
                refine h_if_eq (tgt := 121) C dX9_readNext_82 (by decide) ⟨by omega, by omega⟩ (fun h417 => ?_) (fun h417 => ?_)
                · refine h_aload_n C dX9_readNext_121 0 rfl rfl ?_
                  refine h_callV (As := []) (rest := []) C Z yyX9_advance wd_1424 (tgX9_advance l D cy z _ hI414) kd_195 rfl rfl ⟨rfl, rfl, Nat.le_of_ble_eq_true rfl, Nat.le_of_ble_eq_true rfl⟩ ⟨Nat.le_of_ble_eq_true rfl, Nat.le_of_ble_eq_true rfl⟩ (Nat.le_of_ble_eq_true rfl) dX9_readNext_122 (fun r418 τ418 hp418 => ?_)
                  obtain ⟨rfl, hI418, hG418⟩ := hp418
                  have hF418 : ∀ j i : Nat, (j ≠ 195 ∨ (i ≠ 8 ∧ i ≠ 9 ∧ i ≠ 10 ∧ i ≠ 11 ∧ i ≠ 12 ∧ i ≠ 13)) → (j ≠ 201 ∨ i = 6) → τ418 j i = σ j i := fun j i h_0 h_1 => (hG418 j i (by omega)).trans (hF414 j i h_0 h_1)
                  have hg419 : τ418 201 3 = r310 := (hG418 201 3 (by omega)).trans hg415
                  have hg420 : τ418 201 4 = r374 := (hG418 201 4 (by omega)).trans hg416
                  show hpV _ _ _ _ _ _ _ _ _ _ _ _ _ _ _ _ _ _ _ _ _ []
                  have y122_3 : τ418 201 3 = τ414 201 3 := hG418 201 3 (by omega)
                  have y122_4 : τ418 201 4 = τ414 201 4 := hG418 201 4 (by omega)
                  refine h_bipush C dX9_readNext_125 (by decide) ?_
                  refine h_iconst C dX9_readNext_127 ?_
                  refine h_aload_n C dX9_readNext_128 0 rfl rfl ?_
                  refine h_get C O9 14 kd_195 (by decide) wd_1270 dX9_readNext_129 fr_195_14 ?_
                  refine h_iconst C dX9_readNext_132 ?_
                  refine h_iaload C dX9_readNext_133 kd_201 4 rfl (by rw [ln_201]; decide) rfl ?_
                  rw [hg420]
                  refine h_imul C dX9_readNext_134 rfl ?_
                  refine h_iadd C dX9_readNext_135 rfl ?_
                  refine h_istore_n (lv' := [(1, .int (hpI (15 + (2 * r374)))), (0, .ref (z + 195))]) C dX9_readNext_136 rfl (by decide) rfl ?_
                  refine h_aload_n C dX9_readNext_137 1 rfl rfl ?_
                  refine h_get C O9 14 kd_195 (by decide) wd_1270 dX9_readNext_138 fr_195_14 ?_
                  refine h_iload_n C dX9_readNext_141 0 rfl rfl ?_
                  refine h_aload_n C dX9_readNext_142 1 rfl rfl ?_
                  refine h_ldcS (i := 14) C Z (by decide) rfl dX9_readNext_143 ?_
                  refine h_iconst C dX9_readNext_145 ?_
                  refine h_bipush C dX9_readNext_146 (by decide) ?_
                  refine h_callV (As := [.ref (cy (1000 + 14)), .int (hpI 1), .int (hpI 20)]) (rest := [.int (hpI (15 + (2 * r374))), .ref (z + 201)]) C Z yyX9_toldBy wd_1470 (tgX9_toldBy l D cy z _ 14 (by decide) 1 ⟨by decide, by decide⟩ 20 ⟨by decide, by decide⟩ hI418 (by omega)) kd_195 rfl rfl ⟨rfl, rfl, Nat.le_of_ble_eq_true rfl, Nat.le_of_ble_eq_true rfl⟩ ⟨Nat.le_of_ble_eq_true rfl, Nat.le_of_ble_eq_true rfl⟩ (Nat.le_of_ble_eq_true rfl) dX9_readNext_148 (fun r421 τ421 hp421 => ?_)
                  obtain ⟨⟨x421, rfl, ⟨hx421a, hx421b⟩, hx421⟩, hI421, hG421⟩ := hp421
                  have hF421 : ∀ j i : Nat, (j ≠ 195 ∨ (i ≠ 8 ∧ i ≠ 9 ∧ i ≠ 10 ∧ i ≠ 11 ∧ i ≠ 12 ∧ i ≠ 13)) → (j ≠ 201 ∨ i = 6) → τ421 j i = σ j i := fun j i h_0 h_1 => (hG421 j i (by omega)).trans (hF418 j i h_0 h_1)
                  have hg422 : τ421 201 3 = r310 := (hG421 201 3 (by omega)).trans hg419
                  have hg423 : τ421 201 4 = r374 := (hG421 201 4 (by omega)).trans hg420
                  show hpV _ _ _ _ _ _ _ _ _ _ _ _ _ _ _ _ _ _ _ _ _ (_ :: _)
                  have y148_3 : τ421 201 3 = τ418 201 3 := hG421 201 3 (by omega)
                  have y148_4 : τ421 201 4 = τ418 201 4 := hG421 201 4 (by omega)
                  refine h_iastore C dX9_readNext_151 kd_201 (15 + (2 * r374)).toNat (Int.toNat_of_nonneg (by omega)) (by rw [ln_201]; omega) ?_
                  obtain ⟨τ424, e424⟩ : ∃ μ : hpMem, μ = hpw τ421 201 ((15 + (2 * r374)).toNat) x421 := ⟨_, rfl⟩
                  rw [← e424]
                  have hI424 : hpInv τ424 := by rw [e424]; exact hpInv.w201 hI421 ((15 + (2 * r374)).toNat) 27 27 (0) 2016 (by omega) (by omega) (by decide) (by omega) (by omega)
                  have hF424 : ∀ j i : Nat, (j ≠ 195 ∨ (i ≠ 8 ∧ i ≠ 9 ∧ i ≠ 10 ∧ i ≠ 11 ∧ i ≠ 12 ∧ i ≠ 13)) → (j ≠ 201 ∨ i = 6) → τ424 j i = σ j i := fun j i h_0 h_1 => by rw [e424]; exact (hpw_fr (by omega)).trans (hF421 j i h_0 h_1)
                  have hg425 : τ424 201 3 = r310 := by rw [e424]; exact (hpw_fr (Or.inr (by omega))).trans hg422
                  have hg426 : τ424 201 4 = r374 := by rw [e424]; exact (hpw_fr (Or.inr (by omega))).trans hg423
                  have y151_3 : τ424 201 3 = τ421 201 3 := by rw [e424]; exact hpw_fr (Or.inr (by omega))
                  have y151_4 : τ424 201 4 = τ421 201 4 := by rw [e424]; exact hpw_fr (Or.inr (by omega))
                  refine h_aload_n C dX9_readNext_152 1 rfl rfl ?_
                  refine h_get C O9 14 kd_195 (by decide) wd_1270 dX9_readNext_153 fr_195_14 ?_
                  refine h_iload_n C dX9_readNext_156 0 rfl rfl ?_
                  refine h_iconst C dX9_readNext_157 ?_
                  refine h_iadd C dX9_readNext_158 rfl ?_
                  refine h_aload_n C dX9_readNext_159 1 rfl rfl ?_
                  refine h_ldcS (i := 15) C Z (by decide) rfl dX9_readNext_160 ?_
                  refine h_iconst C dX9_readNext_162 ?_
                  refine h_bipush C dX9_readNext_163 (by decide) ?_
                  refine h_callV (As := [.ref (cy (1000 + 15)), .int (hpI 0), .int (hpI 15)]) (rest := [.int (hpI ((15 + (2 * r374)) + 1)), .ref (z + 201)]) C Z yyX9_toldBy wd_1470 (tgX9_toldBy l D cy z _ 15 (by decide) 0 ⟨by decide, by decide⟩ 15 ⟨by decide, by decide⟩ hI424 (by omega)) kd_195 rfl rfl ⟨rfl, rfl, Nat.le_of_ble_eq_true rfl, Nat.le_of_ble_eq_true rfl⟩ ⟨Nat.le_of_ble_eq_true rfl, Nat.le_of_ble_eq_true rfl⟩ (Nat.le_of_ble_eq_true rfl) dX9_readNext_165 (fun r427 τ427 hp427 => ?_)
                  obtain ⟨⟨x427, rfl, ⟨hx427a, hx427b⟩, hx427⟩, hI427, hG427⟩ := hp427
                  have hF427 : ∀ j i : Nat, (j ≠ 195 ∨ (i ≠ 8 ∧ i ≠ 9 ∧ i ≠ 10 ∧ i ≠ 11 ∧ i ≠ 12 ∧ i ≠ 13)) → (j ≠ 201 ∨ i = 6) → τ427 j i = σ j i := fun j i h_0 h_1 => (hG427 j i (by omega)).trans (hF424 j i h_0 h_1)
                  have hg428 : τ427 201 3 = r310 := (hG427 201 3 (by omega)).trans hg425
                  have hg429 : τ427 201 4 = r374 := (hG427 201 4 (by omega)).trans hg426
                  show hpV _ _ _ _ _ _ _ _ _ _ _ _ _ _ _ _ _ _ _ _ _ (_ :: _)
                  have y165_3 : τ427 201 3 = τ424 201 3 := hG427 201 3 (by omega)
                  have y165_4 : τ427 201 4 = τ424 201 4 := hG427 201 4 (by omega)
                  refine h_iastore C dX9_readNext_168 kd_201 ((15 + (2 * r374)) + 1).toNat (Int.toNat_of_nonneg (by omega)) (by rw [ln_201]; omega) ?_
                  obtain ⟨τ430, e430⟩ : ∃ μ : hpMem, μ = hpw τ427 201 (((15 + (2 * r374)) + 1).toNat) x427 := ⟨_, rfl⟩
                  rw [← e430]
                  have hI430 : hpInv τ430 := by rw [e430]; exact hpInv.w201 hI427 (((15 + (2 * r374)) + 1).toNat) 28 28 (0) 2016 (by omega) (by omega) (by decide) (by omega) (by omega)
                  have hF430 : ∀ j i : Nat, (j ≠ 195 ∨ (i ≠ 8 ∧ i ≠ 9 ∧ i ≠ 10 ∧ i ≠ 11 ∧ i ≠ 12 ∧ i ≠ 13)) → (j ≠ 201 ∨ i = 6) → τ430 j i = σ j i := fun j i h_0 h_1 => by rw [e430]; exact (hpw_fr (by omega)).trans (hF427 j i h_0 h_1)
                  have hg431 : τ430 201 3 = r310 := by rw [e430]; exact (hpw_fr (Or.inr (by omega))).trans hg428
                  have hg432 : τ430 201 4 = r374 := by rw [e430]; exact (hpw_fr (Or.inr (by omega))).trans hg429
                  have y168_3 : τ430 201 3 = τ427 201 3 := by rw [e430]; exact hpw_fr (Or.inr (by omega))
                  have y168_4 : τ430 201 4 = τ427 201 4 := by rw [e430]; exact hpw_fr (Or.inr (by omega))
                  refine h_aload_n C dX9_readNext_169 1 rfl rfl ?_
                  refine h_get C O9 14 kd_195 (by decide) wd_1270 dX9_readNext_170 fr_195_14 ?_
                  refine h_iconst C dX9_readNext_173 ?_
                  refine h_dup2 C rfl rfl dX9_readNext_174 ?_
                  refine h_iaload C dX9_readNext_175 kd_201 4 rfl (by rw [ln_201]; decide) rfl ?_
                  rw [hg432]
                  refine h_iconst C dX9_readNext_176 ?_
                  refine h_iadd C dX9_readNext_177 rfl ?_
                  refine h_iastore C dX9_readNext_178 kd_201 4 rfl (by rw [ln_201]; decide) ?_
                  obtain ⟨τ433, e433⟩ : ∃ μ : hpMem, μ = hpw τ430 201 4 (r374 + 1) := ⟨_, rfl⟩
                  rw [← e433]
                  have hI433 : hpInv τ433 := by rw [e433]; exact hI430.w ((bw_201 4).trans (show hpwb 4 = (0, 6) by decide)) (by omega) (by omega)
                  have hF433 : ∀ j i : Nat, (j ≠ 195 ∨ (i ≠ 8 ∧ i ≠ 9 ∧ i ≠ 10 ∧ i ≠ 11 ∧ i ≠ 12 ∧ i ≠ 13)) → (j ≠ 201 ∨ i = 6) → τ433 j i = σ j i := fun j i h_0 h_1 => by rw [e433]; exact (hpw_fr (by omega)).trans (hF430 j i h_0 h_1)
                  have hg434 : τ433 201 3 = r310 := by rw [e433]; exact (hpw_fr (Or.inr (by decide))).trans hg431
                  have hg435 : τ433 201 4 = r374 + 1 := by rw [e433]; exact hpw_eq
                  have y178_3 : τ433 201 3 = τ430 201 3 := by rw [e433]; exact hpw_fr (Or.inr (by decide))
                  refine h_return C hr hlk dX9_readNext_179 ?_
                  exact ⟨rfl, hI433, hF433, by omega⟩
                · refine h_aload_n C dX9_readNext_85 0 rfl rfl ?_
                  refine h_get C O9 14 kd_195 (by decide) wd_1270 dX9_readNext_86 fr_195_14 ?_
                  refine h_bipush C dX9_readNext_89 (by decide) ?_
                  refine h_aload_n C dX9_readNext_91 0 rfl rfl ?_
                  refine h_get C O9 14 kd_195 (by decide) wd_1270 dX9_readNext_92 fr_195_14 ?_
                  refine h_iconst C dX9_readNext_95 ?_
                  refine h_iaload C dX9_readNext_96 kd_201 3 rfl (by rw [ln_201]; decide) rfl ?_
                  rw [hg415]
                  refine h_iadd C dX9_readNext_97 rfl ?_
                  refine h_aload_n C dX9_readNext_98 0 rfl rfl ?_
                  refine h_ldcS (i := 14) C Z (by decide) rfl dX9_readNext_99 ?_
                  refine h_iconst C dX9_readNext_101 ?_
                  refine h_bipush C dX9_readNext_102 (by decide) ?_
                  refine h_callV (As := [.ref (cy (1000 + 14)), .int (hpI 1), .int (hpI 20)]) (rest := [.int (hpI (7 + r310)), .ref (z + 201)]) C Z yyX9_toldBy wd_1470 (tgX9_toldBy l D cy z _ 14 (by decide) 1 ⟨by decide, by decide⟩ 20 ⟨by decide, by decide⟩ hI414 (by omega)) kd_195 rfl rfl ⟨rfl, rfl, Nat.le_of_ble_eq_true rfl, Nat.le_of_ble_eq_true rfl⟩ ⟨Nat.le_of_ble_eq_true rfl, Nat.le_of_ble_eq_true rfl⟩ (Nat.le_of_ble_eq_true rfl) dX9_readNext_104 (fun r436 τ436 hp436 => ?_)
                  obtain ⟨⟨x436, rfl, ⟨hx436a, hx436b⟩, hx436⟩, hI436, hG436⟩ := hp436
                  have hF436 : ∀ j i : Nat, (j ≠ 195 ∨ (i ≠ 8 ∧ i ≠ 9 ∧ i ≠ 10 ∧ i ≠ 11 ∧ i ≠ 12 ∧ i ≠ 13)) → (j ≠ 201 ∨ i = 6) → τ436 j i = σ j i := fun j i h_0 h_1 => (hG436 j i (by omega)).trans (hF414 j i h_0 h_1)
                  have hg437 : τ436 201 3 = r310 := (hG436 201 3 (by omega)).trans hg415
                  have hg438 : τ436 201 4 = r374 := (hG436 201 4 (by omega)).trans hg416
                  show hpV _ _ _ _ _ _ _ _ _ _ _ _ _ _ _ _ _ _ _ _ _ (_ :: _)
                  have y104_3 : τ436 201 3 = τ414 201 3 := hG436 201 3 (by omega)
                  have y104_4 : τ436 201 4 = τ414 201 4 := hG436 201 4 (by omega)
                  refine h_iastore C dX9_readNext_107 kd_201 (7 + r310).toNat (Int.toNat_of_nonneg (by omega)) (by rw [ln_201]; omega) ?_
                  obtain ⟨τ439, e439⟩ : ∃ μ : hpMem, μ = hpw τ436 201 ((7 + r310).toNat) x436 := ⟨_, rfl⟩
                  rw [← e439]
                  have hI439 : hpInv τ439 := by rw [e439]; exact hpInv.w201 hI436 ((7 + r310).toNat) 7 14 (0) 20 (by omega) (by omega) (by decide) (by omega) (by omega)
                  have hF439 : ∀ j i : Nat, (j ≠ 195 ∨ (i ≠ 8 ∧ i ≠ 9 ∧ i ≠ 10 ∧ i ≠ 11 ∧ i ≠ 12 ∧ i ≠ 13)) → (j ≠ 201 ∨ i = 6) → τ439 j i = σ j i := fun j i h_0 h_1 => by rw [e439]; exact (hpw_fr (by omega)).trans (hF436 j i h_0 h_1)
                  have hg440 : τ439 201 3 = r310 := by rw [e439]; exact (hpw_fr (Or.inr (by omega))).trans hg437
                  have hg441 : τ439 201 4 = r374 := by rw [e439]; exact (hpw_fr (Or.inr (by omega))).trans hg438
                  have y107_3 : τ439 201 3 = τ436 201 3 := by rw [e439]; exact hpw_fr (Or.inr (by omega))
                  have y107_4 : τ439 201 4 = τ436 201 4 := by rw [e439]; exact hpw_fr (Or.inr (by omega))
                  refine h_aload_n C dX9_readNext_108 0 rfl rfl ?_
                  refine h_get C O9 14 kd_195 (by decide) wd_1270 dX9_readNext_109 fr_195_14 ?_
                  refine h_iconst C dX9_readNext_112 ?_
                  refine h_dup2 C rfl rfl dX9_readNext_113 ?_
                  refine h_iaload C dX9_readNext_114 kd_201 3 rfl (by rw [ln_201]; decide) rfl ?_
                  rw [hg440]
                  refine h_iconst C dX9_readNext_115 ?_
                  refine h_iadd C dX9_readNext_116 rfl ?_
                  refine h_iastore C dX9_readNext_117 kd_201 3 rfl (by rw [ln_201]; decide) ?_
                  obtain ⟨τ442, e442⟩ : ∃ μ : hpMem, μ = hpw τ439 201 3 (r310 + 1) := ⟨_, rfl⟩
                  rw [← e442]
                  have hI442 : hpInv τ442 := by rw [e442]; exact hI439.w ((bw_201 3).trans (show hpwb 3 = (0, 8) by decide)) (by omega) (by omega)
                  have hF442 : ∀ j i : Nat, (j ≠ 195 ∨ (i ≠ 8 ∧ i ≠ 9 ∧ i ≠ 10 ∧ i ≠ 11 ∧ i ≠ 12 ∧ i ≠ 13)) → (j ≠ 201 ∨ i = 6) → τ442 j i = σ j i := fun j i h_0 h_1 => by rw [e442]; exact (hpw_fr (by omega)).trans (hF439 j i h_0 h_1)
                  have hg443 : τ442 201 4 = r374 := by rw [e442]; exact (hpw_fr (Or.inr (by decide))).trans hg441
                  have hg444 : τ442 201 3 = r310 + 1 := by rw [e442]; exact hpw_eq
                  have y117_4 : τ442 201 4 = τ439 201 4 := by rw [e442]; exact hpw_fr (Or.inr (by decide))
                  refine h_goto (tgt := 179) C dX9_readNext_118 (by decide) ?_
                  refine h_return C hr hlk dX9_readNext_179 ?_
                  exact ⟨rfl, hI442, hF442, by omega⟩
              · refine h_return C hr hlk dX9_readNext_75 ?_
                exact ⟨rfl, hI409, hF409, by omega⟩
    · refine h_aload_n C dX9_readNext_18 0 rfl rfl ?_
      refine h_iconst C dX9_readNext_19 ?_
      refine h_callV (As := [.int (hpI 1)]) (rest := []) C Z yyX9_errs wd_1465 (tgX9_errs l D cy z _ 1 ⟨by decide, by decide⟩ hI (by omega)) kd_195 rfl rfl ⟨rfl, rfl, Nat.le_of_ble_eq_true rfl, Nat.le_of_ble_eq_true rfl⟩ ⟨Nat.le_of_ble_eq_true rfl, Nat.le_of_ble_eq_true rfl⟩ (Nat.le_of_ble_eq_true rfl) dX9_readNext_20 (fun r445 τ445 hp445 => ?_)
      obtain ⟨rfl, hI445, hG445, hq445_0⟩ := hp445
      have hF445 : ∀ j i : Nat, (j ≠ 195 ∨ (i ≠ 8 ∧ i ≠ 9 ∧ i ≠ 10 ∧ i ≠ 11 ∧ i ≠ 12 ∧ i ≠ 13)) → (j ≠ 201 ∨ i = 6) → τ445 j i = σ j i := fun j i h_0 h_1 => (hG445 j i (by omega)).trans (hF0 j i h_0 h_1)
      show hpV _ _ _ _ _ _ _ _ _ _ _ _ _ _ _ _ _ _ _ _ _ []
      refine h_aload_n C dX9_readNext_23 0 rfl rfl ?_
      refine h_ldcS (i := 12) C Z (by decide) rfl dX9_readNext_24 ?_
      refine h_callV (As := [.ref (cy (1000 + 12))]) (rest := []) C Z yyX9_is wd_1459 (tgX9_is l D cy z _ 12 (by decide) hI445) kd_195 rfl rfl ⟨rfl, rfl, Nat.le_of_ble_eq_true rfl, Nat.le_of_ble_eq_true rfl⟩ ⟨Nat.le_of_ble_eq_true rfl, Nat.le_of_ble_eq_true rfl⟩ (Nat.le_of_ble_eq_true rfl) dX9_readNext_26 (fun r446 τ446 hp446 => ?_)
      obtain ⟨⟨x446, rfl, ⟨hx446a, hx446b⟩, hx446⟩, rfl⟩ := hp446
      show hpV _ _ _ _ _ _ _ _ _ _ _ _ _ _ _ _ _ _ _ _ _ (_ :: _)
      refine h_if_eq (tgt := 43) C dX9_readNext_29 (by decide) ⟨by omega, by omega⟩ (fun h447 => ?_) (fun h447 => ?_)
      · refine h_aload_n C dX9_readNext_43 0 rfl rfl ?_
        refine h_ldcS (i := 13) C Z (by decide) rfl dX9_readNext_44 ?_
        refine h_callV (As := [.ref (cy (1000 + 13))]) (rest := []) C Z yyX9_is wd_1459 (tgX9_is l D cy z _ 13 (by decide) hI445) kd_195 rfl rfl ⟨rfl, rfl, Nat.le_of_ble_eq_true rfl, Nat.le_of_ble_eq_true rfl⟩ ⟨Nat.le_of_ble_eq_true rfl, Nat.le_of_ble_eq_true rfl⟩ (Nat.le_of_ble_eq_true rfl) dX9_readNext_46 (fun r448 τ448 hp448 => ?_)
        obtain ⟨⟨x448, rfl, ⟨hx448a, hx448b⟩, hx448⟩, rfl⟩ := hp448
        show hpV _ _ _ _ _ _ _ _ _ _ _ _ _ _ _ _ _ _ _ _ _ (_ :: _)
        refine h_if_eq (tgt := 68) C dX9_readNext_49 (by decide) ⟨by omega, by omega⟩ (fun h449 => ?_) (fun h449 => ?_)
        · refine h_aload_n C dX9_readNext_68 0 rfl rfl ?_
          refine h_callV (As := []) (rest := []) C Z yyX9_good wd_1438 (tgX9_good l D cy z _ hI445) kd_195 rfl rfl ⟨rfl, rfl, Nat.le_of_ble_eq_true rfl, Nat.le_of_ble_eq_true rfl⟩ ⟨Nat.le_of_ble_eq_true rfl, Nat.le_of_ble_eq_true rfl⟩ (Nat.le_of_ble_eq_true rfl) dX9_readNext_69 (fun r450 τ450 hp450 => ?_)
          obtain ⟨⟨x450, rfl, ⟨hx450a, hx450b⟩, hx450⟩, rfl⟩ := hp450
          show hpV _ _ _ _ _ _ _ _ _ _ _ _ _ _ _ _ _ _ _ _ _ (_ :: _)
          refine h_if_ne (tgt := 76) C dX9_readNext_72 (by decide) ⟨by omega, by omega⟩ (fun h451 => ?_) (fun h451 => ?_)
          · refine h_aload_n C dX9_readNext_76 0 rfl rfl ?_
            refine h_ldcS (i := 12) C Z (by decide) rfl dX9_readNext_77 ?_
            refine h_callV (As := [.ref (cy (1000 + 12))]) (rest := []) C Z yyX9_takes wd_1455 (tgX9_takes l D cy z _ 12 (by decide) hI445) kd_195 rfl rfl ⟨rfl, rfl, Nat.le_of_ble_eq_true rfl, Nat.le_of_ble_eq_true rfl⟩ ⟨Nat.le_of_ble_eq_true rfl, Nat.le_of_ble_eq_true rfl⟩ (Nat.le_of_ble_eq_true rfl) dX9_readNext_79 (fun r452 τ452 hp452 => ?_)
            obtain ⟨⟨x452, rfl, ⟨hx452a, hx452b⟩, hx452⟩, hI452, hG452⟩ := hp452
            have hF452 : ∀ j i : Nat, (j ≠ 195 ∨ (i ≠ 8 ∧ i ≠ 9 ∧ i ≠ 10 ∧ i ≠ 11 ∧ i ≠ 12 ∧ i ≠ 13)) → (j ≠ 201 ∨ i = 6) → τ452 j i = σ j i := fun j i h_0 h_1 => (hG452 j i (by omega)).trans (hF445 j i h_0 h_1)
            show hpV _ _ _ _ _ _ _ _ _ _ _ _ _ _ _ _ _ _ _ _ _ (_ :: _)
            have y79_3 : τ452 201 3 = τ445 201 3 := hG452 201 3 (by omega)
            have y79_4 : τ452 201 4 = τ445 201 4 := hG452 201 4 (by omega)
            refine h_if_eq (tgt := 121) C dX9_readNext_82 (by decide) ⟨by omega, by omega⟩ (fun h453 => ?_) (fun h453 => ?_)
            · refine h_aload_n C dX9_readNext_121 0 rfl rfl ?_
              refine h_callV (As := []) (rest := []) C Z yyX9_advance wd_1424 (tgX9_advance l D cy z _ hI452) kd_195 rfl rfl ⟨rfl, rfl, Nat.le_of_ble_eq_true rfl, Nat.le_of_ble_eq_true rfl⟩ ⟨Nat.le_of_ble_eq_true rfl, Nat.le_of_ble_eq_true rfl⟩ (Nat.le_of_ble_eq_true rfl) dX9_readNext_122 (fun r454 τ454 hp454 => ?_)
              obtain ⟨rfl, hI454, hG454⟩ := hp454
              have hF454 : ∀ j i : Nat, (j ≠ 195 ∨ (i ≠ 8 ∧ i ≠ 9 ∧ i ≠ 10 ∧ i ≠ 11 ∧ i ≠ 12 ∧ i ≠ 13)) → (j ≠ 201 ∨ i = 6) → τ454 j i = σ j i := fun j i h_0 h_1 => (hG454 j i (by omega)).trans (hF452 j i h_0 h_1)
              show hpV _ _ _ _ _ _ _ _ _ _ _ _ _ _ _ _ _ _ _ _ _ []
              have y122_3 : τ454 201 3 = τ452 201 3 := hG454 201 3 (by omega)
              have y122_4 : τ454 201 4 = τ452 201 4 := hG454 201 4 (by omega)
              refine h_bipush C dX9_readNext_125 (by decide) ?_
              refine h_iconst C dX9_readNext_127 ?_
              refine h_aload_n C dX9_readNext_128 0 rfl rfl ?_
              refine h_get C O9 14 kd_195 (by decide) wd_1270 dX9_readNext_129 fr_195_14 ?_
              refine h_iconst C dX9_readNext_132 ?_
              refine h_iaload C dX9_readNext_133 kd_201 4 rfl (by rw [ln_201]; decide) rfl ?_
              obtain ⟨hr455a, hr455b⟩ := hI454.b ((bw_201 4).trans (show hpwb 4 = (0, 6) by decide))
              generalize hg455 : τ454 201 4 = r455 at hr455a hr455b ⊢
              refine h_imul C dX9_readNext_134 rfl ?_
              refine h_iadd C dX9_readNext_135 rfl ?_
              refine h_istore_n (lv' := [(1, .int (hpI (15 + (2 * r455)))), (0, .ref (z + 195))]) C dX9_readNext_136 rfl (by decide) rfl ?_
              refine h_aload_n C dX9_readNext_137 1 rfl rfl ?_
              refine h_get C O9 14 kd_195 (by decide) wd_1270 dX9_readNext_138 fr_195_14 ?_
              refine h_iload_n C dX9_readNext_141 0 rfl rfl ?_
              refine h_aload_n C dX9_readNext_142 1 rfl rfl ?_
              refine h_ldcS (i := 14) C Z (by decide) rfl dX9_readNext_143 ?_
              refine h_iconst C dX9_readNext_145 ?_
              refine h_bipush C dX9_readNext_146 (by decide) ?_
              refine h_callV (As := [.ref (cy (1000 + 14)), .int (hpI 1), .int (hpI 20)]) (rest := [.int (hpI (15 + (2 * r455))), .ref (z + 201)]) C Z yyX9_toldBy wd_1470 (tgX9_toldBy l D cy z _ 14 (by decide) 1 ⟨by decide, by decide⟩ 20 ⟨by decide, by decide⟩ hI454 (by omega)) kd_195 rfl rfl ⟨rfl, rfl, Nat.le_of_ble_eq_true rfl, Nat.le_of_ble_eq_true rfl⟩ ⟨Nat.le_of_ble_eq_true rfl, Nat.le_of_ble_eq_true rfl⟩ (Nat.le_of_ble_eq_true rfl) dX9_readNext_148 (fun r456 τ456 hp456 => ?_)
              obtain ⟨⟨x456, rfl, ⟨hx456a, hx456b⟩, hx456⟩, hI456, hG456⟩ := hp456
              have hF456 : ∀ j i : Nat, (j ≠ 195 ∨ (i ≠ 8 ∧ i ≠ 9 ∧ i ≠ 10 ∧ i ≠ 11 ∧ i ≠ 12 ∧ i ≠ 13)) → (j ≠ 201 ∨ i = 6) → τ456 j i = σ j i := fun j i h_0 h_1 => (hG456 j i (by omega)).trans (hF454 j i h_0 h_1)
              have hg457 : τ456 201 4 = r455 := (hG456 201 4 (by omega)).trans hg455
              show hpV _ _ _ _ _ _ _ _ _ _ _ _ _ _ _ _ _ _ _ _ _ (_ :: _)
              have y148_3 : τ456 201 3 = τ454 201 3 := hG456 201 3 (by omega)
              have y148_4 : τ456 201 4 = τ454 201 4 := hG456 201 4 (by omega)
              refine h_iastore C dX9_readNext_151 kd_201 (15 + (2 * r455)).toNat (Int.toNat_of_nonneg (by omega)) (by rw [ln_201]; omega) ?_
              obtain ⟨τ458, e458⟩ : ∃ μ : hpMem, μ = hpw τ456 201 ((15 + (2 * r455)).toNat) x456 := ⟨_, rfl⟩
              rw [← e458]
              have hI458 : hpInv τ458 := by rw [e458]; exact hpInv.w201 hI456 ((15 + (2 * r455)).toNat) 15 27 (0) 20 (by omega) (by omega) (by decide) (by omega) (by omega)
              have hF458 : ∀ j i : Nat, (j ≠ 195 ∨ (i ≠ 8 ∧ i ≠ 9 ∧ i ≠ 10 ∧ i ≠ 11 ∧ i ≠ 12 ∧ i ≠ 13)) → (j ≠ 201 ∨ i = 6) → τ458 j i = σ j i := fun j i h_0 h_1 => by rw [e458]; exact (hpw_fr (by omega)).trans (hF456 j i h_0 h_1)
              have hg459 : τ458 201 4 = r455 := by rw [e458]; exact (hpw_fr (Or.inr (by omega))).trans hg457
              have y151_3 : τ458 201 3 = τ456 201 3 := by rw [e458]; exact hpw_fr (Or.inr (by omega))
              have y151_4 : τ458 201 4 = τ456 201 4 := by rw [e458]; exact hpw_fr (Or.inr (by omega))
              refine h_aload_n C dX9_readNext_152 1 rfl rfl ?_
              refine h_get C O9 14 kd_195 (by decide) wd_1270 dX9_readNext_153 fr_195_14 ?_
              refine h_iload_n C dX9_readNext_156 0 rfl rfl ?_
              refine h_iconst C dX9_readNext_157 ?_
              refine h_iadd C dX9_readNext_158 rfl ?_
              refine h_aload_n C dX9_readNext_159 1 rfl rfl ?_
              refine h_ldcS (i := 15) C Z (by decide) rfl dX9_readNext_160 ?_
              refine h_iconst C dX9_readNext_162 ?_
              refine h_bipush C dX9_readNext_163 (by decide) ?_
              refine h_callV (As := [.ref (cy (1000 + 15)), .int (hpI 0), .int (hpI 15)]) (rest := [.int (hpI ((15 + (2 * r455)) + 1)), .ref (z + 201)]) C Z yyX9_toldBy wd_1470 (tgX9_toldBy l D cy z _ 15 (by decide) 0 ⟨by decide, by decide⟩ 15 ⟨by decide, by decide⟩ hI458 (by omega)) kd_195 rfl rfl ⟨rfl, rfl, Nat.le_of_ble_eq_true rfl, Nat.le_of_ble_eq_true rfl⟩ ⟨Nat.le_of_ble_eq_true rfl, Nat.le_of_ble_eq_true rfl⟩ (Nat.le_of_ble_eq_true rfl) dX9_readNext_165 (fun r460 τ460 hp460 => ?_)
              obtain ⟨⟨x460, rfl, ⟨hx460a, hx460b⟩, hx460⟩, hI460, hG460⟩ := hp460
              have hF460 : ∀ j i : Nat, (j ≠ 195 ∨ (i ≠ 8 ∧ i ≠ 9 ∧ i ≠ 10 ∧ i ≠ 11 ∧ i ≠ 12 ∧ i ≠ 13)) → (j ≠ 201 ∨ i = 6) → τ460 j i = σ j i := fun j i h_0 h_1 => (hG460 j i (by omega)).trans (hF458 j i h_0 h_1)
              have hg461 : τ460 201 4 = r455 := (hG460 201 4 (by omega)).trans hg459
              show hpV _ _ _ _ _ _ _ _ _ _ _ _ _ _ _ _ _ _ _ _ _ (_ :: _)
              have y165_3 : τ460 201 3 = τ458 201 3 := hG460 201 3 (by omega)
              have y165_4 : τ460 201 4 = τ458 201 4 := hG460 201 4 (by omega)
              refine h_iastore C dX9_readNext_168 kd_201 ((15 + (2 * r455)) + 1).toNat (Int.toNat_of_nonneg (by omega)) (by rw [ln_201]; omega) ?_
              obtain ⟨τ462, e462⟩ : ∃ μ : hpMem, μ = hpw τ460 201 (((15 + (2 * r455)) + 1).toNat) x460 := ⟨_, rfl⟩
              rw [← e462]
              have hI462 : hpInv τ462 := by rw [e462]; exact hpInv.w201 hI460 (((15 + (2 * r455)) + 1).toNat) 16 28 (0) 20 (by omega) (by omega) (by decide) (by omega) (by omega)
              have hF462 : ∀ j i : Nat, (j ≠ 195 ∨ (i ≠ 8 ∧ i ≠ 9 ∧ i ≠ 10 ∧ i ≠ 11 ∧ i ≠ 12 ∧ i ≠ 13)) → (j ≠ 201 ∨ i = 6) → τ462 j i = σ j i := fun j i h_0 h_1 => by rw [e462]; exact (hpw_fr (by omega)).trans (hF460 j i h_0 h_1)
              have hg463 : τ462 201 4 = r455 := by rw [e462]; exact (hpw_fr (Or.inr (by omega))).trans hg461
              have y168_3 : τ462 201 3 = τ460 201 3 := by rw [e462]; exact hpw_fr (Or.inr (by omega))
              have y168_4 : τ462 201 4 = τ460 201 4 := by rw [e462]; exact hpw_fr (Or.inr (by omega))
              refine h_aload_n C dX9_readNext_169 1 rfl rfl ?_
              refine h_get C O9 14 kd_195 (by decide) wd_1270 dX9_readNext_170 fr_195_14 ?_
              refine h_iconst C dX9_readNext_173 ?_
              refine h_dup2 C rfl rfl dX9_readNext_174 ?_
              refine h_iaload C dX9_readNext_175 kd_201 4 rfl (by rw [ln_201]; decide) rfl ?_
              rw [hg463]
              refine h_iconst C dX9_readNext_176 ?_
              refine h_iadd C dX9_readNext_177 rfl ?_
              refine h_iastore C dX9_readNext_178 kd_201 4 rfl (by rw [ln_201]; decide) ?_
              obtain ⟨τ464, e464⟩ : ∃ μ : hpMem, μ = hpw τ462 201 4 (r455 + 1) := ⟨_, rfl⟩
              rw [← e464]
              have hI464 : hpInv τ464 := by rw [e464]; exact hI462.w ((bw_201 4).trans (show hpwb 4 = (0, 6) by decide)) (by omega) (by omega)
              have hF464 : ∀ j i : Nat, (j ≠ 195 ∨ (i ≠ 8 ∧ i ≠ 9 ∧ i ≠ 10 ∧ i ≠ 11 ∧ i ≠ 12 ∧ i ≠ 13)) → (j ≠ 201 ∨ i = 6) → τ464 j i = σ j i := fun j i h_0 h_1 => by rw [e464]; exact (hpw_fr (by omega)).trans (hF462 j i h_0 h_1)
              have hg465 : τ464 201 4 = r455 + 1 := by rw [e464]; exact hpw_eq
              have y178_3 : τ464 201 3 = τ462 201 3 := by rw [e464]; exact hpw_fr (Or.inr (by decide))
              refine h_return C hr hlk dX9_readNext_179 ?_
              exact ⟨rfl, hI464, hF464, by omega⟩
            · refine h_aload_n C dX9_readNext_85 0 rfl rfl ?_
              refine h_get C O9 14 kd_195 (by decide) wd_1270 dX9_readNext_86 fr_195_14 ?_
              refine h_bipush C dX9_readNext_89 (by decide) ?_
              refine h_aload_n C dX9_readNext_91 0 rfl rfl ?_
              refine h_get C O9 14 kd_195 (by decide) wd_1270 dX9_readNext_92 fr_195_14 ?_
              refine h_iconst C dX9_readNext_95 ?_
              refine h_iaload C dX9_readNext_96 kd_201 3 rfl (by rw [ln_201]; decide) rfl ?_
              obtain ⟨hr466a, hr466b⟩ := hI452.b ((bw_201 3).trans (show hpwb 3 = (0, 8) by decide))
              generalize hg466 : τ452 201 3 = r466 at hr466a hr466b ⊢
              refine h_iadd C dX9_readNext_97 rfl ?_
              refine h_aload_n C dX9_readNext_98 0 rfl rfl ?_
              refine h_ldcS (i := 14) C Z (by decide) rfl dX9_readNext_99 ?_
              refine h_iconst C dX9_readNext_101 ?_
              refine h_bipush C dX9_readNext_102 (by decide) ?_
              refine h_callV (As := [.ref (cy (1000 + 14)), .int (hpI 1), .int (hpI 20)]) (rest := [.int (hpI (7 + r466)), .ref (z + 201)]) C Z yyX9_toldBy wd_1470 (tgX9_toldBy l D cy z _ 14 (by decide) 1 ⟨by decide, by decide⟩ 20 ⟨by decide, by decide⟩ hI452 (by omega)) kd_195 rfl rfl ⟨rfl, rfl, Nat.le_of_ble_eq_true rfl, Nat.le_of_ble_eq_true rfl⟩ ⟨Nat.le_of_ble_eq_true rfl, Nat.le_of_ble_eq_true rfl⟩ (Nat.le_of_ble_eq_true rfl) dX9_readNext_104 (fun r467 τ467 hp467 => ?_)
              obtain ⟨⟨x467, rfl, ⟨hx467a, hx467b⟩, hx467⟩, hI467, hG467⟩ := hp467
              have hF467 : ∀ j i : Nat, (j ≠ 195 ∨ (i ≠ 8 ∧ i ≠ 9 ∧ i ≠ 10 ∧ i ≠ 11 ∧ i ≠ 12 ∧ i ≠ 13)) → (j ≠ 201 ∨ i = 6) → τ467 j i = σ j i := fun j i h_0 h_1 => (hG467 j i (by omega)).trans (hF452 j i h_0 h_1)
              have hg468 : τ467 201 3 = r466 := (hG467 201 3 (by omega)).trans hg466
              show hpV _ _ _ _ _ _ _ _ _ _ _ _ _ _ _ _ _ _ _ _ _ (_ :: _)
              have y104_3 : τ467 201 3 = τ452 201 3 := hG467 201 3 (by omega)
              have y104_4 : τ467 201 4 = τ452 201 4 := hG467 201 4 (by omega)
              refine h_iastore C dX9_readNext_107 kd_201 (7 + r466).toNat (Int.toNat_of_nonneg (by omega)) (by rw [ln_201]; omega) ?_
              obtain ⟨τ469, e469⟩ : ∃ μ : hpMem, μ = hpw τ467 201 ((7 + r466).toNat) x467 := ⟨_, rfl⟩
              rw [← e469]
              have hI469 : hpInv τ469 := by rw [e469]; exact hpInv.w201 hI467 ((7 + r466).toNat) 7 15 (0) 20 (by omega) (by omega) (by decide) (by omega) (by omega)
              have hF469 : ∀ j i : Nat, (j ≠ 195 ∨ (i ≠ 8 ∧ i ≠ 9 ∧ i ≠ 10 ∧ i ≠ 11 ∧ i ≠ 12 ∧ i ≠ 13)) → (j ≠ 201 ∨ i = 6) → τ469 j i = σ j i := fun j i h_0 h_1 => by rw [e469]; exact (hpw_fr (by omega)).trans (hF467 j i h_0 h_1)
              have hg470 : τ469 201 3 = r466 := by rw [e469]; exact (hpw_fr (Or.inr (by omega))).trans hg468
              have y107_3 : τ469 201 3 = τ467 201 3 := by rw [e469]; exact hpw_fr (Or.inr (by omega))
              have y107_4 : τ469 201 4 = τ467 201 4 := by rw [e469]; exact hpw_fr (Or.inr (by omega))
              refine h_aload_n C dX9_readNext_108 0 rfl rfl ?_
              refine h_get C O9 14 kd_195 (by decide) wd_1270 dX9_readNext_109 fr_195_14 ?_
              refine h_iconst C dX9_readNext_112 ?_
              refine h_dup2 C rfl rfl dX9_readNext_113 ?_
              refine h_iaload C dX9_readNext_114 kd_201 3 rfl (by rw [ln_201]; decide) rfl ?_
              rw [hg470]
              refine h_iconst C dX9_readNext_115 ?_
              refine h_iadd C dX9_readNext_116 rfl ?_
              refine h_iastore C dX9_readNext_117 kd_201 3 rfl (by rw [ln_201]; decide) ?_
              obtain ⟨τ471, e471⟩ : ∃ μ : hpMem, μ = hpw τ469 201 3 (r466 + 1) := ⟨_, rfl⟩
              rw [← e471]
              have hI471 : hpInv τ471 := by rw [e471]; exact hI469.w ((bw_201 3).trans (show hpwb 3 = (0, 8) by decide)) (by omega) (by omega)
              have hF471 : ∀ j i : Nat, (j ≠ 195 ∨ (i ≠ 8 ∧ i ≠ 9 ∧ i ≠ 10 ∧ i ≠ 11 ∧ i ≠ 12 ∧ i ≠ 13)) → (j ≠ 201 ∨ i = 6) → τ471 j i = σ j i := fun j i h_0 h_1 => by rw [e471]; exact (hpw_fr (by omega)).trans (hF469 j i h_0 h_1)
              have hg472 : τ471 201 3 = r466 + 1 := by rw [e471]; exact hpw_eq
              have y117_4 : τ471 201 4 = τ469 201 4 := by rw [e471]; exact hpw_fr (Or.inr (by decide))
              refine h_goto (tgt := 179) C dX9_readNext_118 (by decide) ?_
              refine h_return C hr hlk dX9_readNext_179 ?_
              exact ⟨rfl, hI471, hF471, by omega⟩
          · refine h_return C hr hlk dX9_readNext_75 ?_
            exact ⟨rfl, hI445, hF445, by omega⟩
        · refine h_aload_n C dX9_readNext_52 0 rfl rfl ?_
          refine h_get C O9 14 kd_195 (by decide) wd_1270 dX9_readNext_53 fr_195_14 ?_
          refine h_iconst C dX9_readNext_56 ?_
          refine h_iaload C dX9_readNext_57 kd_201 4 rfl (by rw [ln_201]; decide) rfl ?_
          obtain ⟨hr473a, hr473b⟩ := hI445.b ((bw_201 4).trans (show hpwb 4 = (0, 6) by decide))
          generalize hg473 : τ445 201 4 = r473 at hr473a hr473b ⊢
          refine h_bipush C dX9_readNext_58 (by decide) ?_
          refine h_icmp_ne (tgt := 68) C dX9_readNext_60 (by decide) ⟨by omega, by omega⟩ ⟨by decide, by decide⟩ (fun h474 => ?_) (fun h474 => ?_)
          · refine h_aload_n C dX9_readNext_68 0 rfl rfl ?_
            refine h_callV (As := []) (rest := []) C Z yyX9_good wd_1438 (tgX9_good l D cy z _ hI445) kd_195 rfl rfl ⟨rfl, rfl, Nat.le_of_ble_eq_true rfl, Nat.le_of_ble_eq_true rfl⟩ ⟨Nat.le_of_ble_eq_true rfl, Nat.le_of_ble_eq_true rfl⟩ (Nat.le_of_ble_eq_true rfl) dX9_readNext_69 (fun r475 τ475 hp475 => ?_)
            obtain ⟨⟨x475, rfl, ⟨hx475a, hx475b⟩, hx475⟩, rfl⟩ := hp475
            show hpV _ _ _ _ _ _ _ _ _ _ _ _ _ _ _ _ _ _ _ _ _ (_ :: _)
            refine h_if_ne (tgt := 76) C dX9_readNext_72 (by decide) ⟨by omega, by omega⟩ (fun h476 => ?_) (fun h476 => ?_)
            · refine h_aload_n C dX9_readNext_76 0 rfl rfl ?_
              refine h_ldcS (i := 12) C Z (by decide) rfl dX9_readNext_77 ?_
              refine h_callV (As := [.ref (cy (1000 + 12))]) (rest := []) C Z yyX9_takes wd_1455 (tgX9_takes l D cy z _ 12 (by decide) hI445) kd_195 rfl rfl ⟨rfl, rfl, Nat.le_of_ble_eq_true rfl, Nat.le_of_ble_eq_true rfl⟩ ⟨Nat.le_of_ble_eq_true rfl, Nat.le_of_ble_eq_true rfl⟩ (Nat.le_of_ble_eq_true rfl) dX9_readNext_79 (fun r477 τ477 hp477 => ?_)
              obtain ⟨⟨x477, rfl, ⟨hx477a, hx477b⟩, hx477⟩, hI477, hG477⟩ := hp477
              have hF477 : ∀ j i : Nat, (j ≠ 195 ∨ (i ≠ 8 ∧ i ≠ 9 ∧ i ≠ 10 ∧ i ≠ 11 ∧ i ≠ 12 ∧ i ≠ 13)) → (j ≠ 201 ∨ i = 6) → τ477 j i = σ j i := fun j i h_0 h_1 => (hG477 j i (by omega)).trans (hF445 j i h_0 h_1)
              have hg478 : τ477 201 4 = r473 := (hG477 201 4 (by omega)).trans hg473
              show hpV _ _ _ _ _ _ _ _ _ _ _ _ _ _ _ _ _ _ _ _ _ (_ :: _)
              have y79_3 : τ477 201 3 = τ445 201 3 := hG477 201 3 (by omega)
              have y79_4 : τ477 201 4 = τ445 201 4 := hG477 201 4 (by omega)
              refine h_if_eq (tgt := 121) C dX9_readNext_82 (by decide) ⟨by omega, by omega⟩ (fun h479 => ?_) (fun h479 => ?_)
              · refine h_aload_n C dX9_readNext_121 0 rfl rfl ?_
                refine h_callV (As := []) (rest := []) C Z yyX9_advance wd_1424 (tgX9_advance l D cy z _ hI477) kd_195 rfl rfl ⟨rfl, rfl, Nat.le_of_ble_eq_true rfl, Nat.le_of_ble_eq_true rfl⟩ ⟨Nat.le_of_ble_eq_true rfl, Nat.le_of_ble_eq_true rfl⟩ (Nat.le_of_ble_eq_true rfl) dX9_readNext_122 (fun r480 τ480 hp480 => ?_)
                obtain ⟨rfl, hI480, hG480⟩ := hp480
                have hF480 : ∀ j i : Nat, (j ≠ 195 ∨ (i ≠ 8 ∧ i ≠ 9 ∧ i ≠ 10 ∧ i ≠ 11 ∧ i ≠ 12 ∧ i ≠ 13)) → (j ≠ 201 ∨ i = 6) → τ480 j i = σ j i := fun j i h_0 h_1 => (hG480 j i (by omega)).trans (hF477 j i h_0 h_1)
                have hg481 : τ480 201 4 = r473 := (hG480 201 4 (by omega)).trans hg478
                show hpV _ _ _ _ _ _ _ _ _ _ _ _ _ _ _ _ _ _ _ _ _ []
                have y122_3 : τ480 201 3 = τ477 201 3 := hG480 201 3 (by omega)
                have y122_4 : τ480 201 4 = τ477 201 4 := hG480 201 4 (by omega)
                refine h_bipush C dX9_readNext_125 (by decide) ?_
                refine h_iconst C dX9_readNext_127 ?_
                refine h_aload_n C dX9_readNext_128 0 rfl rfl ?_
                refine h_get C O9 14 kd_195 (by decide) wd_1270 dX9_readNext_129 fr_195_14 ?_
                refine h_iconst C dX9_readNext_132 ?_
                refine h_iaload C dX9_readNext_133 kd_201 4 rfl (by rw [ln_201]; decide) rfl ?_
                rw [hg481]
                refine h_imul C dX9_readNext_134 rfl ?_
                refine h_iadd C dX9_readNext_135 rfl ?_
                refine h_istore_n (lv' := [(1, .int (hpI (15 + (2 * r473)))), (0, .ref (z + 195))]) C dX9_readNext_136 rfl (by decide) rfl ?_
                refine h_aload_n C dX9_readNext_137 1 rfl rfl ?_
                refine h_get C O9 14 kd_195 (by decide) wd_1270 dX9_readNext_138 fr_195_14 ?_
                refine h_iload_n C dX9_readNext_141 0 rfl rfl ?_
                refine h_aload_n C dX9_readNext_142 1 rfl rfl ?_
                refine h_ldcS (i := 14) C Z (by decide) rfl dX9_readNext_143 ?_
                refine h_iconst C dX9_readNext_145 ?_
                refine h_bipush C dX9_readNext_146 (by decide) ?_
                refine h_callV (As := [.ref (cy (1000 + 14)), .int (hpI 1), .int (hpI 20)]) (rest := [.int (hpI (15 + (2 * r473))), .ref (z + 201)]) C Z yyX9_toldBy wd_1470 (tgX9_toldBy l D cy z _ 14 (by decide) 1 ⟨by decide, by decide⟩ 20 ⟨by decide, by decide⟩ hI480 (by omega)) kd_195 rfl rfl ⟨rfl, rfl, Nat.le_of_ble_eq_true rfl, Nat.le_of_ble_eq_true rfl⟩ ⟨Nat.le_of_ble_eq_true rfl, Nat.le_of_ble_eq_true rfl⟩ (Nat.le_of_ble_eq_true rfl) dX9_readNext_148 (fun r482 τ482 hp482 => ?_)
                obtain ⟨⟨x482, rfl, ⟨hx482a, hx482b⟩, hx482⟩, hI482, hG482⟩ := hp482
                have hF482 : ∀ j i : Nat, (j ≠ 195 ∨ (i ≠ 8 ∧ i ≠ 9 ∧ i ≠ 10 ∧ i ≠ 11 ∧ i ≠ 12 ∧ i ≠ 13)) → (j ≠ 201 ∨ i = 6) → τ482 j i = σ j i := fun j i h_0 h_1 => (hG482 j i (by omega)).trans (hF480 j i h_0 h_1)
                have hg483 : τ482 201 4 = r473 := (hG482 201 4 (by omega)).trans hg481
                show hpV _ _ _ _ _ _ _ _ _ _ _ _ _ _ _ _ _ _ _ _ _ (_ :: _)
                have y148_3 : τ482 201 3 = τ480 201 3 := hG482 201 3 (by omega)
                have y148_4 : τ482 201 4 = τ480 201 4 := hG482 201 4 (by omega)
                refine h_iastore C dX9_readNext_151 kd_201 (15 + (2 * r473)).toNat (Int.toNat_of_nonneg (by omega)) (by rw [ln_201]; omega) ?_
                obtain ⟨τ484, e484⟩ : ∃ μ : hpMem, μ = hpw τ482 201 ((15 + (2 * r473)).toNat) x482 := ⟨_, rfl⟩
                rw [← e484]
                have hI484 : hpInv τ484 := by rw [e484]; exact hpInv.w201 hI482 ((15 + (2 * r473)).toNat) 15 25 (0) 20 (by omega) (by omega) (by decide) (by omega) (by omega)
                have hF484 : ∀ j i : Nat, (j ≠ 195 ∨ (i ≠ 8 ∧ i ≠ 9 ∧ i ≠ 10 ∧ i ≠ 11 ∧ i ≠ 12 ∧ i ≠ 13)) → (j ≠ 201 ∨ i = 6) → τ484 j i = σ j i := fun j i h_0 h_1 => by rw [e484]; exact (hpw_fr (by omega)).trans (hF482 j i h_0 h_1)
                have hg485 : τ484 201 4 = r473 := by rw [e484]; exact (hpw_fr (Or.inr (by omega))).trans hg483
                have y151_3 : τ484 201 3 = τ482 201 3 := by rw [e484]; exact hpw_fr (Or.inr (by omega))
                have y151_4 : τ484 201 4 = τ482 201 4 := by rw [e484]; exact hpw_fr (Or.inr (by omega))
                refine h_aload_n C dX9_readNext_152 1 rfl rfl ?_
                refine h_get C O9 14 kd_195 (by decide) wd_1270 dX9_readNext_153 fr_195_14 ?_
                refine h_iload_n C dX9_readNext_156 0 rfl rfl ?_
                refine h_iconst C dX9_readNext_157 ?_
                refine h_iadd C dX9_readNext_158 rfl ?_
                refine h_aload_n C dX9_readNext_159 1 rfl rfl ?_
                refine h_ldcS (i := 15) C Z (by decide) rfl dX9_readNext_160 ?_
                refine h_iconst C dX9_readNext_162 ?_
                refine h_bipush C dX9_readNext_163 (by decide) ?_
                refine h_callV (As := [.ref (cy (1000 + 15)), .int (hpI 0), .int (hpI 15)]) (rest := [.int (hpI ((15 + (2 * r473)) + 1)), .ref (z + 201)]) C Z yyX9_toldBy wd_1470 (tgX9_toldBy l D cy z _ 15 (by decide) 0 ⟨by decide, by decide⟩ 15 ⟨by decide, by decide⟩ hI484 (by omega)) kd_195 rfl rfl ⟨rfl, rfl, Nat.le_of_ble_eq_true rfl, Nat.le_of_ble_eq_true rfl⟩ ⟨Nat.le_of_ble_eq_true rfl, Nat.le_of_ble_eq_true rfl⟩ (Nat.le_of_ble_eq_true rfl) dX9_readNext_165 (fun r486 τ486 hp486 => ?_)
                obtain ⟨⟨x486, rfl, ⟨hx486a, hx486b⟩, hx486⟩, hI486, hG486⟩ := hp486
                have hF486 : ∀ j i : Nat, (j ≠ 195 ∨ (i ≠ 8 ∧ i ≠ 9 ∧ i ≠ 10 ∧ i ≠ 11 ∧ i ≠ 12 ∧ i ≠ 13)) → (j ≠ 201 ∨ i = 6) → τ486 j i = σ j i := fun j i h_0 h_1 => (hG486 j i (by omega)).trans (hF484 j i h_0 h_1)
                have hg487 : τ486 201 4 = r473 := (hG486 201 4 (by omega)).trans hg485
                show hpV _ _ _ _ _ _ _ _ _ _ _ _ _ _ _ _ _ _ _ _ _ (_ :: _)
                have y165_3 : τ486 201 3 = τ484 201 3 := hG486 201 3 (by omega)
                have y165_4 : τ486 201 4 = τ484 201 4 := hG486 201 4 (by omega)
                refine h_iastore C dX9_readNext_168 kd_201 ((15 + (2 * r473)) + 1).toNat (Int.toNat_of_nonneg (by omega)) (by rw [ln_201]; omega) ?_
                obtain ⟨τ488, e488⟩ : ∃ μ : hpMem, μ = hpw τ486 201 (((15 + (2 * r473)) + 1).toNat) x486 := ⟨_, rfl⟩
                rw [← e488]
                have hI488 : hpInv τ488 := by rw [e488]; exact hpInv.w201 hI486 (((15 + (2 * r473)) + 1).toNat) 16 26 (0) 20 (by omega) (by omega) (by decide) (by omega) (by omega)
                have hF488 : ∀ j i : Nat, (j ≠ 195 ∨ (i ≠ 8 ∧ i ≠ 9 ∧ i ≠ 10 ∧ i ≠ 11 ∧ i ≠ 12 ∧ i ≠ 13)) → (j ≠ 201 ∨ i = 6) → τ488 j i = σ j i := fun j i h_0 h_1 => by rw [e488]; exact (hpw_fr (by omega)).trans (hF486 j i h_0 h_1)
                have hg489 : τ488 201 4 = r473 := by rw [e488]; exact (hpw_fr (Or.inr (by omega))).trans hg487
                have y168_3 : τ488 201 3 = τ486 201 3 := by rw [e488]; exact hpw_fr (Or.inr (by omega))
                have y168_4 : τ488 201 4 = τ486 201 4 := by rw [e488]; exact hpw_fr (Or.inr (by omega))
                refine h_aload_n C dX9_readNext_169 1 rfl rfl ?_
                refine h_get C O9 14 kd_195 (by decide) wd_1270 dX9_readNext_170 fr_195_14 ?_
                refine h_iconst C dX9_readNext_173 ?_
                refine h_dup2 C rfl rfl dX9_readNext_174 ?_
                refine h_iaload C dX9_readNext_175 kd_201 4 rfl (by rw [ln_201]; decide) rfl ?_
                rw [hg489]
                refine h_iconst C dX9_readNext_176 ?_
                refine h_iadd C dX9_readNext_177 rfl ?_
                refine h_iastore C dX9_readNext_178 kd_201 4 rfl (by rw [ln_201]; decide) ?_
                obtain ⟨τ490, e490⟩ : ∃ μ : hpMem, μ = hpw τ488 201 4 (r473 + 1) := ⟨_, rfl⟩
                rw [← e490]
                have hI490 : hpInv τ490 := by rw [e490]; exact hI488.w ((bw_201 4).trans (show hpwb 4 = (0, 6) by decide)) (by omega) (by omega)
                have hF490 : ∀ j i : Nat, (j ≠ 195 ∨ (i ≠ 8 ∧ i ≠ 9 ∧ i ≠ 10 ∧ i ≠ 11 ∧ i ≠ 12 ∧ i ≠ 13)) → (j ≠ 201 ∨ i = 6) → τ490 j i = σ j i := fun j i h_0 h_1 => by rw [e490]; exact (hpw_fr (by omega)).trans (hF488 j i h_0 h_1)
                have hg491 : τ490 201 4 = r473 + 1 := by rw [e490]; exact hpw_eq
                have y178_3 : τ490 201 3 = τ488 201 3 := by rw [e490]; exact hpw_fr (Or.inr (by decide))
                refine h_return C hr hlk dX9_readNext_179 ?_
                exact ⟨rfl, hI490, hF490, by omega⟩
              · refine h_aload_n C dX9_readNext_85 0 rfl rfl ?_
                refine h_get C O9 14 kd_195 (by decide) wd_1270 dX9_readNext_86 fr_195_14 ?_
                refine h_bipush C dX9_readNext_89 (by decide) ?_
                refine h_aload_n C dX9_readNext_91 0 rfl rfl ?_
                refine h_get C O9 14 kd_195 (by decide) wd_1270 dX9_readNext_92 fr_195_14 ?_
                refine h_iconst C dX9_readNext_95 ?_
                refine h_iaload C dX9_readNext_96 kd_201 3 rfl (by rw [ln_201]; decide) rfl ?_
                obtain ⟨hr492a, hr492b⟩ := hI477.b ((bw_201 3).trans (show hpwb 3 = (0, 8) by decide))
                generalize hg492 : τ477 201 3 = r492 at hr492a hr492b ⊢
                refine h_iadd C dX9_readNext_97 rfl ?_
                refine h_aload_n C dX9_readNext_98 0 rfl rfl ?_
                refine h_ldcS (i := 14) C Z (by decide) rfl dX9_readNext_99 ?_
                refine h_iconst C dX9_readNext_101 ?_
                refine h_bipush C dX9_readNext_102 (by decide) ?_
                refine h_callV (As := [.ref (cy (1000 + 14)), .int (hpI 1), .int (hpI 20)]) (rest := [.int (hpI (7 + r492)), .ref (z + 201)]) C Z yyX9_toldBy wd_1470 (tgX9_toldBy l D cy z _ 14 (by decide) 1 ⟨by decide, by decide⟩ 20 ⟨by decide, by decide⟩ hI477 (by omega)) kd_195 rfl rfl ⟨rfl, rfl, Nat.le_of_ble_eq_true rfl, Nat.le_of_ble_eq_true rfl⟩ ⟨Nat.le_of_ble_eq_true rfl, Nat.le_of_ble_eq_true rfl⟩ (Nat.le_of_ble_eq_true rfl) dX9_readNext_104 (fun r493 τ493 hp493 => ?_)
                obtain ⟨⟨x493, rfl, ⟨hx493a, hx493b⟩, hx493⟩, hI493, hG493⟩ := hp493
                have hF493 : ∀ j i : Nat, (j ≠ 195 ∨ (i ≠ 8 ∧ i ≠ 9 ∧ i ≠ 10 ∧ i ≠ 11 ∧ i ≠ 12 ∧ i ≠ 13)) → (j ≠ 201 ∨ i = 6) → τ493 j i = σ j i := fun j i h_0 h_1 => (hG493 j i (by omega)).trans (hF477 j i h_0 h_1)
                have hg494 : τ493 201 4 = r473 := (hG493 201 4 (by omega)).trans hg478
                have hg495 : τ493 201 3 = r492 := (hG493 201 3 (by omega)).trans hg492
                show hpV _ _ _ _ _ _ _ _ _ _ _ _ _ _ _ _ _ _ _ _ _ (_ :: _)
                have y104_3 : τ493 201 3 = τ477 201 3 := hG493 201 3 (by omega)
                have y104_4 : τ493 201 4 = τ477 201 4 := hG493 201 4 (by omega)
                refine h_iastore C dX9_readNext_107 kd_201 (7 + r492).toNat (Int.toNat_of_nonneg (by omega)) (by rw [ln_201]; omega) ?_
                obtain ⟨τ496, e496⟩ : ∃ μ : hpMem, μ = hpw τ493 201 ((7 + r492).toNat) x493 := ⟨_, rfl⟩
                rw [← e496]
                have hI496 : hpInv τ496 := by rw [e496]; exact hpInv.w201 hI493 ((7 + r492).toNat) 7 15 (0) 20 (by omega) (by omega) (by decide) (by omega) (by omega)
                have hF496 : ∀ j i : Nat, (j ≠ 195 ∨ (i ≠ 8 ∧ i ≠ 9 ∧ i ≠ 10 ∧ i ≠ 11 ∧ i ≠ 12 ∧ i ≠ 13)) → (j ≠ 201 ∨ i = 6) → τ496 j i = σ j i := fun j i h_0 h_1 => by rw [e496]; exact (hpw_fr (by omega)).trans (hF493 j i h_0 h_1)
                have hg497 : τ496 201 4 = r473 := by rw [e496]; exact (hpw_fr (Or.inr (by omega))).trans hg494
                have hg498 : τ496 201 3 = r492 := by rw [e496]; exact (hpw_fr (Or.inr (by omega))).trans hg495
                have y107_3 : τ496 201 3 = τ493 201 3 := by rw [e496]; exact hpw_fr (Or.inr (by omega))
                have y107_4 : τ496 201 4 = τ493 201 4 := by rw [e496]; exact hpw_fr (Or.inr (by omega))
                refine h_aload_n C dX9_readNext_108 0 rfl rfl ?_
                refine h_get C O9 14 kd_195 (by decide) wd_1270 dX9_readNext_109 fr_195_14 ?_
                refine h_iconst C dX9_readNext_112 ?_
                refine h_dup2 C rfl rfl dX9_readNext_113 ?_
                refine h_iaload C dX9_readNext_114 kd_201 3 rfl (by rw [ln_201]; decide) rfl ?_
                rw [hg498]
                refine h_iconst C dX9_readNext_115 ?_
                refine h_iadd C dX9_readNext_116 rfl ?_
                refine h_iastore C dX9_readNext_117 kd_201 3 rfl (by rw [ln_201]; decide) ?_
                obtain ⟨τ499, e499⟩ : ∃ μ : hpMem, μ = hpw τ496 201 3 (r492 + 1) := ⟨_, rfl⟩
                rw [← e499]
                have hI499 : hpInv τ499 := by rw [e499]; exact hI496.w ((bw_201 3).trans (show hpwb 3 = (0, 8) by decide)) (by omega) (by omega)
                have hF499 : ∀ j i : Nat, (j ≠ 195 ∨ (i ≠ 8 ∧ i ≠ 9 ∧ i ≠ 10 ∧ i ≠ 11 ∧ i ≠ 12 ∧ i ≠ 13)) → (j ≠ 201 ∨ i = 6) → τ499 j i = σ j i := fun j i h_0 h_1 => by rw [e499]; exact (hpw_fr (by omega)).trans (hF496 j i h_0 h_1)
                have hg500 : τ499 201 4 = r473 := by rw [e499]; exact (hpw_fr (Or.inr (by decide))).trans hg497
                have hg501 : τ499 201 3 = r492 + 1 := by rw [e499]; exact hpw_eq
                have y117_4 : τ499 201 4 = τ496 201 4 := by rw [e499]; exact hpw_fr (Or.inr (by decide))
                refine h_goto (tgt := 179) C dX9_readNext_118 (by decide) ?_
                refine h_return C hr hlk dX9_readNext_179 ?_
                exact ⟨rfl, hI499, hF499, by omega⟩
            · refine h_return C hr hlk dX9_readNext_75 ?_
              exact ⟨rfl, hI445, hF445, by omega⟩
          · refine h_aload_n C dX9_readNext_63 0 rfl rfl ?_
            refine h_iconst C dX9_readNext_64 ?_
            refine h_callV (As := [.int (hpI 3)]) (rest := []) C Z yyX9_errs wd_1465 (tgX9_errs l D cy z _ 3 ⟨by decide, by decide⟩ hI445 (by omega)) kd_195 rfl rfl ⟨rfl, rfl, Nat.le_of_ble_eq_true rfl, Nat.le_of_ble_eq_true rfl⟩ ⟨Nat.le_of_ble_eq_true rfl, Nat.le_of_ble_eq_true rfl⟩ (Nat.le_of_ble_eq_true rfl) dX9_readNext_65 (fun r502 τ502 hp502 => ?_)
            obtain ⟨rfl, hI502, hG502, hq502_0⟩ := hp502
            have hF502 : ∀ j i : Nat, (j ≠ 195 ∨ (i ≠ 8 ∧ i ≠ 9 ∧ i ≠ 10 ∧ i ≠ 11 ∧ i ≠ 12 ∧ i ≠ 13)) → (j ≠ 201 ∨ i = 6) → τ502 j i = σ j i := fun j i h_0 h_1 => (hG502 j i (by omega)).trans (hF445 j i h_0 h_1)
            have hg503 : τ502 201 4 = r473 := (hG502 201 4 (by omega)).trans hg473
            show hpV _ _ _ _ _ _ _ _ _ _ _ _ _ _ _ _ _ _ _ _ _ []
            refine h_aload_n C dX9_readNext_68 0 rfl rfl ?_
            refine h_callV (As := []) (rest := []) C Z yyX9_good wd_1438 (tgX9_good l D cy z _ hI502) kd_195 rfl rfl ⟨rfl, rfl, Nat.le_of_ble_eq_true rfl, Nat.le_of_ble_eq_true rfl⟩ ⟨Nat.le_of_ble_eq_true rfl, Nat.le_of_ble_eq_true rfl⟩ (Nat.le_of_ble_eq_true rfl) dX9_readNext_69 (fun r504 τ504 hp504 => ?_)
            obtain ⟨⟨x504, rfl, ⟨hx504a, hx504b⟩, hx504⟩, rfl⟩ := hp504
            show hpV _ _ _ _ _ _ _ _ _ _ _ _ _ _ _ _ _ _ _ _ _ (_ :: _)
            refine h_if_ne (tgt := 76) C dX9_readNext_72 (by decide) ⟨by omega, by omega⟩ (fun h505 => ?_) (fun h505 => ?_)
            · refine h_aload_n C dX9_readNext_76 0 rfl rfl ?_
              refine h_ldcS (i := 12) C Z (by decide) rfl dX9_readNext_77 ?_
              refine h_callV (As := [.ref (cy (1000 + 12))]) (rest := []) C Z yyX9_takes wd_1455 (tgX9_takes l D cy z _ 12 (by decide) hI502) kd_195 rfl rfl ⟨rfl, rfl, Nat.le_of_ble_eq_true rfl, Nat.le_of_ble_eq_true rfl⟩ ⟨Nat.le_of_ble_eq_true rfl, Nat.le_of_ble_eq_true rfl⟩ (Nat.le_of_ble_eq_true rfl) dX9_readNext_79 (fun r506 τ506 hp506 => ?_)
              obtain ⟨⟨x506, rfl, ⟨hx506a, hx506b⟩, hx506⟩, hI506, hG506⟩ := hp506
              have hF506 : ∀ j i : Nat, (j ≠ 195 ∨ (i ≠ 8 ∧ i ≠ 9 ∧ i ≠ 10 ∧ i ≠ 11 ∧ i ≠ 12 ∧ i ≠ 13)) → (j ≠ 201 ∨ i = 6) → τ506 j i = σ j i := fun j i h_0 h_1 => (hG506 j i (by omega)).trans (hF502 j i h_0 h_1)
              have hg507 : τ506 201 4 = r473 := (hG506 201 4 (by omega)).trans hg503
              show hpV _ _ _ _ _ _ _ _ _ _ _ _ _ _ _ _ _ _ _ _ _ (_ :: _)
              have y79_3 : τ506 201 3 = τ502 201 3 := hG506 201 3 (by omega)
              have y79_4 : τ506 201 4 = τ502 201 4 := hG506 201 4 (by omega)
              refine h_if_eq (tgt := 121) C dX9_readNext_82 (by decide) ⟨by omega, by omega⟩ (fun h508 => ?_) (fun h508 => ?_)
              · refine h_aload_n C dX9_readNext_121 0 rfl rfl ?_
                refine h_callV (As := []) (rest := []) C Z yyX9_advance wd_1424 (tgX9_advance l D cy z _ hI506) kd_195 rfl rfl ⟨rfl, rfl, Nat.le_of_ble_eq_true rfl, Nat.le_of_ble_eq_true rfl⟩ ⟨Nat.le_of_ble_eq_true rfl, Nat.le_of_ble_eq_true rfl⟩ (Nat.le_of_ble_eq_true rfl) dX9_readNext_122 (fun r509 τ509 hp509 => ?_)
                obtain ⟨rfl, hI509, hG509⟩ := hp509
                have hF509 : ∀ j i : Nat, (j ≠ 195 ∨ (i ≠ 8 ∧ i ≠ 9 ∧ i ≠ 10 ∧ i ≠ 11 ∧ i ≠ 12 ∧ i ≠ 13)) → (j ≠ 201 ∨ i = 6) → τ509 j i = σ j i := fun j i h_0 h_1 => (hG509 j i (by omega)).trans (hF506 j i h_0 h_1)
                have hg510 : τ509 201 4 = r473 := (hG509 201 4 (by omega)).trans hg507
                show hpV _ _ _ _ _ _ _ _ _ _ _ _ _ _ _ _ _ _ _ _ _ []
                have y122_3 : τ509 201 3 = τ506 201 3 := hG509 201 3 (by omega)
                have y122_4 : τ509 201 4 = τ506 201 4 := hG509 201 4 (by omega)
                refine h_bipush C dX9_readNext_125 (by decide) ?_
                refine h_iconst C dX9_readNext_127 ?_
                refine h_aload_n C dX9_readNext_128 0 rfl rfl ?_
                refine h_get C O9 14 kd_195 (by decide) wd_1270 dX9_readNext_129 fr_195_14 ?_
                refine h_iconst C dX9_readNext_132 ?_
                refine h_iaload C dX9_readNext_133 kd_201 4 rfl (by rw [ln_201]; decide) rfl ?_
                rw [hg510]
                refine h_imul C dX9_readNext_134 rfl ?_
                refine h_iadd C dX9_readNext_135 rfl ?_
                refine h_istore_n (lv' := [(1, .int (hpI (15 + (2 * r473)))), (0, .ref (z + 195))]) C dX9_readNext_136 rfl (by decide) rfl ?_
                refine h_aload_n C dX9_readNext_137 1 rfl rfl ?_
                refine h_get C O9 14 kd_195 (by decide) wd_1270 dX9_readNext_138 fr_195_14 ?_
                refine h_iload_n C dX9_readNext_141 0 rfl rfl ?_
                refine h_aload_n C dX9_readNext_142 1 rfl rfl ?_
                refine h_ldcS (i := 14) C Z (by decide) rfl dX9_readNext_143 ?_
                refine h_iconst C dX9_readNext_145 ?_
                refine h_bipush C dX9_readNext_146 (by decide) ?_
                refine h_callV (As := [.ref (cy (1000 + 14)), .int (hpI 1), .int (hpI 20)]) (rest := [.int (hpI (15 + (2 * r473))), .ref (z + 201)]) C Z yyX9_toldBy wd_1470 (tgX9_toldBy l D cy z _ 14 (by decide) 1 ⟨by decide, by decide⟩ 20 ⟨by decide, by decide⟩ hI509 (by omega)) kd_195 rfl rfl ⟨rfl, rfl, Nat.le_of_ble_eq_true rfl, Nat.le_of_ble_eq_true rfl⟩ ⟨Nat.le_of_ble_eq_true rfl, Nat.le_of_ble_eq_true rfl⟩ (Nat.le_of_ble_eq_true rfl) dX9_readNext_148 (fun r511 τ511 hp511 => ?_)
                obtain ⟨⟨x511, rfl, ⟨hx511a, hx511b⟩, hx511⟩, hI511, hG511⟩ := hp511
                have hF511 : ∀ j i : Nat, (j ≠ 195 ∨ (i ≠ 8 ∧ i ≠ 9 ∧ i ≠ 10 ∧ i ≠ 11 ∧ i ≠ 12 ∧ i ≠ 13)) → (j ≠ 201 ∨ i = 6) → τ511 j i = σ j i := fun j i h_0 h_1 => (hG511 j i (by omega)).trans (hF509 j i h_0 h_1)
                have hg512 : τ511 201 4 = r473 := (hG511 201 4 (by omega)).trans hg510
                show hpV _ _ _ _ _ _ _ _ _ _ _ _ _ _ _ _ _ _ _ _ _ (_ :: _)
                have y148_3 : τ511 201 3 = τ509 201 3 := hG511 201 3 (by omega)
                have y148_4 : τ511 201 4 = τ509 201 4 := hG511 201 4 (by omega)
                refine h_iastore C dX9_readNext_151 kd_201 (15 + (2 * r473)).toNat (Int.toNat_of_nonneg (by omega)) (by rw [ln_201]; omega) ?_
                obtain ⟨τ513, e513⟩ : ∃ μ : hpMem, μ = hpw τ511 201 ((15 + (2 * r473)).toNat) x511 := ⟨_, rfl⟩
                rw [← e513]
                have hI513 : hpInv τ513 := by rw [e513]; exact hpInv.w201 hI511 ((15 + (2 * r473)).toNat) 27 27 (0) 2016 (by omega) (by omega) (by decide) (by omega) (by omega)
                have hF513 : ∀ j i : Nat, (j ≠ 195 ∨ (i ≠ 8 ∧ i ≠ 9 ∧ i ≠ 10 ∧ i ≠ 11 ∧ i ≠ 12 ∧ i ≠ 13)) → (j ≠ 201 ∨ i = 6) → τ513 j i = σ j i := fun j i h_0 h_1 => by rw [e513]; exact (hpw_fr (by omega)).trans (hF511 j i h_0 h_1)
                have hg514 : τ513 201 4 = r473 := by rw [e513]; exact (hpw_fr (Or.inr (by omega))).trans hg512
                have y151_3 : τ513 201 3 = τ511 201 3 := by rw [e513]; exact hpw_fr (Or.inr (by omega))
                have y151_4 : τ513 201 4 = τ511 201 4 := by rw [e513]; exact hpw_fr (Or.inr (by omega))
                refine h_aload_n C dX9_readNext_152 1 rfl rfl ?_
                refine h_get C O9 14 kd_195 (by decide) wd_1270 dX9_readNext_153 fr_195_14 ?_
                refine h_iload_n C dX9_readNext_156 0 rfl rfl ?_
                refine h_iconst C dX9_readNext_157 ?_
                refine h_iadd C dX9_readNext_158 rfl ?_
                refine h_aload_n C dX9_readNext_159 1 rfl rfl ?_
                refine h_ldcS (i := 15) C Z (by decide) rfl dX9_readNext_160 ?_
                refine h_iconst C dX9_readNext_162 ?_
                refine h_bipush C dX9_readNext_163 (by decide) ?_
                refine h_callV (As := [.ref (cy (1000 + 15)), .int (hpI 0), .int (hpI 15)]) (rest := [.int (hpI ((15 + (2 * r473)) + 1)), .ref (z + 201)]) C Z yyX9_toldBy wd_1470 (tgX9_toldBy l D cy z _ 15 (by decide) 0 ⟨by decide, by decide⟩ 15 ⟨by decide, by decide⟩ hI513 (by omega)) kd_195 rfl rfl ⟨rfl, rfl, Nat.le_of_ble_eq_true rfl, Nat.le_of_ble_eq_true rfl⟩ ⟨Nat.le_of_ble_eq_true rfl, Nat.le_of_ble_eq_true rfl⟩ (Nat.le_of_ble_eq_true rfl) dX9_readNext_165 (fun r515 τ515 hp515 => ?_)
                obtain ⟨⟨x515, rfl, ⟨hx515a, hx515b⟩, hx515⟩, hI515, hG515⟩ := hp515
                have hF515 : ∀ j i : Nat, (j ≠ 195 ∨ (i ≠ 8 ∧ i ≠ 9 ∧ i ≠ 10 ∧ i ≠ 11 ∧ i ≠ 12 ∧ i ≠ 13)) → (j ≠ 201 ∨ i = 6) → τ515 j i = σ j i := fun j i h_0 h_1 => (hG515 j i (by omega)).trans (hF513 j i h_0 h_1)
                have hg516 : τ515 201 4 = r473 := (hG515 201 4 (by omega)).trans hg514
                show hpV _ _ _ _ _ _ _ _ _ _ _ _ _ _ _ _ _ _ _ _ _ (_ :: _)
                have y165_3 : τ515 201 3 = τ513 201 3 := hG515 201 3 (by omega)
                have y165_4 : τ515 201 4 = τ513 201 4 := hG515 201 4 (by omega)
                refine h_iastore C dX9_readNext_168 kd_201 ((15 + (2 * r473)) + 1).toNat (Int.toNat_of_nonneg (by omega)) (by rw [ln_201]; omega) ?_
                obtain ⟨τ517, e517⟩ : ∃ μ : hpMem, μ = hpw τ515 201 (((15 + (2 * r473)) + 1).toNat) x515 := ⟨_, rfl⟩
                rw [← e517]
                have hI517 : hpInv τ517 := by rw [e517]; exact hpInv.w201 hI515 (((15 + (2 * r473)) + 1).toNat) 28 28 (0) 2016 (by omega) (by omega) (by decide) (by omega) (by omega)
                have hF517 : ∀ j i : Nat, (j ≠ 195 ∨ (i ≠ 8 ∧ i ≠ 9 ∧ i ≠ 10 ∧ i ≠ 11 ∧ i ≠ 12 ∧ i ≠ 13)) → (j ≠ 201 ∨ i = 6) → τ517 j i = σ j i := fun j i h_0 h_1 => by rw [e517]; exact (hpw_fr (by omega)).trans (hF515 j i h_0 h_1)
                have hg518 : τ517 201 4 = r473 := by rw [e517]; exact (hpw_fr (Or.inr (by omega))).trans hg516
                have y168_3 : τ517 201 3 = τ515 201 3 := by rw [e517]; exact hpw_fr (Or.inr (by omega))
                have y168_4 : τ517 201 4 = τ515 201 4 := by rw [e517]; exact hpw_fr (Or.inr (by omega))
                refine h_aload_n C dX9_readNext_169 1 rfl rfl ?_
                refine h_get C O9 14 kd_195 (by decide) wd_1270 dX9_readNext_170 fr_195_14 ?_
                refine h_iconst C dX9_readNext_173 ?_
                refine h_dup2 C rfl rfl dX9_readNext_174 ?_
                refine h_iaload C dX9_readNext_175 kd_201 4 rfl (by rw [ln_201]; decide) rfl ?_
                rw [hg518]
                refine h_iconst C dX9_readNext_176 ?_
                refine h_iadd C dX9_readNext_177 rfl ?_
                refine h_iastore C dX9_readNext_178 kd_201 4 rfl (by rw [ln_201]; decide) ?_
                obtain ⟨τ519, e519⟩ : ∃ μ : hpMem, μ = hpw τ517 201 4 (r473 + 1) := ⟨_, rfl⟩
                rw [← e519]
                have hI519 : hpInv τ519 := by rw [e519]; exact hI517.w ((bw_201 4).trans (show hpwb 4 = (0, 6) by decide)) (by omega) (by omega)
                have hF519 : ∀ j i : Nat, (j ≠ 195 ∨ (i ≠ 8 ∧ i ≠ 9 ∧ i ≠ 10 ∧ i ≠ 11 ∧ i ≠ 12 ∧ i ≠ 13)) → (j ≠ 201 ∨ i = 6) → τ519 j i = σ j i := fun j i h_0 h_1 => by rw [e519]; exact (hpw_fr (by omega)).trans (hF517 j i h_0 h_1)
                have hg520 : τ519 201 4 = r473 + 1 := by rw [e519]; exact hpw_eq
                have y178_3 : τ519 201 3 = τ517 201 3 := by rw [e519]; exact hpw_fr (Or.inr (by decide))
                refine h_return C hr hlk dX9_readNext_179 ?_
                exact ⟨rfl, hI519, hF519, by omega⟩
              · refine h_aload_n C dX9_readNext_85 0 rfl rfl ?_
                refine h_get C O9 14 kd_195 (by decide) wd_1270 dX9_readNext_86 fr_195_14 ?_
                refine h_bipush C dX9_readNext_89 (by decide) ?_
                refine h_aload_n C dX9_readNext_91 0 rfl rfl ?_
                refine h_get C O9 14 kd_195 (by decide) wd_1270 dX9_readNext_92 fr_195_14 ?_
                refine h_iconst C dX9_readNext_95 ?_
                refine h_iaload C dX9_readNext_96 kd_201 3 rfl (by rw [ln_201]; decide) rfl ?_
                obtain ⟨hr521a, hr521b⟩ := hI506.b ((bw_201 3).trans (show hpwb 3 = (0, 8) by decide))
                generalize hg521 : τ506 201 3 = r521 at hr521a hr521b ⊢
                refine h_iadd C dX9_readNext_97 rfl ?_
                refine h_aload_n C dX9_readNext_98 0 rfl rfl ?_
                refine h_ldcS (i := 14) C Z (by decide) rfl dX9_readNext_99 ?_
                refine h_iconst C dX9_readNext_101 ?_
                refine h_bipush C dX9_readNext_102 (by decide) ?_
                refine h_callV (As := [.ref (cy (1000 + 14)), .int (hpI 1), .int (hpI 20)]) (rest := [.int (hpI (7 + r521)), .ref (z + 201)]) C Z yyX9_toldBy wd_1470 (tgX9_toldBy l D cy z _ 14 (by decide) 1 ⟨by decide, by decide⟩ 20 ⟨by decide, by decide⟩ hI506 (by omega)) kd_195 rfl rfl ⟨rfl, rfl, Nat.le_of_ble_eq_true rfl, Nat.le_of_ble_eq_true rfl⟩ ⟨Nat.le_of_ble_eq_true rfl, Nat.le_of_ble_eq_true rfl⟩ (Nat.le_of_ble_eq_true rfl) dX9_readNext_104 (fun r522 τ522 hp522 => ?_)
                obtain ⟨⟨x522, rfl, ⟨hx522a, hx522b⟩, hx522⟩, hI522, hG522⟩ := hp522
                have hF522 : ∀ j i : Nat, (j ≠ 195 ∨ (i ≠ 8 ∧ i ≠ 9 ∧ i ≠ 10 ∧ i ≠ 11 ∧ i ≠ 12 ∧ i ≠ 13)) → (j ≠ 201 ∨ i = 6) → τ522 j i = σ j i := fun j i h_0 h_1 => (hG522 j i (by omega)).trans (hF506 j i h_0 h_1)
                have hg523 : τ522 201 4 = r473 := (hG522 201 4 (by omega)).trans hg507
                have hg524 : τ522 201 3 = r521 := (hG522 201 3 (by omega)).trans hg521
                show hpV _ _ _ _ _ _ _ _ _ _ _ _ _ _ _ _ _ _ _ _ _ (_ :: _)
                have y104_3 : τ522 201 3 = τ506 201 3 := hG522 201 3 (by omega)
                have y104_4 : τ522 201 4 = τ506 201 4 := hG522 201 4 (by omega)
                refine h_iastore C dX9_readNext_107 kd_201 (7 + r521).toNat (Int.toNat_of_nonneg (by omega)) (by rw [ln_201]; omega) ?_
                obtain ⟨τ525, e525⟩ : ∃ μ : hpMem, μ = hpw τ522 201 ((7 + r521).toNat) x522 := ⟨_, rfl⟩
                rw [← e525]
                have hI525 : hpInv τ525 := by rw [e525]; exact hpInv.w201 hI522 ((7 + r521).toNat) 7 15 (0) 20 (by omega) (by omega) (by decide) (by omega) (by omega)
                have hF525 : ∀ j i : Nat, (j ≠ 195 ∨ (i ≠ 8 ∧ i ≠ 9 ∧ i ≠ 10 ∧ i ≠ 11 ∧ i ≠ 12 ∧ i ≠ 13)) → (j ≠ 201 ∨ i = 6) → τ525 j i = σ j i := fun j i h_0 h_1 => by rw [e525]; exact (hpw_fr (by omega)).trans (hF522 j i h_0 h_1)
                have hg526 : τ525 201 4 = r473 := by rw [e525]; exact (hpw_fr (Or.inr (by omega))).trans hg523
                have hg527 : τ525 201 3 = r521 := by rw [e525]; exact (hpw_fr (Or.inr (by omega))).trans hg524
                have y107_3 : τ525 201 3 = τ522 201 3 := by rw [e525]; exact hpw_fr (Or.inr (by omega))
                have y107_4 : τ525 201 4 = τ522 201 4 := by rw [e525]; exact hpw_fr (Or.inr (by omega))
                refine h_aload_n C dX9_readNext_108 0 rfl rfl ?_
                refine h_get C O9 14 kd_195 (by decide) wd_1270 dX9_readNext_109 fr_195_14 ?_
                refine h_iconst C dX9_readNext_112 ?_
                refine h_dup2 C rfl rfl dX9_readNext_113 ?_
                refine h_iaload C dX9_readNext_114 kd_201 3 rfl (by rw [ln_201]; decide) rfl ?_
                rw [hg527]
                refine h_iconst C dX9_readNext_115 ?_
                refine h_iadd C dX9_readNext_116 rfl ?_
                refine h_iastore C dX9_readNext_117 kd_201 3 rfl (by rw [ln_201]; decide) ?_
                obtain ⟨τ528, e528⟩ : ∃ μ : hpMem, μ = hpw τ525 201 3 (r521 + 1) := ⟨_, rfl⟩
                rw [← e528]
                have hI528 : hpInv τ528 := by rw [e528]; exact hI525.w ((bw_201 3).trans (show hpwb 3 = (0, 8) by decide)) (by omega) (by omega)
                have hF528 : ∀ j i : Nat, (j ≠ 195 ∨ (i ≠ 8 ∧ i ≠ 9 ∧ i ≠ 10 ∧ i ≠ 11 ∧ i ≠ 12 ∧ i ≠ 13)) → (j ≠ 201 ∨ i = 6) → τ528 j i = σ j i := fun j i h_0 h_1 => by rw [e528]; exact (hpw_fr (by omega)).trans (hF525 j i h_0 h_1)
                have hg529 : τ528 201 4 = r473 := by rw [e528]; exact (hpw_fr (Or.inr (by decide))).trans hg526
                have hg530 : τ528 201 3 = r521 + 1 := by rw [e528]; exact hpw_eq
                have y117_4 : τ528 201 4 = τ525 201 4 := by rw [e528]; exact hpw_fr (Or.inr (by decide))
                refine h_goto (tgt := 179) C dX9_readNext_118 (by decide) ?_
                refine h_return C hr hlk dX9_readNext_179 ?_
                exact ⟨rfl, hI528, hF528, by omega⟩
            · refine h_return C hr hlk dX9_readNext_75 ?_
              exact ⟨rfl, hI502, hF502, by omega⟩
      · refine h_aload_n C dX9_readNext_32 0 rfl rfl ?_
        refine h_get C O9 14 kd_195 (by decide) wd_1270 dX9_readNext_33 fr_195_14 ?_
        refine h_iconst C dX9_readNext_36 ?_
        refine h_iaload C dX9_readNext_37 kd_201 3 rfl (by rw [ln_201]; decide) rfl ?_
        obtain ⟨hr531a, hr531b⟩ := hI445.b ((bw_201 3).trans (show hpwb 3 = (0, 8) by decide))
        generalize hg531 : τ445 201 3 = r531 at hr531a hr531b ⊢
        refine h_bipush C dX9_readNext_38 (by decide) ?_
        refine h_icmp_eq (tgt := 63) C dX9_readNext_40 (by decide) ⟨by omega, by omega⟩ ⟨by decide, by decide⟩ (fun h532 => ?_) (fun h532 => ?_)
        · refine h_aload_n C dX9_readNext_63 0 rfl rfl ?_
          refine h_iconst C dX9_readNext_64 ?_
          refine h_callV (As := [.int (hpI 3)]) (rest := []) C Z yyX9_errs wd_1465 (tgX9_errs l D cy z _ 3 ⟨by decide, by decide⟩ hI445 (by omega)) kd_195 rfl rfl ⟨rfl, rfl, Nat.le_of_ble_eq_true rfl, Nat.le_of_ble_eq_true rfl⟩ ⟨Nat.le_of_ble_eq_true rfl, Nat.le_of_ble_eq_true rfl⟩ (Nat.le_of_ble_eq_true rfl) dX9_readNext_65 (fun r533 τ533 hp533 => ?_)
          obtain ⟨rfl, hI533, hG533, hq533_0⟩ := hp533
          have hF533 : ∀ j i : Nat, (j ≠ 195 ∨ (i ≠ 8 ∧ i ≠ 9 ∧ i ≠ 10 ∧ i ≠ 11 ∧ i ≠ 12 ∧ i ≠ 13)) → (j ≠ 201 ∨ i = 6) → τ533 j i = σ j i := fun j i h_0 h_1 => (hG533 j i (by omega)).trans (hF445 j i h_0 h_1)
          have hg534 : τ533 201 3 = r531 := (hG533 201 3 (by omega)).trans hg531
          show hpV _ _ _ _ _ _ _ _ _ _ _ _ _ _ _ _ _ _ _ _ _ []
          refine h_aload_n C dX9_readNext_68 0 rfl rfl ?_
          refine h_callV (As := []) (rest := []) C Z yyX9_good wd_1438 (tgX9_good l D cy z _ hI533) kd_195 rfl rfl ⟨rfl, rfl, Nat.le_of_ble_eq_true rfl, Nat.le_of_ble_eq_true rfl⟩ ⟨Nat.le_of_ble_eq_true rfl, Nat.le_of_ble_eq_true rfl⟩ (Nat.le_of_ble_eq_true rfl) dX9_readNext_69 (fun r535 τ535 hp535 => ?_)
          obtain ⟨⟨x535, rfl, ⟨hx535a, hx535b⟩, hx535⟩, rfl⟩ := hp535
          show hpV _ _ _ _ _ _ _ _ _ _ _ _ _ _ _ _ _ _ _ _ _ (_ :: _)
          refine h_if_ne (tgt := 76) C dX9_readNext_72 (by decide) ⟨by omega, by omega⟩ (fun h536 => ?_) (fun h536 => ?_)
          · refine h_aload_n C dX9_readNext_76 0 rfl rfl ?_
            refine h_ldcS (i := 12) C Z (by decide) rfl dX9_readNext_77 ?_
            refine h_callV (As := [.ref (cy (1000 + 12))]) (rest := []) C Z yyX9_takes wd_1455 (tgX9_takes l D cy z _ 12 (by decide) hI533) kd_195 rfl rfl ⟨rfl, rfl, Nat.le_of_ble_eq_true rfl, Nat.le_of_ble_eq_true rfl⟩ ⟨Nat.le_of_ble_eq_true rfl, Nat.le_of_ble_eq_true rfl⟩ (Nat.le_of_ble_eq_true rfl) dX9_readNext_79 (fun r537 τ537 hp537 => ?_)
            obtain ⟨⟨x537, rfl, ⟨hx537a, hx537b⟩, hx537⟩, hI537, hG537⟩ := hp537
            have hF537 : ∀ j i : Nat, (j ≠ 195 ∨ (i ≠ 8 ∧ i ≠ 9 ∧ i ≠ 10 ∧ i ≠ 11 ∧ i ≠ 12 ∧ i ≠ 13)) → (j ≠ 201 ∨ i = 6) → τ537 j i = σ j i := fun j i h_0 h_1 => (hG537 j i (by omega)).trans (hF533 j i h_0 h_1)
            have hg538 : τ537 201 3 = r531 := (hG537 201 3 (by omega)).trans hg534
            show hpV _ _ _ _ _ _ _ _ _ _ _ _ _ _ _ _ _ _ _ _ _ (_ :: _)
            have y79_3 : τ537 201 3 = τ533 201 3 := hG537 201 3 (by omega)
            have y79_4 : τ537 201 4 = τ533 201 4 := hG537 201 4 (by omega)
            refine h_if_eq (tgt := 121) C dX9_readNext_82 (by decide) ⟨by omega, by omega⟩ (fun h539 => ?_) (fun h539 => ?_)
            · refine h_aload_n C dX9_readNext_121 0 rfl rfl ?_
              refine h_callV (As := []) (rest := []) C Z yyX9_advance wd_1424 (tgX9_advance l D cy z _ hI537) kd_195 rfl rfl ⟨rfl, rfl, Nat.le_of_ble_eq_true rfl, Nat.le_of_ble_eq_true rfl⟩ ⟨Nat.le_of_ble_eq_true rfl, Nat.le_of_ble_eq_true rfl⟩ (Nat.le_of_ble_eq_true rfl) dX9_readNext_122 (fun r540 τ540 hp540 => ?_)
              obtain ⟨rfl, hI540, hG540⟩ := hp540
              have hF540 : ∀ j i : Nat, (j ≠ 195 ∨ (i ≠ 8 ∧ i ≠ 9 ∧ i ≠ 10 ∧ i ≠ 11 ∧ i ≠ 12 ∧ i ≠ 13)) → (j ≠ 201 ∨ i = 6) → τ540 j i = σ j i := fun j i h_0 h_1 => (hG540 j i (by omega)).trans (hF537 j i h_0 h_1)
              have hg541 : τ540 201 3 = r531 := (hG540 201 3 (by omega)).trans hg538
              show hpV _ _ _ _ _ _ _ _ _ _ _ _ _ _ _ _ _ _ _ _ _ []
              have y122_3 : τ540 201 3 = τ537 201 3 := hG540 201 3 (by omega)
              have y122_4 : τ540 201 4 = τ537 201 4 := hG540 201 4 (by omega)
              refine h_bipush C dX9_readNext_125 (by decide) ?_
              refine h_iconst C dX9_readNext_127 ?_
              refine h_aload_n C dX9_readNext_128 0 rfl rfl ?_
              refine h_get C O9 14 kd_195 (by decide) wd_1270 dX9_readNext_129 fr_195_14 ?_
              refine h_iconst C dX9_readNext_132 ?_
              refine h_iaload C dX9_readNext_133 kd_201 4 rfl (by rw [ln_201]; decide) rfl ?_
              obtain ⟨hr542a, hr542b⟩ := hI540.b ((bw_201 4).trans (show hpwb 4 = (0, 6) by decide))
              generalize hg542 : τ540 201 4 = r542 at hr542a hr542b ⊢
              refine h_imul C dX9_readNext_134 rfl ?_
              refine h_iadd C dX9_readNext_135 rfl ?_
              refine h_istore_n (lv' := [(1, .int (hpI (15 + (2 * r542)))), (0, .ref (z + 195))]) C dX9_readNext_136 rfl (by decide) rfl ?_
              refine h_aload_n C dX9_readNext_137 1 rfl rfl ?_
              refine h_get C O9 14 kd_195 (by decide) wd_1270 dX9_readNext_138 fr_195_14 ?_
              refine h_iload_n C dX9_readNext_141 0 rfl rfl ?_
              refine h_aload_n C dX9_readNext_142 1 rfl rfl ?_
              refine h_ldcS (i := 14) C Z (by decide) rfl dX9_readNext_143 ?_
              refine h_iconst C dX9_readNext_145 ?_
              refine h_bipush C dX9_readNext_146 (by decide) ?_
              refine h_callV (As := [.ref (cy (1000 + 14)), .int (hpI 1), .int (hpI 20)]) (rest := [.int (hpI (15 + (2 * r542))), .ref (z + 201)]) C Z yyX9_toldBy wd_1470 (tgX9_toldBy l D cy z _ 14 (by decide) 1 ⟨by decide, by decide⟩ 20 ⟨by decide, by decide⟩ hI540 (by omega)) kd_195 rfl rfl ⟨rfl, rfl, Nat.le_of_ble_eq_true rfl, Nat.le_of_ble_eq_true rfl⟩ ⟨Nat.le_of_ble_eq_true rfl, Nat.le_of_ble_eq_true rfl⟩ (Nat.le_of_ble_eq_true rfl) dX9_readNext_148 (fun r543 τ543 hp543 => ?_)
              obtain ⟨⟨x543, rfl, ⟨hx543a, hx543b⟩, hx543⟩, hI543, hG543⟩ := hp543
              have hF543 : ∀ j i : Nat, (j ≠ 195 ∨ (i ≠ 8 ∧ i ≠ 9 ∧ i ≠ 10 ∧ i ≠ 11 ∧ i ≠ 12 ∧ i ≠ 13)) → (j ≠ 201 ∨ i = 6) → τ543 j i = σ j i := fun j i h_0 h_1 => (hG543 j i (by omega)).trans (hF540 j i h_0 h_1)
              have hg544 : τ543 201 3 = r531 := (hG543 201 3 (by omega)).trans hg541
              have hg545 : τ543 201 4 = r542 := (hG543 201 4 (by omega)).trans hg542
              show hpV _ _ _ _ _ _ _ _ _ _ _ _ _ _ _ _ _ _ _ _ _ (_ :: _)
              have y148_3 : τ543 201 3 = τ540 201 3 := hG543 201 3 (by omega)
              have y148_4 : τ543 201 4 = τ540 201 4 := hG543 201 4 (by omega)
              refine h_iastore C dX9_readNext_151 kd_201 (15 + (2 * r542)).toNat (Int.toNat_of_nonneg (by omega)) (by rw [ln_201]; omega) ?_
              obtain ⟨τ546, e546⟩ : ∃ μ : hpMem, μ = hpw τ543 201 ((15 + (2 * r542)).toNat) x543 := ⟨_, rfl⟩
              rw [← e546]
              have hI546 : hpInv τ546 := by rw [e546]; exact hpInv.w201 hI543 ((15 + (2 * r542)).toNat) 15 27 (0) 20 (by omega) (by omega) (by decide) (by omega) (by omega)
              have hF546 : ∀ j i : Nat, (j ≠ 195 ∨ (i ≠ 8 ∧ i ≠ 9 ∧ i ≠ 10 ∧ i ≠ 11 ∧ i ≠ 12 ∧ i ≠ 13)) → (j ≠ 201 ∨ i = 6) → τ546 j i = σ j i := fun j i h_0 h_1 => by rw [e546]; exact (hpw_fr (by omega)).trans (hF543 j i h_0 h_1)
              have hg547 : τ546 201 3 = r531 := by rw [e546]; exact (hpw_fr (Or.inr (by omega))).trans hg544
              have hg548 : τ546 201 4 = r542 := by rw [e546]; exact (hpw_fr (Or.inr (by omega))).trans hg545
              have y151_3 : τ546 201 3 = τ543 201 3 := by rw [e546]; exact hpw_fr (Or.inr (by omega))
              have y151_4 : τ546 201 4 = τ543 201 4 := by rw [e546]; exact hpw_fr (Or.inr (by omega))
              refine h_aload_n C dX9_readNext_152 1 rfl rfl ?_
              refine h_get C O9 14 kd_195 (by decide) wd_1270 dX9_readNext_153 fr_195_14 ?_
              refine h_iload_n C dX9_readNext_156 0 rfl rfl ?_
              refine h_iconst C dX9_readNext_157 ?_
              refine h_iadd C dX9_readNext_158 rfl ?_
              refine h_aload_n C dX9_readNext_159 1 rfl rfl ?_
              refine h_ldcS (i := 15) C Z (by decide) rfl dX9_readNext_160 ?_
              refine h_iconst C dX9_readNext_162 ?_
              refine h_bipush C dX9_readNext_163 (by decide) ?_
              refine h_callV (As := [.ref (cy (1000 + 15)), .int (hpI 0), .int (hpI 15)]) (rest := [.int (hpI ((15 + (2 * r542)) + 1)), .ref (z + 201)]) C Z yyX9_toldBy wd_1470 (tgX9_toldBy l D cy z _ 15 (by decide) 0 ⟨by decide, by decide⟩ 15 ⟨by decide, by decide⟩ hI546 (by omega)) kd_195 rfl rfl ⟨rfl, rfl, Nat.le_of_ble_eq_true rfl, Nat.le_of_ble_eq_true rfl⟩ ⟨Nat.le_of_ble_eq_true rfl, Nat.le_of_ble_eq_true rfl⟩ (Nat.le_of_ble_eq_true rfl) dX9_readNext_165 (fun r549 τ549 hp549 => ?_)
              obtain ⟨⟨x549, rfl, ⟨hx549a, hx549b⟩, hx549⟩, hI549, hG549⟩ := hp549
              have hF549 : ∀ j i : Nat, (j ≠ 195 ∨ (i ≠ 8 ∧ i ≠ 9 ∧ i ≠ 10 ∧ i ≠ 11 ∧ i ≠ 12 ∧ i ≠ 13)) → (j ≠ 201 ∨ i = 6) → τ549 j i = σ j i := fun j i h_0 h_1 => (hG549 j i (by omega)).trans (hF546 j i h_0 h_1)
              have hg550 : τ549 201 3 = r531 := (hG549 201 3 (by omega)).trans hg547
              have hg551 : τ549 201 4 = r542 := (hG549 201 4 (by omega)).trans hg548
              show hpV _ _ _ _ _ _ _ _ _ _ _ _ _ _ _ _ _ _ _ _ _ (_ :: _)
              have y165_3 : τ549 201 3 = τ546 201 3 := hG549 201 3 (by omega)
              have y165_4 : τ549 201 4 = τ546 201 4 := hG549 201 4 (by omega)
              refine h_iastore C dX9_readNext_168 kd_201 ((15 + (2 * r542)) + 1).toNat (Int.toNat_of_nonneg (by omega)) (by rw [ln_201]; omega) ?_
              obtain ⟨τ552, e552⟩ : ∃ μ : hpMem, μ = hpw τ549 201 (((15 + (2 * r542)) + 1).toNat) x549 := ⟨_, rfl⟩
              rw [← e552]
              have hI552 : hpInv τ552 := by rw [e552]; exact hpInv.w201 hI549 (((15 + (2 * r542)) + 1).toNat) 16 28 (0) 20 (by omega) (by omega) (by decide) (by omega) (by omega)
              have hF552 : ∀ j i : Nat, (j ≠ 195 ∨ (i ≠ 8 ∧ i ≠ 9 ∧ i ≠ 10 ∧ i ≠ 11 ∧ i ≠ 12 ∧ i ≠ 13)) → (j ≠ 201 ∨ i = 6) → τ552 j i = σ j i := fun j i h_0 h_1 => by rw [e552]; exact (hpw_fr (by omega)).trans (hF549 j i h_0 h_1)
              have hg553 : τ552 201 3 = r531 := by rw [e552]; exact (hpw_fr (Or.inr (by omega))).trans hg550
              have hg554 : τ552 201 4 = r542 := by rw [e552]; exact (hpw_fr (Or.inr (by omega))).trans hg551
              have y168_3 : τ552 201 3 = τ549 201 3 := by rw [e552]; exact hpw_fr (Or.inr (by omega))
              have y168_4 : τ552 201 4 = τ549 201 4 := by rw [e552]; exact hpw_fr (Or.inr (by omega))
              refine h_aload_n C dX9_readNext_169 1 rfl rfl ?_
              refine h_get C O9 14 kd_195 (by decide) wd_1270 dX9_readNext_170 fr_195_14 ?_
              refine h_iconst C dX9_readNext_173 ?_
              refine h_dup2 C rfl rfl dX9_readNext_174 ?_
              refine h_iaload C dX9_readNext_175 kd_201 4 rfl (by rw [ln_201]; decide) rfl ?_
              rw [hg554]
              refine h_iconst C dX9_readNext_176 ?_
              refine h_iadd C dX9_readNext_177 rfl ?_
              refine h_iastore C dX9_readNext_178 kd_201 4 rfl (by rw [ln_201]; decide) ?_
              obtain ⟨τ555, e555⟩ : ∃ μ : hpMem, μ = hpw τ552 201 4 (r542 + 1) := ⟨_, rfl⟩
              rw [← e555]
              have hI555 : hpInv τ555 := by rw [e555]; exact hI552.w ((bw_201 4).trans (show hpwb 4 = (0, 6) by decide)) (by omega) (by omega)
              have hF555 : ∀ j i : Nat, (j ≠ 195 ∨ (i ≠ 8 ∧ i ≠ 9 ∧ i ≠ 10 ∧ i ≠ 11 ∧ i ≠ 12 ∧ i ≠ 13)) → (j ≠ 201 ∨ i = 6) → τ555 j i = σ j i := fun j i h_0 h_1 => by rw [e555]; exact (hpw_fr (by omega)).trans (hF552 j i h_0 h_1)
              have hg556 : τ555 201 3 = r531 := by rw [e555]; exact (hpw_fr (Or.inr (by decide))).trans hg553
              have hg557 : τ555 201 4 = r542 + 1 := by rw [e555]; exact hpw_eq
              have y178_3 : τ555 201 3 = τ552 201 3 := by rw [e555]; exact hpw_fr (Or.inr (by decide))
              refine h_return C hr hlk dX9_readNext_179 ?_
              exact ⟨rfl, hI555, hF555, by omega⟩
            · refine h_aload_n C dX9_readNext_85 0 rfl rfl ?_
              refine h_get C O9 14 kd_195 (by decide) wd_1270 dX9_readNext_86 fr_195_14 ?_
              refine h_bipush C dX9_readNext_89 (by decide) ?_
              refine h_aload_n C dX9_readNext_91 0 rfl rfl ?_
              refine h_get C O9 14 kd_195 (by decide) wd_1270 dX9_readNext_92 fr_195_14 ?_
              refine h_iconst C dX9_readNext_95 ?_
              refine h_iaload C dX9_readNext_96 kd_201 3 rfl (by rw [ln_201]; decide) rfl ?_
              rw [hg538]
              refine h_iadd C dX9_readNext_97 rfl ?_
              refine h_aload_n C dX9_readNext_98 0 rfl rfl ?_
              refine h_ldcS (i := 14) C Z (by decide) rfl dX9_readNext_99 ?_
              refine h_iconst C dX9_readNext_101 ?_
              refine h_bipush C dX9_readNext_102 (by decide) ?_
              refine h_callV (As := [.ref (cy (1000 + 14)), .int (hpI 1), .int (hpI 20)]) (rest := [.int (hpI (7 + r531)), .ref (z + 201)]) C Z yyX9_toldBy wd_1470 (tgX9_toldBy l D cy z _ 14 (by decide) 1 ⟨by decide, by decide⟩ 20 ⟨by decide, by decide⟩ hI537 (by omega)) kd_195 rfl rfl ⟨rfl, rfl, Nat.le_of_ble_eq_true rfl, Nat.le_of_ble_eq_true rfl⟩ ⟨Nat.le_of_ble_eq_true rfl, Nat.le_of_ble_eq_true rfl⟩ (Nat.le_of_ble_eq_true rfl) dX9_readNext_104 (fun r558 τ558 hp558 => ?_)
              obtain ⟨⟨x558, rfl, ⟨hx558a, hx558b⟩, hx558⟩, hI558, hG558⟩ := hp558
              have hF558 : ∀ j i : Nat, (j ≠ 195 ∨ (i ≠ 8 ∧ i ≠ 9 ∧ i ≠ 10 ∧ i ≠ 11 ∧ i ≠ 12 ∧ i ≠ 13)) → (j ≠ 201 ∨ i = 6) → τ558 j i = σ j i := fun j i h_0 h_1 => (hG558 j i (by omega)).trans (hF537 j i h_0 h_1)
              have hg559 : τ558 201 3 = r531 := (hG558 201 3 (by omega)).trans hg538
              show hpV _ _ _ _ _ _ _ _ _ _ _ _ _ _ _ _ _ _ _ _ _ (_ :: _)
              have y104_3 : τ558 201 3 = τ537 201 3 := hG558 201 3 (by omega)
              have y104_4 : τ558 201 4 = τ537 201 4 := hG558 201 4 (by omega)
              refine h_iastore C dX9_readNext_107 kd_201 (7 + r531).toNat (Int.toNat_of_nonneg (by omega)) (by rw [ln_201]; omega) ?_
              obtain ⟨τ560, e560⟩ : ∃ μ : hpMem, μ = hpw τ558 201 ((7 + r531).toNat) x558 := ⟨_, rfl⟩
              rw [← e560]
              have hI560 : hpInv τ560 := by rw [e560]; exact hpInv.w201 hI558 ((7 + r531).toNat) 15 15 (0) 20 (by omega) (by omega) (by decide) (by omega) (by omega)
              have hF560 : ∀ j i : Nat, (j ≠ 195 ∨ (i ≠ 8 ∧ i ≠ 9 ∧ i ≠ 10 ∧ i ≠ 11 ∧ i ≠ 12 ∧ i ≠ 13)) → (j ≠ 201 ∨ i = 6) → τ560 j i = σ j i := fun j i h_0 h_1 => by rw [e560]; exact (hpw_fr (by omega)).trans (hF558 j i h_0 h_1)
              have hg561 : τ560 201 3 = r531 := by rw [e560]; exact (hpw_fr (Or.inr (by omega))).trans hg559
              have y107_3 : τ560 201 3 = τ558 201 3 := by rw [e560]; exact hpw_fr (Or.inr (by omega))
              have y107_4 : τ560 201 4 = τ558 201 4 := by rw [e560]; exact hpw_fr (Or.inr (by omega))
              refine h_aload_n C dX9_readNext_108 0 rfl rfl ?_
              refine h_get C O9 14 kd_195 (by decide) wd_1270 dX9_readNext_109 fr_195_14 ?_
              refine h_iconst C dX9_readNext_112 ?_
              refine h_dup2 C rfl rfl dX9_readNext_113 ?_
              refine h_iaload C dX9_readNext_114 kd_201 3 rfl (by rw [ln_201]; decide) rfl ?_
              rw [hg561]
              refine h_iconst C dX9_readNext_115 ?_
              refine h_iadd C dX9_readNext_116 rfl ?_
              refine h_iastore C dX9_readNext_117 kd_201 3 rfl (by rw [ln_201]; decide) ?_
              obtain ⟨τ562, e562⟩ : ∃ μ : hpMem, μ = hpw τ560 201 3 (r531 + 1) := ⟨_, rfl⟩
              rw [← e562]
              have hI562 : hpInv τ562 := by rw [e562]; exact hI560.w ((bw_201 3).trans (show hpwb 3 = (0, 8) by decide)) (by omega) (by omega)
              have hF562 : ∀ j i : Nat, (j ≠ 195 ∨ (i ≠ 8 ∧ i ≠ 9 ∧ i ≠ 10 ∧ i ≠ 11 ∧ i ≠ 12 ∧ i ≠ 13)) → (j ≠ 201 ∨ i = 6) → τ562 j i = σ j i := fun j i h_0 h_1 => by rw [e562]; exact (hpw_fr (by omega)).trans (hF560 j i h_0 h_1)
              have hg563 : τ562 201 3 = r531 + 1 := by rw [e562]; exact hpw_eq
              have y117_4 : τ562 201 4 = τ560 201 4 := by rw [e562]; exact hpw_fr (Or.inr (by decide))
              refine h_goto (tgt := 179) C dX9_readNext_118 (by decide) ?_
              refine h_return C hr hlk dX9_readNext_179 ?_
              exact ⟨rfl, hI562, hF562, by omega⟩
          · refine h_return C hr hlk dX9_readNext_75 ?_
            exact ⟨rfl, hI533, hF533, by omega⟩
        · refine h_aload_n C dX9_readNext_43 0 rfl rfl ?_
          refine h_ldcS (i := 13) C Z (by decide) rfl dX9_readNext_44 ?_
          refine h_callV (As := [.ref (cy (1000 + 13))]) (rest := []) C Z yyX9_is wd_1459 (tgX9_is l D cy z _ 13 (by decide) hI445) kd_195 rfl rfl ⟨rfl, rfl, Nat.le_of_ble_eq_true rfl, Nat.le_of_ble_eq_true rfl⟩ ⟨Nat.le_of_ble_eq_true rfl, Nat.le_of_ble_eq_true rfl⟩ (Nat.le_of_ble_eq_true rfl) dX9_readNext_46 (fun r564 τ564 hp564 => ?_)
          obtain ⟨⟨x564, rfl, ⟨hx564a, hx564b⟩, hx564⟩, rfl⟩ := hp564
          show hpV _ _ _ _ _ _ _ _ _ _ _ _ _ _ _ _ _ _ _ _ _ (_ :: _)
          refine h_if_eq (tgt := 68) C dX9_readNext_49 (by decide) ⟨by omega, by omega⟩ (fun h565 => ?_) (fun h565 => ?_)
          · refine h_aload_n C dX9_readNext_68 0 rfl rfl ?_
            refine h_callV (As := []) (rest := []) C Z yyX9_good wd_1438 (tgX9_good l D cy z _ hI445) kd_195 rfl rfl ⟨rfl, rfl, Nat.le_of_ble_eq_true rfl, Nat.le_of_ble_eq_true rfl⟩ ⟨Nat.le_of_ble_eq_true rfl, Nat.le_of_ble_eq_true rfl⟩ (Nat.le_of_ble_eq_true rfl) dX9_readNext_69 (fun r566 τ566 hp566 => ?_)
            obtain ⟨⟨x566, rfl, ⟨hx566a, hx566b⟩, hx566⟩, rfl⟩ := hp566
            show hpV _ _ _ _ _ _ _ _ _ _ _ _ _ _ _ _ _ _ _ _ _ (_ :: _)
            refine h_if_ne (tgt := 76) C dX9_readNext_72 (by decide) ⟨by omega, by omega⟩ (fun h567 => ?_) (fun h567 => ?_)
            · refine h_aload_n C dX9_readNext_76 0 rfl rfl ?_
              refine h_ldcS (i := 12) C Z (by decide) rfl dX9_readNext_77 ?_
              refine h_callV (As := [.ref (cy (1000 + 12))]) (rest := []) C Z yyX9_takes wd_1455 (tgX9_takes l D cy z _ 12 (by decide) hI445) kd_195 rfl rfl ⟨rfl, rfl, Nat.le_of_ble_eq_true rfl, Nat.le_of_ble_eq_true rfl⟩ ⟨Nat.le_of_ble_eq_true rfl, Nat.le_of_ble_eq_true rfl⟩ (Nat.le_of_ble_eq_true rfl) dX9_readNext_79 (fun r568 τ568 hp568 => ?_)
              obtain ⟨⟨x568, rfl, ⟨hx568a, hx568b⟩, hx568⟩, hI568, hG568⟩ := hp568
              have hF568 : ∀ j i : Nat, (j ≠ 195 ∨ (i ≠ 8 ∧ i ≠ 9 ∧ i ≠ 10 ∧ i ≠ 11 ∧ i ≠ 12 ∧ i ≠ 13)) → (j ≠ 201 ∨ i = 6) → τ568 j i = σ j i := fun j i h_0 h_1 => (hG568 j i (by omega)).trans (hF445 j i h_0 h_1)
              have hg569 : τ568 201 3 = r531 := (hG568 201 3 (by omega)).trans hg531
              show hpV _ _ _ _ _ _ _ _ _ _ _ _ _ _ _ _ _ _ _ _ _ (_ :: _)
              have y79_3 : τ568 201 3 = τ445 201 3 := hG568 201 3 (by omega)
              have y79_4 : τ568 201 4 = τ445 201 4 := hG568 201 4 (by omega)
              refine h_if_eq (tgt := 121) C dX9_readNext_82 (by decide) ⟨by omega, by omega⟩ (fun h570 => ?_) (fun h570 => ?_)
              · refine h_aload_n C dX9_readNext_121 0 rfl rfl ?_
                refine h_callV (As := []) (rest := []) C Z yyX9_advance wd_1424 (tgX9_advance l D cy z _ hI568) kd_195 rfl rfl ⟨rfl, rfl, Nat.le_of_ble_eq_true rfl, Nat.le_of_ble_eq_true rfl⟩ ⟨Nat.le_of_ble_eq_true rfl, Nat.le_of_ble_eq_true rfl⟩ (Nat.le_of_ble_eq_true rfl) dX9_readNext_122 (fun r571 τ571 hp571 => ?_)
                obtain ⟨rfl, hI571, hG571⟩ := hp571
                have hF571 : ∀ j i : Nat, (j ≠ 195 ∨ (i ≠ 8 ∧ i ≠ 9 ∧ i ≠ 10 ∧ i ≠ 11 ∧ i ≠ 12 ∧ i ≠ 13)) → (j ≠ 201 ∨ i = 6) → τ571 j i = σ j i := fun j i h_0 h_1 => (hG571 j i (by omega)).trans (hF568 j i h_0 h_1)
                have hg572 : τ571 201 3 = r531 := (hG571 201 3 (by omega)).trans hg569
                show hpV _ _ _ _ _ _ _ _ _ _ _ _ _ _ _ _ _ _ _ _ _ []
                have y122_3 : τ571 201 3 = τ568 201 3 := hG571 201 3 (by omega)
                have y122_4 : τ571 201 4 = τ568 201 4 := hG571 201 4 (by omega)
                refine h_bipush C dX9_readNext_125 (by decide) ?_
                refine h_iconst C dX9_readNext_127 ?_
                refine h_aload_n C dX9_readNext_128 0 rfl rfl ?_
                refine h_get C O9 14 kd_195 (by decide) wd_1270 dX9_readNext_129 fr_195_14 ?_
                refine h_iconst C dX9_readNext_132 ?_
                refine h_iaload C dX9_readNext_133 kd_201 4 rfl (by rw [ln_201]; decide) rfl ?_
                obtain ⟨hr573a, hr573b⟩ := hI571.b ((bw_201 4).trans (show hpwb 4 = (0, 6) by decide))
                generalize hg573 : τ571 201 4 = r573 at hr573a hr573b ⊢
                refine h_imul C dX9_readNext_134 rfl ?_
                refine h_iadd C dX9_readNext_135 rfl ?_
                refine h_istore_n (lv' := [(1, .int (hpI (15 + (2 * r573)))), (0, .ref (z + 195))]) C dX9_readNext_136 rfl (by decide) rfl ?_
                refine h_aload_n C dX9_readNext_137 1 rfl rfl ?_
                refine h_get C O9 14 kd_195 (by decide) wd_1270 dX9_readNext_138 fr_195_14 ?_
                refine h_iload_n C dX9_readNext_141 0 rfl rfl ?_
                refine h_aload_n C dX9_readNext_142 1 rfl rfl ?_
                refine h_ldcS (i := 14) C Z (by decide) rfl dX9_readNext_143 ?_
                refine h_iconst C dX9_readNext_145 ?_
                refine h_bipush C dX9_readNext_146 (by decide) ?_
                refine h_callV (As := [.ref (cy (1000 + 14)), .int (hpI 1), .int (hpI 20)]) (rest := [.int (hpI (15 + (2 * r573))), .ref (z + 201)]) C Z yyX9_toldBy wd_1470 (tgX9_toldBy l D cy z _ 14 (by decide) 1 ⟨by decide, by decide⟩ 20 ⟨by decide, by decide⟩ hI571 (by omega)) kd_195 rfl rfl ⟨rfl, rfl, Nat.le_of_ble_eq_true rfl, Nat.le_of_ble_eq_true rfl⟩ ⟨Nat.le_of_ble_eq_true rfl, Nat.le_of_ble_eq_true rfl⟩ (Nat.le_of_ble_eq_true rfl) dX9_readNext_148 (fun r574 τ574 hp574 => ?_)
                obtain ⟨⟨x574, rfl, ⟨hx574a, hx574b⟩, hx574⟩, hI574, hG574⟩ := hp574
                have hF574 : ∀ j i : Nat, (j ≠ 195 ∨ (i ≠ 8 ∧ i ≠ 9 ∧ i ≠ 10 ∧ i ≠ 11 ∧ i ≠ 12 ∧ i ≠ 13)) → (j ≠ 201 ∨ i = 6) → τ574 j i = σ j i := fun j i h_0 h_1 => (hG574 j i (by omega)).trans (hF571 j i h_0 h_1)
                have hg575 : τ574 201 3 = r531 := (hG574 201 3 (by omega)).trans hg572
                have hg576 : τ574 201 4 = r573 := (hG574 201 4 (by omega)).trans hg573
                show hpV _ _ _ _ _ _ _ _ _ _ _ _ _ _ _ _ _ _ _ _ _ (_ :: _)
                have y148_3 : τ574 201 3 = τ571 201 3 := hG574 201 3 (by omega)
                have y148_4 : τ574 201 4 = τ571 201 4 := hG574 201 4 (by omega)
                refine h_iastore C dX9_readNext_151 kd_201 (15 + (2 * r573)).toNat (Int.toNat_of_nonneg (by omega)) (by rw [ln_201]; omega) ?_
                obtain ⟨τ577, e577⟩ : ∃ μ : hpMem, μ = hpw τ574 201 ((15 + (2 * r573)).toNat) x574 := ⟨_, rfl⟩
                rw [← e577]
                have hI577 : hpInv τ577 := by rw [e577]; exact hpInv.w201 hI574 ((15 + (2 * r573)).toNat) 15 27 (0) 20 (by omega) (by omega) (by decide) (by omega) (by omega)
                have hF577 : ∀ j i : Nat, (j ≠ 195 ∨ (i ≠ 8 ∧ i ≠ 9 ∧ i ≠ 10 ∧ i ≠ 11 ∧ i ≠ 12 ∧ i ≠ 13)) → (j ≠ 201 ∨ i = 6) → τ577 j i = σ j i := fun j i h_0 h_1 => by rw [e577]; exact (hpw_fr (by omega)).trans (hF574 j i h_0 h_1)
                have hg578 : τ577 201 3 = r531 := by rw [e577]; exact (hpw_fr (Or.inr (by omega))).trans hg575
                have hg579 : τ577 201 4 = r573 := by rw [e577]; exact (hpw_fr (Or.inr (by omega))).trans hg576
                have y151_3 : τ577 201 3 = τ574 201 3 := by rw [e577]; exact hpw_fr (Or.inr (by omega))
                have y151_4 : τ577 201 4 = τ574 201 4 := by rw [e577]; exact hpw_fr (Or.inr (by omega))
                refine h_aload_n C dX9_readNext_152 1 rfl rfl ?_
                refine h_get C O9 14 kd_195 (by decide) wd_1270 dX9_readNext_153 fr_195_14 ?_
                refine h_iload_n C dX9_readNext_156 0 rfl rfl ?_
                refine h_iconst C dX9_readNext_157 ?_
                refine h_iadd C dX9_readNext_158 rfl ?_
                refine h_aload_n C dX9_readNext_159 1 rfl rfl ?_
                refine h_ldcS (i := 15) C Z (by decide) rfl dX9_readNext_160 ?_
                refine h_iconst C dX9_readNext_162 ?_
                refine h_bipush C dX9_readNext_163 (by decide) ?_
                refine h_callV (As := [.ref (cy (1000 + 15)), .int (hpI 0), .int (hpI 15)]) (rest := [.int (hpI ((15 + (2 * r573)) + 1)), .ref (z + 201)]) C Z yyX9_toldBy wd_1470 (tgX9_toldBy l D cy z _ 15 (by decide) 0 ⟨by decide, by decide⟩ 15 ⟨by decide, by decide⟩ hI577 (by omega)) kd_195 rfl rfl ⟨rfl, rfl, Nat.le_of_ble_eq_true rfl, Nat.le_of_ble_eq_true rfl⟩ ⟨Nat.le_of_ble_eq_true rfl, Nat.le_of_ble_eq_true rfl⟩ (Nat.le_of_ble_eq_true rfl) dX9_readNext_165 (fun r580 τ580 hp580 => ?_)
                obtain ⟨⟨x580, rfl, ⟨hx580a, hx580b⟩, hx580⟩, hI580, hG580⟩ := hp580
                have hF580 : ∀ j i : Nat, (j ≠ 195 ∨ (i ≠ 8 ∧ i ≠ 9 ∧ i ≠ 10 ∧ i ≠ 11 ∧ i ≠ 12 ∧ i ≠ 13)) → (j ≠ 201 ∨ i = 6) → τ580 j i = σ j i := fun j i h_0 h_1 => (hG580 j i (by omega)).trans (hF577 j i h_0 h_1)
                have hg581 : τ580 201 3 = r531 := (hG580 201 3 (by omega)).trans hg578
                have hg582 : τ580 201 4 = r573 := (hG580 201 4 (by omega)).trans hg579
                show hpV _ _ _ _ _ _ _ _ _ _ _ _ _ _ _ _ _ _ _ _ _ (_ :: _)
                have y165_3 : τ580 201 3 = τ577 201 3 := hG580 201 3 (by omega)
                have y165_4 : τ580 201 4 = τ577 201 4 := hG580 201 4 (by omega)
                refine h_iastore C dX9_readNext_168 kd_201 ((15 + (2 * r573)) + 1).toNat (Int.toNat_of_nonneg (by omega)) (by rw [ln_201]; omega) ?_
                obtain ⟨τ583, e583⟩ : ∃ μ : hpMem, μ = hpw τ580 201 (((15 + (2 * r573)) + 1).toNat) x580 := ⟨_, rfl⟩
                rw [← e583]
                have hI583 : hpInv τ583 := by rw [e583]; exact hpInv.w201 hI580 (((15 + (2 * r573)) + 1).toNat) 16 28 (0) 20 (by omega) (by omega) (by decide) (by omega) (by omega)
                have hF583 : ∀ j i : Nat, (j ≠ 195 ∨ (i ≠ 8 ∧ i ≠ 9 ∧ i ≠ 10 ∧ i ≠ 11 ∧ i ≠ 12 ∧ i ≠ 13)) → (j ≠ 201 ∨ i = 6) → τ583 j i = σ j i := fun j i h_0 h_1 => by rw [e583]; exact (hpw_fr (by omega)).trans (hF580 j i h_0 h_1)
                have hg584 : τ583 201 3 = r531 := by rw [e583]; exact (hpw_fr (Or.inr (by omega))).trans hg581
                have hg585 : τ583 201 4 = r573 := by rw [e583]; exact (hpw_fr (Or.inr (by omega))).trans hg582
                have y168_3 : τ583 201 3 = τ580 201 3 := by rw [e583]; exact hpw_fr (Or.inr (by omega))
                have y168_4 : τ583 201 4 = τ580 201 4 := by rw [e583]; exact hpw_fr (Or.inr (by omega))
                refine h_aload_n C dX9_readNext_169 1 rfl rfl ?_
                refine h_get C O9 14 kd_195 (by decide) wd_1270 dX9_readNext_170 fr_195_14 ?_
                refine h_iconst C dX9_readNext_173 ?_
                refine h_dup2 C rfl rfl dX9_readNext_174 ?_
                refine h_iaload C dX9_readNext_175 kd_201 4 rfl (by rw [ln_201]; decide) rfl ?_
                rw [hg585]
                refine h_iconst C dX9_readNext_176 ?_
                refine h_iadd C dX9_readNext_177 rfl ?_
                refine h_iastore C dX9_readNext_178 kd_201 4 rfl (by rw [ln_201]; decide) ?_
                obtain ⟨τ586, e586⟩ : ∃ μ : hpMem, μ = hpw τ583 201 4 (r573 + 1) := ⟨_, rfl⟩
                rw [← e586]
                have hI586 : hpInv τ586 := by rw [e586]; exact hI583.w ((bw_201 4).trans (show hpwb 4 = (0, 6) by decide)) (by omega) (by omega)
                have hF586 : ∀ j i : Nat, (j ≠ 195 ∨ (i ≠ 8 ∧ i ≠ 9 ∧ i ≠ 10 ∧ i ≠ 11 ∧ i ≠ 12 ∧ i ≠ 13)) → (j ≠ 201 ∨ i = 6) → τ586 j i = σ j i := fun j i h_0 h_1 => by rw [e586]; exact (hpw_fr (by omega)).trans (hF583 j i h_0 h_1)
                have hg587 : τ586 201 3 = r531 := by rw [e586]; exact (hpw_fr (Or.inr (by decide))).trans hg584
                have hg588 : τ586 201 4 = r573 + 1 := by rw [e586]; exact hpw_eq
                have y178_3 : τ586 201 3 = τ583 201 3 := by rw [e586]; exact hpw_fr (Or.inr (by decide))
                refine h_return C hr hlk dX9_readNext_179 ?_
                exact ⟨rfl, hI586, hF586, by omega⟩
              · refine h_aload_n C dX9_readNext_85 0 rfl rfl ?_
                refine h_get C O9 14 kd_195 (by decide) wd_1270 dX9_readNext_86 fr_195_14 ?_
                refine h_bipush C dX9_readNext_89 (by decide) ?_
                refine h_aload_n C dX9_readNext_91 0 rfl rfl ?_
                refine h_get C O9 14 kd_195 (by decide) wd_1270 dX9_readNext_92 fr_195_14 ?_
                refine h_iconst C dX9_readNext_95 ?_
                refine h_iaload C dX9_readNext_96 kd_201 3 rfl (by rw [ln_201]; decide) rfl ?_
                rw [hg569]
                refine h_iadd C dX9_readNext_97 rfl ?_
                refine h_aload_n C dX9_readNext_98 0 rfl rfl ?_
                refine h_ldcS (i := 14) C Z (by decide) rfl dX9_readNext_99 ?_
                refine h_iconst C dX9_readNext_101 ?_
                refine h_bipush C dX9_readNext_102 (by decide) ?_
                refine h_callV (As := [.ref (cy (1000 + 14)), .int (hpI 1), .int (hpI 20)]) (rest := [.int (hpI (7 + r531)), .ref (z + 201)]) C Z yyX9_toldBy wd_1470 (tgX9_toldBy l D cy z _ 14 (by decide) 1 ⟨by decide, by decide⟩ 20 ⟨by decide, by decide⟩ hI568 (by omega)) kd_195 rfl rfl ⟨rfl, rfl, Nat.le_of_ble_eq_true rfl, Nat.le_of_ble_eq_true rfl⟩ ⟨Nat.le_of_ble_eq_true rfl, Nat.le_of_ble_eq_true rfl⟩ (Nat.le_of_ble_eq_true rfl) dX9_readNext_104 (fun r589 τ589 hp589 => ?_)
                obtain ⟨⟨x589, rfl, ⟨hx589a, hx589b⟩, hx589⟩, hI589, hG589⟩ := hp589
                have hF589 : ∀ j i : Nat, (j ≠ 195 ∨ (i ≠ 8 ∧ i ≠ 9 ∧ i ≠ 10 ∧ i ≠ 11 ∧ i ≠ 12 ∧ i ≠ 13)) → (j ≠ 201 ∨ i = 6) → τ589 j i = σ j i := fun j i h_0 h_1 => (hG589 j i (by omega)).trans (hF568 j i h_0 h_1)
                have hg590 : τ589 201 3 = r531 := (hG589 201 3 (by omega)).trans hg569
                show hpV _ _ _ _ _ _ _ _ _ _ _ _ _ _ _ _ _ _ _ _ _ (_ :: _)
                have y104_3 : τ589 201 3 = τ568 201 3 := hG589 201 3 (by omega)
                have y104_4 : τ589 201 4 = τ568 201 4 := hG589 201 4 (by omega)
                refine h_iastore C dX9_readNext_107 kd_201 (7 + r531).toNat (Int.toNat_of_nonneg (by omega)) (by rw [ln_201]; omega) ?_
                obtain ⟨τ591, e591⟩ : ∃ μ : hpMem, μ = hpw τ589 201 ((7 + r531).toNat) x589 := ⟨_, rfl⟩
                rw [← e591]
                have hI591 : hpInv τ591 := by rw [e591]; exact hpInv.w201 hI589 ((7 + r531).toNat) 7 14 (0) 20 (by omega) (by omega) (by decide) (by omega) (by omega)
                have hF591 : ∀ j i : Nat, (j ≠ 195 ∨ (i ≠ 8 ∧ i ≠ 9 ∧ i ≠ 10 ∧ i ≠ 11 ∧ i ≠ 12 ∧ i ≠ 13)) → (j ≠ 201 ∨ i = 6) → τ591 j i = σ j i := fun j i h_0 h_1 => by rw [e591]; exact (hpw_fr (by omega)).trans (hF589 j i h_0 h_1)
                have hg592 : τ591 201 3 = r531 := by rw [e591]; exact (hpw_fr (Or.inr (by omega))).trans hg590
                have y107_3 : τ591 201 3 = τ589 201 3 := by rw [e591]; exact hpw_fr (Or.inr (by omega))
                have y107_4 : τ591 201 4 = τ589 201 4 := by rw [e591]; exact hpw_fr (Or.inr (by omega))
                refine h_aload_n C dX9_readNext_108 0 rfl rfl ?_
                refine h_get C O9 14 kd_195 (by decide) wd_1270 dX9_readNext_109 fr_195_14 ?_
                refine h_iconst C dX9_readNext_112 ?_
                refine h_dup2 C rfl rfl dX9_readNext_113 ?_
                refine h_iaload C dX9_readNext_114 kd_201 3 rfl (by rw [ln_201]; decide) rfl ?_
                rw [hg592]
                refine h_iconst C dX9_readNext_115 ?_
                refine h_iadd C dX9_readNext_116 rfl ?_
                refine h_iastore C dX9_readNext_117 kd_201 3 rfl (by rw [ln_201]; decide) ?_
                obtain ⟨τ593, e593⟩ : ∃ μ : hpMem, μ = hpw τ591 201 3 (r531 + 1) := ⟨_, rfl⟩
                rw [← e593]
                have hI593 : hpInv τ593 := by rw [e593]; exact hI591.w ((bw_201 3).trans (show hpwb 3 = (0, 8) by decide)) (by omega) (by omega)
                have hF593 : ∀ j i : Nat, (j ≠ 195 ∨ (i ≠ 8 ∧ i ≠ 9 ∧ i ≠ 10 ∧ i ≠ 11 ∧ i ≠ 12 ∧ i ≠ 13)) → (j ≠ 201 ∨ i = 6) → τ593 j i = σ j i := fun j i h_0 h_1 => by rw [e593]; exact (hpw_fr (by omega)).trans (hF591 j i h_0 h_1)
                have hg594 : τ593 201 3 = r531 + 1 := by rw [e593]; exact hpw_eq
                have y117_4 : τ593 201 4 = τ591 201 4 := by rw [e593]; exact hpw_fr (Or.inr (by decide))
                refine h_goto (tgt := 179) C dX9_readNext_118 (by decide) ?_
                refine h_return C hr hlk dX9_readNext_179 ?_
                exact ⟨rfl, hI593, hF593, by omega⟩
            · refine h_return C hr hlk dX9_readNext_75 ?_
              exact ⟨rfl, hI445, hF445, by omega⟩
          · refine h_aload_n C dX9_readNext_52 0 rfl rfl ?_
            refine h_get C O9 14 kd_195 (by decide) wd_1270 dX9_readNext_53 fr_195_14 ?_
            refine h_iconst C dX9_readNext_56 ?_
            refine h_iaload C dX9_readNext_57 kd_201 4 rfl (by rw [ln_201]; decide) rfl ?_
            obtain ⟨hr595a, hr595b⟩ := hI445.b ((bw_201 4).trans (show hpwb 4 = (0, 6) by decide))
            generalize hg595 : τ445 201 4 = r595 at hr595a hr595b ⊢
            refine h_bipush C dX9_readNext_58 (by decide) ?_
            refine h_icmp_ne (tgt := 68) C dX9_readNext_60 (by decide) ⟨by omega, by omega⟩ ⟨by decide, by decide⟩ (fun h596 => ?_) (fun h596 => ?_)
            · refine h_aload_n C dX9_readNext_68 0 rfl rfl ?_
              refine h_callV (As := []) (rest := []) C Z yyX9_good wd_1438 (tgX9_good l D cy z _ hI445) kd_195 rfl rfl ⟨rfl, rfl, Nat.le_of_ble_eq_true rfl, Nat.le_of_ble_eq_true rfl⟩ ⟨Nat.le_of_ble_eq_true rfl, Nat.le_of_ble_eq_true rfl⟩ (Nat.le_of_ble_eq_true rfl) dX9_readNext_69 (fun r597 τ597 hp597 => ?_)
              obtain ⟨⟨x597, rfl, ⟨hx597a, hx597b⟩, hx597⟩, rfl⟩ := hp597
              show hpV _ _ _ _ _ _ _ _ _ _ _ _ _ _ _ _ _ _ _ _ _ (_ :: _)
              refine h_if_ne (tgt := 76) C dX9_readNext_72 (by decide) ⟨by omega, by omega⟩ (fun h598 => ?_) (fun h598 => ?_)
              · refine h_aload_n C dX9_readNext_76 0 rfl rfl ?_
                refine h_ldcS (i := 12) C Z (by decide) rfl dX9_readNext_77 ?_
                refine h_callV (As := [.ref (cy (1000 + 12))]) (rest := []) C Z yyX9_takes wd_1455 (tgX9_takes l D cy z _ 12 (by decide) hI445) kd_195 rfl rfl ⟨rfl, rfl, Nat.le_of_ble_eq_true rfl, Nat.le_of_ble_eq_true rfl⟩ ⟨Nat.le_of_ble_eq_true rfl, Nat.le_of_ble_eq_true rfl⟩ (Nat.le_of_ble_eq_true rfl) dX9_readNext_79 (fun r599 τ599 hp599 => ?_)
                obtain ⟨⟨x599, rfl, ⟨hx599a, hx599b⟩, hx599⟩, hI599, hG599⟩ := hp599
                have hF599 : ∀ j i : Nat, (j ≠ 195 ∨ (i ≠ 8 ∧ i ≠ 9 ∧ i ≠ 10 ∧ i ≠ 11 ∧ i ≠ 12 ∧ i ≠ 13)) → (j ≠ 201 ∨ i = 6) → τ599 j i = σ j i := fun j i h_0 h_1 => (hG599 j i (by omega)).trans (hF445 j i h_0 h_1)
                have hg600 : τ599 201 3 = r531 := (hG599 201 3 (by omega)).trans hg531
                have hg601 : τ599 201 4 = r595 := (hG599 201 4 (by omega)).trans hg595
                show hpV _ _ _ _ _ _ _ _ _ _ _ _ _ _ _ _ _ _ _ _ _ (_ :: _)
                have y79_3 : τ599 201 3 = τ445 201 3 := hG599 201 3 (by omega)
                have y79_4 : τ599 201 4 = τ445 201 4 := hG599 201 4 (by omega)
                refine h_if_eq (tgt := 121) C dX9_readNext_82 (by decide) ⟨by omega, by omega⟩ (fun h602 => ?_) (fun h602 => ?_)
                · refine h_aload_n C dX9_readNext_121 0 rfl rfl ?_
                  refine h_callV (As := []) (rest := []) C Z yyX9_advance wd_1424 (tgX9_advance l D cy z _ hI599) kd_195 rfl rfl ⟨rfl, rfl, Nat.le_of_ble_eq_true rfl, Nat.le_of_ble_eq_true rfl⟩ ⟨Nat.le_of_ble_eq_true rfl, Nat.le_of_ble_eq_true rfl⟩ (Nat.le_of_ble_eq_true rfl) dX9_readNext_122 (fun r603 τ603 hp603 => ?_)
                  obtain ⟨rfl, hI603, hG603⟩ := hp603
                  have hF603 : ∀ j i : Nat, (j ≠ 195 ∨ (i ≠ 8 ∧ i ≠ 9 ∧ i ≠ 10 ∧ i ≠ 11 ∧ i ≠ 12 ∧ i ≠ 13)) → (j ≠ 201 ∨ i = 6) → τ603 j i = σ j i := fun j i h_0 h_1 => (hG603 j i (by omega)).trans (hF599 j i h_0 h_1)
                  have hg604 : τ603 201 3 = r531 := (hG603 201 3 (by omega)).trans hg600
                  have hg605 : τ603 201 4 = r595 := (hG603 201 4 (by omega)).trans hg601
                  show hpV _ _ _ _ _ _ _ _ _ _ _ _ _ _ _ _ _ _ _ _ _ []
                  have y122_3 : τ603 201 3 = τ599 201 3 := hG603 201 3 (by omega)
                  have y122_4 : τ603 201 4 = τ599 201 4 := hG603 201 4 (by omega)
                  refine h_bipush C dX9_readNext_125 (by decide) ?_
                  refine h_iconst C dX9_readNext_127 ?_
                  refine h_aload_n C dX9_readNext_128 0 rfl rfl ?_
                  refine h_get C O9 14 kd_195 (by decide) wd_1270 dX9_readNext_129 fr_195_14 ?_
                  refine h_iconst C dX9_readNext_132 ?_
                  refine h_iaload C dX9_readNext_133 kd_201 4 rfl (by rw [ln_201]; decide) rfl ?_
                  rw [hg605]
                  refine h_imul C dX9_readNext_134 rfl ?_
                  refine h_iadd C dX9_readNext_135 rfl ?_
                  refine h_istore_n (lv' := [(1, .int (hpI (15 + (2 * r595)))), (0, .ref (z + 195))]) C dX9_readNext_136 rfl (by decide) rfl ?_
                  refine h_aload_n C dX9_readNext_137 1 rfl rfl ?_
                  refine h_get C O9 14 kd_195 (by decide) wd_1270 dX9_readNext_138 fr_195_14 ?_
                  refine h_iload_n C dX9_readNext_141 0 rfl rfl ?_
                  refine h_aload_n C dX9_readNext_142 1 rfl rfl ?_
                  refine h_ldcS (i := 14) C Z (by decide) rfl dX9_readNext_143 ?_
                  refine h_iconst C dX9_readNext_145 ?_
                  refine h_bipush C dX9_readNext_146 (by decide) ?_
                  refine h_callV (As := [.ref (cy (1000 + 14)), .int (hpI 1), .int (hpI 20)]) (rest := [.int (hpI (15 + (2 * r595))), .ref (z + 201)]) C Z yyX9_toldBy wd_1470 (tgX9_toldBy l D cy z _ 14 (by decide) 1 ⟨by decide, by decide⟩ 20 ⟨by decide, by decide⟩ hI603 (by omega)) kd_195 rfl rfl ⟨rfl, rfl, Nat.le_of_ble_eq_true rfl, Nat.le_of_ble_eq_true rfl⟩ ⟨Nat.le_of_ble_eq_true rfl, Nat.le_of_ble_eq_true rfl⟩ (Nat.le_of_ble_eq_true rfl) dX9_readNext_148 (fun r606 τ606 hp606 => ?_)
                  obtain ⟨⟨x606, rfl, ⟨hx606a, hx606b⟩, hx606⟩, hI606, hG606⟩ := hp606
                  have hF606 : ∀ j i : Nat, (j ≠ 195 ∨ (i ≠ 8 ∧ i ≠ 9 ∧ i ≠ 10 ∧ i ≠ 11 ∧ i ≠ 12 ∧ i ≠ 13)) → (j ≠ 201 ∨ i = 6) → τ606 j i = σ j i := fun j i h_0 h_1 => (hG606 j i (by omega)).trans (hF603 j i h_0 h_1)
                  have hg607 : τ606 201 3 = r531 := (hG606 201 3 (by omega)).trans hg604
                  have hg608 : τ606 201 4 = r595 := (hG606 201 4 (by omega)).trans hg605
                  show hpV _ _ _ _ _ _ _ _ _ _ _ _ _ _ _ _ _ _ _ _ _ (_ :: _)
                  have y148_3 : τ606 201 3 = τ603 201 3 := hG606 201 3 (by omega)
                  have y148_4 : τ606 201 4 = τ603 201 4 := hG606 201 4 (by omega)
                  refine h_iastore C dX9_readNext_151 kd_201 (15 + (2 * r595)).toNat (Int.toNat_of_nonneg (by omega)) (by rw [ln_201]; omega) ?_
                  obtain ⟨τ609, e609⟩ : ∃ μ : hpMem, μ = hpw τ606 201 ((15 + (2 * r595)).toNat) x606 := ⟨_, rfl⟩
                  rw [← e609]
                  have hI609 : hpInv τ609 := by rw [e609]; exact hpInv.w201 hI606 ((15 + (2 * r595)).toNat) 15 25 (0) 20 (by omega) (by omega) (by decide) (by omega) (by omega)
                  have hF609 : ∀ j i : Nat, (j ≠ 195 ∨ (i ≠ 8 ∧ i ≠ 9 ∧ i ≠ 10 ∧ i ≠ 11 ∧ i ≠ 12 ∧ i ≠ 13)) → (j ≠ 201 ∨ i = 6) → τ609 j i = σ j i := fun j i h_0 h_1 => by rw [e609]; exact (hpw_fr (by omega)).trans (hF606 j i h_0 h_1)
                  have hg610 : τ609 201 3 = r531 := by rw [e609]; exact (hpw_fr (Or.inr (by omega))).trans hg607
                  have hg611 : τ609 201 4 = r595 := by rw [e609]; exact (hpw_fr (Or.inr (by omega))).trans hg608
                  have y151_3 : τ609 201 3 = τ606 201 3 := by rw [e609]; exact hpw_fr (Or.inr (by omega))
                  have y151_4 : τ609 201 4 = τ606 201 4 := by rw [e609]; exact hpw_fr (Or.inr (by omega))
                  refine h_aload_n C dX9_readNext_152 1 rfl rfl ?_
                  refine h_get C O9 14 kd_195 (by decide) wd_1270 dX9_readNext_153 fr_195_14 ?_
                  refine h_iload_n C dX9_readNext_156 0 rfl rfl ?_
                  refine h_iconst C dX9_readNext_157 ?_
                  refine h_iadd C dX9_readNext_158 rfl ?_
                  refine h_aload_n C dX9_readNext_159 1 rfl rfl ?_
                  refine h_ldcS (i := 15) C Z (by decide) rfl dX9_readNext_160 ?_
                  refine h_iconst C dX9_readNext_162 ?_
                  refine h_bipush C dX9_readNext_163 (by decide) ?_
                  refine h_callV (As := [.ref (cy (1000 + 15)), .int (hpI 0), .int (hpI 15)]) (rest := [.int (hpI ((15 + (2 * r595)) + 1)), .ref (z + 201)]) C Z yyX9_toldBy wd_1470 (tgX9_toldBy l D cy z _ 15 (by decide) 0 ⟨by decide, by decide⟩ 15 ⟨by decide, by decide⟩ hI609 (by omega)) kd_195 rfl rfl ⟨rfl, rfl, Nat.le_of_ble_eq_true rfl, Nat.le_of_ble_eq_true rfl⟩ ⟨Nat.le_of_ble_eq_true rfl, Nat.le_of_ble_eq_true rfl⟩ (Nat.le_of_ble_eq_true rfl) dX9_readNext_165 (fun r612 τ612 hp612 => ?_)
                  obtain ⟨⟨x612, rfl, ⟨hx612a, hx612b⟩, hx612⟩, hI612, hG612⟩ := hp612
                  have hF612 : ∀ j i : Nat, (j ≠ 195 ∨ (i ≠ 8 ∧ i ≠ 9 ∧ i ≠ 10 ∧ i ≠ 11 ∧ i ≠ 12 ∧ i ≠ 13)) → (j ≠ 201 ∨ i = 6) → τ612 j i = σ j i := fun j i h_0 h_1 => (hG612 j i (by omega)).trans (hF609 j i h_0 h_1)
                  have hg613 : τ612 201 3 = r531 := (hG612 201 3 (by omega)).trans hg610
                  have hg614 : τ612 201 4 = r595 := (hG612 201 4 (by omega)).trans hg611
                  show hpV _ _ _ _ _ _ _ _ _ _ _ _ _ _ _ _ _ _ _ _ _ (_ :: _)
                  have y165_3 : τ612 201 3 = τ609 201 3 := hG612 201 3 (by omega)
                  have y165_4 : τ612 201 4 = τ609 201 4 := hG612 201 4 (by omega)
                  refine h_iastore C dX9_readNext_168 kd_201 ((15 + (2 * r595)) + 1).toNat (Int.toNat_of_nonneg (by omega)) (by rw [ln_201]; omega) ?_
                  obtain ⟨τ615, e615⟩ : ∃ μ : hpMem, μ = hpw τ612 201 (((15 + (2 * r595)) + 1).toNat) x612 := ⟨_, rfl⟩
                  rw [← e615]
                  have hI615 : hpInv τ615 := by rw [e615]; exact hpInv.w201 hI612 (((15 + (2 * r595)) + 1).toNat) 16 26 (0) 20 (by omega) (by omega) (by decide) (by omega) (by omega)
                  have hF615 : ∀ j i : Nat, (j ≠ 195 ∨ (i ≠ 8 ∧ i ≠ 9 ∧ i ≠ 10 ∧ i ≠ 11 ∧ i ≠ 12 ∧ i ≠ 13)) → (j ≠ 201 ∨ i = 6) → τ615 j i = σ j i := fun j i h_0 h_1 => by rw [e615]; exact (hpw_fr (by omega)).trans (hF612 j i h_0 h_1)
                  have hg616 : τ615 201 3 = r531 := by rw [e615]; exact (hpw_fr (Or.inr (by omega))).trans hg613
                  have hg617 : τ615 201 4 = r595 := by rw [e615]; exact (hpw_fr (Or.inr (by omega))).trans hg614
                  have y168_3 : τ615 201 3 = τ612 201 3 := by rw [e615]; exact hpw_fr (Or.inr (by omega))
                  have y168_4 : τ615 201 4 = τ612 201 4 := by rw [e615]; exact hpw_fr (Or.inr (by omega))
                  refine h_aload_n C dX9_readNext_169 1 rfl rfl ?_
                  refine h_get C O9 14 kd_195 (by decide) wd_1270 dX9_readNext_170 fr_195_14 ?_
                  refine h_iconst C dX9_readNext_173 ?_
                  refine h_dup2 C rfl rfl dX9_readNext_174 ?_
                  refine h_iaload C dX9_readNext_175 kd_201 4 rfl (by rw [ln_201]; decide) rfl ?_
                  rw [hg617]
                  refine h_iconst C dX9_readNext_176 ?_
                  refine h_iadd C dX9_readNext_177 rfl ?_
                  refine h_iastore C dX9_readNext_178 kd_201 4 rfl (by rw [ln_201]; decide) ?_
                  obtain ⟨τ618, e618⟩ : ∃ μ : hpMem, μ = hpw τ615 201 4 (r595 + 1) := ⟨_, rfl⟩
                  rw [← e618]
                  have hI618 : hpInv τ618 := by rw [e618]; exact hI615.w ((bw_201 4).trans (show hpwb 4 = (0, 6) by decide)) (by omega) (by omega)
                  have hF618 : ∀ j i : Nat, (j ≠ 195 ∨ (i ≠ 8 ∧ i ≠ 9 ∧ i ≠ 10 ∧ i ≠ 11 ∧ i ≠ 12 ∧ i ≠ 13)) → (j ≠ 201 ∨ i = 6) → τ618 j i = σ j i := fun j i h_0 h_1 => by rw [e618]; exact (hpw_fr (by omega)).trans (hF615 j i h_0 h_1)
                  have hg619 : τ618 201 3 = r531 := by rw [e618]; exact (hpw_fr (Or.inr (by decide))).trans hg616
                  have hg620 : τ618 201 4 = r595 + 1 := by rw [e618]; exact hpw_eq
                  have y178_3 : τ618 201 3 = τ615 201 3 := by rw [e618]; exact hpw_fr (Or.inr (by decide))
                  refine h_return C hr hlk dX9_readNext_179 ?_
                  exact ⟨rfl, hI618, hF618, by omega⟩
                · refine h_aload_n C dX9_readNext_85 0 rfl rfl ?_
                  refine h_get C O9 14 kd_195 (by decide) wd_1270 dX9_readNext_86 fr_195_14 ?_
                  refine h_bipush C dX9_readNext_89 (by decide) ?_
                  refine h_aload_n C dX9_readNext_91 0 rfl rfl ?_
                  refine h_get C O9 14 kd_195 (by decide) wd_1270 dX9_readNext_92 fr_195_14 ?_
                  refine h_iconst C dX9_readNext_95 ?_
                  refine h_iaload C dX9_readNext_96 kd_201 3 rfl (by rw [ln_201]; decide) rfl ?_
                  rw [hg600]
                  refine h_iadd C dX9_readNext_97 rfl ?_
                  refine h_aload_n C dX9_readNext_98 0 rfl rfl ?_
                  refine h_ldcS (i := 14) C Z (by decide) rfl dX9_readNext_99 ?_
                  refine h_iconst C dX9_readNext_101 ?_
                  refine h_bipush C dX9_readNext_102 (by decide) ?_
                  refine h_callV (As := [.ref (cy (1000 + 14)), .int (hpI 1), .int (hpI 20)]) (rest := [.int (hpI (7 + r531)), .ref (z + 201)]) C Z yyX9_toldBy wd_1470 (tgX9_toldBy l D cy z _ 14 (by decide) 1 ⟨by decide, by decide⟩ 20 ⟨by decide, by decide⟩ hI599 (by omega)) kd_195 rfl rfl ⟨rfl, rfl, Nat.le_of_ble_eq_true rfl, Nat.le_of_ble_eq_true rfl⟩ ⟨Nat.le_of_ble_eq_true rfl, Nat.le_of_ble_eq_true rfl⟩ (Nat.le_of_ble_eq_true rfl) dX9_readNext_104 (fun r621 τ621 hp621 => ?_)
                  obtain ⟨⟨x621, rfl, ⟨hx621a, hx621b⟩, hx621⟩, hI621, hG621⟩ := hp621
                  have hF621 : ∀ j i : Nat, (j ≠ 195 ∨ (i ≠ 8 ∧ i ≠ 9 ∧ i ≠ 10 ∧ i ≠ 11 ∧ i ≠ 12 ∧ i ≠ 13)) → (j ≠ 201 ∨ i = 6) → τ621 j i = σ j i := fun j i h_0 h_1 => (hG621 j i (by omega)).trans (hF599 j i h_0 h_1)
                  have hg622 : τ621 201 3 = r531 := (hG621 201 3 (by omega)).trans hg600
                  have hg623 : τ621 201 4 = r595 := (hG621 201 4 (by omega)).trans hg601
                  show hpV _ _ _ _ _ _ _ _ _ _ _ _ _ _ _ _ _ _ _ _ _ (_ :: _)
                  have y104_3 : τ621 201 3 = τ599 201 3 := hG621 201 3 (by omega)
                  have y104_4 : τ621 201 4 = τ599 201 4 := hG621 201 4 (by omega)
                  refine h_iastore C dX9_readNext_107 kd_201 (7 + r531).toNat (Int.toNat_of_nonneg (by omega)) (by rw [ln_201]; omega) ?_
                  obtain ⟨τ624, e624⟩ : ∃ μ : hpMem, μ = hpw τ621 201 ((7 + r531).toNat) x621 := ⟨_, rfl⟩
                  rw [← e624]
                  have hI624 : hpInv τ624 := by rw [e624]; exact hpInv.w201 hI621 ((7 + r531).toNat) 7 14 (0) 20 (by omega) (by omega) (by decide) (by omega) (by omega)
                  have hF624 : ∀ j i : Nat, (j ≠ 195 ∨ (i ≠ 8 ∧ i ≠ 9 ∧ i ≠ 10 ∧ i ≠ 11 ∧ i ≠ 12 ∧ i ≠ 13)) → (j ≠ 201 ∨ i = 6) → τ624 j i = σ j i := fun j i h_0 h_1 => by rw [e624]; exact (hpw_fr (by omega)).trans (hF621 j i h_0 h_1)
                  have hg625 : τ624 201 3 = r531 := by rw [e624]; exact (hpw_fr (Or.inr (by omega))).trans hg622
                  have hg626 : τ624 201 4 = r595 := by rw [e624]; exact (hpw_fr (Or.inr (by omega))).trans hg623
                  have y107_3 : τ624 201 3 = τ621 201 3 := by rw [e624]; exact hpw_fr (Or.inr (by omega))
                  have y107_4 : τ624 201 4 = τ621 201 4 := by rw [e624]; exact hpw_fr (Or.inr (by omega))
                  refine h_aload_n C dX9_readNext_108 0 rfl rfl ?_
                  refine h_get C O9 14 kd_195 (by decide) wd_1270 dX9_readNext_109 fr_195_14 ?_
                  refine h_iconst C dX9_readNext_112 ?_
                  refine h_dup2 C rfl rfl dX9_readNext_113 ?_
                  refine h_iaload C dX9_readNext_114 kd_201 3 rfl (by rw [ln_201]; decide) rfl ?_
                  rw [hg625]
                  refine h_iconst C dX9_readNext_115 ?_
                  refine h_iadd C dX9_readNext_116 rfl ?_
                  refine h_iastore C dX9_readNext_117 kd_201 3 rfl (by rw [ln_201]; decide) ?_
                  obtain ⟨τ627, e627⟩ : ∃ μ : hpMem, μ = hpw τ624 201 3 (r531 + 1) := ⟨_, rfl⟩
                  rw [← e627]
                  have hI627 : hpInv τ627 := by rw [e627]; exact hI624.w ((bw_201 3).trans (show hpwb 3 = (0, 8) by decide)) (by omega) (by omega)
                  have hF627 : ∀ j i : Nat, (j ≠ 195 ∨ (i ≠ 8 ∧ i ≠ 9 ∧ i ≠ 10 ∧ i ≠ 11 ∧ i ≠ 12 ∧ i ≠ 13)) → (j ≠ 201 ∨ i = 6) → τ627 j i = σ j i := fun j i h_0 h_1 => by rw [e627]; exact (hpw_fr (by omega)).trans (hF624 j i h_0 h_1)
                  have hg628 : τ627 201 4 = r595 := by rw [e627]; exact (hpw_fr (Or.inr (by decide))).trans hg626
                  have hg629 : τ627 201 3 = r531 + 1 := by rw [e627]; exact hpw_eq
                  have y117_4 : τ627 201 4 = τ624 201 4 := by rw [e627]; exact hpw_fr (Or.inr (by decide))
                  refine h_goto (tgt := 179) C dX9_readNext_118 (by decide) ?_
                  refine h_return C hr hlk dX9_readNext_179 ?_
                  exact ⟨rfl, hI627, hF627, by omega⟩
              · refine h_return C hr hlk dX9_readNext_75 ?_
                exact ⟨rfl, hI445, hF445, by omega⟩
            · refine h_aload_n C dX9_readNext_63 0 rfl rfl ?_
              refine h_iconst C dX9_readNext_64 ?_
              refine h_callV (As := [.int (hpI 3)]) (rest := []) C Z yyX9_errs wd_1465 (tgX9_errs l D cy z _ 3 ⟨by decide, by decide⟩ hI445 (by omega)) kd_195 rfl rfl ⟨rfl, rfl, Nat.le_of_ble_eq_true rfl, Nat.le_of_ble_eq_true rfl⟩ ⟨Nat.le_of_ble_eq_true rfl, Nat.le_of_ble_eq_true rfl⟩ (Nat.le_of_ble_eq_true rfl) dX9_readNext_65 (fun r630 τ630 hp630 => ?_)
              obtain ⟨rfl, hI630, hG630, hq630_0⟩ := hp630
              have hF630 : ∀ j i : Nat, (j ≠ 195 ∨ (i ≠ 8 ∧ i ≠ 9 ∧ i ≠ 10 ∧ i ≠ 11 ∧ i ≠ 12 ∧ i ≠ 13)) → (j ≠ 201 ∨ i = 6) → τ630 j i = σ j i := fun j i h_0 h_1 => (hG630 j i (by omega)).trans (hF445 j i h_0 h_1)
              have hg631 : τ630 201 3 = r531 := (hG630 201 3 (by omega)).trans hg531
              have hg632 : τ630 201 4 = r595 := (hG630 201 4 (by omega)).trans hg595
              show hpV _ _ _ _ _ _ _ _ _ _ _ _ _ _ _ _ _ _ _ _ _ []
              refine h_aload_n C dX9_readNext_68 0 rfl rfl ?_
              refine h_callV (As := []) (rest := []) C Z yyX9_good wd_1438 (tgX9_good l D cy z _ hI630) kd_195 rfl rfl ⟨rfl, rfl, Nat.le_of_ble_eq_true rfl, Nat.le_of_ble_eq_true rfl⟩ ⟨Nat.le_of_ble_eq_true rfl, Nat.le_of_ble_eq_true rfl⟩ (Nat.le_of_ble_eq_true rfl) dX9_readNext_69 (fun r633 τ633 hp633 => ?_)
              obtain ⟨⟨x633, rfl, ⟨hx633a, hx633b⟩, hx633⟩, rfl⟩ := hp633
              show hpV _ _ _ _ _ _ _ _ _ _ _ _ _ _ _ _ _ _ _ _ _ (_ :: _)
              refine h_if_ne (tgt := 76) C dX9_readNext_72 (by decide) ⟨by omega, by omega⟩ (fun h634 => ?_) (fun h634 => ?_)
              · refine h_aload_n C dX9_readNext_76 0 rfl rfl ?_
                refine h_ldcS (i := 12) C Z (by decide) rfl dX9_readNext_77 ?_
                refine h_callV (As := [.ref (cy (1000 + 12))]) (rest := []) C Z yyX9_takes wd_1455 (tgX9_takes l D cy z _ 12 (by decide) hI630) kd_195 rfl rfl ⟨rfl, rfl, Nat.le_of_ble_eq_true rfl, Nat.le_of_ble_eq_true rfl⟩ ⟨Nat.le_of_ble_eq_true rfl, Nat.le_of_ble_eq_true rfl⟩ (Nat.le_of_ble_eq_true rfl) dX9_readNext_79 (fun r635 τ635 hp635 => ?_)
                obtain ⟨⟨x635, rfl, ⟨hx635a, hx635b⟩, hx635⟩, hI635, hG635⟩ := hp635
                have hF635 : ∀ j i : Nat, (j ≠ 195 ∨ (i ≠ 8 ∧ i ≠ 9 ∧ i ≠ 10 ∧ i ≠ 11 ∧ i ≠ 12 ∧ i ≠ 13)) → (j ≠ 201 ∨ i = 6) → τ635 j i = σ j i := fun j i h_0 h_1 => (hG635 j i (by omega)).trans (hF630 j i h_0 h_1)
                have hg636 : τ635 201 3 = r531 := (hG635 201 3 (by omega)).trans hg631
                have hg637 : τ635 201 4 = r595 := (hG635 201 4 (by omega)).trans hg632
                show hpV _ _ _ _ _ _ _ _ _ _ _ _ _ _ _ _ _ _ _ _ _ (_ :: _)
                have y79_3 : τ635 201 3 = τ630 201 3 := hG635 201 3 (by omega)
                have y79_4 : τ635 201 4 = τ630 201 4 := hG635 201 4 (by omega)
                refine h_if_eq (tgt := 121) C dX9_readNext_82 (by decide) ⟨by omega, by omega⟩ (fun h638 => ?_) (fun h638 => ?_)
                · refine h_aload_n C dX9_readNext_121 0 rfl rfl ?_
                  refine h_callV (As := []) (rest := []) C Z yyX9_advance wd_1424 (tgX9_advance l D cy z _ hI635) kd_195 rfl rfl ⟨rfl, rfl, Nat.le_of_ble_eq_true rfl, Nat.le_of_ble_eq_true rfl⟩ ⟨Nat.le_of_ble_eq_true rfl, Nat.le_of_ble_eq_true rfl⟩ (Nat.le_of_ble_eq_true rfl) dX9_readNext_122 (fun r639 τ639 hp639 => ?_)
                  obtain ⟨rfl, hI639, hG639⟩ := hp639
                  have hF639 : ∀ j i : Nat, (j ≠ 195 ∨ (i ≠ 8 ∧ i ≠ 9 ∧ i ≠ 10 ∧ i ≠ 11 ∧ i ≠ 12 ∧ i ≠ 13)) → (j ≠ 201 ∨ i = 6) → τ639 j i = σ j i := fun j i h_0 h_1 => (hG639 j i (by omega)).trans (hF635 j i h_0 h_1)
                  have hg640 : τ639 201 3 = r531 := (hG639 201 3 (by omega)).trans hg636
                  have hg641 : τ639 201 4 = r595 := (hG639 201 4 (by omega)).trans hg637
                  show hpV _ _ _ _ _ _ _ _ _ _ _ _ _ _ _ _ _ _ _ _ _ []
                  have y122_3 : τ639 201 3 = τ635 201 3 := hG639 201 3 (by omega)
                  have y122_4 : τ639 201 4 = τ635 201 4 := hG639 201 4 (by omega)
                  refine h_bipush C dX9_readNext_125 (by decide) ?_
                  refine h_iconst C dX9_readNext_127 ?_
                  refine h_aload_n C dX9_readNext_128 0 rfl rfl ?_
                  refine h_get C O9 14 kd_195 (by decide) wd_1270 dX9_readNext_129 fr_195_14 ?_
                  refine h_iconst C dX9_readNext_132 ?_
                  refine h_iaload C dX9_readNext_133 kd_201 4 rfl (by rw [ln_201]; decide) rfl ?_
                  rw [hg641]
                  refine h_imul C dX9_readNext_134 rfl ?_
                  refine h_iadd C dX9_readNext_135 rfl ?_
                  refine h_istore_n (lv' := [(1, .int (hpI (15 + (2 * r595)))), (0, .ref (z + 195))]) C dX9_readNext_136 rfl (by decide) rfl ?_
                  refine h_aload_n C dX9_readNext_137 1 rfl rfl ?_
                  refine h_get C O9 14 kd_195 (by decide) wd_1270 dX9_readNext_138 fr_195_14 ?_
                  refine h_iload_n C dX9_readNext_141 0 rfl rfl ?_
                  refine h_aload_n C dX9_readNext_142 1 rfl rfl ?_
                  refine h_ldcS (i := 14) C Z (by decide) rfl dX9_readNext_143 ?_
                  refine h_iconst C dX9_readNext_145 ?_
                  refine h_bipush C dX9_readNext_146 (by decide) ?_
                  refine h_callV (As := [.ref (cy (1000 + 14)), .int (hpI 1), .int (hpI 20)]) (rest := [.int (hpI (15 + (2 * r595))), .ref (z + 201)]) C Z yyX9_toldBy wd_1470 (tgX9_toldBy l D cy z _ 14 (by decide) 1 ⟨by decide, by decide⟩ 20 ⟨by decide, by decide⟩ hI639 (by omega)) kd_195 rfl rfl ⟨rfl, rfl, Nat.le_of_ble_eq_true rfl, Nat.le_of_ble_eq_true rfl⟩ ⟨Nat.le_of_ble_eq_true rfl, Nat.le_of_ble_eq_true rfl⟩ (Nat.le_of_ble_eq_true rfl) dX9_readNext_148 (fun r642 τ642 hp642 => ?_)
                  obtain ⟨⟨x642, rfl, ⟨hx642a, hx642b⟩, hx642⟩, hI642, hG642⟩ := hp642
                  have hF642 : ∀ j i : Nat, (j ≠ 195 ∨ (i ≠ 8 ∧ i ≠ 9 ∧ i ≠ 10 ∧ i ≠ 11 ∧ i ≠ 12 ∧ i ≠ 13)) → (j ≠ 201 ∨ i = 6) → τ642 j i = σ j i := fun j i h_0 h_1 => (hG642 j i (by omega)).trans (hF639 j i h_0 h_1)
                  have hg643 : τ642 201 3 = r531 := (hG642 201 3 (by omega)).trans hg640
                  have hg644 : τ642 201 4 = r595 := (hG642 201 4 (by omega)).trans hg641
                  show hpV _ _ _ _ _ _ _ _ _ _ _ _ _ _ _ _ _ _ _ _ _ (_ :: _)
                  have y148_3 : τ642 201 3 = τ639 201 3 := hG642 201 3 (by omega)
                  have y148_4 : τ642 201 4 = τ639 201 4 := hG642 201 4 (by omega)
                  refine h_iastore C dX9_readNext_151 kd_201 (15 + (2 * r595)).toNat (Int.toNat_of_nonneg (by omega)) (by rw [ln_201]; omega) ?_
                  obtain ⟨τ645, e645⟩ : ∃ μ : hpMem, μ = hpw τ642 201 ((15 + (2 * r595)).toNat) x642 := ⟨_, rfl⟩
                  rw [← e645]
                  have hI645 : hpInv τ645 := by rw [e645]; exact hpInv.w201 hI642 ((15 + (2 * r595)).toNat) 27 27 (0) 2016 (by omega) (by omega) (by decide) (by omega) (by omega)
                  have hF645 : ∀ j i : Nat, (j ≠ 195 ∨ (i ≠ 8 ∧ i ≠ 9 ∧ i ≠ 10 ∧ i ≠ 11 ∧ i ≠ 12 ∧ i ≠ 13)) → (j ≠ 201 ∨ i = 6) → τ645 j i = σ j i := fun j i h_0 h_1 => by rw [e645]; exact (hpw_fr (by omega)).trans (hF642 j i h_0 h_1)
                  have hg646 : τ645 201 3 = r531 := by rw [e645]; exact (hpw_fr (Or.inr (by omega))).trans hg643
                  have hg647 : τ645 201 4 = r595 := by rw [e645]; exact (hpw_fr (Or.inr (by omega))).trans hg644
                  have y151_3 : τ645 201 3 = τ642 201 3 := by rw [e645]; exact hpw_fr (Or.inr (by omega))
                  have y151_4 : τ645 201 4 = τ642 201 4 := by rw [e645]; exact hpw_fr (Or.inr (by omega))
                  refine h_aload_n C dX9_readNext_152 1 rfl rfl ?_
                  refine h_get C O9 14 kd_195 (by decide) wd_1270 dX9_readNext_153 fr_195_14 ?_
                  refine h_iload_n C dX9_readNext_156 0 rfl rfl ?_
                  refine h_iconst C dX9_readNext_157 ?_
                  refine h_iadd C dX9_readNext_158 rfl ?_
                  refine h_aload_n C dX9_readNext_159 1 rfl rfl ?_
                  refine h_ldcS (i := 15) C Z (by decide) rfl dX9_readNext_160 ?_
                  refine h_iconst C dX9_readNext_162 ?_
                  refine h_bipush C dX9_readNext_163 (by decide) ?_
                  refine h_callV (As := [.ref (cy (1000 + 15)), .int (hpI 0), .int (hpI 15)]) (rest := [.int (hpI ((15 + (2 * r595)) + 1)), .ref (z + 201)]) C Z yyX9_toldBy wd_1470 (tgX9_toldBy l D cy z _ 15 (by decide) 0 ⟨by decide, by decide⟩ 15 ⟨by decide, by decide⟩ hI645 (by omega)) kd_195 rfl rfl ⟨rfl, rfl, Nat.le_of_ble_eq_true rfl, Nat.le_of_ble_eq_true rfl⟩ ⟨Nat.le_of_ble_eq_true rfl, Nat.le_of_ble_eq_true rfl⟩ (Nat.le_of_ble_eq_true rfl) dX9_readNext_165 (fun r648 τ648 hp648 => ?_)
                  obtain ⟨⟨x648, rfl, ⟨hx648a, hx648b⟩, hx648⟩, hI648, hG648⟩ := hp648
                  have hF648 : ∀ j i : Nat, (j ≠ 195 ∨ (i ≠ 8 ∧ i ≠ 9 ∧ i ≠ 10 ∧ i ≠ 11 ∧ i ≠ 12 ∧ i ≠ 13)) → (j ≠ 201 ∨ i = 6) → τ648 j i = σ j i := fun j i h_0 h_1 => (hG648 j i (by omega)).trans (hF645 j i h_0 h_1)
                  have hg649 : τ648 201 3 = r531 := (hG648 201 3 (by omega)).trans hg646
                  have hg650 : τ648 201 4 = r595 := (hG648 201 4 (by omega)).trans hg647
                  show hpV _ _ _ _ _ _ _ _ _ _ _ _ _ _ _ _ _ _ _ _ _ (_ :: _)
                  have y165_3 : τ648 201 3 = τ645 201 3 := hG648 201 3 (by omega)
                  have y165_4 : τ648 201 4 = τ645 201 4 := hG648 201 4 (by omega)
                  refine h_iastore C dX9_readNext_168 kd_201 ((15 + (2 * r595)) + 1).toNat (Int.toNat_of_nonneg (by omega)) (by rw [ln_201]; omega) ?_
                  obtain ⟨τ651, e651⟩ : ∃ μ : hpMem, μ = hpw τ648 201 (((15 + (2 * r595)) + 1).toNat) x648 := ⟨_, rfl⟩
                  rw [← e651]
                  have hI651 : hpInv τ651 := by rw [e651]; exact hpInv.w201 hI648 (((15 + (2 * r595)) + 1).toNat) 28 28 (0) 2016 (by omega) (by omega) (by decide) (by omega) (by omega)
                  have hF651 : ∀ j i : Nat, (j ≠ 195 ∨ (i ≠ 8 ∧ i ≠ 9 ∧ i ≠ 10 ∧ i ≠ 11 ∧ i ≠ 12 ∧ i ≠ 13)) → (j ≠ 201 ∨ i = 6) → τ651 j i = σ j i := fun j i h_0 h_1 => by rw [e651]; exact (hpw_fr (by omega)).trans (hF648 j i h_0 h_1)
                  have hg652 : τ651 201 3 = r531 := by rw [e651]; exact (hpw_fr (Or.inr (by omega))).trans hg649
                  have hg653 : τ651 201 4 = r595 := by rw [e651]; exact (hpw_fr (Or.inr (by omega))).trans hg650
                  have y168_3 : τ651 201 3 = τ648 201 3 := by rw [e651]; exact hpw_fr (Or.inr (by omega))
                  have y168_4 : τ651 201 4 = τ648 201 4 := by rw [e651]; exact hpw_fr (Or.inr (by omega))
                  refine h_aload_n C dX9_readNext_169 1 rfl rfl ?_
                  refine h_get C O9 14 kd_195 (by decide) wd_1270 dX9_readNext_170 fr_195_14 ?_
                  refine h_iconst C dX9_readNext_173 ?_
                  refine h_dup2 C rfl rfl dX9_readNext_174 ?_
                  refine h_iaload C dX9_readNext_175 kd_201 4 rfl (by rw [ln_201]; decide) rfl ?_
                  rw [hg653]
                  refine h_iconst C dX9_readNext_176 ?_
                  refine h_iadd C dX9_readNext_177 rfl ?_
                  refine h_iastore C dX9_readNext_178 kd_201 4 rfl (by rw [ln_201]; decide) ?_
                  obtain ⟨τ654, e654⟩ : ∃ μ : hpMem, μ = hpw τ651 201 4 (r595 + 1) := ⟨_, rfl⟩
                  rw [← e654]
                  have hI654 : hpInv τ654 := by rw [e654]; exact hI651.w ((bw_201 4).trans (show hpwb 4 = (0, 6) by decide)) (by omega) (by omega)
                  have hF654 : ∀ j i : Nat, (j ≠ 195 ∨ (i ≠ 8 ∧ i ≠ 9 ∧ i ≠ 10 ∧ i ≠ 11 ∧ i ≠ 12 ∧ i ≠ 13)) → (j ≠ 201 ∨ i = 6) → τ654 j i = σ j i := fun j i h_0 h_1 => by rw [e654]; exact (hpw_fr (by omega)).trans (hF651 j i h_0 h_1)
                  have hg655 : τ654 201 3 = r531 := by rw [e654]; exact (hpw_fr (Or.inr (by decide))).trans hg652
                  have hg656 : τ654 201 4 = r595 + 1 := by rw [e654]; exact hpw_eq
                  have y178_3 : τ654 201 3 = τ651 201 3 := by rw [e654]; exact hpw_fr (Or.inr (by decide))
                  refine h_return C hr hlk dX9_readNext_179 ?_
                  exact ⟨rfl, hI654, hF654, by omega⟩
                · refine h_aload_n C dX9_readNext_85 0 rfl rfl ?_
                  refine h_get C O9 14 kd_195 (by decide) wd_1270 dX9_readNext_86 fr_195_14 ?_
                  refine h_bipush C dX9_readNext_89 (by decide) ?_
                  refine h_aload_n C dX9_readNext_91 0 rfl rfl ?_
                  refine h_get C O9 14 kd_195 (by decide) wd_1270 dX9_readNext_92 fr_195_14 ?_
                  refine h_iconst C dX9_readNext_95 ?_
                  refine h_iaload C dX9_readNext_96 kd_201 3 rfl (by rw [ln_201]; decide) rfl ?_
                  rw [hg636]
                  refine h_iadd C dX9_readNext_97 rfl ?_
                  refine h_aload_n C dX9_readNext_98 0 rfl rfl ?_
                  refine h_ldcS (i := 14) C Z (by decide) rfl dX9_readNext_99 ?_
                  refine h_iconst C dX9_readNext_101 ?_
                  refine h_bipush C dX9_readNext_102 (by decide) ?_
                  refine h_callV (As := [.ref (cy (1000 + 14)), .int (hpI 1), .int (hpI 20)]) (rest := [.int (hpI (7 + r531)), .ref (z + 201)]) C Z yyX9_toldBy wd_1470 (tgX9_toldBy l D cy z _ 14 (by decide) 1 ⟨by decide, by decide⟩ 20 ⟨by decide, by decide⟩ hI635 (by omega)) kd_195 rfl rfl ⟨rfl, rfl, Nat.le_of_ble_eq_true rfl, Nat.le_of_ble_eq_true rfl⟩ ⟨Nat.le_of_ble_eq_true rfl, Nat.le_of_ble_eq_true rfl⟩ (Nat.le_of_ble_eq_true rfl) dX9_readNext_104 (fun r657 τ657 hp657 => ?_)
                  obtain ⟨⟨x657, rfl, ⟨hx657a, hx657b⟩, hx657⟩, hI657, hG657⟩ := hp657
                  have hF657 : ∀ j i : Nat, (j ≠ 195 ∨ (i ≠ 8 ∧ i ≠ 9 ∧ i ≠ 10 ∧ i ≠ 11 ∧ i ≠ 12 ∧ i ≠ 13)) → (j ≠ 201 ∨ i = 6) → τ657 j i = σ j i := fun j i h_0 h_1 => (hG657 j i (by omega)).trans (hF635 j i h_0 h_1)
                  have hg658 : τ657 201 3 = r531 := (hG657 201 3 (by omega)).trans hg636
                  have hg659 : τ657 201 4 = r595 := (hG657 201 4 (by omega)).trans hg637
                  show hpV _ _ _ _ _ _ _ _ _ _ _ _ _ _ _ _ _ _ _ _ _ (_ :: _)
                  have y104_3 : τ657 201 3 = τ635 201 3 := hG657 201 3 (by omega)
                  have y104_4 : τ657 201 4 = τ635 201 4 := hG657 201 4 (by omega)
                  refine h_iastore C dX9_readNext_107 kd_201 (7 + r531).toNat (Int.toNat_of_nonneg (by omega)) (by rw [ln_201]; omega) ?_
                  obtain ⟨τ660, e660⟩ : ∃ μ : hpMem, μ = hpw τ657 201 ((7 + r531).toNat) x657 := ⟨_, rfl⟩
                  rw [← e660]
                  have hI660 : hpInv τ660 := by rw [e660]; exact hpInv.w201 hI657 ((7 + r531).toNat) 7 14 (0) 20 (by omega) (by omega) (by decide) (by omega) (by omega)
                  have hF660 : ∀ j i : Nat, (j ≠ 195 ∨ (i ≠ 8 ∧ i ≠ 9 ∧ i ≠ 10 ∧ i ≠ 11 ∧ i ≠ 12 ∧ i ≠ 13)) → (j ≠ 201 ∨ i = 6) → τ660 j i = σ j i := fun j i h_0 h_1 => by rw [e660]; exact (hpw_fr (by omega)).trans (hF657 j i h_0 h_1)
                  have hg661 : τ660 201 3 = r531 := by rw [e660]; exact (hpw_fr (Or.inr (by omega))).trans hg658
                  have hg662 : τ660 201 4 = r595 := by rw [e660]; exact (hpw_fr (Or.inr (by omega))).trans hg659
                  have y107_3 : τ660 201 3 = τ657 201 3 := by rw [e660]; exact hpw_fr (Or.inr (by omega))
                  have y107_4 : τ660 201 4 = τ657 201 4 := by rw [e660]; exact hpw_fr (Or.inr (by omega))
                  refine h_aload_n C dX9_readNext_108 0 rfl rfl ?_
                  refine h_get C O9 14 kd_195 (by decide) wd_1270 dX9_readNext_109 fr_195_14 ?_
                  refine h_iconst C dX9_readNext_112 ?_
                  refine h_dup2 C rfl rfl dX9_readNext_113 ?_
                  refine h_iaload C dX9_readNext_114 kd_201 3 rfl (by rw [ln_201]; decide) rfl ?_
                  rw [hg661]
                  refine h_iconst C dX9_readNext_115 ?_
                  refine h_iadd C dX9_readNext_116 rfl ?_
                  refine h_iastore C dX9_readNext_117 kd_201 3 rfl (by rw [ln_201]; decide) ?_
                  obtain ⟨τ663, e663⟩ : ∃ μ : hpMem, μ = hpw τ660 201 3 (r531 + 1) := ⟨_, rfl⟩
                  rw [← e663]
                  have hI663 : hpInv τ663 := by rw [e663]; exact hI660.w ((bw_201 3).trans (show hpwb 3 = (0, 8) by decide)) (by omega) (by omega)
                  have hF663 : ∀ j i : Nat, (j ≠ 195 ∨ (i ≠ 8 ∧ i ≠ 9 ∧ i ≠ 10 ∧ i ≠ 11 ∧ i ≠ 12 ∧ i ≠ 13)) → (j ≠ 201 ∨ i = 6) → τ663 j i = σ j i := fun j i h_0 h_1 => by rw [e663]; exact (hpw_fr (by omega)).trans (hF660 j i h_0 h_1)
                  have hg664 : τ663 201 4 = r595 := by rw [e663]; exact (hpw_fr (Or.inr (by decide))).trans hg662
                  have hg665 : τ663 201 3 = r531 + 1 := by rw [e663]; exact hpw_eq
                  have y117_4 : τ663 201 4 = τ660 201 4 := by rw [e663]; exact hpw_fr (Or.inr (by decide))
                  refine h_goto (tgt := 179) C dX9_readNext_118 (by decide) ?_
                  refine h_return C hr hlk dX9_readNext_179 ?_
                  exact ⟨rfl, hI663, hF663, by omega⟩
              · refine h_return C hr hlk dX9_readNext_75 ?_
                exact ⟨rfl, hI630, hF630, by omega⟩
abbrev rgX9_readLine : Room := { frames := 9, cells := 0, slots := 0, locals := 195 }
abbrev pgX9_readLine (z : Nat) (σ : hpMem) : Option Value → hpMem → Prop := fun r τ => r = none ∧ hpInv τ ∧ (∀ j i : Nat, (j ≠ 195 ∨ (i ≠ 8 ∧ i ≠ 9 ∧ i ≠ 10 ∧ i ≠ 11 ∧ i ≠ 12 ∧ i ≠ 13)) → j ≠ 201 → τ j i = σ j i) ∧ (τ 201 6 = σ 201 6 + 1) ∧ (τ 195 12 ≠ 0 ∨ 1 + σ 201 3 + σ 201 4 < σ 201 6 ∨ τ 201 6 ≤ 1 + τ 201 3 + τ 201 4)
set_option maxHeartbeats 4000000 in
set_option maxRecDepth 20000 in
theorem tgX9_readLine (l : Launch) (D : va_G) (cy : Nat → ClassId) (z : Nat) (σ : hpMem) (hI : hpInv σ) (hl0 : σ 201 6 ≤ 15) : hpM l D cy z yX9_readLine cX9_readLine 1 none rgX9_readLine [.ref (z + 195)] σ (pgX9_readLine z σ) := by
  refine hp_met rfl (Nat.le_of_ble_eq_true rfl) (fun p e s m below meth c C Z hr hlk => ?_)
  have hF0 : ∀ j i : Nat, (j ≠ 195 ∨ (i ≠ 8 ∧ i ≠ 9 ∧ i ≠ 10 ∧ i ≠ 11 ∧ i ≠ 12 ∧ i ≠ 13)) → j ≠ 201 → σ j i = σ j i := fun j i _ _ => rfl
  have c3 := hI.b ((bw_201 3).trans (show hpwb 3 = (0, 8) by decide))
  have c4 := hI.b ((bw_201 4).trans (show hpwb 4 = (0, 6) by decide))
  refine h_aload_n C dX9_readLine_0 0 rfl rfl ?_
  refine h_get C O9 14 kd_195 (by decide) wd_1270 dX9_readLine_1 fr_195_14 ?_
  refine h_bipush C dX9_readLine_4 (by decide) ?_
  refine h_iaload C dX9_readLine_6 kd_201 6 rfl (by rw [ln_201]; decide) rfl ?_
  obtain ⟨hr1a, hr1b⟩ := hI.b ((bw_201 6).trans (show hpwb 6 = (0, 16) by decide))
  generalize hg1 : σ 201 6 = r1 at hr1a hr1b ⊢
  refine h_if_ne (tgt := 17) C dX9_readLine_7 (by decide) ⟨by omega, by omega⟩ (fun h2 => ?_) (fun h2 => ?_)
  · refine h_aload_n C dX9_readLine_17 0 rfl rfl ?_
    refine h_callV (As := []) (rest := []) C Z yyX9_readNext wd_1480 (tgX9_readNext l D cy z _ hI) kd_195 rfl rfl ⟨rfl, rfl, Nat.le_of_ble_eq_true rfl, Nat.le_of_ble_eq_true rfl⟩ ⟨Nat.le_of_ble_eq_true rfl, Nat.le_of_ble_eq_true rfl⟩ (Nat.le_of_ble_eq_true rfl) dX9_readLine_18 (fun r3 τ3 hp3 => ?_)
    obtain ⟨rfl, hI3, hG3, hq3_0⟩ := hp3
    have hF3 : ∀ j i : Nat, (j ≠ 195 ∨ (i ≠ 8 ∧ i ≠ 9 ∧ i ≠ 10 ∧ i ≠ 11 ∧ i ≠ 12 ∧ i ≠ 13)) → j ≠ 201 → τ3 j i = σ j i := fun j i h_0 h_1 => (hG3 j i (by omega) (by omega)).trans (hF0 j i h_0 h_1)
    have hg4 : τ3 201 6 = r1 := (hG3 201 6 (by omega) (by omega)).trans hg1
    show hpV _ _ _ _ _ _ _ _ _ _ _ _ _ _ _ _ _ _ _ _ _ []
    have u6 : τ3 201 6 = σ 201 6 := hG3 201 6 (by omega) (by omega)
    refine h_aload_n C dX9_readLine_21 0 rfl rfl ?_
    refine h_callV (As := []) (rest := []) C Z yyX9_good wd_1438 (tgX9_good l D cy z _ hI3) kd_195 rfl rfl ⟨rfl, rfl, Nat.le_of_ble_eq_true rfl, Nat.le_of_ble_eq_true rfl⟩ ⟨Nat.le_of_ble_eq_true rfl, Nat.le_of_ble_eq_true rfl⟩ (Nat.le_of_ble_eq_true rfl) dX9_readLine_22 (fun r5 τ5 hp5 => ?_)
    obtain ⟨⟨x5, rfl, ⟨hx5a, hx5b⟩, hx5⟩, rfl⟩ := hp5
    show hpV _ _ _ _ _ _ _ _ _ _ _ _ _ _ _ _ _ _ _ _ _ (_ :: _)
    refine h_if_eq (tgt := 41) C dX9_readLine_25 (by decide) ⟨by omega, by omega⟩ (fun h6 => ?_) (fun h6 => ?_)
    · refine h_aload_n C dX9_readLine_41 0 rfl rfl ?_
      refine h_callV (As := []) (rest := []) C Z yyX9_good wd_1438 (tgX9_good l D cy z _ hI3) kd_195 rfl rfl ⟨rfl, rfl, Nat.le_of_ble_eq_true rfl, Nat.le_of_ble_eq_true rfl⟩ ⟨Nat.le_of_ble_eq_true rfl, Nat.le_of_ble_eq_true rfl⟩ (Nat.le_of_ble_eq_true rfl) dX9_readLine_42 (fun r7 τ7 hp7 => ?_)
      obtain ⟨⟨x7, rfl, ⟨hx7a, hx7b⟩, hx7⟩, rfl⟩ := hp7
      show hpV _ _ _ _ _ _ _ _ _ _ _ _ _ _ _ _ _ _ _ _ _ (_ :: _)
      refine h_if_eq (tgt := 52) C dX9_readLine_45 (by decide) ⟨by omega, by omega⟩ (fun h8 => ?_) (fun h8 => ?_)
      · refine h_aload_n C dX9_readLine_52 0 rfl rfl ?_
        refine h_get C O9 14 kd_195 (by decide) wd_1270 dX9_readLine_53 fr_195_14 ?_
        refine h_bipush C dX9_readLine_56 (by decide) ?_
        refine h_dup2 C rfl rfl dX9_readLine_58 ?_
        refine h_iaload C dX9_readLine_59 kd_201 6 rfl (by rw [ln_201]; decide) rfl ?_
        rw [hg4]
        refine h_iconst C dX9_readLine_60 ?_
        refine h_iadd C dX9_readLine_61 rfl ?_
        refine h_iastore C dX9_readLine_62 kd_201 6 rfl (by rw [ln_201]; decide) ?_
        obtain ⟨τ9, e9⟩ : ∃ μ : hpMem, μ = hpw τ3 201 6 (r1 + 1) := ⟨_, rfl⟩
        rw [← e9]
        have hI9 : hpInv τ9 := by rw [e9]; exact hI3.w ((bw_201 6).trans (show hpwb 6 = (0, 16) by decide)) (by omega) (by omega)
        have hF9 : ∀ j i : Nat, (j ≠ 195 ∨ (i ≠ 8 ∧ i ≠ 9 ∧ i ≠ 10 ∧ i ≠ 11 ∧ i ≠ 12 ∧ i ≠ 13)) → j ≠ 201 → τ9 j i = σ j i := fun j i h_0 h_1 => by rw [e9]; exact (hpw_fr (by omega)).trans (hF3 j i h_0 h_1)
        have hg10 : τ9 201 6 = r1 + 1 := by rw [e9]; exact hpw_eq
        have y62_3 : τ9 201 3 = τ3 201 3 := by rw [e9]; exact hpw_fr (Or.inr (by decide))
        have y62_4 : τ9 201 4 = τ3 201 4 := by rw [e9]; exact hpw_fr (Or.inr (by decide))
        have y62_12 : τ9 195 12 = τ3 195 12 := by rw [e9]; exact hpw_fr (Or.inl (by decide))
        refine h_return C hr hlk dX9_readLine_63 ?_
        exact ⟨rfl, hI9, hF9, by omega, by omega⟩
      · refine h_aload_n C dX9_readLine_48 0 rfl rfl ?_
        refine h_callV (As := []) (rest := []) C Z yyX9_advance wd_1424 (tgX9_advance l D cy z _ hI3) kd_195 rfl rfl ⟨rfl, rfl, Nat.le_of_ble_eq_true rfl, Nat.le_of_ble_eq_true rfl⟩ ⟨Nat.le_of_ble_eq_true rfl, Nat.le_of_ble_eq_true rfl⟩ (Nat.le_of_ble_eq_true rfl) dX9_readLine_49 (fun r11 τ11 hp11 => ?_)
        obtain ⟨rfl, hI11, hG11⟩ := hp11
        have hF11 : ∀ j i : Nat, (j ≠ 195 ∨ (i ≠ 8 ∧ i ≠ 9 ∧ i ≠ 10 ∧ i ≠ 11 ∧ i ≠ 12 ∧ i ≠ 13)) → j ≠ 201 → τ11 j i = σ j i := fun j i h_0 h_1 => (hG11 j i (by omega)).trans (hF3 j i h_0 h_1)
        have hg12 : τ11 201 6 = r1 := (hG11 201 6 (by omega)).trans hg4
        show hpV _ _ _ _ _ _ _ _ _ _ _ _ _ _ _ _ _ _ _ _ _ []
        have y49_3 : τ11 201 3 = τ3 201 3 := hG11 201 3 (by omega)
        have y49_4 : τ11 201 4 = τ3 201 4 := hG11 201 4 (by omega)
        have y49_6 : τ11 201 6 = τ3 201 6 := hG11 201 6 (by omega)
        have y49_12 : τ11 195 12 = τ3 195 12 := hG11 195 12 (by omega)
        refine h_aload_n C dX9_readLine_52 0 rfl rfl ?_
        refine h_get C O9 14 kd_195 (by decide) wd_1270 dX9_readLine_53 fr_195_14 ?_
        refine h_bipush C dX9_readLine_56 (by decide) ?_
        refine h_dup2 C rfl rfl dX9_readLine_58 ?_
        refine h_iaload C dX9_readLine_59 kd_201 6 rfl (by rw [ln_201]; decide) rfl ?_
        rw [hg12]
        refine h_iconst C dX9_readLine_60 ?_
        refine h_iadd C dX9_readLine_61 rfl ?_
        refine h_iastore C dX9_readLine_62 kd_201 6 rfl (by rw [ln_201]; decide) ?_
        obtain ⟨τ13, e13⟩ : ∃ μ : hpMem, μ = hpw τ11 201 6 (r1 + 1) := ⟨_, rfl⟩
        rw [← e13]
        have hI13 : hpInv τ13 := by rw [e13]; exact hI11.w ((bw_201 6).trans (show hpwb 6 = (0, 16) by decide)) (by omega) (by omega)
        have hF13 : ∀ j i : Nat, (j ≠ 195 ∨ (i ≠ 8 ∧ i ≠ 9 ∧ i ≠ 10 ∧ i ≠ 11 ∧ i ≠ 12 ∧ i ≠ 13)) → j ≠ 201 → τ13 j i = σ j i := fun j i h_0 h_1 => by rw [e13]; exact (hpw_fr (by omega)).trans (hF11 j i h_0 h_1)
        have hg14 : τ13 201 6 = r1 + 1 := by rw [e13]; exact hpw_eq
        have y62_3 : τ13 201 3 = τ11 201 3 := by rw [e13]; exact hpw_fr (Or.inr (by decide))
        have y62_4 : τ13 201 4 = τ11 201 4 := by rw [e13]; exact hpw_fr (Or.inr (by decide))
        have y62_12 : τ13 195 12 = τ11 195 12 := by rw [e13]; exact hpw_fr (Or.inl (by decide))
        refine h_return C hr hlk dX9_readLine_63 ?_
        exact ⟨rfl, hI13, hF13, by omega, by omega⟩
    · refine h_aload_n C dX9_readLine_28 0 rfl rfl ?_
      refine h_get C O9 10 kd_195 (by decide) wd_1266 dX9_readLine_29 (hp_fvI (by rw [kd_195]; rfl) rfl) ?_
      obtain ⟨hr15a, hr15b⟩ := hI3.b (bf_9_10 kd_195)
      generalize hg15 : τ3 195 10 = r15 at hr15a hr15b ⊢
      refine h_iconst C dX9_readLine_32 ?_
      refine h_icmp_eq (tgt := 41) C dX9_readLine_33 (by decide) ⟨by omega, by omega⟩ ⟨by decide, by decide⟩ (fun h16 => ?_) (fun h16 => ?_)
      · refine h_aload_n C dX9_readLine_41 0 rfl rfl ?_
        refine h_callV (As := []) (rest := []) C Z yyX9_good wd_1438 (tgX9_good l D cy z _ hI3) kd_195 rfl rfl ⟨rfl, rfl, Nat.le_of_ble_eq_true rfl, Nat.le_of_ble_eq_true rfl⟩ ⟨Nat.le_of_ble_eq_true rfl, Nat.le_of_ble_eq_true rfl⟩ (Nat.le_of_ble_eq_true rfl) dX9_readLine_42 (fun r17 τ17 hp17 => ?_)
        obtain ⟨⟨x17, rfl, ⟨hx17a, hx17b⟩, hx17⟩, rfl⟩ := hp17
        show hpV _ _ _ _ _ _ _ _ _ _ _ _ _ _ _ _ _ _ _ _ _ (_ :: _)
        refine h_if_eq (tgt := 52) C dX9_readLine_45 (by decide) ⟨by omega, by omega⟩ (fun h18 => ?_) (fun h18 => ?_)
        · refine h_aload_n C dX9_readLine_52 0 rfl rfl ?_
          refine h_get C O9 14 kd_195 (by decide) wd_1270 dX9_readLine_53 fr_195_14 ?_
          refine h_bipush C dX9_readLine_56 (by decide) ?_
          refine h_dup2 C rfl rfl dX9_readLine_58 ?_
          refine h_iaload C dX9_readLine_59 kd_201 6 rfl (by rw [ln_201]; decide) rfl ?_
          rw [hg4]
          refine h_iconst C dX9_readLine_60 ?_
          refine h_iadd C dX9_readLine_61 rfl ?_
          refine h_iastore C dX9_readLine_62 kd_201 6 rfl (by rw [ln_201]; decide) ?_
          obtain ⟨τ19, e19⟩ : ∃ μ : hpMem, μ = hpw τ3 201 6 (r1 + 1) := ⟨_, rfl⟩
          rw [← e19]
          have hI19 : hpInv τ19 := by rw [e19]; exact hI3.w ((bw_201 6).trans (show hpwb 6 = (0, 16) by decide)) (by omega) (by omega)
          have hF19 : ∀ j i : Nat, (j ≠ 195 ∨ (i ≠ 8 ∧ i ≠ 9 ∧ i ≠ 10 ∧ i ≠ 11 ∧ i ≠ 12 ∧ i ≠ 13)) → j ≠ 201 → τ19 j i = σ j i := fun j i h_0 h_1 => by rw [e19]; exact (hpw_fr (by omega)).trans (hF3 j i h_0 h_1)
          have hg20 : τ19 195 10 = r15 := by rw [e19]; exact (hpw_fr (Or.inl (by omega))).trans hg15
          have hg21 : τ19 201 6 = r1 + 1 := by rw [e19]; exact hpw_eq
          have y62_3 : τ19 201 3 = τ3 201 3 := by rw [e19]; exact hpw_fr (Or.inr (by decide))
          have y62_4 : τ19 201 4 = τ3 201 4 := by rw [e19]; exact hpw_fr (Or.inr (by decide))
          have y62_12 : τ19 195 12 = τ3 195 12 := by rw [e19]; exact hpw_fr (Or.inl (by decide))
          refine h_return C hr hlk dX9_readLine_63 ?_
          exact ⟨rfl, hI19, hF19, by omega, by omega⟩
        · refine h_aload_n C dX9_readLine_48 0 rfl rfl ?_
          refine h_callV (As := []) (rest := []) C Z yyX9_advance wd_1424 (tgX9_advance l D cy z _ hI3) kd_195 rfl rfl ⟨rfl, rfl, Nat.le_of_ble_eq_true rfl, Nat.le_of_ble_eq_true rfl⟩ ⟨Nat.le_of_ble_eq_true rfl, Nat.le_of_ble_eq_true rfl⟩ (Nat.le_of_ble_eq_true rfl) dX9_readLine_49 (fun r22 τ22 hp22 => ?_)
          obtain ⟨rfl, hI22, hG22⟩ := hp22
          have hF22 : ∀ j i : Nat, (j ≠ 195 ∨ (i ≠ 8 ∧ i ≠ 9 ∧ i ≠ 10 ∧ i ≠ 11 ∧ i ≠ 12 ∧ i ≠ 13)) → j ≠ 201 → τ22 j i = σ j i := fun j i h_0 h_1 => (hG22 j i (by omega)).trans (hF3 j i h_0 h_1)
          have hg23 : τ22 201 6 = r1 := (hG22 201 6 (by omega)).trans hg4
          show hpV _ _ _ _ _ _ _ _ _ _ _ _ _ _ _ _ _ _ _ _ _ []
          have y49_3 : τ22 201 3 = τ3 201 3 := hG22 201 3 (by omega)
          have y49_4 : τ22 201 4 = τ3 201 4 := hG22 201 4 (by omega)
          have y49_6 : τ22 201 6 = τ3 201 6 := hG22 201 6 (by omega)
          have y49_12 : τ22 195 12 = τ3 195 12 := hG22 195 12 (by omega)
          refine h_aload_n C dX9_readLine_52 0 rfl rfl ?_
          refine h_get C O9 14 kd_195 (by decide) wd_1270 dX9_readLine_53 fr_195_14 ?_
          refine h_bipush C dX9_readLine_56 (by decide) ?_
          refine h_dup2 C rfl rfl dX9_readLine_58 ?_
          refine h_iaload C dX9_readLine_59 kd_201 6 rfl (by rw [ln_201]; decide) rfl ?_
          rw [hg23]
          refine h_iconst C dX9_readLine_60 ?_
          refine h_iadd C dX9_readLine_61 rfl ?_
          refine h_iastore C dX9_readLine_62 kd_201 6 rfl (by rw [ln_201]; decide) ?_
          obtain ⟨τ24, e24⟩ : ∃ μ : hpMem, μ = hpw τ22 201 6 (r1 + 1) := ⟨_, rfl⟩
          rw [← e24]
          have hI24 : hpInv τ24 := by rw [e24]; exact hI22.w ((bw_201 6).trans (show hpwb 6 = (0, 16) by decide)) (by omega) (by omega)
          have hF24 : ∀ j i : Nat, (j ≠ 195 ∨ (i ≠ 8 ∧ i ≠ 9 ∧ i ≠ 10 ∧ i ≠ 11 ∧ i ≠ 12 ∧ i ≠ 13)) → j ≠ 201 → τ24 j i = σ j i := fun j i h_0 h_1 => by rw [e24]; exact (hpw_fr (by omega)).trans (hF22 j i h_0 h_1)
          have hg25 : τ24 201 6 = r1 + 1 := by rw [e24]; exact hpw_eq
          have y62_3 : τ24 201 3 = τ22 201 3 := by rw [e24]; exact hpw_fr (Or.inr (by decide))
          have y62_4 : τ24 201 4 = τ22 201 4 := by rw [e24]; exact hpw_fr (Or.inr (by decide))
          have y62_12 : τ24 195 12 = τ22 195 12 := by rw [e24]; exact hpw_fr (Or.inl (by decide))
          refine h_return C hr hlk dX9_readLine_63 ?_
          exact ⟨rfl, hI24, hF24, by omega, by omega⟩
      · refine h_aload_n C dX9_readLine_36 0 rfl rfl ?_
        refine h_iconst C dX9_readLine_37 ?_
        refine h_callV (As := [.int (hpI 1)]) (rest := []) C Z yyX9_errs wd_1465 (tgX9_errs l D cy z _ 1 ⟨by decide, by decide⟩ hI3 (by omega)) kd_195 rfl rfl ⟨rfl, rfl, Nat.le_of_ble_eq_true rfl, Nat.le_of_ble_eq_true rfl⟩ ⟨Nat.le_of_ble_eq_true rfl, Nat.le_of_ble_eq_true rfl⟩ (Nat.le_of_ble_eq_true rfl) dX9_readLine_38 (fun r26 τ26 hp26 => ?_)
        obtain ⟨rfl, hI26, hG26, hq26_0⟩ := hp26
        have hF26 : ∀ j i : Nat, (j ≠ 195 ∨ (i ≠ 8 ∧ i ≠ 9 ∧ i ≠ 10 ∧ i ≠ 11 ∧ i ≠ 12 ∧ i ≠ 13)) → j ≠ 201 → τ26 j i = σ j i := fun j i h_0 h_1 => (hG26 j i (by omega)).trans (hF3 j i h_0 h_1)
        have hg27 : τ26 201 6 = r1 := (hG26 201 6 (by omega)).trans hg4
        have hg28 : τ26 195 10 = r15 := (hG26 195 10 (by omega)).trans hg15
        show hpV _ _ _ _ _ _ _ _ _ _ _ _ _ _ _ _ _ _ _ _ _ []
        have y38_3 : τ26 201 3 = τ3 201 3 := hG26 201 3 (by omega)
        have y38_4 : τ26 201 4 = τ3 201 4 := hG26 201 4 (by omega)
        have y38_6 : τ26 201 6 = τ3 201 6 := hG26 201 6 (by omega)
        refine h_aload_n C dX9_readLine_41 0 rfl rfl ?_
        refine h_callV (As := []) (rest := []) C Z yyX9_good wd_1438 (tgX9_good l D cy z _ hI26) kd_195 rfl rfl ⟨rfl, rfl, Nat.le_of_ble_eq_true rfl, Nat.le_of_ble_eq_true rfl⟩ ⟨Nat.le_of_ble_eq_true rfl, Nat.le_of_ble_eq_true rfl⟩ (Nat.le_of_ble_eq_true rfl) dX9_readLine_42 (fun r29 τ29 hp29 => ?_)
        obtain ⟨⟨x29, rfl, ⟨hx29a, hx29b⟩, hx29⟩, rfl⟩ := hp29
        show hpV _ _ _ _ _ _ _ _ _ _ _ _ _ _ _ _ _ _ _ _ _ (_ :: _)
        refine h_if_eq (tgt := 52) C dX9_readLine_45 (by decide) ⟨by omega, by omega⟩ (fun h30 => ?_) (fun h30 => ?_)
        · refine h_aload_n C dX9_readLine_52 0 rfl rfl ?_
          refine h_get C O9 14 kd_195 (by decide) wd_1270 dX9_readLine_53 fr_195_14 ?_
          refine h_bipush C dX9_readLine_56 (by decide) ?_
          refine h_dup2 C rfl rfl dX9_readLine_58 ?_
          refine h_iaload C dX9_readLine_59 kd_201 6 rfl (by rw [ln_201]; decide) rfl ?_
          rw [hg27]
          refine h_iconst C dX9_readLine_60 ?_
          refine h_iadd C dX9_readLine_61 rfl ?_
          refine h_iastore C dX9_readLine_62 kd_201 6 rfl (by rw [ln_201]; decide) ?_
          obtain ⟨τ31, e31⟩ : ∃ μ : hpMem, μ = hpw τ26 201 6 (r1 + 1) := ⟨_, rfl⟩
          rw [← e31]
          have hI31 : hpInv τ31 := by rw [e31]; exact hI26.w ((bw_201 6).trans (show hpwb 6 = (0, 16) by decide)) (by omega) (by omega)
          have hF31 : ∀ j i : Nat, (j ≠ 195 ∨ (i ≠ 8 ∧ i ≠ 9 ∧ i ≠ 10 ∧ i ≠ 11 ∧ i ≠ 12 ∧ i ≠ 13)) → j ≠ 201 → τ31 j i = σ j i := fun j i h_0 h_1 => by rw [e31]; exact (hpw_fr (by omega)).trans (hF26 j i h_0 h_1)
          have hg32 : τ31 195 10 = r15 := by rw [e31]; exact (hpw_fr (Or.inl (by omega))).trans hg28
          have hg33 : τ31 201 6 = r1 + 1 := by rw [e31]; exact hpw_eq
          have y62_3 : τ31 201 3 = τ26 201 3 := by rw [e31]; exact hpw_fr (Or.inr (by decide))
          have y62_4 : τ31 201 4 = τ26 201 4 := by rw [e31]; exact hpw_fr (Or.inr (by decide))
          have y62_12 : τ31 195 12 = τ26 195 12 := by rw [e31]; exact hpw_fr (Or.inl (by decide))
          refine h_return C hr hlk dX9_readLine_63 ?_
          exact ⟨rfl, hI31, hF31, by omega, by omega⟩
        · refine h_aload_n C dX9_readLine_48 0 rfl rfl ?_
          refine h_callV (As := []) (rest := []) C Z yyX9_advance wd_1424 (tgX9_advance l D cy z _ hI26) kd_195 rfl rfl ⟨rfl, rfl, Nat.le_of_ble_eq_true rfl, Nat.le_of_ble_eq_true rfl⟩ ⟨Nat.le_of_ble_eq_true rfl, Nat.le_of_ble_eq_true rfl⟩ (Nat.le_of_ble_eq_true rfl) dX9_readLine_49 (fun r34 τ34 hp34 => ?_)
          obtain ⟨rfl, hI34, hG34⟩ := hp34
          have hF34 : ∀ j i : Nat, (j ≠ 195 ∨ (i ≠ 8 ∧ i ≠ 9 ∧ i ≠ 10 ∧ i ≠ 11 ∧ i ≠ 12 ∧ i ≠ 13)) → j ≠ 201 → τ34 j i = σ j i := fun j i h_0 h_1 => (hG34 j i (by omega)).trans (hF26 j i h_0 h_1)
          have hg35 : τ34 201 6 = r1 := (hG34 201 6 (by omega)).trans hg27
          show hpV _ _ _ _ _ _ _ _ _ _ _ _ _ _ _ _ _ _ _ _ _ []
          have y49_3 : τ34 201 3 = τ26 201 3 := hG34 201 3 (by omega)
          have y49_4 : τ34 201 4 = τ26 201 4 := hG34 201 4 (by omega)
          have y49_6 : τ34 201 6 = τ26 201 6 := hG34 201 6 (by omega)
          have y49_12 : τ34 195 12 = τ26 195 12 := hG34 195 12 (by omega)
          refine h_aload_n C dX9_readLine_52 0 rfl rfl ?_
          refine h_get C O9 14 kd_195 (by decide) wd_1270 dX9_readLine_53 fr_195_14 ?_
          refine h_bipush C dX9_readLine_56 (by decide) ?_
          refine h_dup2 C rfl rfl dX9_readLine_58 ?_
          refine h_iaload C dX9_readLine_59 kd_201 6 rfl (by rw [ln_201]; decide) rfl ?_
          rw [hg35]
          refine h_iconst C dX9_readLine_60 ?_
          refine h_iadd C dX9_readLine_61 rfl ?_
          refine h_iastore C dX9_readLine_62 kd_201 6 rfl (by rw [ln_201]; decide) ?_
          obtain ⟨τ36, e36⟩ : ∃ μ : hpMem, μ = hpw τ34 201 6 (r1 + 1) := ⟨_, rfl⟩
          rw [← e36]
          have hI36 : hpInv τ36 := by rw [e36]; exact hI34.w ((bw_201 6).trans (show hpwb 6 = (0, 16) by decide)) (by omega) (by omega)
          have hF36 : ∀ j i : Nat, (j ≠ 195 ∨ (i ≠ 8 ∧ i ≠ 9 ∧ i ≠ 10 ∧ i ≠ 11 ∧ i ≠ 12 ∧ i ≠ 13)) → j ≠ 201 → τ36 j i = σ j i := fun j i h_0 h_1 => by rw [e36]; exact (hpw_fr (by omega)).trans (hF34 j i h_0 h_1)
          have hg37 : τ36 201 6 = r1 + 1 := by rw [e36]; exact hpw_eq
          have y62_3 : τ36 201 3 = τ34 201 3 := by rw [e36]; exact hpw_fr (Or.inr (by decide))
          have y62_4 : τ36 201 4 = τ34 201 4 := by rw [e36]; exact hpw_fr (Or.inr (by decide))
          have y62_12 : τ36 195 12 = τ34 195 12 := by rw [e36]; exact hpw_fr (Or.inl (by decide))
          refine h_return C hr hlk dX9_readLine_63 ?_
          exact ⟨rfl, hI36, hF36, by omega, by omega⟩
  · refine h_aload_n C dX9_readLine_10 0 rfl rfl ?_
    refine h_callV (As := []) (rest := []) C Z yyX9_readFirst wd_1446 (tgX9_readFirst l D cy z _ hI) kd_195 rfl rfl ⟨rfl, rfl, Nat.le_of_ble_eq_true rfl, Nat.le_of_ble_eq_true rfl⟩ ⟨Nat.le_of_ble_eq_true rfl, Nat.le_of_ble_eq_true rfl⟩ (Nat.le_of_ble_eq_true rfl) dX9_readLine_11 (fun r38 τ38 hp38 => ?_)
    obtain ⟨rfl, hI38, hG38⟩ := hp38
    have hF38 : ∀ j i : Nat, (j ≠ 195 ∨ (i ≠ 8 ∧ i ≠ 9 ∧ i ≠ 10 ∧ i ≠ 11 ∧ i ≠ 12 ∧ i ≠ 13)) → j ≠ 201 → τ38 j i = σ j i := fun j i h_0 h_1 => (hG38 j i (by omega) (by omega)).trans (hF0 j i h_0 h_1)
    have hg39 : τ38 201 6 = r1 := (hG38 201 6 (by omega) (by omega)).trans hg1
    show hpV _ _ _ _ _ _ _ _ _ _ _ _ _ _ _ _ _ _ _ _ _ []
    have u3 : τ38 201 3 = σ 201 3 := hG38 201 3 (by omega) (by omega)
    have u4 : τ38 201 4 = σ 201 4 := hG38 201 4 (by omega) (by omega)
    have u6 : τ38 201 6 = σ 201 6 := hG38 201 6 (by omega) (by omega)
    refine h_goto (tgt := 21) C dX9_readLine_14 (by decide) ?_
    refine h_aload_n C dX9_readLine_21 0 rfl rfl ?_
    refine h_callV (As := []) (rest := []) C Z yyX9_good wd_1438 (tgX9_good l D cy z _ hI38) kd_195 rfl rfl ⟨rfl, rfl, Nat.le_of_ble_eq_true rfl, Nat.le_of_ble_eq_true rfl⟩ ⟨Nat.le_of_ble_eq_true rfl, Nat.le_of_ble_eq_true rfl⟩ (Nat.le_of_ble_eq_true rfl) dX9_readLine_22 (fun r40 τ40 hp40 => ?_)
    obtain ⟨⟨x40, rfl, ⟨hx40a, hx40b⟩, hx40⟩, rfl⟩ := hp40
    show hpV _ _ _ _ _ _ _ _ _ _ _ _ _ _ _ _ _ _ _ _ _ (_ :: _)
    refine h_if_eq (tgt := 41) C dX9_readLine_25 (by decide) ⟨by omega, by omega⟩ (fun h41 => ?_) (fun h41 => ?_)
    · refine h_aload_n C dX9_readLine_41 0 rfl rfl ?_
      refine h_callV (As := []) (rest := []) C Z yyX9_good wd_1438 (tgX9_good l D cy z _ hI38) kd_195 rfl rfl ⟨rfl, rfl, Nat.le_of_ble_eq_true rfl, Nat.le_of_ble_eq_true rfl⟩ ⟨Nat.le_of_ble_eq_true rfl, Nat.le_of_ble_eq_true rfl⟩ (Nat.le_of_ble_eq_true rfl) dX9_readLine_42 (fun r42 τ42 hp42 => ?_)
      obtain ⟨⟨x42, rfl, ⟨hx42a, hx42b⟩, hx42⟩, rfl⟩ := hp42
      show hpV _ _ _ _ _ _ _ _ _ _ _ _ _ _ _ _ _ _ _ _ _ (_ :: _)
      refine h_if_eq (tgt := 52) C dX9_readLine_45 (by decide) ⟨by omega, by omega⟩ (fun h43 => ?_) (fun h43 => ?_)
      · refine h_aload_n C dX9_readLine_52 0 rfl rfl ?_
        refine h_get C O9 14 kd_195 (by decide) wd_1270 dX9_readLine_53 fr_195_14 ?_
        refine h_bipush C dX9_readLine_56 (by decide) ?_
        refine h_dup2 C rfl rfl dX9_readLine_58 ?_
        refine h_iaload C dX9_readLine_59 kd_201 6 rfl (by rw [ln_201]; decide) rfl ?_
        rw [hg39]
        refine h_iconst C dX9_readLine_60 ?_
        refine h_iadd C dX9_readLine_61 rfl ?_
        refine h_iastore C dX9_readLine_62 kd_201 6 rfl (by rw [ln_201]; decide) ?_
        obtain ⟨τ44, e44⟩ : ∃ μ : hpMem, μ = hpw τ38 201 6 (r1 + 1) := ⟨_, rfl⟩
        rw [← e44]
        have hI44 : hpInv τ44 := by rw [e44]; exact hI38.w ((bw_201 6).trans (show hpwb 6 = (0, 16) by decide)) (by omega) (by omega)
        have hF44 : ∀ j i : Nat, (j ≠ 195 ∨ (i ≠ 8 ∧ i ≠ 9 ∧ i ≠ 10 ∧ i ≠ 11 ∧ i ≠ 12 ∧ i ≠ 13)) → j ≠ 201 → τ44 j i = σ j i := fun j i h_0 h_1 => by rw [e44]; exact (hpw_fr (by omega)).trans (hF38 j i h_0 h_1)
        have hg45 : τ44 201 6 = r1 + 1 := by rw [e44]; exact hpw_eq
        have y62_3 : τ44 201 3 = τ38 201 3 := by rw [e44]; exact hpw_fr (Or.inr (by decide))
        have y62_4 : τ44 201 4 = τ38 201 4 := by rw [e44]; exact hpw_fr (Or.inr (by decide))
        have y62_12 : τ44 195 12 = τ38 195 12 := by rw [e44]; exact hpw_fr (Or.inl (by decide))
        refine h_return C hr hlk dX9_readLine_63 ?_
        exact ⟨rfl, hI44, hF44, by omega, by omega⟩
      · refine h_aload_n C dX9_readLine_48 0 rfl rfl ?_
        refine h_callV (As := []) (rest := []) C Z yyX9_advance wd_1424 (tgX9_advance l D cy z _ hI38) kd_195 rfl rfl ⟨rfl, rfl, Nat.le_of_ble_eq_true rfl, Nat.le_of_ble_eq_true rfl⟩ ⟨Nat.le_of_ble_eq_true rfl, Nat.le_of_ble_eq_true rfl⟩ (Nat.le_of_ble_eq_true rfl) dX9_readLine_49 (fun r46 τ46 hp46 => ?_)
        obtain ⟨rfl, hI46, hG46⟩ := hp46
        have hF46 : ∀ j i : Nat, (j ≠ 195 ∨ (i ≠ 8 ∧ i ≠ 9 ∧ i ≠ 10 ∧ i ≠ 11 ∧ i ≠ 12 ∧ i ≠ 13)) → j ≠ 201 → τ46 j i = σ j i := fun j i h_0 h_1 => (hG46 j i (by omega)).trans (hF38 j i h_0 h_1)
        have hg47 : τ46 201 6 = r1 := (hG46 201 6 (by omega)).trans hg39
        show hpV _ _ _ _ _ _ _ _ _ _ _ _ _ _ _ _ _ _ _ _ _ []
        have y49_3 : τ46 201 3 = τ38 201 3 := hG46 201 3 (by omega)
        have y49_4 : τ46 201 4 = τ38 201 4 := hG46 201 4 (by omega)
        have y49_6 : τ46 201 6 = τ38 201 6 := hG46 201 6 (by omega)
        have y49_12 : τ46 195 12 = τ38 195 12 := hG46 195 12 (by omega)
        refine h_aload_n C dX9_readLine_52 0 rfl rfl ?_
        refine h_get C O9 14 kd_195 (by decide) wd_1270 dX9_readLine_53 fr_195_14 ?_
        refine h_bipush C dX9_readLine_56 (by decide) ?_
        refine h_dup2 C rfl rfl dX9_readLine_58 ?_
        refine h_iaload C dX9_readLine_59 kd_201 6 rfl (by rw [ln_201]; decide) rfl ?_
        rw [hg47]
        refine h_iconst C dX9_readLine_60 ?_
        refine h_iadd C dX9_readLine_61 rfl ?_
        refine h_iastore C dX9_readLine_62 kd_201 6 rfl (by rw [ln_201]; decide) ?_
        obtain ⟨τ48, e48⟩ : ∃ μ : hpMem, μ = hpw τ46 201 6 (r1 + 1) := ⟨_, rfl⟩
        rw [← e48]
        have hI48 : hpInv τ48 := by rw [e48]; exact hI46.w ((bw_201 6).trans (show hpwb 6 = (0, 16) by decide)) (by omega) (by omega)
        have hF48 : ∀ j i : Nat, (j ≠ 195 ∨ (i ≠ 8 ∧ i ≠ 9 ∧ i ≠ 10 ∧ i ≠ 11 ∧ i ≠ 12 ∧ i ≠ 13)) → j ≠ 201 → τ48 j i = σ j i := fun j i h_0 h_1 => by rw [e48]; exact (hpw_fr (by omega)).trans (hF46 j i h_0 h_1)
        have hg49 : τ48 201 6 = r1 + 1 := by rw [e48]; exact hpw_eq
        have y62_3 : τ48 201 3 = τ46 201 3 := by rw [e48]; exact hpw_fr (Or.inr (by decide))
        have y62_4 : τ48 201 4 = τ46 201 4 := by rw [e48]; exact hpw_fr (Or.inr (by decide))
        have y62_12 : τ48 195 12 = τ46 195 12 := by rw [e48]; exact hpw_fr (Or.inl (by decide))
        refine h_return C hr hlk dX9_readLine_63 ?_
        exact ⟨rfl, hI48, hF48, by omega, by omega⟩
    · refine h_aload_n C dX9_readLine_28 0 rfl rfl ?_
      refine h_get C O9 10 kd_195 (by decide) wd_1266 dX9_readLine_29 (hp_fvI (by rw [kd_195]; rfl) rfl) ?_
      obtain ⟨hr50a, hr50b⟩ := hI38.b (bf_9_10 kd_195)
      generalize hg50 : τ38 195 10 = r50 at hr50a hr50b ⊢
      refine h_iconst C dX9_readLine_32 ?_
      refine h_icmp_eq (tgt := 41) C dX9_readLine_33 (by decide) ⟨by omega, by omega⟩ ⟨by decide, by decide⟩ (fun h51 => ?_) (fun h51 => ?_)
      · refine h_aload_n C dX9_readLine_41 0 rfl rfl ?_
        refine h_callV (As := []) (rest := []) C Z yyX9_good wd_1438 (tgX9_good l D cy z _ hI38) kd_195 rfl rfl ⟨rfl, rfl, Nat.le_of_ble_eq_true rfl, Nat.le_of_ble_eq_true rfl⟩ ⟨Nat.le_of_ble_eq_true rfl, Nat.le_of_ble_eq_true rfl⟩ (Nat.le_of_ble_eq_true rfl) dX9_readLine_42 (fun r52 τ52 hp52 => ?_)
        obtain ⟨⟨x52, rfl, ⟨hx52a, hx52b⟩, hx52⟩, rfl⟩ := hp52
        show hpV _ _ _ _ _ _ _ _ _ _ _ _ _ _ _ _ _ _ _ _ _ (_ :: _)
        refine h_if_eq (tgt := 52) C dX9_readLine_45 (by decide) ⟨by omega, by omega⟩ (fun h53 => ?_) (fun h53 => ?_)
        · refine h_aload_n C dX9_readLine_52 0 rfl rfl ?_
          refine h_get C O9 14 kd_195 (by decide) wd_1270 dX9_readLine_53 fr_195_14 ?_
          refine h_bipush C dX9_readLine_56 (by decide) ?_
          refine h_dup2 C rfl rfl dX9_readLine_58 ?_
          refine h_iaload C dX9_readLine_59 kd_201 6 rfl (by rw [ln_201]; decide) rfl ?_
          rw [hg39]
          refine h_iconst C dX9_readLine_60 ?_
          refine h_iadd C dX9_readLine_61 rfl ?_
          refine h_iastore C dX9_readLine_62 kd_201 6 rfl (by rw [ln_201]; decide) ?_
          obtain ⟨τ54, e54⟩ : ∃ μ : hpMem, μ = hpw τ38 201 6 (r1 + 1) := ⟨_, rfl⟩
          rw [← e54]
          have hI54 : hpInv τ54 := by rw [e54]; exact hI38.w ((bw_201 6).trans (show hpwb 6 = (0, 16) by decide)) (by omega) (by omega)
          have hF54 : ∀ j i : Nat, (j ≠ 195 ∨ (i ≠ 8 ∧ i ≠ 9 ∧ i ≠ 10 ∧ i ≠ 11 ∧ i ≠ 12 ∧ i ≠ 13)) → j ≠ 201 → τ54 j i = σ j i := fun j i h_0 h_1 => by rw [e54]; exact (hpw_fr (by omega)).trans (hF38 j i h_0 h_1)
          have hg55 : τ54 195 10 = r50 := by rw [e54]; exact (hpw_fr (Or.inl (by omega))).trans hg50
          have hg56 : τ54 201 6 = r1 + 1 := by rw [e54]; exact hpw_eq
          have y62_3 : τ54 201 3 = τ38 201 3 := by rw [e54]; exact hpw_fr (Or.inr (by decide))
          have y62_4 : τ54 201 4 = τ38 201 4 := by rw [e54]; exact hpw_fr (Or.inr (by decide))
          have y62_12 : τ54 195 12 = τ38 195 12 := by rw [e54]; exact hpw_fr (Or.inl (by decide))
          refine h_return C hr hlk dX9_readLine_63 ?_
          exact ⟨rfl, hI54, hF54, by omega, by omega⟩
        · refine h_aload_n C dX9_readLine_48 0 rfl rfl ?_
          refine h_callV (As := []) (rest := []) C Z yyX9_advance wd_1424 (tgX9_advance l D cy z _ hI38) kd_195 rfl rfl ⟨rfl, rfl, Nat.le_of_ble_eq_true rfl, Nat.le_of_ble_eq_true rfl⟩ ⟨Nat.le_of_ble_eq_true rfl, Nat.le_of_ble_eq_true rfl⟩ (Nat.le_of_ble_eq_true rfl) dX9_readLine_49 (fun r57 τ57 hp57 => ?_)
          obtain ⟨rfl, hI57, hG57⟩ := hp57
          have hF57 : ∀ j i : Nat, (j ≠ 195 ∨ (i ≠ 8 ∧ i ≠ 9 ∧ i ≠ 10 ∧ i ≠ 11 ∧ i ≠ 12 ∧ i ≠ 13)) → j ≠ 201 → τ57 j i = σ j i := fun j i h_0 h_1 => (hG57 j i (by omega)).trans (hF38 j i h_0 h_1)
          have hg58 : τ57 201 6 = r1 := (hG57 201 6 (by omega)).trans hg39
          show hpV _ _ _ _ _ _ _ _ _ _ _ _ _ _ _ _ _ _ _ _ _ []
          have y49_3 : τ57 201 3 = τ38 201 3 := hG57 201 3 (by omega)
          have y49_4 : τ57 201 4 = τ38 201 4 := hG57 201 4 (by omega)
          have y49_6 : τ57 201 6 = τ38 201 6 := hG57 201 6 (by omega)
          have y49_12 : τ57 195 12 = τ38 195 12 := hG57 195 12 (by omega)
          refine h_aload_n C dX9_readLine_52 0 rfl rfl ?_
          refine h_get C O9 14 kd_195 (by decide) wd_1270 dX9_readLine_53 fr_195_14 ?_
          refine h_bipush C dX9_readLine_56 (by decide) ?_
          refine h_dup2 C rfl rfl dX9_readLine_58 ?_
          refine h_iaload C dX9_readLine_59 kd_201 6 rfl (by rw [ln_201]; decide) rfl ?_
          rw [hg58]
          refine h_iconst C dX9_readLine_60 ?_
          refine h_iadd C dX9_readLine_61 rfl ?_
          refine h_iastore C dX9_readLine_62 kd_201 6 rfl (by rw [ln_201]; decide) ?_
          obtain ⟨τ59, e59⟩ : ∃ μ : hpMem, μ = hpw τ57 201 6 (r1 + 1) := ⟨_, rfl⟩
          rw [← e59]
          have hI59 : hpInv τ59 := by rw [e59]; exact hI57.w ((bw_201 6).trans (show hpwb 6 = (0, 16) by decide)) (by omega) (by omega)
          have hF59 : ∀ j i : Nat, (j ≠ 195 ∨ (i ≠ 8 ∧ i ≠ 9 ∧ i ≠ 10 ∧ i ≠ 11 ∧ i ≠ 12 ∧ i ≠ 13)) → j ≠ 201 → τ59 j i = σ j i := fun j i h_0 h_1 => by rw [e59]; exact (hpw_fr (by omega)).trans (hF57 j i h_0 h_1)
          have hg60 : τ59 201 6 = r1 + 1 := by rw [e59]; exact hpw_eq
          have y62_3 : τ59 201 3 = τ57 201 3 := by rw [e59]; exact hpw_fr (Or.inr (by decide))
          have y62_4 : τ59 201 4 = τ57 201 4 := by rw [e59]; exact hpw_fr (Or.inr (by decide))
          have y62_12 : τ59 195 12 = τ57 195 12 := by rw [e59]; exact hpw_fr (Or.inl (by decide))
          refine h_return C hr hlk dX9_readLine_63 ?_
          exact ⟨rfl, hI59, hF59, by omega, by omega⟩
      · refine h_aload_n C dX9_readLine_36 0 rfl rfl ?_
        refine h_iconst C dX9_readLine_37 ?_
        refine h_callV (As := [.int (hpI 1)]) (rest := []) C Z yyX9_errs wd_1465 (tgX9_errs l D cy z _ 1 ⟨by decide, by decide⟩ hI38 (by omega)) kd_195 rfl rfl ⟨rfl, rfl, Nat.le_of_ble_eq_true rfl, Nat.le_of_ble_eq_true rfl⟩ ⟨Nat.le_of_ble_eq_true rfl, Nat.le_of_ble_eq_true rfl⟩ (Nat.le_of_ble_eq_true rfl) dX9_readLine_38 (fun r61 τ61 hp61 => ?_)
        obtain ⟨rfl, hI61, hG61, hq61_0⟩ := hp61
        have hF61 : ∀ j i : Nat, (j ≠ 195 ∨ (i ≠ 8 ∧ i ≠ 9 ∧ i ≠ 10 ∧ i ≠ 11 ∧ i ≠ 12 ∧ i ≠ 13)) → j ≠ 201 → τ61 j i = σ j i := fun j i h_0 h_1 => (hG61 j i (by omega)).trans (hF38 j i h_0 h_1)
        have hg62 : τ61 201 6 = r1 := (hG61 201 6 (by omega)).trans hg39
        have hg63 : τ61 195 10 = r50 := (hG61 195 10 (by omega)).trans hg50
        show hpV _ _ _ _ _ _ _ _ _ _ _ _ _ _ _ _ _ _ _ _ _ []
        have y38_3 : τ61 201 3 = τ38 201 3 := hG61 201 3 (by omega)
        have y38_4 : τ61 201 4 = τ38 201 4 := hG61 201 4 (by omega)
        have y38_6 : τ61 201 6 = τ38 201 6 := hG61 201 6 (by omega)
        refine h_aload_n C dX9_readLine_41 0 rfl rfl ?_
        refine h_callV (As := []) (rest := []) C Z yyX9_good wd_1438 (tgX9_good l D cy z _ hI61) kd_195 rfl rfl ⟨rfl, rfl, Nat.le_of_ble_eq_true rfl, Nat.le_of_ble_eq_true rfl⟩ ⟨Nat.le_of_ble_eq_true rfl, Nat.le_of_ble_eq_true rfl⟩ (Nat.le_of_ble_eq_true rfl) dX9_readLine_42 (fun r64 τ64 hp64 => ?_)
        obtain ⟨⟨x64, rfl, ⟨hx64a, hx64b⟩, hx64⟩, rfl⟩ := hp64
        show hpV _ _ _ _ _ _ _ _ _ _ _ _ _ _ _ _ _ _ _ _ _ (_ :: _)
        refine h_if_eq (tgt := 52) C dX9_readLine_45 (by decide) ⟨by omega, by omega⟩ (fun h65 => ?_) (fun h65 => ?_)
        · refine h_aload_n C dX9_readLine_52 0 rfl rfl ?_
          refine h_get C O9 14 kd_195 (by decide) wd_1270 dX9_readLine_53 fr_195_14 ?_
          refine h_bipush C dX9_readLine_56 (by decide) ?_
          refine h_dup2 C rfl rfl dX9_readLine_58 ?_
          refine h_iaload C dX9_readLine_59 kd_201 6 rfl (by rw [ln_201]; decide) rfl ?_
          rw [hg62]
          refine h_iconst C dX9_readLine_60 ?_
          refine h_iadd C dX9_readLine_61 rfl ?_
          refine h_iastore C dX9_readLine_62 kd_201 6 rfl (by rw [ln_201]; decide) ?_
          obtain ⟨τ66, e66⟩ : ∃ μ : hpMem, μ = hpw τ61 201 6 (r1 + 1) := ⟨_, rfl⟩
          rw [← e66]
          have hI66 : hpInv τ66 := by rw [e66]; exact hI61.w ((bw_201 6).trans (show hpwb 6 = (0, 16) by decide)) (by omega) (by omega)
          have hF66 : ∀ j i : Nat, (j ≠ 195 ∨ (i ≠ 8 ∧ i ≠ 9 ∧ i ≠ 10 ∧ i ≠ 11 ∧ i ≠ 12 ∧ i ≠ 13)) → j ≠ 201 → τ66 j i = σ j i := fun j i h_0 h_1 => by rw [e66]; exact (hpw_fr (by omega)).trans (hF61 j i h_0 h_1)
          have hg67 : τ66 195 10 = r50 := by rw [e66]; exact (hpw_fr (Or.inl (by omega))).trans hg63
          have hg68 : τ66 201 6 = r1 + 1 := by rw [e66]; exact hpw_eq
          have y62_3 : τ66 201 3 = τ61 201 3 := by rw [e66]; exact hpw_fr (Or.inr (by decide))
          have y62_4 : τ66 201 4 = τ61 201 4 := by rw [e66]; exact hpw_fr (Or.inr (by decide))
          have y62_12 : τ66 195 12 = τ61 195 12 := by rw [e66]; exact hpw_fr (Or.inl (by decide))
          refine h_return C hr hlk dX9_readLine_63 ?_
          exact ⟨rfl, hI66, hF66, by omega, by omega⟩
        · refine h_aload_n C dX9_readLine_48 0 rfl rfl ?_
          refine h_callV (As := []) (rest := []) C Z yyX9_advance wd_1424 (tgX9_advance l D cy z _ hI61) kd_195 rfl rfl ⟨rfl, rfl, Nat.le_of_ble_eq_true rfl, Nat.le_of_ble_eq_true rfl⟩ ⟨Nat.le_of_ble_eq_true rfl, Nat.le_of_ble_eq_true rfl⟩ (Nat.le_of_ble_eq_true rfl) dX9_readLine_49 (fun r69 τ69 hp69 => ?_)
          obtain ⟨rfl, hI69, hG69⟩ := hp69
          have hF69 : ∀ j i : Nat, (j ≠ 195 ∨ (i ≠ 8 ∧ i ≠ 9 ∧ i ≠ 10 ∧ i ≠ 11 ∧ i ≠ 12 ∧ i ≠ 13)) → j ≠ 201 → τ69 j i = σ j i := fun j i h_0 h_1 => (hG69 j i (by omega)).trans (hF61 j i h_0 h_1)
          have hg70 : τ69 201 6 = r1 := (hG69 201 6 (by omega)).trans hg62
          show hpV _ _ _ _ _ _ _ _ _ _ _ _ _ _ _ _ _ _ _ _ _ []
          have y49_3 : τ69 201 3 = τ61 201 3 := hG69 201 3 (by omega)
          have y49_4 : τ69 201 4 = τ61 201 4 := hG69 201 4 (by omega)
          have y49_6 : τ69 201 6 = τ61 201 6 := hG69 201 6 (by omega)
          have y49_12 : τ69 195 12 = τ61 195 12 := hG69 195 12 (by omega)
          refine h_aload_n C dX9_readLine_52 0 rfl rfl ?_
          refine h_get C O9 14 kd_195 (by decide) wd_1270 dX9_readLine_53 fr_195_14 ?_
          refine h_bipush C dX9_readLine_56 (by decide) ?_
          refine h_dup2 C rfl rfl dX9_readLine_58 ?_
          refine h_iaload C dX9_readLine_59 kd_201 6 rfl (by rw [ln_201]; decide) rfl ?_
          rw [hg70]
          refine h_iconst C dX9_readLine_60 ?_
          refine h_iadd C dX9_readLine_61 rfl ?_
          refine h_iastore C dX9_readLine_62 kd_201 6 rfl (by rw [ln_201]; decide) ?_
          obtain ⟨τ71, e71⟩ : ∃ μ : hpMem, μ = hpw τ69 201 6 (r1 + 1) := ⟨_, rfl⟩
          rw [← e71]
          have hI71 : hpInv τ71 := by rw [e71]; exact hI69.w ((bw_201 6).trans (show hpwb 6 = (0, 16) by decide)) (by omega) (by omega)
          have hF71 : ∀ j i : Nat, (j ≠ 195 ∨ (i ≠ 8 ∧ i ≠ 9 ∧ i ≠ 10 ∧ i ≠ 11 ∧ i ≠ 12 ∧ i ≠ 13)) → j ≠ 201 → τ71 j i = σ j i := fun j i h_0 h_1 => by rw [e71]; exact (hpw_fr (by omega)).trans (hF69 j i h_0 h_1)
          have hg72 : τ71 201 6 = r1 + 1 := by rw [e71]; exact hpw_eq
          have y62_3 : τ71 201 3 = τ69 201 3 := by rw [e71]; exact hpw_fr (Or.inr (by decide))
          have y62_4 : τ71 201 4 = τ69 201 4 := by rw [e71]; exact hpw_fr (Or.inr (by decide))
          have y62_12 : τ71 195 12 = τ69 195 12 := by rw [e71]; exact hpw_fr (Or.inl (by decide))
          refine h_return C hr hlk dX9_readLine_63 ?_
          exact ⟨rfl, hI71, hF71, by omega, by omega⟩
abbrev rgX9_moor : Room := { frames := 10, cells := 0, slots := 0, locals := 215 }
abbrev pgX9_moor (z : Nat) (σ : hpMem) : Option Value → hpMem → Prop := fun r τ => (∃ x : Int, r = some (.int (hpI x)) ∧ (hpR x)) ∧ hpInv τ ∧ (∀ j i : Nat, j ≠ 196 → j ≠ 201 → (j ≠ 195 ∨ (i ≠ 5 ∧ i ≠ 7 ∧ i ≠ 8 ∧ i ≠ 9 ∧ i ≠ 10 ∧ i ≠ 11 ∧ i ≠ 12 ∧ i ≠ 13)) → τ j i = σ j i)
set_option maxHeartbeats 4000000 in
set_option maxRecDepth 20000 in
theorem tgX9_moor (l : Launch) (D : va_G) (cy : Nat → ClassId) (z : Nat) (σ : hpMem) (hI : hpInv σ) : hpM l D cy z yX9_moor cX9_moor 2 (some .int) rgX9_moor [.ref (z + 195)] σ (pgX9_moor z σ) := by
  refine hp_met rfl (Nat.le_of_ble_eq_true rfl) (fun p e s m below meth c C Z hr hlk => ?_)
  have hF0 : ∀ j i : Nat, j ≠ 196 → j ≠ 201 → (j ≠ 195 ∨ (i ≠ 5 ∧ i ≠ 7 ∧ i ≠ 8 ∧ i ≠ 9 ∧ i ≠ 10 ∧ i ≠ 11 ∧ i ≠ 12 ∧ i ≠ 13)) → σ j i = σ j i := fun j i _ _ _ => rfl
  refine h_aload_n C dX9_moor_0 0 rfl rfl ?_
  refine h_aload_n C dX9_moor_1 0 rfl rfl ?_
  refine h_get C O9 5 kd_195 (by decide) wd_1261 dX9_moor_2 (hp_fvI (by rw [kd_195]; rfl) rfl) ?_
  obtain ⟨hr1a, hr1b⟩ := hI.b (bf_9_5 kd_195)
  generalize hg1 : σ 195 5 = r1 at hr1a hr1b ⊢
  refine h_put C O9 7 kd_195 (by decide) rfl wd_1263 dX9_moor_5 rfl rfl (hp_fvI (by rw [kd_195]; rfl) hpu_at) ?_
  obtain ⟨τ2, e2⟩ : ∃ μ : hpMem, μ = hpw σ 195 7 r1 := ⟨_, rfl⟩
  rw [← e2]
  have hI2 : hpInv τ2 := by rw [e2]; exact hI.w (bf_9_7 kd_195) (by omega) (by omega)
  have hF2 : ∀ j i : Nat, j ≠ 196 → j ≠ 201 → (j ≠ 195 ∨ (i ≠ 5 ∧ i ≠ 7 ∧ i ≠ 8 ∧ i ≠ 9 ∧ i ≠ 10 ∧ i ≠ 11 ∧ i ≠ 12 ∧ i ≠ 13)) → τ2 j i = σ j i := fun j i h_0 h_1 h_2 => by rw [e2]; exact (hpw_fr (by omega)).trans (hF0 j i h_0 h_1 h_2)
  have hg3 : τ2 195 5 = r1 := by rw [e2]; exact (hpw_fr (Or.inr (by decide))).trans hg1
  have hg4 : τ2 195 7 = r1 := by rw [e2]; exact hpw_eq
  refine h_aload_n C dX9_moor_8 0 rfl rfl ?_
  refine h_iconst C dX9_moor_9 ?_
  refine h_put C O9 5 kd_195 (by decide) rfl wd_1261 dX9_moor_10 rfl rfl (hp_fvI (by rw [kd_195]; rfl) hpu_at) ?_
  obtain ⟨τ5, e5⟩ : ∃ μ : hpMem, μ = hpw τ2 195 5 0 := ⟨_, rfl⟩
  rw [← e5]
  have hI5 : hpInv τ5 := by rw [e5]; exact hI2.w (bf_9_5 kd_195) (by omega) (by omega)
  have hF5 : ∀ j i : Nat, j ≠ 196 → j ≠ 201 → (j ≠ 195 ∨ (i ≠ 5 ∧ i ≠ 7 ∧ i ≠ 8 ∧ i ≠ 9 ∧ i ≠ 10 ∧ i ≠ 11 ∧ i ≠ 12 ∧ i ≠ 13)) → τ5 j i = σ j i := fun j i h_0 h_1 h_2 => by rw [e5]; exact (hpw_fr (by omega)).trans (hF2 j i h_0 h_1 h_2)
  have hg6 : τ5 195 7 = r1 := by rw [e5]; exact (hpw_fr (Or.inr (by decide))).trans hg4
  have hg7 : τ5 195 5 = 0 := by rw [e5]; exact hpw_eq
  refine h_aload_n C dX9_moor_13 0 rfl rfl ?_
  refine h_iconst C dX9_moor_14 ?_
  refine h_put C O9 8 kd_195 (by decide) rfl wd_1264 dX9_moor_15 rfl rfl (hp_fvI (by rw [kd_195]; rfl) hpu_at) ?_
  obtain ⟨τ8, e8⟩ : ∃ μ : hpMem, μ = hpw τ5 195 8 0 := ⟨_, rfl⟩
  rw [← e8]
  have hI8 : hpInv τ8 := by rw [e8]; exact hI5.w (bf_9_8 kd_195) (by omega) (by omega)
  have hF8 : ∀ j i : Nat, j ≠ 196 → j ≠ 201 → (j ≠ 195 ∨ (i ≠ 5 ∧ i ≠ 7 ∧ i ≠ 8 ∧ i ≠ 9 ∧ i ≠ 10 ∧ i ≠ 11 ∧ i ≠ 12 ∧ i ≠ 13)) → τ8 j i = σ j i := fun j i h_0 h_1 h_2 => by rw [e8]; exact (hpw_fr (by omega)).trans (hF5 j i h_0 h_1 h_2)
  have hg9 : τ8 195 7 = r1 := by rw [e8]; exact (hpw_fr (Or.inr (by decide))).trans hg6
  have hg10 : τ8 195 5 = 0 := by rw [e8]; exact (hpw_fr (Or.inr (by decide))).trans hg7
  have hg11 : τ8 195 8 = 0 := by rw [e8]; exact hpw_eq
  refine h_aload_n C dX9_moor_18 0 rfl rfl ?_
  refine h_iconst C dX9_moor_19 ?_
  refine h_put C O9 12 kd_195 (by decide) rfl wd_1268 dX9_moor_20 rfl rfl (hp_fvI (by rw [kd_195]; rfl) hpu_at) ?_
  obtain ⟨τ12, e12⟩ : ∃ μ : hpMem, μ = hpw τ8 195 12 0 := ⟨_, rfl⟩
  rw [← e12]
  have hI12 : hpInv τ12 := by rw [e12]; exact hI8.w (bf_9_12 kd_195) (by omega) (by omega)
  have hF12 : ∀ j i : Nat, j ≠ 196 → j ≠ 201 → (j ≠ 195 ∨ (i ≠ 5 ∧ i ≠ 7 ∧ i ≠ 8 ∧ i ≠ 9 ∧ i ≠ 10 ∧ i ≠ 11 ∧ i ≠ 12 ∧ i ≠ 13)) → τ12 j i = σ j i := fun j i h_0 h_1 h_2 => by rw [e12]; exact (hpw_fr (by omega)).trans (hF8 j i h_0 h_1 h_2)
  have hg13 : τ12 195 7 = r1 := by rw [e12]; exact (hpw_fr (Or.inr (by decide))).trans hg9
  have hg14 : τ12 195 5 = 0 := by rw [e12]; exact (hpw_fr (Or.inr (by decide))).trans hg10
  have hg15 : τ12 195 8 = 0 := by rw [e12]; exact (hpw_fr (Or.inr (by decide))).trans hg11
  have hg16 : τ12 195 12 = 0 := by rw [e12]; exact hpw_eq
  refine h_aload_n C dX9_moor_23 0 rfl rfl ?_
  refine h_iconst C dX9_moor_24 ?_
  refine h_put C O9 13 kd_195 (by decide) rfl wd_1269 dX9_moor_25 rfl rfl (hp_fvI (by rw [kd_195]; rfl) hpu_at) ?_
  obtain ⟨τ17, e17⟩ : ∃ μ : hpMem, μ = hpw τ12 195 13 (-1) := ⟨_, rfl⟩
  rw [← e17]
  have hI17 : hpInv τ17 := by rw [e17]; exact hI12.w (bf_9_13 kd_195) (by omega) (by omega)
  have hF17 : ∀ j i : Nat, j ≠ 196 → j ≠ 201 → (j ≠ 195 ∨ (i ≠ 5 ∧ i ≠ 7 ∧ i ≠ 8 ∧ i ≠ 9 ∧ i ≠ 10 ∧ i ≠ 11 ∧ i ≠ 12 ∧ i ≠ 13)) → τ17 j i = σ j i := fun j i h_0 h_1 h_2 => by rw [e17]; exact (hpw_fr (by omega)).trans (hF12 j i h_0 h_1 h_2)
  have hg18 : τ17 195 7 = r1 := by rw [e17]; exact (hpw_fr (Or.inr (by decide))).trans hg13
  have hg19 : τ17 195 5 = 0 := by rw [e17]; exact (hpw_fr (Or.inr (by decide))).trans hg14
  have hg20 : τ17 195 8 = 0 := by rw [e17]; exact (hpw_fr (Or.inr (by decide))).trans hg15
  have hg21 : τ17 195 12 = 0 := by rw [e17]; exact (hpw_fr (Or.inr (by decide))).trans hg16
  have hg22 : τ17 195 13 = (-1) := by rw [e17]; exact hpw_eq
  refine h_iconst C dX9_moor_28 ?_
  refine h_istore_n (lv' := [(1, .int (hpI 0)), (0, .ref (z + 195))]) C dX9_moor_29 rfl (by decide) rfl ?_
  have L23 : ∀ (n23 : Nat) (τ23 : hpMem) (w23_1 : Int), 0 ≤ w23_1 → w23_1 ≤ 47 → hpInv τ23 → (∀ j i : Nat, j ≠ 196 → j ≠ 201 → (j ≠ 195 ∨ (i ≠ 5 ∧ i ≠ 7 ∧ i ≠ 8 ∧ i ≠ 9 ∧ i ≠ 10 ∧ i ≠ 11 ∧ i ≠ 12 ∧ i ≠ 13)) → τ23 j i = σ j i) → (∀ q : Nat, (q : Int) < w23_1 → τ23 201 q = 0) → (4294967296 - w23_1) < (n23 : Int) → hpF p l e rgX9_moor s m [.ref (z + 195)] below meth c 2 D cy z (pgX9_moor z σ) τ23 30 [(0, .ref (z + 195)), (1, .int (hpI w23_1))] [] := by
    intro n23
    induction n23 with
    | zero => intro τ23 w23_1 hv23_0 hv23_1 hI23 hF23 hM23_0 hm23; exfalso; omega
    | succ n23 ih23 =>
      intro τ23 w23_1 hv23_0 hv23_1 hI23 hF23 hM23_0 hm23
      refine h_iload_n C dX9_moor_30 1 rfl rfl ?_
      refine h_bipush C dX9_moor_31 (by decide) ?_
      refine h_icmp_ge (tgt := 49) C dX9_moor_33 (by decide) ⟨by omega, by omega⟩ ⟨by decide, by decide⟩ (fun h24 => ?_) (fun h24 => ?_)
      · refine h_aload_n C dX9_moor_49 0 rfl rfl ?_
        refine h_callV (As := []) (rest := []) C Z yyX9_advance wd_1424 (tgX9_advance l D cy z _ hI23) kd_195 rfl rfl ⟨rfl, rfl, Nat.le_of_ble_eq_true rfl, Nat.le_of_ble_eq_true rfl⟩ ⟨Nat.le_of_ble_eq_true rfl, Nat.le_of_ble_eq_true rfl⟩ (Nat.le_of_ble_eq_true rfl) dX9_moor_50 (fun r25 τ25 hp25 => ?_)
        obtain ⟨rfl, hI25, hG25⟩ := hp25
        have hF25 : ∀ j i : Nat, j ≠ 196 → j ≠ 201 → (j ≠ 195 ∨ (i ≠ 5 ∧ i ≠ 7 ∧ i ≠ 8 ∧ i ≠ 9 ∧ i ≠ 10 ∧ i ≠ 11 ∧ i ≠ 12 ∧ i ≠ 13)) → τ25 j i = σ j i := fun j i h_0 h_1 h_2 => (hG25 j i (by omega)).trans (hF23 j i h_0 h_1 h_2)
        show hpV _ _ _ _ _ _ _ _ _ _ _ _ _ _ _ _ _ _ _ _ _ []
        have L26 : ∀ (n26 : Nat) (τ26 : hpMem), hpInv τ26 → (∀ j i : Nat, j ≠ 196 → j ≠ 201 → (j ≠ 195 ∨ (i ≠ 5 ∧ i ≠ 7 ∧ i ≠ 8 ∧ i ≠ 9 ∧ i ≠ 10 ∧ i ≠ 11 ∧ i ≠ 12 ∧ i ≠ 13)) → τ26 j i = σ j i) → (τ26 195 12 ≠ 0 ∨ τ26 201 6 ≤ 1 + τ26 201 3 + τ26 201 4) → (17 - τ26 201 6) < (n26 : Int) → hpF p l e rgX9_moor s m [.ref (z + 195)] below meth c 2 D cy z (pgX9_moor z σ) τ26 53 [(0, .ref (z + 195))] [] := by
          intro n26
          induction n26 with
          | zero => intro τ26 hI26 hF26 hM26_0 hm26; have hz26_0 := hI26.b ((bw_201 6).trans (show hpwb 6 = (0, 16) by decide)); exfalso; omega
          | succ n26 ih26 =>
            intro τ26 hI26 hF26 hM26_0 hm26
            have hz26_0 := hI26.b ((bw_201 6).trans (show hpwb 6 = (0, 16) by decide))
            refine h_aload_n C dX9_moor_53 0 rfl rfl ?_
            refine h_callV (As := []) (rest := []) C Z yyX9_good wd_1438 (tgX9_good l D cy z _ hI26) kd_195 rfl rfl ⟨rfl, rfl, Nat.le_of_ble_eq_true rfl, Nat.le_of_ble_eq_true rfl⟩ ⟨Nat.le_of_ble_eq_true rfl, Nat.le_of_ble_eq_true rfl⟩ (Nat.le_of_ble_eq_true rfl) dX9_moor_54 (fun r27 τ27 hp27 => ?_)
            obtain ⟨⟨x27, rfl, ⟨hx27a, hx27b⟩, hx27⟩, rfl⟩ := hp27
            show hpV _ _ _ _ _ _ _ _ _ _ _ _ _ _ _ _ _ _ _ _ _ (_ :: _)
            refine h_if_eq (tgt := 74) C dX9_moor_57 (by decide) ⟨by omega, by omega⟩ (fun h28 => ?_) (fun h28 => ?_)
            · refine h_aload_n C dX9_moor_74 0 rfl rfl ?_
              refine h_callV (As := []) (rest := []) C Z yyX9_good wd_1438 (tgX9_good l D cy z _ hI26) kd_195 rfl rfl ⟨rfl, rfl, Nat.le_of_ble_eq_true rfl, Nat.le_of_ble_eq_true rfl⟩ ⟨Nat.le_of_ble_eq_true rfl, Nat.le_of_ble_eq_true rfl⟩ (Nat.le_of_ble_eq_true rfl) dX9_moor_75 (fun r29 τ29 hp29 => ?_)
              obtain ⟨⟨x29, rfl, ⟨hx29a, hx29b⟩, hx29⟩, rfl⟩ := hp29
              show hpV _ _ _ _ _ _ _ _ _ _ _ _ _ _ _ _ _ _ _ _ _ (_ :: _)
              refine h_if_ne (tgt := 84) C dX9_moor_78 (by decide) ⟨by omega, by omega⟩ (fun h30 => ?_) (fun h30 => ?_)
              · refine h_iconst C dX9_moor_84 ?_
                refine h_istore_n (lv' := [(1, .int (hpI 0)), (0, .ref (z + 195))]) C dX9_moor_85 rfl (by decide) rfl ?_
                have L31 : ∀ (n31 : Nat) (τ31 : hpMem) (w31_1 : Int), 0 ≤ w31_1 → w31_1 ≤ 47 → hpInv τ31 → (∀ j i : Nat, j ≠ 196 → j ≠ 201 → (j ≠ 195 ∨ (i ≠ 5 ∧ i ≠ 7 ∧ i ≠ 8 ∧ i ≠ 9 ∧ i ≠ 10 ∧ i ≠ 11 ∧ i ≠ 12 ∧ i ≠ 13)) → τ31 j i = σ j i) → (4294967296 - w31_1) < (n31 : Int) → hpF p l e rgX9_moor s m [.ref (z + 195)] below meth c 2 D cy z (pgX9_moor z σ) τ31 86 [(0, .ref (z + 195)), (1, .int (hpI w31_1))] [] := by
                  intro n31
                  induction n31 with
                  | zero => intro τ31 w31_1 hv31_0 hv31_1 hI31 hF31 hm31; exfalso; omega
                  | succ n31 ih31 =>
                    intro τ31 w31_1 hv31_0 hv31_1 hI31 hF31 hm31
                    refine h_iload_n C dX9_moor_86 1 rfl rfl ?_
                    refine h_bipush C dX9_moor_87 (by decide) ?_
                    refine h_icmp_ge (tgt := 110) C dX9_moor_89 (by decide) ⟨by omega, by omega⟩ ⟨by decide, by decide⟩ (fun h32 => ?_) (fun h32 => ?_)
                    · refine h_aload_n C dX9_moor_110 0 rfl rfl ?_
                      refine h_get C O9 1 kd_195 (by decide) wd_1257 dX9_moor_111 fr_195_1 ?_
                      refine h_bipush C dX9_moor_114 (by decide) ?_
                      refine h_iaload C dX9_moor_116 kd_196 6 rfl (by rw [ln_196]; decide) rfl ?_
                      obtain ⟨hr33a, hr33b⟩ := hI31.b ((bw_196 6).trans (show hpwb 6 = (0, 16) by decide))
                      generalize hg33 : τ31 196 6 = r33 at hr33a hr33b ⊢
                      refine h_ireturn C hr hlk dX9_moor_117 ?_
                      exact ⟨⟨_, rfl, ⟨by omega, by omega⟩⟩, hI31, hF31⟩
                    · refine h_aload_n C dX9_moor_92 0 rfl rfl ?_
                      refine h_get C O9 1 kd_195 (by decide) wd_1257 dX9_moor_93 fr_195_1 ?_
                      refine h_iload_n C dX9_moor_96 1 rfl rfl ?_
                      refine h_aload_n C dX9_moor_97 0 rfl rfl ?_
                      refine h_get C O9 14 kd_195 (by decide) wd_1270 dX9_moor_98 fr_195_14 ?_
                      refine h_iload_n C dX9_moor_101 1 rfl rfl ?_
                      refine h_iaload C dX9_moor_102 kd_201 (w31_1).toNat (Int.toNat_of_nonneg (by omega)) (by rw [ln_201]; omega) rfl ?_
                      have hwb34 := hpInv.q201 hI31 ((w31_1).toNat)
                      obtain ⟨hr35a, hr35b⟩ := hpInv.r201 hI31 ((w31_1).toNat) 0 46 (0) 2016 (by omega) (by omega) (by decide)
                      generalize hg35 : τ31 201 ((w31_1).toNat) = r35 at hr35a hr35b ⊢
                      rw [hg35] at hwb34
                      refine h_iastore C dX9_moor_103 kd_196 (w31_1).toNat (Int.toNat_of_nonneg (by omega)) (by rw [ln_196]; omega) ?_
                      obtain ⟨τ36, e36⟩ : ∃ μ : hpMem, μ = hpw τ31 196 ((w31_1).toNat) r35 := ⟨_, rfl⟩
                      rw [← e36]
                      have hI36 : hpInv τ36 := by rw [e36]; exact hpInv.c196 hI31 hwb34
                      have hF36 : ∀ j i : Nat, j ≠ 196 → j ≠ 201 → (j ≠ 195 ∨ (i ≠ 5 ∧ i ≠ 7 ∧ i ≠ 8 ∧ i ≠ 9 ∧ i ≠ 10 ∧ i ≠ 11 ∧ i ≠ 12 ∧ i ≠ 13)) → τ36 j i = σ j i := fun j i h_0 h_1 h_2 => by rw [e36]; exact (hpw_fr (by omega)).trans (hF31 j i h_0 h_1 h_2)
                      have hg37 : τ36 201 ((w31_1).toNat) = r35 := by rw [e36]; exact (hpw_fr (Or.inl (by omega))).trans hg35
                      refine h_iinc (lv' := [(1, .int (hpI (w31_1 + 1))), (0, .ref (z + 195))]) C dX9_moor_104 1 rfl rfl (by decide) rfl ?_
                      refine h_goto (tgt := 86) C dX9_moor_107 (by decide) ?_
                      exact hp_sub [1, 0] rfl (ih31 _ (w31_1 + 1) (by omega) (by omega) hI36 hF36 (by omega))
                exact hp_sub [1, 0] rfl (L31 8589934592 _ 0 (by omega) (by omega) hI26 hF26 (by omega))
              · refine h_bipush C dX9_moor_81 (by decide) ?_
                refine h_ireturn C hr hlk dX9_moor_83 ?_
                exact ⟨⟨_, rfl, ⟨by decide, by decide⟩⟩, hI26, hF26⟩
            · refine h_aload_n C dX9_moor_60 0 rfl rfl ?_
              refine h_get C O9 10 kd_195 (by decide) wd_1266 dX9_moor_61 (hp_fvI (by rw [kd_195]; rfl) rfl) ?_
              obtain ⟨hr38a, hr38b⟩ := hI26.b (bf_9_10 kd_195)
              generalize hg38 : τ26 195 10 = r38 at hr38a hr38b ⊢
              refine h_if_eq (tgt := 74) C dX9_moor_64 (by decide) ⟨by omega, by omega⟩ (fun h39 => ?_) (fun h39 => ?_)
              · refine h_aload_n C dX9_moor_74 0 rfl rfl ?_
                refine h_callV (As := []) (rest := []) C Z yyX9_good wd_1438 (tgX9_good l D cy z _ hI26) kd_195 rfl rfl ⟨rfl, rfl, Nat.le_of_ble_eq_true rfl, Nat.le_of_ble_eq_true rfl⟩ ⟨Nat.le_of_ble_eq_true rfl, Nat.le_of_ble_eq_true rfl⟩ (Nat.le_of_ble_eq_true rfl) dX9_moor_75 (fun r40 τ40 hp40 => ?_)
                obtain ⟨⟨x40, rfl, ⟨hx40a, hx40b⟩, hx40⟩, rfl⟩ := hp40
                show hpV _ _ _ _ _ _ _ _ _ _ _ _ _ _ _ _ _ _ _ _ _ (_ :: _)
                refine h_if_ne (tgt := 84) C dX9_moor_78 (by decide) ⟨by omega, by omega⟩ (fun h41 => ?_) (fun h41 => ?_)
                · refine h_iconst C dX9_moor_84 ?_
                  refine h_istore_n (lv' := [(1, .int (hpI 0)), (0, .ref (z + 195))]) C dX9_moor_85 rfl (by decide) rfl ?_
                  have L42 : ∀ (n42 : Nat) (τ42 : hpMem) (w42_1 : Int), 0 ≤ w42_1 → w42_1 ≤ 47 → hpInv τ42 → (∀ j i : Nat, j ≠ 196 → j ≠ 201 → (j ≠ 195 ∨ (i ≠ 5 ∧ i ≠ 7 ∧ i ≠ 8 ∧ i ≠ 9 ∧ i ≠ 10 ∧ i ≠ 11 ∧ i ≠ 12 ∧ i ≠ 13)) → τ42 j i = σ j i) → (4294967296 - w42_1) < (n42 : Int) → hpF p l e rgX9_moor s m [.ref (z + 195)] below meth c 2 D cy z (pgX9_moor z σ) τ42 86 [(0, .ref (z + 195)), (1, .int (hpI w42_1))] [] := by
                    intro n42
                    induction n42 with
                    | zero => intro τ42 w42_1 hv42_0 hv42_1 hI42 hF42 hm42; exfalso; omega
                    | succ n42 ih42 =>
                      intro τ42 w42_1 hv42_0 hv42_1 hI42 hF42 hm42
                      refine h_iload_n C dX9_moor_86 1 rfl rfl ?_
                      refine h_bipush C dX9_moor_87 (by decide) ?_
                      refine h_icmp_ge (tgt := 110) C dX9_moor_89 (by decide) ⟨by omega, by omega⟩ ⟨by decide, by decide⟩ (fun h43 => ?_) (fun h43 => ?_)
                      · refine h_aload_n C dX9_moor_110 0 rfl rfl ?_
                        refine h_get C O9 1 kd_195 (by decide) wd_1257 dX9_moor_111 fr_195_1 ?_
                        refine h_bipush C dX9_moor_114 (by decide) ?_
                        refine h_iaload C dX9_moor_116 kd_196 6 rfl (by rw [ln_196]; decide) rfl ?_
                        obtain ⟨hr44a, hr44b⟩ := hI42.b ((bw_196 6).trans (show hpwb 6 = (0, 16) by decide))
                        generalize hg44 : τ42 196 6 = r44 at hr44a hr44b ⊢
                        refine h_ireturn C hr hlk dX9_moor_117 ?_
                        exact ⟨⟨_, rfl, ⟨by omega, by omega⟩⟩, hI42, hF42⟩
                      · refine h_aload_n C dX9_moor_92 0 rfl rfl ?_
                        refine h_get C O9 1 kd_195 (by decide) wd_1257 dX9_moor_93 fr_195_1 ?_
                        refine h_iload_n C dX9_moor_96 1 rfl rfl ?_
                        refine h_aload_n C dX9_moor_97 0 rfl rfl ?_
                        refine h_get C O9 14 kd_195 (by decide) wd_1270 dX9_moor_98 fr_195_14 ?_
                        refine h_iload_n C dX9_moor_101 1 rfl rfl ?_
                        refine h_iaload C dX9_moor_102 kd_201 (w42_1).toNat (Int.toNat_of_nonneg (by omega)) (by rw [ln_201]; omega) rfl ?_
                        have hwb45 := hpInv.q201 hI42 ((w42_1).toNat)
                        obtain ⟨hr46a, hr46b⟩ := hpInv.r201 hI42 ((w42_1).toNat) 0 46 (0) 2016 (by omega) (by omega) (by decide)
                        generalize hg46 : τ42 201 ((w42_1).toNat) = r46 at hr46a hr46b ⊢
                        rw [hg46] at hwb45
                        refine h_iastore C dX9_moor_103 kd_196 (w42_1).toNat (Int.toNat_of_nonneg (by omega)) (by rw [ln_196]; omega) ?_
                        obtain ⟨τ47, e47⟩ : ∃ μ : hpMem, μ = hpw τ42 196 ((w42_1).toNat) r46 := ⟨_, rfl⟩
                        rw [← e47]
                        have hI47 : hpInv τ47 := by rw [e47]; exact hpInv.c196 hI42 hwb45
                        have hF47 : ∀ j i : Nat, j ≠ 196 → j ≠ 201 → (j ≠ 195 ∨ (i ≠ 5 ∧ i ≠ 7 ∧ i ≠ 8 ∧ i ≠ 9 ∧ i ≠ 10 ∧ i ≠ 11 ∧ i ≠ 12 ∧ i ≠ 13)) → τ47 j i = σ j i := fun j i h_0 h_1 h_2 => by rw [e47]; exact (hpw_fr (by omega)).trans (hF42 j i h_0 h_1 h_2)
                        have hg48 : τ47 201 ((w42_1).toNat) = r46 := by rw [e47]; exact (hpw_fr (Or.inl (by omega))).trans hg46
                        refine h_iinc (lv' := [(1, .int (hpI (w42_1 + 1))), (0, .ref (z + 195))]) C dX9_moor_104 1 rfl rfl (by decide) rfl ?_
                        refine h_goto (tgt := 86) C dX9_moor_107 (by decide) ?_
                        exact hp_sub [1, 0] rfl (ih42 _ (w42_1 + 1) (by omega) (by omega) hI47 hF47 (by omega))
                  exact hp_sub [1, 0] rfl (L42 8589934592 _ 0 (by omega) (by omega) hI26 hF26 (by omega))
                · refine h_bipush C dX9_moor_81 (by decide) ?_
                  refine h_ireturn C hr hlk dX9_moor_83 ?_
                  exact ⟨⟨_, rfl, ⟨by decide, by decide⟩⟩, hI26, hF26⟩
              · refine h_aload_n C dX9_moor_67 0 rfl rfl ?_
                have hm53 := hM26_0
                have c3 := hI26.b ((bw_201 3).trans (show hpwb 3 = (0, 8) by decide))
                have c4 := hI26.b ((bw_201 4).trans (show hpwb 4 = (0, 6) by decide))
                refine h_callV (As := []) (rest := []) C Z yyX9_readLine wd_1442 (tgX9_readLine l D cy z _ hI26 (by omega)) kd_195 rfl rfl ⟨rfl, rfl, Nat.le_of_ble_eq_true rfl, Nat.le_of_ble_eq_true rfl⟩ ⟨Nat.le_of_ble_eq_true rfl, Nat.le_of_ble_eq_true rfl⟩ (Nat.le_of_ble_eq_true rfl) dX9_moor_68 (fun r49 τ49 hp49 => ?_)
                obtain ⟨rfl, hI49, hG49, hq49_0, hq49_1⟩ := hp49
                have hF49 : ∀ j i : Nat, j ≠ 196 → j ≠ 201 → (j ≠ 195 ∨ (i ≠ 5 ∧ i ≠ 7 ∧ i ≠ 8 ∧ i ≠ 9 ∧ i ≠ 10 ∧ i ≠ 11 ∧ i ≠ 12 ∧ i ≠ 13)) → τ49 j i = σ j i := fun j i h_0 h_1 h_2 => (hG49 j i (by omega) (by omega)).trans (hF26 j i h_0 h_1 h_2)
                show hpV _ _ _ _ _ _ _ _ _ _ _ _ _ _ _ _ _ _ _ _ _ []
                refine h_goto (tgt := 53) C dX9_moor_71 (by decide) ?_
                have hy26_0 := hI49.b ((bw_201 6).trans (show hpwb 6 = (0, 16) by decide))
                exact hp_sub [0] rfl (ih26 _ hI49 hF49 (by have z := hq49_1; omega) (by omega))
        have hz26_0 := hI25.b ((bw_201 6).trans (show hpwb 6 = (0, 16) by decide))
        exact hp_sub [0] rfl (L26 8589934592 _ hI25 hF25 (by have z3 := hM23_0 3 (by omega); have z4 := hM23_0 4 (by omega); have z6 := hM23_0 6 (by omega); have y3 := hG25 201 3 (by omega); have y4 := hG25 201 4 (by omega); have y6 := hG25 201 6 (by omega); omega) (by omega))
      · refine h_aload_n C dX9_moor_36 0 rfl rfl ?_
        refine h_get C O9 14 kd_195 (by decide) wd_1270 dX9_moor_37 fr_195_14 ?_
        refine h_iload_n C dX9_moor_40 1 rfl rfl ?_
        refine h_iconst C dX9_moor_41 ?_
        refine h_iastore C dX9_moor_42 kd_201 (w23_1).toNat (Int.toNat_of_nonneg (by omega)) (by rw [ln_201]; omega) ?_
        obtain ⟨τ50, e50⟩ : ∃ μ : hpMem, μ = hpw τ23 201 ((w23_1).toNat) 0 := ⟨_, rfl⟩
        rw [← e50]
        have hI50 : hpInv τ50 := by rw [e50]; exact hpInv.w201 hI23 ((w23_1).toNat) 0 46 (0) 3 (by omega) (by omega) (by decide) (by omega) (by omega)
        have hF50 : ∀ j i : Nat, j ≠ 196 → j ≠ 201 → (j ≠ 195 ∨ (i ≠ 5 ∧ i ≠ 7 ∧ i ≠ 8 ∧ i ≠ 9 ∧ i ≠ 10 ∧ i ≠ 11 ∧ i ≠ 12 ∧ i ≠ 13)) → τ50 j i = σ j i := fun j i h_0 h_1 h_2 => by rw [e50]; exact (hpw_fr (by omega)).trans (hF23 j i h_0 h_1 h_2)
        refine h_iinc (lv' := [(1, .int (hpI (w23_1 + 1))), (0, .ref (z + 195))]) C dX9_moor_43 1 rfl rfl (by decide) rfl ?_
        refine h_goto (tgt := 30) C dX9_moor_46 (by decide) ?_
        exact hp_sub [1, 0] rfl (ih23 _ (w23_1 + 1) (by omega) (by omega) hI50 hF50 (fun q hq => by rw [e50]; by_cases eq : q = (w23_1).toNat; (rw [eq]; exact hpw_eq); (rw [hpw_fr (Or.inr eq)]; exact hM23_0 q (by omega))) (by omega))
  exact hp_sub [1, 0] rfl (L23 8589934592 _ 0 (by omega) (by omega) hI17 hF17 (fun q hq => by exfalso; omega) (by omega))
abbrev rgX9_told : Room := { frames := 2, cells := 0, slots := 0, locals := 46 }
abbrev pgX9_told (z : Nat) (σ : hpMem) (a0 : Int) : Option Value → hpMem → Prop := fun r τ => (∃ x : Int, r = some (.int (hpI x)) ∧ (hpR x)) ∧ σ = τ
set_option maxHeartbeats 4000000 in
set_option maxRecDepth 20000 in
theorem tgX9_told (l : Launch) (D : va_G) (cy : Nat → ClassId) (z : Nat) (σ : hpMem) (a0 : Int) (ha0 : hpR a0) (hI : hpInv σ) : hpM l D cy z yX9_told cX9_told 2 (some .int) rgX9_told [.ref (z + 195), .int (hpI a0)] σ (pgX9_told z σ a0) := by
  obtain ⟨ha01, ha02⟩ := ha0
  refine hp_met rfl (Nat.le_of_ble_eq_true rfl) (fun p e s m below meth c C Z hr hlk => ?_)
  refine h_aload_n C dX9_told_0 0 rfl rfl ?_
  refine h_iload_n C dX9_told_1 1 rfl rfl ?_
  refine h_callV (As := [.int (hpI a0)]) (rest := []) C Z yyX9_isHeap wd_1492 (tgX9_isHeap l D cy z _ a0 ⟨by omega, by omega⟩ hI) kd_195 rfl rfl ⟨rfl, rfl, Nat.le_of_ble_eq_true rfl, Nat.le_of_ble_eq_true rfl⟩ ⟨Nat.le_of_ble_eq_true rfl, Nat.le_of_ble_eq_true rfl⟩ (Nat.le_of_ble_eq_true rfl) dX9_told_2 (fun r1 τ1 hp1 => ?_)
  obtain ⟨⟨x1, rfl, ⟨hx1a, hx1b⟩, hx1⟩, rfl⟩ := hp1
  show hpV _ _ _ _ _ _ _ _ _ _ _ _ _ _ _ _ _ _ _ _ _ (_ :: _)
  refine h_if_eq (tgt := 20) C dX9_told_5 (by decide) ⟨by omega, by omega⟩ (fun h2 => ?_) (fun h2 => ?_)
  · refine h_bipush C dX9_told_20 (by decide) ?_
    refine h_ireturn C hr hlk dX9_told_22 ?_
    exact ⟨⟨_, rfl, ⟨by decide, by decide⟩⟩, rfl⟩
  · refine h_aload_n C dX9_told_8 0 rfl rfl ?_
    refine h_get C O9 1 kd_195 (by decide) wd_1257 dX9_told_9 fr_195_1 ?_
    refine h_bipush C dX9_told_12 (by decide) ?_
    refine h_iload_n C dX9_told_14 1 rfl rfl ?_
    refine h_iadd C dX9_told_15 rfl ?_
    refine h_iaload C dX9_told_16 kd_196 (7 + a0).toNat (Int.toNat_of_nonneg (by omega)) (by rw [ln_196]; omega) rfl ?_
    obtain ⟨hr3a, hr3b⟩ := hpInv.r196 hI ((7 + a0).toNat) 7 14 (0) 20 (by omega) (by omega) (by decide)
    generalize hg3 : σ 196 ((7 + a0).toNat) = r3 at hr3a hr3b ⊢
    refine h_goto (tgt := 22) C dX9_told_17 (by decide) ?_
    refine h_ireturn C hr hlk dX9_told_22 ?_
    exact ⟨⟨_, rfl, ⟨by omega, by omega⟩⟩, rfl⟩
abbrev rgX9_cart : Room := { frames := 2, cells := 0, slots := 0, locals := 46 }
abbrev pgX9_cart (z : Nat) (σ : hpMem) (a0 : Int) (a1 : Int) : Option Value → hpMem → Prop := fun r τ => (∃ x : Int, r = some (.int (hpI x)) ∧ (hpR x)) ∧ σ = τ
set_option maxHeartbeats 4000000 in
set_option maxRecDepth 20000 in
theorem tgX9_cart (l : Launch) (D : va_G) (cy : Nat → ClassId) (z : Nat) (σ : hpMem) (a0 : Int) (ha0 : hpR a0) (a1 : Int) (ha1 : hpR a1) (hI : hpInv σ) : hpM l D cy z yX9_cart cX9_cart 3 (some .int) rgX9_cart [.ref (z + 195), .int (hpI a0), .int (hpI a1)] σ (pgX9_cart z σ a0 a1) := by
  obtain ⟨ha01, ha02⟩ := ha0
  obtain ⟨ha11, ha12⟩ := ha1
  refine hp_met rfl (Nat.le_of_ble_eq_true rfl) (fun p e s m below meth c C Z hr hlk => ?_)
  refine h_aload_n C dX9_cart_0 0 rfl rfl ?_
  refine h_iload_n C dX9_cart_1 1 rfl rfl ?_
  refine h_callV (As := [.int (hpI a0)]) (rest := []) C Z yyX9_isCart wd_1500 (tgX9_isCart l D cy z _ a0 ⟨by omega, by omega⟩ hI) kd_195 rfl rfl ⟨rfl, rfl, Nat.le_of_ble_eq_true rfl, Nat.le_of_ble_eq_true rfl⟩ ⟨Nat.le_of_ble_eq_true rfl, Nat.le_of_ble_eq_true rfl⟩ (Nat.le_of_ble_eq_true rfl) dX9_cart_2 (fun r1 τ1 hp1 => ?_)
  obtain ⟨⟨x1, rfl, ⟨hx1a, hx1b⟩, hx1⟩, rfl⟩ := hp1
  show hpV _ _ _ _ _ _ _ _ _ _ _ _ _ _ _ _ _ _ _ _ _ (_ :: _)
  refine h_if_eq (tgt := 34) C dX9_cart_5 (by decide) ⟨by omega, by omega⟩ (fun h2 => ?_) (fun h2 => ?_)
  · refine h_bipush C dX9_cart_34 (by decide) ?_
    refine h_ireturn C hr hlk dX9_cart_36 ?_
    exact ⟨⟨_, rfl, ⟨by decide, by decide⟩⟩, rfl⟩
  · refine h_iload_n C dX9_cart_8 2 rfl rfl ?_
    refine h_i2l C dX9_cart_9 ⟨by omega, by omega⟩ ?_
    refine h_lconst C 0 dX9_cart_10 (by decide) ?_
    refine h_lconst C 1 dX9_cart_11 (by decide) ?_
    refine h_callS (As := [.long (hpJ a1), .long (hpJ 0), .long (hpJ 1)]) (rest := []) C Z yyX9_in rfl wd_1401 (tgX9_in l D cy z _ a1 ⟨by omega, by omega⟩ 0 ⟨by decide, by decide⟩ 1 ⟨by decide, by decide⟩ hI) rfl rfl ⟨rfl, rfl, Nat.le_of_ble_eq_true rfl, Nat.le_of_ble_eq_true rfl⟩ ⟨Nat.le_of_ble_eq_true rfl, Nat.le_of_ble_eq_true rfl⟩ (Nat.le_of_ble_eq_true rfl) dX9_cart_12 (fun r3 τ3 hp3 => ?_)
    obtain ⟨⟨x3, rfl, ⟨hx3a, hx3b⟩, hx3⟩, rfl⟩ := hp3
    show hpV _ _ _ _ _ _ _ _ _ _ _ _ _ _ _ _ _ _ _ _ _ (_ :: _)
    refine h_if_eq (tgt := 34) C dX9_cart_15 (by decide) ⟨by omega, by omega⟩ (fun h4 => ?_) (fun h4 => ?_)
    · refine h_bipush C dX9_cart_34 (by decide) ?_
      refine h_ireturn C hr hlk dX9_cart_36 ?_
      exact ⟨⟨_, rfl, ⟨by decide, by decide⟩⟩, rfl⟩
    · refine h_aload_n C dX9_cart_18 0 rfl rfl ?_
      refine h_get C O9 1 kd_195 (by decide) wd_1257 dX9_cart_19 fr_195_1 ?_
      refine h_bipush C dX9_cart_22 (by decide) ?_
      refine h_iconst C dX9_cart_24 ?_
      refine h_iload_n C dX9_cart_25 1 rfl rfl ?_
      refine h_imul C dX9_cart_26 rfl ?_
      refine h_iadd C dX9_cart_27 rfl ?_
      refine h_iload_n C dX9_cart_28 2 rfl rfl ?_
      refine h_iadd C dX9_cart_29 rfl ?_
      refine h_iaload C dX9_cart_30 kd_196 ((15 + (2 * a0)) + a1).toNat (Int.toNat_of_nonneg (by omega)) (by rw [ln_196]; omega) rfl ?_
      obtain ⟨hr5a, hr5b⟩ := hpInv.r196 hI (((15 + (2 * a0)) + a1).toNat) 15 26 (0) 20 (by omega) (by omega) (by decide)
      generalize hg5 : σ 196 (((15 + (2 * a0)) + a1).toNat) = r5 at hr5a hr5b ⊢
      refine h_goto (tgt := 36) C dX9_cart_31 (by decide) ?_
      refine h_ireturn C hr hlk dX9_cart_36 ?_
      exact ⟨⟨_, rfl, ⟨by omega, by omega⟩⟩, rfl⟩
abbrev rgX9_count : Room := { frames := 1, cells := 0, slots := 0, locals := 25 }
abbrev pgX9_count (z : Nat) (σ : hpMem) (a0 : Int) : Option Value → hpMem → Prop := fun r τ => (∃ x : Int, r = some (.int (hpI x)) ∧ (hpR x)) ∧ σ = τ
set_option maxHeartbeats 4000000 in
set_option maxRecDepth 20000 in
theorem tgX9_count (l : Launch) (D : va_G) (cy : Nat → ClassId) (z : Nat) (σ : hpMem) (a0 : Int) (ha0 : hpR a0) (hI : hpInv σ) : hpM l D cy z yX9_count cX9_count 4 (some .int) rgX9_count [.ref (z + 195), .int (hpI a0)] σ (pgX9_count z σ a0) := by
  obtain ⟨ha01, ha02⟩ := ha0
  refine hp_met rfl (Nat.le_of_ble_eq_true rfl) (fun p e s m below meth c C Z hr hlk => ?_)
  refine h_iload_n C dX9_count_0 1 rfl rfl ?_
  refine h_i2l C dX9_count_1 ⟨by omega, by omega⟩ ?_
  refine h_lconst C 0 dX9_count_2 (by decide) ?_
  refine h_ldc2 C 6 wd_2008 (by decide) dX9_count_3 ?_
  refine h_callS (As := [.long (hpJ a0), .long (hpJ 0), .long (hpJ 6)]) (rest := []) C Z yyX9_in rfl wd_1401 (tgX9_in l D cy z _ a0 ⟨by omega, by omega⟩ 0 ⟨by decide, by decide⟩ 6 ⟨by decide, by decide⟩ hI) rfl rfl ⟨rfl, rfl, Nat.le_of_ble_eq_true rfl, Nat.le_of_ble_eq_true rfl⟩ ⟨Nat.le_of_ble_eq_true rfl, Nat.le_of_ble_eq_true rfl⟩ (Nat.le_of_ble_eq_true rfl) dX9_count_6 (fun r1 τ1 hp1 => ?_)
  obtain ⟨⟨x1, rfl, ⟨hx1a, hx1b⟩, hx1⟩, rfl⟩ := hp1
  show hpV _ _ _ _ _ _ _ _ _ _ _ _ _ _ _ _ _ _ _ _ _ (_ :: _)
  refine h_if_eq (tgt := 19) C dX9_count_9 (by decide) ⟨by omega, by omega⟩ (fun h2 => ?_) (fun h2 => ?_)
  · refine h_iload_n C dX9_count_19 1 rfl rfl ?_
    refine h_bipush C dX9_count_20 (by decide) ?_
    refine h_icmp_ne (tgt := 30) C dX9_count_22 (by decide) ⟨by omega, by omega⟩ ⟨by decide, by decide⟩ (fun h3 => ?_) (fun h3 => ?_)
    · refine h_iload_n C dX9_count_30 1 rfl rfl ?_
      refine h_bipush C dX9_count_31 (by decide) ?_
      refine h_icmp_eq (tgt := 38) C dX9_count_33 (by decide) ⟨by omega, by omega⟩ ⟨by decide, by decide⟩ (fun h4 => ?_) (fun h4 => ?_)
      · refine h_iconst C dX9_count_38 ?_
        refine h_istore_n (lv' := [(2, .int (hpI 0)), (0, .ref (z + 195)), (1, .int (hpI a0))]) C dX9_count_39 rfl (by decide) rfl ?_
        refine h_iconst C dX9_count_40 ?_
        refine h_istore_n (lv' := [(3, .int (hpI 0)), (2, .int (hpI 0)), (0, .ref (z + 195)), (1, .int (hpI a0))]) C dX9_count_41 rfl (by decide) rfl ?_
        have L5 : ∀ (n5 : Nat) (w5_2 : Int) (w5_3 : Int), -2147483648 ≤ w5_2 → w5_2 ≤ 2147483647 → 0 ≤ w5_3 → w5_3 ≤ 2147483647 → (4294967296 - w5_3) < (n5 : Int) → hpF p l e rgX9_count s m [.ref (z + 195), .int (hpI a0)] below meth c 4 D cy z (pgX9_count z σ a0) σ 42 [(0, .ref (z + 195)), (1, .int (hpI a0)), (2, .int (hpI w5_2)), (3, .int (hpI w5_3))] [] := by
          intro n5
          induction n5 with
          | zero => intro w5_2 w5_3 hv5_0 hv5_1 hv5_2 hv5_3 hm5; exfalso; omega
          | succ n5 ih5 =>
            intro w5_2 w5_3 hv5_0 hv5_1 hv5_2 hv5_3 hm5
            refine h_iload_n C dX9_count_42 3 rfl rfl ?_
            refine h_iconst C dX9_count_43 ?_
            refine h_icmp_ge (tgt := 71) C dX9_count_44 (by decide) ⟨by omega, by omega⟩ ⟨by decide, by decide⟩ (fun h6 => ?_) (fun h6 => ?_)
            · refine h_iload_n C dX9_count_71 2 rfl rfl ?_
              refine h_ireturn C hr hlk dX9_count_72 ?_
              exact ⟨⟨_, rfl, ⟨by omega, by omega⟩⟩, rfl⟩
            · refine h_iload_n C dX9_count_47 2 rfl rfl ?_
              refine h_aload_n C dX9_count_48 0 rfl rfl ?_
              refine h_get C O9 42 kd_195 (by decide) wd_1298 dX9_count_49 fr_195_42 ?_
              refine h_iload_n C dX9_count_52 3 rfl rfl ?_
              refine h_iaload C dX9_count_53 kd_213 (w5_3).toNat (Int.toNat_of_nonneg (by omega)) (by rw [ln_213]; omega) rfl ?_
              obtain ⟨hr7a, hr7b⟩ := hI.b (bo_213 _)
              generalize hg7 : σ 213 ((w5_3).toNat) = r7 at hr7a hr7b ⊢
              refine h_iconst C dX9_count_54 ?_
              refine h_icmp_ne (tgt := 62) C dX9_count_55 (by decide) ⟨by omega, by omega⟩ ⟨by decide, by decide⟩ (fun h8 => ?_) (fun h8 => ?_)
              · refine h_iconst C dX9_count_62 ?_
                refine h_iadd C dX9_count_63 rfl ?_
                refine hp_anyI (fun r9 hr9 => ?_)
                obtain ⟨hr9a, hr9b⟩ := hr9
                refine h_istore_n (lv' := [(2, .int (hpI r9)), (0, .ref (z + 195)), (1, .int (hpI a0)), (3, .int (hpI w5_3))]) C dX9_count_64 rfl (by decide) rfl ?_
                refine h_iinc (lv' := [(3, .int (hpI (w5_3 + 1))), (2, .int (hpI r9)), (0, .ref (z + 195)), (1, .int (hpI a0))]) C dX9_count_65 3 rfl rfl (by decide) rfl ?_
                refine h_goto (tgt := 42) C dX9_count_68 (by decide) ?_
                exact hp_sub [2, 3, 1, 0] rfl (ih5 r9 (w5_3 + 1) (by omega) (by omega) (by omega) (by omega) (by omega))
              · refine h_iconst C dX9_count_58 ?_
                refine h_goto (tgt := 63) C dX9_count_59 (by decide) ?_
                refine h_iadd C dX9_count_63 rfl ?_
                refine h_istore_n (lv' := [(2, .int (hpI (w5_2 + 0))), (0, .ref (z + 195)), (1, .int (hpI a0)), (3, .int (hpI w5_3))]) C dX9_count_64 rfl (by decide) rfl ?_
                refine h_iinc (lv' := [(3, .int (hpI (w5_3 + 1))), (2, .int (hpI (w5_2 + 0))), (0, .ref (z + 195)), (1, .int (hpI a0))]) C dX9_count_65 3 rfl rfl (by decide) rfl ?_
                refine h_goto (tgt := 42) C dX9_count_68 (by decide) ?_
                exact hp_sub [2, 3, 1, 0] rfl (ih5 (w5_2 + 0) (w5_3 + 1) (by omega) (by omega) (by omega) (by omega) (by omega))
        exact hp_sub [2, 3, 1, 0] rfl (L5 8589934592 0 0 (by omega) (by omega) (by omega) (by omega) (by omega))
      · refine h_iconst C dX9_count_36 ?_
        refine h_ireturn C hr hlk dX9_count_37 ?_
        exact ⟨⟨_, rfl, ⟨by decide, by decide⟩⟩, rfl⟩
    · refine h_aload_n C dX9_count_25 0 rfl rfl ?_
      refine h_get C O9 5 kd_195 (by decide) wd_1261 dX9_count_26 (hp_fvI (by rw [kd_195]; rfl) rfl) ?_
      obtain ⟨hr10a, hr10b⟩ := hI.b (bf_9_5 kd_195)
      generalize hg10 : σ 195 5 = r10 at hr10a hr10b ⊢
      refine h_ireturn C hr hlk dX9_count_29 ?_
      exact ⟨⟨_, rfl, ⟨by omega, by omega⟩⟩, rfl⟩
  · refine h_aload_n C dX9_count_12 0 rfl rfl ?_
    refine h_get C O9 1 kd_195 (by decide) wd_1257 dX9_count_13 fr_195_1 ?_
    refine h_iload_n C dX9_count_16 1 rfl rfl ?_
    refine h_iaload C dX9_count_17 kd_196 (a0).toNat (Int.toNat_of_nonneg (by omega)) (by rw [ln_196]; omega) rfl ?_
    obtain ⟨hr11a, hr11b⟩ := hpInv.r196 hI ((a0).toNat) 0 46 (0) 2016 (by omega) (by omega) (by decide)
    generalize hg11 : σ 196 ((a0).toNat) = r11 at hr11a hr11b ⊢
    refine h_ireturn C hr hlk dX9_count_18 ?_
    exact ⟨⟨_, rfl, ⟨by omega, by omega⟩⟩, rfl⟩
abbrev rgX9_image : Room := { frames := 1, cells := 0, slots := 0, locals := 25 }
abbrev pgX9_image (z : Nat) (σ : hpMem) (a0 : Int) : Option Value → hpMem → Prop := fun r τ => (∃ x : Int, r = some (.int (hpI x)) ∧ (hpR x) ∧ (((a0 < 0 ∨ 2 < a0) ∧ x = -2) ∨ ((0 ≤ a0 ∧ a0 ≤ 2) ∧ x = 0)) ∧ hpInv τ ∧ (∀ j i : Nat, j ≠ 197 → j ≠ 198 → τ j i = σ j i) ∧ (∀ k : Nat, k < 3 → (((k : Int) = a0 ∧ τ 198 k = 1) ∨ ((k : Int) ≠ a0 ∧ τ 198 k = σ 198 k))))
set_option maxHeartbeats 4000000 in
set_option maxRecDepth 20000 in
theorem tgX9_image (l : Launch) (D : va_G) (cy : Nat → ClassId) (z : Nat) (σ : hpMem) (a0 : Int) (ha0 : hpR a0) (hI : hpInv σ) : hpM l D cy z yX9_image cX9_image 3 (some .int) rgX9_image [.ref (z + 195), .int (hpI a0)] σ (pgX9_image z σ a0) := by
  obtain ⟨ha01, ha02⟩ := ha0
  refine hp_met rfl (Nat.le_of_ble_eq_true rfl) (fun p e s m below meth c C Z hr hlk => ?_)
  have hF0 : ∀ j i : Nat, j ≠ 197 → j ≠ 198 → σ j i = σ j i := fun j i _ _ => rfl
  refine h_iload_n C dX9_image_0 1 rfl rfl ?_
  refine h_i2l C dX9_image_1 ⟨by omega, by omega⟩ ?_
  refine h_lconst C 0 dX9_image_2 (by decide) ?_
  refine h_ldc2 C 2 wd_1400 (by decide) dX9_image_3 ?_
  refine h_callS (As := [.long (hpJ a0), .long (hpJ 0), .long (hpJ 2)]) (rest := []) C Z yyX9_in rfl wd_1401 (tgX9_in l D cy z _ a0 ⟨by omega, by omega⟩ 0 ⟨by decide, by decide⟩ 2 ⟨by decide, by decide⟩ hI) rfl rfl ⟨rfl, rfl, Nat.le_of_ble_eq_true rfl, Nat.le_of_ble_eq_true rfl⟩ ⟨Nat.le_of_ble_eq_true rfl, Nat.le_of_ble_eq_true rfl⟩ (Nat.le_of_ble_eq_true rfl) dX9_image_6 (fun r1 τ1 hp1 => ?_)
  obtain ⟨⟨x1, rfl, ⟨hx1a, hx1b⟩, hx1⟩, rfl⟩ := hp1
  show hpV _ _ _ _ _ _ _ _ _ _ _ _ _ _ _ _ _ _ _ _ _ (_ :: _)
  refine h_if_ne (tgt := 15) C dX9_image_9 (by decide) ⟨by omega, by omega⟩ (fun h2 => ?_) (fun h2 => ?_)
  · refine h_iconst C dX9_image_15 ?_
    refine h_istore_n (lv' := [(2, .int (hpI 0)), (0, .ref (z + 195)), (1, .int (hpI a0))]) C dX9_image_16 rfl (by decide) rfl ?_
    have L3 : ∀ (n3 : Nat) (τ3 : hpMem) (w3_2 : Int), 0 ≤ w3_2 → w3_2 ≤ 2147483647 → hpInv τ3 → (∀ j i : Nat, j ≠ 197 → j ≠ 198 → τ3 j i = σ j i) → (∀ q : Nat, τ3 198 q = σ 198 q) → (4294967296 - w3_2) < (n3 : Int) → hpF p l e rgX9_image s m [.ref (z + 195), .int (hpI a0)] below meth c 3 D cy z (pgX9_image z σ a0) τ3 17 [(0, .ref (z + 195)), (1, .int (hpI a0)), (2, .int (hpI w3_2))] [] := by
      intro n3
      induction n3 with
      | zero => intro τ3 w3_2 hv3_0 hv3_1 hI3 hF3 hM3_0 hm3; exfalso; omega
      | succ n3 ih3 =>
        intro τ3 w3_2 hv3_0 hv3_1 hI3 hF3 hM3_0 hm3
        refine h_iload_n C dX9_image_17 2 rfl rfl ?_
        refine h_bipush C dX9_image_18 (by decide) ?_
        refine h_icmp_ge (tgt := 46) C dX9_image_20 (by decide) ⟨by omega, by omega⟩ ⟨by decide, by decide⟩ (fun h4 => ?_) (fun h4 => ?_)
        · refine h_aload_n C dX9_image_46 0 rfl rfl ?_
          refine h_get C O9 3 kd_195 (by decide) wd_1259 dX9_image_47 fr_195_3 ?_
          refine h_iload_n C dX9_image_50 1 rfl rfl ?_
          refine h_iconst C dX9_image_51 ?_
          refine h_zastore C dX9_image_52 kd_198 (by omega) (a0).toNat (Int.toNat_of_nonneg (by omega)) (by rw [ln_198]; omega) ?_
          obtain ⟨τ5, e5⟩ : ∃ μ : hpMem, μ = hpw τ3 198 ((a0).toNat) 1 := ⟨_, rfl⟩
          rw [← e5]
          have hI5 : hpInv τ5 := by rw [e5]; exact hI3.w (bo_198 _) (by omega) (by omega)
          have hF5 : ∀ j i : Nat, j ≠ 197 → j ≠ 198 → τ5 j i = σ j i := fun j i h_0 h_1 => by rw [e5]; exact (hpw_fr (by omega)).trans (hF3 j i h_0 h_1)
          refine h_iconst C dX9_image_53 ?_
          refine h_ireturn C hr hlk dX9_image_54 ?_
          exact ⟨_, rfl, ⟨by decide, by decide⟩, by omega, hI5, hF5, fun k hk => by by_cases e : (k : Int) = a0; (refine Or.inl ⟨e, ?_⟩; rw [e5, show k = (a0).toNat by omega]; exact hpw_eq); (refine Or.inr ⟨e, ?_⟩; rw [e5, hpw_fr (Or.inr (by omega))]; exact hM3_0 k)⟩
        · refine h_aload_n C dX9_image_23 0 rfl rfl ?_
          refine h_get C O9 2 kd_195 (by decide) wd_1258 dX9_image_24 fr_195_2 ?_
          refine h_bipush C dX9_image_27 (by decide) ?_
          refine h_iload_n C dX9_image_29 1 rfl rfl ?_
          refine h_imul C dX9_image_30 rfl ?_
          refine h_iload_n C dX9_image_31 2 rfl rfl ?_
          refine h_iadd C dX9_image_32 rfl ?_
          refine h_aload_n C dX9_image_33 0 rfl rfl ?_
          refine h_get C O9 1 kd_195 (by decide) wd_1257 dX9_image_34 fr_195_1 ?_
          refine h_iload_n C dX9_image_37 2 rfl rfl ?_
          refine h_iaload C dX9_image_38 kd_196 (w3_2).toNat (Int.toNat_of_nonneg (by omega)) (by rw [ln_196]; omega) rfl ?_
          have hwb6 := hpInv.q196 hI3 ((w3_2).toNat)
          obtain ⟨hr7a, hr7b⟩ := hpInv.r196 hI3 ((w3_2).toNat) 0 46 (0) 2016 (by omega) (by omega) (by decide)
          generalize hg7 : τ3 196 ((w3_2).toNat) = r7 at hr7a hr7b ⊢
          rw [hg7] at hwb6
          refine h_iastore C dX9_image_39 kd_197 ((47 * a0) + w3_2).toNat (Int.toNat_of_nonneg (by omega)) (by rw [ln_197]; omega) ?_
          obtain ⟨τ8, e8⟩ : ∃ μ : hpMem, μ = hpw τ3 197 (((47 * a0) + w3_2).toNat) r7 := ⟨_, rfl⟩
          rw [← e8]
          have hI8 : hpInv τ8 := by rw [e8]; exact hpInv.c197 hI3 (by rw [show ((47 * a0) + w3_2).toNat % 47 = (w3_2).toNat by omega]; exact hwb6)
          have hF8 : ∀ j i : Nat, j ≠ 197 → j ≠ 198 → τ8 j i = σ j i := fun j i h_0 h_1 => by rw [e8]; exact (hpw_fr (by omega)).trans (hF3 j i h_0 h_1)
          have hg9 : τ8 196 ((w3_2).toNat) = r7 := by rw [e8]; exact (hpw_fr (Or.inl (by omega))).trans hg7
          refine h_iinc (lv' := [(2, .int (hpI (w3_2 + 1))), (0, .ref (z + 195)), (1, .int (hpI a0))]) C dX9_image_40 2 rfl rfl (by decide) rfl ?_
          refine h_goto (tgt := 17) C dX9_image_43 (by decide) ?_
          exact hp_sub [1, 2, 0] rfl (ih3 _ (w3_2 + 1) (by omega) (by omega) hI8 hF8 (fun q => by rw [e8, hpw_fr (Or.inl (by decide))]; exact hM3_0 q) (by omega))
    exact hp_sub [1, 2, 0] rfl (L3 8589934592 _ 0 (by omega) (by omega) hI hF0 (fun q => rfl) (by omega))
  · refine h_bipush C dX9_image_12 (by decide) ?_
    refine h_ireturn C hr hlk dX9_image_14 ?_
    exact ⟨_, rfl, ⟨by decide, by decide⟩, by omega, hI, hF0, fun k hk => Or.inr ⟨by omega, rfl⟩⟩
abbrev rgX9_back : Room := { frames := 1, cells := 0, slots := 0, locals := 25 }
abbrev pgX9_back (z : Nat) (σ : hpMem) (a0 : Int) : Option Value → hpMem → Prop := fun r τ => (∃ x : Int, r = some (.int (hpI x)) ∧ (hpR x) ∧ (((a0 < 0 ∨ 2 < a0) ∧ x = -2) ∨ ((0 ≤ a0 ∧ a0 ≤ 2) ∧ ((σ 198 a0.toNat = 0 ∧ x = -6) ∨ (σ 198 a0.toNat ≠ 0 ∧ x = 0))))) ∧ hpInv τ ∧ (∀ j i : Nat, j ≠ 196 → τ j i = σ j i)
set_option maxHeartbeats 4000000 in
set_option maxRecDepth 20000 in
theorem tgX9_back (l : Launch) (D : va_G) (cy : Nat → ClassId) (z : Nat) (σ : hpMem) (a0 : Int) (ha0 : hpR a0) (hI : hpInv σ) : hpM l D cy z yX9_back cX9_back 3 (some .int) rgX9_back [.ref (z + 195), .int (hpI a0)] σ (pgX9_back z σ a0) := by
  obtain ⟨ha01, ha02⟩ := ha0
  refine hp_met rfl (Nat.le_of_ble_eq_true rfl) (fun p e s m below meth c C Z hr hlk => ?_)
  have hF0 : ∀ j i : Nat, j ≠ 196 → σ j i = σ j i := fun j i _ => rfl
  refine h_iload_n C dX9_back_0 1 rfl rfl ?_
  refine h_i2l C dX9_back_1 ⟨by omega, by omega⟩ ?_
  refine h_lconst C 0 dX9_back_2 (by decide) ?_
  refine h_ldc2 C 2 wd_1400 (by decide) dX9_back_3 ?_
  refine h_callS (As := [.long (hpJ a0), .long (hpJ 0), .long (hpJ 2)]) (rest := []) C Z yyX9_in rfl wd_1401 (tgX9_in l D cy z _ a0 ⟨by omega, by omega⟩ 0 ⟨by decide, by decide⟩ 2 ⟨by decide, by decide⟩ hI) rfl rfl ⟨rfl, rfl, Nat.le_of_ble_eq_true rfl, Nat.le_of_ble_eq_true rfl⟩ ⟨Nat.le_of_ble_eq_true rfl, Nat.le_of_ble_eq_true rfl⟩ (Nat.le_of_ble_eq_true rfl) dX9_back_6 (fun r1 τ1 hp1 => ?_)
  obtain ⟨⟨x1, rfl, ⟨hx1a, hx1b⟩, hx1⟩, rfl⟩ := hp1
  show hpV _ _ _ _ _ _ _ _ _ _ _ _ _ _ _ _ _ _ _ _ _ (_ :: _)
  refine h_if_ne (tgt := 15) C dX9_back_9 (by decide) ⟨by omega, by omega⟩ (fun h2 => ?_) (fun h2 => ?_)
  · refine h_aload_n C dX9_back_15 0 rfl rfl ?_
    refine h_get C O9 3 kd_195 (by decide) wd_1259 dX9_back_16 fr_195_3 ?_
    refine h_iload_n C dX9_back_19 1 rfl rfl ?_
    refine h_zaload C dX9_back_20 kd_198 (a0).toNat (Int.toNat_of_nonneg (by omega)) (by rw [ln_198]; omega) rfl ?_
    obtain ⟨hr3a, hr3b⟩ := hI.b (bo_198 _)
    generalize hg3 : σ 198 ((a0).toNat) = r3 at hr3a hr3b ⊢
    refine h_if_ne (tgt := 27) C dX9_back_21 (by decide) ⟨by omega, by omega⟩ (fun h4 => ?_) (fun h4 => ?_)
    · refine h_iconst C dX9_back_27 ?_
      refine h_istore_n (lv' := [(2, .int (hpI 0)), (0, .ref (z + 195)), (1, .int (hpI a0))]) C dX9_back_28 rfl (by decide) rfl ?_
      have L5 : ∀ (n5 : Nat) (τ5 : hpMem) (w5_2 : Int), 0 ≤ w5_2 → w5_2 ≤ 2147483647 → hpInv τ5 → (∀ j i : Nat, j ≠ 196 → τ5 j i = σ j i) → (4294967296 - w5_2) < (n5 : Int) → hpF p l e rgX9_back s m [.ref (z + 195), .int (hpI a0)] below meth c 3 D cy z (pgX9_back z σ a0) τ5 29 [(0, .ref (z + 195)), (1, .int (hpI a0)), (2, .int (hpI w5_2))] [] := by
        intro n5
        induction n5 with
        | zero => intro τ5 w5_2 hv5_0 hv5_1 hI5 hF5 hm5; exfalso; omega
        | succ n5 ih5 =>
          intro τ5 w5_2 hv5_0 hv5_1 hI5 hF5 hm5
          refine h_iload_n C dX9_back_29 2 rfl rfl ?_
          refine h_bipush C dX9_back_30 (by decide) ?_
          refine h_icmp_ge (tgt := 58) C dX9_back_32 (by decide) ⟨by omega, by omega⟩ ⟨by decide, by decide⟩ (fun h6 => ?_) (fun h6 => ?_)
          · refine h_iconst C dX9_back_58 ?_
            refine h_ireturn C hr hlk dX9_back_59 ?_
            exact ⟨⟨_, rfl, ⟨by decide, by decide⟩, by omega⟩, hI5, hF5⟩
          · refine h_aload_n C dX9_back_35 0 rfl rfl ?_
            refine h_get C O9 1 kd_195 (by decide) wd_1257 dX9_back_36 fr_195_1 ?_
            refine h_iload_n C dX9_back_39 2 rfl rfl ?_
            refine h_aload_n C dX9_back_40 0 rfl rfl ?_
            refine h_get C O9 2 kd_195 (by decide) wd_1258 dX9_back_41 fr_195_2 ?_
            refine h_bipush C dX9_back_44 (by decide) ?_
            refine h_iload_n C dX9_back_46 1 rfl rfl ?_
            refine h_imul C dX9_back_47 rfl ?_
            refine h_iload_n C dX9_back_48 2 rfl rfl ?_
            refine h_iadd C dX9_back_49 rfl ?_
            refine h_iaload C dX9_back_50 kd_197 ((47 * a0) + w5_2).toNat (Int.toNat_of_nonneg (by omega)) (by rw [ln_197]; omega) rfl ?_
            have hwb7 := hpInv.q197 hI5 (((47 * a0) + w5_2).toNat)
            obtain ⟨hr8a, hr8b⟩ := hpInv.r197 hI5 _
            generalize hg8 : τ5 197 (((47 * a0) + w5_2).toNat) = r8 at hr8a hr8b ⊢
            rw [hg8] at hwb7
            refine h_iastore C dX9_back_51 kd_196 (w5_2).toNat (Int.toNat_of_nonneg (by omega)) (by rw [ln_196]; omega) ?_
            obtain ⟨τ9, e9⟩ : ∃ μ : hpMem, μ = hpw τ5 196 ((w5_2).toNat) r8 := ⟨_, rfl⟩
            rw [← e9]
            have hI9 : hpInv τ9 := by rw [e9]; exact hpInv.c196 hI5 (by rw [show (w5_2).toNat = ((47 * a0) + w5_2).toNat % 47 by omega]; exact hwb7)
            have hF9 : ∀ j i : Nat, j ≠ 196 → τ9 j i = σ j i := fun j i h_0 => by rw [e9]; exact (hpw_fr (by omega)).trans (hF5 j i h_0)
            have hg10 : τ9 197 (((47 * a0) + w5_2).toNat) = r8 := by rw [e9]; exact (hpw_fr (Or.inl (by omega))).trans hg8
            refine h_iinc (lv' := [(2, .int (hpI (w5_2 + 1))), (0, .ref (z + 195)), (1, .int (hpI a0))]) C dX9_back_52 2 rfl rfl (by decide) rfl ?_
            refine h_goto (tgt := 29) C dX9_back_55 (by decide) ?_
            exact hp_sub [1, 2, 0] rfl (ih5 _ (w5_2 + 1) (by omega) (by omega) hI9 hF9 (by omega))
      exact hp_sub [1, 2, 0] rfl (L5 8589934592 _ 0 (by omega) (by omega) hI hF0 (by omega))
    · refine h_bipush C dX9_back_24 (by decide) ?_
      refine h_ireturn C hr hlk dX9_back_26 ?_
      exact ⟨⟨_, rfl, ⟨by decide, by decide⟩, by omega⟩, hI, hF0⟩
  · refine h_bipush C dX9_back_12 (by decide) ?_
    refine h_ireturn C hr hlk dX9_back_14 ?_
    exact ⟨⟨_, rfl, ⟨by decide, by decide⟩, by omega⟩, hI, hF0⟩

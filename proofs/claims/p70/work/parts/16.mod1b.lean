abbrev rgX9_manyOf : Room := { frames := 0, cells := 0, slots := 0, locals := 0 }
abbrev pgX9_manyOf (z : Nat) (σ : hpMem) (a0 : Int) : Option Value → hpMem → Prop := fun r τ => (∃ x : Int, r = some (.int (hpI x)) ∧ (hpR x) ∧ (x = σ 202 (701 * a0).toNat ∧ 0 ≤ x ∧ x ≤ 700)) ∧ σ = τ
set_option maxHeartbeats 4000000 in
set_option maxRecDepth 20000 in
theorem tgX9_manyOf (l : Launch) (D : va_G) (cy : Nat → ClassId) (z : Nat) (σ : hpMem) (a0 : Int) (ha0 : hpR a0) (hI : hpInv σ) (hr0 : 0 ≤ a0 ∧ a0 ≤ 20) : hpM l D cy z yX9_manyOf cX9_manyOf 2 (some .int) rgX9_manyOf [.ref (z + 195), .int (hpI a0)] σ (pgX9_manyOf z σ a0) := by
  obtain ⟨ha01, ha02⟩ := ha0
  refine hp_met rfl (Nat.le_of_ble_eq_true rfl) (fun p e s m below meth c C Z hr hlk => ?_)
  refine h_aload_n C dX9_manyOf_0 0 rfl rfl ?_
  refine h_get C O9 15 kd_195 (by decide) wd_1271 dX9_manyOf_1 fr_195_15 ?_
  refine h_sipush C dX9_manyOf_4 (by decide) ?_
  refine h_iload_n C dX9_manyOf_7 1 rfl rfl ?_
  refine h_imul C dX9_manyOf_8 rfl ?_
  refine h_iaload C dX9_manyOf_9 kd_202 (701 * a0).toNat (Int.toNat_of_nonneg (by omega)) (by rw [ln_202]; omega) rfl ?_
  obtain ⟨hr1a, hr1b⟩ := hI.b (bh_202 (i := (701 * a0).toNat) (by omega))
  generalize hg1 : σ 202 ((701 * a0).toNat) = r1 at hr1a hr1b ⊢
  refine h_ireturn C hr hlk dX9_manyOf_10 ?_
  exact ⟨⟨_, rfl, ⟨by omega, by omega⟩, by omega⟩, rfl⟩
abbrev rgX9_heightOf : Room := { frames := 0, cells := 0, slots := 0, locals := 0 }
abbrev pgX9_heightOf (z : Nat) (σ : hpMem) (a0 : Int) (a1 : Int) : Option Value → hpMem → Prop := fun r τ => (∃ x : Int, r = some (.int (hpI x)) ∧ (hpR x) ∧ (x = σ 202 (701 * a0 + 1 + a1).toNat)) ∧ σ = τ
set_option maxHeartbeats 4000000 in
set_option maxRecDepth 20000 in
theorem tgX9_heightOf (l : Launch) (D : va_G) (cy : Nat → ClassId) (z : Nat) (σ : hpMem) (a0 : Int) (ha0 : hpR a0) (a1 : Int) (ha1 : hpR a1) (hI : hpInv σ) (hr0 : 0 ≤ a0 ∧ a0 ≤ 20) (hi0 : 0 ≤ a1 ∧ a1 ≤ 699) : hpM l D cy z yX9_heightOf cX9_heightOf 3 (some .int) rgX9_heightOf [.ref (z + 195), .int (hpI a0), .int (hpI a1)] σ (pgX9_heightOf z σ a0 a1) := by
  obtain ⟨ha01, ha02⟩ := ha0
  obtain ⟨ha11, ha12⟩ := ha1
  refine hp_met rfl (Nat.le_of_ble_eq_true rfl) (fun p e s m below meth c C Z hr hlk => ?_)
  refine h_aload_n C dX9_heightOf_0 0 rfl rfl ?_
  refine h_get C O9 15 kd_195 (by decide) wd_1271 dX9_heightOf_1 fr_195_15 ?_
  refine h_sipush C dX9_heightOf_4 (by decide) ?_
  refine h_iload_n C dX9_heightOf_7 1 rfl rfl ?_
  refine h_imul C dX9_heightOf_8 rfl ?_
  refine h_iconst C dX9_heightOf_9 ?_
  refine h_iadd C dX9_heightOf_10 rfl ?_
  refine h_iload_n C dX9_heightOf_11 2 rfl rfl ?_
  refine h_iadd C dX9_heightOf_12 rfl ?_
  refine h_iaload C dX9_heightOf_13 kd_202 (((701 * a0) + 1) + a1).toNat (Int.toNat_of_nonneg (by omega)) (by rw [ln_202]; omega) rfl ?_
  obtain ⟨hr1a, hr1b⟩ := hpInv.r202 hI _
  generalize hg1 : σ 202 ((((701 * a0) + 1) + a1).toNat) = r1 at hr1a hr1b ⊢
  refine h_ireturn C hr hlk dX9_heightOf_14 ?_
  exact ⟨⟨_, rfl, ⟨by omega, by omega⟩, by omega⟩, rfl⟩
abbrev rgX9_empty : Room := { frames := 0, cells := 0, slots := 0, locals := 0 }
abbrev pgX9_empty (z : Nat) (σ : hpMem) (a0 : Int) : Option Value → hpMem → Prop := fun r τ => r = none ∧ hpInv τ ∧ (∀ j i : Nat, (j ≠ 202 ∨ (i : Int) < 701 * a0 ∨ 701 * a0 + 700 < (i : Int)) → τ j i = σ j i) ∧ (τ 202 (701 * a0).toNat = 0)
set_option maxHeartbeats 4000000 in
set_option maxRecDepth 20000 in
theorem tgX9_empty (l : Launch) (D : va_G) (cy : Nat → ClassId) (z : Nat) (σ : hpMem) (a0 : Int) (ha0 : hpR a0) (hI : hpInv σ) (hr0 : 0 ≤ a0 ∧ a0 ≤ 20) : hpM l D cy z yX9_empty cX9_empty 2 none rgX9_empty [.ref (z + 195), .int (hpI a0)] σ (pgX9_empty z σ a0) := by
  obtain ⟨ha01, ha02⟩ := ha0
  refine hp_met rfl (Nat.le_of_ble_eq_true rfl) (fun p e s m below meth c C Z hr hlk => ?_)
  have hF0 : ∀ j i : Nat, (j ≠ 202 ∨ (i : Int) < 701 * a0 ∨ 701 * a0 + 700 < (i : Int)) → σ j i = σ j i := fun j i _ => rfl
  refine h_aload_n C dX9_empty_0 0 rfl rfl ?_
  refine h_get C O9 15 kd_195 (by decide) wd_1271 dX9_empty_1 fr_195_15 ?_
  refine h_sipush C dX9_empty_4 (by decide) ?_
  refine h_iload_n C dX9_empty_7 1 rfl rfl ?_
  refine h_imul C dX9_empty_8 rfl ?_
  refine h_iconst C dX9_empty_9 ?_
  refine h_iastore C dX9_empty_10 kd_202 (701 * a0).toNat (Int.toNat_of_nonneg (by omega)) (by rw [ln_202]; omega) ?_
  obtain ⟨τ1, e1⟩ : ∃ μ : hpMem, μ = hpw σ 202 ((701 * a0).toNat) 0 := ⟨_, rfl⟩
  rw [← e1]
  have hI1 : hpInv τ1 := by rw [e1]; exact hpInv.w202 hI (fun hm => ⟨by omega, by omega⟩) ⟨by omega, by omega⟩
  have hF1 : ∀ j i : Nat, (j ≠ 202 ∨ (i : Int) < 701 * a0 ∨ 701 * a0 + 700 < (i : Int)) → τ1 j i = σ j i := fun j i h_0 => by rw [e1]; exact (hpw_fr (by omega)).trans (hF0 j i h_0)
  refine h_return C hr hlk dX9_empty_11 ?_
  exact ⟨rfl, hI1, hF1, by rw [e1]; exact hpw_eq⟩
abbrev rgX9_copyRow : Room := { frames := 1, cells := 0, slots := 0, locals := 21 }
abbrev pgX9_copyRow (z : Nat) (σ : hpMem) (a0 : Int) (a1 : Int) : Option Value → hpMem → Prop := fun r τ => r = none ∧ hpInv τ ∧ (∀ j i : Nat, (j ≠ 202 ∨ (i : Int) < 701 * a1 ∨ 701 * a1 + 700 < (i : Int)) → τ j i = σ j i) ∧ (∀ M, hpRw (σ 202) a0 M → hpRw (τ 202) a1 M)
set_option maxHeartbeats 4000000 in
set_option maxRecDepth 20000 in
theorem tgX9_copyRow (l : Launch) (D : va_G) (cy : Nat → ClassId) (z : Nat) (σ : hpMem) (a0 : Int) (ha0 : hpR a0) (a1 : Int) (ha1 : hpR a1) (hI : hpInv σ) (hr0 : 0 ≤ a0 ∧ a0 ≤ 20) (hr1 : 0 ≤ a1 ∧ a1 ≤ 20 ∧ a0 ≠ a1) : hpM l D cy z yX9_copyRow cX9_copyRow 4 none rgX9_copyRow [.ref (z + 195), .int (hpI a0), .int (hpI a1)] σ (pgX9_copyRow z σ a0 a1) := by
  obtain ⟨ha01, ha02⟩ := ha0
  obtain ⟨ha11, ha12⟩ := ha1
  refine hp_met rfl (Nat.le_of_ble_eq_true rfl) (fun p e s m below meth c C Z hr hlk => ?_)
  have hF0 : ∀ j i : Nat, (j ≠ 202 ∨ (i : Int) < 701 * a1 ∨ 701 * a1 + 700 < (i : Int)) → σ j i = σ j i := fun j i _ => rfl
  refine h_iconst C dX9_copyRow_0 ?_
  refine h_istore_n (lv' := [(3, .int (hpI 0)), (0, .ref (z + 195)), (1, .int (hpI a0)), (2, .int (hpI a1))]) C dX9_copyRow_1 rfl (by decide) rfl ?_
  have L1 : ∀ (n1 : Nat) (τ1 : hpMem) (w1_3 : Int), 0 ≤ w1_3 → w1_3 ≤ 701 → hpInv τ1 → (∀ j i : Nat, (j ≠ 202 ∨ (i : Int) < 701 * a1 ∨ 701 * a1 + 700 < (i : Int)) → τ1 j i = σ j i) → (∀ q : Nat, (q : Int) < w1_3 → τ1 202 (701 * a1 + (q : Int)).toNat = σ 202 (701 * a0 + (q : Int)).toNat) → (4294967296 - w1_3) < (n1 : Int) → hpF p l e rgX9_copyRow s m [.ref (z + 195), .int (hpI a0), .int (hpI a1)] below meth c 4 D cy z (pgX9_copyRow z σ a0 a1) τ1 2 [(0, .ref (z + 195)), (1, .int (hpI a0)), (2, .int (hpI a1)), (3, .int (hpI w1_3))] [] := by
    intro n1
    induction n1 with
    | zero => intro τ1 w1_3 hv1_0 hv1_1 hI1 hF1 hM1_0 hm1; exfalso; omega
    | succ n1 ih1 =>
      intro τ1 w1_3 hv1_0 hv1_1 hI1 hF1 hM1_0 hm1
      refine h_iload_n C dX9_copyRow_2 3 rfl rfl ?_
      refine h_aload_n C dX9_copyRow_3 0 rfl rfl ?_
      refine h_iload_n C dX9_copyRow_4 1 rfl rfl ?_
      refine h_callV (As := [.int (hpI a0)]) (rest := [.int (hpI w1_3)]) C Z yyX9_manyOf wd_1536 (tgX9_manyOf l D cy z _ a0 ⟨by omega, by omega⟩ hI1 (by omega)) kd_195 rfl rfl ⟨rfl, rfl, Nat.le_of_ble_eq_true rfl, Nat.le_of_ble_eq_true rfl⟩ ⟨Nat.le_of_ble_eq_true rfl, Nat.le_of_ble_eq_true rfl⟩ (Nat.le_of_ble_eq_true rfl) dX9_copyRow_5 (fun r2 τ2 hp2 => ?_)
      obtain ⟨⟨x2, rfl, ⟨hx2a, hx2b⟩, hx2⟩, rfl⟩ := hp2
      show hpV _ _ _ _ _ _ _ _ _ _ _ _ _ _ _ _ _ _ _ _ _ (_ :: _)
      refine h_icmp_gt (tgt := 41) C dX9_copyRow_8 (by decide) ⟨by omega, by omega⟩ ⟨by omega, by omega⟩ (fun h3 => ?_) (fun h3 => ?_)
      · refine h_return C hr hlk dX9_copyRow_41 ?_
        exact ⟨rfl, hI1, hF1, fun M hM => hM.copy (fun q hq => hM1_0 q (by have q1 := hM.1; have q2 := hF1 202 (701 * a0).toNat (by omega); omega))⟩
      · refine h_aload_n C dX9_copyRow_11 0 rfl rfl ?_
        refine h_get C O9 15 kd_195 (by decide) wd_1271 dX9_copyRow_12 fr_195_15 ?_
        refine h_sipush C dX9_copyRow_15 (by decide) ?_
        refine h_iload_n C dX9_copyRow_18 2 rfl rfl ?_
        refine h_imul C dX9_copyRow_19 rfl ?_
        refine h_iload_n C dX9_copyRow_20 3 rfl rfl ?_
        refine h_iadd C dX9_copyRow_21 rfl ?_
        refine h_aload_n C dX9_copyRow_22 0 rfl rfl ?_
        refine h_get C O9 15 kd_195 (by decide) wd_1271 dX9_copyRow_23 fr_195_15 ?_
        refine h_sipush C dX9_copyRow_26 (by decide) ?_
        refine h_iload_n C dX9_copyRow_29 1 rfl rfl ?_
        refine h_imul C dX9_copyRow_30 rfl ?_
        refine h_iload_n C dX9_copyRow_31 3 rfl rfl ?_
        refine h_iadd C dX9_copyRow_32 rfl ?_
        refine h_iaload C dX9_copyRow_33 kd_202 ((701 * a0) + w1_3).toNat (Int.toNat_of_nonneg (by omega)) (by rw [ln_202]; omega) rfl ?_
        obtain ⟨hr4a, hr4b⟩ := hpInv.r202 hI1 _
        generalize hg4 : τ1 202 (((701 * a0) + w1_3).toNat) = r4 at hr4a hr4b ⊢
        have hc4 := hpInv.h202 hI1 (((701 * a0) + w1_3).toNat)
        rw [hg4] at hc4
        refine h_iastore C dX9_copyRow_34 kd_202 ((701 * a1) + w1_3).toNat (Int.toNat_of_nonneg (by omega)) (by rw [ln_202]; omega) ?_
        obtain ⟨τ5, e5⟩ : ∃ μ : hpMem, μ = hpw τ1 202 (((701 * a1) + w1_3).toNat) r4 := ⟨_, rfl⟩
        rw [← e5]
        have hI5 : hpInv τ5 := by rw [e5]; exact hpInv.w202 hI1 (fun hm => ⟨by omega, by omega⟩) ⟨by omega, by omega⟩
        have hF5 : ∀ j i : Nat, (j ≠ 202 ∨ (i : Int) < 701 * a1 ∨ 701 * a1 + 700 < (i : Int)) → τ5 j i = σ j i := fun j i h_0 => by rw [e5]; exact (hpw_fr (by omega)).trans (hF1 j i h_0)
        refine h_iinc (lv' := [(3, .int (hpI (w1_3 + 1))), (0, .ref (z + 195)), (1, .int (hpI a0)), (2, .int (hpI a1))]) C dX9_copyRow_35 3 rfl rfl (by decide) rfl ?_
        refine h_goto (tgt := 2) C dX9_copyRow_38 (by decide) ?_
        exact hp_sub [1, 2, 3, 0] rfl (ih1 _ (w1_3 + 1) (by omega) (by omega) hI5 hF5 (fun q hq => by rw [e5]; by_cases eq : (q : Int) = w1_3; (rw [eq, hpw_eq, ← hF1 202 (701 * a0 + w1_3).toNat (by omega)]; omega); (rw [hpw_fr (by omega)]; exact hM1_0 q (by omega))) (by omega))
  exact hp_sub [1, 2, 3, 0] rfl (L1 8589934592 _ 0 (by omega) (by omega) hI hF0 (fun q hq => by exfalso; omega) (by omega))
abbrev rgX9_lay : Room := { frames := 1, cells := 0, slots := 0, locals := 22 }
abbrev pgX9_lay (z : Nat) (σ : hpMem) (a0 : Int) (a1 : Int) : Option Value → hpMem → Prop := fun r τ => r = none ∧ hpInv τ ∧ (∀ j i : Nat, (j ≠ 202 ∨ (i : Int) < 701 * a0 ∨ 701 * a0 + 700 < (i : Int)) → τ j i = σ j i) ∧ (∀ M, hpRw (σ 202) a0 M → hpRw (τ 202) a0 (hpLy a1.toNat M))
set_option maxHeartbeats 4000000 in
set_option maxRecDepth 20000 in
theorem tgX9_lay (l : Launch) (D : va_G) (cy : Nat → ClassId) (z : Nat) (σ : hpMem) (a0 : Int) (ha0 : hpR a0) (a1 : Int) (ha1 : hpR a1) (hI : hpInv σ) (hr0 : 0 ≤ a0 ∧ a0 ≤ 20) (ht0 : 0 ≤ a1 ∧ (a1 = 0 ∨ σ 202 (701 * a0).toNat ≤ 699)) : hpM l D cy z yX9_lay cX9_lay 4 none rgX9_lay [.ref (z + 195), .int (hpI a0), .int (hpI a1)] σ (pgX9_lay z σ a0 a1) := by
  obtain ⟨ha01, ha02⟩ := ha0
  obtain ⟨ha11, ha12⟩ := ha1
  refine hp_met rfl (Nat.le_of_ble_eq_true rfl) (fun p e s m below meth c C Z hr hlk => ?_)
  have hF0 : ∀ j i : Nat, (j ≠ 202 ∨ (i : Int) < 701 * a0 ∨ 701 * a0 + 700 < (i : Int)) → σ j i = σ j i := fun j i _ => rfl
  refine h_iload_n C dX9_lay_0 2 rfl rfl ?_
  refine h_if_ne (tgt := 5) C dX9_lay_1 (by decide) ⟨by omega, by omega⟩ (fun h1 => ?_) (fun h1 => ?_)
  · refine h_aload_n C dX9_lay_5 0 rfl rfl ?_
    refine h_iload_n C dX9_lay_6 1 rfl rfl ?_
    refine h_callV (As := [.int (hpI a0)]) (rest := []) C Z yyX9_manyOf wd_1536 (tgX9_manyOf l D cy z _ a0 ⟨by omega, by omega⟩ hI (by omega)) kd_195 rfl rfl ⟨rfl, rfl, Nat.le_of_ble_eq_true rfl, Nat.le_of_ble_eq_true rfl⟩ ⟨Nat.le_of_ble_eq_true rfl, Nat.le_of_ble_eq_true rfl⟩ (Nat.le_of_ble_eq_true rfl) dX9_lay_7 (fun r2 τ2 hp2 => ?_)
    obtain ⟨⟨x2, rfl, ⟨hx2a, hx2b⟩, hx2⟩, rfl⟩ := hp2
    show hpV _ _ _ _ _ _ _ _ _ _ _ _ _ _ _ _ _ _ _ _ _ (_ :: _)
    refine h_istore_n (lv' := [(3, .int (hpI x2)), (0, .ref (z + 195)), (1, .int (hpI a0)), (2, .int (hpI a1))]) C dX9_lay_10 rfl (by decide) rfl ?_
    have L3 : ∀ (n3 : Nat) (τ3 : hpMem) (w3_3 : Int), 0 ≤ w3_3 → w3_3 ≤ 699 → hpInv τ3 → (∀ j i : Nat, (j ≠ 202 ∨ (i : Int) < 701 * a0 ∨ 701 * a0 + 700 < (i : Int)) → τ3 j i = σ j i) → (hpLI (σ 202) (τ3 202) a0 w3_3 a1) → (w3_3 + 4294967296) < (n3 : Int) → hpF p l e rgX9_lay s m [.ref (z + 195), .int (hpI a0), .int (hpI a1)] below meth c 4 D cy z (pgX9_lay z σ a0 a1) τ3 11 [(0, .ref (z + 195)), (1, .int (hpI a0)), (2, .int (hpI a1)), (3, .int (hpI w3_3))] [] := by
      intro n3
      induction n3 with
      | zero => intro τ3 w3_3 hv3_0 hv3_1 hI3 hF3 hM3_0 hm3; exfalso; omega
      | succ n3 ih3 =>
        intro τ3 w3_3 hv3_0 hv3_1 hI3 hF3 hM3_0 hm3
        refine h_iload_n C dX9_lay_11 3 rfl rfl ?_
        refine h_if_le (tgt := 55) C dX9_lay_12 (by decide) ⟨by omega, by omega⟩ (fun h4 => ?_) (fun h4 => ?_)
        · refine h_aload_n C dX9_lay_55 0 rfl rfl ?_
          refine h_get C O9 15 kd_195 (by decide) wd_1271 dX9_lay_56 fr_195_15 ?_
          refine h_sipush C dX9_lay_59 (by decide) ?_
          refine h_iload_n C dX9_lay_62 1 rfl rfl ?_
          refine h_imul C dX9_lay_63 rfl ?_
          refine h_iconst C dX9_lay_64 ?_
          refine h_iadd C dX9_lay_65 rfl ?_
          refine h_iload_n C dX9_lay_66 3 rfl rfl ?_
          refine h_iadd C dX9_lay_67 rfl ?_
          refine h_iload_n C dX9_lay_68 2 rfl rfl ?_
          refine h_iastore C dX9_lay_69 kd_202 (((701 * a0) + 1) + w3_3).toNat (Int.toNat_of_nonneg (by omega)) (by rw [ln_202]; omega) ?_
          obtain ⟨τ5, e5⟩ : ∃ μ : hpMem, μ = hpw τ3 202 ((((701 * a0) + 1) + w3_3).toNat) a1 := ⟨_, rfl⟩
          rw [← e5]
          have hI5 : hpInv τ5 := by rw [e5]; exact hpInv.w202 hI3 (fun hm => ⟨by omega, by omega⟩) ⟨by omega, by omega⟩
          have hF5 : ∀ j i : Nat, (j ≠ 202 ∨ (i : Int) < 701 * a0 ∨ 701 * a0 + 700 < (i : Int)) → τ5 j i = σ j i := fun j i h_0 => by rw [e5]; exact (hpw_fr (by omega)).trans (hF3 j i h_0)
          refine h_aload_n C dX9_lay_70 0 rfl rfl ?_
          refine h_get C O9 15 kd_195 (by decide) wd_1271 dX9_lay_71 fr_195_15 ?_
          refine h_sipush C dX9_lay_74 (by decide) ?_
          refine h_iload_n C dX9_lay_77 1 rfl rfl ?_
          refine h_imul C dX9_lay_78 rfl ?_
          refine h_dup2 C rfl rfl dX9_lay_79 ?_
          refine h_iaload C dX9_lay_80 kd_202 (701 * a0).toNat (Int.toNat_of_nonneg (by omega)) (by rw [ln_202]; omega) rfl ?_
          obtain ⟨hr6a, hr6b⟩ := hI5.b (bh_202 (i := (701 * a0).toNat) (by omega))
          generalize hg6 : τ5 202 ((701 * a0).toNat) = r6 at hr6a hr6b ⊢
          refine h_iconst C dX9_lay_81 ?_
          refine h_iadd C dX9_lay_82 rfl ?_
          have q81 := hM3_0.1
          have q82 : τ5 202 (701 * a0).toNat = τ3 202 (701 * a0).toNat := by rw [e5]; exact hpw_fr (Or.inr (by omega))
          refine h_iastore C dX9_lay_83 kd_202 (701 * a0).toNat (Int.toNat_of_nonneg (by omega)) (by rw [ln_202]; omega) ?_
          obtain ⟨τ7, e7⟩ : ∃ μ : hpMem, μ = hpw τ5 202 ((701 * a0).toNat) (r6 + 1) := ⟨_, rfl⟩
          rw [← e7]
          have hI7 : hpInv τ7 := by rw [e7]; exact hpInv.w202 hI5 (fun hm => ⟨by omega, by omega⟩) ⟨by omega, by omega⟩
          have hF7 : ∀ j i : Nat, (j ≠ 202 ∨ (i : Int) < 701 * a0 ∨ 701 * a0 + 700 < (i : Int)) → τ7 j i = σ j i := fun j i h_0 => by rw [e7]; exact (hpw_fr (by omega)).trans (hF5 j i h_0)
          refine h_return C hr hlk dX9_lay_84 ?_
          exact ⟨rfl, hI7, hF7, fun M hM => by have q := hM3_0.1; have q3 : τ5 202 (701 * a0).toNat = τ3 202 (701 * a0).toNat := (by rw [e5]; exact hpw_fr (Or.inr (by omega))); rw [show hpLy a1.toNat M = hpIn a1.toNat M from if_neg (by omega), e7, hpw_row, e5, hpw_row]; exact hpLI_f hM3_0 (by omega) (by omega) (by omega) (by omega) (by omega) hM⟩
        · refine h_aload_n C dX9_lay_15 0 rfl rfl ?_
          refine h_iload_n C dX9_lay_16 1 rfl rfl ?_
          refine h_iload_n C dX9_lay_17 3 rfl rfl ?_
          refine h_iconst C dX9_lay_18 ?_
          refine h_isub C dX9_lay_19 rfl ?_
          refine h_callV (As := [.int (hpI a0), .int (hpI (w3_3 - 1))]) (rest := []) C Z yyX9_heightOf wd_1540 (tgX9_heightOf l D cy z _ a0 ⟨by omega, by omega⟩ (w3_3 - 1) ⟨by omega, by omega⟩ hI3 (by omega) (by omega)) kd_195 rfl rfl ⟨rfl, rfl, Nat.le_of_ble_eq_true rfl, Nat.le_of_ble_eq_true rfl⟩ ⟨Nat.le_of_ble_eq_true rfl, Nat.le_of_ble_eq_true rfl⟩ (Nat.le_of_ble_eq_true rfl) dX9_lay_20 (fun r8 τ8 hp8 => ?_)
          obtain ⟨⟨x8, rfl, ⟨hx8a, hx8b⟩, hx8⟩, rfl⟩ := hp8
          show hpV _ _ _ _ _ _ _ _ _ _ _ _ _ _ _ _ _ _ _ _ _ (_ :: _)
          refine h_iload_n C dX9_lay_23 2 rfl rfl ?_
          refine h_icmp_ge (tgt := 55) C dX9_lay_24 (by decide) ⟨by omega, by omega⟩ ⟨by omega, by omega⟩ (fun h9 => ?_) (fun h9 => ?_)
          · refine h_aload_n C dX9_lay_55 0 rfl rfl ?_
            refine h_get C O9 15 kd_195 (by decide) wd_1271 dX9_lay_56 fr_195_15 ?_
            refine h_sipush C dX9_lay_59 (by decide) ?_
            refine h_iload_n C dX9_lay_62 1 rfl rfl ?_
            refine h_imul C dX9_lay_63 rfl ?_
            refine h_iconst C dX9_lay_64 ?_
            refine h_iadd C dX9_lay_65 rfl ?_
            refine h_iload_n C dX9_lay_66 3 rfl rfl ?_
            refine h_iadd C dX9_lay_67 rfl ?_
            refine h_iload_n C dX9_lay_68 2 rfl rfl ?_
            refine h_iastore C dX9_lay_69 kd_202 (((701 * a0) + 1) + w3_3).toNat (Int.toNat_of_nonneg (by omega)) (by rw [ln_202]; omega) ?_
            obtain ⟨τ10, e10⟩ : ∃ μ : hpMem, μ = hpw τ3 202 ((((701 * a0) + 1) + w3_3).toNat) a1 := ⟨_, rfl⟩
            rw [← e10]
            have hI10 : hpInv τ10 := by rw [e10]; exact hpInv.w202 hI3 (fun hm => ⟨by omega, by omega⟩) ⟨by omega, by omega⟩
            have hF10 : ∀ j i : Nat, (j ≠ 202 ∨ (i : Int) < 701 * a0 ∨ 701 * a0 + 700 < (i : Int)) → τ10 j i = σ j i := fun j i h_0 => by rw [e10]; exact (hpw_fr (by omega)).trans (hF3 j i h_0)
            refine h_aload_n C dX9_lay_70 0 rfl rfl ?_
            refine h_get C O9 15 kd_195 (by decide) wd_1271 dX9_lay_71 fr_195_15 ?_
            refine h_sipush C dX9_lay_74 (by decide) ?_
            refine h_iload_n C dX9_lay_77 1 rfl rfl ?_
            refine h_imul C dX9_lay_78 rfl ?_
            refine h_dup2 C rfl rfl dX9_lay_79 ?_
            refine h_iaload C dX9_lay_80 kd_202 (701 * a0).toNat (Int.toNat_of_nonneg (by omega)) (by rw [ln_202]; omega) rfl ?_
            obtain ⟨hr11a, hr11b⟩ := hI10.b (bh_202 (i := (701 * a0).toNat) (by omega))
            generalize hg11 : τ10 202 ((701 * a0).toNat) = r11 at hr11a hr11b ⊢
            refine h_iconst C dX9_lay_81 ?_
            refine h_iadd C dX9_lay_82 rfl ?_
            have q81 := hM3_0.1
            have q82 : τ10 202 (701 * a0).toNat = τ3 202 (701 * a0).toNat := by rw [e10]; exact hpw_fr (Or.inr (by omega))
            refine h_iastore C dX9_lay_83 kd_202 (701 * a0).toNat (Int.toNat_of_nonneg (by omega)) (by rw [ln_202]; omega) ?_
            obtain ⟨τ12, e12⟩ : ∃ μ : hpMem, μ = hpw τ10 202 ((701 * a0).toNat) (r11 + 1) := ⟨_, rfl⟩
            rw [← e12]
            have hI12 : hpInv τ12 := by rw [e12]; exact hpInv.w202 hI10 (fun hm => ⟨by omega, by omega⟩) ⟨by omega, by omega⟩
            have hF12 : ∀ j i : Nat, (j ≠ 202 ∨ (i : Int) < 701 * a0 ∨ 701 * a0 + 700 < (i : Int)) → τ12 j i = σ j i := fun j i h_0 => by rw [e12]; exact (hpw_fr (by omega)).trans (hF10 j i h_0)
            refine h_return C hr hlk dX9_lay_84 ?_
            exact ⟨rfl, hI12, hF12, fun M hM => by have q := hM3_0.1; have q3 : τ10 202 (701 * a0).toNat = τ3 202 (701 * a0).toNat := (by rw [e10]; exact hpw_fr (Or.inr (by omega))); rw [show hpLy a1.toNat M = hpIn a1.toNat M from if_neg (by omega), e12, hpw_row, e10, hpw_row]; exact hpLI_f hM3_0 (by omega) (by omega) (by omega) (by omega) (by omega) hM⟩
          · refine h_aload_n C dX9_lay_27 0 rfl rfl ?_
            refine h_get C O9 15 kd_195 (by decide) wd_1271 dX9_lay_28 fr_195_15 ?_
            refine h_sipush C dX9_lay_31 (by decide) ?_
            refine h_iload_n C dX9_lay_34 1 rfl rfl ?_
            refine h_imul C dX9_lay_35 rfl ?_
            refine h_iconst C dX9_lay_36 ?_
            refine h_iadd C dX9_lay_37 rfl ?_
            refine h_iload_n C dX9_lay_38 3 rfl rfl ?_
            refine h_iadd C dX9_lay_39 rfl ?_
            refine h_aload_n C dX9_lay_40 0 rfl rfl ?_
            refine h_iload_n C dX9_lay_41 1 rfl rfl ?_
            refine h_iload_n C dX9_lay_42 3 rfl rfl ?_
            refine h_iconst C dX9_lay_43 ?_
            refine h_isub C dX9_lay_44 rfl ?_
            refine h_callV (As := [.int (hpI a0), .int (hpI (w3_3 - 1))]) (rest := [.int (hpI (((701 * a0) + 1) + w3_3)), .ref (z + 202)]) C Z yyX9_heightOf wd_1540 (tgX9_heightOf l D cy z _ a0 ⟨by omega, by omega⟩ (w3_3 - 1) ⟨by omega, by omega⟩ hI3 (by omega) (by omega)) kd_195 rfl rfl ⟨rfl, rfl, Nat.le_of_ble_eq_true rfl, Nat.le_of_ble_eq_true rfl⟩ ⟨Nat.le_of_ble_eq_true rfl, Nat.le_of_ble_eq_true rfl⟩ (Nat.le_of_ble_eq_true rfl) dX9_lay_45 (fun r13 τ13 hp13 => ?_)
            obtain ⟨⟨x13, rfl, ⟨hx13a, hx13b⟩, hx13⟩, rfl⟩ := hp13
            show hpV _ _ _ _ _ _ _ _ _ _ _ _ _ _ _ _ _ _ _ _ _ (_ :: _)
            refine h_iastore C dX9_lay_48 kd_202 (((701 * a0) + 1) + w3_3).toNat (Int.toNat_of_nonneg (by omega)) (by rw [ln_202]; omega) ?_
            obtain ⟨τ14, e14⟩ : ∃ μ : hpMem, μ = hpw τ3 202 ((((701 * a0) + 1) + w3_3).toNat) x13 := ⟨_, rfl⟩
            rw [← e14]
            have hI14 : hpInv τ14 := by rw [e14]; exact hpInv.w202 hI3 (fun hm => ⟨by omega, by omega⟩) ⟨by omega, by omega⟩
            have hF14 : ∀ j i : Nat, (j ≠ 202 ∨ (i : Int) < 701 * a0 ∨ 701 * a0 + 700 < (i : Int)) → τ14 j i = σ j i := fun j i h_0 => by rw [e14]; exact (hpw_fr (by omega)).trans (hF3 j i h_0)
            refine h_iinc (lv' := [(3, .int (hpI (w3_3 + (-1)))), (0, .ref (z + 195)), (1, .int (hpI a0)), (2, .int (hpI a1))]) C dX9_lay_49 3 rfl rfl (by decide) rfl ?_
            refine h_goto (tgt := 11) C dX9_lay_52 (by decide) ?_
            exact hp_sub [1, 2, 3, 0] rfl (ih3 _ (w3_3 + (-1)) (by omega) (by omega) hI14 hF14 (by rw [e14, hpw_row]; exact hpLI_s hM3_0 (by omega) (by omega) (by omega) (by omega) (by omega)) (by omega))
    exact hp_sub [1, 2, 3, 0] rfl (L3 8589934592 _ x2 (by omega) (by omega) hI hF0 (hpLI_0 (by omega)) (by omega))
  · refine h_return C hr hlk dX9_lay_4 ?_
    exact ⟨rfl, hI, hF0, fun M hM => by rw [show a1.toNat = 0 by omega]; exact hM⟩
abbrev rgX9_takeHighest : Room := { frames := 1, cells := 0, slots := 0, locals := 22 }
abbrev pgX9_takeHighest (z : Nat) (σ : hpMem) (a0 : Int) : Option Value → hpMem → Prop := fun r τ => r = none ∧ hpInv τ ∧ (∀ j i : Nat, (j ≠ 202 ∨ (i : Int) < 701 * a0 ∨ 701 * a0 + 700 < (i : Int)) → τ j i = σ j i) ∧ (∀ M, hpRw (σ 202) a0 M → hpRw (τ 202) a0 M.tail)
set_option maxHeartbeats 4000000 in
set_option maxRecDepth 20000 in
theorem tgX9_takeHighest (l : Launch) (D : va_G) (cy : Nat → ClassId) (z : Nat) (σ : hpMem) (a0 : Int) (ha0 : hpR a0) (hI : hpInv σ) (hr0 : 0 ≤ a0 ∧ a0 ≤ 20) : hpM l D cy z yX9_takeHighest cX9_takeHighest 3 none rgX9_takeHighest [.ref (z + 195), .int (hpI a0)] σ (pgX9_takeHighest z σ a0) := by
  obtain ⟨ha01, ha02⟩ := ha0
  refine hp_met rfl (Nat.le_of_ble_eq_true rfl) (fun p e s m below meth c C Z hr hlk => ?_)
  have hF0 : ∀ j i : Nat, (j ≠ 202 ∨ (i : Int) < 701 * a0 ∨ 701 * a0 + 700 < (i : Int)) → σ j i = σ j i := fun j i _ => rfl
  refine h_aload_n C dX9_takeHighest_0 0 rfl rfl ?_
  refine h_iload_n C dX9_takeHighest_1 1 rfl rfl ?_
  refine h_callV (As := [.int (hpI a0)]) (rest := []) C Z yyX9_manyOf wd_1536 (tgX9_manyOf l D cy z _ a0 ⟨by omega, by omega⟩ hI (by omega)) kd_195 rfl rfl ⟨rfl, rfl, Nat.le_of_ble_eq_true rfl, Nat.le_of_ble_eq_true rfl⟩ ⟨Nat.le_of_ble_eq_true rfl, Nat.le_of_ble_eq_true rfl⟩ (Nat.le_of_ble_eq_true rfl) dX9_takeHighest_2 (fun r1 τ1 hp1 => ?_)
  obtain ⟨⟨x1, rfl, ⟨hx1a, hx1b⟩, hx1⟩, rfl⟩ := hp1
  show hpV _ _ _ _ _ _ _ _ _ _ _ _ _ _ _ _ _ _ _ _ _ (_ :: _)
  refine h_if_ne (tgt := 9) C dX9_takeHighest_5 (by decide) ⟨by omega, by omega⟩ (fun h2 => ?_) (fun h2 => ?_)
  · refine h_aload_n C dX9_takeHighest_9 0 rfl rfl ?_
    refine h_get C O9 15 kd_195 (by decide) wd_1271 dX9_takeHighest_10 fr_195_15 ?_
    refine h_sipush C dX9_takeHighest_13 (by decide) ?_
    refine h_iload_n C dX9_takeHighest_16 1 rfl rfl ?_
    refine h_imul C dX9_takeHighest_17 rfl ?_
    refine h_dup2 C rfl rfl dX9_takeHighest_18 ?_
    refine h_iaload C dX9_takeHighest_19 kd_202 (701 * a0).toNat (Int.toNat_of_nonneg (by omega)) (by rw [ln_202]; omega) rfl ?_
    obtain ⟨hr3a, hr3b⟩ := hI.b (bh_202 (i := (701 * a0).toNat) (by omega))
    generalize hg3 : σ 202 ((701 * a0).toNat) = r3 at hr3a hr3b ⊢
    refine h_iconst C dX9_takeHighest_20 ?_
    refine h_isub C dX9_takeHighest_21 rfl ?_
    refine h_iastore C dX9_takeHighest_22 kd_202 (701 * a0).toNat (Int.toNat_of_nonneg (by omega)) (by rw [ln_202]; omega) ?_
    obtain ⟨τ4, e4⟩ : ∃ μ : hpMem, μ = hpw σ 202 ((701 * a0).toNat) (r3 - 1) := ⟨_, rfl⟩
    rw [← e4]
    have hI4 : hpInv τ4 := by rw [e4]; exact hpInv.w202 hI (fun hm => ⟨by omega, by omega⟩) ⟨by omega, by omega⟩
    have hF4 : ∀ j i : Nat, (j ≠ 202 ∨ (i : Int) < 701 * a0 ∨ 701 * a0 + 700 < (i : Int)) → τ4 j i = σ j i := fun j i h_0 => by rw [e4]; exact (hpw_fr (by omega)).trans (hF0 j i h_0)
    refine h_iconst C dX9_takeHighest_23 ?_
    refine h_istore_n (lv' := [(2, .int (hpI 0)), (0, .ref (z + 195)), (1, .int (hpI a0))]) C dX9_takeHighest_24 rfl (by decide) rfl ?_
    have L5 : ∀ (n5 : Nat) (τ5 : hpMem) (w5_2 : Int), 0 ≤ w5_2 → w5_2 ≤ 700 → hpInv τ5 → (∀ j i : Nat, (j ≠ 202 ∨ (i : Int) < 701 * a0 ∨ 701 * a0 + 700 < (i : Int)) → τ5 j i = σ j i) → (hpTI (σ 202) (τ5 202) a0 w5_2) → (4294967296 - w5_2) < (n5 : Int) → hpF p l e rgX9_takeHighest s m [.ref (z + 195), .int (hpI a0)] below meth c 3 D cy z (pgX9_takeHighest z σ a0) τ5 25 [(0, .ref (z + 195)), (1, .int (hpI a0)), (2, .int (hpI w5_2))] [] := by
      intro n5
      induction n5 with
      | zero => intro τ5 w5_2 hv5_0 hv5_1 hI5 hF5 hM5_0 hm5; exfalso; omega
      | succ n5 ih5 =>
        intro τ5 w5_2 hv5_0 hv5_1 hI5 hF5 hM5_0 hm5
        refine h_iload_n C dX9_takeHighest_25 2 rfl rfl ?_
        refine h_aload_n C dX9_takeHighest_26 0 rfl rfl ?_
        refine h_iload_n C dX9_takeHighest_27 1 rfl rfl ?_
        refine h_callV (As := [.int (hpI a0)]) (rest := [.int (hpI w5_2)]) C Z yyX9_manyOf wd_1536 (tgX9_manyOf l D cy z _ a0 ⟨by omega, by omega⟩ hI5 (by omega)) kd_195 rfl rfl ⟨rfl, rfl, Nat.le_of_ble_eq_true rfl, Nat.le_of_ble_eq_true rfl⟩ ⟨Nat.le_of_ble_eq_true rfl, Nat.le_of_ble_eq_true rfl⟩ (Nat.le_of_ble_eq_true rfl) dX9_takeHighest_28 (fun r6 τ6 hp6 => ?_)
        obtain ⟨⟨x6, rfl, ⟨hx6a, hx6b⟩, hx6⟩, rfl⟩ := hp6
        show hpV _ _ _ _ _ _ _ _ _ _ _ _ _ _ _ _ _ _ _ _ _ (_ :: _)
        refine h_icmp_ge (tgt := 62) C dX9_takeHighest_31 (by decide) ⟨by omega, by omega⟩ ⟨by omega, by omega⟩ (fun h7 => ?_) (fun h7 => ?_)
        · refine h_return C hr hlk dX9_takeHighest_62 ?_
          exact ⟨rfl, hI5, hF5, fun M hM => hpTI_f hM5_0 (by omega) (by omega) hM⟩
        · refine h_aload_n C dX9_takeHighest_34 0 rfl rfl ?_
          refine h_get C O9 15 kd_195 (by decide) wd_1271 dX9_takeHighest_35 fr_195_15 ?_
          refine h_sipush C dX9_takeHighest_38 (by decide) ?_
          refine h_iload_n C dX9_takeHighest_41 1 rfl rfl ?_
          refine h_imul C dX9_takeHighest_42 rfl ?_
          refine h_iconst C dX9_takeHighest_43 ?_
          refine h_iadd C dX9_takeHighest_44 rfl ?_
          refine h_iload_n C dX9_takeHighest_45 2 rfl rfl ?_
          refine h_iadd C dX9_takeHighest_46 rfl ?_
          refine h_aload_n C dX9_takeHighest_47 0 rfl rfl ?_
          have hq47 := hM5_0.1
          refine h_iload_n C dX9_takeHighest_48 1 rfl rfl ?_
          refine h_iload_n C dX9_takeHighest_49 2 rfl rfl ?_
          refine h_iconst C dX9_takeHighest_50 ?_
          refine h_iadd C dX9_takeHighest_51 rfl ?_
          refine h_callV (As := [.int (hpI a0), .int (hpI (w5_2 + 1))]) (rest := [.int (hpI (((701 * a0) + 1) + w5_2)), .ref (z + 202)]) C Z yyX9_heightOf wd_1540 (tgX9_heightOf l D cy z _ a0 ⟨by omega, by omega⟩ (w5_2 + 1) ⟨by omega, by omega⟩ hI5 (by omega) (by omega)) kd_195 rfl rfl ⟨rfl, rfl, Nat.le_of_ble_eq_true rfl, Nat.le_of_ble_eq_true rfl⟩ ⟨Nat.le_of_ble_eq_true rfl, Nat.le_of_ble_eq_true rfl⟩ (Nat.le_of_ble_eq_true rfl) dX9_takeHighest_52 (fun r8 τ8 hp8 => ?_)
          obtain ⟨⟨x8, rfl, ⟨hx8a, hx8b⟩, hx8⟩, rfl⟩ := hp8
          show hpV _ _ _ _ _ _ _ _ _ _ _ _ _ _ _ _ _ _ _ _ _ (_ :: _)
          refine h_iastore C dX9_takeHighest_55 kd_202 (((701 * a0) + 1) + w5_2).toNat (Int.toNat_of_nonneg (by omega)) (by rw [ln_202]; omega) ?_
          obtain ⟨τ9, e9⟩ : ∃ μ : hpMem, μ = hpw τ5 202 ((((701 * a0) + 1) + w5_2).toNat) x8 := ⟨_, rfl⟩
          rw [← e9]
          have hI9 : hpInv τ9 := by rw [e9]; exact hpInv.w202 hI5 (fun hm => ⟨by omega, by omega⟩) ⟨by omega, by omega⟩
          have hF9 : ∀ j i : Nat, (j ≠ 202 ∨ (i : Int) < 701 * a0 ∨ 701 * a0 + 700 < (i : Int)) → τ9 j i = σ j i := fun j i h_0 => by rw [e9]; exact (hpw_fr (by omega)).trans (hF5 j i h_0)
          refine h_iinc (lv' := [(2, .int (hpI (w5_2 + 1))), (0, .ref (z + 195)), (1, .int (hpI a0))]) C dX9_takeHighest_56 2 rfl rfl (by decide) rfl ?_
          refine h_goto (tgt := 25) C dX9_takeHighest_59 (by decide) ?_
          exact hp_sub [1, 2, 0] rfl (ih5 _ (w5_2 + 1) (by omega) (by omega) hI9 hF9 (by rw [e9, hpw_row]; exact hpTI_s hM5_0 (by omega) (by omega) (by omega)) (by omega))
    exact hp_sub [1, 2, 0] rfl (L5 8589934592 _ 0 (by omega) (by omega) hI4 hF4 (by rw [e4, hpw_row]; exact hpTI_0 (by omega) (by omega)) (by omega))
  · refine h_return C hr hlk dX9_takeHighest_8 ?_
    exact ⟨rfl, hI, hF0, fun M hM => by cases M with | nil => exact hM | cons a l => exfalso; have q := hM.1; rw [List.length_cons] at q; omega⟩
abbrev rgX9_areSame : Room := { frames := 1, cells := 0, slots := 0, locals := 22 }
abbrev pgX9_areSame (z : Nat) (σ : hpMem) (a0 : Int) (a1 : Int) : Option Value → hpMem → Prop := fun r τ => (∃ x : Int, r = some (.int (hpI x)) ∧ (0 ≤ x ∧ x ≤ 1) ∧ ((x = 1 → hpEq (σ 202) a0 a1) ∧ (x = 0 → ¬ hpEq (σ 202) a0 a1))) ∧ σ = τ
set_option maxHeartbeats 4000000 in
set_option maxRecDepth 20000 in
theorem tgX9_areSame (l : Launch) (D : va_G) (cy : Nat → ClassId) (z : Nat) (σ : hpMem) (a0 : Int) (ha0 : hpR a0) (a1 : Int) (ha1 : hpR a1) (hI : hpInv σ) (hr0 : 0 ≤ a0 ∧ a0 ≤ 20) (hr1 : 0 ≤ a1 ∧ a1 ≤ 20) : hpM l D cy z yX9_areSame cX9_areSame 5 (some .boolean) rgX9_areSame [.ref (z + 195), .int (hpI a0), .int (hpI a1)] σ (pgX9_areSame z σ a0 a1) := by
  obtain ⟨ha01, ha02⟩ := ha0
  obtain ⟨ha11, ha12⟩ := ha1
  refine hp_met rfl (Nat.le_of_ble_eq_true rfl) (fun p e s m below meth c C Z hr hlk => ?_)
  refine h_aload_n C dX9_areSame_0 0 rfl rfl ?_
  refine h_iload_n C dX9_areSame_1 1 rfl rfl ?_
  refine h_callV (As := [.int (hpI a0)]) (rest := []) C Z yyX9_manyOf wd_1536 (tgX9_manyOf l D cy z _ a0 ⟨by omega, by omega⟩ hI (by omega)) kd_195 rfl rfl ⟨rfl, rfl, Nat.le_of_ble_eq_true rfl, Nat.le_of_ble_eq_true rfl⟩ ⟨Nat.le_of_ble_eq_true rfl, Nat.le_of_ble_eq_true rfl⟩ (Nat.le_of_ble_eq_true rfl) dX9_areSame_2 (fun r1 τ1 hp1 => ?_)
  obtain ⟨⟨x1, rfl, ⟨hx1a, hx1b⟩, hx1⟩, rfl⟩ := hp1
  show hpV _ _ _ _ _ _ _ _ _ _ _ _ _ _ _ _ _ _ _ _ _ (_ :: _)
  refine h_aload_n C dX9_areSame_5 0 rfl rfl ?_
  refine h_iload_n C dX9_areSame_6 2 rfl rfl ?_
  refine h_callV (As := [.int (hpI a1)]) (rest := [.int (hpI x1)]) C Z yyX9_manyOf wd_1536 (tgX9_manyOf l D cy z _ a1 ⟨by omega, by omega⟩ hI (by omega)) kd_195 rfl rfl ⟨rfl, rfl, Nat.le_of_ble_eq_true rfl, Nat.le_of_ble_eq_true rfl⟩ ⟨Nat.le_of_ble_eq_true rfl, Nat.le_of_ble_eq_true rfl⟩ (Nat.le_of_ble_eq_true rfl) dX9_areSame_7 (fun r2 τ2 hp2 => ?_)
  obtain ⟨⟨x2, rfl, ⟨hx2a, hx2b⟩, hx2⟩, rfl⟩ := hp2
  show hpV _ _ _ _ _ _ _ _ _ _ _ _ _ _ _ _ _ _ _ _ _ (_ :: _)
  refine h_icmp_ne (tgt := 17) C dX9_areSame_10 (by decide) ⟨by omega, by omega⟩ ⟨by omega, by omega⟩ (fun h3 => ?_) (fun h3 => ?_)
  · refine h_iconst C dX9_areSame_17 ?_
    refine h_istore_n (lv' := [(3, .int (hpI 0)), (0, .ref (z + 195)), (1, .int (hpI a0)), (2, .int (hpI a1))]) C dX9_areSame_18 rfl (by decide) rfl ?_
    refine h_iconst C dX9_areSame_19 ?_
    refine h_istore (lv' := [(4, .int (hpI 0)), (3, .int (hpI 0)), (0, .ref (z + 195)), (1, .int (hpI a0)), (2, .int (hpI a1))]) C dX9_areSame_20 (by decide) rfl ?_
    have L4 : ∀ (n4 : Nat) (w4_3 : Int) (w4_4 : Int), 0 ≤ w4_3 → w4_3 ≤ 1 → 0 ≤ w4_4 → w4_4 ≤ 700 → (hpEI (σ 202) a0 a1 w4_3 w4_4) → (4294967296 - w4_4) < (n4 : Int) → hpF p l e rgX9_areSame s m [.ref (z + 195), .int (hpI a0), .int (hpI a1)] below meth c 5 D cy z (pgX9_areSame z σ a0 a1) σ 22 [(0, .ref (z + 195)), (1, .int (hpI a0)), (2, .int (hpI a1)), (3, .int (hpI w4_3)), (4, .int (hpI w4_4))] [] := by
      intro n4
      induction n4 with
      | zero => intro w4_3 w4_4 hv4_0 hv4_1 hv4_2 hv4_3 hM4_0 hm4; exfalso; omega
      | succ n4 ih4 =>
        intro w4_3 w4_4 hv4_0 hv4_1 hv4_2 hv4_3 hM4_0 hm4
        refine h_iload C dX9_areSame_22 4 rfl ?_
        refine h_aload_n C dX9_areSame_24 0 rfl rfl ?_
        refine h_iload_n C dX9_areSame_25 1 rfl rfl ?_
        refine h_callV (As := [.int (hpI a0)]) (rest := [.int (hpI w4_4)]) C Z yyX9_manyOf wd_1536 (tgX9_manyOf l D cy z _ a0 ⟨by omega, by omega⟩ hI (by omega)) kd_195 rfl rfl ⟨rfl, rfl, Nat.le_of_ble_eq_true rfl, Nat.le_of_ble_eq_true rfl⟩ ⟨Nat.le_of_ble_eq_true rfl, Nat.le_of_ble_eq_true rfl⟩ (Nat.le_of_ble_eq_true rfl) dX9_areSame_26 (fun r5 τ5 hp5 => ?_)
        obtain ⟨⟨x5, rfl, ⟨hx5a, hx5b⟩, hx5⟩, rfl⟩ := hp5
        show hpV _ _ _ _ _ _ _ _ _ _ _ _ _ _ _ _ _ _ _ _ _ (_ :: _)
        refine h_icmp_ge (tgt := 65) C dX9_areSame_29 (by decide) ⟨by omega, by omega⟩ ⟨by omega, by omega⟩ (fun h6 => ?_) (fun h6 => ?_)
        · refine h_iload_n C dX9_areSame_65 3 rfl rfl ?_
          refine h_zreturn C (by omega) hr hlk dX9_areSame_66 ?_
          exact ⟨⟨_, rfl, ⟨by omega, by omega⟩, hpEI_f hM4_0 (by omega) (by omega)⟩, rfl⟩
        · refine h_iload_n C dX9_areSame_32 3 rfl rfl ?_
          refine h_if_eq (tgt := 65) C dX9_areSame_33 (by decide) ⟨by omega, by omega⟩ (fun h7 => ?_) (fun h7 => ?_)
          · refine h_iload_n C dX9_areSame_65 3 rfl rfl ?_
            refine h_zreturn C (by omega) hr hlk dX9_areSame_66 ?_
            exact ⟨⟨_, rfl, ⟨by omega, by omega⟩, hpEI_f hM4_0 (by omega) (by omega)⟩, rfl⟩
          · refine h_aload_n C dX9_areSame_36 0 rfl rfl ?_
            refine h_iload_n C dX9_areSame_37 1 rfl rfl ?_
            refine h_iload C dX9_areSame_38 4 rfl ?_
            refine h_callV (As := [.int (hpI a0), .int (hpI w4_4)]) (rest := []) C Z yyX9_heightOf wd_1540 (tgX9_heightOf l D cy z _ a0 ⟨by omega, by omega⟩ w4_4 ⟨by omega, by omega⟩ hI (by omega) (by omega)) kd_195 rfl rfl ⟨rfl, rfl, Nat.le_of_ble_eq_true rfl, Nat.le_of_ble_eq_true rfl⟩ ⟨Nat.le_of_ble_eq_true rfl, Nat.le_of_ble_eq_true rfl⟩ (Nat.le_of_ble_eq_true rfl) dX9_areSame_40 (fun r8 τ8 hp8 => ?_)
            obtain ⟨⟨x8, rfl, ⟨hx8a, hx8b⟩, hx8⟩, rfl⟩ := hp8
            show hpV _ _ _ _ _ _ _ _ _ _ _ _ _ _ _ _ _ _ _ _ _ (_ :: _)
            refine h_aload_n C dX9_areSame_43 0 rfl rfl ?_
            refine h_iload_n C dX9_areSame_44 2 rfl rfl ?_
            refine h_iload C dX9_areSame_45 4 rfl ?_
            refine h_callV (As := [.int (hpI a1), .int (hpI w4_4)]) (rest := [.int (hpI x8)]) C Z yyX9_heightOf wd_1540 (tgX9_heightOf l D cy z _ a1 ⟨by omega, by omega⟩ w4_4 ⟨by omega, by omega⟩ hI (by omega) (by omega)) kd_195 rfl rfl ⟨rfl, rfl, Nat.le_of_ble_eq_true rfl, Nat.le_of_ble_eq_true rfl⟩ ⟨Nat.le_of_ble_eq_true rfl, Nat.le_of_ble_eq_true rfl⟩ (Nat.le_of_ble_eq_true rfl) dX9_areSame_47 (fun r9 τ9 hp9 => ?_)
            obtain ⟨⟨x9, rfl, ⟨hx9a, hx9b⟩, hx9⟩, rfl⟩ := hp9
            show hpV _ _ _ _ _ _ _ _ _ _ _ _ _ _ _ _ _ _ _ _ _ (_ :: _)
            refine h_icmp_ne (tgt := 57) C dX9_areSame_50 (by decide) ⟨by omega, by omega⟩ ⟨by omega, by omega⟩ (fun h10 => ?_) (fun h10 => ?_)
            · refine h_iconst C dX9_areSame_57 ?_
              refine h_istore_n (lv' := [(3, .int (hpI 0)), (0, .ref (z + 195)), (1, .int (hpI a0)), (2, .int (hpI a1)), (4, .int (hpI w4_4))]) C dX9_areSame_58 rfl (by decide) rfl ?_
              refine h_iinc (lv' := [(4, .int (hpI (w4_4 + 1))), (3, .int (hpI 0)), (0, .ref (z + 195)), (1, .int (hpI a0)), (2, .int (hpI a1))]) C dX9_areSame_59 4 rfl rfl (by decide) rfl ?_
              refine h_goto (tgt := 22) C dX9_areSame_62 (by decide) ?_
              exact hp_sub [2, 3, 4, 1, 0] rfl (ih4 0 (w4_4 + 1) (by omega) (by omega) (by omega) (by omega) (hpEI_s hM4_0 (by omega) (by omega) (by omega) (by omega)) (by omega))
            · refine h_iconst C dX9_areSame_53 ?_
              refine h_goto (tgt := 58) C dX9_areSame_54 (by decide) ?_
              refine h_istore_n (lv' := [(3, .int (hpI 1)), (0, .ref (z + 195)), (1, .int (hpI a0)), (2, .int (hpI a1)), (4, .int (hpI w4_4))]) C dX9_areSame_58 rfl (by decide) rfl ?_
              refine h_iinc (lv' := [(4, .int (hpI (w4_4 + 1))), (3, .int (hpI 1)), (0, .ref (z + 195)), (1, .int (hpI a0)), (2, .int (hpI a1))]) C dX9_areSame_59 4 rfl rfl (by decide) rfl ?_
              refine h_goto (tgt := 22) C dX9_areSame_62 (by decide) ?_
              exact hp_sub [2, 3, 4, 1, 0] rfl (ih4 1 (w4_4 + 1) (by omega) (by omega) (by omega) (by omega) (hpEI_s hM4_0 (by omega) (by omega) (by omega) (by omega)) (by omega))
    exact hp_sub [2, 3, 4, 1, 0] rfl (L4 8589934592 0 0 (by omega) (by omega) (by omega) (by omega) (hpEI_0 (by omega)) (by omega))
  · refine h_iconst C dX9_areSame_13 ?_
    refine h_goto (tgt := 18) C dX9_areSame_14 (by decide) ?_
    refine h_istore_n (lv' := [(3, .int (hpI 1)), (0, .ref (z + 195)), (1, .int (hpI a0)), (2, .int (hpI a1))]) C dX9_areSame_18 rfl (by decide) rfl ?_
    refine h_iconst C dX9_areSame_19 ?_
    refine h_istore (lv' := [(4, .int (hpI 0)), (3, .int (hpI 1)), (0, .ref (z + 195)), (1, .int (hpI a0)), (2, .int (hpI a1))]) C dX9_areSame_20 (by decide) rfl ?_
    have L11 : ∀ (n11 : Nat) (w11_3 : Int) (w11_4 : Int), 0 ≤ w11_3 → w11_3 ≤ 1 → 0 ≤ w11_4 → w11_4 ≤ 700 → (hpEI (σ 202) a0 a1 w11_3 w11_4) → (4294967296 - w11_4) < (n11 : Int) → hpF p l e rgX9_areSame s m [.ref (z + 195), .int (hpI a0), .int (hpI a1)] below meth c 5 D cy z (pgX9_areSame z σ a0 a1) σ 22 [(0, .ref (z + 195)), (1, .int (hpI a0)), (2, .int (hpI a1)), (3, .int (hpI w11_3)), (4, .int (hpI w11_4))] [] := by
      intro n11
      induction n11 with
      | zero => intro w11_3 w11_4 hv11_0 hv11_1 hv11_2 hv11_3 hM11_0 hm11; exfalso; omega
      | succ n11 ih11 =>
        intro w11_3 w11_4 hv11_0 hv11_1 hv11_2 hv11_3 hM11_0 hm11
        refine h_iload C dX9_areSame_22 4 rfl ?_
        refine h_aload_n C dX9_areSame_24 0 rfl rfl ?_
        refine h_iload_n C dX9_areSame_25 1 rfl rfl ?_
        refine h_callV (As := [.int (hpI a0)]) (rest := [.int (hpI w11_4)]) C Z yyX9_manyOf wd_1536 (tgX9_manyOf l D cy z _ a0 ⟨by omega, by omega⟩ hI (by omega)) kd_195 rfl rfl ⟨rfl, rfl, Nat.le_of_ble_eq_true rfl, Nat.le_of_ble_eq_true rfl⟩ ⟨Nat.le_of_ble_eq_true rfl, Nat.le_of_ble_eq_true rfl⟩ (Nat.le_of_ble_eq_true rfl) dX9_areSame_26 (fun r12 τ12 hp12 => ?_)
        obtain ⟨⟨x12, rfl, ⟨hx12a, hx12b⟩, hx12⟩, rfl⟩ := hp12
        show hpV _ _ _ _ _ _ _ _ _ _ _ _ _ _ _ _ _ _ _ _ _ (_ :: _)
        refine h_icmp_ge (tgt := 65) C dX9_areSame_29 (by decide) ⟨by omega, by omega⟩ ⟨by omega, by omega⟩ (fun h13 => ?_) (fun h13 => ?_)
        · refine h_iload_n C dX9_areSame_65 3 rfl rfl ?_
          refine h_zreturn C (by omega) hr hlk dX9_areSame_66 ?_
          exact ⟨⟨_, rfl, ⟨by omega, by omega⟩, hpEI_f hM11_0 (by omega) (by omega)⟩, rfl⟩
        · refine h_iload_n C dX9_areSame_32 3 rfl rfl ?_
          refine h_if_eq (tgt := 65) C dX9_areSame_33 (by decide) ⟨by omega, by omega⟩ (fun h14 => ?_) (fun h14 => ?_)
          · refine h_iload_n C dX9_areSame_65 3 rfl rfl ?_
            refine h_zreturn C (by omega) hr hlk dX9_areSame_66 ?_
            exact ⟨⟨_, rfl, ⟨by omega, by omega⟩, hpEI_f hM11_0 (by omega) (by omega)⟩, rfl⟩
          · refine h_aload_n C dX9_areSame_36 0 rfl rfl ?_
            refine h_iload_n C dX9_areSame_37 1 rfl rfl ?_
            refine h_iload C dX9_areSame_38 4 rfl ?_
            refine h_callV (As := [.int (hpI a0), .int (hpI w11_4)]) (rest := []) C Z yyX9_heightOf wd_1540 (tgX9_heightOf l D cy z _ a0 ⟨by omega, by omega⟩ w11_4 ⟨by omega, by omega⟩ hI (by omega) (by omega)) kd_195 rfl rfl ⟨rfl, rfl, Nat.le_of_ble_eq_true rfl, Nat.le_of_ble_eq_true rfl⟩ ⟨Nat.le_of_ble_eq_true rfl, Nat.le_of_ble_eq_true rfl⟩ (Nat.le_of_ble_eq_true rfl) dX9_areSame_40 (fun r15 τ15 hp15 => ?_)
            obtain ⟨⟨x15, rfl, ⟨hx15a, hx15b⟩, hx15⟩, rfl⟩ := hp15
            show hpV _ _ _ _ _ _ _ _ _ _ _ _ _ _ _ _ _ _ _ _ _ (_ :: _)
            refine h_aload_n C dX9_areSame_43 0 rfl rfl ?_
            refine h_iload_n C dX9_areSame_44 2 rfl rfl ?_
            refine h_iload C dX9_areSame_45 4 rfl ?_
            refine h_callV (As := [.int (hpI a1), .int (hpI w11_4)]) (rest := [.int (hpI x15)]) C Z yyX9_heightOf wd_1540 (tgX9_heightOf l D cy z _ a1 ⟨by omega, by omega⟩ w11_4 ⟨by omega, by omega⟩ hI (by omega) (by omega)) kd_195 rfl rfl ⟨rfl, rfl, Nat.le_of_ble_eq_true rfl, Nat.le_of_ble_eq_true rfl⟩ ⟨Nat.le_of_ble_eq_true rfl, Nat.le_of_ble_eq_true rfl⟩ (Nat.le_of_ble_eq_true rfl) dX9_areSame_47 (fun r16 τ16 hp16 => ?_)
            obtain ⟨⟨x16, rfl, ⟨hx16a, hx16b⟩, hx16⟩, rfl⟩ := hp16
            show hpV _ _ _ _ _ _ _ _ _ _ _ _ _ _ _ _ _ _ _ _ _ (_ :: _)
            refine h_icmp_ne (tgt := 57) C dX9_areSame_50 (by decide) ⟨by omega, by omega⟩ ⟨by omega, by omega⟩ (fun h17 => ?_) (fun h17 => ?_)
            · refine h_iconst C dX9_areSame_57 ?_
              refine h_istore_n (lv' := [(3, .int (hpI 0)), (0, .ref (z + 195)), (1, .int (hpI a0)), (2, .int (hpI a1)), (4, .int (hpI w11_4))]) C dX9_areSame_58 rfl (by decide) rfl ?_
              refine h_iinc (lv' := [(4, .int (hpI (w11_4 + 1))), (3, .int (hpI 0)), (0, .ref (z + 195)), (1, .int (hpI a0)), (2, .int (hpI a1))]) C dX9_areSame_59 4 rfl rfl (by decide) rfl ?_
              refine h_goto (tgt := 22) C dX9_areSame_62 (by decide) ?_
              exact hp_sub [2, 3, 4, 1, 0] rfl (ih11 0 (w11_4 + 1) (by omega) (by omega) (by omega) (by omega) (hpEI_s hM11_0 (by omega) (by omega) (by omega) (by omega)) (by omega))
            · refine h_iconst C dX9_areSame_53 ?_
              refine h_goto (tgt := 58) C dX9_areSame_54 (by decide) ?_
              refine h_istore_n (lv' := [(3, .int (hpI 1)), (0, .ref (z + 195)), (1, .int (hpI a0)), (2, .int (hpI a1)), (4, .int (hpI w11_4))]) C dX9_areSame_58 rfl (by decide) rfl ?_
              refine h_iinc (lv' := [(4, .int (hpI (w11_4 + 1))), (3, .int (hpI 1)), (0, .ref (z + 195)), (1, .int (hpI a0)), (2, .int (hpI a1))]) C dX9_areSame_59 4 rfl rfl (by decide) rfl ?_
              refine h_goto (tgt := 22) C dX9_areSame_62 (by decide) ?_
              exact hp_sub [2, 3, 4, 1, 0] rfl (ih11 1 (w11_4 + 1) (by omega) (by omega) (by omega) (by omega) (hpEI_s hM11_0 (by omega) (by omega) (by omega) (by omega)) (by omega))
    exact hp_sub [2, 3, 4, 1, 0] rfl (L11 8589934592 1 0 (by omega) (by omega) (by omega) (by omega) (hpEI_0 (by omega)) (by omega))
abbrev rgX9_turfsOf : Room := { frames := 1, cells := 0, slots := 0, locals := 22 }
abbrev pgX9_turfsOf (z : Nat) (σ : hpMem) (a0 : Int) : Option Value → hpMem → Prop := fun r τ => (∃ x : Int, r = some (.int (hpI x)) ∧ (hpR x)) ∧ σ = τ
set_option maxHeartbeats 4000000 in
set_option maxRecDepth 20000 in
theorem tgX9_turfsOf (l : Launch) (D : va_G) (cy : Nat → ClassId) (z : Nat) (σ : hpMem) (a0 : Int) (ha0 : hpR a0) (hI : hpInv σ) (hr0 : 0 ≤ a0 ∧ a0 ≤ 20) : hpM l D cy z yX9_turfsOf cX9_turfsOf 4 (some .int) rgX9_turfsOf [.ref (z + 195), .int (hpI a0)] σ (pgX9_turfsOf z σ a0) := by
  obtain ⟨ha01, ha02⟩ := ha0
  refine hp_met rfl (Nat.le_of_ble_eq_true rfl) (fun p e s m below meth c C Z hr hlk => ?_)
  refine h_iconst C dX9_turfsOf_0 ?_
  refine h_istore_n (lv' := [(2, .int (hpI 0)), (0, .ref (z + 195)), (1, .int (hpI a0))]) C dX9_turfsOf_1 rfl (by decide) rfl ?_
  refine h_iconst C dX9_turfsOf_2 ?_
  refine h_istore_n (lv' := [(3, .int (hpI 0)), (2, .int (hpI 0)), (0, .ref (z + 195)), (1, .int (hpI a0))]) C dX9_turfsOf_3 rfl (by decide) rfl ?_
  have L1 : ∀ (n1 : Nat) (w1_2 : Int) (w1_3 : Int), -2147483648 ≤ w1_2 → w1_2 ≤ 2147483647 → 0 ≤ w1_3 → w1_3 ≤ 2147483647 → (4294967296 - w1_3) < (n1 : Int) → hpF p l e rgX9_turfsOf s m [.ref (z + 195), .int (hpI a0)] below meth c 4 D cy z (pgX9_turfsOf z σ a0) σ 4 [(0, .ref (z + 195)), (1, .int (hpI a0)), (2, .int (hpI w1_2)), (3, .int (hpI w1_3))] [] := by
    intro n1
    induction n1 with
    | zero => intro w1_2 w1_3 hv1_0 hv1_1 hv1_2 hv1_3 hm1; exfalso; omega
    | succ n1 ih1 =>
      intro w1_2 w1_3 hv1_0 hv1_1 hv1_2 hv1_3 hm1
      refine h_iload_n C dX9_turfsOf_4 3 rfl rfl ?_
      refine h_aload_n C dX9_turfsOf_5 0 rfl rfl ?_
      refine h_iload_n C dX9_turfsOf_6 1 rfl rfl ?_
      refine h_callV (As := [.int (hpI a0)]) (rest := [.int (hpI w1_3)]) C Z yyX9_manyOf wd_1536 (tgX9_manyOf l D cy z _ a0 ⟨by omega, by omega⟩ hI (by omega)) kd_195 rfl rfl ⟨rfl, rfl, Nat.le_of_ble_eq_true rfl, Nat.le_of_ble_eq_true rfl⟩ ⟨Nat.le_of_ble_eq_true rfl, Nat.le_of_ble_eq_true rfl⟩ (Nat.le_of_ble_eq_true rfl) dX9_turfsOf_7 (fun r2 τ2 hp2 => ?_)
      obtain ⟨⟨x2, rfl, ⟨hx2a, hx2b⟩, hx2⟩, rfl⟩ := hp2
      show hpV _ _ _ _ _ _ _ _ _ _ _ _ _ _ _ _ _ _ _ _ _ (_ :: _)
      refine h_icmp_ge (tgt := 28) C dX9_turfsOf_10 (by decide) ⟨by omega, by omega⟩ ⟨by omega, by omega⟩ (fun h3 => ?_) (fun h3 => ?_)
      · refine h_iload_n C dX9_turfsOf_28 2 rfl rfl ?_
        refine h_ireturn C hr hlk dX9_turfsOf_29 ?_
        exact ⟨⟨_, rfl, ⟨by omega, by omega⟩⟩, rfl⟩
      · refine h_iload_n C dX9_turfsOf_13 2 rfl rfl ?_
        refine h_aload_n C dX9_turfsOf_14 0 rfl rfl ?_
        refine h_iload_n C dX9_turfsOf_15 1 rfl rfl ?_
        refine h_iload_n C dX9_turfsOf_16 3 rfl rfl ?_
        refine h_callV (As := [.int (hpI a0), .int (hpI w1_3)]) (rest := [.int (hpI w1_2)]) C Z yyX9_heightOf wd_1540 (tgX9_heightOf l D cy z _ a0 ⟨by omega, by omega⟩ w1_3 ⟨by omega, by omega⟩ hI (by omega) (by omega)) kd_195 rfl rfl ⟨rfl, rfl, Nat.le_of_ble_eq_true rfl, Nat.le_of_ble_eq_true rfl⟩ ⟨Nat.le_of_ble_eq_true rfl, Nat.le_of_ble_eq_true rfl⟩ (Nat.le_of_ble_eq_true rfl) dX9_turfsOf_17 (fun r4 τ4 hp4 => ?_)
        obtain ⟨⟨x4, rfl, ⟨hx4a, hx4b⟩, hx4⟩, rfl⟩ := hp4
        show hpV _ _ _ _ _ _ _ _ _ _ _ _ _ _ _ _ _ _ _ _ _ (_ :: _)
        refine h_iadd C dX9_turfsOf_20 rfl ?_
        refine hp_anyI (fun r5 hr5 => ?_)
        obtain ⟨hr5a, hr5b⟩ := hr5
        refine h_istore_n (lv' := [(2, .int (hpI r5)), (0, .ref (z + 195)), (1, .int (hpI a0)), (3, .int (hpI w1_3))]) C dX9_turfsOf_21 rfl (by decide) rfl ?_
        refine h_iinc (lv' := [(3, .int (hpI (w1_3 + 1))), (2, .int (hpI r5)), (0, .ref (z + 195)), (1, .int (hpI a0))]) C dX9_turfsOf_22 3 rfl rfl (by decide) rfl ?_
        refine h_goto (tgt := 4) C dX9_turfsOf_25 (by decide) ?_
        exact hp_sub [2, 3, 1, 0] rfl (ih1 r5 (w1_3 + 1) (by omega) (by omega) (by omega) (by omega) (by omega))
  exact hp_sub [2, 3, 1, 0] rfl (L1 8589934592 0 0 (by omega) (by omega) (by omega) (by omega) (by omega))
abbrev rgX9_highestOf : Room := { frames := 1, cells := 0, slots := 0, locals := 22 }
abbrev pgX9_highestOf (z : Nat) (σ : hpMem) (a0 : Int) : Option Value → hpMem → Prop := fun r τ => (∃ x : Int, r = some (.int (hpI x)) ∧ (hpR x)) ∧ σ = τ
set_option maxHeartbeats 4000000 in
set_option maxRecDepth 20000 in
theorem tgX9_highestOf (l : Launch) (D : va_G) (cy : Nat → ClassId) (z : Nat) (σ : hpMem) (a0 : Int) (ha0 : hpR a0) (hI : hpInv σ) (hr0 : 0 ≤ a0 ∧ a0 ≤ 20) : hpM l D cy z yX9_highestOf cX9_highestOf 2 (some .int) rgX9_highestOf [.ref (z + 195), .int (hpI a0)] σ (pgX9_highestOf z σ a0) := by
  obtain ⟨ha01, ha02⟩ := ha0
  refine hp_met rfl (Nat.le_of_ble_eq_true rfl) (fun p e s m below meth c C Z hr hlk => ?_)
  refine h_aload_n C dX9_highestOf_0 0 rfl rfl ?_
  refine h_iload_n C dX9_highestOf_1 1 rfl rfl ?_
  refine h_callV (As := [.int (hpI a0)]) (rest := []) C Z yyX9_manyOf wd_1536 (tgX9_manyOf l D cy z _ a0 ⟨by omega, by omega⟩ hI (by omega)) kd_195 rfl rfl ⟨rfl, rfl, Nat.le_of_ble_eq_true rfl, Nat.le_of_ble_eq_true rfl⟩ ⟨Nat.le_of_ble_eq_true rfl, Nat.le_of_ble_eq_true rfl⟩ (Nat.le_of_ble_eq_true rfl) dX9_highestOf_2 (fun r1 τ1 hp1 => ?_)
  obtain ⟨⟨x1, rfl, ⟨hx1a, hx1b⟩, hx1⟩, rfl⟩ := hp1
  show hpV _ _ _ _ _ _ _ _ _ _ _ _ _ _ _ _ _ _ _ _ _ (_ :: _)
  refine h_if_ne (tgt := 12) C dX9_highestOf_5 (by decide) ⟨by omega, by omega⟩ (fun h2 => ?_) (fun h2 => ?_)
  · refine h_aload_n C dX9_highestOf_12 0 rfl rfl ?_
    refine h_iload_n C dX9_highestOf_13 1 rfl rfl ?_
    refine h_iconst C dX9_highestOf_14 ?_
    refine h_callV (As := [.int (hpI a0), .int (hpI 0)]) (rest := []) C Z yyX9_heightOf wd_1540 (tgX9_heightOf l D cy z _ a0 ⟨by omega, by omega⟩ 0 ⟨by decide, by decide⟩ hI (by omega) (by omega)) kd_195 rfl rfl ⟨rfl, rfl, Nat.le_of_ble_eq_true rfl, Nat.le_of_ble_eq_true rfl⟩ ⟨Nat.le_of_ble_eq_true rfl, Nat.le_of_ble_eq_true rfl⟩ (Nat.le_of_ble_eq_true rfl) dX9_highestOf_15 (fun r3 τ3 hp3 => ?_)
    obtain ⟨⟨x3, rfl, ⟨hx3a, hx3b⟩, hx3⟩, rfl⟩ := hp3
    show hpV _ _ _ _ _ _ _ _ _ _ _ _ _ _ _ _ _ _ _ _ _ (_ :: _)
    refine h_ireturn C hr hlk dX9_highestOf_18 ?_
    exact ⟨⟨_, rfl, ⟨by omega, by omega⟩⟩, rfl⟩
  · refine h_iconst C dX9_highestOf_8 ?_
    refine h_goto (tgt := 18) C dX9_highestOf_9 (by decide) ?_
    refine h_ireturn C hr hlk dX9_highestOf_18 ?_
    exact ⟨⟨_, rfl, ⟨by decide, by decide⟩⟩, rfl⟩
abbrev rgX9_offHeap : Room := { frames := 1, cells := 0, slots := 0, locals := 22 }
abbrev pgX9_offHeap (z : Nat) (σ : hpMem) (a0 : Int) (a1 : Int) : Option Value → hpMem → Prop := fun r τ => (∃ x : Int, r = some (.int (hpI x)) ∧ (hpR x) ∧ (x = (hpOn (σ 195 16).toNat a1.toNat (σ 202 (701 * a0 + 1 + a1).toNat).toNat : Int) ∧ 0 ≤ x ∧ x ≤ 2)) ∧ σ = τ
set_option maxHeartbeats 4000000 in
set_option maxRecDepth 20000 in
theorem tgX9_offHeap (l : Launch) (D : va_G) (cy : Nat → ClassId) (z : Nat) (σ : hpMem) (a0 : Int) (ha0 : hpR a0) (a1 : Int) (ha1 : hpR a1) (hI : hpInv σ) (hr0 : 0 ≤ a0 ∧ a0 ≤ 20) (hi0 : 0 ≤ a1 ∧ a1 ≤ 699) : hpM l D cy z yX9_offHeap cX9_offHeap 4 (some .int) rgX9_offHeap [.ref (z + 195), .int (hpI a0), .int (hpI a1)] σ (pgX9_offHeap z σ a0 a1) := by
  obtain ⟨ha01, ha02⟩ := ha0
  obtain ⟨ha11, ha12⟩ := ha1
  refine hp_met rfl (Nat.le_of_ble_eq_true rfl) (fun p e s m below meth c C Z hr hlk => ?_)
  refine h_aload_n C dX9_offHeap_0 0 rfl rfl ?_
  refine h_iload_n C dX9_offHeap_1 1 rfl rfl ?_
  refine h_iload_n C dX9_offHeap_2 2 rfl rfl ?_
  refine h_callV (As := [.int (hpI a0), .int (hpI a1)]) (rest := []) C Z yyX9_heightOf wd_1540 (tgX9_heightOf l D cy z _ a0 ⟨by omega, by omega⟩ a1 ⟨by omega, by omega⟩ hI (by omega) (by omega)) kd_195 rfl rfl ⟨rfl, rfl, Nat.le_of_ble_eq_true rfl, Nat.le_of_ble_eq_true rfl⟩ ⟨Nat.le_of_ble_eq_true rfl, Nat.le_of_ble_eq_true rfl⟩ (Nat.le_of_ble_eq_true rfl) dX9_offHeap_3 (fun r1 τ1 hp1 => ?_)
  obtain ⟨⟨x1, rfl, ⟨hx1a, hx1b⟩, hx1⟩, rfl⟩ := hp1
  show hpV _ _ _ _ _ _ _ _ _ _ _ _ _ _ _ _ _ _ _ _ _ (_ :: _)
  refine h_istore_n (lv' := [(3, .int (hpI x1)), (0, .ref (z + 195)), (1, .int (hpI a0)), (2, .int (hpI a1))]) C dX9_offHeap_6 rfl (by decide) rfl ?_
  refine h_aload_n C dX9_offHeap_7 1 rfl rfl ?_
  refine h_get C O9 16 kd_195 (by decide) wd_1272 dX9_offHeap_8 (hp_fvI (by rw [kd_195]; rfl) rfl) ?_
  obtain ⟨hr2a, hr2b⟩ := hI.b (bf_9_16 kd_195)
  generalize hg2 : σ 195 16 = r2 at hr2a hr2b ⊢
  refine h_iconst C dX9_offHeap_11 ?_
  refine h_icmp_ne (tgt := 19) C dX9_offHeap_12 (by decide) ⟨by omega, by omega⟩ ⟨by decide, by decide⟩ (fun h3 => ?_) (fun h3 => ?_)
  · refine h_aload_n C dX9_offHeap_19 1 rfl rfl ?_
    refine h_get C O9 16 kd_195 (by decide) wd_1272 dX9_offHeap_20 (hp_fvI (by rw [kd_195]; rfl) rfl) ?_
    rw [hg2]
    refine h_iconst C dX9_offHeap_23 ?_
    refine h_icmp_ne (tgt := 34) C dX9_offHeap_24 (by decide) ⟨by omega, by omega⟩ ⟨by decide, by decide⟩ (fun h4 => ?_) (fun h4 => ?_)
    · refine h_aload_n C dX9_offHeap_34 1 rfl rfl ?_
      refine h_get C O9 16 kd_195 (by decide) wd_1272 dX9_offHeap_35 (hp_fvI (by rw [kd_195]; rfl) rfl) ?_
      rw [hg2]
      refine h_iconst C dX9_offHeap_38 ?_
      refine h_icmp_ne (tgt := 51) C dX9_offHeap_39 (by decide) ⟨by omega, by omega⟩ ⟨by decide, by decide⟩ (fun h5 => ?_) (fun h5 => ?_)
      · refine h_iconst C dX9_offHeap_51 ?_
        refine h_ireturn C hr hlk dX9_offHeap_52 ?_
        exact ⟨⟨_, rfl, ⟨by decide, by decide⟩, by unfold hpOn; split <;> (try split) <;> omega⟩, rfl⟩
      · refine h_iload_n C dX9_offHeap_42 0 rfl rfl ?_
        refine h_iconst C dX9_offHeap_43 ?_
        refine h_icmp_le (tgt := 51) C dX9_offHeap_44 (by decide) ⟨by omega, by omega⟩ ⟨by decide, by decide⟩ (fun h6 => ?_) (fun h6 => ?_)
        · refine h_iconst C dX9_offHeap_51 ?_
          refine h_ireturn C hr hlk dX9_offHeap_52 ?_
          exact ⟨⟨_, rfl, ⟨by decide, by decide⟩, by unfold hpOn; split <;> (try split) <;> omega⟩, rfl⟩
        · refine h_iconst C dX9_offHeap_47 ?_
          refine h_goto (tgt := 52) C dX9_offHeap_48 (by decide) ?_
          refine h_ireturn C hr hlk dX9_offHeap_52 ?_
          exact ⟨⟨_, rfl, ⟨by decide, by decide⟩, by unfold hpOn; split <;> (try split) <;> omega⟩, rfl⟩
    · refine h_iload_n C dX9_offHeap_27 0 rfl rfl ?_
      refine h_iconst C dX9_offHeap_28 ?_
      refine h_icmp_ne (tgt := 34) C dX9_offHeap_29 (by decide) ⟨by omega, by omega⟩ ⟨by decide, by decide⟩ (fun h7 => ?_) (fun h7 => ?_)
      · refine h_aload_n C dX9_offHeap_34 1 rfl rfl ?_
        refine h_get C O9 16 kd_195 (by decide) wd_1272 dX9_offHeap_35 (hp_fvI (by rw [kd_195]; rfl) rfl) ?_
        rw [hg2]
        refine h_iconst C dX9_offHeap_38 ?_
        refine h_icmp_ne (tgt := 51) C dX9_offHeap_39 (by decide) ⟨by omega, by omega⟩ ⟨by decide, by decide⟩ (fun h8 => ?_) (fun h8 => ?_)
        · refine h_iconst C dX9_offHeap_51 ?_
          refine h_ireturn C hr hlk dX9_offHeap_52 ?_
          exact ⟨⟨_, rfl, ⟨by decide, by decide⟩, by unfold hpOn; split <;> (try split) <;> omega⟩, rfl⟩
        · exfalso; omega
      · refine h_iconst C dX9_offHeap_32 ?_
        refine h_ireturn C hr hlk dX9_offHeap_33 ?_
        exact ⟨⟨_, rfl, ⟨by decide, by decide⟩, by unfold hpOn; split <;> (try split) <;> omega⟩, rfl⟩
  · refine h_iload_n C dX9_offHeap_15 3 rfl rfl ?_
    refine h_if_eq (tgt := 32) C dX9_offHeap_16 (by decide) ⟨by omega, by omega⟩ (fun h9 => ?_) (fun h9 => ?_)
    · refine h_iconst C dX9_offHeap_32 ?_
      refine h_ireturn C hr hlk dX9_offHeap_33 ?_
      exact ⟨⟨_, rfl, ⟨by decide, by decide⟩, by unfold hpOn; split <;> (try split) <;> omega⟩, rfl⟩
    · refine h_aload_n C dX9_offHeap_19 1 rfl rfl ?_
      refine h_get C O9 16 kd_195 (by decide) wd_1272 dX9_offHeap_20 (hp_fvI (by rw [kd_195]; rfl) rfl) ?_
      rw [hg2]
      refine h_iconst C dX9_offHeap_23 ?_
      refine h_icmp_ne (tgt := 34) C dX9_offHeap_24 (by decide) ⟨by omega, by omega⟩ ⟨by decide, by decide⟩ (fun h10 => ?_) (fun h10 => ?_)
      · refine h_aload_n C dX9_offHeap_34 1 rfl rfl ?_
        refine h_get C O9 16 kd_195 (by decide) wd_1272 dX9_offHeap_35 (hp_fvI (by rw [kd_195]; rfl) rfl) ?_
        rw [hg2]
        refine h_iconst C dX9_offHeap_38 ?_
        refine h_icmp_ne (tgt := 51) C dX9_offHeap_39 (by decide) ⟨by omega, by omega⟩ ⟨by decide, by decide⟩ (fun h11 => ?_) (fun h11 => ?_)
        · refine h_iconst C dX9_offHeap_51 ?_
          refine h_ireturn C hr hlk dX9_offHeap_52 ?_
          exact ⟨⟨_, rfl, ⟨by decide, by decide⟩, by unfold hpOn; split <;> (try split) <;> omega⟩, rfl⟩
        · exfalso; omega
      · exfalso; omega
abbrev rgX9_step : Room := { frames := 2, cells := 0, slots := 0, locals := 45 }
abbrev pgX9_step (z : Nat) (σ : hpMem) (a0 : Int) (L : List Nat) : Option Value → hpMem → Prop := fun r τ => r = none ∧ hpInv τ ∧ (∀ j i : Nat, (j ≠ 202 ∨ (((i : Int) < 701 * a0 ∨ 701 * a0 + 700 < (i : Int)) ∧ (i : Int) < 14020)) → (j ≠ 195 ∨ (i ≠ 17 ∧ i ≠ 18)) → τ j i = σ j i) ∧ (hpRw (τ 202) a0 (hpSt (σ 195 16).toNat L))
set_option maxHeartbeats 4000000 in
set_option maxRecDepth 20000 in
theorem tgX9_step (l : Launch) (D : va_G) (cy : Nat → ClassId) (z : Nat) (σ : hpMem) (a0 : Int) (ha0 : hpR a0) (hI : hpInv σ) (L : List Nat) (hr0 : 0 ≤ a0 ∧ a0 ≤ 19) (hL : hpRw (σ 202) a0 L) (hV : hpOk L) : hpM l D cy z yX9_step cX9_step 5 none rgX9_step [.ref (z + 195), .int (hpI a0)] σ (pgX9_step z σ a0 L) := by
  obtain ⟨ha01, ha02⟩ := ha0
  refine hp_met rfl (Nat.le_of_ble_eq_true rfl) (fun p e s m below meth c C Z hr hlk => ?_)
  have hF0 : ∀ j i : Nat, (j ≠ 202 ∨ (((i : Int) < 701 * a0 ∨ 701 * a0 + 700 < (i : Int)) ∧ (i : Int) < 14020)) → (j ≠ 195 ∨ (i ≠ 17 ∧ i ≠ 18)) → σ j i = σ j i := fun j i _ _ => rfl
  have hLl := hV.len
  have hL1 := hL.1
  refine h_aload_n C dX9_step_0 0 rfl rfl ?_
  refine h_iload_n C dX9_step_1 1 rfl rfl ?_
  refine h_callV (As := [.int (hpI a0)]) (rest := []) C Z yyX9_manyOf wd_1536 (tgX9_manyOf l D cy z _ a0 ⟨by omega, by omega⟩ hI (by omega)) kd_195 rfl rfl ⟨rfl, rfl, Nat.le_of_ble_eq_true rfl, Nat.le_of_ble_eq_true rfl⟩ ⟨Nat.le_of_ble_eq_true rfl, Nat.le_of_ble_eq_true rfl⟩ (Nat.le_of_ble_eq_true rfl) dX9_step_2 (fun r1 τ1 hp1 => ?_)
  obtain ⟨⟨x1, rfl, ⟨hx1a, hx1b⟩, hx1⟩, rfl⟩ := hp1
  show hpV _ _ _ _ _ _ _ _ _ _ _ _ _ _ _ _ _ _ _ _ _ (_ :: _)
  refine h_istore_n (lv' := [(2, .int (hpI x1)), (0, .ref (z + 195)), (1, .int (hpI a0))]) C dX9_step_5 rfl (by decide) rfl ?_
  refine h_aload_n C dX9_step_6 1 rfl rfl ?_
  refine h_iconst C dX9_step_7 ?_
  refine h_put C O9 17 kd_195 (by decide) rfl wd_1273 dX9_step_8 rfl rfl (hp_fvI (by rw [kd_195]; rfl) hpu_at) ?_
  obtain ⟨τ2, e2⟩ : ∃ μ : hpMem, μ = hpw σ 195 17 0 := ⟨_, rfl⟩
  rw [← e2]
  have hI2 : hpInv τ2 := by rw [e2]; exact hI.w (bf_9_17 kd_195) (by omega) (by omega)
  have hF2 : ∀ j i : Nat, (j ≠ 202 ∨ (((i : Int) < 701 * a0 ∨ 701 * a0 + 700 < (i : Int)) ∧ (i : Int) < 14020)) → (j ≠ 195 ∨ (i ≠ 17 ∧ i ≠ 18)) → τ2 j i = σ j i := fun j i h_0 h_1 => by rw [e2]; exact (hpw_fr (by omega)).trans (hF0 j i h_0 h_1)
  have hg3 : τ2 195 17 = 0 := by rw [e2]; exact hpw_eq
  refine h_aload_n C dX9_step_11 1 rfl rfl ?_
  refine h_iconst C dX9_step_12 ?_
  refine h_put C O9 18 kd_195 (by decide) rfl wd_1274 dX9_step_13 rfl rfl (hp_fvI (by rw [kd_195]; rfl) hpu_at) ?_
  obtain ⟨τ4, e4⟩ : ∃ μ : hpMem, μ = hpw τ2 195 18 0 := ⟨_, rfl⟩
  rw [← e4]
  have hI4 : hpInv τ4 := by rw [e4]; exact hI2.w (bf_9_18 kd_195) (by omega) (by omega)
  have hF4 : ∀ j i : Nat, (j ≠ 202 ∨ (((i : Int) < 701 * a0 ∨ 701 * a0 + 700 < (i : Int)) ∧ (i : Int) < 14020)) → (j ≠ 195 ∨ (i ≠ 17 ∧ i ≠ 18)) → τ4 j i = σ j i := fun j i h_0 h_1 => by rw [e4]; exact (hpw_fr (by omega)).trans (hF2 j i h_0 h_1)
  have hg5 : τ4 195 17 = 0 := by rw [e4]; exact (hpw_fr (Or.inr (by decide))).trans hg3
  have hg6 : τ4 195 18 = 0 := by rw [e4]; exact hpw_eq
  refine h_iconst C dX9_step_16 ?_
  refine h_istore_n (lv' := [(3, .int (hpI 0)), (2, .int (hpI x1)), (0, .ref (z + 195)), (1, .int (hpI a0))]) C dX9_step_17 rfl (by decide) rfl ?_
  have L7 : ∀ (n7 : Nat) (τ7 : hpMem) (w7_3 : Int), 0 ≤ w7_3 → w7_3 ≤ 700 → w7_3 ≤ x1 → hpInv τ7 → (∀ j i : Nat, (j ≠ 202 ∨ (((i : Int) < 701 * a0 ∨ 701 * a0 + 700 < (i : Int)) ∧ (i : Int) < 14020)) → (j ≠ 195 ∨ (i ≠ 17 ∧ i ≠ 18)) → τ7 j i = σ j i) → (τ7 195 17 = ((hpTk (σ 195 16).toNat L w7_3.toNat : Nat) : Int)) → (∀ q, τ7 202 q = σ 202 q) → (4294967296 - w7_3) < (n7 : Int) → hpF p l e rgX9_step s m [.ref (z + 195), .int (hpI a0)] below meth c 5 D cy z (pgX9_step z σ a0 L) τ7 18 [(0, .ref (z + 195)), (1, .int (hpI a0)), (2, .int (hpI x1)), (3, .int (hpI w7_3))] [] := by
    intro n7
    induction n7 with
    | zero => intro τ7 w7_3 hv7_0 hv7_1 hv7_2 hI7 hF7 hM7_0 hM7_1 hm7; exfalso; omega
    | succ n7 ih7 =>
      intro τ7 w7_3 hv7_0 hv7_1 hv7_2 hI7 hF7 hM7_0 hM7_1 hm7
      refine h_iload_n C dX9_step_18 3 rfl rfl ?_
      refine h_iload_n C dX9_step_19 2 rfl rfl ?_
      refine h_icmp_ge (tgt := 44) C dX9_step_20 (by decide) ⟨by omega, by omega⟩ ⟨by omega, by omega⟩ (fun h8 => ?_) (fun h8 => ?_)
      · refine h_aload_n C dX9_step_44 0 rfl rfl ?_
        refine h_iload_n C dX9_step_45 1 rfl rfl ?_
        refine h_bipush C dX9_step_46 (by decide) ?_
        refine h_callV (As := [.int (hpI a0), .int (hpI 20)]) (rest := []) C Z yyX9_copyRow wd_1559 (tgX9_copyRow l D cy z _ a0 ⟨by omega, by omega⟩ 20 ⟨by decide, by decide⟩ hI7 (by omega) (by omega)) kd_195 rfl rfl ⟨rfl, rfl, Nat.le_of_ble_eq_true rfl, Nat.le_of_ble_eq_true rfl⟩ ⟨Nat.le_of_ble_eq_true rfl, Nat.le_of_ble_eq_true rfl⟩ (Nat.le_of_ble_eq_true rfl) dX9_step_48 (fun r9 τ9 hp9 => ?_)
        obtain ⟨rfl, hI9, hG9, hq9_0⟩ := hp9
        have hF9 : ∀ j i : Nat, (j ≠ 202 ∨ (((i : Int) < 701 * a0 ∨ 701 * a0 + 700 < (i : Int)) ∧ (i : Int) < 14020)) → (j ≠ 195 ∨ (i ≠ 17 ∧ i ≠ 18)) → τ9 j i = σ j i := fun j i h_0 h_1 => (hG9 j i (by omega)).trans (hF7 j i h_0 h_1)
        show hpV _ _ _ _ _ _ _ _ _ _ _ _ _ _ _ _ _ _ _ _ _ []
        have hO := hq9_0 L (hL.same hM7_1)
        have hT := (hG9 195 17 (by omega)).trans hM7_0
        refine h_aload_n C dX9_step_51 0 rfl rfl ?_
        refine h_iload_n C dX9_step_52 1 rfl rfl ?_
        refine h_callV (As := [.int (hpI a0)]) (rest := []) C Z yyX9_empty wd_1528 (tgX9_empty l D cy z _ a0 ⟨by omega, by omega⟩ hI9 (by omega)) kd_195 rfl rfl ⟨rfl, rfl, Nat.le_of_ble_eq_true rfl, Nat.le_of_ble_eq_true rfl⟩ ⟨Nat.le_of_ble_eq_true rfl, Nat.le_of_ble_eq_true rfl⟩ (Nat.le_of_ble_eq_true rfl) dX9_step_53 (fun r10 τ10 hp10 => ?_)
        obtain ⟨rfl, hI10, hG10, hq10_0⟩ := hp10
        have hF10 : ∀ j i : Nat, (j ≠ 202 ∨ (((i : Int) < 701 * a0 ∨ 701 * a0 + 700 < (i : Int)) ∧ (i : Int) < 14020)) → (j ≠ 195 ∨ (i ≠ 17 ∧ i ≠ 18)) → τ10 j i = σ j i := fun j i h_0 h_1 => (hG10 j i (by omega)).trans (hF9 j i h_0 h_1)
        show hpV _ _ _ _ _ _ _ _ _ _ _ _ _ _ _ _ _ _ _ _ _ []
        have hO2 : hpRw (τ10 202) 20 L := hO.fr hLl (by decide) (fun i h1 h2 => hG10 202 i (by omega))
        have hA0 : hpRw (τ10 202) a0 [] := hpRw.nil hq10_0
        have hT2 := (hG10 195 17 (by omega)).trans hT
        refine h_iconst C dX9_step_56 ?_
        refine h_istore_n (lv' := [(3, .int (hpI 0)), (0, .ref (z + 195)), (1, .int (hpI a0)), (2, .int (hpI x1))]) C dX9_step_57 rfl (by decide) rfl ?_
        have L11 : ∀ (n11 : Nat) (τ11 : hpMem) (w11_3 : Int), 0 ≤ w11_3 → w11_3 ≤ 700 → w11_3 ≤ x1 → hpInv τ11 → (∀ j i : Nat, (j ≠ 202 ∨ (((i : Int) < 701 * a0 ∨ 701 * a0 + 700 < (i : Int)) ∧ (i : Int) < 14020)) → (j ≠ 195 ∨ (i ≠ 17 ∧ i ≠ 18)) → τ11 j i = σ j i) → (hpRw (τ11 202) 20 L) → (hpRw (τ11 202) a0 (hpSP (σ 195 16).toNat L w11_3.toNat)) → (τ11 195 17 = ((hpTk (σ 195 16).toNat L L.length : Nat) : Int)) → (4294967296 - w11_3) < (n11 : Int) → hpF p l e rgX9_step s m [.ref (z + 195), .int (hpI a0)] below meth c 5 D cy z (pgX9_step z σ a0 L) τ11 58 [(0, .ref (z + 195)), (1, .int (hpI a0)), (2, .int (hpI x1)), (3, .int (hpI w11_3))] [] := by
          intro n11
          induction n11 with
          | zero => intro τ11 w11_3 hv11_0 hv11_1 hv11_2 hI11 hF11 hM11_0 hM11_1 hM11_2 hm11; exfalso; omega
          | succ n11 ih11 =>
            intro τ11 w11_3 hv11_0 hv11_1 hv11_2 hI11 hF11 hM11_0 hM11_1 hM11_2 hm11
            refine h_iload_n C dX9_step_58 3 rfl rfl ?_
            refine h_iload_n C dX9_step_59 2 rfl rfl ?_
            refine h_icmp_ge (tgt := 112) C dX9_step_60 (by decide) ⟨by omega, by omega⟩ ⟨by omega, by omega⟩ (fun h12 => ?_) (fun h12 => ?_)
            · refine h_aload_n C dX9_step_112 0 rfl rfl ?_
              refine h_iload_n C dX9_step_113 1 rfl rfl ?_
              refine h_aload_n C dX9_step_114 0 rfl rfl ?_
              refine h_get C O9 17 kd_195 (by decide) wd_1273 dX9_step_115 (hp_fvI (by rw [kd_195]; rfl) rfl) ?_
              obtain ⟨hr13a, hr13b⟩ := hI11.b (bf_9_17 kd_195)
              generalize hg13 : τ11 195 17 = r13 at hr13a hr13b ⊢
              have htk := hV.tk (w := (σ 195 16).toNat)
              have hsm := hM11_1.1
              have hwl : (w11_3).toNat = L.length := by omega
              rw [hwl] at hsm
              refine h_callV (As := [.int (hpI a0), .int (hpI r13)]) (rest := []) C Z yyX9_lay wd_1532 (tgX9_lay l D cy z _ a0 ⟨by omega, by omega⟩ r13 ⟨by omega, by omega⟩ hI11 (by omega) (by omega)) kd_195 rfl rfl ⟨rfl, rfl, Nat.le_of_ble_eq_true rfl, Nat.le_of_ble_eq_true rfl⟩ ⟨Nat.le_of_ble_eq_true rfl, Nat.le_of_ble_eq_true rfl⟩ (Nat.le_of_ble_eq_true rfl) dX9_step_118 (fun r14 τ14 hp14 => ?_)
              obtain ⟨rfl, hI14, hG14, hq14_0⟩ := hp14
              have hF14 : ∀ j i : Nat, (j ≠ 202 ∨ (((i : Int) < 701 * a0 ∨ 701 * a0 + 700 < (i : Int)) ∧ (i : Int) < 14020)) → (j ≠ 195 ∨ (i ≠ 17 ∧ i ≠ 18)) → τ14 j i = σ j i := fun j i h_0 h_1 => (hG14 j i (by omega)).trans (hF11 j i h_0 h_1)
              show hpV _ _ _ _ _ _ _ _ _ _ _ _ _ _ _ _ _ _ _ _ _ []
              refine h_return C hr hlk dX9_step_121 ?_
              exact ⟨rfl, hI14, hF14, by have q := hq14_0 _ (by rw [hwl] at hM11_1; exact hM11_1); rw [show r13.toNat = hpTk (σ 195 16).toNat L L.length by omega] at q; exact q⟩
            · refine h_aload_n C dX9_step_63 0 rfl rfl ?_
              refine h_bipush C dX9_step_64 (by decide) ?_
              refine h_iload_n C dX9_step_66 3 rfl rfl ?_
              refine h_callV (As := [.int (hpI 20), .int (hpI w11_3)]) (rest := []) C Z yyX9_heightOf wd_1540 (tgX9_heightOf l D cy z _ 20 ⟨by decide, by decide⟩ w11_3 ⟨by omega, by omega⟩ hI11 (by omega) (by omega)) kd_195 rfl rfl ⟨rfl, rfl, Nat.le_of_ble_eq_true rfl, Nat.le_of_ble_eq_true rfl⟩ ⟨Nat.le_of_ble_eq_true rfl, Nat.le_of_ble_eq_true rfl⟩ (Nat.le_of_ble_eq_true rfl) dX9_step_67 (fun r15 τ15 hp15 => ?_)
              obtain ⟨⟨x15, rfl, ⟨hx15a, hx15b⟩, hx15⟩, rfl⟩ := hp15
              show hpV _ _ _ _ _ _ _ _ _ _ _ _ _ _ _ _ _ _ _ _ _ (_ :: _)
              refine h_aload_n C dX9_step_70 0 rfl rfl ?_
              refine h_bipush C dX9_step_71 (by decide) ?_
              refine h_iload_n C dX9_step_73 3 rfl rfl ?_
              refine h_callV (As := [.int (hpI 20), .int (hpI w11_3)]) (rest := [.int (hpI x15)]) C Z yyX9_offHeap wd_1567 (tgX9_offHeap l D cy z _ 20 ⟨by decide, by decide⟩ w11_3 ⟨by omega, by omega⟩ hI11 (by omega) (by omega)) kd_195 rfl rfl ⟨rfl, rfl, Nat.le_of_ble_eq_true rfl, Nat.le_of_ble_eq_true rfl⟩ ⟨Nat.le_of_ble_eq_true rfl, Nat.le_of_ble_eq_true rfl⟩ (Nat.le_of_ble_eq_true rfl) dX9_step_74 (fun r16 τ16 hp16 => ?_)
              obtain ⟨⟨x16, rfl, ⟨hx16a, hx16b⟩, hx16⟩, rfl⟩ := hp16
              show hpV _ _ _ _ _ _ _ _ _ _ _ _ _ _ _ _ _ _ _ _ _ (_ :: _)
              have hw17 : τ11 195 16 = σ 195 16 := hF11 195 16 (by omega) (by omega)
              have hge : (τ11 202 (701 * 20 + 1 + w11_3).toNat) = ((L.getD (w11_3).toNat 0 : Nat) : Int) := by have q := hM11_0.2 (w11_3).toNat (by omega); rw [show (((w11_3).toNat : Nat) : Int) = w11_3 by omega] at q; exact q
              have hge2 : (τ11 202 (701 * 20 + 1 + w11_3).toNat).toNat = L.getD (w11_3).toNat 0 := by omega
              rw [hw17, hge2] at hx16
              have hpo := hV.1 _ (hp_gd (L := L) (j := (w11_3).toNat) (by omega))
              have hon := hpOn_le (w := (σ 195 16).toNat) (i := (w11_3).toNat) hpo
              refine h_isub C dX9_step_77 rfl ?_
              refine h_istore (lv' := [(4, .int (hpI (x15 - x16))), (0, .ref (z + 195)), (1, .int (hpI a0)), (2, .int (hpI x1)), (3, .int (hpI w11_3))]) C dX9_step_78 (by decide) rfl ?_
              refine h_aload_n C dX9_step_80 1 rfl rfl ?_
              refine h_dup C rfl dX9_step_81 ?_
              refine h_get C O9 18 kd_195 (by decide) wd_1274 dX9_step_82 (hp_fvI (by rw [kd_195]; rfl) rfl) ?_
              obtain ⟨hr17a, hr17b⟩ := hI11.b (bf_9_18 kd_195)
              generalize hg17 : τ11 195 18 = r17 at hr17a hr17b ⊢
              refine h_iload C dX9_step_85 0 rfl ?_
              refine h_if_ne (tgt := 94) C dX9_step_87 (by decide) ⟨by omega, by omega⟩ (fun h18 => ?_) (fun h18 => ?_)
              · refine h_iconst C dX9_step_94 ?_
                refine h_iadd C dX9_step_95 rfl ?_
                refine h_put C O9 18 kd_195 (by decide) rfl wd_1274 dX9_step_96 rfl rfl (hp_fvI (by rw [kd_195]; rfl) hpu_at) ?_
                obtain ⟨τ19, e19⟩ : ∃ μ : hpMem, μ = hpw τ11 195 18 (r17 + 0) := ⟨_, rfl⟩
                rw [← e19]
                have hI19 : hpInv τ19 := by rw [e19]; exact hI11.w (bf_9_18 kd_195) (by omega) (by omega)
                have hF19 : ∀ j i : Nat, (j ≠ 202 ∨ (((i : Int) < 701 * a0 ∨ 701 * a0 + 700 < (i : Int)) ∧ (i : Int) < 14020)) → (j ≠ 195 ∨ (i ≠ 17 ∧ i ≠ 18)) → τ19 j i = σ j i := fun j i h_0 h_1 => by rw [e19]; exact (hpw_fr (by omega)).trans (hF11 j i h_0 h_1)
                have hg20 : τ19 195 18 = r17 + 0 := by rw [e19]; exact hpw_eq
                refine h_aload_n C dX9_step_99 1 rfl rfl ?_
                refine h_iload_n C dX9_step_100 2 rfl rfl ?_
                refine h_iload C dX9_step_101 0 rfl ?_
                have hsl := hpSP_len (σ 195 16).toNat L (w11_3).toNat
                have hsm := hM11_1.1
                have hs9 : τ19 202 (701 * a0).toNat = τ11 202 (701 * a0).toNat := by rw [e19]; exact hpw_fr (Or.inl (by decide))
                refine h_callV (As := [.int (hpI a0), .int (hpI (x15 - x16))]) (rest := []) C Z yyX9_lay wd_1532 (tgX9_lay l D cy z _ a0 ⟨by omega, by omega⟩ (x15 - x16) ⟨by omega, by omega⟩ hI19 (by omega) (by omega)) kd_195 rfl rfl ⟨rfl, rfl, Nat.le_of_ble_eq_true rfl, Nat.le_of_ble_eq_true rfl⟩ ⟨Nat.le_of_ble_eq_true rfl, Nat.le_of_ble_eq_true rfl⟩ (Nat.le_of_ble_eq_true rfl) dX9_step_103 (fun r21 τ21 hp21 => ?_)
                obtain ⟨rfl, hI21, hG21, hq21_0⟩ := hp21
                have hF21 : ∀ j i : Nat, (j ≠ 202 ∨ (((i : Int) < 701 * a0 ∨ 701 * a0 + 700 < (i : Int)) ∧ (i : Int) < 14020)) → (j ≠ 195 ∨ (i ≠ 17 ∧ i ≠ 18)) → τ21 j i = σ j i := fun j i h_0 h_1 => (hG21 j i (by omega)).trans (hF19 j i h_0 h_1)
                show hpV _ _ _ _ _ _ _ _ _ _ _ _ _ _ _ _ _ _ _ _ _ []
                refine h_iinc (lv' := [(3, .int (hpI (w11_3 + 1))), (4, .int (hpI (x15 - x16))), (0, .ref (z + 195)), (1, .int (hpI a0)), (2, .int (hpI x1))]) C dX9_step_106 4 rfl rfl (by decide) rfl ?_
                refine h_goto (tgt := 58) C dX9_step_109 (by decide) ?_
                exact hp_sub [2, 3, 4, 0] rfl (ih11 _ (w11_3 + 1) (by omega) (by omega) (by omega) hI21 hF21 (hM11_0.fr hLl (by decide) (fun i h1 h2 => (hG21 202 i (by omega)).trans (by rw [e19]; exact hpw_fr (Or.inl (by decide))))) (by rw [show (w11_3 + 1).toNat = (w11_3).toNat + 1 by omega]; have q := hq21_0 _ (hM11_1.same (fun i => by rw [e19]; exact hpw_fr (Or.inl (by decide)))); rw [show ((x15 - x16)).toNat = L.getD (w11_3).toNat 0 - hpOn (σ 195 16).toNat (w11_3).toNat (L.getD (w11_3).toNat 0) by omega] at q; exact q) ((hG21 195 17 (by omega)).trans (by rw [e19, hpw_fr (Or.inr (by decide))]; exact hM11_2)) (by omega))
              · refine h_iconst C dX9_step_90 ?_
                refine h_goto (tgt := 95) C dX9_step_91 (by decide) ?_
                refine h_iadd C dX9_step_95 rfl ?_
                refine hp_anyI (fun r22 hr22 => ?_)
                obtain ⟨hr22a, hr22b⟩ := hr22
                refine h_put C O9 18 kd_195 (by decide) rfl wd_1274 dX9_step_96 rfl rfl (hp_fvI (by rw [kd_195]; rfl) hpu_at) ?_
                obtain ⟨τ23, e23⟩ : ∃ μ : hpMem, μ = hpw τ11 195 18 r22 := ⟨_, rfl⟩
                rw [← e23]
                have hI23 : hpInv τ23 := by rw [e23]; exact hI11.w (bf_9_18 kd_195) (by omega) (by omega)
                have hF23 : ∀ j i : Nat, (j ≠ 202 ∨ (((i : Int) < 701 * a0 ∨ 701 * a0 + 700 < (i : Int)) ∧ (i : Int) < 14020)) → (j ≠ 195 ∨ (i ≠ 17 ∧ i ≠ 18)) → τ23 j i = σ j i := fun j i h_0 h_1 => by rw [e23]; exact (hpw_fr (by omega)).trans (hF11 j i h_0 h_1)
                have hg24 : τ23 195 18 = r22 := by rw [e23]; exact hpw_eq
                refine h_aload_n C dX9_step_99 1 rfl rfl ?_
                refine h_iload_n C dX9_step_100 2 rfl rfl ?_
                refine h_iload C dX9_step_101 0 rfl ?_
                have hsl := hpSP_len (σ 195 16).toNat L (w11_3).toNat
                have hsm := hM11_1.1
                have hs9 : τ23 202 (701 * a0).toNat = τ11 202 (701 * a0).toNat := by rw [e23]; exact hpw_fr (Or.inl (by decide))
                refine h_callV (As := [.int (hpI a0), .int (hpI (x15 - x16))]) (rest := []) C Z yyX9_lay wd_1532 (tgX9_lay l D cy z _ a0 ⟨by omega, by omega⟩ (x15 - x16) ⟨by omega, by omega⟩ hI23 (by omega) (by omega)) kd_195 rfl rfl ⟨rfl, rfl, Nat.le_of_ble_eq_true rfl, Nat.le_of_ble_eq_true rfl⟩ ⟨Nat.le_of_ble_eq_true rfl, Nat.le_of_ble_eq_true rfl⟩ (Nat.le_of_ble_eq_true rfl) dX9_step_103 (fun r25 τ25 hp25 => ?_)
                obtain ⟨rfl, hI25, hG25, hq25_0⟩ := hp25
                have hF25 : ∀ j i : Nat, (j ≠ 202 ∨ (((i : Int) < 701 * a0 ∨ 701 * a0 + 700 < (i : Int)) ∧ (i : Int) < 14020)) → (j ≠ 195 ∨ (i ≠ 17 ∧ i ≠ 18)) → τ25 j i = σ j i := fun j i h_0 h_1 => (hG25 j i (by omega)).trans (hF23 j i h_0 h_1)
                show hpV _ _ _ _ _ _ _ _ _ _ _ _ _ _ _ _ _ _ _ _ _ []
                refine h_iinc (lv' := [(3, .int (hpI (w11_3 + 1))), (4, .int (hpI (x15 - x16))), (0, .ref (z + 195)), (1, .int (hpI a0)), (2, .int (hpI x1))]) C dX9_step_106 4 rfl rfl (by decide) rfl ?_
                refine h_goto (tgt := 58) C dX9_step_109 (by decide) ?_
                exact hp_sub [2, 3, 4, 0] rfl (ih11 _ (w11_3 + 1) (by omega) (by omega) (by omega) hI25 hF25 (hM11_0.fr hLl (by decide) (fun i h1 h2 => (hG25 202 i (by omega)).trans (by rw [e23]; exact hpw_fr (Or.inl (by decide))))) (by rw [show (w11_3 + 1).toNat = (w11_3).toNat + 1 by omega]; have q := hq25_0 _ (hM11_1.same (fun i => by rw [e23]; exact hpw_fr (Or.inl (by decide)))); rw [show ((x15 - x16)).toNat = L.getD (w11_3).toNat 0 - hpOn (σ 195 16).toNat (w11_3).toNat (L.getD (w11_3).toNat 0) by omega] at q; exact q) ((hG25 195 17 (by omega)).trans (by rw [e23, hpw_fr (Or.inr (by decide))]; exact hM11_2)) (by omega))
        exact hp_sub [1, 2, 3, 0] rfl (L11 8589934592 _ 0 (by omega) (by omega) (by omega) hI10 hF10 hO2 hA0 (by rw [show L.length = (w7_3).toNat by omega]; exact hT2) (by omega))
      · refine h_aload_n C dX9_step_23 0 rfl rfl ?_
        refine h_dup C rfl dX9_step_24 ?_
        refine h_get C O9 17 kd_195 (by decide) wd_1273 dX9_step_25 (hp_fvI (by rw [kd_195]; rfl) rfl) ?_
        obtain ⟨hr26a, hr26b⟩ := hI7.b (bf_9_17 kd_195)
        generalize hg26 : τ7 195 17 = r26 at hr26a hr26b ⊢
        refine h_aload_n C dX9_step_28 0 rfl rfl ?_
        refine h_iload_n C dX9_step_29 1 rfl rfl ?_
        refine h_iload_n C dX9_step_30 3 rfl rfl ?_
        refine h_callV (As := [.int (hpI a0), .int (hpI w7_3)]) (rest := [.int (hpI r26), .ref (z + 195)]) C Z yyX9_offHeap wd_1567 (tgX9_offHeap l D cy z _ a0 ⟨by omega, by omega⟩ w7_3 ⟨by omega, by omega⟩ hI7 (by omega) (by omega)) kd_195 rfl rfl ⟨rfl, rfl, Nat.le_of_ble_eq_true rfl, Nat.le_of_ble_eq_true rfl⟩ ⟨Nat.le_of_ble_eq_true rfl, Nat.le_of_ble_eq_true rfl⟩ (Nat.le_of_ble_eq_true rfl) dX9_step_31 (fun r27 τ27 hp27 => ?_)
        obtain ⟨⟨x27, rfl, ⟨hx27a, hx27b⟩, hx27⟩, rfl⟩ := hp27
        show hpV _ _ _ _ _ _ _ _ _ _ _ _ _ _ _ _ _ _ _ _ _ (_ :: _)
        have hw16 : τ7 195 16 = σ 195 16 := hF7 195 16 (by omega) (by omega)
        have hgd : (τ7 202 (701 * a0 + 1 + w7_3).toNat) = ((L.getD (w7_3).toNat 0 : Nat) : Int) := by rw [hM7_1]; have q := hL.2 (w7_3).toNat (by omega); rw [show (((w7_3).toNat : Nat) : Int) = w7_3 by omega] at q; exact q
        have hgd2 : (τ7 202 (701 * a0 + 1 + w7_3).toNat).toNat = L.getD (w7_3).toNat 0 := by omega
        rw [hw16, hgd2] at hx27
        refine h_iadd C dX9_step_34 rfl ?_
        have hTk := hpTk_le (σ 195 16).toNat L (w7_3).toNat
        refine h_put C O9 17 kd_195 (by decide) rfl wd_1273 dX9_step_35 rfl rfl (hp_fvI (by rw [kd_195]; rfl) hpu_at) ?_
        obtain ⟨τ28, e28⟩ : ∃ μ : hpMem, μ = hpw τ7 195 17 (r26 + x27) := ⟨_, rfl⟩
        rw [← e28]
        have hI28 : hpInv τ28 := by rw [e28]; exact hI7.w (bf_9_17 kd_195) (by omega) (by omega)
        have hF28 : ∀ j i : Nat, (j ≠ 202 ∨ (((i : Int) < 701 * a0 ∨ 701 * a0 + 700 < (i : Int)) ∧ (i : Int) < 14020)) → (j ≠ 195 ∨ (i ≠ 17 ∧ i ≠ 18)) → τ28 j i = σ j i := fun j i h_0 h_1 => by rw [e28]; exact (hpw_fr (by omega)).trans (hF7 j i h_0 h_1)
        have hg29 : τ28 195 17 = r26 + x27 := by rw [e28]; exact hpw_eq
        refine h_iinc (lv' := [(3, .int (hpI (w7_3 + 1))), (0, .ref (z + 195)), (1, .int (hpI a0)), (2, .int (hpI x1))]) C dX9_step_38 3 rfl rfl (by decide) rfl ?_
        refine h_goto (tgt := 18) C dX9_step_41 (by decide) ?_
        exact hp_sub [1, 2, 3, 0] rfl (ih7 _ (w7_3 + 1) (by omega) (by omega) (by omega) hI28 hF28 (by rw [show (w7_3 + 1).toNat = (w7_3).toNat + 1 by omega]; have e1 : hpTk (σ 195 16).toNat L ((w7_3).toNat + 1) = hpTk (σ 195 16).toNat L (w7_3).toNat + hpOn (σ 195 16).toNat (w7_3).toNat (L.getD (w7_3).toNat 0) := rfl; rw [e1]; omega) (fun q => by rw [e28, hpw_fr (Or.inl (by decide))]; exact hM7_1 q) (by omega))
  exact hp_sub [2, 3, 1, 0] rfl (L7 8589934592 _ 0 (by omega) (by omega) (by omega) hI4 hF4 (by have e0 : hpTk (σ 195 16).toNat L (0 : Int).toNat = 0 := rfl; rw [e0]; omega) (fun q => by rw [e4, hpw_fr (Or.inl (by decide)), e2, hpw_fr (Or.inl (by decide))]) (by omega))
abbrev rgX9_isStair : Room := { frames := 1, cells := 0, slots := 0, locals := 22 }
abbrev pgX9_isStair (z : Nat) (σ : hpMem) (a0 : Int) : Option Value → hpMem → Prop := fun r τ => (∃ x : Int, r = some (.int (hpI x)) ∧ (0 ≤ x ∧ x ≤ 1)) ∧ σ = τ
set_option maxHeartbeats 4000000 in
set_option maxRecDepth 20000 in
theorem tgX9_isStair (l : Launch) (D : va_G) (cy : Nat → ClassId) (z : Nat) (σ : hpMem) (a0 : Int) (ha0 : hpR a0) (hI : hpInv σ) (hr0 : 0 ≤ a0 ∧ a0 ≤ 20) : hpM l D cy z yX9_isStair cX9_isStair 5 (some .boolean) rgX9_isStair [.ref (z + 195), .int (hpI a0)] σ (pgX9_isStair z σ a0) := by
  obtain ⟨ha01, ha02⟩ := ha0
  refine hp_met rfl (Nat.le_of_ble_eq_true rfl) (fun p e s m below meth c C Z hr hlk => ?_)
  refine h_aload_n C dX9_isStair_0 0 rfl rfl ?_
  refine h_iload_n C dX9_isStair_1 1 rfl rfl ?_
  refine h_callV (As := [.int (hpI a0)]) (rest := []) C Z yyX9_manyOf wd_1536 (tgX9_manyOf l D cy z _ a0 ⟨by omega, by omega⟩ hI (by omega)) kd_195 rfl rfl ⟨rfl, rfl, Nat.le_of_ble_eq_true rfl, Nat.le_of_ble_eq_true rfl⟩ ⟨Nat.le_of_ble_eq_true rfl, Nat.le_of_ble_eq_true rfl⟩ (Nat.le_of_ble_eq_true rfl) dX9_isStair_2 (fun r1 τ1 hp1 => ?_)
  obtain ⟨⟨x1, rfl, ⟨hx1a, hx1b⟩, hx1⟩, rfl⟩ := hp1
  show hpV _ _ _ _ _ _ _ _ _ _ _ _ _ _ _ _ _ _ _ _ _ (_ :: _)
  refine h_istore_n (lv' := [(2, .int (hpI x1)), (0, .ref (z + 195)), (1, .int (hpI a0))]) C dX9_isStair_5 rfl (by decide) rfl ?_
  refine h_iload_n C dX9_isStair_6 0 rfl rfl ?_
  refine h_if_le (tgt := 14) C dX9_isStair_7 (by decide) ⟨by omega, by omega⟩ (fun h2 => ?_) (fun h2 => ?_)
  · refine h_iconst C dX9_isStair_14 ?_
    refine h_istore_n (lv' := [(3, .int (hpI 0)), (2, .int (hpI x1)), (0, .ref (z + 195)), (1, .int (hpI a0))]) C dX9_isStair_15 rfl (by decide) rfl ?_
    refine h_iconst C dX9_isStair_16 ?_
    refine h_istore (lv' := [(4, .int (hpI 0)), (3, .int (hpI 0)), (2, .int (hpI x1)), (0, .ref (z + 195)), (1, .int (hpI a0))]) C dX9_isStair_17 (by decide) rfl ?_
    have L3 : ∀ (n3 : Nat) (w3_3 : Int) (w3_4 : Int), 0 ≤ w3_3 → w3_3 ≤ 1 → 0 ≤ w3_4 → w3_4 ≤ 700 → (4294967296 - w3_4) < (n3 : Int) → hpF p l e rgX9_isStair s m [.ref (z + 195), .int (hpI a0)] below meth c 5 D cy z (pgX9_isStair z σ a0) σ 19 [(0, .ref (z + 195)), (1, .int (hpI a0)), (2, .int (hpI x1)), (3, .int (hpI w3_3)), (4, .int (hpI w3_4))] [] := by
      intro n3
      induction n3 with
      | zero => intro w3_3 w3_4 hv3_0 hv3_1 hv3_2 hv3_3 hm3; exfalso; omega
      | succ n3 ih3 =>
        intro w3_3 w3_4 hv3_0 hv3_1 hv3_2 hv3_3 hm3
        refine h_iload C dX9_isStair_19 4 rfl ?_
        refine h_iload_n C dX9_isStair_21 2 rfl rfl ?_
        refine h_icmp_ge (tgt := 55) C dX9_isStair_22 (by decide) ⟨by omega, by omega⟩ ⟨by omega, by omega⟩ (fun h4 => ?_) (fun h4 => ?_)
        · refine h_iload_n C dX9_isStair_55 3 rfl rfl ?_
          refine h_zreturn C (by omega) hr hlk dX9_isStair_56 ?_
          exact ⟨⟨_, rfl, ⟨by omega, by omega⟩⟩, rfl⟩
        · exfalso; omega
    exact hp_sub [3, 4, 2, 1, 0] rfl (L3 8589934592 0 0 (by omega) (by omega) (by omega) (by omega) (by omega))
  · refine h_iconst C dX9_isStair_10 ?_
    refine h_goto (tgt := 15) C dX9_isStair_11 (by decide) ?_
    refine h_istore_n (lv' := [(3, .int (hpI 1)), (2, .int (hpI x1)), (0, .ref (z + 195)), (1, .int (hpI a0))]) C dX9_isStair_15 rfl (by decide) rfl ?_
    refine h_iconst C dX9_isStair_16 ?_
    refine h_istore (lv' := [(4, .int (hpI 0)), (3, .int (hpI 1)), (2, .int (hpI x1)), (0, .ref (z + 195)), (1, .int (hpI a0))]) C dX9_isStair_17 (by decide) rfl ?_
    have L5 : ∀ (n5 : Nat) (w5_3 : Int) (w5_4 : Int), 0 ≤ w5_3 → w5_3 ≤ 1 → 0 ≤ w5_4 → w5_4 ≤ 700 → (4294967296 - w5_4) < (n5 : Int) → hpF p l e rgX9_isStair s m [.ref (z + 195), .int (hpI a0)] below meth c 5 D cy z (pgX9_isStair z σ a0) σ 19 [(0, .ref (z + 195)), (1, .int (hpI a0)), (2, .int (hpI x1)), (3, .int (hpI w5_3)), (4, .int (hpI w5_4))] [] := by
      intro n5
      induction n5 with
      | zero => intro w5_3 w5_4 hv5_0 hv5_1 hv5_2 hv5_3 hm5; exfalso; omega
      | succ n5 ih5 =>
        intro w5_3 w5_4 hv5_0 hv5_1 hv5_2 hv5_3 hm5
        refine h_iload C dX9_isStair_19 4 rfl ?_
        refine h_iload_n C dX9_isStair_21 2 rfl rfl ?_
        refine h_icmp_ge (tgt := 55) C dX9_isStair_22 (by decide) ⟨by omega, by omega⟩ ⟨by omega, by omega⟩ (fun h6 => ?_) (fun h6 => ?_)
        · refine h_iload_n C dX9_isStair_55 3 rfl rfl ?_
          refine h_zreturn C (by omega) hr hlk dX9_isStair_56 ?_
          exact ⟨⟨_, rfl, ⟨by omega, by omega⟩⟩, rfl⟩
        · refine h_iload_n C dX9_isStair_25 3 rfl rfl ?_
          refine h_if_eq (tgt := 55) C dX9_isStair_26 (by decide) ⟨by omega, by omega⟩ (fun h7 => ?_) (fun h7 => ?_)
          · refine h_iload_n C dX9_isStair_55 3 rfl rfl ?_
            refine h_zreturn C (by omega) hr hlk dX9_isStair_56 ?_
            exact ⟨⟨_, rfl, ⟨by omega, by omega⟩⟩, rfl⟩
          · refine h_aload_n C dX9_isStair_29 0 rfl rfl ?_
            refine h_iload_n C dX9_isStair_30 1 rfl rfl ?_
            refine h_iload C dX9_isStair_31 4 rfl ?_
            refine h_callV (As := [.int (hpI a0), .int (hpI w5_4)]) (rest := []) C Z yyX9_heightOf wd_1540 (tgX9_heightOf l D cy z _ a0 ⟨by omega, by omega⟩ w5_4 ⟨by omega, by omega⟩ hI (by omega) (by omega)) kd_195 rfl rfl ⟨rfl, rfl, Nat.le_of_ble_eq_true rfl, Nat.le_of_ble_eq_true rfl⟩ ⟨Nat.le_of_ble_eq_true rfl, Nat.le_of_ble_eq_true rfl⟩ (Nat.le_of_ble_eq_true rfl) dX9_isStair_33 (fun r8 τ8 hp8 => ?_)
            obtain ⟨⟨x8, rfl, ⟨hx8a, hx8b⟩, hx8⟩, rfl⟩ := hp8
            show hpV _ _ _ _ _ _ _ _ _ _ _ _ _ _ _ _ _ _ _ _ _ (_ :: _)
            refine h_iload_n C dX9_isStair_36 2 rfl rfl ?_
            refine h_iload C dX9_isStair_37 4 rfl ?_
            refine h_isub C dX9_isStair_39 rfl ?_
            refine h_icmp_ne (tgt := 47) C dX9_isStair_40 (by decide) ⟨by omega, by omega⟩ ⟨by omega, by omega⟩ (fun h9 => ?_) (fun h9 => ?_)
            · refine h_iconst C dX9_isStair_47 ?_
              refine h_istore_n (lv' := [(3, .int (hpI 0)), (0, .ref (z + 195)), (1, .int (hpI a0)), (2, .int (hpI x1)), (4, .int (hpI w5_4))]) C dX9_isStair_48 rfl (by decide) rfl ?_
              refine h_iinc (lv' := [(4, .int (hpI (w5_4 + 1))), (3, .int (hpI 0)), (0, .ref (z + 195)), (1, .int (hpI a0)), (2, .int (hpI x1))]) C dX9_isStair_49 4 rfl rfl (by decide) rfl ?_
              refine h_goto (tgt := 19) C dX9_isStair_52 (by decide) ?_
              exact hp_sub [2, 3, 4, 1, 0] rfl (ih5 0 (w5_4 + 1) (by omega) (by omega) (by omega) (by omega) (by omega))
            · refine h_iconst C dX9_isStair_43 ?_
              refine h_goto (tgt := 48) C dX9_isStair_44 (by decide) ?_
              refine h_istore_n (lv' := [(3, .int (hpI 1)), (0, .ref (z + 195)), (1, .int (hpI a0)), (2, .int (hpI x1)), (4, .int (hpI w5_4))]) C dX9_isStair_48 rfl (by decide) rfl ?_
              refine h_iinc (lv' := [(4, .int (hpI (w5_4 + 1))), (3, .int (hpI 1)), (0, .ref (z + 195)), (1, .int (hpI a0)), (2, .int (hpI x1))]) C dX9_isStair_49 4 rfl rfl (by decide) rfl ?_
              refine h_goto (tgt := 19) C dX9_isStair_52 (by decide) ?_
              exact hp_sub [2, 3, 4, 1, 0] rfl (ih5 1 (w5_4 + 1) (by omega) (by omega) (by omega) (by omega) (by omega))
    exact hp_sub [3, 4, 2, 1, 0] rfl (L5 8589934592 1 0 (by omega) (by omega) (by omega) (by omega) (by omega))
abbrev rgX9_asItIs : Room := { frames := 0, cells := 0, slots := 0, locals := 0 }
abbrev pgX9_asItIs (z : Nat) (σ : hpMem) : Option Value → hpMem → Prop := fun r τ => r = none ∧ hpInv τ ∧ (∀ j i : Nat, j ≠ 203 → j ≠ 204 → (j ≠ 195 ∨ (i ≠ 16 ∧ i ≠ 21 ∧ i ≠ 22 ∧ i ≠ 23)) → τ j i = σ j i)
set_option maxHeartbeats 4000000 in
set_option maxRecDepth 20000 in
theorem tgX9_asItIs (l : Launch) (D : va_G) (cy : Nat → ClassId) (z : Nat) (σ : hpMem) (hI : hpInv σ) : hpM l D cy z yX9_asItIs cX9_asItIs 2 none rgX9_asItIs [.ref (z + 195)] σ (pgX9_asItIs z σ) := by
  refine hp_met rfl (Nat.le_of_ble_eq_true rfl) (fun p e s m below meth c C Z hr hlk => ?_)
  have hF0 : ∀ j i : Nat, j ≠ 203 → j ≠ 204 → (j ≠ 195 ∨ (i ≠ 16 ∧ i ≠ 21 ∧ i ≠ 22 ∧ i ≠ 23)) → σ j i = σ j i := fun j i _ _ _ => rfl
  refine h_aload_n C dX9_asItIs_0 0 rfl rfl ?_
  refine h_aload_n C dX9_asItIs_1 0 rfl rfl ?_
  refine h_get C O9 1 kd_195 (by decide) wd_1257 dX9_asItIs_2 fr_195_1 ?_
  refine h_iconst C dX9_asItIs_5 ?_
  refine h_iaload C dX9_asItIs_6 kd_196 1 rfl (by rw [ln_196]; decide) rfl ?_
  obtain ⟨hr1a, hr1b⟩ := hI.b ((bw_196 1).trans (show hpwb 1 = (0, 3) by decide))
  generalize hg1 : σ 196 1 = r1 at hr1a hr1b ⊢
  refine h_put C O9 16 kd_195 (by decide) rfl wd_1272 dX9_asItIs_7 rfl rfl (hp_fvI (by rw [kd_195]; rfl) hpu_at) ?_
  obtain ⟨τ2, e2⟩ : ∃ μ : hpMem, μ = hpw σ 195 16 r1 := ⟨_, rfl⟩
  rw [← e2]
  have hI2 : hpInv τ2 := by rw [e2]; exact hI.w (bf_9_16 kd_195) (by omega) (by omega)
  have hF2 : ∀ j i : Nat, j ≠ 203 → j ≠ 204 → (j ≠ 195 ∨ (i ≠ 16 ∧ i ≠ 21 ∧ i ≠ 22 ∧ i ≠ 23)) → τ2 j i = σ j i := fun j i h_0 h_1 h_2 => by rw [e2]; exact (hpw_fr (by omega)).trans (hF0 j i h_0 h_1 h_2)
  have hg3 : τ2 196 1 = r1 := by rw [e2]; exact (hpw_fr (Or.inl (by omega))).trans hg1
  have hg4 : τ2 195 16 = r1 := by rw [e2]; exact hpw_eq
  refine h_aload_n C dX9_asItIs_10 0 rfl rfl ?_
  refine h_iconst C dX9_asItIs_11 ?_
  refine h_put C O9 21 kd_195 (by decide) rfl wd_1277 dX9_asItIs_12 rfl rfl (hp_fvI (by rw [kd_195]; rfl) hpu_at) ?_
  obtain ⟨τ5, e5⟩ : ∃ μ : hpMem, μ = hpw τ2 195 21 0 := ⟨_, rfl⟩
  rw [← e5]
  have hI5 : hpInv τ5 := by rw [e5]; exact hI2.w (bf_9_21 kd_195) (by omega) (by omega)
  have hF5 : ∀ j i : Nat, j ≠ 203 → j ≠ 204 → (j ≠ 195 ∨ (i ≠ 16 ∧ i ≠ 21 ∧ i ≠ 22 ∧ i ≠ 23)) → τ5 j i = σ j i := fun j i h_0 h_1 h_2 => by rw [e5]; exact (hpw_fr (by omega)).trans (hF2 j i h_0 h_1 h_2)
  have hg6 : τ5 196 1 = r1 := by rw [e5]; exact (hpw_fr (Or.inl (by omega))).trans hg3
  have hg7 : τ5 195 16 = r1 := by rw [e5]; exact (hpw_fr (Or.inr (by decide))).trans hg4
  have hg8 : τ5 195 21 = 0 := by rw [e5]; exact hpw_eq
  refine h_aload_n C dX9_asItIs_15 0 rfl rfl ?_
  refine h_bipush C dX9_asItIs_16 (by decide) ?_
  refine h_put C O9 22 kd_195 (by decide) rfl wd_1278 dX9_asItIs_18 rfl rfl (hp_fvI (by rw [kd_195]; rfl) hpu_at) ?_
  obtain ⟨τ9, e9⟩ : ∃ μ : hpMem, μ = hpw τ5 195 22 63 := ⟨_, rfl⟩
  rw [← e9]
  have hI9 : hpInv τ9 := by rw [e9]; exact hI5.w (bf_9_22 kd_195) (by omega) (by omega)
  have hF9 : ∀ j i : Nat, j ≠ 203 → j ≠ 204 → (j ≠ 195 ∨ (i ≠ 16 ∧ i ≠ 21 ∧ i ≠ 22 ∧ i ≠ 23)) → τ9 j i = σ j i := fun j i h_0 h_1 h_2 => by rw [e9]; exact (hpw_fr (by omega)).trans (hF5 j i h_0 h_1 h_2)
  have hg10 : τ9 196 1 = r1 := by rw [e9]; exact (hpw_fr (Or.inl (by omega))).trans hg6
  have hg11 : τ9 195 16 = r1 := by rw [e9]; exact (hpw_fr (Or.inr (by decide))).trans hg7
  have hg12 : τ9 195 21 = 0 := by rw [e9]; exact (hpw_fr (Or.inr (by decide))).trans hg8
  have hg13 : τ9 195 22 = 63 := by rw [e9]; exact hpw_eq
  refine h_aload_n C dX9_asItIs_21 0 rfl rfl ?_
  refine h_iconst C dX9_asItIs_22 ?_
  refine h_put C O9 23 kd_195 (by decide) rfl wd_1279 dX9_asItIs_23 rfl rfl (hp_fvI (by rw [kd_195]; rfl) hpu_at) ?_
  obtain ⟨τ14, e14⟩ : ∃ μ : hpMem, μ = hpw τ9 195 23 (-1) := ⟨_, rfl⟩
  rw [← e14]
  have hI14 : hpInv τ14 := by rw [e14]; exact hI9.w (bf_9_23 kd_195) (by omega) (by omega)
  have hF14 : ∀ j i : Nat, j ≠ 203 → j ≠ 204 → (j ≠ 195 ∨ (i ≠ 16 ∧ i ≠ 21 ∧ i ≠ 22 ∧ i ≠ 23)) → τ14 j i = σ j i := fun j i h_0 h_1 h_2 => by rw [e14]; exact (hpw_fr (by omega)).trans (hF9 j i h_0 h_1 h_2)
  have hg15 : τ14 196 1 = r1 := by rw [e14]; exact (hpw_fr (Or.inl (by omega))).trans hg10
  have hg16 : τ14 195 16 = r1 := by rw [e14]; exact (hpw_fr (Or.inr (by decide))).trans hg11
  have hg17 : τ14 195 21 = 0 := by rw [e14]; exact (hpw_fr (Or.inr (by decide))).trans hg12
  have hg18 : τ14 195 22 = 63 := by rw [e14]; exact (hpw_fr (Or.inr (by decide))).trans hg13
  have hg19 : τ14 195 23 = (-1) := by rw [e14]; exact hpw_eq
  refine h_iconst C dX9_asItIs_26 ?_
  refine h_istore_n (lv' := [(1, .int (hpI 0)), (0, .ref (z + 195))]) C dX9_asItIs_27 rfl (by decide) rfl ?_
  have L20 : ∀ (n20 : Nat) (τ20 : hpMem) (w20_1 : Int), 0 ≤ w20_1 → w20_1 ≤ 2147483647 → hpInv τ20 → (∀ j i : Nat, j ≠ 203 → j ≠ 204 → (j ≠ 195 ∨ (i ≠ 16 ∧ i ≠ 21 ∧ i ≠ 22 ∧ i ≠ 23)) → τ20 j i = σ j i) → (4294967296 - w20_1) < (n20 : Int) → hpF p l e rgX9_asItIs s m [.ref (z + 195)] below meth c 2 D cy z (pgX9_asItIs z σ) τ20 28 [(0, .ref (z + 195)), (1, .int (hpI w20_1))] [] := by
    intro n20
    induction n20 with
    | zero => intro τ20 w20_1 hv20_0 hv20_1 hI20 hF20 hm20; exfalso; omega
    | succ n20 ih20 =>
      intro τ20 w20_1 hv20_0 hv20_1 hI20 hF20 hm20
      refine h_iload_n C dX9_asItIs_28 1 rfl rfl ?_
      refine h_bipush C dX9_asItIs_29 (by decide) ?_
      refine h_icmp_ge (tgt := 55) C dX9_asItIs_31 (by decide) ⟨by omega, by omega⟩ ⟨by decide, by decide⟩ (fun h21 => ?_) (fun h21 => ?_)
      · refine h_iconst C dX9_asItIs_55 ?_
        refine h_istore_n (lv' := [(1, .int (hpI 0)), (0, .ref (z + 195))]) C dX9_asItIs_56 rfl (by decide) rfl ?_
        have L22 : ∀ (n22 : Nat) (τ22 : hpMem) (w22_1 : Int), 0 ≤ w22_1 → w22_1 ≤ 2147483647 → hpInv τ22 → (∀ j i : Nat, j ≠ 203 → j ≠ 204 → (j ≠ 195 ∨ (i ≠ 16 ∧ i ≠ 21 ∧ i ≠ 22 ∧ i ≠ 23)) → τ22 j i = σ j i) → (4294967296 - w22_1) < (n22 : Int) → hpF p l e rgX9_asItIs s m [.ref (z + 195)] below meth c 2 D cy z (pgX9_asItIs z σ) τ22 57 [(0, .ref (z + 195)), (1, .int (hpI w22_1))] [] := by
          intro n22
          induction n22 with
          | zero => intro τ22 w22_1 hv22_0 hv22_1 hI22 hF22 hm22; exfalso; omega
          | succ n22 ih22 =>
            intro τ22 w22_1 hv22_0 hv22_1 hI22 hF22 hm22
            refine h_iload_n C dX9_asItIs_57 1 rfl rfl ?_
            refine h_bipush C dX9_asItIs_58 (by decide) ?_
            refine h_icmp_ge (tgt := 88) C dX9_asItIs_60 (by decide) ⟨by omega, by omega⟩ ⟨by decide, by decide⟩ (fun h23 => ?_) (fun h23 => ?_)
            · refine h_return C hr hlk dX9_asItIs_88 ?_
              exact ⟨rfl, hI22, hF22⟩
            · refine h_aload_n C dX9_asItIs_63 0 rfl rfl ?_
              refine h_get C O9 20 kd_195 (by decide) wd_1276 dX9_asItIs_64 fr_195_20 ?_
              refine h_iload_n C dX9_asItIs_67 1 rfl rfl ?_
              refine h_aload_n C dX9_asItIs_68 0 rfl rfl ?_
              refine h_get C O9 1 kd_195 (by decide) wd_1257 dX9_asItIs_69 fr_195_1 ?_
              refine h_bipush C dX9_asItIs_72 (by decide) ?_
              refine h_iconst C dX9_asItIs_74 ?_
              refine h_iload_n C dX9_asItIs_75 1 rfl rfl ?_
              refine h_imul C dX9_asItIs_76 rfl ?_
              refine h_iadd C dX9_asItIs_77 rfl ?_
              refine h_iconst C dX9_asItIs_78 ?_
              refine h_iadd C dX9_asItIs_79 rfl ?_
              refine h_iaload C dX9_asItIs_80 kd_196 ((15 + (2 * w22_1)) + 1).toNat (Int.toNat_of_nonneg (by omega)) (by rw [ln_196]; omega) rfl ?_
              obtain ⟨hr24a, hr24b⟩ := hpInv.r196 hI22 (((15 + (2 * w22_1)) + 1).toNat) 16 26 (0) 20 (by omega) (by omega) (by decide)
              generalize hg24 : τ22 196 (((15 + (2 * w22_1)) + 1).toNat) = r24 at hr24a hr24b ⊢
              refine h_iastore C dX9_asItIs_81 kd_204 (w22_1).toNat (Int.toNat_of_nonneg (by omega)) (by rw [ln_204]; omega) ?_
              obtain ⟨τ25, e25⟩ : ∃ μ : hpMem, μ = hpw τ22 204 ((w22_1).toNat) r24 := ⟨_, rfl⟩
              rw [← e25]
              have hI25 : hpInv τ25 := by rw [e25]; exact hI22.w (bo_204 _) (by omega) (by omega)
              have hF25 : ∀ j i : Nat, j ≠ 203 → j ≠ 204 → (j ≠ 195 ∨ (i ≠ 16 ∧ i ≠ 21 ∧ i ≠ 22 ∧ i ≠ 23)) → τ25 j i = σ j i := fun j i h_0 h_1 h_2 => by rw [e25]; exact (hpw_fr (by omega)).trans (hF22 j i h_0 h_1 h_2)
              have hg26 : τ25 196 (((15 + (2 * w22_1)) + 1).toNat) = r24 := by rw [e25]; exact (hpw_fr (Or.inl (by omega))).trans hg24
              refine h_iinc (lv' := [(1, .int (hpI (w22_1 + 1))), (0, .ref (z + 195))]) C dX9_asItIs_82 1 rfl rfl (by decide) rfl ?_
              refine h_goto (tgt := 57) C dX9_asItIs_85 (by decide) ?_
              exact hp_sub [1, 0] rfl (ih22 _ (w22_1 + 1) (by omega) (by omega) hI25 hF25 (by omega))
        exact hp_sub [1, 0] rfl (L22 8589934592 _ 0 (by omega) (by omega) hI20 hF20 (by omega))
      · refine h_aload_n C dX9_asItIs_34 0 rfl rfl ?_
        refine h_get C O9 19 kd_195 (by decide) wd_1275 dX9_asItIs_35 fr_195_19 ?_
        refine h_iload_n C dX9_asItIs_38 1 rfl rfl ?_
        refine h_aload_n C dX9_asItIs_39 0 rfl rfl ?_
        refine h_get C O9 1 kd_195 (by decide) wd_1257 dX9_asItIs_40 fr_195_1 ?_
        refine h_bipush C dX9_asItIs_43 (by decide) ?_
        refine h_iload_n C dX9_asItIs_45 1 rfl rfl ?_
        refine h_iadd C dX9_asItIs_46 rfl ?_
        refine h_iaload C dX9_asItIs_47 kd_196 (7 + w20_1).toNat (Int.toNat_of_nonneg (by omega)) (by rw [ln_196]; omega) rfl ?_
        obtain ⟨hr27a, hr27b⟩ := hpInv.r196 hI20 ((7 + w20_1).toNat) 7 14 (0) 20 (by omega) (by omega) (by decide)
        generalize hg27 : τ20 196 ((7 + w20_1).toNat) = r27 at hr27a hr27b ⊢
        refine h_iastore C dX9_asItIs_48 kd_203 (w20_1).toNat (Int.toNat_of_nonneg (by omega)) (by rw [ln_203]; omega) ?_
        obtain ⟨τ28, e28⟩ : ∃ μ : hpMem, μ = hpw τ20 203 ((w20_1).toNat) r27 := ⟨_, rfl⟩
        rw [← e28]
        have hI28 : hpInv τ28 := by rw [e28]; exact hI20.w (bo_203 _) (by omega) (by omega)
        have hF28 : ∀ j i : Nat, j ≠ 203 → j ≠ 204 → (j ≠ 195 ∨ (i ≠ 16 ∧ i ≠ 21 ∧ i ≠ 22 ∧ i ≠ 23)) → τ28 j i = σ j i := fun j i h_0 h_1 h_2 => by rw [e28]; exact (hpw_fr (by omega)).trans (hF20 j i h_0 h_1 h_2)
        have hg29 : τ28 196 ((7 + w20_1).toNat) = r27 := by rw [e28]; exact (hpw_fr (Or.inl (by omega))).trans hg27
        refine h_iinc (lv' := [(1, .int (hpI (w20_1 + 1))), (0, .ref (z + 195))]) C dX9_asItIs_49 1 rfl rfl (by decide) rfl ?_
        refine h_goto (tgt := 28) C dX9_asItIs_52 (by decide) ?_
        exact hp_sub [1, 0] rfl (ih20 _ (w20_1 + 1) (by omega) (by omega) hI28 hF28 (by omega))
  exact hp_sub [1, 0] rfl (L20 8589934592 _ 0 (by omega) (by omega) hI14 hF14 (by omega))
abbrev rgX9_beginDay : Room := { frames := 2, cells := 0, slots := 0, locals := 45 }
abbrev pgX9_beginDay (z : Nat) (σ : hpMem) (a0 : Int) (B : Int) : Option Value → hpMem → Prop := fun r τ => r = none ∧ hpInv τ ∧ (∀ j i : Nat, (j ≠ 202 ∨ (i : Int) < 701 * 17 ∨ 701 * 17 + 700 < (i : Int)) → τ j i = σ j i) ∧ (hpLe (τ 202) 17 (B + 20 * hpC1 (σ 204) a0 (σ 196 4).toNat + 20 * hpC1 (fun q => σ 196 (27 + q) % 100) a0 (σ 196 5).toNat + hpE1 (σ 195 23) a0))
set_option maxHeartbeats 4000000 in
set_option maxRecDepth 20000 in
theorem tgX9_beginDay (l : Launch) (D : va_G) (cy : Nat → ClassId) (z : Nat) (σ : hpMem) (a0 : Int) (ha0 : hpR a0) (hI : hpInv σ) (B : Int) (hd0 : 0 ≤ a0 ∧ a0 ≤ 16) (hB : hpLe (σ 202) 17 B) (hW : B + 20 * hpC1 (σ 204) a0 (σ 196 4).toNat + 20 * hpC1 (fun q => σ 196 (27 + q) % 100) a0 (σ 196 5).toNat + hpE1 (σ 195 23) a0 ≤ 700) : hpM l D cy z yX9_beginDay cX9_beginDay 3 none rgX9_beginDay [.ref (z + 195), .int (hpI a0)] σ (pgX9_beginDay z σ a0 B) := by
  obtain ⟨ha01, ha02⟩ := ha0
  refine hp_met rfl (Nat.le_of_ble_eq_true rfl) (fun p e s m below meth c C Z hr hlk => ?_)
  have hF0 : ∀ j i : Nat, (j ≠ 202 ∨ (i : Int) < 701 * 17 ∨ 701 * 17 + 700 < (i : Int)) → σ j i = σ j i := fun j i _ => rfl
  have n1 := hpC1_0 (σ 204) a0 (σ 196 4).toNat
  have n2 := hpC1_0 (fun q => σ 196 (27 + q) % 100) a0 (σ 196 5).toNat
  have n3 := hpE1_b (σ 195 23) a0
  have b4 := hI.b ((bw_196 4).trans (show hpwb 4 = (0, 6) by decide))
  have b5 := hI.b ((bw_196 5).trans (show hpwb 5 = (0, 20) by decide))
  refine h_iconst C dX9_beginDay_0 ?_
  refine h_istore_n (lv' := [(2, .int (hpI 0)), (0, .ref (z + 195)), (1, .int (hpI a0))]) C dX9_beginDay_1 rfl (by decide) rfl ?_
  have L1 : ∀ (n1 : Nat) (τ1 : hpMem) (w1_2 : Int), 0 ≤ w1_2 → w1_2 ≤ 6 → w1_2 ≤ σ 196 4 → hpInv τ1 → (∀ j i : Nat, (j ≠ 202 ∨ (i : Int) < 701 * 17 ∨ 701 * 17 + 700 < (i : Int)) → τ1 j i = σ j i) → (hpLe (τ1 202) 17 (B + 20 * hpC1 (σ 204) a0 w1_2.toNat)) → (4294967296 - w1_2) < (n1 : Int) → hpF p l e rgX9_beginDay s m [.ref (z + 195), .int (hpI a0)] below meth c 3 D cy z (pgX9_beginDay z σ a0 B) τ1 2 [(0, .ref (z + 195)), (1, .int (hpI a0)), (2, .int (hpI w1_2))] [] := by
    intro n1
    induction n1 with
    | zero => intro τ1 w1_2 hv1_0 hv1_1 hv1_2 hI1 hF1 hM1_0 hm1; exfalso; omega
    | succ n1 ih1 =>
      intro τ1 w1_2 hv1_0 hv1_1 hv1_2 hI1 hF1 hM1_0 hm1
      refine h_iload_n C dX9_beginDay_2 2 rfl rfl ?_
      refine h_aload_n C dX9_beginDay_3 0 rfl rfl ?_
      refine h_callV (As := []) (rest := [.int (hpI w1_2)]) C Z yyX9_cartMany wd_1504 (tgX9_cartMany l D cy z _ hI1) kd_195 rfl rfl ⟨rfl, rfl, Nat.le_of_ble_eq_true rfl, Nat.le_of_ble_eq_true rfl⟩ ⟨Nat.le_of_ble_eq_true rfl, Nat.le_of_ble_eq_true rfl⟩ (Nat.le_of_ble_eq_true rfl) dX9_beginDay_4 (fun r2 τ2 hp2 => ?_)
      obtain ⟨⟨x2, rfl, ⟨hx2a, hx2b⟩, hx2⟩, rfl⟩ := hp2
      show hpV _ _ _ _ _ _ _ _ _ _ _ _ _ _ _ _ _ _ _ _ _ (_ :: _)
      have hq4 := hF1 196 4 (by omega)
      refine h_icmp_ge (tgt := 55) C dX9_beginDay_7 (by decide) ⟨by omega, by omega⟩ ⟨by omega, by omega⟩ (fun h3 => ?_) (fun h3 => ?_)
      · refine h_iconst C dX9_beginDay_55 ?_
        refine h_istore_n (lv' := [(2, .int (hpI 0)), (0, .ref (z + 195)), (1, .int (hpI a0))]) C dX9_beginDay_56 rfl (by decide) rfl ?_
        have L4 : ∀ (n4 : Nat) (τ4 : hpMem) (w4_2 : Int), 0 ≤ w4_2 → w4_2 ≤ 20 → w4_2 ≤ σ 196 5 → hpInv τ4 → (∀ j i : Nat, (j ≠ 202 ∨ (i : Int) < 701 * 17 ∨ 701 * 17 + 700 < (i : Int)) → τ4 j i = σ j i) → (hpLe (τ4 202) 17 (B + 20 * hpC1 (σ 204) a0 (σ 196 4).toNat + 20 * hpC1 (fun q => σ 196 (27 + q) % 100) a0 w4_2.toNat)) → (4294967296 - w4_2) < (n4 : Int) → hpF p l e rgX9_beginDay s m [.ref (z + 195), .int (hpI a0)] below meth c 3 D cy z (pgX9_beginDay z σ a0 B) τ4 57 [(0, .ref (z + 195)), (1, .int (hpI a0)), (2, .int (hpI w4_2))] [] := by
          intro n4
          induction n4 with
          | zero => intro τ4 w4_2 hv4_0 hv4_1 hv4_2 hI4 hF4 hM4_0 hm4; exfalso; omega
          | succ n4 ih4 =>
            intro τ4 w4_2 hv4_0 hv4_1 hv4_2 hI4 hF4 hM4_0 hm4
            refine h_iload_n C dX9_beginDay_57 2 rfl rfl ?_
            refine h_aload_n C dX9_beginDay_58 0 rfl rfl ?_
            refine h_get C O9 1 kd_195 (by decide) wd_1257 dX9_beginDay_59 fr_195_1 ?_
            refine h_iconst C dX9_beginDay_62 ?_
            refine h_iaload C dX9_beginDay_63 kd_196 5 rfl (by rw [ln_196]; decide) rfl ?_
            obtain ⟨hr5a, hr5b⟩ := hI4.b ((bw_196 5).trans (show hpwb 5 = (0, 20) by decide))
            generalize hg5 : τ4 196 5 = r5 at hr5a hr5b ⊢
            have hq5 := hF4 196 5 (by omega)
            refine h_icmp_ge (tgt := 107) C dX9_beginDay_64 (by decide) ⟨by omega, by omega⟩ ⟨by omega, by omega⟩ (fun h6 => ?_) (fun h6 => ?_)
            · refine h_aload_n C dX9_beginDay_107 0 rfl rfl ?_
              refine h_get C O9 23 kd_195 (by decide) wd_1279 dX9_beginDay_108 (hp_fvI (by rw [kd_195]; rfl) rfl) ?_
              obtain ⟨hr7a, hr7b⟩ := hI4.b (bf_9_23 kd_195)
              generalize hg7 : τ4 195 23 = r7 at hr7a hr7b ⊢
              refine h_iload_n C dX9_beginDay_111 1 rfl rfl ?_
              have h23 := hF4 195 23 (by omega)
              refine h_icmp_ne (tgt := 125) C dX9_beginDay_112 (by decide) ⟨by omega, by omega⟩ ⟨by omega, by omega⟩ (fun h8 => ?_) (fun h8 => ?_)
              · refine h_iconst C dX9_beginDay_125 ?_
                refine h_istore_n (lv' := [(2, .int (hpI 0)), (0, .ref (z + 195)), (1, .int (hpI a0))]) C dX9_beginDay_126 rfl (by decide) rfl ?_
                have L9 : ∀ (n9 : Nat) (τ9 : hpMem) (w9_2 : Int), 0 ≤ w9_2 → w9_2 ≤ 20 → hpInv τ9 → (∀ j i : Nat, (j ≠ 202 ∨ (i : Int) < 701 * 17 ∨ 701 * 17 + 700 < (i : Int)) → τ9 j i = σ j i) → (hpLe (τ9 202) 17 (B + 20 * hpC1 (σ 204) a0 (σ 196 4).toNat + 20 * hpC1 (fun q => σ 196 (27 + q) % 100) a0 (σ 196 5).toNat + hpE1 (σ 195 23) a0)) → (4294967296 - w9_2) < (n9 : Int) → hpF p l e rgX9_beginDay s m [.ref (z + 195), .int (hpI a0)] below meth c 3 D cy z (pgX9_beginDay z σ a0 B) τ9 127 [(0, .ref (z + 195)), (1, .int (hpI a0)), (2, .int (hpI w9_2))] [] := by
                  intro n9
                  induction n9 with
                  | zero => intro τ9 w9_2 hv9_0 hv9_1 hI9 hF9 hM9_0 hm9; exfalso; omega
                  | succ n9 ih9 =>
                    intro τ9 w9_2 hv9_0 hv9_1 hI9 hF9 hM9_0 hm9
                    refine h_iload_n C dX9_beginDay_127 2 rfl rfl ?_
                    refine h_aload_n C dX9_beginDay_128 0 rfl rfl ?_
                    refine h_get C O9 1 kd_195 (by decide) wd_1257 dX9_beginDay_129 fr_195_1 ?_
                    refine h_iconst C dX9_beginDay_132 ?_
                    refine h_iaload C dX9_beginDay_133 kd_196 5 rfl (by rw [ln_196]; decide) rfl ?_
                    obtain ⟨hr10a, hr10b⟩ := hI9.b ((bw_196 5).trans (show hpwb 5 = (0, 20) by decide))
                    generalize hg10 : τ9 196 5 = r10 at hr10a hr10b ⊢
                    have hq6 := hF9 196 5 (by omega)
                    refine h_icmp_ge (tgt := 162) C dX9_beginDay_134 (by decide) ⟨by omega, by omega⟩ ⟨by omega, by omega⟩ (fun h11 => ?_) (fun h11 => ?_)
                    · refine h_return C hr hlk dX9_beginDay_162 ?_
                      exact ⟨rfl, hI9, hF9, hM9_0⟩
                    · refine h_aload_n C dX9_beginDay_137 0 rfl rfl ?_
                      refine h_get C O9 1 kd_195 (by decide) wd_1257 dX9_beginDay_138 fr_195_1 ?_
                      refine h_bipush C dX9_beginDay_141 (by decide) ?_
                      refine h_iload_n C dX9_beginDay_143 2 rfl rfl ?_
                      refine h_iadd C dX9_beginDay_144 rfl ?_
                      refine h_iaload C dX9_beginDay_145 kd_196 (27 + w9_2).toNat (Int.toNat_of_nonneg (by omega)) (by rw [ln_196]; omega) rfl ?_
                      obtain ⟨hr12a, hr12b⟩ := hpInv.r196 hI9 ((27 + w9_2).toNat) 27 46 (0) 2016 (by omega) (by omega) (by decide)
                      generalize hg12 : τ9 196 ((27 + w9_2).toNat) = r12 at hr12a hr12b ⊢
                      refine h_iload_n C dX9_beginDay_146 1 rfl rfl ?_
                      refine h_icmp_ne (tgt := 156) C dX9_beginDay_147 (by decide) ⟨by omega, by omega⟩ ⟨by omega, by omega⟩ (fun h13 => ?_) (fun h13 => ?_)
                      · refine h_iinc (lv' := [(2, .int (hpI (w9_2 + 1))), (0, .ref (z + 195)), (1, .int (hpI a0))]) C dX9_beginDay_156 2 rfl rfl (by decide) rfl ?_
                        refine h_goto (tgt := 127) C dX9_beginDay_159 (by decide) ?_
                        exact hp_sub [1, 2, 0] rfl (ih9 _ (w9_2 + 1) (by omega) (by omega) hI9 hF9 (by first | exact hM9_0.tail no_such | exact hM9_0) (by omega))
                      · refine h_aload_n C dX9_beginDay_150 0 rfl rfl ?_
                        refine h_bipush C dX9_beginDay_151 (by decide) ?_
                        refine h_callV (As := [.int (hpI 17)]) (rest := []) C Z yyX9_takeHighest wd_1555 (tgX9_takeHighest l D cy z _ 17 ⟨by decide, by decide⟩ hI9 (by omega)) kd_195 rfl rfl ⟨rfl, rfl, Nat.le_of_ble_eq_true rfl, Nat.le_of_ble_eq_true rfl⟩ ⟨Nat.le_of_ble_eq_true rfl, Nat.le_of_ble_eq_true rfl⟩ (Nat.le_of_ble_eq_true rfl) dX9_beginDay_153 (fun r14 τ14 hp14 => ?_)
                        obtain ⟨rfl, hI14, hG14, hq14_0⟩ := hp14
                        have hF14 : ∀ j i : Nat, (j ≠ 202 ∨ (i : Int) < 701 * 17 ∨ 701 * 17 + 700 < (i : Int)) → τ14 j i = σ j i := fun j i h_0 => (hG14 j i (by omega)).trans (hF9 j i h_0)
                        show hpV _ _ _ _ _ _ _ _ _ _ _ _ _ _ _ _ _ _ _ _ _ []
                        refine h_iinc (lv' := [(2, .int (hpI (w9_2 + 1))), (0, .ref (z + 195)), (1, .int (hpI a0))]) C dX9_beginDay_156 2 rfl rfl (by decide) rfl ?_
                        refine h_goto (tgt := 127) C dX9_beginDay_159 (by decide) ?_
                        exact hp_sub [1, 2, 0] rfl (ih9 _ (w9_2 + 1) (by omega) (by omega) hI14 hF14 (by first | exact hM9_0.tail hq14_0 | exact hM9_0) (by omega))
                exact hp_sub [1, 2, 0] rfl (L9 8589934592 _ 0 (by omega) (by omega) hI4 hF4 (by have ew : w4_2 = σ 196 5 := (by omega); have hz := hM4_0; rw [ew] at hz; first | exact (hz.lay (by omega) no_such).mono (by omega) | exact hz.mono (by omega)) (by omega))
              · refine h_aload_n C dX9_beginDay_115 0 rfl rfl ?_
                refine h_bipush C dX9_beginDay_116 (by decide) ?_
                refine h_aload_n C dX9_beginDay_118 0 rfl rfl ?_
                refine h_get C O9 24 kd_195 (by decide) wd_1280 dX9_beginDay_119 (hp_fvI (by rw [kd_195]; rfl) rfl) ?_
                obtain ⟨hr15a, hr15b⟩ := hI4.b (bf_9_24 kd_195)
                generalize hg15 : τ4 195 24 = r15 at hr15a hr15b ⊢
                have hm := hM4_0.many
                have ew5 : w4_2 = σ 196 5 := by omega
                rw [ew5] at hm
                have he := hpE1_eq (a := σ 195 23) (b := a0) (by omega)
                refine h_callV (As := [.int (hpI 17), .int (hpI r15)]) (rest := []) C Z yyX9_lay wd_1532 (tgX9_lay l D cy z _ 17 ⟨by decide, by decide⟩ r15 ⟨by omega, by omega⟩ hI4 (by omega) (by omega)) kd_195 rfl rfl ⟨rfl, rfl, Nat.le_of_ble_eq_true rfl, Nat.le_of_ble_eq_true rfl⟩ ⟨Nat.le_of_ble_eq_true rfl, Nat.le_of_ble_eq_true rfl⟩ (Nat.le_of_ble_eq_true rfl) dX9_beginDay_122 (fun r16 τ16 hp16 => ?_)
                obtain ⟨rfl, hI16, hG16, hq16_0⟩ := hp16
                have hF16 : ∀ j i : Nat, (j ≠ 202 ∨ (i : Int) < 701 * 17 ∨ 701 * 17 + 700 < (i : Int)) → τ16 j i = σ j i := fun j i h_0 => (hG16 j i (by omega)).trans (hF4 j i h_0)
                show hpV _ _ _ _ _ _ _ _ _ _ _ _ _ _ _ _ _ _ _ _ _ []
                refine h_iconst C dX9_beginDay_125 ?_
                refine h_istore_n (lv' := [(2, .int (hpI 0)), (0, .ref (z + 195)), (1, .int (hpI a0))]) C dX9_beginDay_126 rfl (by decide) rfl ?_
                have L17 : ∀ (n17 : Nat) (τ17 : hpMem) (w17_2 : Int), 0 ≤ w17_2 → w17_2 ≤ 20 → hpInv τ17 → (∀ j i : Nat, (j ≠ 202 ∨ (i : Int) < 701 * 17 ∨ 701 * 17 + 700 < (i : Int)) → τ17 j i = σ j i) → (hpLe (τ17 202) 17 (B + 20 * hpC1 (σ 204) a0 (σ 196 4).toNat + 20 * hpC1 (fun q => σ 196 (27 + q) % 100) a0 (σ 196 5).toNat + hpE1 (σ 195 23) a0)) → (4294967296 - w17_2) < (n17 : Int) → hpF p l e rgX9_beginDay s m [.ref (z + 195), .int (hpI a0)] below meth c 3 D cy z (pgX9_beginDay z σ a0 B) τ17 127 [(0, .ref (z + 195)), (1, .int (hpI a0)), (2, .int (hpI w17_2))] [] := by
                  intro n17
                  induction n17 with
                  | zero => intro τ17 w17_2 hv17_0 hv17_1 hI17 hF17 hM17_0 hm17; exfalso; omega
                  | succ n17 ih17 =>
                    intro τ17 w17_2 hv17_0 hv17_1 hI17 hF17 hM17_0 hm17
                    refine h_iload_n C dX9_beginDay_127 2 rfl rfl ?_
                    refine h_aload_n C dX9_beginDay_128 0 rfl rfl ?_
                    refine h_get C O9 1 kd_195 (by decide) wd_1257 dX9_beginDay_129 fr_195_1 ?_
                    refine h_iconst C dX9_beginDay_132 ?_
                    refine h_iaload C dX9_beginDay_133 kd_196 5 rfl (by rw [ln_196]; decide) rfl ?_
                    obtain ⟨hr18a, hr18b⟩ := hI17.b ((bw_196 5).trans (show hpwb 5 = (0, 20) by decide))
                    generalize hg18 : τ17 196 5 = r18 at hr18a hr18b ⊢
                    have hq6 := hF17 196 5 (by omega)
                    refine h_icmp_ge (tgt := 162) C dX9_beginDay_134 (by decide) ⟨by omega, by omega⟩ ⟨by omega, by omega⟩ (fun h19 => ?_) (fun h19 => ?_)
                    · refine h_return C hr hlk dX9_beginDay_162 ?_
                      exact ⟨rfl, hI17, hF17, hM17_0⟩
                    · refine h_aload_n C dX9_beginDay_137 0 rfl rfl ?_
                      refine h_get C O9 1 kd_195 (by decide) wd_1257 dX9_beginDay_138 fr_195_1 ?_
                      refine h_bipush C dX9_beginDay_141 (by decide) ?_
                      refine h_iload_n C dX9_beginDay_143 2 rfl rfl ?_
                      refine h_iadd C dX9_beginDay_144 rfl ?_
                      refine h_iaload C dX9_beginDay_145 kd_196 (27 + w17_2).toNat (Int.toNat_of_nonneg (by omega)) (by rw [ln_196]; omega) rfl ?_
                      obtain ⟨hr20a, hr20b⟩ := hpInv.r196 hI17 ((27 + w17_2).toNat) 27 46 (0) 2016 (by omega) (by omega) (by decide)
                      generalize hg20 : τ17 196 ((27 + w17_2).toNat) = r20 at hr20a hr20b ⊢
                      refine h_iload_n C dX9_beginDay_146 1 rfl rfl ?_
                      refine h_icmp_ne (tgt := 156) C dX9_beginDay_147 (by decide) ⟨by omega, by omega⟩ ⟨by omega, by omega⟩ (fun h21 => ?_) (fun h21 => ?_)
                      · refine h_iinc (lv' := [(2, .int (hpI (w17_2 + 1))), (0, .ref (z + 195)), (1, .int (hpI a0))]) C dX9_beginDay_156 2 rfl rfl (by decide) rfl ?_
                        refine h_goto (tgt := 127) C dX9_beginDay_159 (by decide) ?_
                        exact hp_sub [1, 2, 0] rfl (ih17 _ (w17_2 + 1) (by omega) (by omega) hI17 hF17 (by first | exact hM17_0.tail no_such | exact hM17_0) (by omega))
                      · refine h_aload_n C dX9_beginDay_150 0 rfl rfl ?_
                        refine h_bipush C dX9_beginDay_151 (by decide) ?_
                        refine h_callV (As := [.int (hpI 17)]) (rest := []) C Z yyX9_takeHighest wd_1555 (tgX9_takeHighest l D cy z _ 17 ⟨by decide, by decide⟩ hI17 (by omega)) kd_195 rfl rfl ⟨rfl, rfl, Nat.le_of_ble_eq_true rfl, Nat.le_of_ble_eq_true rfl⟩ ⟨Nat.le_of_ble_eq_true rfl, Nat.le_of_ble_eq_true rfl⟩ (Nat.le_of_ble_eq_true rfl) dX9_beginDay_153 (fun r22 τ22 hp22 => ?_)
                        obtain ⟨rfl, hI22, hG22, hq22_0⟩ := hp22
                        have hF22 : ∀ j i : Nat, (j ≠ 202 ∨ (i : Int) < 701 * 17 ∨ 701 * 17 + 700 < (i : Int)) → τ22 j i = σ j i := fun j i h_0 => (hG22 j i (by omega)).trans (hF17 j i h_0)
                        show hpV _ _ _ _ _ _ _ _ _ _ _ _ _ _ _ _ _ _ _ _ _ []
                        refine h_iinc (lv' := [(2, .int (hpI (w17_2 + 1))), (0, .ref (z + 195)), (1, .int (hpI a0))]) C dX9_beginDay_156 2 rfl rfl (by decide) rfl ?_
                        refine h_goto (tgt := 127) C dX9_beginDay_159 (by decide) ?_
                        exact hp_sub [1, 2, 0] rfl (ih17 _ (w17_2 + 1) (by omega) (by omega) hI22 hF22 (by first | exact hM17_0.tail hq22_0 | exact hM17_0) (by omega))
                exact hp_sub [1, 2, 0] rfl (L17 8589934592 _ 0 (by omega) (by omega) hI16 hF16 (by have ew : w4_2 = σ 196 5 := (by omega); have hz := hM4_0; rw [ew] at hz; first | exact (hz.lay (by omega) hq16_0).mono (by omega) | exact hz.mono (by omega)) (by omega))
            · refine h_aload_n C dX9_beginDay_67 0 rfl rfl ?_
              refine h_get C O9 1 kd_195 (by decide) wd_1257 dX9_beginDay_68 fr_195_1 ?_
              refine h_bipush C dX9_beginDay_71 (by decide) ?_
              refine h_iload_n C dX9_beginDay_73 2 rfl rfl ?_
              refine h_iadd C dX9_beginDay_74 rfl ?_
              refine h_iaload C dX9_beginDay_75 kd_196 (27 + w4_2).toNat (Int.toNat_of_nonneg (by omega)) (by rw [ln_196]; omega) rfl ?_
              obtain ⟨hr23a, hr23b⟩ := hpInv.r196 hI4 ((27 + w4_2).toNat) 27 46 (0) 2016 (by omega) (by omega) (by decide)
              generalize hg23 : τ4 196 ((27 + w4_2).toNat) = r23 at hr23a hr23b ⊢
              refine h_bipush C dX9_beginDay_76 (by decide) ?_
              refine h_irem C dX9_beginDay_78 (by omega) (by omega) (by omega) (by omega) ?_
              refine h_iload_n C dX9_beginDay_79 1 rfl rfl ?_
              refine h_icmp_ne (tgt := 101) C dX9_beginDay_80 (by decide) ⟨by omega, by omega⟩ ⟨by omega, by omega⟩ (fun h24 => ?_) (fun h24 => ?_)
              · refine h_iinc (lv' := [(2, .int (hpI (w4_2 + 1))), (0, .ref (z + 195)), (1, .int (hpI a0))]) C dX9_beginDay_101 2 rfl rfl (by decide) rfl ?_
                refine h_goto (tgt := 57) C dX9_beginDay_104 (by decide) ?_
                exact hp_sub [1, 2, 0] rfl (ih4 _ (w4_2 + 1) (by omega) (by omega) (by omega) hI4 hF4 (by rw [show (w4_2 + 1).toNat = (w4_2).toNat + 1 by omega]; have hs := hpC1_s (fun q => σ 196 (27 + q) % 100) a0 (w4_2).toNat; first | exact (hM4_0.lay (by omega) no_such).mono (by omega) | exact hM4_0.mono (by omega)) (by omega))
              · refine h_aload_n C dX9_beginDay_83 0 rfl rfl ?_
                refine h_bipush C dX9_beginDay_84 (by decide) ?_
                refine h_aload_n C dX9_beginDay_86 0 rfl rfl ?_
                refine h_get C O9 1 kd_195 (by decide) wd_1257 dX9_beginDay_87 fr_195_1 ?_
                refine h_bipush C dX9_beginDay_90 (by decide) ?_
                refine h_iload_n C dX9_beginDay_92 2 rfl rfl ?_
                refine h_iadd C dX9_beginDay_93 rfl ?_
                refine h_iaload C dX9_beginDay_94 kd_196 (27 + w4_2).toNat (Int.toNat_of_nonneg (by omega)) (by rw [ln_196]; omega) rfl ?_
                rw [hg23]
                refine h_bipush C dX9_beginDay_95 (by decide) ?_
                refine h_idiv C dX9_beginDay_97 (by omega) (by omega) (by omega) (by omega) ?_
                have hm := hM4_0.many
                have hcd : (fun q => σ 196 (27 + q) % 100) (w4_2).toNat = a0 := by show σ 196 (27 + (w4_2).toNat) % 100 = a0; have q1 := hF4 196 (27 + w4_2).toNat (by omega); rw [show 27 + (w4_2).toNat = (27 + w4_2).toNat by omega]; omega
                have hc1 := hpC1_eq (f := (fun q => σ 196 (27 + q) % 100)) hcd
                have hc2 := hpC1_m (fun q => σ 196 (27 + q) % 100) a0 ((w4_2).toNat + 1) (σ 196 5).toNat (by omega)
                refine h_callV (As := [.int (hpI 17), .int (hpI (r23 / 100))]) (rest := []) C Z yyX9_lay wd_1532 (tgX9_lay l D cy z _ 17 ⟨by decide, by decide⟩ (r23 / 100) ⟨by omega, by omega⟩ hI4 (by omega) (by omega)) kd_195 rfl rfl ⟨rfl, rfl, Nat.le_of_ble_eq_true rfl, Nat.le_of_ble_eq_true rfl⟩ ⟨Nat.le_of_ble_eq_true rfl, Nat.le_of_ble_eq_true rfl⟩ (Nat.le_of_ble_eq_true rfl) dX9_beginDay_98 (fun r25 τ25 hp25 => ?_)
                obtain ⟨rfl, hI25, hG25, hq25_0⟩ := hp25
                have hF25 : ∀ j i : Nat, (j ≠ 202 ∨ (i : Int) < 701 * 17 ∨ 701 * 17 + 700 < (i : Int)) → τ25 j i = σ j i := fun j i h_0 => (hG25 j i (by omega)).trans (hF4 j i h_0)
                show hpV _ _ _ _ _ _ _ _ _ _ _ _ _ _ _ _ _ _ _ _ _ []
                refine h_iinc (lv' := [(2, .int (hpI (w4_2 + 1))), (0, .ref (z + 195)), (1, .int (hpI a0))]) C dX9_beginDay_101 2 rfl rfl (by decide) rfl ?_
                refine h_goto (tgt := 57) C dX9_beginDay_104 (by decide) ?_
                exact hp_sub [1, 2, 0] rfl (ih4 _ (w4_2 + 1) (by omega) (by omega) (by omega) hI25 hF25 (by rw [show (w4_2 + 1).toNat = (w4_2).toNat + 1 by omega]; have hs := hpC1_s (fun q => σ 196 (27 + q) % 100) a0 (w4_2).toNat; first | exact (hM4_0.lay (by omega) hq25_0).mono (by omega) | exact hM4_0.mono (by omega)) (by omega))
        exact hp_sub [1, 2, 0] rfl (L4 8589934592 _ 0 (by omega) (by omega) (by omega) hI1 hF1 (by have e0 : hpC1 (fun q => σ 196 (27 + q) % 100) a0 (0 : Int).toNat = 0 := rfl; have ew : w1_2 = σ 196 4 := (by omega); rw [e0, ← ew]; exact hM1_0.mono (by omega)) (by omega))
      · refine h_aload_n C dX9_beginDay_10 0 rfl rfl ?_
        refine h_get C O9 20 kd_195 (by decide) wd_1276 dX9_beginDay_11 fr_195_20 ?_
        refine h_iload_n C dX9_beginDay_14 2 rfl rfl ?_
        refine h_iaload C dX9_beginDay_15 kd_204 (w1_2).toNat (Int.toNat_of_nonneg (by omega)) (by rw [ln_204]; omega) rfl ?_
        obtain ⟨hr26a, hr26b⟩ := hI1.b (bo_204 _)
        generalize hg26 : τ1 204 ((w1_2).toNat) = r26 at hr26a hr26b ⊢
        refine h_iload_n C dX9_beginDay_16 1 rfl rfl ?_
        refine h_icmp_ne (tgt := 49) C dX9_beginDay_17 (by decide) ⟨by omega, by omega⟩ ⟨by omega, by omega⟩ (fun h27 => ?_) (fun h27 => ?_)
        · refine h_iinc (lv' := [(2, .int (hpI (w1_2 + 1))), (0, .ref (z + 195)), (1, .int (hpI a0))]) C dX9_beginDay_49 2 rfl rfl (by decide) rfl ?_
          refine h_goto (tgt := 2) C dX9_beginDay_52 (by decide) ?_
          exact hp_sub [1, 2, 0] rfl (ih1 _ (w1_2 + 1) (by omega) (by omega) (by omega) hI1 hF1 (by rw [show (w1_2 + 1).toNat = (w1_2).toNat + 1 by omega]; have hs := hpC1_s (σ 204) a0 (w1_2).toNat; first | exact (hM1_0.lay (by omega) no_such).mono (by omega) | exact hM1_0.mono (by omega)) (by omega))
        · refine h_aload_n C dX9_beginDay_20 0 rfl rfl ?_
          refine h_get C O9 22 kd_195 (by decide) wd_1278 dX9_beginDay_21 (hp_fvI (by rw [kd_195]; rfl) rfl) ?_
          obtain ⟨hr28a, hr28b⟩ := hI1.b (bf_9_22 kd_195)
          generalize hg28 : τ1 195 22 = r28 at hr28a hr28b ⊢
          refine h_iload_n C dX9_beginDay_24 2 rfl rfl ?_
          refine h_callS (As := [.int (hpI r28), .int (hpI w1_2)]) (rest := []) C Z yyX9_bit rfl wd_1552 (tgX9_bit l D cy z _ r28 ⟨by omega, by omega⟩ w1_2 ⟨by omega, by omega⟩ hI1) rfl rfl ⟨rfl, rfl, Nat.le_of_ble_eq_true rfl, Nat.le_of_ble_eq_true rfl⟩ ⟨Nat.le_of_ble_eq_true rfl, Nat.le_of_ble_eq_true rfl⟩ (Nat.le_of_ble_eq_true rfl) dX9_beginDay_25 (fun r29 τ29 hp29 => ?_)
          obtain ⟨⟨x29, rfl, ⟨hx29a, hx29b⟩, hx29⟩, rfl⟩ := hp29
          show hpV _ _ _ _ _ _ _ _ _ _ _ _ _ _ _ _ _ _ _ _ _ (_ :: _)
          refine h_iconst C dX9_beginDay_28 ?_
          refine h_icmp_ne (tgt := 49) C dX9_beginDay_29 (by decide) ⟨by omega, by omega⟩ ⟨by decide, by decide⟩ (fun h30 => ?_) (fun h30 => ?_)
          · refine h_iinc (lv' := [(2, .int (hpI (w1_2 + 1))), (0, .ref (z + 195)), (1, .int (hpI a0))]) C dX9_beginDay_49 2 rfl rfl (by decide) rfl ?_
            refine h_goto (tgt := 2) C dX9_beginDay_52 (by decide) ?_
            exact hp_sub [1, 2, 0] rfl (ih1 _ (w1_2 + 1) (by omega) (by omega) (by omega) hI1 hF1 (by rw [show (w1_2 + 1).toNat = (w1_2).toNat + 1 by omega]; have hs := hpC1_s (σ 204) a0 (w1_2).toNat; first | exact (hM1_0.lay (by omega) no_such).mono (by omega) | exact hM1_0.mono (by omega)) (by omega))
          · refine h_aload_n C dX9_beginDay_32 0 rfl rfl ?_
            refine h_bipush C dX9_beginDay_33 (by decide) ?_
            refine h_aload_n C dX9_beginDay_35 0 rfl rfl ?_
            refine h_get C O9 1 kd_195 (by decide) wd_1257 dX9_beginDay_36 fr_195_1 ?_
            refine h_bipush C dX9_beginDay_39 (by decide) ?_
            refine h_iconst C dX9_beginDay_41 ?_
            refine h_iload_n C dX9_beginDay_42 2 rfl rfl ?_
            refine h_imul C dX9_beginDay_43 rfl ?_
            refine h_iadd C dX9_beginDay_44 rfl ?_
            refine h_iaload C dX9_beginDay_45 kd_196 (15 + (2 * w1_2)).toNat (Int.toNat_of_nonneg (by omega)) (by rw [ln_196]; omega) rfl ?_
            obtain ⟨hr31a, hr31b⟩ := hpInv.r196 hI1 ((15 + (2 * w1_2)).toNat) 15 25 (0) 20 (by omega) (by omega) (by decide)
            generalize hg31 : τ1 196 ((15 + (2 * w1_2)).toNat) = r31 at hr31a hr31b ⊢
            have hm := hM1_0.many
            have hcd : σ 204 (w1_2).toNat = a0 := by have q := hF1 204 (w1_2).toNat (by omega); omega
            have hc1 := hpC1_eq (f := σ 204) hcd
            have hc2 := hpC1_m (σ 204) a0 ((w1_2).toNat + 1) (σ 196 4).toNat (by omega)
            refine h_callV (As := [.int (hpI 17), .int (hpI r31)]) (rest := []) C Z yyX9_lay wd_1532 (tgX9_lay l D cy z _ 17 ⟨by decide, by decide⟩ r31 ⟨by omega, by omega⟩ hI1 (by omega) (by omega)) kd_195 rfl rfl ⟨rfl, rfl, Nat.le_of_ble_eq_true rfl, Nat.le_of_ble_eq_true rfl⟩ ⟨Nat.le_of_ble_eq_true rfl, Nat.le_of_ble_eq_true rfl⟩ (Nat.le_of_ble_eq_true rfl) dX9_beginDay_46 (fun r32 τ32 hp32 => ?_)
            obtain ⟨rfl, hI32, hG32, hq32_0⟩ := hp32
            have hF32 : ∀ j i : Nat, (j ≠ 202 ∨ (i : Int) < 701 * 17 ∨ 701 * 17 + 700 < (i : Int)) → τ32 j i = σ j i := fun j i h_0 => (hG32 j i (by omega)).trans (hF1 j i h_0)
            show hpV _ _ _ _ _ _ _ _ _ _ _ _ _ _ _ _ _ _ _ _ _ []
            refine h_iinc (lv' := [(2, .int (hpI (w1_2 + 1))), (0, .ref (z + 195)), (1, .int (hpI a0))]) C dX9_beginDay_49 2 rfl rfl (by decide) rfl ?_
            refine h_goto (tgt := 2) C dX9_beginDay_52 (by decide) ?_
            exact hp_sub [1, 2, 0] rfl (ih1 _ (w1_2 + 1) (by omega) (by omega) (by omega) hI32 hF32 (by rw [show (w1_2 + 1).toNat = (w1_2).toNat + 1 by omega]; have hs := hpC1_s (σ 204) a0 (w1_2).toNat; first | exact (hM1_0.lay (by omega) hq32_0).mono (by omega) | exact hM1_0.mono (by omega)) (by omega))
  exact hp_sub [1, 2, 0] rfl (L1 8589934592 _ 0 (by omega) (by omega) (by omega) hI hF0 (hB.mono (by have e0 : hpC1 (σ 204) a0 (0 : Int).toNat = 0 := rfl; omega)) (by omega))
abbrev rgX9_goAll : Room := { frames := 3, cells := 0, slots := 0, locals := 69 }
abbrev pgX9_goAll (z : Nat) (σ : hpMem) : Option Value → hpMem → Prop := fun r τ => r = none ∧ hpInv τ ∧ (∀ j i : Nat, j ≠ 202 → j ≠ 205 → j ≠ 206 → (j ≠ 195 ∨ (i ≠ 17 ∧ i ≠ 18)) → τ j i = σ j i) ∧ (∀ r : Int, 0 ≤ r → r ≤ τ 196 0 → hpLe (τ 202) r 700)
set_option maxHeartbeats 4000000 in
set_option maxRecDepth 20000 in
theorem tgX9_goAll (l : Launch) (D : va_G) (cy : Nat → ClassId) (z : Nat) (σ : hpMem) (hI : hpInv σ) : hpM l D cy z yX9_goAll cX9_goAll 2 none rgX9_goAll [.ref (z + 195)] σ (pgX9_goAll z σ) := by
  refine hp_met rfl (Nat.le_of_ble_eq_true rfl) (fun p e s m below meth c C Z hr hlk => ?_)
  have hF0 : ∀ j i : Nat, j ≠ 202 → j ≠ 205 → j ≠ 206 → (j ≠ 195 ∨ (i ≠ 17 ∧ i ≠ 18)) → σ j i = σ j i := fun j i _ _ _ _ => rfl
  have b0 := hI.b ((bw_196 0).trans (show hpwb 0 = (0, 16) by decide))
  have b4 := hI.b ((bw_196 4).trans (show hpwb 4 = (0, 6) by decide))
  have b5 := hI.b ((bw_196 5).trans (show hpwb 5 = (0, 20) by decide))
  refine h_aload_n C dX9_goAll_0 0 rfl rfl ?_
  refine h_bipush C dX9_goAll_1 (by decide) ?_
  refine h_callV (As := [.int (hpI 17)]) (rest := []) C Z yyX9_empty wd_1528 (tgX9_empty l D cy z _ 17 ⟨by decide, by decide⟩ hI (by omega)) kd_195 rfl rfl ⟨rfl, rfl, Nat.le_of_ble_eq_true rfl, Nat.le_of_ble_eq_true rfl⟩ ⟨Nat.le_of_ble_eq_true rfl, Nat.le_of_ble_eq_true rfl⟩ (Nat.le_of_ble_eq_true rfl) dX9_goAll_3 (fun r1 τ1 hp1 => ?_)
  obtain ⟨rfl, hI1, hG1, hq1_0⟩ := hp1
  have hF1 : ∀ j i : Nat, j ≠ 202 → j ≠ 205 → j ≠ 206 → (j ≠ 195 ∨ (i ≠ 17 ∧ i ≠ 18)) → τ1 j i = σ j i := fun j i h_0 h_1 h_2 h_3 => (hG1 j i (by omega)).trans (hF0 j i h_0 h_1 h_2 h_3)
  show hpV _ _ _ _ _ _ _ _ _ _ _ _ _ _ _ _ _ _ _ _ _ []
  refine h_iconst C dX9_goAll_6 ?_
  refine h_istore_n (lv' := [(1, .int (hpI 0)), (0, .ref (z + 195))]) C dX9_goAll_7 rfl (by decide) rfl ?_
  have L2 : ∀ (n2 : Nat) (τ2 : hpMem) (w2_1 : Int), 0 ≤ w2_1 → w2_1 ≤ 8 → hpInv τ2 → (∀ j i : Nat, j ≠ 202 → j ≠ 205 → j ≠ 206 → (j ≠ 195 ∨ (i ≠ 17 ∧ i ≠ 18)) → τ2 j i = σ j i) → (hpLe (τ2 202) 17 (20 * w2_1)) → (4294967296 - w2_1) < (n2 : Int) → hpF p l e rgX9_goAll s m [.ref (z + 195)] below meth c 2 D cy z (pgX9_goAll z σ) τ2 8 [(0, .ref (z + 195)), (1, .int (hpI w2_1))] [] := by
    intro n2
    induction n2 with
    | zero => intro τ2 w2_1 hv2_0 hv2_1 hI2 hF2 hM2_0 hm2; exfalso; omega
    | succ n2 ih2 =>
      intro τ2 w2_1 hv2_0 hv2_1 hI2 hF2 hM2_0 hm2
      refine h_iload_n C dX9_goAll_8 1 rfl rfl ?_
      refine h_aload_n C dX9_goAll_9 0 rfl rfl ?_
      refine h_get C O9 1 kd_195 (by decide) wd_1257 dX9_goAll_10 fr_195_1 ?_
      refine h_iconst C dX9_goAll_13 ?_
      refine h_iaload C dX9_goAll_14 kd_196 3 rfl (by rw [ln_196]; decide) rfl ?_
      obtain ⟨hr3a, hr3b⟩ := hI2.b ((bw_196 3).trans (show hpwb 3 = (0, 8) by decide))
      generalize hg3 : τ2 196 3 = r3 at hr3a hr3b ⊢
      refine h_icmp_ge (tgt := 36) C dX9_goAll_15 (by decide) ⟨by omega, by omega⟩ ⟨by omega, by omega⟩ (fun h4 => ?_) (fun h4 => ?_)
      · refine h_iconst C dX9_goAll_36 ?_
        refine h_istore_n (lv' := [(1, .int (hpI 0)), (0, .ref (z + 195))]) C dX9_goAll_37 rfl (by decide) rfl ?_
        have L5 : ∀ (n5 : Nat) (τ5 : hpMem) (w5_1 : Int), 0 ≤ w5_1 → w5_1 ≤ 17 → hpInv τ5 → (∀ j i : Nat, j ≠ 202 → j ≠ 205 → j ≠ 206 → (j ≠ 195 ∨ (i ≠ 17 ∧ i ≠ 18)) → τ5 j i = σ j i) → (hpLe (τ5 202) 17 (700 - hpWd σ w5_1)) → (∀ r : Int, 0 ≤ r → r < w5_1 → hpLe (τ5 202) r 700) → (4294967296 - w5_1) < (n5 : Int) → hpF p l e rgX9_goAll s m [.ref (z + 195)] below meth c 2 D cy z (pgX9_goAll z σ) τ5 38 [(0, .ref (z + 195)), (1, .int (hpI w5_1))] [] := by
          intro n5
          induction n5 with
          | zero => intro τ5 w5_1 hv5_0 hv5_1 hI5 hF5 hM5_0 hM5_1 hm5; exfalso; omega
          | succ n5 ih5 =>
            intro τ5 w5_1 hv5_0 hv5_1 hI5 hF5 hM5_0 hM5_1 hm5
            refine h_iload_n C dX9_goAll_38 1 rfl rfl ?_
            refine h_aload_n C dX9_goAll_39 0 rfl rfl ?_
            refine h_callV (As := []) (rest := [.int (hpI w5_1)]) C Z yyX9_days wd_1544 (tgX9_days l D cy z _ hI5) kd_195 rfl rfl ⟨rfl, rfl, Nat.le_of_ble_eq_true rfl, Nat.le_of_ble_eq_true rfl⟩ ⟨Nat.le_of_ble_eq_true rfl, Nat.le_of_ble_eq_true rfl⟩ (Nat.le_of_ble_eq_true rfl) dX9_goAll_40 (fun r6 τ6 hp6 => ?_)
            obtain ⟨⟨x6, rfl, ⟨hx6a, hx6b⟩, hx6⟩, rfl⟩ := hp6
            show hpV _ _ _ _ _ _ _ _ _ _ _ _ _ _ _ _ _ _ _ _ _ (_ :: _)
            refine h_icmp_gt (tgt := 120) C dX9_goAll_43 (by decide) ⟨by omega, by omega⟩ ⟨by omega, by omega⟩ (fun h7 => ?_) (fun h7 => ?_)
            · refine h_return C hr hlk dX9_goAll_120 ?_
              exact ⟨rfl, hI5, hF5, fun r h1 h2 => hM5_1 r h1 (by omega)⟩
            · refine h_aload_n C dX9_goAll_46 0 rfl rfl ?_
              refine h_iload_n C dX9_goAll_47 1 rfl rfl ?_
              have f4 : τ5 204 = σ 204 := funext (fun i => hF5 204 i (by omega) (by omega) (by omega) (by omega))
              have f6 : τ5 196 = σ 196 := funext (fun i => hF5 196 i (by omega) (by omega) (by omega) (by omega))
              have f23 : τ5 195 23 = σ 195 23 := hF5 195 23 (by omega) (by omega) (by omega) (by omega)
              have wb0 := hpWd_b σ w5_1 b4 b5
              have wb1 := hpWd_b σ (w5_1 + 1) b4 b5
              have ws := hpWd_s σ w5_1
              refine h_callV (As := [.int (hpI w5_1)]) (rest := []) C Z yyX9_beginDay wd_1548 (tgX9_beginDay l D cy z _ w5_1 ⟨by omega, by omega⟩ hI5 (700 - hpWd σ w5_1) (by omega) hM5_0 (by rw [f4, f6, f23]; omega)) kd_195 rfl rfl ⟨rfl, rfl, Nat.le_of_ble_eq_true rfl, Nat.le_of_ble_eq_true rfl⟩ ⟨Nat.le_of_ble_eq_true rfl, Nat.le_of_ble_eq_true rfl⟩ (Nat.le_of_ble_eq_true rfl) dX9_goAll_48 (fun r8 τ8 hp8 => ?_)
              obtain ⟨rfl, hI8, hG8, hq8_0⟩ := hp8
              have hF8 : ∀ j i : Nat, j ≠ 202 → j ≠ 205 → j ≠ 206 → (j ≠ 195 ∨ (i ≠ 17 ∧ i ≠ 18)) → τ8 j i = σ j i := fun j i h_0 h_1 h_2 h_3 => (hG8 j i (by omega)).trans (hF5 j i h_0 h_1 h_2 h_3)
              show hpV _ _ _ _ _ _ _ _ _ _ _ _ _ _ _ _ _ _ _ _ _ []
              have hN := hq8_0
              rw [f4, f6, f23] at hN
              have hN2 : hpLe (τ8 202) 17 (700 - hpWd σ (w5_1 + 1)) := hN.mono (by omega)
              refine h_aload_n C dX9_goAll_51 0 rfl rfl ?_
              refine h_bipush C dX9_goAll_52 (by decide) ?_
              refine h_iload_n C dX9_goAll_54 1 rfl rfl ?_
              refine h_callV (As := [.int (hpI 17), .int (hpI w5_1)]) (rest := []) C Z yyX9_copyRow wd_1559 (tgX9_copyRow l D cy z _ 17 ⟨by decide, by decide⟩ w5_1 ⟨by omega, by omega⟩ hI8 (by omega) (by omega)) kd_195 rfl rfl ⟨rfl, rfl, Nat.le_of_ble_eq_true rfl, Nat.le_of_ble_eq_true rfl⟩ ⟨Nat.le_of_ble_eq_true rfl, Nat.le_of_ble_eq_true rfl⟩ (Nat.le_of_ble_eq_true rfl) dX9_goAll_55 (fun r9 τ9 hp9 => ?_)
              obtain ⟨rfl, hI9, hG9, hq9_0⟩ := hp9
              have hF9 : ∀ j i : Nat, j ≠ 202 → j ≠ 205 → j ≠ 206 → (j ≠ 195 ∨ (i ≠ 17 ∧ i ≠ 18)) → τ9 j i = σ j i := fun j i h_0 h_1 h_2 h_3 => (hG9 j i (by omega)).trans (hF8 j i h_0 h_1 h_2 h_3)
              show hpV _ _ _ _ _ _ _ _ _ _ _ _ _ _ _ _ _ _ _ _ _ []
              have hD : hpLe (τ9 202) w5_1 700 := (hN2.copy hq9_0).mono (by omega)
              have hN3 : hpLe (τ9 202) 17 (700 - hpWd σ (w5_1 + 1)) := hN2.fr (by omega) (by decide) (fun i h1 h2 => hG9 202 i (by omega))
              have hAll : ∀ r : Int, 0 ≤ r → r < w5_1 + 1 → hpLe (τ9 202) r 700 := fun r h1 h2 => by by_cases e : r = w5_1; (rw [e]; exact hD); (exact ((hM5_1 r h1 (by omega)).fr (by decide) h1 (fun i g1 g2 => hG8 202 i (by omega))).fr (by decide) h1 (fun i g1 g2 => hG9 202 i (by omega)))
              refine h_iload_n C dX9_goAll_58 1 rfl rfl ?_
              refine h_aload_n C dX9_goAll_59 0 rfl rfl ?_
              refine h_callV (As := []) (rest := [.int (hpI w5_1)]) C Z yyX9_days wd_1544 (tgX9_days l D cy z _ hI9) kd_195 rfl rfl ⟨rfl, rfl, Nat.le_of_ble_eq_true rfl, Nat.le_of_ble_eq_true rfl⟩ ⟨Nat.le_of_ble_eq_true rfl, Nat.le_of_ble_eq_true rfl⟩ (Nat.le_of_ble_eq_true rfl) dX9_goAll_60 (fun r10 τ10 hp10 => ?_)
              obtain ⟨⟨x10, rfl, ⟨hx10a, hx10b⟩, hx10⟩, rfl⟩ := hp10
              show hpV _ _ _ _ _ _ _ _ _ _ _ _ _ _ _ _ _ _ _ _ _ (_ :: _)
              have h0a := hF5 196 0 (by omega) (by omega) (by omega) (by omega)
              have h0b := hF9 196 0 (by omega) (by omega) (by omega) (by omega)
              refine h_icmp_ne (tgt := 67) C dX9_goAll_63 (by decide) ⟨by omega, by omega⟩ ⟨by omega, by omega⟩ (fun h11 => ?_) (fun h11 => ?_)
              · refine h_aload_n C dX9_goAll_67 0 rfl rfl ?_
                refine h_iconst C dX9_goAll_68 ?_
                refine h_put C O9 17 kd_195 (by decide) rfl wd_1273 dX9_goAll_69 rfl rfl (hp_fvI (by rw [kd_195]; rfl) hpu_at) ?_
                obtain ⟨τ12, e12⟩ : ∃ μ : hpMem, μ = hpw τ9 195 17 0 := ⟨_, rfl⟩
                rw [← e12]
                have hI12 : hpInv τ12 := by rw [e12]; exact hI9.w (bf_9_17 kd_195) (by omega) (by omega)
                have hF12 : ∀ j i : Nat, j ≠ 202 → j ≠ 205 → j ≠ 206 → (j ≠ 195 ∨ (i ≠ 17 ∧ i ≠ 18)) → τ12 j i = σ j i := fun j i h_0 h_1 h_2 h_3 => by rw [e12]; exact (hpw_fr (by omega)).trans (hF9 j i h_0 h_1 h_2 h_3)
                have hg13 : τ12 195 17 = 0 := by rw [e12]; exact hpw_eq
                refine h_aload_n C dX9_goAll_72 0 rfl rfl ?_
                refine h_iconst C dX9_goAll_73 ?_
                refine h_put C O9 18 kd_195 (by decide) rfl wd_1274 dX9_goAll_74 rfl rfl (hp_fvI (by rw [kd_195]; rfl) hpu_at) ?_
                obtain ⟨τ14, e14⟩ : ∃ μ : hpMem, μ = hpw τ12 195 18 0 := ⟨_, rfl⟩
                rw [← e14]
                have hI14 : hpInv τ14 := by rw [e14]; exact hI12.w (bf_9_18 kd_195) (by omega) (by omega)
                have hF14 : ∀ j i : Nat, j ≠ 202 → j ≠ 205 → j ≠ 206 → (j ≠ 195 ∨ (i ≠ 17 ∧ i ≠ 18)) → τ14 j i = σ j i := fun j i h_0 h_1 h_2 h_3 => by rw [e14]; exact (hpw_fr (by omega)).trans (hF12 j i h_0 h_1 h_2 h_3)
                have hg15 : τ14 195 17 = 0 := by rw [e14]; exact (hpw_fr (Or.inr (by decide))).trans hg13
                have hg16 : τ14 195 18 = 0 := by rw [e14]; exact hpw_eq
                have hN4 : hpLe (τ14 202) 17 (700 - hpWd σ (w5_1 + 1)) := hN3.same (fun i => by rw [e14, hpw_fr (Or.inl (by decide)), e12, hpw_fr (Or.inl (by decide))])
                have hA4 : ∀ r : Int, 0 ≤ r → r < w5_1 + 1 → hpLe (τ14 202) r 700 := fun r h1 h2 => (hAll r h1 h2).same (fun i => by rw [e14, hpw_fr (Or.inl (by decide)), e12, hpw_fr (Or.inl (by decide))])
                refine h_aload_n C dX9_goAll_77 0 rfl rfl ?_
                refine h_get C O9 21 kd_195 (by decide) wd_1277 dX9_goAll_78 (hp_fvI (by rw [kd_195]; rfl) rfl) ?_
                obtain ⟨hr17a, hr17b⟩ := hI14.b (bf_9_21 kd_195)
                generalize hg17 : τ14 195 21 = r17 at hr17a hr17b ⊢
                refine h_iload_n C dX9_goAll_81 1 rfl rfl ?_
                refine h_callS (As := [.int (hpI r17), .int (hpI w5_1)]) (rest := []) C Z yyX9_bit rfl wd_1552 (tgX9_bit l D cy z _ r17 ⟨by omega, by omega⟩ w5_1 ⟨by omega, by omega⟩ hI14) rfl rfl ⟨rfl, rfl, Nat.le_of_ble_eq_true rfl, Nat.le_of_ble_eq_true rfl⟩ ⟨Nat.le_of_ble_eq_true rfl, Nat.le_of_ble_eq_true rfl⟩ (Nat.le_of_ble_eq_true rfl) dX9_goAll_82 (fun r18 τ18 hp18 => ?_)
                obtain ⟨⟨x18, rfl, ⟨hx18a, hx18b⟩, hx18⟩, rfl⟩ := hp18
                show hpV _ _ _ _ _ _ _ _ _ _ _ _ _ _ _ _ _ _ _ _ _ (_ :: _)
                refine h_if_ne (tgt := 94) C dX9_goAll_85 (by decide) ⟨by omega, by omega⟩ (fun h19 => ?_) (fun h19 => ?_)
                · have hK : hpLe (τ14 202) 17 (700 - hpWd σ (w5_1 + 1)) := by first | exact hN5 | exact hN4
                  have hKA : ∀ r : Int, 0 ≤ r → r < w5_1 + 1 → hpLe (τ14 202) r 700 := by first | exact hA5 | exact hA4
                  refine h_aload_n C dX9_goAll_94 0 rfl rfl ?_
                  refine h_get C O9 25 kd_195 (by decide) wd_1281 dX9_goAll_95 fr_195_25 ?_
                  refine h_iload_n C dX9_goAll_98 1 rfl rfl ?_
                  refine h_aload_n C dX9_goAll_99 0 rfl rfl ?_
                  refine h_get C O9 17 kd_195 (by decide) wd_1273 dX9_goAll_100 (hp_fvI (by rw [kd_195]; rfl) rfl) ?_
                  rw [hg15]
                  refine h_iastore C dX9_goAll_103 kd_205 (w5_1).toNat (Int.toNat_of_nonneg (by omega)) (by rw [ln_205]; omega) ?_
                  obtain ⟨τ20, e20⟩ : ∃ μ : hpMem, μ = hpw τ14 205 ((w5_1).toNat) 0 := ⟨_, rfl⟩
                  rw [← e20]
                  have hI20 : hpInv τ20 := by rw [e20]; exact hI14.w (bo_205 _) (by omega) (by omega)
                  have hF20 : ∀ j i : Nat, j ≠ 202 → j ≠ 205 → j ≠ 206 → (j ≠ 195 ∨ (i ≠ 17 ∧ i ≠ 18)) → τ20 j i = σ j i := fun j i h_0 h_1 h_2 h_3 => by rw [e20]; exact (hpw_fr (by omega)).trans (hF14 j i h_0 h_1 h_2 h_3)
                  have hg21 : τ20 195 17 = 0 := by rw [e20]; exact (hpw_fr (Or.inl (by omega))).trans hg15
                  have hg22 : τ20 195 18 = 0 := by rw [e20]; exact (hpw_fr (Or.inl (by omega))).trans hg16
                  have hg23 : τ20 195 21 = r17 := by rw [e20]; exact (hpw_fr (Or.inl (by omega))).trans hg17
                  refine h_aload_n C dX9_goAll_104 0 rfl rfl ?_
                  refine h_get C O9 26 kd_195 (by decide) wd_1282 dX9_goAll_105 fr_195_26 ?_
                  refine h_iload_n C dX9_goAll_108 1 rfl rfl ?_
                  refine h_aload_n C dX9_goAll_109 0 rfl rfl ?_
                  refine h_get C O9 18 kd_195 (by decide) wd_1274 dX9_goAll_110 (hp_fvI (by rw [kd_195]; rfl) rfl) ?_
                  rw [hg22]
                  refine h_iastore C dX9_goAll_113 kd_206 (w5_1).toNat (Int.toNat_of_nonneg (by omega)) (by rw [ln_206]; omega) ?_
                  obtain ⟨τ24, e24⟩ : ∃ μ : hpMem, μ = hpw τ20 206 ((w5_1).toNat) 0 := ⟨_, rfl⟩
                  rw [← e24]
                  have hI24 : hpInv τ24 := by rw [e24]; exact hI20.w (bo_206 _) (by omega) (by omega)
                  have hF24 : ∀ j i : Nat, j ≠ 202 → j ≠ 205 → j ≠ 206 → (j ≠ 195 ∨ (i ≠ 17 ∧ i ≠ 18)) → τ24 j i = σ j i := fun j i h_0 h_1 h_2 h_3 => by rw [e24]; exact (hpw_fr (by omega)).trans (hF20 j i h_0 h_1 h_2 h_3)
                  have hg25 : τ24 195 17 = 0 := by rw [e24]; exact (hpw_fr (Or.inl (by omega))).trans hg21
                  have hg26 : τ24 195 18 = 0 := by rw [e24]; exact (hpw_fr (Or.inl (by omega))).trans hg22
                  have hg27 : τ24 195 21 = r17 := by rw [e24]; exact (hpw_fr (Or.inl (by omega))).trans hg23
                  refine h_iinc (lv' := [(1, .int (hpI (w5_1 + 1))), (0, .ref (z + 195))]) C dX9_goAll_114 1 rfl rfl (by decide) rfl ?_
                  refine h_goto (tgt := 38) C dX9_goAll_117 (by decide) ?_
                  exact hp_sub [1, 0] rfl (ih5 _ (w5_1 + 1) (by omega) (by omega) hI24 hF24 (hK.same (fun i => by rw [e24, hpw_fr (Or.inl (by decide)), e20, hpw_fr (Or.inl (by decide))])) (fun r h1 h2 => (hKA r h1 h2).same (fun i => by rw [e24, hpw_fr (Or.inl (by decide)), e20, hpw_fr (Or.inl (by decide))])) (by omega))
                · obtain ⟨L0, hL0, hO1, hO2⟩ := hN4
                  refine h_aload_n C dX9_goAll_88 0 rfl rfl ?_
                  refine h_bipush C dX9_goAll_89 (by decide) ?_
                  refine h_callV (As := [.int (hpI 17)]) (rest := []) C Z yyX9_step wd_1563 (tgX9_step l D cy z _ 17 ⟨by decide, by decide⟩ hI14 _ (by omega) hL0 ⟨hO1, by omega⟩) kd_195 rfl rfl ⟨rfl, rfl, Nat.le_of_ble_eq_true rfl, Nat.le_of_ble_eq_true rfl⟩ ⟨Nat.le_of_ble_eq_true rfl, Nat.le_of_ble_eq_true rfl⟩ (Nat.le_of_ble_eq_true rfl) dX9_goAll_91 (fun r28 τ28 hp28 => ?_)
                  obtain ⟨rfl, hI28, hG28, hq28_0⟩ := hp28
                  have hF28 : ∀ j i : Nat, j ≠ 202 → j ≠ 205 → j ≠ 206 → (j ≠ 195 ∨ (i ≠ 17 ∧ i ≠ 18)) → τ28 j i = σ j i := fun j i h_0 h_1 h_2 h_3 => (hG28 j i (by omega) (by omega)).trans (hF14 j i h_0 h_1 h_2 h_3)
                  show hpV _ _ _ _ _ _ _ _ _ _ _ _ _ _ _ _ _ _ _ _ _ []
                  have hN5 : hpLe (τ28 202) 17 (700 - hpWd σ (w5_1 + 1)) := ⟨_, hq28_0, hpSt_pos, by rw [hpSt_sum hO1]; exact hO2⟩
                  have hA5 : ∀ r : Int, 0 ≤ r → r < w5_1 + 1 → hpLe (τ28 202) r 700 := fun r h1 h2 => (hA4 r h1 h2).fr (by decide) h1 (fun i g1 g2 => hG28 202 i (by omega) (by omega))
                  have hK : hpLe (τ28 202) 17 (700 - hpWd σ (w5_1 + 1)) := by first | exact hN5 | exact hN4
                  have hKA : ∀ r : Int, 0 ≤ r → r < w5_1 + 1 → hpLe (τ28 202) r 700 := by first | exact hA5 | exact hA4
                  refine h_aload_n C dX9_goAll_94 0 rfl rfl ?_
                  refine h_get C O9 25 kd_195 (by decide) wd_1281 dX9_goAll_95 fr_195_25 ?_
                  refine h_iload_n C dX9_goAll_98 1 rfl rfl ?_
                  refine h_aload_n C dX9_goAll_99 0 rfl rfl ?_
                  refine h_get C O9 17 kd_195 (by decide) wd_1273 dX9_goAll_100 (hp_fvI (by rw [kd_195]; rfl) rfl) ?_
                  obtain ⟨hr29a, hr29b⟩ := hI28.b (bf_9_17 kd_195)
                  generalize hg29 : τ28 195 17 = r29 at hr29a hr29b ⊢
                  refine h_iastore C dX9_goAll_103 kd_205 (w5_1).toNat (Int.toNat_of_nonneg (by omega)) (by rw [ln_205]; omega) ?_
                  obtain ⟨τ30, e30⟩ : ∃ μ : hpMem, μ = hpw τ28 205 ((w5_1).toNat) r29 := ⟨_, rfl⟩
                  rw [← e30]
                  have hI30 : hpInv τ30 := by rw [e30]; exact hI28.w (bo_205 _) (by omega) (by omega)
                  have hF30 : ∀ j i : Nat, j ≠ 202 → j ≠ 205 → j ≠ 206 → (j ≠ 195 ∨ (i ≠ 17 ∧ i ≠ 18)) → τ30 j i = σ j i := fun j i h_0 h_1 h_2 h_3 => by rw [e30]; exact (hpw_fr (by omega)).trans (hF28 j i h_0 h_1 h_2 h_3)
                  have hg31 : τ30 195 17 = r29 := by rw [e30]; exact (hpw_fr (Or.inl (by omega))).trans hg29
                  refine h_aload_n C dX9_goAll_104 0 rfl rfl ?_
                  refine h_get C O9 26 kd_195 (by decide) wd_1282 dX9_goAll_105 fr_195_26 ?_
                  refine h_iload_n C dX9_goAll_108 1 rfl rfl ?_
                  refine h_aload_n C dX9_goAll_109 0 rfl rfl ?_
                  refine h_get C O9 18 kd_195 (by decide) wd_1274 dX9_goAll_110 (hp_fvI (by rw [kd_195]; rfl) rfl) ?_
                  obtain ⟨hr32a, hr32b⟩ := hI30.b (bf_9_18 kd_195)
                  generalize hg32 : τ30 195 18 = r32 at hr32a hr32b ⊢
                  refine h_iastore C dX9_goAll_113 kd_206 (w5_1).toNat (Int.toNat_of_nonneg (by omega)) (by rw [ln_206]; omega) ?_
                  obtain ⟨τ33, e33⟩ : ∃ μ : hpMem, μ = hpw τ30 206 ((w5_1).toNat) r32 := ⟨_, rfl⟩
                  rw [← e33]
                  have hI33 : hpInv τ33 := by rw [e33]; exact hI30.w (bo_206 _) (by omega) (by omega)
                  have hF33 : ∀ j i : Nat, j ≠ 202 → j ≠ 205 → j ≠ 206 → (j ≠ 195 ∨ (i ≠ 17 ∧ i ≠ 18)) → τ33 j i = σ j i := fun j i h_0 h_1 h_2 h_3 => by rw [e33]; exact (hpw_fr (by omega)).trans (hF30 j i h_0 h_1 h_2 h_3)
                  have hg34 : τ33 195 17 = r29 := by rw [e33]; exact (hpw_fr (Or.inl (by omega))).trans hg31
                  have hg35 : τ33 195 18 = r32 := by rw [e33]; exact (hpw_fr (Or.inl (by omega))).trans hg32
                  refine h_iinc (lv' := [(1, .int (hpI (w5_1 + 1))), (0, .ref (z + 195))]) C dX9_goAll_114 1 rfl rfl (by decide) rfl ?_
                  refine h_goto (tgt := 38) C dX9_goAll_117 (by decide) ?_
                  exact hp_sub [1, 0] rfl (ih5 _ (w5_1 + 1) (by omega) (by omega) hI33 hF33 (hK.same (fun i => by rw [e33, hpw_fr (Or.inl (by decide)), e30, hpw_fr (Or.inl (by decide))])) (fun r h1 h2 => (hKA r h1 h2).same (fun i => by rw [e33, hpw_fr (Or.inl (by decide)), e30, hpw_fr (Or.inl (by decide))])) (by omega))
              · refine h_return C hr hlk dX9_goAll_66 ?_
                exact ⟨rfl, hI9, hF9, fun r h1 h2 => hAll r h1 (by omega)⟩
        exact hp_sub [1, 0] rfl (L5 8589934592 _ 0 (by omega) (by omega) hI2 hF2 (hM2_0.mono (by have q := hpWd_b σ 0 b4 b5; omega)) (fun r h1 h2 => by exfalso; omega) (by omega))
      · refine h_aload_n C dX9_goAll_18 0 rfl rfl ?_
        refine h_bipush C dX9_goAll_19 (by decide) ?_
        refine h_aload_n C dX9_goAll_21 0 rfl rfl ?_
        refine h_get C O9 19 kd_195 (by decide) wd_1275 dX9_goAll_22 fr_195_19 ?_
        refine h_iload_n C dX9_goAll_25 1 rfl rfl ?_
        refine h_iaload C dX9_goAll_26 kd_203 (w2_1).toNat (Int.toNat_of_nonneg (by omega)) (by rw [ln_203]; omega) rfl ?_
        obtain ⟨hr36a, hr36b⟩ := hI2.b (bo_203 _)
        generalize hg36 : τ2 203 ((w2_1).toNat) = r36 at hr36a hr36b ⊢
        have hm := hM2_0.many
        refine h_callV (As := [.int (hpI 17), .int (hpI r36)]) (rest := []) C Z yyX9_lay wd_1532 (tgX9_lay l D cy z _ 17 ⟨by decide, by decide⟩ r36 ⟨by omega, by omega⟩ hI2 (by omega) (by omega)) kd_195 rfl rfl ⟨rfl, rfl, Nat.le_of_ble_eq_true rfl, Nat.le_of_ble_eq_true rfl⟩ ⟨Nat.le_of_ble_eq_true rfl, Nat.le_of_ble_eq_true rfl⟩ (Nat.le_of_ble_eq_true rfl) dX9_goAll_27 (fun r37 τ37 hp37 => ?_)
        obtain ⟨rfl, hI37, hG37, hq37_0⟩ := hp37
        have hF37 : ∀ j i : Nat, j ≠ 202 → j ≠ 205 → j ≠ 206 → (j ≠ 195 ∨ (i ≠ 17 ∧ i ≠ 18)) → τ37 j i = σ j i := fun j i h_0 h_1 h_2 h_3 => (hG37 j i (by omega)).trans (hF2 j i h_0 h_1 h_2 h_3)
        show hpV _ _ _ _ _ _ _ _ _ _ _ _ _ _ _ _ _ _ _ _ _ []
        refine h_iinc (lv' := [(1, .int (hpI (w2_1 + 1))), (0, .ref (z + 195))]) C dX9_goAll_30 1 rfl rfl (by decide) rfl ?_
        refine h_goto (tgt := 8) C dX9_goAll_33 (by decide) ?_
        exact hp_sub [1, 0] rfl (ih2 _ (w2_1 + 1) (by omega) (by omega) hI37 hF37 ((hM2_0.lay (by omega) hq37_0).mono (by omega)) (by omega))
  exact hp_sub [1, 0] rfl (L2 8589934592 _ 0 (by omega) (by omega) hI1 hF1 ((hpLe.nil hq1_0).mono (by omega)) (by omega))
abbrev rgX9_asksMoor : Room := { frames := 4, cells := 0, slots := 0, locals := 90 }
abbrev pgX9_asksMoor (z : Nat) (σ : hpMem) : Option Value → hpMem → Prop := fun r τ => (∃ x : Int, r = some (.int (hpI x)) ∧ (0 ≤ x ∧ x ≤ 1) ∧ hpInv τ ∧ (∀ j i : Nat, j ≠ 202 → j ≠ 203 → j ≠ 204 → j ≠ 205 → j ≠ 206 → (j ≠ 195 ∨ (i ≠ 16 ∧ i ≠ 17 ∧ i ≠ 18 ∧ i ≠ 21 ∧ i ≠ 22 ∧ i ≠ 23)) → τ j i = σ j i) ∧ (∀ r : Int, 0 ≤ r → r ≤ τ 196 0 → hpLe (τ 202) r 700))
set_option maxHeartbeats 4000000 in
set_option maxRecDepth 20000 in
theorem tgX9_asksMoor (l : Launch) (D : va_G) (cy : Nat → ClassId) (z : Nat) (σ : hpMem) (hI : hpInv σ) : hpM l D cy z yX9_asksMoor cX9_asksMoor 1 (some .boolean) rgX9_asksMoor [.ref (z + 195)] σ (pgX9_asksMoor z σ) := by
  refine hp_met rfl (Nat.le_of_ble_eq_true rfl) (fun p e s m below meth c C Z hr hlk => ?_)
  have hF0 : ∀ j i : Nat, j ≠ 202 → j ≠ 203 → j ≠ 204 → j ≠ 205 → j ≠ 206 → (j ≠ 195 ∨ (i ≠ 16 ∧ i ≠ 17 ∧ i ≠ 18 ∧ i ≠ 21 ∧ i ≠ 22 ∧ i ≠ 23)) → σ j i = σ j i := fun j i _ _ _ _ _ _ => rfl
  refine h_aload_n C dX9_asksMoor_0 0 rfl rfl ?_
  refine h_callV (As := []) (rest := []) C Z yyX9_asItIs wd_1520 (tgX9_asItIs l D cy z _ hI) kd_195 rfl rfl ⟨rfl, rfl, Nat.le_of_ble_eq_true rfl, Nat.le_of_ble_eq_true rfl⟩ ⟨Nat.le_of_ble_eq_true rfl, Nat.le_of_ble_eq_true rfl⟩ (Nat.le_of_ble_eq_true rfl) dX9_asksMoor_1 (fun r1 τ1 hp1 => ?_)
  obtain ⟨rfl, hI1, hG1⟩ := hp1
  have hF1 : ∀ j i : Nat, j ≠ 202 → j ≠ 203 → j ≠ 204 → j ≠ 205 → j ≠ 206 → (j ≠ 195 ∨ (i ≠ 16 ∧ i ≠ 17 ∧ i ≠ 18 ∧ i ≠ 21 ∧ i ≠ 22 ∧ i ≠ 23)) → τ1 j i = σ j i := fun j i h_0 h_1 h_2 h_3 h_4 h_5 => (hG1 j i (by omega) (by omega) (by omega)).trans (hF0 j i h_0 h_1 h_2 h_3 h_4 h_5)
  show hpV _ _ _ _ _ _ _ _ _ _ _ _ _ _ _ _ _ _ _ _ _ []
  refine h_aload_n C dX9_asksMoor_4 0 rfl rfl ?_
  refine h_callV (As := []) (rest := []) C Z yyX9_goAll wd_1524 (tgX9_goAll l D cy z _ hI1) kd_195 rfl rfl ⟨rfl, rfl, Nat.le_of_ble_eq_true rfl, Nat.le_of_ble_eq_true rfl⟩ ⟨Nat.le_of_ble_eq_true rfl, Nat.le_of_ble_eq_true rfl⟩ (Nat.le_of_ble_eq_true rfl) dX9_asksMoor_5 (fun r2 τ2 hp2 => ?_)
  obtain ⟨rfl, hI2, hG2, hq2_0⟩ := hp2
  have hF2 : ∀ j i : Nat, j ≠ 202 → j ≠ 203 → j ≠ 204 → j ≠ 205 → j ≠ 206 → (j ≠ 195 ∨ (i ≠ 16 ∧ i ≠ 17 ∧ i ≠ 18 ∧ i ≠ 21 ∧ i ≠ 22 ∧ i ≠ 23)) → τ2 j i = σ j i := fun j i h_0 h_1 h_2 h_3 h_4 h_5 => (hG2 j i (by omega) (by omega) (by omega) (by omega)).trans (hF1 j i h_0 h_1 h_2 h_3 h_4 h_5)
  show hpV _ _ _ _ _ _ _ _ _ _ _ _ _ _ _ _ _ _ _ _ _ []
  refine h_aload_n C dX9_asksMoor_8 0 rfl rfl ?_
  refine h_callV (As := []) (rest := []) C Z yyX9_isMoor wd_1571 (tgX9_isMoor l D cy z _ hI2) kd_195 rfl rfl ⟨rfl, rfl, Nat.le_of_ble_eq_true rfl, Nat.le_of_ble_eq_true rfl⟩ ⟨Nat.le_of_ble_eq_true rfl, Nat.le_of_ble_eq_true rfl⟩ (Nat.le_of_ble_eq_true rfl) dX9_asksMoor_9 (fun r3 τ3 hp3 => ?_)
  obtain ⟨⟨x3, rfl, ⟨hx3a, hx3b⟩, hx3⟩, rfl⟩ := hp3
  show hpV _ _ _ _ _ _ _ _ _ _ _ _ _ _ _ _ _ _ _ _ _ (_ :: _)
  refine h_zreturn C (by omega) hr hlk dX9_asksMoor_12 ?_
  exact ⟨_, rfl, ⟨by omega, by omega⟩, hI2, hF2, hq2_0⟩
abbrev rgX9_asksDay : Room := { frames := 5, cells := 0, slots := 0, locals := 110 }
abbrev pgX9_asksDay (z : Nat) (σ : hpMem) (a0 : Int) : Option Value → hpMem → Prop := fun r τ => (∃ x : Int, r = some (.int (hpI x)) ∧ (0 ≤ x ∧ x ≤ 1) ∧ (x = 1 → (0 ≤ a0 ∧ a0 ≤ τ 196 0 ∧ a0 ≤ 16)) ∧ hpInv τ ∧ (∀ j i : Nat, j ≠ 202 → j ≠ 203 → j ≠ 204 → j ≠ 205 → j ≠ 206 → (j ≠ 195 ∨ (i ≠ 16 ∧ i ≠ 17 ∧ i ≠ 18 ∧ i ≠ 21 ∧ i ≠ 22 ∧ i ≠ 23)) → τ j i = σ j i) ∧ (∀ r : Int, 0 ≤ r → r ≤ τ 196 0 → hpLe (τ 202) r 700))
set_option maxHeartbeats 4000000 in
set_option maxRecDepth 20000 in
theorem tgX9_asksDay (l : Launch) (D : va_G) (cy : Nat → ClassId) (z : Nat) (σ : hpMem) (a0 : Int) (ha0 : hpR a0) (hI : hpInv σ) : hpM l D cy z yX9_asksDay cX9_asksDay 2 (some .boolean) rgX9_asksDay [.ref (z + 195), .int (hpI a0)] σ (pgX9_asksDay z σ a0) := by
  obtain ⟨ha01, ha02⟩ := ha0
  refine hp_met rfl (Nat.le_of_ble_eq_true rfl) (fun p e s m below meth c C Z hr hlk => ?_)
  have hF0 : ∀ j i : Nat, j ≠ 202 → j ≠ 203 → j ≠ 204 → j ≠ 205 → j ≠ 206 → (j ≠ 195 ∨ (i ≠ 16 ∧ i ≠ 17 ∧ i ≠ 18 ∧ i ≠ 21 ∧ i ≠ 22 ∧ i ≠ 23)) → σ j i = σ j i := fun j i _ _ _ _ _ _ => rfl
  refine h_aload_n C dX9_asksDay_0 0 rfl rfl ?_
  refine h_callV (As := []) (rest := []) C Z yyX9_asksMoor wd_1516 (tgX9_asksMoor l D cy z _ hI) kd_195 rfl rfl ⟨rfl, rfl, Nat.le_of_ble_eq_true rfl, Nat.le_of_ble_eq_true rfl⟩ ⟨Nat.le_of_ble_eq_true rfl, Nat.le_of_ble_eq_true rfl⟩ (Nat.le_of_ble_eq_true rfl) dX9_asksDay_1 (fun r1 τ1 hp1 => ?_)
  obtain ⟨x1, rfl, ⟨hx1a, hx1b⟩, hI1, hG1, hq1_0⟩ := hp1
  have hF1 : ∀ j i : Nat, j ≠ 202 → j ≠ 203 → j ≠ 204 → j ≠ 205 → j ≠ 206 → (j ≠ 195 ∨ (i ≠ 16 ∧ i ≠ 17 ∧ i ≠ 18 ∧ i ≠ 21 ∧ i ≠ 22 ∧ i ≠ 23)) → τ1 j i = σ j i := fun j i h_0 h_1 h_2 h_3 h_4 h_5 => (hG1 j i (by omega) (by omega) (by omega) (by omega) (by omega) (by omega)).trans (hF0 j i h_0 h_1 h_2 h_3 h_4 h_5)
  show hpV _ _ _ _ _ _ _ _ _ _ _ _ _ _ _ _ _ _ _ _ _ (_ :: _)
  refine h_pop C rfl dX9_asksDay_4 ?_
  refine h_aload_n C dX9_asksDay_5 0 rfl rfl ?_
  refine h_iload_n C dX9_asksDay_6 1 rfl rfl ?_
  refine h_i2l C dX9_asksDay_7 ⟨by omega, by omega⟩ ?_
  refine h_callV (As := [.long (hpJ a0)]) (rest := []) C Z yyX9_isDay wd_1575 (tgX9_isDay l D cy z _ a0 ⟨by omega, by omega⟩ hI1) kd_195 rfl rfl ⟨rfl, rfl, Nat.le_of_ble_eq_true rfl, Nat.le_of_ble_eq_true rfl⟩ ⟨Nat.le_of_ble_eq_true rfl, Nat.le_of_ble_eq_true rfl⟩ (Nat.le_of_ble_eq_true rfl) dX9_asksDay_8 (fun r2 τ2 hp2 => ?_)
  obtain ⟨⟨x2, rfl, ⟨hx2a, hx2b⟩, hx2⟩, rfl⟩ := hp2
  show hpV _ _ _ _ _ _ _ _ _ _ _ _ _ _ _ _ _ _ _ _ _ (_ :: _)
  refine h_zreturn C (by omega) hr hlk dX9_asksDay_11 ?_
  exact ⟨_, rfl, ⟨by omega, by omega⟩, by omega, hI1, hF1, hq1_0⟩

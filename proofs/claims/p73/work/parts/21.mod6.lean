abbrev rgX9_keepListed : Room := { frames := 1, cells := 0, slots := 0, locals := 21 }
abbrev pgX9_keepListed (z : Nat) (σ : hpMem) (L : List Nat) : Option Value → hpMem → Prop := fun r τ => r = none ∧ hpInv τ ∧ (∀ j i : Nat, (j ≠ 207 ∨ (i : Int) < 15 * σ 195 32 ∨ 15 * σ 195 32 + 14 < (i : Int)) → (j ≠ 195 ∨ (i ≠ 32)) → τ j i = σ j i) ∧ (hpLd (τ 207) (σ 195 32) L) ∧ (τ 195 32 = σ 195 32 + 1)
set_option maxHeartbeats 4000000 in
set_option maxRecDepth 20000 in
theorem tgX9_keepListed (l : Launch) (D : va_G) (cy : Nat → ClassId) (z : Nat) (σ : hpMem) (hI : hpInv σ) (L : List Nat) (hL : hpRw (σ 202) 18 L) (hl14 : L.length ≤ 14) (hn : σ 195 32 ≤ 134) : hpM l D cy z yX9_keepListed cX9_keepListed 3 none rgX9_keepListed [.ref (z + 195)] σ (pgX9_keepListed z σ L) := by
  refine hp_met rfl (Nat.le_of_ble_eq_true rfl) (fun p e s m below meth c C Z hr hlk => ?_)
  have hF0 : ∀ j i : Nat, (j ≠ 207 ∨ (i : Int) < 15 * σ 195 32 ∨ 15 * σ 195 32 + 14 < (i : Int)) → (j ≠ 195 ∨ (i ≠ 32)) → σ j i = σ j i := fun j i _ _ => rfl
  have hL1 := hL.1
  refine h_bipush C dX9_keepListed_0 (by decide) ?_
  refine h_aload_n C dX9_keepListed_2 0 rfl rfl ?_
  refine h_get C O9 32 kd_195 (by decide) wd_1288 dX9_keepListed_3 (hp_fvI (by rw [kd_195]; rfl) rfl) ?_
  obtain ⟨hr1a, hr1b⟩ := hI.b (bf_9_32 kd_195)
  generalize hg1 : σ 195 32 = r1 at hr1a hr1b ⊢
  refine h_imul C dX9_keepListed_6 rfl ?_
  refine h_istore_n (lv' := [(1, .int (hpI (15 * r1))), (0, .ref (z + 195))]) C dX9_keepListed_7 rfl (by decide) rfl ?_
  refine h_iconst C dX9_keepListed_8 ?_
  refine h_istore_n (lv' := [(2, .int (hpI 0)), (1, .int (hpI (15 * r1))), (0, .ref (z + 195))]) C dX9_keepListed_9 rfl (by decide) rfl ?_
  have L2 : ∀ (n2 : Nat) (τ2 : hpMem) (w2_2 : Int), 0 ≤ w2_2 → w2_2 ≤ 15 → hpInv τ2 → (∀ j i : Nat, (j ≠ 207 ∨ (i : Int) < 15 * σ 195 32 ∨ 15 * σ 195 32 + 14 < (i : Int)) → (j ≠ 195 ∨ (i ≠ 32)) → τ2 j i = σ j i) → (∀ q : Nat, (q : Int) < w2_2 → τ2 207 (15 * σ 195 32 + (q : Int)).toNat = σ 202 (12618 + (q : Int)).toNat) → (τ2 195 32 = σ 195 32) → (4294967296 - w2_2) < (n2 : Int) → hpF p l e rgX9_keepListed s m [.ref (z + 195)] below meth c 3 D cy z (pgX9_keepListed z σ L) τ2 10 [(0, .ref (z + 195)), (1, .int (hpI (15 * r1))), (2, .int (hpI w2_2))] [] := by
    intro n2
    induction n2 with
    | zero => intro τ2 w2_2 hv2_0 hv2_1 hI2 hF2 hM2_0 hM2_1 hm2; exfalso; omega
    | succ n2 ih2 =>
      intro τ2 w2_2 hv2_0 hv2_1 hI2 hF2 hM2_0 hM2_1 hm2
      refine h_iload_n C dX9_keepListed_10 2 rfl rfl ?_
      refine h_aload_n C dX9_keepListed_11 0 rfl rfl ?_
      refine h_bipush C dX9_keepListed_12 (by decide) ?_
      refine h_callV (As := [.int (hpI 18)]) (rest := [.int (hpI w2_2)]) C Z yyX9_manyOf wd_1536 (tgX9_manyOf l D cy z _ 18 ⟨by decide, by decide⟩ hI2 (by omega)) kd_195 rfl rfl ⟨rfl, rfl, Nat.le_of_ble_eq_true rfl, Nat.le_of_ble_eq_true rfl⟩ ⟨Nat.le_of_ble_eq_true rfl, Nat.le_of_ble_eq_true rfl⟩ (Nat.le_of_ble_eq_true rfl) dX9_keepListed_14 (fun r3 τ3 hp3 => ?_)
      obtain ⟨⟨x3, rfl, ⟨hx3a, hx3b⟩, hx3⟩, rfl⟩ := hp3
      show hpV _ _ _ _ _ _ _ _ _ _ _ _ _ _ _ _ _ _ _ _ _ (_ :: _)
      have hq14 := hF2 202 (701 * 18 : Int).toNat (by omega) (by omega)
      refine h_icmp_gt (tgt := 44) C dX9_keepListed_17 (by decide) ⟨by omega, by omega⟩ ⟨by omega, by omega⟩ (fun h4 => ?_) (fun h4 => ?_)
      · refine h_aload_n C dX9_keepListed_44 0 rfl rfl ?_
        refine h_dup C rfl dX9_keepListed_45 ?_
        refine h_get C O9 32 kd_195 (by decide) wd_1288 dX9_keepListed_46 (hp_fvI (by rw [kd_195]; rfl) rfl) ?_
        obtain ⟨hr5a, hr5b⟩ := hI2.b (bf_9_32 kd_195)
        generalize hg5 : τ2 195 32 = r5 at hr5a hr5b ⊢
        refine h_iconst C dX9_keepListed_49 ?_
        refine h_iadd C dX9_keepListed_50 rfl ?_
        refine h_put C O9 32 kd_195 (by decide) rfl wd_1288 dX9_keepListed_51 rfl rfl (hp_fvI (by rw [kd_195]; rfl) hpu_at) ?_
        obtain ⟨τ6, e6⟩ : ∃ μ : hpMem, μ = hpw τ2 195 32 (r5 + 1) := ⟨_, rfl⟩
        rw [← e6]
        have hI6 : hpInv τ6 := by rw [e6]; exact hI2.w (bf_9_32 kd_195) (by omega) (by omega)
        have hF6 : ∀ j i : Nat, (j ≠ 207 ∨ (i : Int) < 15 * σ 195 32 ∨ 15 * σ 195 32 + 14 < (i : Int)) → (j ≠ 195 ∨ (i ≠ 32)) → τ6 j i = σ j i := fun j i h_0 h_1 => by rw [e6]; exact (hpw_fr (by omega)).trans (hF2 j i h_0 h_1)
        have hg7 : τ6 195 32 = r5 + 1 := by rw [e6]; exact hpw_eq
        refine h_return C hr hlk dX9_keepListed_54 ?_
        exact ⟨rfl, hI6, hF6, by have z := hpLd_of (k := σ 195 32) (g := τ2 207) hL (fun q hq => hM2_0 q (by omega)); exact ⟨(by rw [e6, hpw_fr (Or.inl (by decide))]; exact z.1), fun j hj => by rw [e6, hpw_fr (Or.inl (by decide))]; exact z.2 j hj⟩, by omega⟩
      · refine h_aload_n C dX9_keepListed_20 0 rfl rfl ?_
        refine h_get C O9 29 kd_195 (by decide) wd_1285 dX9_keepListed_21 fr_195_29 ?_
        refine h_iload_n C dX9_keepListed_24 1 rfl rfl ?_
        refine h_iload_n C dX9_keepListed_25 2 rfl rfl ?_
        refine h_iadd C dX9_keepListed_26 rfl ?_
        refine h_aload_n C dX9_keepListed_27 0 rfl rfl ?_
        refine h_get C O9 15 kd_195 (by decide) wd_1271 dX9_keepListed_28 fr_195_15 ?_
        refine h_sipush C dX9_keepListed_31 (by decide) ?_
        refine h_iload_n C dX9_keepListed_34 2 rfl rfl ?_
        refine h_iadd C dX9_keepListed_35 rfl ?_
        refine h_iaload C dX9_keepListed_36 kd_202 (12618 + w2_2).toNat (Int.toNat_of_nonneg (by omega)) (by rw [ln_202]; omega) rfl ?_
        obtain ⟨hr8a, hr8b⟩ := hpInv.r202 hI2 _
        generalize hg8 : τ2 202 ((12618 + w2_2).toNat) = r8 at hr8a hr8b ⊢
        have hv37 : w2_2 ≠ 0 ∨ (0 ≤ r8 ∧ r8 ≤ 14) := by by_cases e : w2_2 = 0; (right; have q : τ2 202 (12618 + w2_2).toNat = τ2 202 (701 * 18 : Int).toNat := (by rw [show (12618 + w2_2) = 701 * 18 by omega]); omega); (exact Or.inl e)
        refine h_iastore C dX9_keepListed_37 kd_207 ((15 * r1) + w2_2).toNat (Int.toNat_of_nonneg (by omega)) (by rw [ln_207]; omega) ?_
        obtain ⟨τ9, e9⟩ : ∃ μ : hpMem, μ = hpw τ2 207 (((15 * r1) + w2_2).toNat) r8 := ⟨_, rfl⟩
        rw [← e9]
        have hI9 : hpInv τ9 := by rw [e9]; exact hpInv.w207 hI2 (fun hm => ⟨by omega, by omega⟩) ⟨by omega, by omega⟩
        have hF9 : ∀ j i : Nat, (j ≠ 207 ∨ (i : Int) < 15 * σ 195 32 ∨ 15 * σ 195 32 + 14 < (i : Int)) → (j ≠ 195 ∨ (i ≠ 32)) → τ9 j i = σ j i := fun j i h_0 h_1 => by rw [e9]; exact (hpw_fr (by omega)).trans (hF2 j i h_0 h_1)
        have hg10 : τ9 202 ((12618 + w2_2).toNat) = r8 := by rw [e9]; exact (hpw_fr (Or.inl (by omega))).trans hg8
        refine h_iinc (lv' := [(2, .int (hpI (w2_2 + 1))), (0, .ref (z + 195)), (1, .int (hpI (15 * r1)))]) C dX9_keepListed_38 2 rfl rfl (by decide) rfl ?_
        refine h_goto (tgt := 10) C dX9_keepListed_41 (by decide) ?_
        exact hp_sub [1, 2, 0] rfl (ih2 _ (w2_2 + 1) (by omega) (by omega) hI9 hF9 (fun q hq => by rw [e9]; by_cases eq : (q : Int) = w2_2; (rw [eq, show (15 * σ 195 32 + w2_2).toNat = ((15 * r1) + w2_2).toNat by omega, hpw_eq]; have q2 := hF2 202 (12618 + w2_2).toNat (by omega) (by omega); omega); (rw [hpw_fr (by omega)]; exact hM2_0 q (by omega))) (by rw [e9, hpw_fr (Or.inl (by decide))]; exact hM2_1) (by omega))
  exact hp_sub [2, 1, 0] rfl (L2 8589934592 _ 0 (by omega) (by omega) hI hF0 (fun q hq => by exfalso; omega) rfl (by omega))
abbrev rgX9_takeListed : Room := { frames := 0, cells := 0, slots := 0, locals := 0 }
abbrev pgX9_takeListed (z : Nat) (σ : hpMem) (a0 : Int) (a1 : Int) (L : List Nat) : Option Value → hpMem → Prop := fun r τ => r = none ∧ hpInv τ ∧ (∀ j i : Nat, (j ≠ 202 ∨ (i : Int) < 701 * a1 ∨ 701 * a1 + 700 < (i : Int)) → τ j i = σ j i) ∧ (hpRw (τ 202) a1 L)
set_option maxHeartbeats 4000000 in
set_option maxRecDepth 20000 in
theorem tgX9_takeListed (l : Launch) (D : va_G) (cy : Nat → ClassId) (z : Nat) (σ : hpMem) (a0 : Int) (ha0 : hpR a0) (a1 : Int) (ha1 : hpR a1) (hI : hpInv σ) (L : List Nat) (hk0 : 0 ≤ a0 ∧ a0 ≤ 134) (hr1 : 0 ≤ a1 ∧ a1 ≤ 20) (hL : hpLd (σ 207) a0 L) (hl14 : L.length ≤ 14) : hpM l D cy z yX9_takeListed cX9_takeListed 5 none rgX9_takeListed [.ref (z + 195), .int (hpI a0), .int (hpI a1)] σ (pgX9_takeListed z σ a0 a1 L) := by
  obtain ⟨ha01, ha02⟩ := ha0
  obtain ⟨ha11, ha12⟩ := ha1
  refine hp_met rfl (Nat.le_of_ble_eq_true rfl) (fun p e s m below meth c C Z hr hlk => ?_)
  have hF0 : ∀ j i : Nat, (j ≠ 202 ∨ (i : Int) < 701 * a1 ∨ 701 * a1 + 700 < (i : Int)) → σ j i = σ j i := fun j i _ => rfl
  have hL1 := hL.1
  refine h_bipush C dX9_takeListed_0 (by decide) ?_
  refine h_iload_n C dX9_takeListed_2 1 rfl rfl ?_
  refine h_imul C dX9_takeListed_3 rfl ?_
  refine h_istore_n (lv' := [(3, .int (hpI (15 * a0))), (0, .ref (z + 195)), (1, .int (hpI a0)), (2, .int (hpI a1))]) C dX9_takeListed_4 rfl (by decide) rfl ?_
  refine h_iconst C dX9_takeListed_5 ?_
  refine h_istore (lv' := [(4, .int (hpI 0)), (3, .int (hpI (15 * a0))), (0, .ref (z + 195)), (1, .int (hpI a0)), (2, .int (hpI a1))]) C dX9_takeListed_6 (by decide) rfl ?_
  have L1 : ∀ (n1 : Nat) (τ1 : hpMem) (w1_4 : Int), 0 ≤ w1_4 → w1_4 ≤ 15 → hpInv τ1 → (∀ j i : Nat, (j ≠ 202 ∨ (i : Int) < 701 * a1 ∨ 701 * a1 + 700 < (i : Int)) → τ1 j i = σ j i) → (∀ q : Nat, (q : Int) < w1_4 → τ1 202 (701 * a1 + (q : Int)).toNat = σ 207 (15 * a0 + (q : Int)).toNat) → (4294967296 - w1_4) < (n1 : Int) → hpF p l e rgX9_takeListed s m [.ref (z + 195), .int (hpI a0), .int (hpI a1)] below meth c 5 D cy z (pgX9_takeListed z σ a0 a1 L) τ1 8 [(0, .ref (z + 195)), (1, .int (hpI a0)), (2, .int (hpI a1)), (3, .int (hpI (15 * a0))), (4, .int (hpI w1_4))] [] := by
    intro n1
    induction n1 with
    | zero => intro τ1 w1_4 hv1_0 hv1_1 hI1 hF1 hM1_0 hm1; exfalso; omega
    | succ n1 ih1 =>
      intro τ1 w1_4 hv1_0 hv1_1 hI1 hF1 hM1_0 hm1
      refine h_iload C dX9_takeListed_8 4 rfl ?_
      refine h_aload_n C dX9_takeListed_10 0 rfl rfl ?_
      refine h_get C O9 29 kd_195 (by decide) wd_1285 dX9_takeListed_11 fr_195_29 ?_
      refine h_iload_n C dX9_takeListed_14 3 rfl rfl ?_
      refine h_iaload C dX9_takeListed_15 kd_207 (15 * a0).toNat (Int.toNat_of_nonneg (by omega)) (by rw [ln_207]; omega) rfl ?_
      obtain ⟨hr2a, hr2b⟩ := hI1.b (bh_207 (i := (15 * a0).toNat) (by omega))
      generalize hg2 : τ1 207 ((15 * a0).toNat) = r2 at hr2a hr2b ⊢
      have hq15 := hF1 207 (15 * a0).toNat (by omega)
      refine h_icmp_gt (tgt := 47) C dX9_takeListed_16 (by decide) ⟨by omega, by omega⟩ ⟨by omega, by omega⟩ (fun h3 => ?_) (fun h3 => ?_)
      · refine h_return C hr hlk dX9_takeListed_47 ?_
        exact ⟨rfl, hI1, hF1, hpRw_of hL (fun q hq => hM1_0 q (by omega))⟩
      · refine h_aload_n C dX9_takeListed_19 0 rfl rfl ?_
        refine h_get C O9 15 kd_195 (by decide) wd_1271 dX9_takeListed_20 fr_195_15 ?_
        refine h_sipush C dX9_takeListed_23 (by decide) ?_
        refine h_iload_n C dX9_takeListed_26 2 rfl rfl ?_
        refine h_imul C dX9_takeListed_27 rfl ?_
        refine h_iload C dX9_takeListed_28 4 rfl ?_
        refine h_iadd C dX9_takeListed_30 rfl ?_
        refine h_aload_n C dX9_takeListed_31 0 rfl rfl ?_
        refine h_get C O9 29 kd_195 (by decide) wd_1285 dX9_takeListed_32 fr_195_29 ?_
        refine h_iload_n C dX9_takeListed_35 3 rfl rfl ?_
        refine h_iload C dX9_takeListed_36 4 rfl ?_
        refine h_iadd C dX9_takeListed_38 rfl ?_
        refine h_iaload C dX9_takeListed_39 kd_207 ((15 * a0) + w1_4).toNat (Int.toNat_of_nonneg (by omega)) (by rw [ln_207]; omega) rfl ?_
        obtain ⟨hr4a, hr4b⟩ := hpInv.r207 hI1 _
        generalize hg4 : τ1 207 (((15 * a0) + w1_4).toNat) = r4 at hr4a hr4b ⊢
        have hv40 : w1_4 ≠ 0 ∨ (0 ≤ r4 ∧ r4 ≤ 700) := by by_cases e : w1_4 = 0; (right; have q : τ1 207 (15 * a0 + w1_4).toNat = τ1 207 (15 * a0).toNat := (by rw [show 15 * a0 + w1_4 = 15 * a0 by omega]); omega); (exact Or.inl e)
        refine h_iastore C dX9_takeListed_40 kd_202 ((701 * a1) + w1_4).toNat (Int.toNat_of_nonneg (by omega)) (by rw [ln_202]; omega) ?_
        obtain ⟨τ5, e5⟩ : ∃ μ : hpMem, μ = hpw τ1 202 (((701 * a1) + w1_4).toNat) r4 := ⟨_, rfl⟩
        rw [← e5]
        have hI5 : hpInv τ5 := by rw [e5]; exact hpInv.w202 hI1 (fun hm => ⟨by omega, by omega⟩) ⟨by omega, by omega⟩
        have hF5 : ∀ j i : Nat, (j ≠ 202 ∨ (i : Int) < 701 * a1 ∨ 701 * a1 + 700 < (i : Int)) → τ5 j i = σ j i := fun j i h_0 => by rw [e5]; exact (hpw_fr (by omega)).trans (hF1 j i h_0)
        have hg6 : τ5 207 ((15 * a0).toNat) = r2 := by rw [e5]; exact (hpw_fr (Or.inl (by omega))).trans hg2
        have hg7 : τ5 207 (((15 * a0) + w1_4).toNat) = r4 := by rw [e5]; exact (hpw_fr (Or.inl (by omega))).trans hg4
        refine h_iinc (lv' := [(4, .int (hpI (w1_4 + 1))), (0, .ref (z + 195)), (1, .int (hpI a0)), (2, .int (hpI a1)), (3, .int (hpI (15 * a0)))]) C dX9_takeListed_41 4 rfl rfl (by decide) rfl ?_
        refine h_goto (tgt := 8) C dX9_takeListed_44 (by decide) ?_
        exact hp_sub [1, 2, 3, 4, 0] rfl (ih1 _ (w1_4 + 1) (by omega) (by omega) hI5 hF5 (fun q hq => by rw [e5]; by_cases eq : (q : Int) = w1_4; (rw [eq, hpw_eq]; have q2 := hF1 207 (15 * a0 + w1_4).toNat (by omega); omega); (rw [hpw_fr (by omega)]; exact hM1_0 q (by omega))) (by omega))
  exact hp_sub [2, 3, 4, 1, 0] rfl (L1 8589934592 _ 0 (by omega) (by omega) hI hF0 (fun q hq => by exfalso; omega) (by omega))
abbrev rgX9_findListed : Room := { frames := 2, cells := 0, slots := 0, locals := 46 }
abbrev pgX9_findListed (z : Nat) (σ : hpMem) (a0 : Int) (A : List (List Nat)) (M : List Nat) : Option Value → hpMem → Prop := fun r τ => (∃ x : Int, r = some (.int (hpI x)) ∧ (hpR x) ∧ (-1 ≤ x ∧ x ≤ 134) ∧ hpInv τ ∧ (∀ j i : Nat, (j ≠ 202 ∨ (i : Int) < 14020) → τ j i = σ j i) ∧ (M ∈ A → 0 ≤ x ∧ x < σ 195 32))
set_option maxHeartbeats 4000000 in
set_option maxRecDepth 20000 in
theorem tgX9_findListed (l : Launch) (D : va_G) (cy : Nat → ClassId) (z : Nat) (σ : hpMem) (a0 : Int) (ha0 : hpR a0) (hI : hpInv σ) (A : List (List Nat)) (M : List Nat) (hr0 : 0 ≤ a0 ∧ a0 ≤ 19) (hA : hpLt (σ 207) A) (hn : σ 195 32 = (A.length : Int)) (hM : hpRw (σ 202) a0 M) (hMl : M.length ≤ 700) : hpM l D cy z yX9_findListed cX9_findListed 3 (some .int) rgX9_findListed [.ref (z + 195), .int (hpI a0)] σ (pgX9_findListed z σ a0 A M) := by
  obtain ⟨ha01, ha02⟩ := ha0
  refine hp_met rfl (Nat.le_of_ble_eq_true rfl) (fun p e s m below meth c C Z hr hlk => ?_)
  have hF0 : ∀ j i : Nat, (j ≠ 202 ∨ (i : Int) < 14020) → σ j i = σ j i := fun j i _ => rfl
  refine h_iconst C dX9_findListed_0 ?_
  refine h_istore_n (lv' := [(2, .int (hpI 0)), (0, .ref (z + 195)), (1, .int (hpI a0))]) C dX9_findListed_1 rfl (by decide) rfl ?_
  have L1 : ∀ (n1 : Nat) (τ1 : hpMem) (w1_2 : Int), 0 ≤ w1_2 → w1_2 ≤ 135 → hpInv τ1 → (∀ j i : Nat, (j ≠ 202 ∨ (i : Int) < 14020) → τ1 j i = σ j i) → (∀ q : Nat, (q : Int) < w1_2 → A.getD q [] ≠ M) → (4294967296 - w1_2) < (n1 : Int) → hpF p l e rgX9_findListed s m [.ref (z + 195), .int (hpI a0)] below meth c 3 D cy z (pgX9_findListed z σ a0 A M) τ1 2 [(0, .ref (z + 195)), (1, .int (hpI a0)), (2, .int (hpI w1_2))] [] := by
    intro n1
    induction n1 with
    | zero => intro τ1 w1_2 hv1_0 hv1_1 hI1 hF1 hM1_0 hm1; exfalso; omega
    | succ n1 ih1 =>
      intro τ1 w1_2 hv1_0 hv1_1 hI1 hF1 hM1_0 hm1
      refine h_iload_n C dX9_findListed_2 2 rfl rfl ?_
      refine h_aload_n C dX9_findListed_3 0 rfl rfl ?_
      refine h_get C O9 32 kd_195 (by decide) wd_1288 dX9_findListed_4 (hp_fvI (by rw [kd_195]; rfl) rfl) ?_
      obtain ⟨hr2a, hr2b⟩ := hI1.b (bf_9_32 kd_195)
      generalize hg2 : τ1 195 32 = r2 at hr2a hr2b ⊢
      have hq32 := hF1 195 32 (by omega)
      refine h_icmp_ge (tgt := 35) C dX9_findListed_7 (by decide) ⟨by omega, by omega⟩ ⟨by omega, by omega⟩ (fun h3 => ?_) (fun h3 => ?_)
      · refine h_iconst C dX9_findListed_35 ?_
        refine h_ireturn C hr hlk dX9_findListed_36 ?_
        exact ⟨_, rfl, ⟨by decide, by decide⟩, by omega, hI1, hF1, fun h => by obtain ⟨q, hq, e⟩ := List.mem_iff_getElem.mp h; exfalso; exact hM1_0 q (by omega) (by rw [List.getD_eq_getElem?_getD, List.getElem?_eq_getElem hq]; exact e)⟩
      · refine h_aload_n C dX9_findListed_10 0 rfl rfl ?_
        refine h_iload_n C dX9_findListed_11 2 rfl rfl ?_
        refine h_bipush C dX9_findListed_12 (by decide) ?_
        have f7 : τ1 207 = σ 207 := funext (fun i => hF1 207 i (by omega))
        have hk := hA (w1_2).toNat (by omega)
        have hk1 := hk.1
        rw [show (((w1_2).toNat : Nat) : Int) = w1_2 by omega] at hk1
        refine h_callV (As := [.int (hpI w1_2), .int (hpI 20)]) (rest := []) C Z yyX9_takeListed wd_1735 (tgX9_takeListed l D cy z _ w1_2 ⟨by omega, by omega⟩ 20 ⟨by decide, by decide⟩ hI1 ((A.getD (w1_2).toNat [])) (by omega) (by omega) (by rw [f7]; exact hk1) hk.2) kd_195 rfl rfl ⟨rfl, rfl, Nat.le_of_ble_eq_true rfl, Nat.le_of_ble_eq_true rfl⟩ ⟨Nat.le_of_ble_eq_true rfl, Nat.le_of_ble_eq_true rfl⟩ (Nat.le_of_ble_eq_true rfl) dX9_findListed_14 (fun r4 τ4 hp4 => ?_)
        obtain ⟨rfl, hI4, hG4, hq4_0⟩ := hp4
        have hF4 : ∀ j i : Nat, (j ≠ 202 ∨ (i : Int) < 14020) → τ4 j i = σ j i := fun j i h_0 => (hG4 j i (by omega)).trans (hF1 j i h_0)
        show hpV _ _ _ _ _ _ _ _ _ _ _ _ _ _ _ _ _ _ _ _ _ []
        have hM14 : hpRw (τ4 202) a0 M := hM.fr hMl (by omega) (fun i h1 h2 => (hG4 202 i (by omega)).trans (hF1 202 i (by omega)))
        refine h_aload_n C dX9_findListed_17 0 rfl rfl ?_
        refine h_iload_n C dX9_findListed_18 1 rfl rfl ?_
        refine h_bipush C dX9_findListed_19 (by decide) ?_
        refine h_callV (As := [.int (hpI a0), .int (hpI 20)]) (rest := []) C Z yyX9_areSame wd_1641 (tgX9_areSame l D cy z _ a0 ⟨by omega, by omega⟩ 20 ⟨by decide, by decide⟩ hI4 (by omega) (by omega)) kd_195 rfl rfl ⟨rfl, rfl, Nat.le_of_ble_eq_true rfl, Nat.le_of_ble_eq_true rfl⟩ ⟨Nat.le_of_ble_eq_true rfl, Nat.le_of_ble_eq_true rfl⟩ (Nat.le_of_ble_eq_true rfl) dX9_findListed_21 (fun r5 τ5 hp5 => ?_)
        obtain ⟨⟨x5, rfl, ⟨hx5a, hx5b⟩, hx5⟩, rfl⟩ := hp5
        show hpV _ _ _ _ _ _ _ _ _ _ _ _ _ _ _ _ _ _ _ _ _ (_ :: _)
        refine h_if_eq (tgt := 29) C dX9_findListed_24 (by decide) ⟨by omega, by omega⟩ (fun h6 => ?_) (fun h6 => ?_)
        · refine h_iinc (lv' := [(2, .int (hpI (w1_2 + 1))), (0, .ref (z + 195)), (1, .int (hpI a0))]) C dX9_findListed_29 2 rfl rfl (by decide) rfl ?_
          refine h_goto (tgt := 2) C dX9_findListed_32 (by decide) ?_
          exact hp_sub [1, 2, 0] rfl (ih1 _ (w1_2 + 1) (by omega) (by omega) hI4 hF4 (fun q hq => by by_cases e : (q : Int) = w1_2; (rw [show q = (w1_2).toNat by omega]; exact fun e2 => (hx5.2 (by omega)) ((hpEq_iff hM14 hq4_0).mpr e2.symm)); (exact hM1_0 q (by omega))) (by omega))
        · refine h_iload_n C dX9_findListed_27 2 rfl rfl ?_
          refine h_ireturn C hr hlk dX9_findListed_28 ?_
          exact ⟨_, rfl, ⟨by omega, by omega⟩, by omega, hI4, hF4, fun _ => by omega⟩
  exact hp_sub [1, 2, 0] rfl (L1 8589934592 _ 0 (by omega) (by omega) hI hF0 (fun q hq => by exfalso; omega) (by omega))
abbrev rgX9_nextRow : Room := { frames := 2, cells := 0, slots := 0, locals := 45 }
abbrev pgX9_nextRow (z : Nat) (σ : hpMem) (L : List Nat) : Option Value → hpMem → Prop := fun r τ => (∃ x : Int, r = some (.int (hpI x)) ∧ (0 ≤ x ∧ x ≤ 1) ∧ hpInv τ ∧ (∀ j i : Nat, (j ≠ 202 ∨ (i : Int) < 701 * 18 ∨ 701 * 18 + 700 < (i : Int)) → τ j i = σ j i) ∧ (x = 0 → hpSr L L.length = 0) ∧ (x = 1 → ¬ hpSr L L.length = 0 ∧ hpRw (τ 202) 18 (hpNx L)))
set_option maxHeartbeats 4000000 in
set_option maxRecDepth 20000 in
theorem tgX9_nextRow (l : Launch) (D : va_G) (cy : Nat → ClassId) (z : Nat) (σ : hpMem) (hI : hpInv σ) (L : List Nat) (hL : hpRw (σ 202) 18 L) (hV : hpOk L) : hpM l D cy z yX9_nextRow cX9_nextRow 6 (some .boolean) rgX9_nextRow [.ref (z + 195)] σ (pgX9_nextRow z σ L) := by
  refine hp_met rfl (Nat.le_of_ble_eq_true rfl) (fun p e s m below meth c C Z hr hlk => ?_)
  have hF0 : ∀ j i : Nat, (j ≠ 202 ∨ (i : Int) < 701 * 18 ∨ 701 * 18 + 700 < (i : Int)) → σ j i = σ j i := fun j i _ => rfl
  have hLl := hV.len
  have hL1 := hL.1
  refine h_aload_n C dX9_nextRow_0 0 rfl rfl ?_
  refine h_bipush C dX9_nextRow_1 (by decide) ?_
  refine h_callV (As := [.int (hpI 18)]) (rest := []) C Z yyX9_manyOf wd_1536 (tgX9_manyOf l D cy z _ 18 ⟨by decide, by decide⟩ hI (by omega)) kd_195 rfl rfl ⟨rfl, rfl, Nat.le_of_ble_eq_true rfl, Nat.le_of_ble_eq_true rfl⟩ ⟨Nat.le_of_ble_eq_true rfl, Nat.le_of_ble_eq_true rfl⟩ (Nat.le_of_ble_eq_true rfl) dX9_nextRow_3 (fun r1 τ1 hp1 => ?_)
  obtain ⟨⟨x1, rfl, ⟨hx1a, hx1b⟩, hx1⟩, rfl⟩ := hp1
  show hpV _ _ _ _ _ _ _ _ _ _ _ _ _ _ _ _ _ _ _ _ _ (_ :: _)
  refine h_istore_n (lv' := [(1, .int (hpI x1)), (0, .ref (z + 195))]) C dX9_nextRow_6 rfl (by decide) rfl ?_
  refine h_iload_n C dX9_nextRow_7 0 rfl rfl ?_
  refine h_iconst C dX9_nextRow_8 ?_
  refine h_isub C dX9_nextRow_9 rfl ?_
  refine h_istore_n (lv' := [(2, .int (hpI (x1 - 1))), (1, .int (hpI x1)), (0, .ref (z + 195))]) C dX9_nextRow_10 rfl (by decide) rfl ?_
  have L2 : ∀ (n2 : Nat) (w2_2 : Int), -1 ≤ w2_2 → w2_2 ≤ 699 → w2_2 ≤ x1 - 1 → (hpSr L L.length = hpSr L (w2_2 + 1).toNat) → (w2_2 + 4294967296) < (n2 : Int) → hpF p l e rgX9_nextRow s m [.ref (z + 195)] below meth c 6 D cy z (pgX9_nextRow z σ L) σ 11 [(0, .ref (z + 195)), (1, .int (hpI x1)), (2, .int (hpI w2_2))] [] := by
    intro n2
    induction n2 with
    | zero => intro w2_2 hv2_0 hv2_1 hv2_2 hM2_0 hm2; exfalso; omega
    | succ n2 ih2 =>
      intro w2_2 hv2_0 hv2_1 hv2_2 hM2_0 hm2
      refine h_iload_n C dX9_nextRow_11 2 rfl rfl ?_
      refine h_if_lt (tgt := 32) C dX9_nextRow_12 (by decide) ⟨by omega, by omega⟩ (fun h3 => ?_) (fun h3 => ?_)
      · refine h_iload_n C dX9_nextRow_32 2 rfl rfl ?_
        refine h_if_ge (tgt := 38) C dX9_nextRow_33 (by decide) ⟨by omega, by omega⟩ (fun h4 => ?_) (fun h4 => ?_)
        · exfalso; omega
        · refine h_iconst C dX9_nextRow_36 ?_
          refine h_zreturn C (by omega) hr hlk dX9_nextRow_37 ?_
          exact ⟨_, rfl, ⟨by decide, by decide⟩, hI, hF0, fun _ => by rw [hM2_0, show (w2_2 + 1).toNat = 0 by omega]; rfl, fun e => by exfalso; omega⟩
      · refine h_aload_n C dX9_nextRow_15 0 rfl rfl ?_
        refine h_bipush C dX9_nextRow_16 (by decide) ?_
        refine h_iload_n C dX9_nextRow_18 2 rfl rfl ?_
        refine h_callV (As := [.int (hpI 18), .int (hpI w2_2)]) (rest := []) C Z yyX9_heightOf wd_1540 (tgX9_heightOf l D cy z _ 18 ⟨by decide, by decide⟩ w2_2 ⟨by omega, by omega⟩ hI (by omega) (by omega)) kd_195 rfl rfl ⟨rfl, rfl, Nat.le_of_ble_eq_true rfl, Nat.le_of_ble_eq_true rfl⟩ ⟨Nat.le_of_ble_eq_true rfl, Nat.le_of_ble_eq_true rfl⟩ (Nat.le_of_ble_eq_true rfl) dX9_nextRow_19 (fun r5 τ5 hp5 => ?_)
        obtain ⟨⟨x5, rfl, ⟨hx5a, hx5b⟩, hx5⟩, rfl⟩ := hp5
        show hpV _ _ _ _ _ _ _ _ _ _ _ _ _ _ _ _ _ _ _ _ _ (_ :: _)
        have hgt : σ 202 (701 * 18 + 1 + w2_2).toNat = ((L.getD (w2_2).toNat 0 : Nat) : Int) := by have q := hL.2 (w2_2).toNat (by omega); rw [show (((w2_2).toNat : Nat) : Int) = w2_2 by omega] at q; exact q
        refine h_iconst C dX9_nextRow_22 ?_
        refine h_icmp_ne (tgt := 32) C dX9_nextRow_23 (by decide) ⟨by omega, by omega⟩ ⟨by decide, by decide⟩ (fun h6 => ?_) (fun h6 => ?_)
        · refine h_iload_n C dX9_nextRow_32 2 rfl rfl ?_
          refine h_if_ge (tgt := 38) C dX9_nextRow_33 (by decide) ⟨by omega, by omega⟩ (fun h7 => ?_) (fun h7 => ?_)
          · have hsr : hpSr L L.length = (w2_2).toNat + 1 := by rw [hM2_0, show (w2_2 + 1).toNat = (w2_2).toNat + 1 by omega]; exact hpSr_n (by omega)
            have hpo := hV.1 _ (hp_gd (L := L) (j := (w2_2).toNat) (by omega))
            refine h_aload_n C dX9_nextRow_38 0 rfl rfl ?_
            refine h_bipush C dX9_nextRow_39 (by decide) ?_
            refine h_iload_n C dX9_nextRow_41 2 rfl rfl ?_
            refine h_callV (As := [.int (hpI 18), .int (hpI w2_2)]) (rest := []) C Z yyX9_heightOf wd_1540 (tgX9_heightOf l D cy z _ 18 ⟨by decide, by decide⟩ w2_2 ⟨by omega, by omega⟩ hI (by omega) (by omega)) kd_195 rfl rfl ⟨rfl, rfl, Nat.le_of_ble_eq_true rfl, Nat.le_of_ble_eq_true rfl⟩ ⟨Nat.le_of_ble_eq_true rfl, Nat.le_of_ble_eq_true rfl⟩ (Nat.le_of_ble_eq_true rfl) dX9_nextRow_42 (fun r8 τ8 hp8 => ?_)
            obtain ⟨⟨x8, rfl, ⟨hx8a, hx8b⟩, hx8⟩, rfl⟩ := hp8
            show hpV _ _ _ _ _ _ _ _ _ _ _ _ _ _ _ _ _ _ _ _ _ (_ :: _)
            refine h_iconst C dX9_nextRow_45 ?_
            refine h_isub C dX9_nextRow_46 rfl ?_
            refine h_istore_n (lv' := [(3, .int (hpI (x8 - 1))), (0, .ref (z + 195)), (1, .int (hpI x1)), (2, .int (hpI w2_2))]) C dX9_nextRow_47 rfl (by decide) rfl ?_
            refine h_iload_n C dX9_nextRow_48 2 rfl rfl ?_
            refine h_iload_n C dX9_nextRow_49 3 rfl rfl ?_
            refine h_isub C dX9_nextRow_50 rfl ?_
            refine h_istore (lv' := [(4, .int (hpI (x1 - w2_2))), (3, .int (hpI (x8 - 1))), (0, .ref (z + 195)), (1, .int (hpI x1)), (2, .int (hpI w2_2))]) C dX9_nextRow_51 (by decide) rfl ?_
            refine h_aload_n C dX9_nextRow_53 2 rfl rfl ?_
            refine h_get C O9 15 kd_195 (by decide) wd_1271 dX9_nextRow_54 fr_195_15 ?_
            refine h_sipush C dX9_nextRow_57 (by decide) ?_
            refine h_iload_n C dX9_nextRow_60 4 rfl rfl ?_
            refine h_iastore C dX9_nextRow_61 kd_202 12618 rfl (by rw [ln_202]; decide) ?_
            obtain ⟨τ9, e9⟩ : ∃ μ : hpMem, μ = hpw σ 202 12618 w2_2 := ⟨_, rfl⟩
            rw [← e9]
            have hI9 : hpInv τ9 := by rw [e9]; exact hpInv.w202 hI (fun hm => ⟨by omega, by omega⟩) ⟨by omega, by omega⟩
            have hF9 : ∀ j i : Nat, (j ≠ 202 ∨ (i : Int) < 701 * 18 ∨ 701 * 18 + 700 < (i : Int)) → τ9 j i = σ j i := fun j i h_0 => by rw [e9]; exact (hpw_fr (by omega)).trans (hF0 j i h_0)
            have hg10 : τ9 202 12618 = w2_2 := by rw [e9]; exact hpw_eq
            have t61 : hpRw (τ9 202) 18 (L.take (w2_2).toNat) := by rw [e9, hpw_row]; exact hL.take (by decide) (by omega) (by decide) (by omega)
            refine h_aload_n C dX9_nextRow_62 2 rfl rfl ?_
            refine h_bipush C dX9_nextRow_63 (by decide) ?_
            refine h_iload_n C dX9_nextRow_65 1 rfl rfl ?_
            have t1 := t61.1
            rw [List.length_take] at t1
            refine h_callV (As := [.int (hpI 18), .int (hpI (x8 - 1))]) (rest := []) C Z yyX9_lay wd_1532 (tgX9_lay l D cy z _ 18 ⟨by decide, by decide⟩ (x8 - 1) ⟨by omega, by omega⟩ hI9 (by omega) (by omega)) kd_195 rfl rfl ⟨rfl, rfl, Nat.le_of_ble_eq_true rfl, Nat.le_of_ble_eq_true rfl⟩ ⟨Nat.le_of_ble_eq_true rfl, Nat.le_of_ble_eq_true rfl⟩ (Nat.le_of_ble_eq_true rfl) dX9_nextRow_66 (fun r11 τ11 hp11 => ?_)
            obtain ⟨rfl, hI11, hG11, hq11_0⟩ := hp11
            have hF11 : ∀ j i : Nat, (j ≠ 202 ∨ (i : Int) < 701 * 18 ∨ 701 * 18 + 700 < (i : Int)) → τ11 j i = σ j i := fun j i h_0 => (hG11 j i (by omega)).trans (hF9 j i h_0)
            show hpV _ _ _ _ _ _ _ _ _ _ _ _ _ _ _ _ _ _ _ _ _ []
            have t66 := hq11_0 _ t61
            have L12 : ∀ (n12 : Nat) (τ12 : hpMem) (w12_4 : Int) (acc : List Nat) (fu : Nat), 0 ≤ w12_4 → w12_4 ≤ 700 → hpInv τ12 → (∀ j i : Nat, (j ≠ 202 ∨ (i : Int) < 701 * 18 ∨ 701 * 18 + 700 < (i : Int)) → τ12 j i = σ j i) → (hpRw (τ12 202) 18 acc) → ((∀ a ∈ acc, 1 ≤ a) ∧ (acc.sum : Int) + w12_4 ≤ 700) → (hpFl fu ((x8 - 1)).toNat w12_4.toNat acc = hpNx L) → ((w12_4).toNat ≤ fu) → (w12_4) < (n12 : Int) → hpF p l e rgX9_nextRow s m [.ref (z + 195)] below meth c 6 D cy z (pgX9_nextRow z σ L) τ12 69 [(0, .ref (z + 195)), (1, .int (hpI x1)), (2, .int (hpI w2_2)), (3, .int (hpI (x8 - 1))), (4, .int (hpI w12_4))] [] := by
              intro n12
              induction n12 with
              | zero => intro τ12 w12_4 acc fu hv12_0 hv12_1 hI12 hF12 hM12_0 hM12_1 hM12_2 hM12_3 hm12; exfalso; omega
              | succ n12 ih12 =>
                intro τ12 w12_4 acc fu hv12_0 hv12_1 hI12 hF12 hM12_0 hM12_1 hM12_2 hM12_3 hm12
                refine h_iload C dX9_nextRow_69 4 rfl ?_
                refine h_if_le (tgt := 100) C dX9_nextRow_71 (by decide) ⟨by omega, by omega⟩ (fun h13 => ?_) (fun h13 => ?_)
                · refine h_iconst C dX9_nextRow_100 ?_
                  refine h_zreturn C (by omega) hr hlk dX9_nextRow_101 ?_
                  exact ⟨_, rfl, ⟨by decide, by decide⟩, hI12, hF12, fun e => by exfalso; omega, fun _ => ⟨by omega, by rw [← hM12_2, show (w12_4).toNat = 0 by omega, hpFl_0]; exact hM12_0⟩⟩
                · refine h_iload C dX9_nextRow_74 4 rfl ?_
                  refine h_iload_n C dX9_nextRow_76 3 rfl rfl ?_
                  refine h_mmin C wd_1437 wd_514 wd_515 wd_15 dX9_nextRow_77 ⟨by omega, by omega⟩ ⟨by omega, by omega⟩ (Nat.le_of_ble_eq_true rfl) (Nat.le_of_ble_eq_true rfl) ⟨Nat.le_of_ble_eq_true rfl, Nat.le_of_ble_eq_true rfl⟩ (fun r14 hr14a hr14b hr14c => ?_)
                  refine h_istore (lv' := [(5, .int (hpI r14)), (0, .ref (z + 195)), (1, .int (hpI x1)), (2, .int (hpI w2_2)), (3, .int (hpI (x8 - 1))), (4, .int (hpI w12_4))]) C dX9_nextRow_80 (by decide) rfl ?_
                  refine h_aload_n C dX9_nextRow_82 1 rfl rfl ?_
                  refine h_bipush C dX9_nextRow_83 (by decide) ?_
                  refine h_iload C dX9_nextRow_85 0 rfl ?_
                  have a1 := hM12_0.1
                  have a2 := hp_ls hM12_1.1
                  have a3 := hM12_1.2
                  refine h_callV (As := [.int (hpI 18), .int (hpI r14)]) (rest := []) C Z yyX9_lay wd_1532 (tgX9_lay l D cy z _ 18 ⟨by decide, by decide⟩ r14 ⟨by omega, by omega⟩ hI12 (by omega) (by omega)) kd_195 rfl rfl ⟨rfl, rfl, Nat.le_of_ble_eq_true rfl, Nat.le_of_ble_eq_true rfl⟩ ⟨Nat.le_of_ble_eq_true rfl, Nat.le_of_ble_eq_true rfl⟩ (Nat.le_of_ble_eq_true rfl) dX9_nextRow_87 (fun r15 τ15 hp15 => ?_)
                  obtain ⟨rfl, hI15, hG15, hq15_0⟩ := hp15
                  have hF15 : ∀ j i : Nat, (j ≠ 202 ∨ (i : Int) < 701 * 18 ∨ 701 * 18 + 700 < (i : Int)) → τ15 j i = σ j i := fun j i h_0 => (hG15 j i (by omega)).trans (hF12 j i h_0)
                  show hpV _ _ _ _ _ _ _ _ _ _ _ _ _ _ _ _ _ _ _ _ _ []
                  refine h_iload C dX9_nextRow_90 5 rfl ?_
                  refine h_iload C dX9_nextRow_92 0 rfl ?_
                  refine h_isub C dX9_nextRow_94 rfl ?_
                  refine h_istore (lv' := [(4, .int (hpI (w12_4 - r14))), (5, .int (hpI r14)), (0, .ref (z + 195)), (1, .int (hpI x1)), (2, .int (hpI w2_2)), (3, .int (hpI (x8 - 1)))]) C dX9_nextRow_95 (by decide) rfl ?_
                  refine h_goto (tgt := 69) C dX9_nextRow_97 (by decide) ?_
                  exact hp_sub [2, 3, 4, 5, 0] rfl (ih12 _ (w12_4 - r14) (hpLy (r14).toNat acc) (fu - 1) (by omega) (by omega) hI15 hF15 (hq15_0 _ hM12_0) (⟨hpLy_pos hM12_1.1, by rw [hpLy_sum]; omega⟩) (by rw [← hM12_2]; obtain ⟨k, rfl⟩ : ∃ k, fu = k + 1 := ⟨fu - 1, by omega⟩; rw [hpFl_s (by omega), show k + 1 - 1 = k by omega, show ((w12_4 - r14)).toNat = (w12_4).toNat - min (w12_4).toNat ((x8 - 1)).toNat by omega, show (r14).toNat = min (w12_4).toNat ((x8 - 1)).toNat by omega]) (by omega) (by omega))
            exact hp_sub [2, 3, 4, 1, 0] rfl (L12 8589934592 _ (x1 - w2_2) (hpLy ((x8 - 1)).toNat (L.take (w2_2).toNat)) (((x1 - w2_2)).toNat) (by omega) (by omega) hI11 hF11 t66 (⟨hpLy_pos (fun a ha => hV.1 a (List.mem_of_mem_take ha)), by have q1 := hp_takele L ((w2_2).toNat + 1) hV.1 (by omega); have q2 := hp_takesum L (w2_2).toNat (by omega); have q3 := hV.2; rw [hpLy_sum]; omega⟩) (by unfold hpNx; rw [hsr, show (w2_2).toNat + 1 - 1 = (w2_2).toNat by omega, show ((x1 - w2_2)).toNat = L.length - (w2_2).toNat by omega, show ((x8 - 1)).toNat = L.getD (w2_2).toNat 0 - 1 by omega]) (by omega) (by omega))
          · exfalso; omega
        · refine h_iinc (lv' := [(2, .int (hpI (w2_2 + (-1)))), (0, .ref (z + 195)), (1, .int (hpI x1))]) C dX9_nextRow_26 2 rfl rfl (by decide) rfl ?_
          refine h_goto (tgt := 11) C dX9_nextRow_29 (by decide) ?_
          exact hp_sub [1, 2, 0] rfl (ih2 (w2_2 + (-1)) (by omega) (by omega) (by omega) (by rw [show ((w2_2 + (-1)) + 1).toNat = (w2_2).toNat by omega, ← hpSr_1 (k := (w2_2).toNat) (by omega), show (w2_2).toNat + 1 = (w2_2 + 1).toNat by omega]; exact hM2_0) (by omega))
  exact hp_sub [2, 1, 0] rfl (L2 8589934592 (x1 - 1) (by omega) (by omega) (by omega) (by rw [show ((x1 - 1) + 1).toNat = L.length by omega]) (by omega))
abbrev rgX9_isRinged : Room := { frames := 0, cells := 0, slots := 0, locals := 0 }
abbrev pgX9_isRinged (z : Nat) (σ : hpMem) (a0 : Int) : Option Value → hpMem → Prop := fun r τ => (∃ x : Int, r = some (.int (hpI x)) ∧ (0 ≤ x ∧ x ≤ 1) ∧ ((x = 1 → ∃ m : Nat, 1 ≤ m ∧ hpJt (σ 208) a0.toNat m = a0.toNat) ∧ (x = 0 → ∀ m : Nat, 1 ≤ m → (m : Int) ≤ σ 195 32 → hpJt (σ 208) a0.toNat m ≠ a0.toNat))) ∧ σ = τ
set_option maxHeartbeats 4000000 in
set_option maxRecDepth 20000 in
theorem tgX9_isRinged (l : Launch) (D : va_G) (cy : Nat → ClassId) (z : Nat) (σ : hpMem) (a0 : Int) (ha0 : hpR a0) (hI : hpInv σ) (hk0 : 0 ≤ a0 ∧ a0 < σ 195 32 ∧ a0 ≤ 134) (hB : hpBd σ) : hpM l D cy z yX9_isRinged cX9_isRinged 4 (some .boolean) rgX9_isRinged [.ref (z + 195), .int (hpI a0)] σ (pgX9_isRinged z σ a0) := by
  obtain ⟨ha01, ha02⟩ := ha0
  refine hp_met rfl (Nat.le_of_ble_eq_true rfl) (fun p e s m below meth c C Z hr hlk => ?_)
  have b32 := hI.b (bf_9_32 kd_195)
  have ba := hB a0.toNat (by omega)
  refine h_aload_n C dX9_isRinged_0 0 rfl rfl ?_
  refine h_get C O9 30 kd_195 (by decide) wd_1286 dX9_isRinged_1 fr_195_30 ?_
  refine h_iload_n C dX9_isRinged_4 1 rfl rfl ?_
  refine h_iaload C dX9_isRinged_5 kd_208 (a0).toNat (Int.toNat_of_nonneg (by omega)) (by rw [ln_208]; omega) rfl ?_
  obtain ⟨hr1a, hr1b⟩ := hI.b (bo_208 _)
  generalize hg1 : σ 208 ((a0).toNat) = r1 at hr1a hr1b ⊢
  refine h_istore_n (lv' := [(2, .int (hpI r1)), (0, .ref (z + 195)), (1, .int (hpI a0))]) C dX9_isRinged_6 rfl (by decide) rfl ?_
  refine h_iconst C dX9_isRinged_7 ?_
  refine h_istore_n (lv' := [(3, .int (hpI 0)), (2, .int (hpI r1)), (0, .ref (z + 195)), (1, .int (hpI a0))]) C dX9_isRinged_8 rfl (by decide) rfl ?_
  have L2 : ∀ (n2 : Nat) (w2_2 : Int) (w2_3 : Int), 0 ≤ w2_2 → w2_2 ≤ 134 → 0 ≤ w2_3 → w2_3 ≤ 135 → w2_2 < σ 195 32 → (w2_2 = ((hpJt (σ 208) a0.toNat (w2_3.toNat + 1) : Nat) : Int)) → (∀ m : Nat, 1 ≤ m → (m : Int) ≤ w2_3 → hpJt (σ 208) a0.toNat m ≠ a0.toNat) → (4294967296 - w2_3) < (n2 : Int) → hpF p l e rgX9_isRinged s m [.ref (z + 195), .int (hpI a0)] below meth c 4 D cy z (pgX9_isRinged z σ a0) σ 9 [(0, .ref (z + 195)), (1, .int (hpI a0)), (2, .int (hpI w2_2)), (3, .int (hpI w2_3))] [] := by
    intro n2
    induction n2 with
    | zero => intro w2_2 w2_3 hv2_0 hv2_1 hv2_2 hv2_3 hv2_4 hM2_0 hM2_1 hm2; exfalso; omega
    | succ n2 ih2 =>
      intro w2_2 w2_3 hv2_0 hv2_1 hv2_2 hv2_3 hv2_4 hM2_0 hM2_1 hm2
      refine h_iload_n C dX9_isRinged_9 3 rfl rfl ?_
      refine h_aload_n C dX9_isRinged_10 0 rfl rfl ?_
      refine h_get C O9 32 kd_195 (by decide) wd_1288 dX9_isRinged_11 (hp_fvI (by rw [kd_195]; rfl) rfl) ?_
      obtain ⟨hr3a, hr3b⟩ := hI.b (bf_9_32 kd_195)
      generalize hg3 : σ 195 32 = r3 at hr3a hr3b ⊢
      refine h_icmp_ge (tgt := 35) C dX9_isRinged_14 (by decide) ⟨by omega, by omega⟩ ⟨by omega, by omega⟩ (fun h4 => ?_) (fun h4 => ?_)
      · refine h_iload_n C dX9_isRinged_35 2 rfl rfl ?_
        refine h_iload_n C dX9_isRinged_36 1 rfl rfl ?_
        refine h_icmp_ne (tgt := 44) C dX9_isRinged_37 (by decide) ⟨by omega, by omega⟩ ⟨by omega, by omega⟩ (fun h5 => ?_) (fun h5 => ?_)
        · refine h_iconst C dX9_isRinged_44 ?_
          refine h_zreturn C (by omega) hr hlk dX9_isRinged_45 ?_
          exact ⟨⟨_, rfl, ⟨by decide, by decide⟩, ⟨fun e => by first | (exfalso; omega) | exact ⟨(w2_3).toNat + 1, by omega, by have q := hM2_0; omega⟩, fun e => by first | (exfalso; omega) | exact fun m h1 h2 => hM2_1 m h1 (by omega)⟩⟩, rfl⟩
        · refine h_iconst C dX9_isRinged_40 ?_
          refine h_goto (tgt := 45) C dX9_isRinged_41 (by decide) ?_
          refine h_zreturn C (by omega) hr hlk dX9_isRinged_45 ?_
          exact ⟨⟨_, rfl, ⟨by decide, by decide⟩, ⟨fun e => by first | (exfalso; omega) | exact ⟨(w2_3).toNat + 1, by omega, by have q := hM2_0; omega⟩, fun e => by first | (exfalso; omega) | exact fun m h1 h2 => hM2_1 m h1 (by omega)⟩⟩, rfl⟩
      · refine h_iload_n C dX9_isRinged_17 2 rfl rfl ?_
        refine h_iload_n C dX9_isRinged_18 1 rfl rfl ?_
        refine h_icmp_eq (tgt := 35) C dX9_isRinged_19 (by decide) ⟨by omega, by omega⟩ ⟨by omega, by omega⟩ (fun h6 => ?_) (fun h6 => ?_)
        · refine h_iload_n C dX9_isRinged_35 2 rfl rfl ?_
          refine h_iload_n C dX9_isRinged_36 1 rfl rfl ?_
          refine h_icmp_ne (tgt := 44) C dX9_isRinged_37 (by decide) ⟨by omega, by omega⟩ ⟨by omega, by omega⟩ (fun h7 => ?_) (fun h7 => ?_)
          · refine h_iconst C dX9_isRinged_44 ?_
            refine h_zreturn C (by omega) hr hlk dX9_isRinged_45 ?_
            exact ⟨⟨_, rfl, ⟨by decide, by decide⟩, ⟨fun e => by first | (exfalso; omega) | exact ⟨(w2_3).toNat + 1, by omega, by have q := hM2_0; omega⟩, fun e => by first | (exfalso; omega) | exact fun m h1 h2 => hM2_1 m h1 (by omega)⟩⟩, rfl⟩
          · refine h_iconst C dX9_isRinged_40 ?_
            refine h_goto (tgt := 45) C dX9_isRinged_41 (by decide) ?_
            refine h_zreturn C (by omega) hr hlk dX9_isRinged_45 ?_
            exact ⟨⟨_, rfl, ⟨by decide, by decide⟩, ⟨fun e => by first | (exfalso; omega) | exact ⟨(w2_3).toNat + 1, by omega, by have q := hM2_0; omega⟩, fun e => by first | (exfalso; omega) | exact fun m h1 h2 => hM2_1 m h1 (by omega)⟩⟩, rfl⟩
        · refine h_aload_n C dX9_isRinged_22 0 rfl rfl ?_
          refine h_get C O9 30 kd_195 (by decide) wd_1286 dX9_isRinged_23 fr_195_30 ?_
          refine h_iload_n C dX9_isRinged_26 2 rfl rfl ?_
          have bw := hB (w2_2).toNat (by omega)
          refine h_iaload C dX9_isRinged_27 kd_208 (w2_2).toNat (Int.toNat_of_nonneg (by omega)) (by rw [ln_208]; omega) rfl ?_
          obtain ⟨hr8a, hr8b⟩ := hI.b (bo_208 _)
          generalize hg8 : σ 208 ((w2_2).toNat) = r8 at hr8a hr8b ⊢
          refine h_istore_n (lv' := [(2, .int (hpI r8)), (0, .ref (z + 195)), (1, .int (hpI a0)), (3, .int (hpI w2_3))]) C dX9_isRinged_28 rfl (by decide) rfl ?_
          refine h_iinc (lv' := [(3, .int (hpI (w2_3 + 1))), (2, .int (hpI r8)), (0, .ref (z + 195)), (1, .int (hpI a0))]) C dX9_isRinged_29 3 rfl rfl (by decide) rfl ?_
          refine h_goto (tgt := 9) C dX9_isRinged_32 (by decide) ?_
          exact hp_sub [2, 3, 1, 0] rfl (ih2 r8 (w2_3 + 1) (by omega) (by omega) (by omega) (by omega) (by omega) (by rw [show (w2_3 + 1).toNat = (w2_3).toNat + 1 by omega]; have e1 : hpJt (σ 208) a0.toNat ((w2_3).toNat + 1 + 1) = (σ 208 (hpJt (σ 208) a0.toNat ((w2_3).toNat + 1))).toNat := rfl; rw [e1, show hpJt (σ 208) a0.toNat ((w2_3).toNat + 1) = (w2_2).toNat by omega]; omega) (fun m h1 h2 => by by_cases e : (m : Int) = w2_3 + 1; (rw [show m = (w2_3).toNat + 1 by omega]; have q := hM2_0; omega); (exact hM2_1 m h1 (by omega))) (by omega))
  exact hp_sub [2, 3, 1, 0] rfl (L2 8589934592 r1 0 (by omega) (by omega) (by omega) (by omega) (by omega) (by show _ = (((σ 208 a0.toNat).toNat : Nat) : Int); omega) (fun m h1 h2 => by exfalso; omega) (by omega))
abbrev rgX9_tailFrom : Room := { frames := 1, cells := 0, slots := 0, locals := 23 }
abbrev pgX9_tailFrom (z : Nat) (σ : hpMem) (a0 : Int) : Option Value → hpMem → Prop := fun r τ => (∃ x : Int, r = some (.int (hpI x)) ∧ (hpR x) ∧ (0 ≤ x ∧ (x = 0 → ∃ m : Nat, 1 ≤ m ∧ hpJt (σ 208) a0.toNat m = a0.toNat))) ∧ σ = τ
set_option maxHeartbeats 4000000 in
set_option maxRecDepth 20000 in
theorem tgX9_tailFrom (l : Launch) (D : va_G) (cy : Nat → ClassId) (z : Nat) (σ : hpMem) (a0 : Int) (ha0 : hpR a0) (hI : hpInv σ) (hk0 : 0 ≤ a0 ∧ a0 < σ 195 32 ∧ a0 ≤ 134) (hB : hpBd σ) : hpM l D cy z yX9_tailFrom cX9_tailFrom 4 (some .int) rgX9_tailFrom [.ref (z + 195), .int (hpI a0)] σ (pgX9_tailFrom z σ a0) := by
  obtain ⟨ha01, ha02⟩ := ha0
  refine hp_met rfl (Nat.le_of_ble_eq_true rfl) (fun p e s m below meth c C Z hr hlk => ?_)
  have b32 := hI.b (bf_9_32 kd_195)
  obtain ⟨N, hN⟩ : ∃ N : Nat, (N : Int) = σ 195 32 := ⟨(σ 195 32).toNat, by omega⟩
  have hB2 : ∀ q : Nat, q < N → 0 ≤ σ 208 q ∧ σ 208 q < (N : Int) := fun q h => by have z := hB q (by omega); omega
  obtain ⟨j, mm, hj, hmm1, hmm2, hjm⟩ := hpJt_ring hB2 (show a0.toNat < N by omega)
  refine h_iload_n C dX9_tailFrom_0 1 rfl rfl ?_
  refine h_istore_n (lv' := [(2, .int (hpI a0)), (0, .ref (z + 195)), (1, .int (hpI a0))]) C dX9_tailFrom_1 rfl (by decide) rfl ?_
  refine h_iconst C dX9_tailFrom_2 ?_
  refine h_istore_n (lv' := [(3, .int (hpI 0)), (2, .int (hpI a0)), (0, .ref (z + 195)), (1, .int (hpI a0))]) C dX9_tailFrom_3 rfl (by decide) rfl ?_
  have L1 : ∀ (n1 : Nat) (w1_2 : Int) (w1_3 : Int), 0 ≤ w1_2 → w1_2 ≤ 134 → 0 ≤ w1_3 → w1_3 ≤ 135 → w1_2 < σ 195 32 → w1_3 ≤ (j : Int) → (w1_2 = ((hpJt (σ 208) a0.toNat w1_3.toNat : Nat) : Int)) → ((j : Int) - w1_3) < (n1 : Int) → hpF p l e rgX9_tailFrom s m [.ref (z + 195), .int (hpI a0)] below meth c 4 D cy z (pgX9_tailFrom z σ a0) σ 4 [(0, .ref (z + 195)), (1, .int (hpI a0)), (2, .int (hpI w1_2)), (3, .int (hpI w1_3))] [] := by
    intro n1
    induction n1 with
    | zero => intro w1_2 w1_3 hv1_0 hv1_1 hv1_2 hv1_3 hv1_4 hv1_5 hM1_0 hm1; exfalso; omega
    | succ n1 ih1 =>
      intro w1_2 w1_3 hv1_0 hv1_1 hv1_2 hv1_3 hv1_4 hv1_5 hM1_0 hm1
      refine h_aload_n C dX9_tailFrom_4 0 rfl rfl ?_
      refine h_iload_n C dX9_tailFrom_5 2 rfl rfl ?_
      refine h_callV (As := [.int (hpI w1_2)]) (rest := []) C Z yyX9_isRinged wd_1747 (tgX9_isRinged l D cy z _ w1_2 ⟨by omega, by omega⟩ hI (by omega) hB) kd_195 rfl rfl ⟨rfl, rfl, Nat.le_of_ble_eq_true rfl, Nat.le_of_ble_eq_true rfl⟩ ⟨Nat.le_of_ble_eq_true rfl, Nat.le_of_ble_eq_true rfl⟩ (Nat.le_of_ble_eq_true rfl) dX9_tailFrom_6 (fun r2 τ2 hp2 => ?_)
      obtain ⟨⟨x2, rfl, ⟨hx2a, hx2b⟩, hx2⟩, rfl⟩ := hp2
      show hpV _ _ _ _ _ _ _ _ _ _ _ _ _ _ _ _ _ _ _ _ _ (_ :: _)
      refine h_if_ne (tgt := 25) C dX9_tailFrom_9 (by decide) ⟨by omega, by omega⟩ (fun h3 => ?_) (fun h3 => ?_)
      · refine h_iload_n C dX9_tailFrom_25 3 rfl rfl ?_
        refine h_ireturn C hr hlk dX9_tailFrom_26 ?_
        exact ⟨⟨_, rfl, ⟨by omega, by omega⟩, ⟨by omega, fun e => by have q := hx2.1 (by omega); have e1 := hM1_0; rw [show (w1_3).toNat = 0 by omega] at e1; have e2 : w1_2 = a0 := (by rw [e1]; show ((a0.toNat : Nat) : Int) = a0; omega); rw [e2] at q; exact q⟩⟩, rfl⟩
      · have hne : (w1_3).toNat ≠ j := fun e => by have e1 := hM1_0; rw [e] at e1; have q := hx2.2 (by omega) mm hmm1 (by omega); rw [show (w1_2).toNat = hpJt (σ 208) a0.toNat j by omega] at q; exact q hjm
        have bw := hB (w1_2).toNat (by omega)
        refine h_aload_n C dX9_tailFrom_12 0 rfl rfl ?_
        refine h_get C O9 30 kd_195 (by decide) wd_1286 dX9_tailFrom_13 fr_195_30 ?_
        refine h_iload_n C dX9_tailFrom_16 2 rfl rfl ?_
        refine h_iaload C dX9_tailFrom_17 kd_208 (w1_2).toNat (Int.toNat_of_nonneg (by omega)) (by rw [ln_208]; omega) rfl ?_
        obtain ⟨hr4a, hr4b⟩ := hI.b (bo_208 _)
        generalize hg4 : σ 208 ((w1_2).toNat) = r4 at hr4a hr4b ⊢
        refine h_istore_n (lv' := [(2, .int (hpI r4)), (0, .ref (z + 195)), (1, .int (hpI a0)), (3, .int (hpI w1_3))]) C dX9_tailFrom_18 rfl (by decide) rfl ?_
        refine h_iinc (lv' := [(3, .int (hpI (w1_3 + 1))), (2, .int (hpI r4)), (0, .ref (z + 195)), (1, .int (hpI a0))]) C dX9_tailFrom_19 3 rfl rfl (by decide) rfl ?_
        refine h_goto (tgt := 4) C dX9_tailFrom_22 (by decide) ?_
        exact hp_sub [2, 3, 1, 0] rfl (ih1 r4 (w1_3 + 1) (by omega) (by omega) (by omega) (by omega) (by omega) (by omega) (by rw [show (w1_3 + 1).toNat = (w1_3).toNat + 1 by omega]; have e1 : hpJt (σ 208) a0.toNat ((w1_3).toNat + 1) = (σ 208 (hpJt (σ 208) a0.toNat (w1_3).toNat)).toNat := rfl; rw [e1, show hpJt (σ 208) a0.toNat (w1_3).toNat = (w1_2).toNat by omega]; omega) (by omega))
  exact hp_sub [2, 3, 1, 0] rfl (L1 8589934592 a0 0 (by omega) (by omega) (by omega) (by omega) (by omega) (by omega) (by show _ = ((a0.toNat : Nat) : Int); omega) (by omega))
abbrev rgX9_listAll : Room := { frames := 3, cells := 0, slots := 0, locals := 70 }
abbrev pgX9_listAll (z : Nat) (σ : hpMem) (a0 : Int) : Option Value → hpMem → Prop := fun r τ => r = none ∧ hpInv τ ∧ (∀ j i : Nat, j ≠ 202 → j ≠ 207 → j ≠ 208 → j ≠ 209 → (j ≠ 195 ∨ (i ≠ 17 ∧ i ≠ 18 ∧ i ≠ 32)) → τ j i = σ j i) ∧ (hpLq τ a0.toNat)
set_option maxHeartbeats 4000000 in
set_option maxRecDepth 20000 in
theorem tgX9_listAll (l : Launch) (D : va_G) (cy : Nat → ClassId) (z : Nat) (σ : hpMem) (a0 : Int) (ha0 : hpR a0) (hI : hpInv σ) (hn0 : 1 ≤ a0 ∧ a0 ≤ 14) : hpM l D cy z yX9_listAll cX9_listAll 4 none rgX9_listAll [.ref (z + 195), .int (hpI a0)] σ (pgX9_listAll z σ a0) := by
  obtain ⟨ha01, ha02⟩ := ha0
  refine hp_met rfl (Nat.le_of_ble_eq_true rfl) (fun p e s m below meth c C Z hr hlk => ?_)
  have hF0 : ∀ j i : Nat, j ≠ 202 → j ≠ 207 → j ≠ 208 → j ≠ 209 → (j ≠ 195 ∨ (i ≠ 17 ∧ i ≠ 18 ∧ i ≠ 32)) → σ j i = σ j i := fun j i _ _ _ _ _ => rfl
  have hCC := hpCk_n hn0.1 hn0.2
  obtain ⟨hA00, hA01⟩ := hpOr_0 200 [a0.toNat]
  have hA00 : 0 < (hpAl a0.toNat).length := hA00
  have hA01 : (hpAl a0.toNat).getD 0 [] = [a0.toNat] := hA01
  obtain ⟨A, hAd⟩ : ∃ A, A = hpAl a0.toNat := ⟨_, rfl⟩
  rw [← hAd] at hCC hA00 hA01
  obtain ⟨hC, hAl⟩ := hCC
  refine h_aload_n C dX9_listAll_0 0 rfl rfl ?_
  refine h_iconst C dX9_listAll_1 ?_
  refine h_put C O9 32 kd_195 (by decide) rfl wd_1288 dX9_listAll_2 rfl rfl (hp_fvI (by rw [kd_195]; rfl) hpu_at) ?_
  obtain ⟨τ1, e1⟩ : ∃ μ : hpMem, μ = hpw σ 195 32 0 := ⟨_, rfl⟩
  rw [← e1]
  have hI1 : hpInv τ1 := by rw [e1]; exact hI.w (bf_9_32 kd_195) (by omega) (by omega)
  have hF1 : ∀ j i : Nat, j ≠ 202 → j ≠ 207 → j ≠ 208 → j ≠ 209 → (j ≠ 195 ∨ (i ≠ 17 ∧ i ≠ 18 ∧ i ≠ 32)) → τ1 j i = σ j i := fun j i h_0 h_1 h_2 h_3 h_4 => by rw [e1]; exact (hpw_fr (by omega)).trans (hF0 j i h_0 h_1 h_2 h_3 h_4)
  have hg2 : τ1 195 32 = 0 := by rw [e1]; exact hpw_eq
  refine h_aload_n C dX9_listAll_5 0 rfl rfl ?_
  refine h_bipush C dX9_listAll_6 (by decide) ?_
  refine h_callV (As := [.int (hpI 18)]) (rest := []) C Z yyX9_empty wd_1528 (tgX9_empty l D cy z _ 18 ⟨by decide, by decide⟩ hI1 (by omega)) kd_195 rfl rfl ⟨rfl, rfl, Nat.le_of_ble_eq_true rfl, Nat.le_of_ble_eq_true rfl⟩ ⟨Nat.le_of_ble_eq_true rfl, Nat.le_of_ble_eq_true rfl⟩ (Nat.le_of_ble_eq_true rfl) dX9_listAll_8 (fun r3 τ3 hp3 => ?_)
  obtain ⟨rfl, hI3, hG3, hq3_0⟩ := hp3
  have hF3 : ∀ j i : Nat, j ≠ 202 → j ≠ 207 → j ≠ 208 → j ≠ 209 → (j ≠ 195 ∨ (i ≠ 17 ∧ i ≠ 18 ∧ i ≠ 32)) → τ3 j i = σ j i := fun j i h_0 h_1 h_2 h_3 h_4 => (hG3 j i (by omega)).trans (hF1 j i h_0 h_1 h_2 h_3 h_4)
  show hpV _ _ _ _ _ _ _ _ _ _ _ _ _ _ _ _ _ _ _ _ _ []
  refine h_aload_n C dX9_listAll_11 0 rfl rfl ?_
  refine h_bipush C dX9_listAll_12 (by decide) ?_
  refine h_iload_n C dX9_listAll_14 1 rfl rfl ?_
  refine h_callV (As := [.int (hpI 18), .int (hpI a0)]) (rest := []) C Z yyX9_lay wd_1532 (tgX9_lay l D cy z _ 18 ⟨by decide, by decide⟩ a0 ⟨by omega, by omega⟩ hI3 (by omega) (by omega)) kd_195 rfl rfl ⟨rfl, rfl, Nat.le_of_ble_eq_true rfl, Nat.le_of_ble_eq_true rfl⟩ ⟨Nat.le_of_ble_eq_true rfl, Nat.le_of_ble_eq_true rfl⟩ (Nat.le_of_ble_eq_true rfl) dX9_listAll_15 (fun r4 τ4 hp4 => ?_)
  obtain ⟨rfl, hI4, hG4, hq4_0⟩ := hp4
  have hF4 : ∀ j i : Nat, j ≠ 202 → j ≠ 207 → j ≠ 208 → j ≠ 209 → (j ≠ 195 ∨ (i ≠ 17 ∧ i ≠ 18 ∧ i ≠ 32)) → τ4 j i = σ j i := fun j i h_0 h_1 h_2 h_3 h_4 => (hG4 j i (by omega)).trans (hF3 j i h_0 h_1 h_2 h_3 h_4)
  show hpV _ _ _ _ _ _ _ _ _ _ _ _ _ _ _ _ _ _ _ _ _ []
  have r15 := hq4_0 [] (hpRw.nil hq3_0)
  have r15 : hpRw (τ4 202) 18 (A.getD 0 []) := by rw [hA01]; rw [show hpLy a0.toNat [] = [a0.toNat] from (if_neg (by omega)).trans rfl] at r15; exact r15
  have e15 : τ4 195 32 = 0 := (hG4 195 32 (by omega)).trans ((hG3 195 32 (by omega)).trans (by rw [e1]; exact hpw_eq))
  refine h_iconst C dX9_listAll_18 ?_
  refine h_istore_n (lv' := [(2, .int (hpI 1)), (0, .ref (z + 195)), (1, .int (hpI a0))]) C dX9_listAll_19 rfl (by decide) rfl ?_
  have L5 : ∀ (n5 : Nat) (τ5 : hpMem) (w5_2 : Int) (k : Nat), 0 ≤ w5_2 → w5_2 ≤ 1 → hpInv τ5 → (∀ j i : Nat, j ≠ 202 → j ≠ 207 → j ≠ 208 → j ≠ 209 → (j ≠ 195 ∨ (i ≠ 17 ∧ i ≠ 18 ∧ i ≠ 32)) → τ5 j i = σ j i) → (τ5 195 32 = (k : Int)) → (k ≤ A.length) → (∀ q : Nat, q < k → hpLd (τ5 207) (q : Int) (A.getD q [])) → (w5_2 = 1 → k < A.length ∧ hpRw (τ5 202) 18 (A.getD k [])) → (w5_2 = 0 → k = A.length) → (136 - (k : Int)) < (n5 : Int) → hpF p l e rgX9_listAll s m [.ref (z + 195), .int (hpI a0)] below meth c 4 D cy z (pgX9_listAll z σ a0) τ5 20 [(0, .ref (z + 195)), (1, .int (hpI a0)), (2, .int (hpI w5_2))] [] := by
    intro n5
    induction n5 with
    | zero => intro τ5 w5_2 k hv5_0 hv5_1 hI5 hF5 hM5_0 hM5_1 hM5_2 hM5_3 hM5_4 hm5; exfalso; omega
    | succ n5 ih5 =>
      intro τ5 w5_2 k hv5_0 hv5_1 hI5 hF5 hM5_0 hM5_1 hM5_2 hM5_3 hM5_4 hm5
      refine h_iload_n C dX9_listAll_20 2 rfl rfl ?_
      refine h_if_eq (tgt := 36) C dX9_listAll_21 (by decide) ⟨by omega, by omega⟩ (fun h6 => ?_) (fun h6 => ?_)
      · refine h_iconst C dX9_listAll_36 ?_
        refine h_istore_n (lv' := [(3, .int (hpI 0)), (0, .ref (z + 195)), (1, .int (hpI a0)), (2, .int (hpI w5_2))]) C dX9_listAll_37 rfl (by decide) rfl ?_
        have L7 : ∀ (n7 : Nat) (τ7 : hpMem) (w7_3 : Int), 0 ≤ w7_3 → w7_3 ≤ 135 → hpInv τ7 → (∀ j i : Nat, j ≠ 202 → j ≠ 207 → j ≠ 208 → j ≠ 209 → (j ≠ 195 ∨ (i ≠ 17 ∧ i ≠ 18 ∧ i ≠ 32)) → τ7 j i = σ j i) → (τ7 195 32 = (A.length : Int)) → (hpLt (τ7 207) A) → (∀ q : Nat, (q : Int) < w7_3 → 0 ≤ τ7 208 q ∧ τ7 208 q < (A.length : Int)) → (4294967296 - w7_3) < (n7 : Int) → hpF p l e rgX9_listAll s m [.ref (z + 195), .int (hpI a0)] below meth c 4 D cy z (pgX9_listAll z σ a0) τ7 38 [(0, .ref (z + 195)), (1, .int (hpI a0)), (2, .int (hpI w5_2)), (3, .int (hpI w7_3))] [] := by
          intro n7
          induction n7 with
          | zero => intro τ7 w7_3 hv7_0 hv7_1 hI7 hF7 hM7_0 hM7_1 hM7_2 hm7; exfalso; omega
          | succ n7 ih7 =>
            intro τ7 w7_3 hv7_0 hv7_1 hI7 hF7 hM7_0 hM7_1 hM7_2 hm7
            refine h_iload_n C dX9_listAll_38 3 rfl rfl ?_
            refine h_aload_n C dX9_listAll_39 0 rfl rfl ?_
            refine h_get C O9 32 kd_195 (by decide) wd_1288 dX9_listAll_40 (hp_fvI (by rw [kd_195]; rfl) rfl) ?_
            obtain ⟨hr8a, hr8b⟩ := hI7.b (bf_9_32 kd_195)
            generalize hg8 : τ7 195 32 = r8 at hr8a hr8b ⊢
            refine h_icmp_ge (tgt := 77) C dX9_listAll_43 (by decide) ⟨by omega, by omega⟩ ⟨by omega, by omega⟩ (fun h9 => ?_) (fun h9 => ?_)
            · refine h_iconst C dX9_listAll_77 ?_
              refine h_istore_n (lv' := [(3, .int (hpI 0)), (0, .ref (z + 195)), (1, .int (hpI a0)), (2, .int (hpI w5_2))]) C dX9_listAll_78 rfl (by decide) rfl ?_
              have L10 : ∀ (n10 : Nat) (τ10 : hpMem) (w10_3 : Int), 0 ≤ w10_3 → w10_3 ≤ 135 → hpInv τ10 → (∀ j i : Nat, j ≠ 202 → j ≠ 207 → j ≠ 208 → j ≠ 209 → (j ≠ 195 ∨ (i ≠ 17 ∧ i ≠ 18 ∧ i ≠ 32)) → τ10 j i = σ j i) → (τ10 195 32 = (A.length : Int)) → (hpLt (τ10 207) (hpAl a0.toNat)) → (∀ q : Nat, (q : Int) < (A.length : Int) → 0 ≤ τ10 208 q ∧ τ10 208 q < (A.length : Int)) → (hpTl τ10 w10_3) → (4294967296 - w10_3) < (n10 : Int) → hpF p l e rgX9_listAll s m [.ref (z + 195), .int (hpI a0)] below meth c 4 D cy z (pgX9_listAll z σ a0) τ10 79 [(0, .ref (z + 195)), (1, .int (hpI a0)), (2, .int (hpI w5_2)), (3, .int (hpI w10_3))] [] := by
                intro n10
                induction n10 with
                | zero => intro τ10 w10_3 hv10_0 hv10_1 hI10 hF10 hM10_0 hM10_1 hM10_2 hM10_3 hm10; exfalso; omega
                | succ n10 ih10 =>
                  intro τ10 w10_3 hv10_0 hv10_1 hI10 hF10 hM10_0 hM10_1 hM10_2 hM10_3 hm10
                  refine h_iload_n C dX9_listAll_79 3 rfl rfl ?_
                  refine h_aload_n C dX9_listAll_80 0 rfl rfl ?_
                  refine h_get C O9 32 kd_195 (by decide) wd_1288 dX9_listAll_81 (hp_fvI (by rw [kd_195]; rfl) rfl) ?_
                  obtain ⟨hr11a, hr11b⟩ := hI10.b (bf_9_32 kd_195)
                  generalize hg11 : τ10 195 32 = r11 at hr11a hr11b ⊢
                  refine h_icmp_ge (tgt := 104) C dX9_listAll_84 (by decide) ⟨by omega, by omega⟩ ⟨by omega, by omega⟩ (fun h12 => ?_) (fun h12 => ?_)
                  · refine h_return C hr hlk dX9_listAll_104 ?_
                    exact ⟨rfl, hI10, hF10, ⟨by rw [← hAd]; omega, hM10_1, fun q hq => by have z := hM10_2 q (by omega); omega, fun q hq => hM10_3 q (by omega)⟩⟩
                  · refine h_aload_n C dX9_listAll_87 0 rfl rfl ?_
                    refine h_get C O9 31 kd_195 (by decide) wd_1287 dX9_listAll_88 fr_195_31 ?_
                    refine h_iload_n C dX9_listAll_91 3 rfl rfl ?_
                    refine h_aload_n C dX9_listAll_92 0 rfl rfl ?_
                    refine h_iload_n C dX9_listAll_93 3 rfl rfl ?_
                    have b94 : hpBd τ10 := fun q hq => by have z := hM10_2 q (by omega); omega
                    refine h_callV (As := [.int (hpI w10_3)]) (rest := [.int (hpI w10_3), .ref (z + 209)]) C Z yyX9_tailFrom wd_1743 (tgX9_tailFrom l D cy z _ w10_3 ⟨by omega, by omega⟩ hI10 (by omega) b94) kd_195 rfl rfl ⟨rfl, rfl, Nat.le_of_ble_eq_true rfl, Nat.le_of_ble_eq_true rfl⟩ ⟨Nat.le_of_ble_eq_true rfl, Nat.le_of_ble_eq_true rfl⟩ (Nat.le_of_ble_eq_true rfl) dX9_listAll_94 (fun r13 τ13 hp13 => ?_)
                    obtain ⟨⟨x13, rfl, ⟨hx13a, hx13b⟩, hx13⟩, rfl⟩ := hp13
                    show hpV _ _ _ _ _ _ _ _ _ _ _ _ _ _ _ _ _ _ _ _ _ (_ :: _)
                    refine h_iastore C dX9_listAll_97 kd_209 (w10_3).toNat (Int.toNat_of_nonneg (by omega)) (by rw [ln_209]; omega) ?_
                    obtain ⟨τ14, e14⟩ : ∃ μ : hpMem, μ = hpw τ10 209 ((w10_3).toNat) x13 := ⟨_, rfl⟩
                    rw [← e14]
                    have hI14 : hpInv τ14 := by rw [e14]; exact hI10.w (bo_209 _) (by omega) (by omega)
                    have hF14 : ∀ j i : Nat, j ≠ 202 → j ≠ 207 → j ≠ 208 → j ≠ 209 → (j ≠ 195 ∨ (i ≠ 17 ∧ i ≠ 18 ∧ i ≠ 32)) → τ14 j i = σ j i := fun j i h_0 h_1 h_2 h_3 h_4 => by rw [e14]; exact (hpw_fr (by omega)).trans (hF10 j i h_0 h_1 h_2 h_3 h_4)
                    have hg15 : τ14 195 32 = r11 := by rw [e14]; exact (hpw_fr (Or.inl (by omega))).trans hg11
                    refine h_iinc (lv' := [(3, .int (hpI (w10_3 + 1))), (0, .ref (z + 195)), (1, .int (hpI a0)), (2, .int (hpI w5_2))]) C dX9_listAll_98 3 rfl rfl (by decide) rfl ?_
                    refine h_goto (tgt := 79) C dX9_listAll_101 (by decide) ?_
                    exact hp_sub [1, 2, 3, 0] rfl (ih10 _ (w10_3 + 1) (by omega) (by omega) hI14 hF14 (by rw [e14, hpw_fr (Or.inl (by decide))]; exact hM10_0) (fun q hq => by have z := hM10_1 q hq; exact ⟨z.1.fr z.2 (by omega) (fun i _ _ => by rw [e14, hpw_fr (Or.inl (by decide))]), z.2⟩) (fun q hq => by rw [e14, hpw_fr (Or.inl (by decide))]; exact hM10_2 q hq) (fun q hq h0 => by have e8 : τ14 208 = τ10 208 := funext (fun i => (by rw [e14]; exact hpw_fr (Or.inl (by decide)))); rw [e8]; by_cases e : q = (w10_3).toNat; (rw [e] at h0 ⊢; rw [e14, hpw_eq] at h0; exact hx13.2 (by have z := hx13.1; omega)); (rw [e14, hpw_fr (Or.inr e)] at h0; exact hM10_3 q (by omega) h0)) (by omega))
              exact hp_sub [1, 2, 3, 0] rfl (L10 8589934592 _ 0 (by omega) (by omega) hI7 hF7 hM7_0 (by rw [← hAd]; exact hM7_1) (fun q hq => hM7_2 q (by omega)) (fun q hq => by exfalso; omega) (by omega))
            · refine h_aload_n C dX9_listAll_46 0 rfl rfl ?_
              refine h_iload_n C dX9_listAll_47 3 rfl rfl ?_
              refine h_bipush C dX9_listAll_48 (by decide) ?_
              have hl50 := hM7_1 (w7_3).toNat (by omega)
              have hl51 := hl50.1
              rw [show (((w7_3).toNat : Nat) : Int) = w7_3 by omega] at hl51
              refine h_callV (As := [.int (hpI w7_3), .int (hpI 19)]) (rest := []) C Z yyX9_takeListed wd_1735 (tgX9_takeListed l D cy z _ w7_3 ⟨by omega, by omega⟩ 19 ⟨by decide, by decide⟩ hI7 ((A.getD (w7_3).toNat [])) (by omega) (by omega) hl51 hl50.2) kd_195 rfl rfl ⟨rfl, rfl, Nat.le_of_ble_eq_true rfl, Nat.le_of_ble_eq_true rfl⟩ ⟨Nat.le_of_ble_eq_true rfl, Nat.le_of_ble_eq_true rfl⟩ (Nat.le_of_ble_eq_true rfl) dX9_listAll_50 (fun r16 τ16 hp16 => ?_)
              obtain ⟨rfl, hI16, hG16, hq16_0⟩ := hp16
              have hF16 : ∀ j i : Nat, j ≠ 202 → j ≠ 207 → j ≠ 208 → j ≠ 209 → (j ≠ 195 ∨ (i ≠ 17 ∧ i ≠ 18 ∧ i ≠ 32)) → τ16 j i = σ j i := fun j i h_0 h_1 h_2 h_3 h_4 => (hG16 j i (by omega)).trans (hF7 j i h_0 h_1 h_2 h_3 h_4)
              show hpV _ _ _ _ _ _ _ _ _ _ _ _ _ _ _ _ _ _ _ _ _ []
              have r50 := hq16_0
              refine h_aload_n C dX9_listAll_53 0 rfl rfl ?_
              refine h_bipush C dX9_listAll_54 (by decide) ?_
              have ho56 : hpOk (A.getD (w7_3).toNat []) := ⟨(hC _ (by omega)).1.1, by have z := (hC (w7_3).toNat (by omega)).1.2.1; omega⟩
              refine h_callV (As := [.int (hpI 19)]) (rest := []) C Z yyX9_step wd_1563 (tgX9_step l D cy z _ 19 ⟨by decide, by decide⟩ hI16 ((A.getD (w7_3).toNat [])) (by omega) r50 ho56) kd_195 rfl rfl ⟨rfl, rfl, Nat.le_of_ble_eq_true rfl, Nat.le_of_ble_eq_true rfl⟩ ⟨Nat.le_of_ble_eq_true rfl, Nat.le_of_ble_eq_true rfl⟩ (Nat.le_of_ble_eq_true rfl) dX9_listAll_56 (fun r17 τ17 hp17 => ?_)
              obtain ⟨rfl, hI17, hG17, hq17_0⟩ := hp17
              have hF17 : ∀ j i : Nat, j ≠ 202 → j ≠ 207 → j ≠ 208 → j ≠ 209 → (j ≠ 195 ∨ (i ≠ 17 ∧ i ≠ 18 ∧ i ≠ 32)) → τ17 j i = σ j i := fun j i h_0 h_1 h_2 h_3 h_4 => (hG17 j i (by omega) (by omega)).trans (hF16 j i h_0 h_1 h_2 h_3 h_4)
              show hpV _ _ _ _ _ _ _ _ _ _ _ _ _ _ _ _ _ _ _ _ _ []
              have r56 := hq17_0
              have e56 : τ17 195 32 = τ7 195 32 := (hG17 195 32 (by omega) (by omega)).trans (hG16 195 32 (by omega))
              have f56 : τ17 207 = τ7 207 := funext (fun i => (hG17 207 i (by omega) (by omega)).trans (hG16 207 i (by omega)))
              refine h_aload_n C dX9_listAll_59 0 rfl rfl ?_
              refine h_get C O9 30 kd_195 (by decide) wd_1286 dX9_listAll_60 fr_195_30 ?_
              refine h_iload_n C dX9_listAll_63 3 rfl rfl ?_
              refine h_aload_n C dX9_listAll_64 0 rfl rfl ?_
              refine h_bipush C dX9_listAll_65 (by decide) ?_
              have hin : hpSt (τ16 195 16).toNat (A.getD (w7_3).toNat []) ∈ A := by have z := hpAl_in (n := a0.toNat) (L := hpSt (τ16 195 16).toNat (A.getD (w7_3).toNat [])) (by omega) (by omega) (by rw [hpSt_sum ho56.1]; exact (hC _ (by omega)).1.2.1) hpSt_pos (hpSt_so _ _); rw [← hAd] at z; exact z
              refine h_callV (As := [.int (hpI 19)]) (rest := [.int (hpI w7_3), .ref (z + 208)]) C Z yyX9_findListed wd_1739 (tgX9_findListed l D cy z _ 19 ⟨by decide, by decide⟩ hI17 (A) ((hpSt (τ16 195 16).toNat (A.getD (w7_3).toNat []))) (by omega) (by rw [f56]; exact hM7_1) (by omega) r56 ho56.st.len) kd_195 rfl rfl ⟨rfl, rfl, Nat.le_of_ble_eq_true rfl, Nat.le_of_ble_eq_true rfl⟩ ⟨Nat.le_of_ble_eq_true rfl, Nat.le_of_ble_eq_true rfl⟩ (Nat.le_of_ble_eq_true rfl) dX9_listAll_67 (fun r18 τ18 hp18 => ?_)
              obtain ⟨x18, rfl, ⟨hx18a, hx18b⟩, hx18, hI18, hG18, hq18_0⟩ := hp18
              have hF18 : ∀ j i : Nat, j ≠ 202 → j ≠ 207 → j ≠ 208 → j ≠ 209 → (j ≠ 195 ∨ (i ≠ 17 ∧ i ≠ 18 ∧ i ≠ 32)) → τ18 j i = σ j i := fun j i h_0 h_1 h_2 h_3 h_4 => (hG18 j i (by omega)).trans (hF17 j i h_0 h_1 h_2 h_3 h_4)
              show hpV _ _ _ _ _ _ _ _ _ _ _ _ _ _ _ _ _ _ _ _ _ (_ :: _)
              have z67 := hq18_0 hin
              have e67 : τ18 195 32 = τ7 195 32 := (hG18 195 32 (by omega)).trans e56
              have f67 : ∀ i, τ18 207 i = τ7 207 i := fun i => (hG18 207 i (by omega)).trans (congrFun f56 i)
              have g67 : ∀ i, τ18 208 i = τ7 208 i := fun i => (hG18 208 i (by omega)).trans ((hG17 208 i (by omega) (by omega)).trans (hG16 208 i (by omega)))
              refine h_iastore C dX9_listAll_70 kd_208 (w7_3).toNat (Int.toNat_of_nonneg (by omega)) (by rw [ln_208]; omega) ?_
              obtain ⟨τ19, e19⟩ : ∃ μ : hpMem, μ = hpw τ18 208 ((w7_3).toNat) x18 := ⟨_, rfl⟩
              rw [← e19]
              have hI19 : hpInv τ19 := by rw [e19]; exact hI18.w (bo_208 _) (by omega) (by omega)
              have hF19 : ∀ j i : Nat, j ≠ 202 → j ≠ 207 → j ≠ 208 → j ≠ 209 → (j ≠ 195 ∨ (i ≠ 17 ∧ i ≠ 18 ∧ i ≠ 32)) → τ19 j i = σ j i := fun j i h_0 h_1 h_2 h_3 h_4 => by rw [e19]; exact (hpw_fr (by omega)).trans (hF18 j i h_0 h_1 h_2 h_3 h_4)
              refine h_iinc (lv' := [(3, .int (hpI (w7_3 + 1))), (0, .ref (z + 195)), (1, .int (hpI a0)), (2, .int (hpI w5_2))]) C dX9_listAll_71 3 rfl rfl (by decide) rfl ?_
              refine h_goto (tgt := 38) C dX9_listAll_74 (by decide) ?_
              exact hp_sub [1, 2, 3, 0] rfl (ih7 _ (w7_3 + 1) (by omega) (by omega) hI19 hF19 (by rw [e19, hpw_fr (Or.inl (by decide)), e67]; exact hM7_0) (fun q hq => by have z := hM7_1 q hq; exact ⟨z.1.fr z.2 (by omega) (fun i _ _ => by rw [e19, hpw_fr (Or.inl (by decide))]; exact f67 i), z.2⟩) (fun q hq => by rw [e19]; by_cases e : q = (w7_3).toNat; (rw [e, hpw_eq]; omega); (rw [hpw_fr (Or.inr e), g67]; exact hM7_2 q (by omega))) (by omega))
        exact hp_sub [1, 2, 3, 0] rfl (L7 8589934592 _ 0 (by omega) (by omega) hI5 hF5 (by have z := hM5_4 (by omega); omega) (fun q hq => ⟨hM5_2 q (by have z := hM5_4 (by omega); omega), (hC q hq).1.2.2⟩) (fun q hq => by exfalso; omega) (by omega))
      · refine h_aload_n C dX9_listAll_24 0 rfl rfl ?_
        have hk20 := (hM5_3 (by omega)).1
        have hk14 := (hC k hk20).1.2.2
        refine h_callV (As := []) (rest := []) C Z yyX9_keepListed wd_1727 (tgX9_keepListed l D cy z _ hI5 ((A.getD k [])) (hM5_3 (by omega)).2 hk14 (by omega)) kd_195 rfl rfl ⟨rfl, rfl, Nat.le_of_ble_eq_true rfl, Nat.le_of_ble_eq_true rfl⟩ ⟨Nat.le_of_ble_eq_true rfl, Nat.le_of_ble_eq_true rfl⟩ (Nat.le_of_ble_eq_true rfl) dX9_listAll_25 (fun r20 τ20 hp20 => ?_)
        obtain ⟨rfl, hI20, hG20, hq20_0, hq20_1⟩ := hp20
        have hF20 : ∀ j i : Nat, j ≠ 202 → j ≠ 207 → j ≠ 208 → j ≠ 209 → (j ≠ 195 ∨ (i ≠ 17 ∧ i ≠ 18 ∧ i ≠ 32)) → τ20 j i = σ j i := fun j i h_0 h_1 h_2 h_3 h_4 => (hG20 j i (by omega) (by omega)).trans (hF5 j i h_0 h_1 h_2 h_3 h_4)
        show hpV _ _ _ _ _ _ _ _ _ _ _ _ _ _ _ _ _ _ _ _ _ []
        have k25 := hq20_0
        rw [hM5_0] at k25
        have r25 : hpRw (τ20 202) 18 (A.getD k []) := (hM5_3 (by omega)).2.fr (by have z := (hC k hk20).1.2.2; omega) (by decide) (fun i h1 h2 => hG20 202 i (by omega) (by omega))
        refine h_aload_n C dX9_listAll_28 0 rfl rfl ?_
        have ho29 : hpOk (A.getD k []) := ⟨(hC k hk20).1.1, by have z := (hC k hk20).1.2.1; omega⟩
        refine h_callV (As := []) (rest := []) C Z yyX9_nextRow wd_1731 (tgX9_nextRow l D cy z _ hI20 ((A.getD k [])) r25 ho29) kd_195 rfl rfl ⟨rfl, rfl, Nat.le_of_ble_eq_true rfl, Nat.le_of_ble_eq_true rfl⟩ ⟨Nat.le_of_ble_eq_true rfl, Nat.le_of_ble_eq_true rfl⟩ (Nat.le_of_ble_eq_true rfl) dX9_listAll_29 (fun r21 τ21 hp21 => ?_)
        obtain ⟨x21, rfl, ⟨hx21a, hx21b⟩, hI21, hG21, hq21_0, hq21_1⟩ := hp21
        have hF21 : ∀ j i : Nat, j ≠ 202 → j ≠ 207 → j ≠ 208 → j ≠ 209 → (j ≠ 195 ∨ (i ≠ 17 ∧ i ≠ 18 ∧ i ≠ 32)) → τ21 j i = σ j i := fun j i h_0 h_1 h_2 h_3 h_4 => (hG21 j i (by omega)).trans (hF20 j i h_0 h_1 h_2 h_3 h_4)
        show hpV _ _ _ _ _ _ _ _ _ _ _ _ _ _ _ _ _ _ _ _ _ (_ :: _)
        have k29 : ∀ i, τ21 207 i = τ20 207 i := fun i => hG21 207 i (by omega)
        have e29 : τ21 195 32 = (k : Int) + 1 := (hG21 195 32 (by omega)).trans (by have z := hq20_1; omega)
        refine h_istore_n (lv' := [(2, .int (hpI x21)), (0, .ref (z + 195)), (1, .int (hpI a0))]) C dX9_listAll_32 rfl (by decide) rfl ?_
        refine h_goto (tgt := 20) C dX9_listAll_33 (by decide) ?_
        exact hp_sub [1, 2, 0] rfl (ih5 _ x21 (k + 1) (by omega) (by omega) hI21 hF21 (by omega) (by omega) (fun q hq => by by_cases e : q = k; (rw [e]; exact ⟨(k29 _).trans k25.1, fun j hj => (k29 _).trans (k25.2 j hj)⟩); (exact (hM5_2 q (by omega)).fr (hC q (by omega)).1.2.2 (by omega) (fun i h1 h2 => (k29 i).trans (hG20 207 i (by omega) (by omega))))) (fun e => by obtain ⟨z1, z2⟩ := hq21_1 (by omega); have hc := hC k hk20; have hlt : k + 1 < A.length := (by by_cases e2 : k + 1 = A.length; (exact absurd (hc.2.2 e2) z1); (omega)); exact ⟨hlt, by rw [(hc.2.1 hlt).2]; exact z2⟩) (fun e => by have z := hq21_0 (by omega); have hc := hC k hk20; by_cases e2 : k + 1 < A.length; (exact absurd z (hc.2.1 e2).1); (omega)) (by omega))
  exact hp_sub [1, 2, 0] rfl (L5 8589934592 _ 1 0 (by omega) (by omega) hI4 hF4 e15 (by omega) (fun q hq => by exfalso; omega) (fun _ => ⟨hA00, r15⟩) (fun e => by exfalso; omega) (by omega))
abbrev rgX9_asksAll : Room := { frames := 4, cells := 0, slots := 0, locals := 93 }
abbrev pgX9_asksAll (z : Nat) (σ : hpMem) (a0 : Int) : Option Value → hpMem → Prop := fun r τ => (∃ x : Int, r = some (.int (hpI x)) ∧ (0 ≤ x ∧ x ≤ 1) ∧ ((σ 196 6 ≤ 0 ∨ a0 < 1 ∨ 14 < a0) ∨ x = 1) ∧ hpInv τ ∧ (∀ j i : Nat, j ≠ 202 → j ≠ 203 → j ≠ 204 → j ≠ 207 → j ≠ 208 → j ≠ 209 → (j ≠ 195 ∨ (i ≠ 16 ∧ i ≠ 17 ∧ i ≠ 18 ∧ i ≠ 21 ∧ i ≠ 22 ∧ i ≠ 23 ∧ i ≠ 32)) → τ j i = σ j i) ∧ (x = 1 → hpLq τ a0.toNat))
set_option maxHeartbeats 4000000 in
set_option maxRecDepth 20000 in
theorem tgX9_asksAll (l : Launch) (D : va_G) (cy : Nat → ClassId) (z : Nat) (σ : hpMem) (a0 : Int) (ha0 : hpR a0) (hI : hpInv σ) : hpM l D cy z yX9_asksAll cX9_asksAll 2 (some .boolean) rgX9_asksAll [.ref (z + 195), .int (hpI a0)] σ (pgX9_asksAll z σ a0) := by
  obtain ⟨ha01, ha02⟩ := ha0
  refine hp_met rfl (Nat.le_of_ble_eq_true rfl) (fun p e s m below meth c C Z hr hlk => ?_)
  have hF0 : ∀ j i : Nat, j ≠ 202 → j ≠ 203 → j ≠ 204 → j ≠ 207 → j ≠ 208 → j ≠ 209 → (j ≠ 195 ∨ (i ≠ 16 ∧ i ≠ 17 ∧ i ≠ 18 ∧ i ≠ 21 ∧ i ≠ 22 ∧ i ≠ 23 ∧ i ≠ 32)) → σ j i = σ j i := fun j i _ _ _ _ _ _ _ => rfl
  refine h_aload_n C dX9_asksAll_0 0 rfl rfl ?_
  refine h_callV (As := []) (rest := []) C Z yyX9_asItIs wd_1520 (tgX9_asItIs l D cy z _ hI) kd_195 rfl rfl ⟨rfl, rfl, Nat.le_of_ble_eq_true rfl, Nat.le_of_ble_eq_true rfl⟩ ⟨Nat.le_of_ble_eq_true rfl, Nat.le_of_ble_eq_true rfl⟩ (Nat.le_of_ble_eq_true rfl) dX9_asksAll_1 (fun r1 τ1 hp1 => ?_)
  obtain ⟨rfl, hI1, hG1⟩ := hp1
  have hF1 : ∀ j i : Nat, j ≠ 202 → j ≠ 203 → j ≠ 204 → j ≠ 207 → j ≠ 208 → j ≠ 209 → (j ≠ 195 ∨ (i ≠ 16 ∧ i ≠ 17 ∧ i ≠ 18 ∧ i ≠ 21 ∧ i ≠ 22 ∧ i ≠ 23 ∧ i ≠ 32)) → τ1 j i = σ j i := fun j i h_0 h_1 h_2 h_3 h_4 h_5 h_6 => (hG1 j i (by omega) (by omega) (by omega)).trans (hF0 j i h_0 h_1 h_2 h_3 h_4 h_5 h_6)
  show hpV _ _ _ _ _ _ _ _ _ _ _ _ _ _ _ _ _ _ _ _ _ []
  have e6 := hG1 196 6 (by omega) (by omega) (by omega)
  refine h_aload_n C dX9_asksAll_4 0 rfl rfl ?_
  refine h_callV (As := []) (rest := []) C Z yyX9_isMoor wd_1571 (tgX9_isMoor l D cy z _ hI1) kd_195 rfl rfl ⟨rfl, rfl, Nat.le_of_ble_eq_true rfl, Nat.le_of_ble_eq_true rfl⟩ ⟨Nat.le_of_ble_eq_true rfl, Nat.le_of_ble_eq_true rfl⟩ (Nat.le_of_ble_eq_true rfl) dX9_asksAll_5 (fun r2 τ2 hp2 => ?_)
  obtain ⟨⟨x2, rfl, ⟨hx2a, hx2b⟩, hx2⟩, rfl⟩ := hp2
  show hpV _ _ _ _ _ _ _ _ _ _ _ _ _ _ _ _ _ _ _ _ _ (_ :: _)
  refine h_if_eq (tgt := 23) C dX9_asksAll_8 (by decide) ⟨by omega, by omega⟩ (fun h3 => ?_) (fun h3 => ?_)
  · refine h_iconst C dX9_asksAll_23 ?_
    refine h_zreturn C (by omega) hr hlk dX9_asksAll_24 ?_
    exact ⟨_, rfl, ⟨by decide, by decide⟩, by omega, hI1, hF1, fun e => by exfalso; omega⟩
  · refine h_iload_n C dX9_asksAll_11 1 rfl rfl ?_
    refine h_i2l C dX9_asksAll_12 ⟨by omega, by omega⟩ ?_
    refine h_lconst C 1 dX9_asksAll_13 (by decide) ?_
    refine h_ldc2 C 14 wd_1722 (by decide) dX9_asksAll_14 ?_
    refine h_callS (As := [.long (hpJ a0), .long (hpJ 1), .long (hpJ 14)]) (rest := []) C Z yyX9_in rfl wd_1401 (tgX9_in l D cy z _ a0 ⟨by omega, by omega⟩ 1 ⟨by decide, by decide⟩ 14 ⟨by decide, by decide⟩ hI1) rfl rfl ⟨rfl, rfl, Nat.le_of_ble_eq_true rfl, Nat.le_of_ble_eq_true rfl⟩ ⟨Nat.le_of_ble_eq_true rfl, Nat.le_of_ble_eq_true rfl⟩ (Nat.le_of_ble_eq_true rfl) dX9_asksAll_17 (fun r4 τ4 hp4 => ?_)
    obtain ⟨⟨x4, rfl, ⟨hx4a, hx4b⟩, hx4⟩, rfl⟩ := hp4
    show hpV _ _ _ _ _ _ _ _ _ _ _ _ _ _ _ _ _ _ _ _ _ (_ :: _)
    refine h_if_ne (tgt := 25) C dX9_asksAll_20 (by decide) ⟨by omega, by omega⟩ (fun h5 => ?_) (fun h5 => ?_)
    · refine h_aload_n C dX9_asksAll_25 0 rfl rfl ?_
      refine h_iload_n C dX9_asksAll_26 1 rfl rfl ?_
      refine h_callV (As := [.int (hpI a0)]) (rest := []) C Z yyX9_listAll wd_1723 (tgX9_listAll l D cy z _ a0 ⟨by omega, by omega⟩ hI1 (by omega)) kd_195 rfl rfl ⟨rfl, rfl, Nat.le_of_ble_eq_true rfl, Nat.le_of_ble_eq_true rfl⟩ ⟨Nat.le_of_ble_eq_true rfl, Nat.le_of_ble_eq_true rfl⟩ (Nat.le_of_ble_eq_true rfl) dX9_asksAll_27 (fun r6 τ6 hp6 => ?_)
      obtain ⟨rfl, hI6, hG6, hq6_0⟩ := hp6
      have hF6 : ∀ j i : Nat, j ≠ 202 → j ≠ 203 → j ≠ 204 → j ≠ 207 → j ≠ 208 → j ≠ 209 → (j ≠ 195 ∨ (i ≠ 16 ∧ i ≠ 17 ∧ i ≠ 18 ∧ i ≠ 21 ∧ i ≠ 22 ∧ i ≠ 23 ∧ i ≠ 32)) → τ6 j i = σ j i := fun j i h_0 h_1 h_2 h_3 h_4 h_5 h_6 => (hG6 j i (by omega) (by omega) (by omega) (by omega) (by omega)).trans (hF1 j i h_0 h_1 h_2 h_3 h_4 h_5 h_6)
      show hpV _ _ _ _ _ _ _ _ _ _ _ _ _ _ _ _ _ _ _ _ _ []
      refine h_iconst C dX9_asksAll_30 ?_
      refine h_zreturn C (by omega) hr hlk dX9_asksAll_31 ?_
      exact ⟨_, rfl, ⟨by decide, by decide⟩, by omega, hI6, hF6, fun _ => hq6_0⟩
    · refine h_iconst C dX9_asksAll_23 ?_
      refine h_zreturn C (by omega) hr hlk dX9_asksAll_24 ?_
      exact ⟨_, rfl, ⟨by decide, by decide⟩, by omega, hI1, hF1, fun e => by exfalso; omega⟩
abbrev rgX9_rowsOf : Room := { frames := 5, cells := 0, slots := 0, locals := 114 }
abbrev pgX9_rowsOf (z : Nat) (σ : hpMem) (a0 : Int) : Option Value → hpMem → Prop := fun r τ => (∃ x : Int, r = some (.int (hpI x)) ∧ (hpR x)) ∧ hpInv τ ∧ (∀ j i : Nat, (j < 195 ∨ j = 198 ∨ 213 ≤ j) → τ j i = σ j i)
set_option maxHeartbeats 4000000 in
set_option maxRecDepth 20000 in
theorem tgX9_rowsOf (l : Launch) (D : va_G) (cy : Nat → ClassId) (z : Nat) (σ : hpMem) (a0 : Int) (ha0 : hpR a0) (hI : hpInv σ) : hpM l D cy z yX9_rowsOf cX9_rowsOf 2 (some .int) rgX9_rowsOf [.ref (z + 195), .int (hpI a0)] σ (pgX9_rowsOf z σ a0) := by
  obtain ⟨ha01, ha02⟩ := ha0
  refine hp_met rfl (Nat.le_of_ble_eq_true rfl) (fun p e s m below meth c C Z hr hlk => ?_)
  have hF0 : ∀ j i : Nat, (j < 195 ∨ j = 198 ∨ 213 ≤ j) → σ j i = σ j i := fun j i _ => rfl
  refine h_aload_n C dX9_rowsOf_0 0 rfl rfl ?_
  refine h_iload_n C dX9_rowsOf_1 1 rfl rfl ?_
  refine h_callV (As := [.int (hpI a0)]) (rest := []) C Z yyX9_asksAll wd_1718 (tgX9_asksAll l D cy z _ a0 ⟨by omega, by omega⟩ hI) kd_195 rfl rfl ⟨rfl, rfl, Nat.le_of_ble_eq_true rfl, Nat.le_of_ble_eq_true rfl⟩ ⟨Nat.le_of_ble_eq_true rfl, Nat.le_of_ble_eq_true rfl⟩ (Nat.le_of_ble_eq_true rfl) dX9_rowsOf_2 (fun r1 τ1 hp1 => ?_)
  obtain ⟨x1, rfl, ⟨hx1a, hx1b⟩, hx1, hI1, hG1, hq1_0⟩ := hp1
  have hF1 : ∀ j i : Nat, (j < 195 ∨ j = 198 ∨ 213 ≤ j) → τ1 j i = σ j i := fun j i h_0 => (hG1 j i (by omega) (by omega) (by omega) (by omega) (by omega) (by omega) (by omega)).trans (hF0 j i h_0)
  show hpV _ _ _ _ _ _ _ _ _ _ _ _ _ _ _ _ _ _ _ _ _ (_ :: _)
  refine h_if_eq (tgt := 15) C dX9_rowsOf_5 (by decide) ⟨by omega, by omega⟩ (fun h2 => ?_) (fun h2 => ?_)
  · refine h_bipush C dX9_rowsOf_15 (by decide) ?_
    refine h_ireturn C hr hlk dX9_rowsOf_17 ?_
    exact ⟨⟨_, rfl, ⟨by decide, by decide⟩⟩, hI1, hF1⟩
  · refine h_aload_n C dX9_rowsOf_8 0 rfl rfl ?_
    refine h_get C O9 32 kd_195 (by decide) wd_1288 dX9_rowsOf_9 (hp_fvI (by rw [kd_195]; rfl) rfl) ?_
    obtain ⟨hr3a, hr3b⟩ := hI1.b (bf_9_32 kd_195)
    generalize hg3 : τ1 195 32 = r3 at hr3a hr3b ⊢
    refine h_goto (tgt := 17) C dX9_rowsOf_12 (by decide) ?_
    refine h_ireturn C hr hlk dX9_rowsOf_17 ?_
    exact ⟨⟨_, rfl, ⟨by omega, by omega⟩⟩, hI1, hF1⟩
abbrev rgX9_ringed : Room := { frames := 5, cells := 0, slots := 0, locals := 114 }
abbrev pgX9_ringed (z : Nat) (σ : hpMem) (a0 : Int) : Option Value → hpMem → Prop := fun r τ => (∃ x : Int, r = some (.int (hpI x)) ∧ (hpR x)) ∧ hpInv τ ∧ (∀ j i : Nat, (j < 195 ∨ j = 198 ∨ 213 ≤ j) → τ j i = σ j i)
set_option maxHeartbeats 4000000 in
set_option maxRecDepth 20000 in
theorem tgX9_ringed (l : Launch) (D : va_G) (cy : Nat → ClassId) (z : Nat) (σ : hpMem) (a0 : Int) (ha0 : hpR a0) (hI : hpInv σ) : hpM l D cy z yX9_ringed cX9_ringed 4 (some .int) rgX9_ringed [.ref (z + 195), .int (hpI a0)] σ (pgX9_ringed z σ a0) := by
  obtain ⟨ha01, ha02⟩ := ha0
  refine hp_met rfl (Nat.le_of_ble_eq_true rfl) (fun p e s m below meth c C Z hr hlk => ?_)
  have hF0 : ∀ j i : Nat, (j < 195 ∨ j = 198 ∨ 213 ≤ j) → σ j i = σ j i := fun j i _ => rfl
  refine h_aload_n C dX9_ringed_0 0 rfl rfl ?_
  refine h_iload_n C dX9_ringed_1 1 rfl rfl ?_
  refine h_callV (As := [.int (hpI a0)]) (rest := []) C Z yyX9_asksAll wd_1718 (tgX9_asksAll l D cy z _ a0 ⟨by omega, by omega⟩ hI) kd_195 rfl rfl ⟨rfl, rfl, Nat.le_of_ble_eq_true rfl, Nat.le_of_ble_eq_true rfl⟩ ⟨Nat.le_of_ble_eq_true rfl, Nat.le_of_ble_eq_true rfl⟩ (Nat.le_of_ble_eq_true rfl) dX9_ringed_2 (fun r1 τ1 hp1 => ?_)
  obtain ⟨x1, rfl, ⟨hx1a, hx1b⟩, hx1, hI1, hG1, hq1_0⟩ := hp1
  have hF1 : ∀ j i : Nat, (j < 195 ∨ j = 198 ∨ 213 ≤ j) → τ1 j i = σ j i := fun j i h_0 => (hG1 j i (by omega) (by omega) (by omega) (by omega) (by omega) (by omega) (by omega)).trans (hF0 j i h_0)
  show hpV _ _ _ _ _ _ _ _ _ _ _ _ _ _ _ _ _ _ _ _ _ (_ :: _)
  refine h_if_ne (tgt := 11) C dX9_ringed_5 (by decide) ⟨by omega, by omega⟩ (fun h2 => ?_) (fun h2 => ?_)
  · refine h_iconst C dX9_ringed_11 ?_
    refine h_istore_n (lv' := [(2, .int (hpI 0)), (0, .ref (z + 195)), (1, .int (hpI a0))]) C dX9_ringed_12 rfl (by decide) rfl ?_
    refine h_iconst C dX9_ringed_13 ?_
    refine h_istore_n (lv' := [(3, .int (hpI 0)), (2, .int (hpI 0)), (0, .ref (z + 195)), (1, .int (hpI a0))]) C dX9_ringed_14 rfl (by decide) rfl ?_
    have L3 : ∀ (n3 : Nat) (w3_2 : Int) (w3_3 : Int), -2147483648 ≤ w3_2 → w3_2 ≤ 2147483647 → 0 ≤ w3_3 → w3_3 ≤ 2147483647 → (4294967296 - w3_3) < (n3 : Int) → hpF p l e rgX9_ringed s m [.ref (z + 195), .int (hpI a0)] below meth c 4 D cy z (pgX9_ringed z σ a0) τ1 15 [(0, .ref (z + 195)), (1, .int (hpI a0)), (2, .int (hpI w3_2)), (3, .int (hpI w3_3))] [] := by
      intro n3
      induction n3 with
      | zero => intro w3_2 w3_3 hv3_0 hv3_1 hv3_2 hv3_3 hm3; exfalso; omega
      | succ n3 ih3 =>
        intro w3_2 w3_3 hv3_0 hv3_1 hv3_2 hv3_3 hm3
        refine h_iload_n C dX9_ringed_15 3 rfl rfl ?_
        refine h_aload_n C dX9_ringed_16 0 rfl rfl ?_
        refine h_get C O9 32 kd_195 (by decide) wd_1288 dX9_ringed_17 (hp_fvI (by rw [kd_195]; rfl) rfl) ?_
        obtain ⟨hr4a, hr4b⟩ := hI1.b (bf_9_32 kd_195)
        generalize hg4 : τ1 195 32 = r4 at hr4a hr4b ⊢
        refine h_icmp_ge (tgt := 46) C dX9_ringed_20 (by decide) ⟨by omega, by omega⟩ ⟨by omega, by omega⟩ (fun h5 => ?_) (fun h5 => ?_)
        · refine h_iload_n C dX9_ringed_46 2 rfl rfl ?_
          refine h_ireturn C hr hlk dX9_ringed_47 ?_
          exact ⟨⟨_, rfl, ⟨by omega, by omega⟩⟩, hI1, hF1⟩
        · refine h_iload_n C dX9_ringed_23 2 rfl rfl ?_
          refine h_aload_n C dX9_ringed_24 0 rfl rfl ?_
          refine h_get C O9 31 kd_195 (by decide) wd_1287 dX9_ringed_25 fr_195_31 ?_
          refine h_iload_n C dX9_ringed_28 3 rfl rfl ?_
          refine h_iaload C dX9_ringed_29 kd_209 (w3_3).toNat (Int.toNat_of_nonneg (by omega)) (by rw [ln_209]; omega) rfl ?_
          obtain ⟨hr6a, hr6b⟩ := hI1.b (bo_209 _)
          generalize hg6 : τ1 209 ((w3_3).toNat) = r6 at hr6a hr6b ⊢
          refine h_if_ne (tgt := 37) C dX9_ringed_30 (by decide) ⟨by omega, by omega⟩ (fun h7 => ?_) (fun h7 => ?_)
          · refine h_iconst C dX9_ringed_37 ?_
            refine h_iadd C dX9_ringed_38 rfl ?_
            refine h_istore_n (lv' := [(2, .int (hpI (w3_2 + 0))), (0, .ref (z + 195)), (1, .int (hpI a0)), (3, .int (hpI w3_3))]) C dX9_ringed_39 rfl (by decide) rfl ?_
            refine h_iinc (lv' := [(3, .int (hpI (w3_3 + 1))), (2, .int (hpI (w3_2 + 0))), (0, .ref (z + 195)), (1, .int (hpI a0))]) C dX9_ringed_40 3 rfl rfl (by decide) rfl ?_
            refine h_goto (tgt := 15) C dX9_ringed_43 (by decide) ?_
            exact hp_sub [2, 3, 1, 0] rfl (ih3 (w3_2 + 0) (w3_3 + 1) (by omega) (by omega) (by omega) (by omega) (by omega))
          · refine h_iconst C dX9_ringed_33 ?_
            refine h_goto (tgt := 38) C dX9_ringed_34 (by decide) ?_
            refine h_iadd C dX9_ringed_38 rfl ?_
            refine hp_anyI (fun r8 hr8 => ?_)
            obtain ⟨hr8a, hr8b⟩ := hr8
            refine h_istore_n (lv' := [(2, .int (hpI r8)), (0, .ref (z + 195)), (1, .int (hpI a0)), (3, .int (hpI w3_3))]) C dX9_ringed_39 rfl (by decide) rfl ?_
            refine h_iinc (lv' := [(3, .int (hpI (w3_3 + 1))), (2, .int (hpI r8)), (0, .ref (z + 195)), (1, .int (hpI a0))]) C dX9_ringed_40 3 rfl rfl (by decide) rfl ?_
            refine h_goto (tgt := 15) C dX9_ringed_43 (by decide) ?_
            exact hp_sub [2, 3, 1, 0] rfl (ih3 r8 (w3_3 + 1) (by omega) (by omega) (by omega) (by omega) (by omega))
    exact hp_sub [2, 3, 1, 0] rfl (L3 8589934592 0 0 (by omega) (by omega) (by omega) (by omega) (by omega))
  · refine h_bipush C dX9_ringed_8 (by decide) ?_
    refine h_ireturn C hr hlk dX9_ringed_10 ?_
    exact ⟨⟨_, rfl, ⟨by decide, by decide⟩⟩, hI1, hF1⟩
abbrev rgX9_longest : Room := { frames := 5, cells := 0, slots := 0, locals := 114 }
abbrev pgX9_longest (z : Nat) (σ : hpMem) (a0 : Int) : Option Value → hpMem → Prop := fun r τ => (∃ x : Int, r = some (.int (hpI x)) ∧ (hpR x)) ∧ hpInv τ ∧ (∀ j i : Nat, (j < 195 ∨ j = 198 ∨ 213 ≤ j) → τ j i = σ j i)
set_option maxHeartbeats 4000000 in
set_option maxRecDepth 20000 in
theorem tgX9_longest (l : Launch) (D : va_G) (cy : Nat → ClassId) (z : Nat) (σ : hpMem) (a0 : Int) (ha0 : hpR a0) (hI : hpInv σ) : hpM l D cy z yX9_longest cX9_longest 4 (some .int) rgX9_longest [.ref (z + 195), .int (hpI a0)] σ (pgX9_longest z σ a0) := by
  obtain ⟨ha01, ha02⟩ := ha0
  refine hp_met rfl (Nat.le_of_ble_eq_true rfl) (fun p e s m below meth c C Z hr hlk => ?_)
  have hF0 : ∀ j i : Nat, (j < 195 ∨ j = 198 ∨ 213 ≤ j) → σ j i = σ j i := fun j i _ => rfl
  refine h_aload_n C dX9_longest_0 0 rfl rfl ?_
  refine h_iload_n C dX9_longest_1 1 rfl rfl ?_
  refine h_callV (As := [.int (hpI a0)]) (rest := []) C Z yyX9_asksAll wd_1718 (tgX9_asksAll l D cy z _ a0 ⟨by omega, by omega⟩ hI) kd_195 rfl rfl ⟨rfl, rfl, Nat.le_of_ble_eq_true rfl, Nat.le_of_ble_eq_true rfl⟩ ⟨Nat.le_of_ble_eq_true rfl, Nat.le_of_ble_eq_true rfl⟩ (Nat.le_of_ble_eq_true rfl) dX9_longest_2 (fun r1 τ1 hp1 => ?_)
  obtain ⟨x1, rfl, ⟨hx1a, hx1b⟩, hx1, hI1, hG1, hq1_0⟩ := hp1
  have hF1 : ∀ j i : Nat, (j < 195 ∨ j = 198 ∨ 213 ≤ j) → τ1 j i = σ j i := fun j i h_0 => (hG1 j i (by omega) (by omega) (by omega) (by omega) (by omega) (by omega) (by omega)).trans (hF0 j i h_0)
  show hpV _ _ _ _ _ _ _ _ _ _ _ _ _ _ _ _ _ _ _ _ _ (_ :: _)
  refine h_if_ne (tgt := 11) C dX9_longest_5 (by decide) ⟨by omega, by omega⟩ (fun h2 => ?_) (fun h2 => ?_)
  · refine h_iconst C dX9_longest_11 ?_
    refine h_istore_n (lv' := [(2, .int (hpI 0)), (0, .ref (z + 195)), (1, .int (hpI a0))]) C dX9_longest_12 rfl (by decide) rfl ?_
    refine h_iconst C dX9_longest_13 ?_
    refine h_istore_n (lv' := [(3, .int (hpI 0)), (2, .int (hpI 0)), (0, .ref (z + 195)), (1, .int (hpI a0))]) C dX9_longest_14 rfl (by decide) rfl ?_
    have L3 : ∀ (n3 : Nat) (w3_2 : Int) (w3_3 : Int), -2147483648 ≤ w3_2 → w3_2 ≤ 2147483647 → 0 ≤ w3_3 → w3_3 ≤ 2147483647 → (4294967296 - w3_3) < (n3 : Int) → hpF p l e rgX9_longest s m [.ref (z + 195), .int (hpI a0)] below meth c 4 D cy z (pgX9_longest z σ a0) τ1 15 [(0, .ref (z + 195)), (1, .int (hpI a0)), (2, .int (hpI w3_2)), (3, .int (hpI w3_3))] [] := by
      intro n3
      induction n3 with
      | zero => intro w3_2 w3_3 hv3_0 hv3_1 hv3_2 hv3_3 hm3; exfalso; omega
      | succ n3 ih3 =>
        intro w3_2 w3_3 hv3_0 hv3_1 hv3_2 hv3_3 hm3
        refine h_iload_n C dX9_longest_15 3 rfl rfl ?_
        refine h_aload_n C dX9_longest_16 0 rfl rfl ?_
        refine h_get C O9 32 kd_195 (by decide) wd_1288 dX9_longest_17 (hp_fvI (by rw [kd_195]; rfl) rfl) ?_
        obtain ⟨hr4a, hr4b⟩ := hI1.b (bf_9_32 kd_195)
        generalize hg4 : τ1 195 32 = r4 at hr4a hr4b ⊢
        refine h_icmp_ge (tgt := 40) C dX9_longest_20 (by decide) ⟨by omega, by omega⟩ ⟨by omega, by omega⟩ (fun h5 => ?_) (fun h5 => ?_)
        · refine h_iload_n C dX9_longest_40 2 rfl rfl ?_
          refine h_ireturn C hr hlk dX9_longest_41 ?_
          exact ⟨⟨_, rfl, ⟨by omega, by omega⟩⟩, hI1, hF1⟩
        · refine h_iload_n C dX9_longest_23 2 rfl rfl ?_
          refine h_aload_n C dX9_longest_24 0 rfl rfl ?_
          refine h_get C O9 31 kd_195 (by decide) wd_1287 dX9_longest_25 fr_195_31 ?_
          refine h_iload_n C dX9_longest_28 3 rfl rfl ?_
          refine h_iaload C dX9_longest_29 kd_209 (w3_3).toNat (Int.toNat_of_nonneg (by omega)) (by rw [ln_209]; omega) rfl ?_
          obtain ⟨hr6a, hr6b⟩ := hI1.b (bo_209 _)
          generalize hg6 : τ1 209 ((w3_3).toNat) = r6 at hr6a hr6b ⊢
          refine h_mmax C wd_1624 wd_708 wd_709 wd_15 dX9_longest_30 ⟨by omega, by omega⟩ ⟨by omega, by omega⟩ (Nat.le_of_ble_eq_true rfl) (Nat.le_of_ble_eq_true rfl) ⟨Nat.le_of_ble_eq_true rfl, Nat.le_of_ble_eq_true rfl⟩ (fun r7 hr7a hr7b hr7c => ?_)
          refine h_istore_n (lv' := [(2, .int (hpI r7)), (0, .ref (z + 195)), (1, .int (hpI a0)), (3, .int (hpI w3_3))]) C dX9_longest_33 rfl (by decide) rfl ?_
          refine h_iinc (lv' := [(3, .int (hpI (w3_3 + 1))), (2, .int (hpI r7)), (0, .ref (z + 195)), (1, .int (hpI a0))]) C dX9_longest_34 3 rfl rfl (by decide) rfl ?_
          refine h_goto (tgt := 15) C dX9_longest_37 (by decide) ?_
          exact hp_sub [2, 3, 1, 0] rfl (ih3 r7 (w3_3 + 1) (by omega) (by omega) (by omega) (by omega) (by omega))
    exact hp_sub [2, 3, 1, 0] rfl (L3 8589934592 0 0 (by omega) (by omega) (by omega) (by omega) (by omega))
  · refine h_bipush C dX9_longest_8 (by decide) ?_
    refine h_ireturn C hr hlk dX9_longest_10 ?_
    exact ⟨⟨_, rfl, ⟨by decide, by decide⟩⟩, hI1, hF1⟩
abbrev rgX9_comesTo : Room := { frames := 0, cells := 0, slots := 0, locals := 0 }
abbrev pgX9_comesTo (z : Nat) (σ : hpMem) (a0 : Int) : Option Value → hpMem → Prop := fun r τ => (∃ x : Int, r = some (.int (hpI x)) ∧ (hpR x)) ∧ σ = τ
set_option maxHeartbeats 4000000 in
set_option maxRecDepth 20000 in
theorem tgX9_comesTo (l : Launch) (D : va_G) (cy : Nat → ClassId) (z : Nat) (σ : hpMem) (a0 : Int) (ha0 : hpR a0) (hI : hpInv σ) : hpM l D cy z yX9_comesTo cX9_comesTo 4 (some .int) rgX9_comesTo [.ref (z + 195), .int (hpI a0)] σ (pgX9_comesTo z σ a0) := by
  obtain ⟨ha01, ha02⟩ := ha0
  refine hp_met rfl (Nat.le_of_ble_eq_true rfl) (fun p e s m below meth c C Z hr hlk => ?_)
  refine h_iconst C dX9_comesTo_0 ?_
  refine h_istore_n (lv' := [(2, .int (hpI 0)), (0, .ref (z + 195)), (1, .int (hpI a0))]) C dX9_comesTo_1 rfl (by decide) rfl ?_
  refine h_iconst C dX9_comesTo_2 ?_
  refine h_istore_n (lv' := [(3, .int (hpI 0)), (2, .int (hpI 0)), (0, .ref (z + 195)), (1, .int (hpI a0))]) C dX9_comesTo_3 rfl (by decide) rfl ?_
  have L1 : ∀ (n1 : Nat) (w1_2 : Int) (w1_3 : Int), -2147483648 ≤ w1_2 → w1_2 ≤ 2147483647 → 0 ≤ w1_3 → w1_3 ≤ 2147483647 → (4294967296 - w1_3) < (n1 : Int) → hpF p l e rgX9_comesTo s m [.ref (z + 195), .int (hpI a0)] below meth c 4 D cy z (pgX9_comesTo z σ a0) σ 4 [(0, .ref (z + 195)), (1, .int (hpI a0)), (2, .int (hpI w1_2)), (3, .int (hpI w1_3))] [] := by
    intro n1
    induction n1 with
    | zero => intro w1_2 w1_3 hv1_0 hv1_1 hv1_2 hv1_3 hm1; exfalso; omega
    | succ n1 ih1 =>
      intro w1_2 w1_3 hv1_0 hv1_1 hv1_2 hv1_3 hm1
      refine h_iload_n C dX9_comesTo_4 3 rfl rfl ?_
      refine h_aload_n C dX9_comesTo_5 0 rfl rfl ?_
      refine h_get C O9 32 kd_195 (by decide) wd_1288 dX9_comesTo_6 (hp_fvI (by rw [kd_195]; rfl) rfl) ?_
      obtain ⟨hr2a, hr2b⟩ := hI.b (bf_9_32 kd_195)
      generalize hg2 : σ 195 32 = r2 at hr2a hr2b ⊢
      refine h_icmp_ge (tgt := 36) C dX9_comesTo_9 (by decide) ⟨by omega, by omega⟩ ⟨by omega, by omega⟩ (fun h3 => ?_) (fun h3 => ?_)
      · refine h_iload_n C dX9_comesTo_36 2 rfl rfl ?_
        refine h_ireturn C hr hlk dX9_comesTo_37 ?_
        exact ⟨⟨_, rfl, ⟨by omega, by omega⟩⟩, rfl⟩
      · refine h_iload_n C dX9_comesTo_12 2 rfl rfl ?_
        refine h_aload_n C dX9_comesTo_13 0 rfl rfl ?_
        refine h_get C O9 30 kd_195 (by decide) wd_1286 dX9_comesTo_14 fr_195_30 ?_
        refine h_iload_n C dX9_comesTo_17 3 rfl rfl ?_
        refine h_iaload C dX9_comesTo_18 kd_208 (w1_3).toNat (Int.toNat_of_nonneg (by omega)) (by rw [ln_208]; omega) rfl ?_
        obtain ⟨hr4a, hr4b⟩ := hI.b (bo_208 _)
        generalize hg4 : σ 208 ((w1_3).toNat) = r4 at hr4a hr4b ⊢
        refine h_iload_n C dX9_comesTo_19 1 rfl rfl ?_
        refine h_icmp_ne (tgt := 27) C dX9_comesTo_20 (by decide) ⟨by omega, by omega⟩ ⟨by omega, by omega⟩ (fun h5 => ?_) (fun h5 => ?_)
        · refine h_iconst C dX9_comesTo_27 ?_
          refine h_iadd C dX9_comesTo_28 rfl ?_
          refine h_istore_n (lv' := [(2, .int (hpI (w1_2 + 0))), (0, .ref (z + 195)), (1, .int (hpI a0)), (3, .int (hpI w1_3))]) C dX9_comesTo_29 rfl (by decide) rfl ?_
          refine h_iinc (lv' := [(3, .int (hpI (w1_3 + 1))), (2, .int (hpI (w1_2 + 0))), (0, .ref (z + 195)), (1, .int (hpI a0))]) C dX9_comesTo_30 3 rfl rfl (by decide) rfl ?_
          refine h_goto (tgt := 4) C dX9_comesTo_33 (by decide) ?_
          exact hp_sub [2, 3, 1, 0] rfl (ih1 (w1_2 + 0) (w1_3 + 1) (by omega) (by omega) (by omega) (by omega) (by omega))
        · refine h_iconst C dX9_comesTo_23 ?_
          refine h_goto (tgt := 28) C dX9_comesTo_24 (by decide) ?_
          refine h_iadd C dX9_comesTo_28 rfl ?_
          refine hp_anyI (fun r6 hr6 => ?_)
          obtain ⟨hr6a, hr6b⟩ := hr6
          refine h_istore_n (lv' := [(2, .int (hpI r6)), (0, .ref (z + 195)), (1, .int (hpI a0)), (3, .int (hpI w1_3))]) C dX9_comesTo_29 rfl (by decide) rfl ?_
          refine h_iinc (lv' := [(3, .int (hpI (w1_3 + 1))), (2, .int (hpI r6)), (0, .ref (z + 195)), (1, .int (hpI a0))]) C dX9_comesTo_30 3 rfl rfl (by decide) rfl ?_
          refine h_goto (tgt := 4) C dX9_comesTo_33 (by decide) ?_
          exact hp_sub [2, 3, 1, 0] rfl (ih1 r6 (w1_3 + 1) (by omega) (by omega) (by omega) (by omega) (by omega))
  exact hp_sub [2, 3, 1, 0] rfl (L1 8589934592 0 0 (by omega) (by omega) (by omega) (by omega) (by omega))
abbrev rgX9_gardens : Room := { frames := 5, cells := 0, slots := 0, locals := 114 }
abbrev pgX9_gardens (z : Nat) (σ : hpMem) (a0 : Int) : Option Value → hpMem → Prop := fun r τ => (∃ x : Int, r = some (.int (hpI x)) ∧ (hpR x)) ∧ hpInv τ ∧ (∀ j i : Nat, (j < 195 ∨ j = 198 ∨ 213 ≤ j) → τ j i = σ j i)
set_option maxHeartbeats 4000000 in
set_option maxRecDepth 20000 in
theorem tgX9_gardens (l : Launch) (D : va_G) (cy : Nat → ClassId) (z : Nat) (σ : hpMem) (a0 : Int) (ha0 : hpR a0) (hI : hpInv σ) : hpM l D cy z yX9_gardens cX9_gardens 4 (some .int) rgX9_gardens [.ref (z + 195), .int (hpI a0)] σ (pgX9_gardens z σ a0) := by
  obtain ⟨ha01, ha02⟩ := ha0
  refine hp_met rfl (Nat.le_of_ble_eq_true rfl) (fun p e s m below meth c C Z hr hlk => ?_)
  have hF0 : ∀ j i : Nat, (j < 195 ∨ j = 198 ∨ 213 ≤ j) → σ j i = σ j i := fun j i _ => rfl
  refine h_aload_n C dX9_gardens_0 0 rfl rfl ?_
  refine h_iload_n C dX9_gardens_1 1 rfl rfl ?_
  refine h_callV (As := [.int (hpI a0)]) (rest := []) C Z yyX9_asksAll wd_1718 (tgX9_asksAll l D cy z _ a0 ⟨by omega, by omega⟩ hI) kd_195 rfl rfl ⟨rfl, rfl, Nat.le_of_ble_eq_true rfl, Nat.le_of_ble_eq_true rfl⟩ ⟨Nat.le_of_ble_eq_true rfl, Nat.le_of_ble_eq_true rfl⟩ (Nat.le_of_ble_eq_true rfl) dX9_gardens_2 (fun r1 τ1 hp1 => ?_)
  obtain ⟨x1, rfl, ⟨hx1a, hx1b⟩, hx1, hI1, hG1, hq1_0⟩ := hp1
  have hF1 : ∀ j i : Nat, (j < 195 ∨ j = 198 ∨ 213 ≤ j) → τ1 j i = σ j i := fun j i h_0 => (hG1 j i (by omega) (by omega) (by omega) (by omega) (by omega) (by omega) (by omega)).trans (hF0 j i h_0)
  show hpV _ _ _ _ _ _ _ _ _ _ _ _ _ _ _ _ _ _ _ _ _ (_ :: _)
  refine h_if_ne (tgt := 11) C dX9_gardens_5 (by decide) ⟨by omega, by omega⟩ (fun h2 => ?_) (fun h2 => ?_)
  · refine h_iconst C dX9_gardens_11 ?_
    refine h_istore_n (lv' := [(2, .int (hpI 0)), (0, .ref (z + 195)), (1, .int (hpI a0))]) C dX9_gardens_12 rfl (by decide) rfl ?_
    refine h_iconst C dX9_gardens_13 ?_
    refine h_istore_n (lv' := [(3, .int (hpI 0)), (2, .int (hpI 0)), (0, .ref (z + 195)), (1, .int (hpI a0))]) C dX9_gardens_14 rfl (by decide) rfl ?_
    have L3 : ∀ (n3 : Nat) (w3_2 : Int) (w3_3 : Int), -2147483648 ≤ w3_2 → w3_2 ≤ 2147483647 → 0 ≤ w3_3 → w3_3 ≤ 2147483647 → (4294967296 - w3_3) < (n3 : Int) → hpF p l e rgX9_gardens s m [.ref (z + 195), .int (hpI a0)] below meth c 4 D cy z (pgX9_gardens z σ a0) τ1 15 [(0, .ref (z + 195)), (1, .int (hpI a0)), (2, .int (hpI w3_2)), (3, .int (hpI w3_3))] [] := by
      intro n3
      induction n3 with
      | zero => intro w3_2 w3_3 hv3_0 hv3_1 hv3_2 hv3_3 hm3; exfalso; omega
      | succ n3 ih3 =>
        intro w3_2 w3_3 hv3_0 hv3_1 hv3_2 hv3_3 hm3
        refine h_iload_n C dX9_gardens_15 3 rfl rfl ?_
        refine h_aload_n C dX9_gardens_16 0 rfl rfl ?_
        refine h_get C O9 32 kd_195 (by decide) wd_1288 dX9_gardens_17 (hp_fvI (by rw [kd_195]; rfl) rfl) ?_
        obtain ⟨hr4a, hr4b⟩ := hI1.b (bf_9_32 kd_195)
        generalize hg4 : τ1 195 32 = r4 at hr4a hr4b ⊢
        refine h_icmp_ge (tgt := 45) C dX9_gardens_20 (by decide) ⟨by omega, by omega⟩ ⟨by omega, by omega⟩ (fun h5 => ?_) (fun h5 => ?_)
        · refine h_iload_n C dX9_gardens_45 2 rfl rfl ?_
          refine h_ireturn C hr hlk dX9_gardens_46 ?_
          exact ⟨⟨_, rfl, ⟨by omega, by omega⟩⟩, hI1, hF1⟩
        · refine h_iload_n C dX9_gardens_23 2 rfl rfl ?_
          refine h_aload_n C dX9_gardens_24 0 rfl rfl ?_
          refine h_iload_n C dX9_gardens_25 3 rfl rfl ?_
          refine h_callV (As := [.int (hpI w3_3)]) (rest := [.int (hpI w3_2)]) C Z yyX9_comesTo wd_1763 (tgX9_comesTo l D cy z _ w3_3 ⟨by omega, by omega⟩ hI1) kd_195 rfl rfl ⟨rfl, rfl, Nat.le_of_ble_eq_true rfl, Nat.le_of_ble_eq_true rfl⟩ ⟨Nat.le_of_ble_eq_true rfl, Nat.le_of_ble_eq_true rfl⟩ (Nat.le_of_ble_eq_true rfl) dX9_gardens_26 (fun r6 τ6 hp6 => ?_)
          obtain ⟨⟨x6, rfl, ⟨hx6a, hx6b⟩⟩, rfl⟩ := hp6
          show hpV _ _ _ _ _ _ _ _ _ _ _ _ _ _ _ _ _ _ _ _ _ (_ :: _)
          refine h_if_ne (tgt := 36) C dX9_gardens_29 (by decide) ⟨by omega, by omega⟩ (fun h7 => ?_) (fun h7 => ?_)
          · refine h_iconst C dX9_gardens_36 ?_
            refine h_iadd C dX9_gardens_37 rfl ?_
            refine h_istore_n (lv' := [(2, .int (hpI (w3_2 + 0))), (0, .ref (z + 195)), (1, .int (hpI a0)), (3, .int (hpI w3_3))]) C dX9_gardens_38 rfl (by decide) rfl ?_
            refine h_iinc (lv' := [(3, .int (hpI (w3_3 + 1))), (2, .int (hpI (w3_2 + 0))), (0, .ref (z + 195)), (1, .int (hpI a0))]) C dX9_gardens_39 3 rfl rfl (by decide) rfl ?_
            refine h_goto (tgt := 15) C dX9_gardens_42 (by decide) ?_
            exact hp_sub [2, 3, 1, 0] rfl (ih3 (w3_2 + 0) (w3_3 + 1) (by omega) (by omega) (by omega) (by omega) (by omega))
          · refine h_iconst C dX9_gardens_32 ?_
            refine h_goto (tgt := 37) C dX9_gardens_33 (by decide) ?_
            refine h_iadd C dX9_gardens_37 rfl ?_
            refine hp_anyI (fun r8 hr8 => ?_)
            obtain ⟨hr8a, hr8b⟩ := hr8
            refine h_istore_n (lv' := [(2, .int (hpI r8)), (0, .ref (z + 195)), (1, .int (hpI a0)), (3, .int (hpI w3_3))]) C dX9_gardens_38 rfl (by decide) rfl ?_
            refine h_iinc (lv' := [(3, .int (hpI (w3_3 + 1))), (2, .int (hpI r8)), (0, .ref (z + 195)), (1, .int (hpI a0))]) C dX9_gardens_39 3 rfl rfl (by decide) rfl ?_
            refine h_goto (tgt := 15) C dX9_gardens_42 (by decide) ?_
            exact hp_sub [2, 3, 1, 0] rfl (ih3 r8 (w3_3 + 1) (by omega) (by omega) (by omega) (by omega) (by omega))
    exact hp_sub [2, 3, 1, 0] rfl (L3 8589934592 0 0 (by omega) (by omega) (by omega) (by omega) (by omega))
  · refine h_bipush C dX9_gardens_8 (by decide) ?_
    refine h_ireturn C hr hlk dX9_gardens_10 ?_
    exact ⟨⟨_, rfl, ⟨by decide, by decide⟩⟩, hI1, hF1⟩
abbrev rgX9_rings : Room := { frames := 5, cells := 0, slots := 0, locals := 114 }
abbrev pgX9_rings (z : Nat) (σ : hpMem) (a0 : Int) : Option Value → hpMem → Prop := fun r τ => (∃ x : Int, r = some (.int (hpI x)) ∧ (hpR x)) ∧ hpInv τ ∧ (∀ j i : Nat, (j < 195 ∨ j = 198 ∨ 213 ≤ j) → τ j i = σ j i)
set_option maxHeartbeats 4000000 in
set_option maxRecDepth 20000 in
theorem tgX9_rings (l : Launch) (D : va_G) (cy : Nat → ClassId) (z : Nat) (σ : hpMem) (a0 : Int) (ha0 : hpR a0) (hI : hpInv σ) : hpM l D cy z yX9_rings cX9_rings 6 (some .int) rgX9_rings [.ref (z + 195), .int (hpI a0)] σ (pgX9_rings z σ a0) := by
  obtain ⟨ha01, ha02⟩ := ha0
  refine hp_met rfl (Nat.le_of_ble_eq_true rfl) (fun p e s m below meth c C Z hr hlk => ?_)
  have hF0 : ∀ j i : Nat, (j < 195 ∨ j = 198 ∨ 213 ≤ j) → σ j i = σ j i := fun j i _ => rfl
  refine h_aload_n C dX9_rings_0 0 rfl rfl ?_
  refine h_iload_n C dX9_rings_1 1 rfl rfl ?_
  refine h_callV (As := [.int (hpI a0)]) (rest := []) C Z yyX9_asksAll wd_1718 (tgX9_asksAll l D cy z _ a0 ⟨by omega, by omega⟩ hI) kd_195 rfl rfl ⟨rfl, rfl, Nat.le_of_ble_eq_true rfl, Nat.le_of_ble_eq_true rfl⟩ ⟨Nat.le_of_ble_eq_true rfl, Nat.le_of_ble_eq_true rfl⟩ (Nat.le_of_ble_eq_true rfl) dX9_rings_2 (fun r1 τ1 hp1 => ?_)
  obtain ⟨x1, rfl, ⟨hx1a, hx1b⟩, hx1, hI1, hG1, hq1_0⟩ := hp1
  have hF1 : ∀ j i : Nat, (j < 195 ∨ j = 198 ∨ 213 ≤ j) → τ1 j i = σ j i := fun j i h_0 => (hG1 j i (by omega) (by omega) (by omega) (by omega) (by omega) (by omega) (by omega)).trans (hF0 j i h_0)
  show hpV _ _ _ _ _ _ _ _ _ _ _ _ _ _ _ _ _ _ _ _ _ (_ :: _)
  have b32 := hI1.b (bf_9_32 kd_195)
  refine h_if_ne (tgt := 11) C dX9_rings_5 (by decide) ⟨by omega, by omega⟩ (fun h2 => ?_) (fun h2 => ?_)
  · have hLS := hq1_0 (by omega)
    refine h_iconst C dX9_rings_11 ?_
    refine h_istore_n (lv' := [(2, .int (hpI 0)), (0, .ref (z + 195)), (1, .int (hpI a0))]) C dX9_rings_12 rfl (by decide) rfl ?_
    refine h_iconst C dX9_rings_13 ?_
    refine h_istore_n (lv' := [(3, .int (hpI 0)), (2, .int (hpI 0)), (0, .ref (z + 195)), (1, .int (hpI a0))]) C dX9_rings_14 rfl (by decide) rfl ?_
    have L3 : ∀ (n3 : Nat) (w3_2 : Int) (w3_3 : Int), -2147483648 ≤ w3_2 → w3_2 ≤ 2147483647 → 0 ≤ w3_3 → w3_3 ≤ 2147483647 → (4294967296 - w3_3) < (n3 : Int) → hpF p l e rgX9_rings s m [.ref (z + 195), .int (hpI a0)] below meth c 6 D cy z (pgX9_rings z σ a0) τ1 15 [(0, .ref (z + 195)), (1, .int (hpI a0)), (2, .int (hpI w3_2)), (3, .int (hpI w3_3))] [] := by
      intro n3
      induction n3 with
      | zero => intro w3_2 w3_3 hv3_0 hv3_1 hv3_2 hv3_3 hm3; exfalso; omega
      | succ n3 ih3 =>
        intro w3_2 w3_3 hv3_0 hv3_1 hv3_2 hv3_3 hm3
        refine h_iload_n C dX9_rings_15 3 rfl rfl ?_
        refine h_aload_n C dX9_rings_16 0 rfl rfl ?_
        refine h_get C O9 32 kd_195 (by decide) wd_1288 dX9_rings_17 (hp_fvI (by rw [kd_195]; rfl) rfl) ?_
        obtain ⟨hr4a, hr4b⟩ := hI1.b (bf_9_32 kd_195)
        generalize hg4 : τ1 195 32 = r4 at hr4a hr4b ⊢
        refine h_icmp_ge (tgt := 93) C dX9_rings_20 (by decide) ⟨by omega, by omega⟩ ⟨by omega, by omega⟩ (fun h5 => ?_) (fun h5 => ?_)
        · refine h_iload_n C dX9_rings_93 2 rfl rfl ?_
          refine h_ireturn C hr hlk dX9_rings_94 ?_
          exact ⟨⟨_, rfl, ⟨by omega, by omega⟩⟩, hI1, hF1⟩
        · refine h_aload_n C dX9_rings_23 0 rfl rfl ?_
          refine h_get C O9 31 kd_195 (by decide) wd_1287 dX9_rings_24 fr_195_31 ?_
          refine h_iload_n C dX9_rings_27 3 rfl rfl ?_
          refine h_iaload C dX9_rings_28 kd_209 (w3_3).toNat (Int.toNat_of_nonneg (by omega)) (by rw [ln_209]; omega) rfl ?_
          obtain ⟨hr6a, hr6b⟩ := hI1.b (bo_209 _)
          generalize hg6 : τ1 209 ((w3_3).toNat) = r6 at hr6a hr6b ⊢
          refine h_if_le (tgt := 35) C dX9_rings_29 (by decide) ⟨by omega, by omega⟩ (fun h7 => ?_) (fun h7 => ?_)
          · obtain ⟨mm, hmm1, hmm2⟩ := hLS.2.2.2 (w3_3).toNat (by omega) (by omega)
            have hb35 := hLS.2.2.1
            refine h_iload_n C dX9_rings_35 3 rfl rfl ?_
            refine h_istore (lv' := [(4, .int (hpI w3_3)), (0, .ref (z + 195)), (1, .int (hpI a0)), (2, .int (hpI w3_2)), (3, .int (hpI w3_3))]) C dX9_rings_36 (by decide) rfl ?_
            refine h_aload_n C dX9_rings_38 1 rfl rfl ?_
            refine h_get C O9 30 kd_195 (by decide) wd_1286 dX9_rings_39 fr_195_30 ?_
            refine h_iload_n C dX9_rings_42 4 rfl rfl ?_
            refine h_iaload C dX9_rings_43 kd_208 (w3_3).toNat (Int.toNat_of_nonneg (by omega)) (by rw [ln_208]; omega) rfl ?_
            obtain ⟨hr8a, hr8b⟩ := hI1.b (bo_208 _)
            generalize hg8 : τ1 208 ((w3_3).toNat) = r8 at hr8a hr8b ⊢
            have hb44 := hb35 (w3_3).toNat (by omega)
            refine h_istore (lv' := [(5, .int (hpI r8)), (4, .int (hpI w3_3)), (0, .ref (z + 195)), (1, .int (hpI a0)), (2, .int (hpI w3_2)), (3, .int (hpI w3_3))]) C dX9_rings_44 (by decide) rfl ?_
            have L9 : ∀ (n9 : Nat) (w9_4 : Int) (w9_5 : Int) (ss : Nat), -2147483648 ≤ w9_4 → w9_4 ≤ 2147483647 → 0 ≤ w9_5 → w9_5 ≤ 134 → w9_5 < τ1 195 32 → (w9_5 = ((hpJt (τ1 208) (w3_3).toNat (ss + 1) : Nat) : Int)) → (ss + 1 ≤ mm) → ((mm : Int) - (ss : Int)) < (n9 : Int) → hpF p l e rgX9_rings s m [.ref (z + 195), .int (hpI a0)] below meth c 6 D cy z (pgX9_rings z σ a0) τ1 46 [(0, .ref (z + 195)), (1, .int (hpI a0)), (2, .int (hpI w3_2)), (3, .int (hpI w3_3)), (4, .int (hpI w9_4)), (5, .int (hpI w9_5))] [] := by
              intro n9
              induction n9 with
              | zero => intro w9_4 w9_5 ss hv9_0 hv9_1 hv9_2 hv9_3 hv9_4 hM9_0 hM9_1 hm9; exfalso; omega
              | succ n9 ih9 =>
                intro w9_4 w9_5 ss hv9_0 hv9_1 hv9_2 hv9_3 hv9_4 hM9_0 hM9_1 hm9
                refine h_iload C dX9_rings_46 5 rfl ?_
                refine h_iload_n C dX9_rings_48 3 rfl rfl ?_
                refine h_icmp_eq (tgt := 73) C dX9_rings_49 (by decide) ⟨by omega, by omega⟩ ⟨by omega, by omega⟩ (fun h10 => ?_) (fun h10 => ?_)
                · refine h_iload_n C dX9_rings_73 2 rfl rfl ?_
                  refine h_iload C dX9_rings_74 4 rfl ?_
                  refine h_iload_n C dX9_rings_76 3 rfl rfl ?_
                  refine h_icmp_ne (tgt := 84) C dX9_rings_77 (by decide) ⟨by omega, by omega⟩ ⟨by omega, by omega⟩ (fun h11 => ?_) (fun h11 => ?_)
                  · refine h_iconst C dX9_rings_84 ?_
                    refine h_iadd C dX9_rings_85 rfl ?_
                    refine h_istore_n (lv' := [(2, .int (hpI (w3_2 + 0))), (0, .ref (z + 195)), (1, .int (hpI a0)), (3, .int (hpI w3_3)), (4, .int (hpI w9_4)), (5, .int (hpI w9_5))]) C dX9_rings_86 rfl (by decide) rfl ?_
                    refine h_iinc (lv' := [(3, .int (hpI (w3_3 + 1))), (2, .int (hpI (w3_2 + 0))), (0, .ref (z + 195)), (1, .int (hpI a0)), (4, .int (hpI w9_4)), (5, .int (hpI w9_5))]) C dX9_rings_87 3 rfl rfl (by decide) rfl ?_
                    refine h_goto (tgt := 15) C dX9_rings_90 (by decide) ?_
                    exact hp_sub [2, 3, 1, 0] rfl (ih3 (w3_2 + 0) (w3_3 + 1) (by omega) (by omega) (by omega) (by omega) (by omega))
                  · refine h_iconst C dX9_rings_80 ?_
                    refine h_goto (tgt := 85) C dX9_rings_81 (by decide) ?_
                    refine h_iadd C dX9_rings_85 rfl ?_
                    refine hp_anyI (fun r12 hr12 => ?_)
                    obtain ⟨hr12a, hr12b⟩ := hr12
                    refine h_istore_n (lv' := [(2, .int (hpI r12)), (0, .ref (z + 195)), (1, .int (hpI a0)), (3, .int (hpI w3_3)), (4, .int (hpI w9_4)), (5, .int (hpI w9_5))]) C dX9_rings_86 rfl (by decide) rfl ?_
                    refine h_iinc (lv' := [(3, .int (hpI (w3_3 + 1))), (2, .int (hpI r12)), (0, .ref (z + 195)), (1, .int (hpI a0)), (4, .int (hpI w9_4)), (5, .int (hpI w9_5))]) C dX9_rings_87 3 rfl rfl (by decide) rfl ?_
                    refine h_goto (tgt := 15) C dX9_rings_90 (by decide) ?_
                    exact hp_sub [2, 3, 1, 0] rfl (ih3 r12 (w3_3 + 1) (by omega) (by omega) (by omega) (by omega) (by omega))
                · refine h_iload C dX9_rings_52 4 rfl ?_
                  refine h_iload C dX9_rings_54 5 rfl ?_
                  refine h_mmin C wd_1437 wd_514 wd_515 wd_15 dX9_rings_56 ⟨by omega, by omega⟩ ⟨by omega, by omega⟩ (Nat.le_of_ble_eq_true rfl) (Nat.le_of_ble_eq_true rfl) ⟨Nat.le_of_ble_eq_true rfl, Nat.le_of_ble_eq_true rfl⟩ (fun r13 hr13a hr13b hr13c => ?_)
                  refine h_istore (lv' := [(4, .int (hpI r13)), (0, .ref (z + 195)), (1, .int (hpI a0)), (2, .int (hpI w3_2)), (3, .int (hpI w3_3)), (5, .int (hpI w9_5))]) C dX9_rings_59 (by decide) rfl ?_
                  have hb61 := hb35 (w9_5).toNat (by omega)
                  refine h_aload_n C dX9_rings_61 1 rfl rfl ?_
                  refine h_get C O9 30 kd_195 (by decide) wd_1286 dX9_rings_62 fr_195_30 ?_
                  refine h_iload C dX9_rings_65 5 rfl ?_
                  refine h_iaload C dX9_rings_67 kd_208 (w9_5).toNat (Int.toNat_of_nonneg (by omega)) (by rw [ln_208]; omega) rfl ?_
                  obtain ⟨hr14a, hr14b⟩ := hI1.b (bo_208 _)
                  generalize hg14 : τ1 208 ((w9_5).toNat) = r14 at hr14a hr14b ⊢
                  refine h_istore (lv' := [(5, .int (hpI r14)), (4, .int (hpI r13)), (0, .ref (z + 195)), (1, .int (hpI a0)), (2, .int (hpI w3_2)), (3, .int (hpI w3_3))]) C dX9_rings_68 (by decide) rfl ?_
                  refine h_goto (tgt := 46) C dX9_rings_70 (by decide) ?_
                  exact hp_sub [2, 3, 4, 5, 1, 0] rfl (ih9 r13 r14 (ss + 1) (by omega) (by omega) (by omega) (by omega) (by omega) (by have e1 : hpJt (τ1 208) (w3_3).toNat (ss + 1 + 1) = (τ1 208 (hpJt (τ1 208) (w3_3).toNat (ss + 1))).toNat := rfl; rw [e1, show hpJt (τ1 208) (w3_3).toNat (ss + 1) = (w9_5).toNat by omega]; omega) (by have z := hM9_0; have hne : ss + 1 ≠ mm := (fun e => by rw [e, hmm2] at z; omega); omega) (by omega))
            exact hp_sub [2, 3, 4, 5, 1, 0] rfl (L9 (mm + 1) w3_3 r8 0 (by omega) (by omega) (by omega) (by omega) (by omega) (by show _ = (((τ1 208 (w3_3).toNat).toNat : Nat) : Int); omega) hmm1 (by omega))
          · refine h_goto (tgt := 87) C dX9_rings_32 (by decide) ?_
            refine h_iinc (lv' := [(3, .int (hpI (w3_3 + 1))), (0, .ref (z + 195)), (1, .int (hpI a0)), (2, .int (hpI w3_2))]) C dX9_rings_87 3 rfl rfl (by decide) rfl ?_
            refine h_goto (tgt := 15) C dX9_rings_90 (by decide) ?_
            exact hp_sub [1, 2, 3, 0] rfl (ih3 w3_2 (w3_3 + 1) (by omega) (by omega) (by omega) (by omega) (by omega))
    exact hp_sub [2, 3, 1, 0] rfl (L3 8589934592 0 0 (by omega) (by omega) (by omega) (by omega) (by omega))
  · refine h_bipush C dX9_rings_8 (by decide) ?_
    refine h_ireturn C hr hlk dX9_rings_10 ?_
    exact ⟨⟨_, rfl, ⟨by decide, by decide⟩⟩, hI1, hF1⟩
abbrev rgX9_askRow : Room := { frames := 5, cells := 0, slots := 0, locals := 114 }
abbrev pgX9_askRow (z : Nat) (σ : hpMem) (a0 : Int) : Option Value → hpMem → Prop := fun r τ => (∃ x : Int, r = some (.int (hpI x)) ∧ (hpR x) ∧ (x ≤ 0) ∧ hpInv τ ∧ (∀ j i : Nat, (j < 195 ∨ j = 198 ∨ 213 ≤ j) → τ j i = σ j i) ∧ (x = 0 → 0 ≤ τ 195 33 ∧ τ 195 33 < τ 195 32 ∧ τ 195 33 ≤ 134))
set_option maxHeartbeats 4000000 in
set_option maxRecDepth 20000 in
theorem tgX9_askRow (l : Launch) (D : va_G) (cy : Nat → ClassId) (z : Nat) (σ : hpMem) (a0 : Int) (ha0 : hpR a0) (hI : hpInv σ) : hpM l D cy z yX9_askRow cX9_askRow 6 (some .int) rgX9_askRow [.ref (z + 195), .int (hpI a0)] σ (pgX9_askRow z σ a0) := by
  obtain ⟨ha01, ha02⟩ := ha0
  refine hp_met rfl (Nat.le_of_ble_eq_true rfl) (fun p e s m below meth c C Z hr hlk => ?_)
  have hF0 : ∀ j i : Nat, (j < 195 ∨ j = 198 ∨ 213 ≤ j) → σ j i = σ j i := fun j i _ => rfl
  refine h_iload_n C dX9_askRow_0 1 rfl rfl ?_
  refine h_callS (As := [.int (hpI a0)]) (rest := []) C Z yyX9_isSlot rfl wd_1779 (tgX9_isSlot l D cy z _ a0 ⟨by omega, by omega⟩ hI) rfl rfl ⟨rfl, rfl, Nat.le_of_ble_eq_true rfl, Nat.le_of_ble_eq_true rfl⟩ ⟨Nat.le_of_ble_eq_true rfl, Nat.le_of_ble_eq_true rfl⟩ (Nat.le_of_ble_eq_true rfl) dX9_askRow_1 (fun r1 τ1 hp1 => ?_)
  obtain ⟨⟨x1, rfl, ⟨hx1a, hx1b⟩, hx1⟩, rfl⟩ := hp1
  show hpV _ _ _ _ _ _ _ _ _ _ _ _ _ _ _ _ _ _ _ _ _ (_ :: _)
  refine h_if_eq (tgt := 14) C dX9_askRow_4 (by decide) ⟨by omega, by omega⟩ (fun h2 => ?_) (fun h2 => ?_)
  · refine h_bipush C dX9_askRow_14 (by decide) ?_
    refine h_ireturn C hr hlk dX9_askRow_16 ?_
    exact ⟨_, rfl, ⟨by decide, by decide⟩, by omega, hI, hF0, fun e => by exfalso; omega⟩
  · refine h_aload_n C dX9_askRow_7 0 rfl rfl ?_
    refine h_callV (As := []) (rest := []) C Z yyX9_isMoor wd_1571 (tgX9_isMoor l D cy z _ hI) kd_195 rfl rfl ⟨rfl, rfl, Nat.le_of_ble_eq_true rfl, Nat.le_of_ble_eq_true rfl⟩ ⟨Nat.le_of_ble_eq_true rfl, Nat.le_of_ble_eq_true rfl⟩ (Nat.le_of_ble_eq_true rfl) dX9_askRow_8 (fun r3 τ3 hp3 => ?_)
    obtain ⟨⟨x3, rfl, ⟨hx3a, hx3b⟩, hx3⟩, rfl⟩ := hp3
    show hpV _ _ _ _ _ _ _ _ _ _ _ _ _ _ _ _ _ _ _ _ _ (_ :: _)
    refine h_if_ne (tgt := 17) C dX9_askRow_11 (by decide) ⟨by omega, by omega⟩ (fun h4 => ?_) (fun h4 => ?_)
    · refine h_aload_n C dX9_askRow_17 0 rfl rfl ?_
      refine h_get C O9 42 kd_195 (by decide) wd_1298 dX9_askRow_18 fr_195_42 ?_
      refine h_iload_n C dX9_askRow_21 1 rfl rfl ?_
      refine h_iaload C dX9_askRow_22 kd_213 (a0).toNat (Int.toNat_of_nonneg (by omega)) (by rw [ln_213]; omega) rfl ?_
      obtain ⟨hr5a, hr5b⟩ := hI.b (bo_213 _)
      generalize hg5 : σ 213 ((a0).toNat) = r5 at hr5a hr5b ⊢
      refine h_iconst C dX9_askRow_23 ?_
      refine h_icmp_ne (tgt := 30) C dX9_askRow_24 (by decide) ⟨by omega, by omega⟩ ⟨by decide, by decide⟩ (fun h6 => ?_) (fun h6 => ?_)
      · refine h_lconst C 0 dX9_askRow_30 (by decide) ?_
        refine h_lstore_n (lv' := [(2, .long (hpJ 0)), (0, .ref (z + 195)), (1, .int (hpI a0))]) C dX9_askRow_31 rfl (by decide) rfl ?_
        refine h_aload_n C dX9_askRow_32 1 rfl rfl ?_
        refine h_get C O9 42 kd_195 (by decide) wd_1298 dX9_askRow_33 fr_195_42 ?_
        refine h_iload_n C dX9_askRow_36 2 rfl rfl ?_
        refine h_iaload C dX9_askRow_37 kd_213 (a0).toNat (Int.toNat_of_nonneg (by omega)) (by rw [ln_213]; omega) rfl ?_
        rw [hg5]
        refine h_if_le (tgt := 45) C dX9_askRow_38 (by decide) ⟨by omega, by omega⟩ (fun h7 => ?_) (fun h7 => ?_)
        · refine h_iconst C dX9_askRow_45 ?_
          refine h_istore (lv' := [(4, .int (hpI 0)), (2, .long (hpJ 0)), (0, .ref (z + 195)), (1, .int (hpI a0))]) C dX9_askRow_46 (by decide) rfl ?_
          refine h_iconst C dX9_askRow_48 ?_
          refine h_istore (lv' := [(5, .int (hpI 0)), (4, .int (hpI 0)), (2, .long (hpJ 0)), (0, .ref (z + 195)), (1, .int (hpI a0))]) C dX9_askRow_49 (by decide) rfl ?_
          have L8 : ∀ (n8 : Nat) (w8_2 : Int) (w8_4 : Int) (w8_5 : Int), 0 ≤ w8_2 → w8_2 ≤ 840 → 0 ≤ w8_4 → w8_4 ≤ 1 → 0 ≤ w8_5 → w8_5 ≤ 60 → w8_2 ≤ 14 * w8_5 → (w8_4 = 0 ∨ w8_5 ≤ w8_2) → (w8_4 = 0 ∨ 1 ≤ σ 213 a0.toNat) → (w8_4 = 0 ∨ w8_5 ≤ σ 213 a0.toNat) → (w8_4 = 1 → (∀ q : Nat, (q : Int) < w8_5 → 1 ≤ σ 215 (60 * a0 + (q : Int)).toNat ∧ σ 215 (60 * a0 + (q : Int)).toNat ≤ 14) ∧ w8_2 = ((hpQl σ a0 w8_5.toNat).sum : Int)) → (4294967296 - w8_5) < (n8 : Int) → hpF p l e rgX9_askRow s m [.ref (z + 195), .int (hpI a0)] below meth c 6 D cy z (pgX9_askRow z σ a0) σ 51 [(0, .ref (z + 195)), (1, .int (hpI a0)), (2, .long (hpJ w8_2)), (4, .int (hpI w8_4)), (5, .int (hpI w8_5))] [] := by
            intro n8
            induction n8 with
            | zero => intro w8_2 w8_4 w8_5 hv8_0 hv8_1 hv8_2 hv8_3 hv8_4 hv8_5 hv8_6 hv8_7 hv8_8 hv8_9 hM8_0 hm8; exfalso; omega
            | succ n8 ih8 =>
              intro w8_2 w8_4 w8_5 hv8_0 hv8_1 hv8_2 hv8_3 hv8_4 hv8_5 hv8_6 hv8_7 hv8_8 hv8_9 hM8_0 hm8
              refine h_iload C dX9_askRow_51 4 rfl ?_
              refine h_aload_n C dX9_askRow_53 0 rfl rfl ?_
              refine h_get C O9 42 kd_195 (by decide) wd_1298 dX9_askRow_54 fr_195_42 ?_
              refine h_iload_n C dX9_askRow_57 1 rfl rfl ?_
              refine h_iaload C dX9_askRow_58 kd_213 (a0).toNat (Int.toNat_of_nonneg (by omega)) (by rw [ln_213]; omega) rfl ?_
              rw [hg5]
              refine h_icmp_ge (tgt := 108) C dX9_askRow_59 (by decide) ⟨by omega, by omega⟩ ⟨by omega, by omega⟩ (fun h9 => ?_) (fun h9 => ?_)
              · refine h_iload C dX9_askRow_108 3 rfl ?_
                refine h_if_eq (tgt := 121) C dX9_askRow_110 (by decide) ⟨by omega, by omega⟩ (fun h10 => ?_) (fun h10 => ?_)
                · refine h_bipush C dX9_askRow_121 (by decide) ?_
                  refine h_ireturn C hr hlk dX9_askRow_123 ?_
                  exact ⟨_, rfl, ⟨by decide, by decide⟩, by omega, hI, hF0, fun e => by exfalso; omega⟩
                · refine h_lload_n C dX9_askRow_113 2 rfl rfl ?_
                  refine h_ldc2 C 14 wd_1722 (by decide) dX9_askRow_114 ?_
                  refine h_lcmp C dX9_askRow_117 ⟨by omega, by omega⟩ ⟨by decide, by decide⟩ (fun r11 hr11 => ?_)
                  refine h_if_le (tgt := 124) C dX9_askRow_118 (by decide) ⟨by omega, by omega⟩ (fun h12 => ?_) (fun h12 => ?_)
                  · obtain ⟨hgood, hsum⟩ := hM8_0 (by omega)
                    have ew : w8_5 = σ 213 a0.toNat := by omega
                    refine h_aload_n C dX9_askRow_124 0 rfl rfl ?_
                    refine h_lload_n C dX9_askRow_125 2 rfl rfl ?_
                    refine h_l2i C dX9_askRow_126 ?_
                    refine h_callV (As := [.int (hpI w8_2)]) (rest := []) C Z yyX9_asksAll wd_1718 (tgX9_asksAll l D cy z _ w8_2 ⟨by omega, by omega⟩ hI) kd_195 rfl rfl ⟨rfl, rfl, Nat.le_of_ble_eq_true rfl, Nat.le_of_ble_eq_true rfl⟩ ⟨Nat.le_of_ble_eq_true rfl, Nat.le_of_ble_eq_true rfl⟩ (Nat.le_of_ble_eq_true rfl) dX9_askRow_127 (fun r13 τ13 hp13 => ?_)
                    obtain ⟨x13, rfl, ⟨hx13a, hx13b⟩, hx13, hI13, hG13, hq13_0⟩ := hp13
                    have hF13 : ∀ j i : Nat, (j < 195 ∨ j = 198 ∨ 213 ≤ j) → τ13 j i = σ j i := fun j i h_0 => (hG13 j i (by omega) (by omega) (by omega) (by omega) (by omega) (by omega) (by omega)).trans (hF0 j i h_0)
                    have hg14 : τ13 213 ((a0).toNat) = r5 := (hG13 213 ((a0).toNat) (by omega) (by omega) (by omega) (by omega) (by omega) (by omega) (by omega)).trans hg5
                    show hpV _ _ _ _ _ _ _ _ _ _ _ _ _ _ _ _ _ _ _ _ _ (_ :: _)
                    have hLS := hq13_0 (by omega)
                    have b6 : σ 196 6 = σ 196 6 := rfl
                    have k127 : ∀ q : Nat, τ13 215 q = σ 215 q := fun q => hF13 215 q (by omega)
                    have k128 : ∀ q : Nat, τ13 213 q = σ 213 q := fun q => hF13 213 q (by omega)
                    refine h_pop C rfl dX9_askRow_130 ?_
                    refine h_aload_n C dX9_askRow_131 0 rfl rfl ?_
                    refine h_bipush C dX9_askRow_132 (by decide) ?_
                    refine h_callV (As := [.int (hpI 19)]) (rest := []) C Z yyX9_empty wd_1528 (tgX9_empty l D cy z _ 19 ⟨by decide, by decide⟩ hI13 (by omega)) kd_195 rfl rfl ⟨rfl, rfl, Nat.le_of_ble_eq_true rfl, Nat.le_of_ble_eq_true rfl⟩ ⟨Nat.le_of_ble_eq_true rfl, Nat.le_of_ble_eq_true rfl⟩ (Nat.le_of_ble_eq_true rfl) dX9_askRow_134 (fun r15 τ15 hp15 => ?_)
                    obtain ⟨rfl, hI15, hG15, hq15_0⟩ := hp15
                    have hF15 : ∀ j i : Nat, (j < 195 ∨ j = 198 ∨ 213 ≤ j) → τ15 j i = σ j i := fun j i h_0 => (hG15 j i (by omega)).trans (hF13 j i h_0)
                    show hpV _ _ _ _ _ _ _ _ _ _ _ _ _ _ _ _ _ _ _ _ _ []
                    refine h_iconst C dX9_askRow_137 ?_
                    refine h_istore (lv' := [(5, .int (hpI 0)), (0, .ref (z + 195)), (1, .int (hpI a0)), (2, .long (hpJ w8_2)), (4, .int (hpI w8_4))]) C dX9_askRow_138 (by decide) rfl ?_
                    have L16 : ∀ (n16 : Nat) (τ16 : hpMem) (w16_5 : Int), 0 ≤ w16_5 → w16_5 ≤ 60 → w16_5 ≤ w8_5 → hpInv τ16 → (∀ j i : Nat, (j < 195 ∨ j = 198 ∨ 213 ≤ j) → τ16 j i = σ j i) → (hpRw (τ16 202) 19 (hpQl σ a0 w16_5.toNat)) → (hpLq τ16 (w8_2).toNat) → (4294967296 - w16_5) < (n16 : Int) → hpF p l e rgX9_askRow s m [.ref (z + 195), .int (hpI a0)] below meth c 6 D cy z (pgX9_askRow z σ a0) τ16 140 [(0, .ref (z + 195)), (1, .int (hpI a0)), (2, .long (hpJ w8_2)), (4, .int (hpI w8_4)), (5, .int (hpI w16_5))] [] := by
                      intro n16
                      induction n16 with
                      | zero => intro τ16 w16_5 hv16_0 hv16_1 hv16_2 hI16 hF16 hM16_0 hM16_1 hm16; exfalso; omega
                      | succ n16 ih16 =>
                        intro τ16 w16_5 hv16_0 hv16_1 hv16_2 hI16 hF16 hM16_0 hM16_1 hm16
                        refine h_iload C dX9_askRow_140 4 rfl ?_
                        refine h_aload_n C dX9_askRow_142 0 rfl rfl ?_
                        refine h_get C O9 42 kd_195 (by decide) wd_1298 dX9_askRow_143 fr_195_42 ?_
                        refine h_iload_n C dX9_askRow_146 1 rfl rfl ?_
                        refine h_iaload C dX9_askRow_147 kd_213 (a0).toNat (Int.toNat_of_nonneg (by omega)) (by rw [ln_213]; omega) rfl ?_
                        obtain ⟨hr17a, hr17b⟩ := hI16.b (bo_213 _)
                        generalize hg17 : τ16 213 ((a0).toNat) = r17 at hr17a hr17b ⊢
                        have hq147 := hF16 213 a0.toNat (by omega)
                        refine h_icmp_ge (tgt := 171) C dX9_askRow_148 (by decide) ⟨by omega, by omega⟩ ⟨by omega, by omega⟩ (fun h18 => ?_) (fun h18 => ?_)
                        · refine h_aload_n C dX9_askRow_171 0 rfl rfl ?_
                          refine h_aload_n C dX9_askRow_172 0 rfl rfl ?_
                          refine h_bipush C dX9_askRow_173 (by decide) ?_
                          have ew2 : (w16_5).toNat = (w8_5).toNat := by omega
                          have hsz : (hpQl σ a0 (w16_5).toNat).sum = (w8_2).toNat := by rw [ew2]; omega
                          have hinQ : hpQl σ a0 (w16_5).toNat ∈ hpAl (w8_2).toNat := hpAl_in (by omega) (by omega) hsz (hpQl_pos _ _ _) (hpQl_so _ _ _)
                          have hlenQ : (hpQl σ a0 (w16_5).toNat).length ≤ 700 := by have z := hp_ls (hpQl_pos σ a0 (w16_5).toNat); omega
                          refine h_callV (As := [.int (hpI 19)]) (rest := [.ref (z + 195)]) C Z yyX9_findListed wd_1739 (tgX9_findListed l D cy z _ 19 ⟨by decide, by decide⟩ hI16 ((hpAl (w8_2).toNat)) ((hpQl σ a0 (w16_5).toNat)) (by omega) hM16_1.2.1 hM16_1.1 hM16_0 hlenQ) kd_195 rfl rfl ⟨rfl, rfl, Nat.le_of_ble_eq_true rfl, Nat.le_of_ble_eq_true rfl⟩ ⟨Nat.le_of_ble_eq_true rfl, Nat.le_of_ble_eq_true rfl⟩ (Nat.le_of_ble_eq_true rfl) dX9_askRow_175 (fun r19 τ19 hp19 => ?_)
                          obtain ⟨x19, rfl, ⟨hx19a, hx19b⟩, hx19, hI19, hG19, hq19_0⟩ := hp19
                          have hF19 : ∀ j i : Nat, (j < 195 ∨ j = 198 ∨ 213 ≤ j) → τ19 j i = σ j i := fun j i h_0 => (hG19 j i (by omega)).trans (hF16 j i h_0)
                          show hpV _ _ _ _ _ _ _ _ _ _ _ _ _ _ _ _ _ _ _ _ _ (_ :: _)
                          refine h_put C O9 33 kd_195 (by decide) rfl wd_1289 dX9_askRow_178 rfl rfl (hp_fvI (by rw [kd_195]; rfl) hpu_at) ?_
                          obtain ⟨τ20, e20⟩ : ∃ μ : hpMem, μ = hpw τ19 195 33 x19 := ⟨_, rfl⟩
                          rw [← e20]
                          have hI20 : hpInv τ20 := by rw [e20]; exact hI19.w (bf_9_33 kd_195) (by omega) (by omega)
                          have hF20 : ∀ j i : Nat, (j < 195 ∨ j = 198 ∨ 213 ≤ j) → τ20 j i = σ j i := fun j i h_0 => by rw [e20]; exact (hpw_fr (by omega)).trans (hF19 j i h_0)
                          have hg21 : τ20 195 33 = x19 := by rw [e20]; exact hpw_eq
                          refine h_iconst C dX9_askRow_181 ?_
                          refine h_ireturn C hr hlk dX9_askRow_182 ?_
                          exact ⟨_, rfl, ⟨by decide, by decide⟩, by omega, hI20, hF20, fun _ => by have b32 := hI20.b (bf_9_32 kd_195); have z := hq19_0 hinQ; have e1 : τ20 195 32 = τ19 195 32 := (by rw [e20]; exact hpw_fr (Or.inr (by decide))); have e2 : τ19 195 32 = τ16 195 32 := hG19 195 32 (by omega); omega⟩
                        · refine h_aload_n C dX9_askRow_151 0 rfl rfl ?_
                          refine h_bipush C dX9_askRow_152 (by decide) ?_
                          refine h_aload_n C dX9_askRow_154 0 rfl rfl ?_
                          refine h_iload_n C dX9_askRow_155 1 rfl rfl ?_
                          refine h_iload C dX9_askRow_156 4 rfl ?_
                          refine h_callV (As := [.int (hpI a0), .int (hpI w16_5)]) (rest := [.int (hpI 19), .ref (z + 195)]) C Z yyX9_numberAt wd_1783 (tgX9_numberAt l D cy z _ a0 ⟨by omega, by omega⟩ w16_5 ⟨by omega, by omega⟩ hI16 (by omega) (by omega)) kd_195 rfl rfl ⟨rfl, rfl, Nat.le_of_ble_eq_true rfl, Nat.le_of_ble_eq_true rfl⟩ ⟨Nat.le_of_ble_eq_true rfl, Nat.le_of_ble_eq_true rfl⟩ (Nat.le_of_ble_eq_true rfl) dX9_askRow_158 (fun r22 τ22 hp22 => ?_)
                          obtain ⟨⟨x22, rfl, ⟨hx22a, hx22b⟩, hx22⟩, rfl⟩ := hp22
                          show hpV _ _ _ _ _ _ _ _ _ _ _ _ _ _ _ _ _ _ _ _ _ (_ :: _)
                          have hq158 := hF16 215 (60 * a0 + w16_5).toNat (by omega)
                          have hn158 := (hgood (w16_5).toNat (by omega))
                          rw [show (((w16_5).toNat : Nat) : Int) = w16_5 by omega] at hn158
                          refine h_l2i C dX9_askRow_161 ?_
                          have a1 := hM16_0.1
                          have a2 := hp_ls (hpQl_pos σ a0 (w16_5).toNat)
                          have a3 := hpQl_m σ a0 (w16_5).toNat (w8_5).toNat (by omega)
                          refine h_callV (As := [.int (hpI 19), .int (hpI x22)]) (rest := []) C Z yyX9_lay wd_1532 (tgX9_lay l D cy z _ 19 ⟨by decide, by decide⟩ x22 ⟨by omega, by omega⟩ hI16 (by omega) (by omega)) kd_195 rfl rfl ⟨rfl, rfl, Nat.le_of_ble_eq_true rfl, Nat.le_of_ble_eq_true rfl⟩ ⟨Nat.le_of_ble_eq_true rfl, Nat.le_of_ble_eq_true rfl⟩ (Nat.le_of_ble_eq_true rfl) dX9_askRow_162 (fun r23 τ23 hp23 => ?_)
                          obtain ⟨rfl, hI23, hG23, hq23_0⟩ := hp23
                          have hF23 : ∀ j i : Nat, (j < 195 ∨ j = 198 ∨ 213 ≤ j) → τ23 j i = σ j i := fun j i h_0 => (hG23 j i (by omega)).trans (hF16 j i h_0)
                          show hpV _ _ _ _ _ _ _ _ _ _ _ _ _ _ _ _ _ _ _ _ _ []
                          refine h_iinc (lv' := [(5, .int (hpI (w16_5 + 1))), (0, .ref (z + 195)), (1, .int (hpI a0)), (2, .long (hpJ w8_2)), (4, .int (hpI w8_4))]) C dX9_askRow_165 4 rfl rfl (by decide) rfl ?_
                          refine h_goto (tgt := 140) C dX9_askRow_168 (by decide) ?_
                          exact hp_sub [1, 2, 3, 4, 0] rfl (ih16 _ (w16_5 + 1) (by omega) (by omega) (by omega) hI23 hF23 (by rw [show (w16_5 + 1).toNat = (w16_5).toNat + 1 by omega]; have z := hq23_0 _ hM16_0; rw [show (x22).toNat = (σ 215 (60 * a0 + (((w16_5).toNat : Nat) : Int)).toNat).toNat by (rw [show (((w16_5).toNat : Nat) : Int) = w16_5 by omega]; omega)] at z; exact z) (hM16_1.fr (fun j i h => hG23 j i (by omega))) (by omega))
                    exact hp_sub [1, 2, 3, 4, 0] rfl (L16 8589934592 _ 0 (by omega) (by omega) (by omega) hI15 hF15 (hpRw.nil hq15_0) (hLS.fr (fun j i h => hG15 j i (by omega))) (by omega))
                  · refine h_bipush C dX9_askRow_121 (by decide) ?_
                    refine h_ireturn C hr hlk dX9_askRow_123 ?_
                    exact ⟨_, rfl, ⟨by decide, by decide⟩, by omega, hI, hF0, fun e => by exfalso; omega⟩
              · exfalso; omega
          exact hp_sub [3, 4, 2, 1, 0] rfl (L8 8589934592 0 0 0 (by omega) (by omega) (by omega) (by omega) (by omega) (by omega) (by omega) (by omega) (by omega) (by omega) (fun _ => ⟨fun q hq => by exfalso; omega, rfl⟩) (by omega))
        · refine h_iconst C dX9_askRow_41 ?_
          refine h_goto (tgt := 46) C dX9_askRow_42 (by decide) ?_
          refine h_istore (lv' := [(4, .int (hpI 1)), (2, .long (hpJ 0)), (0, .ref (z + 195)), (1, .int (hpI a0))]) C dX9_askRow_46 (by decide) rfl ?_
          refine h_iconst C dX9_askRow_48 ?_
          refine h_istore (lv' := [(5, .int (hpI 0)), (4, .int (hpI 1)), (2, .long (hpJ 0)), (0, .ref (z + 195)), (1, .int (hpI a0))]) C dX9_askRow_49 (by decide) rfl ?_
          have L24 : ∀ (n24 : Nat) (w24_2 : Int) (w24_4 : Int) (w24_5 : Int), 0 ≤ w24_2 → w24_2 ≤ 840 → 0 ≤ w24_4 → w24_4 ≤ 1 → 0 ≤ w24_5 → w24_5 ≤ 60 → w24_2 ≤ 14 * w24_5 → (w24_4 = 0 ∨ w24_5 ≤ w24_2) → (w24_4 = 0 ∨ 1 ≤ σ 213 a0.toNat) → (w24_4 = 0 ∨ w24_5 ≤ σ 213 a0.toNat) → (w24_4 = 1 → (∀ q : Nat, (q : Int) < w24_5 → 1 ≤ σ 215 (60 * a0 + (q : Int)).toNat ∧ σ 215 (60 * a0 + (q : Int)).toNat ≤ 14) ∧ w24_2 = ((hpQl σ a0 w24_5.toNat).sum : Int)) → (4294967296 - w24_5) < (n24 : Int) → hpF p l e rgX9_askRow s m [.ref (z + 195), .int (hpI a0)] below meth c 6 D cy z (pgX9_askRow z σ a0) σ 51 [(0, .ref (z + 195)), (1, .int (hpI a0)), (2, .long (hpJ w24_2)), (4, .int (hpI w24_4)), (5, .int (hpI w24_5))] [] := by
            intro n24
            induction n24 with
            | zero => intro w24_2 w24_4 w24_5 hv24_0 hv24_1 hv24_2 hv24_3 hv24_4 hv24_5 hv24_6 hv24_7 hv24_8 hv24_9 hM24_0 hm24; exfalso; omega
            | succ n24 ih24 =>
              intro w24_2 w24_4 w24_5 hv24_0 hv24_1 hv24_2 hv24_3 hv24_4 hv24_5 hv24_6 hv24_7 hv24_8 hv24_9 hM24_0 hm24
              refine h_iload C dX9_askRow_51 4 rfl ?_
              refine h_aload_n C dX9_askRow_53 0 rfl rfl ?_
              refine h_get C O9 42 kd_195 (by decide) wd_1298 dX9_askRow_54 fr_195_42 ?_
              refine h_iload_n C dX9_askRow_57 1 rfl rfl ?_
              refine h_iaload C dX9_askRow_58 kd_213 (a0).toNat (Int.toNat_of_nonneg (by omega)) (by rw [ln_213]; omega) rfl ?_
              rw [hg5]
              refine h_icmp_ge (tgt := 108) C dX9_askRow_59 (by decide) ⟨by omega, by omega⟩ ⟨by omega, by omega⟩ (fun h25 => ?_) (fun h25 => ?_)
              · refine h_iload C dX9_askRow_108 3 rfl ?_
                refine h_if_eq (tgt := 121) C dX9_askRow_110 (by decide) ⟨by omega, by omega⟩ (fun h26 => ?_) (fun h26 => ?_)
                · refine h_bipush C dX9_askRow_121 (by decide) ?_
                  refine h_ireturn C hr hlk dX9_askRow_123 ?_
                  exact ⟨_, rfl, ⟨by decide, by decide⟩, by omega, hI, hF0, fun e => by exfalso; omega⟩
                · refine h_lload_n C dX9_askRow_113 2 rfl rfl ?_
                  refine h_ldc2 C 14 wd_1722 (by decide) dX9_askRow_114 ?_
                  refine h_lcmp C dX9_askRow_117 ⟨by omega, by omega⟩ ⟨by decide, by decide⟩ (fun r27 hr27 => ?_)
                  refine h_if_le (tgt := 124) C dX9_askRow_118 (by decide) ⟨by omega, by omega⟩ (fun h28 => ?_) (fun h28 => ?_)
                  · obtain ⟨hgood, hsum⟩ := hM24_0 (by omega)
                    have ew : w24_5 = σ 213 a0.toNat := by omega
                    refine h_aload_n C dX9_askRow_124 0 rfl rfl ?_
                    refine h_lload_n C dX9_askRow_125 2 rfl rfl ?_
                    refine h_l2i C dX9_askRow_126 ?_
                    refine h_callV (As := [.int (hpI w24_2)]) (rest := []) C Z yyX9_asksAll wd_1718 (tgX9_asksAll l D cy z _ w24_2 ⟨by omega, by omega⟩ hI) kd_195 rfl rfl ⟨rfl, rfl, Nat.le_of_ble_eq_true rfl, Nat.le_of_ble_eq_true rfl⟩ ⟨Nat.le_of_ble_eq_true rfl, Nat.le_of_ble_eq_true rfl⟩ (Nat.le_of_ble_eq_true rfl) dX9_askRow_127 (fun r29 τ29 hp29 => ?_)
                    obtain ⟨x29, rfl, ⟨hx29a, hx29b⟩, hx29, hI29, hG29, hq29_0⟩ := hp29
                    have hF29 : ∀ j i : Nat, (j < 195 ∨ j = 198 ∨ 213 ≤ j) → τ29 j i = σ j i := fun j i h_0 => (hG29 j i (by omega) (by omega) (by omega) (by omega) (by omega) (by omega) (by omega)).trans (hF0 j i h_0)
                    have hg30 : τ29 213 ((a0).toNat) = r5 := (hG29 213 ((a0).toNat) (by omega) (by omega) (by omega) (by omega) (by omega) (by omega) (by omega)).trans hg5
                    show hpV _ _ _ _ _ _ _ _ _ _ _ _ _ _ _ _ _ _ _ _ _ (_ :: _)
                    have hLS := hq29_0 (by omega)
                    have b6 : σ 196 6 = σ 196 6 := rfl
                    have k127 : ∀ q : Nat, τ29 215 q = σ 215 q := fun q => hF29 215 q (by omega)
                    have k128 : ∀ q : Nat, τ29 213 q = σ 213 q := fun q => hF29 213 q (by omega)
                    refine h_pop C rfl dX9_askRow_130 ?_
                    refine h_aload_n C dX9_askRow_131 0 rfl rfl ?_
                    refine h_bipush C dX9_askRow_132 (by decide) ?_
                    refine h_callV (As := [.int (hpI 19)]) (rest := []) C Z yyX9_empty wd_1528 (tgX9_empty l D cy z _ 19 ⟨by decide, by decide⟩ hI29 (by omega)) kd_195 rfl rfl ⟨rfl, rfl, Nat.le_of_ble_eq_true rfl, Nat.le_of_ble_eq_true rfl⟩ ⟨Nat.le_of_ble_eq_true rfl, Nat.le_of_ble_eq_true rfl⟩ (Nat.le_of_ble_eq_true rfl) dX9_askRow_134 (fun r31 τ31 hp31 => ?_)
                    obtain ⟨rfl, hI31, hG31, hq31_0⟩ := hp31
                    have hF31 : ∀ j i : Nat, (j < 195 ∨ j = 198 ∨ 213 ≤ j) → τ31 j i = σ j i := fun j i h_0 => (hG31 j i (by omega)).trans (hF29 j i h_0)
                    show hpV _ _ _ _ _ _ _ _ _ _ _ _ _ _ _ _ _ _ _ _ _ []
                    refine h_iconst C dX9_askRow_137 ?_
                    refine h_istore (lv' := [(5, .int (hpI 0)), (0, .ref (z + 195)), (1, .int (hpI a0)), (2, .long (hpJ w24_2)), (4, .int (hpI w24_4))]) C dX9_askRow_138 (by decide) rfl ?_
                    have L32 : ∀ (n32 : Nat) (τ32 : hpMem) (w32_5 : Int), 0 ≤ w32_5 → w32_5 ≤ 60 → w32_5 ≤ w24_5 → hpInv τ32 → (∀ j i : Nat, (j < 195 ∨ j = 198 ∨ 213 ≤ j) → τ32 j i = σ j i) → (hpRw (τ32 202) 19 (hpQl σ a0 w32_5.toNat)) → (hpLq τ32 (w24_2).toNat) → (4294967296 - w32_5) < (n32 : Int) → hpF p l e rgX9_askRow s m [.ref (z + 195), .int (hpI a0)] below meth c 6 D cy z (pgX9_askRow z σ a0) τ32 140 [(0, .ref (z + 195)), (1, .int (hpI a0)), (2, .long (hpJ w24_2)), (4, .int (hpI w24_4)), (5, .int (hpI w32_5))] [] := by
                      intro n32
                      induction n32 with
                      | zero => intro τ32 w32_5 hv32_0 hv32_1 hv32_2 hI32 hF32 hM32_0 hM32_1 hm32; exfalso; omega
                      | succ n32 ih32 =>
                        intro τ32 w32_5 hv32_0 hv32_1 hv32_2 hI32 hF32 hM32_0 hM32_1 hm32
                        refine h_iload C dX9_askRow_140 4 rfl ?_
                        refine h_aload_n C dX9_askRow_142 0 rfl rfl ?_
                        refine h_get C O9 42 kd_195 (by decide) wd_1298 dX9_askRow_143 fr_195_42 ?_
                        refine h_iload_n C dX9_askRow_146 1 rfl rfl ?_
                        refine h_iaload C dX9_askRow_147 kd_213 (a0).toNat (Int.toNat_of_nonneg (by omega)) (by rw [ln_213]; omega) rfl ?_
                        obtain ⟨hr33a, hr33b⟩ := hI32.b (bo_213 _)
                        generalize hg33 : τ32 213 ((a0).toNat) = r33 at hr33a hr33b ⊢
                        have hq147 := hF32 213 a0.toNat (by omega)
                        refine h_icmp_ge (tgt := 171) C dX9_askRow_148 (by decide) ⟨by omega, by omega⟩ ⟨by omega, by omega⟩ (fun h34 => ?_) (fun h34 => ?_)
                        · refine h_aload_n C dX9_askRow_171 0 rfl rfl ?_
                          refine h_aload_n C dX9_askRow_172 0 rfl rfl ?_
                          refine h_bipush C dX9_askRow_173 (by decide) ?_
                          have ew2 : (w32_5).toNat = (w24_5).toNat := by omega
                          have hsz : (hpQl σ a0 (w32_5).toNat).sum = (w24_2).toNat := by rw [ew2]; omega
                          have hinQ : hpQl σ a0 (w32_5).toNat ∈ hpAl (w24_2).toNat := hpAl_in (by omega) (by omega) hsz (hpQl_pos _ _ _) (hpQl_so _ _ _)
                          have hlenQ : (hpQl σ a0 (w32_5).toNat).length ≤ 700 := by have z := hp_ls (hpQl_pos σ a0 (w32_5).toNat); omega
                          refine h_callV (As := [.int (hpI 19)]) (rest := [.ref (z + 195)]) C Z yyX9_findListed wd_1739 (tgX9_findListed l D cy z _ 19 ⟨by decide, by decide⟩ hI32 ((hpAl (w24_2).toNat)) ((hpQl σ a0 (w32_5).toNat)) (by omega) hM32_1.2.1 hM32_1.1 hM32_0 hlenQ) kd_195 rfl rfl ⟨rfl, rfl, Nat.le_of_ble_eq_true rfl, Nat.le_of_ble_eq_true rfl⟩ ⟨Nat.le_of_ble_eq_true rfl, Nat.le_of_ble_eq_true rfl⟩ (Nat.le_of_ble_eq_true rfl) dX9_askRow_175 (fun r35 τ35 hp35 => ?_)
                          obtain ⟨x35, rfl, ⟨hx35a, hx35b⟩, hx35, hI35, hG35, hq35_0⟩ := hp35
                          have hF35 : ∀ j i : Nat, (j < 195 ∨ j = 198 ∨ 213 ≤ j) → τ35 j i = σ j i := fun j i h_0 => (hG35 j i (by omega)).trans (hF32 j i h_0)
                          show hpV _ _ _ _ _ _ _ _ _ _ _ _ _ _ _ _ _ _ _ _ _ (_ :: _)
                          refine h_put C O9 33 kd_195 (by decide) rfl wd_1289 dX9_askRow_178 rfl rfl (hp_fvI (by rw [kd_195]; rfl) hpu_at) ?_
                          obtain ⟨τ36, e36⟩ : ∃ μ : hpMem, μ = hpw τ35 195 33 x35 := ⟨_, rfl⟩
                          rw [← e36]
                          have hI36 : hpInv τ36 := by rw [e36]; exact hI35.w (bf_9_33 kd_195) (by omega) (by omega)
                          have hF36 : ∀ j i : Nat, (j < 195 ∨ j = 198 ∨ 213 ≤ j) → τ36 j i = σ j i := fun j i h_0 => by rw [e36]; exact (hpw_fr (by omega)).trans (hF35 j i h_0)
                          have hg37 : τ36 195 33 = x35 := by rw [e36]; exact hpw_eq
                          refine h_iconst C dX9_askRow_181 ?_
                          refine h_ireturn C hr hlk dX9_askRow_182 ?_
                          exact ⟨_, rfl, ⟨by decide, by decide⟩, by omega, hI36, hF36, fun _ => by have b32 := hI36.b (bf_9_32 kd_195); have z := hq35_0 hinQ; have e1 : τ36 195 32 = τ35 195 32 := (by rw [e36]; exact hpw_fr (Or.inr (by decide))); have e2 : τ35 195 32 = τ32 195 32 := hG35 195 32 (by omega); omega⟩
                        · refine h_aload_n C dX9_askRow_151 0 rfl rfl ?_
                          refine h_bipush C dX9_askRow_152 (by decide) ?_
                          refine h_aload_n C dX9_askRow_154 0 rfl rfl ?_
                          refine h_iload_n C dX9_askRow_155 1 rfl rfl ?_
                          refine h_iload C dX9_askRow_156 4 rfl ?_
                          refine h_callV (As := [.int (hpI a0), .int (hpI w32_5)]) (rest := [.int (hpI 19), .ref (z + 195)]) C Z yyX9_numberAt wd_1783 (tgX9_numberAt l D cy z _ a0 ⟨by omega, by omega⟩ w32_5 ⟨by omega, by omega⟩ hI32 (by omega) (by omega)) kd_195 rfl rfl ⟨rfl, rfl, Nat.le_of_ble_eq_true rfl, Nat.le_of_ble_eq_true rfl⟩ ⟨Nat.le_of_ble_eq_true rfl, Nat.le_of_ble_eq_true rfl⟩ (Nat.le_of_ble_eq_true rfl) dX9_askRow_158 (fun r38 τ38 hp38 => ?_)
                          obtain ⟨⟨x38, rfl, ⟨hx38a, hx38b⟩, hx38⟩, rfl⟩ := hp38
                          show hpV _ _ _ _ _ _ _ _ _ _ _ _ _ _ _ _ _ _ _ _ _ (_ :: _)
                          have hq158 := hF32 215 (60 * a0 + w32_5).toNat (by omega)
                          have hn158 := (hgood (w32_5).toNat (by omega))
                          rw [show (((w32_5).toNat : Nat) : Int) = w32_5 by omega] at hn158
                          refine h_l2i C dX9_askRow_161 ?_
                          have a1 := hM32_0.1
                          have a2 := hp_ls (hpQl_pos σ a0 (w32_5).toNat)
                          have a3 := hpQl_m σ a0 (w32_5).toNat (w24_5).toNat (by omega)
                          refine h_callV (As := [.int (hpI 19), .int (hpI x38)]) (rest := []) C Z yyX9_lay wd_1532 (tgX9_lay l D cy z _ 19 ⟨by decide, by decide⟩ x38 ⟨by omega, by omega⟩ hI32 (by omega) (by omega)) kd_195 rfl rfl ⟨rfl, rfl, Nat.le_of_ble_eq_true rfl, Nat.le_of_ble_eq_true rfl⟩ ⟨Nat.le_of_ble_eq_true rfl, Nat.le_of_ble_eq_true rfl⟩ (Nat.le_of_ble_eq_true rfl) dX9_askRow_162 (fun r39 τ39 hp39 => ?_)
                          obtain ⟨rfl, hI39, hG39, hq39_0⟩ := hp39
                          have hF39 : ∀ j i : Nat, (j < 195 ∨ j = 198 ∨ 213 ≤ j) → τ39 j i = σ j i := fun j i h_0 => (hG39 j i (by omega)).trans (hF32 j i h_0)
                          show hpV _ _ _ _ _ _ _ _ _ _ _ _ _ _ _ _ _ _ _ _ _ []
                          refine h_iinc (lv' := [(5, .int (hpI (w32_5 + 1))), (0, .ref (z + 195)), (1, .int (hpI a0)), (2, .long (hpJ w24_2)), (4, .int (hpI w24_4))]) C dX9_askRow_165 4 rfl rfl (by decide) rfl ?_
                          refine h_goto (tgt := 140) C dX9_askRow_168 (by decide) ?_
                          exact hp_sub [1, 2, 3, 4, 0] rfl (ih32 _ (w32_5 + 1) (by omega) (by omega) (by omega) hI39 hF39 (by rw [show (w32_5 + 1).toNat = (w32_5).toNat + 1 by omega]; have z := hq39_0 _ hM32_0; rw [show (x38).toNat = (σ 215 (60 * a0 + (((w32_5).toNat : Nat) : Int)).toNat).toNat by (rw [show (((w32_5).toNat : Nat) : Int) = w32_5 by omega]; omega)] at z; exact z) (hM32_1.fr (fun j i h => hG39 j i (by omega))) (by omega))
                    exact hp_sub [1, 2, 3, 4, 0] rfl (L32 8589934592 _ 0 (by omega) (by omega) (by omega) hI31 hF31 (hpRw.nil hq31_0) (hLS.fr (fun j i h => hG31 j i (by omega))) (by omega))
                  · refine h_bipush C dX9_askRow_121 (by decide) ?_
                    refine h_ireturn C hr hlk dX9_askRow_123 ?_
                    exact ⟨_, rfl, ⟨by decide, by decide⟩, by omega, hI, hF0, fun e => by exfalso; omega⟩
              · refine h_iload C dX9_askRow_62 3 rfl ?_
                refine h_if_eq (tgt := 108) C dX9_askRow_64 (by decide) ⟨by omega, by omega⟩ (fun h40 => ?_) (fun h40 => ?_)
                · refine h_iload C dX9_askRow_108 3 rfl ?_
                  refine h_if_eq (tgt := 121) C dX9_askRow_110 (by decide) ⟨by omega, by omega⟩ (fun h41 => ?_) (fun h41 => ?_)
                  · refine h_bipush C dX9_askRow_121 (by decide) ?_
                    refine h_ireturn C hr hlk dX9_askRow_123 ?_
                    exact ⟨_, rfl, ⟨by decide, by decide⟩, by omega, hI, hF0, fun e => by exfalso; omega⟩
                  · exfalso; omega
                · refine h_aload_n C dX9_askRow_67 0 rfl rfl ?_
                  refine h_iload_n C dX9_askRow_68 1 rfl rfl ?_
                  refine h_iload C dX9_askRow_69 4 rfl ?_
                  refine h_callV (As := [.int (hpI a0), .int (hpI w24_5)]) (rest := []) C Z yyX9_numberAt wd_1783 (tgX9_numberAt l D cy z _ a0 ⟨by omega, by omega⟩ w24_5 ⟨by omega, by omega⟩ hI (by omega) (by omega)) kd_195 rfl rfl ⟨rfl, rfl, Nat.le_of_ble_eq_true rfl, Nat.le_of_ble_eq_true rfl⟩ ⟨Nat.le_of_ble_eq_true rfl, Nat.le_of_ble_eq_true rfl⟩ (Nat.le_of_ble_eq_true rfl) dX9_askRow_71 (fun r42 τ42 hp42 => ?_)
                  obtain ⟨⟨x42, rfl, ⟨hx42a, hx42b⟩, hx42⟩, rfl⟩ := hp42
                  show hpV _ _ _ _ _ _ _ _ _ _ _ _ _ _ _ _ _ _ _ _ _ (_ :: _)
                  refine h_lconst C 1 dX9_askRow_74 (by decide) ?_
                  refine h_ldc2 C 14 wd_1722 (by decide) dX9_askRow_75 ?_
                  refine h_callS (As := [.long (hpJ x42), .long (hpJ 1), .long (hpJ 14)]) (rest := []) C Z yyX9_in rfl wd_1401 (tgX9_in l D cy z _ x42 ⟨by omega, by omega⟩ 1 ⟨by decide, by decide⟩ 14 ⟨by decide, by decide⟩ hI) rfl rfl ⟨rfl, rfl, Nat.le_of_ble_eq_true rfl, Nat.le_of_ble_eq_true rfl⟩ ⟨Nat.le_of_ble_eq_true rfl, Nat.le_of_ble_eq_true rfl⟩ (Nat.le_of_ble_eq_true rfl) dX9_askRow_78 (fun r43 τ43 hp43 => ?_)
                  obtain ⟨⟨x43, rfl, ⟨hx43a, hx43b⟩, hx43⟩, rfl⟩ := hp43
                  show hpV _ _ _ _ _ _ _ _ _ _ _ _ _ _ _ _ _ _ _ _ _ (_ :: _)
                  refine h_istore (lv' := [(4, .int (hpI x43)), (0, .ref (z + 195)), (1, .int (hpI a0)), (2, .long (hpJ w24_2)), (5, .int (hpI w24_5))]) C dX9_askRow_81 (by decide) rfl ?_
                  refine h_lload_n C dX9_askRow_83 3 rfl rfl ?_
                  refine h_iload C dX9_askRow_84 0 rfl ?_
                  refine h_if_eq (tgt := 99) C dX9_askRow_86 (by decide) ⟨by omega, by omega⟩ (fun h44 => ?_) (fun h44 => ?_)
                  · refine h_lconst C 0 dX9_askRow_99 (by decide) ?_
                    refine h_ladd C dX9_askRow_100 rfl ?_
                    refine h_lstore_n (lv' := [(2, .long (hpJ (w24_2 + 0))), (4, .int (hpI x43)), (0, .ref (z + 195)), (1, .int (hpI a0)), (5, .int (hpI w24_5))]) C dX9_askRow_101 rfl (by decide) rfl ?_
                    refine h_iinc (lv' := [(5, .int (hpI (w24_5 + 1))), (2, .long (hpJ (w24_2 + 0))), (4, .int (hpI x43)), (0, .ref (z + 195)), (1, .int (hpI a0))]) C dX9_askRow_102 4 rfl rfl (by decide) rfl ?_
                    refine h_goto (tgt := 51) C dX9_askRow_105 (by decide) ?_
                    exact hp_sub [3, 4, 1, 2, 0] rfl (ih24 (w24_2 + 0) x43 (w24_5 + 1) (by omega) (by omega) (by omega) (by omega) (by omega) (by omega) (by omega) (by omega) (by omega) (by omega) (fun e => by obtain ⟨z1, z2⟩ := hM24_0 (by omega); refine ⟨fun q hq => by (by_cases e2 : (q : Int) = w24_5; (rw [e2]; omega); (exact z1 q (by omega))), ?_⟩; rw [show (w24_5 + 1).toNat = (w24_5).toNat + 1 by omega, hpQl_s, show (((w24_5).toNat : Nat) : Int) = w24_5 by omega]; omega) (by omega))
                  · refine h_aload_n C dX9_askRow_89 1 rfl rfl ?_
                    refine h_iload_n C dX9_askRow_90 2 rfl rfl ?_
                    refine h_iload C dX9_askRow_91 4 rfl ?_
                    refine h_callV (As := [.int (hpI a0), .int (hpI w24_5)]) (rest := [.long (hpJ w24_2)]) C Z yyX9_numberAt wd_1783 (tgX9_numberAt l D cy z _ a0 ⟨by omega, by omega⟩ w24_5 ⟨by omega, by omega⟩ hI (by omega) (by omega)) kd_195 rfl rfl ⟨rfl, rfl, Nat.le_of_ble_eq_true rfl, Nat.le_of_ble_eq_true rfl⟩ ⟨Nat.le_of_ble_eq_true rfl, Nat.le_of_ble_eq_true rfl⟩ (Nat.le_of_ble_eq_true rfl) dX9_askRow_93 (fun r45 τ45 hp45 => ?_)
                    obtain ⟨⟨x45, rfl, ⟨hx45a, hx45b⟩, hx45⟩, rfl⟩ := hp45
                    show hpV _ _ _ _ _ _ _ _ _ _ _ _ _ _ _ _ _ _ _ _ _ (_ :: _)
                    refine h_goto (tgt := 100) C dX9_askRow_96 (by decide) ?_
                    refine h_ladd C dX9_askRow_100 rfl ?_
                    refine h_lstore_n (lv' := [(2, .long (hpJ (w24_2 + x45))), (4, .int (hpI x43)), (0, .ref (z + 195)), (1, .int (hpI a0)), (5, .int (hpI w24_5))]) C dX9_askRow_101 rfl (by decide) rfl ?_
                    refine h_iinc (lv' := [(5, .int (hpI (w24_5 + 1))), (2, .long (hpJ (w24_2 + x45))), (4, .int (hpI x43)), (0, .ref (z + 195)), (1, .int (hpI a0))]) C dX9_askRow_102 4 rfl rfl (by decide) rfl ?_
                    refine h_goto (tgt := 51) C dX9_askRow_105 (by decide) ?_
                    exact hp_sub [3, 4, 1, 2, 0] rfl (ih24 (w24_2 + x45) x43 (w24_5 + 1) (by omega) (by omega) (by omega) (by omega) (by omega) (by omega) (by omega) (by omega) (by omega) (by omega) (fun e => by obtain ⟨z1, z2⟩ := hM24_0 (by omega); refine ⟨fun q hq => by (by_cases e2 : (q : Int) = w24_5; (rw [e2]; omega); (exact z1 q (by omega))), ?_⟩; rw [show (w24_5 + 1).toNat = (w24_5).toNat + 1 by omega, hpQl_s, show (((w24_5).toNat : Nat) : Int) = w24_5 by omega]; omega) (by omega))
          exact hp_sub [3, 4, 2, 1, 0] rfl (L24 8589934592 0 1 0 (by omega) (by omega) (by omega) (by omega) (by omega) (by omega) (by omega) (by omega) (by omega) (by omega) (fun _ => ⟨fun q hq => by exfalso; omega, rfl⟩) (by omega))
      · refine h_bipush C dX9_askRow_27 (by decide) ?_
        refine h_ireturn C hr hlk dX9_askRow_29 ?_
        exact ⟨_, rfl, ⟨by decide, by decide⟩, by omega, hI, hF0, fun e => by exfalso; omega⟩
    · refine h_bipush C dX9_askRow_14 (by decide) ?_
      refine h_ireturn C hr hlk dX9_askRow_16 ?_
      exact ⟨_, rfl, ⟨by decide, by decide⟩, by omega, hI, hF0, fun e => by exfalso; omega⟩
abbrev rgX9_ahead : Room := { frames := 6, cells := 0, slots := 0, locals := 139 }
abbrev pgX9_ahead (z : Nat) (σ : hpMem) (a0 : Int) : Option Value → hpMem → Prop := fun r τ => (∃ x : Int, r = some (.int (hpI x)) ∧ (hpR x)) ∧ hpInv τ ∧ (∀ j i : Nat, (j < 195 ∨ j = 198 ∨ 213 ≤ j) → τ j i = σ j i)
set_option maxHeartbeats 4000000 in
set_option maxRecDepth 20000 in
theorem tgX9_ahead (l : Launch) (D : va_G) (cy : Nat → ClassId) (z : Nat) (σ : hpMem) (a0 : Int) (ha0 : hpR a0) (hI : hpInv σ) : hpM l D cy z yX9_ahead cX9_ahead 3 (some .int) rgX9_ahead [.ref (z + 195), .int (hpI a0)] σ (pgX9_ahead z σ a0) := by
  obtain ⟨ha01, ha02⟩ := ha0
  refine hp_met rfl (Nat.le_of_ble_eq_true rfl) (fun p e s m below meth c C Z hr hlk => ?_)
  have hF0 : ∀ j i : Nat, (j < 195 ∨ j = 198 ∨ 213 ≤ j) → σ j i = σ j i := fun j i _ => rfl
  refine h_aload_n C dX9_ahead_0 0 rfl rfl ?_
  refine h_iload_n C dX9_ahead_1 1 rfl rfl ?_
  refine h_callV (As := [.int (hpI a0)]) (rest := []) C Z yyX9_askRow wd_1775 (tgX9_askRow l D cy z _ a0 ⟨by omega, by omega⟩ hI) kd_195 rfl rfl ⟨rfl, rfl, Nat.le_of_ble_eq_true rfl, Nat.le_of_ble_eq_true rfl⟩ ⟨Nat.le_of_ble_eq_true rfl, Nat.le_of_ble_eq_true rfl⟩ (Nat.le_of_ble_eq_true rfl) dX9_ahead_2 (fun r1 τ1 hp1 => ?_)
  obtain ⟨x1, rfl, ⟨hx1a, hx1b⟩, hx1, hI1, hG1, hq1_0⟩ := hp1
  have hF1 : ∀ j i : Nat, (j < 195 ∨ j = 198 ∨ 213 ≤ j) → τ1 j i = σ j i := fun j i h_0 => (hG1 j i (by omega)).trans (hF0 j i h_0)
  show hpV _ _ _ _ _ _ _ _ _ _ _ _ _ _ _ _ _ _ _ _ _ (_ :: _)
  refine h_istore_n (lv' := [(2, .int (hpI x1)), (0, .ref (z + 195)), (1, .int (hpI a0))]) C dX9_ahead_5 rfl (by decide) rfl ?_
  refine h_iload_n C dX9_ahead_6 0 rfl rfl ?_
  refine h_if_ge (tgt := 14) C dX9_ahead_7 (by decide) ⟨by omega, by omega⟩ (fun h2 => ?_) (fun h2 => ?_)
  · refine h_aload_n C dX9_ahead_14 1 rfl rfl ?_
    refine h_aload_n C dX9_ahead_15 1 rfl rfl ?_
    refine h_get C O9 33 kd_195 (by decide) wd_1289 dX9_ahead_16 (hp_fvI (by rw [kd_195]; rfl) rfl) ?_
    obtain ⟨hr3a, hr3b⟩ := hI1.b (bf_9_33 kd_195)
    generalize hg3 : τ1 195 33 = r3 at hr3a hr3b ⊢
    refine h_callV (As := [.int (hpI r3)]) (rest := []) C Z yyX9_comesTo wd_1763 (tgX9_comesTo l D cy z _ r3 ⟨by omega, by omega⟩ hI1) kd_195 rfl rfl ⟨rfl, rfl, Nat.le_of_ble_eq_true rfl, Nat.le_of_ble_eq_true rfl⟩ ⟨Nat.le_of_ble_eq_true rfl, Nat.le_of_ble_eq_true rfl⟩ (Nat.le_of_ble_eq_true rfl) dX9_ahead_19 (fun r4 τ4 hp4 => ?_)
    obtain ⟨⟨x4, rfl, ⟨hx4a, hx4b⟩⟩, rfl⟩ := hp4
    show hpV _ _ _ _ _ _ _ _ _ _ _ _ _ _ _ _ _ _ _ _ _ (_ :: _)
    refine h_ireturn C hr hlk dX9_ahead_22 ?_
    exact ⟨⟨_, rfl, ⟨by omega, by omega⟩⟩, hI1, hF1⟩
  · refine h_iload_n C dX9_ahead_10 0 rfl rfl ?_
    refine h_goto (tgt := 22) C dX9_ahead_11 (by decide) ?_
    refine h_ireturn C hr hlk dX9_ahead_22 ?_
    exact ⟨⟨_, rfl, ⟨by omega, by omega⟩⟩, hI1, hF1⟩
abbrev rgX9_from : Room := { frames := 6, cells := 0, slots := 0, locals := 139 }
abbrev pgX9_from (z : Nat) (σ : hpMem) (a0 : Int) (a1 : Int) : Option Value → hpMem → Prop := fun r τ => (∃ x : Int, r = some (.int (hpI x)) ∧ (hpR x)) ∧ hpInv τ ∧ (∀ j i : Nat, (j < 195 ∨ j = 198 ∨ 213 ≤ j) → τ j i = σ j i)
set_option maxHeartbeats 4000000 in
set_option maxRecDepth 20000 in
theorem tgX9_from (l : Launch) (D : va_G) (cy : Nat → ClassId) (z : Nat) (σ : hpMem) (a0 : Int) (ha0 : hpR a0) (a1 : Int) (ha1 : hpR a1) (hI : hpInv σ) : hpM l D cy z yX9_from cX9_from 6 (some .int) rgX9_from [.ref (z + 195), .int (hpI a0), .int (hpI a1)] σ (pgX9_from z σ a0 a1) := by
  obtain ⟨ha01, ha02⟩ := ha0
  obtain ⟨ha11, ha12⟩ := ha1
  refine hp_met rfl (Nat.le_of_ble_eq_true rfl) (fun p e s m below meth c C Z hr hlk => ?_)
  have hF0 : ∀ j i : Nat, (j < 195 ∨ j = 198 ∨ 213 ≤ j) → σ j i = σ j i := fun j i _ => rfl
  refine h_iload_n C dX9_from_0 2 rfl rfl ?_
  refine h_if_ge (tgt := 9) C dX9_from_1 (by decide) ⟨by omega, by omega⟩ (fun h1 => ?_) (fun h1 => ?_)
  · refine h_aload_n C dX9_from_9 0 rfl rfl ?_
    refine h_iload_n C dX9_from_10 1 rfl rfl ?_
    refine h_callV (As := [.int (hpI a0)]) (rest := []) C Z yyX9_askRow wd_1775 (tgX9_askRow l D cy z _ a0 ⟨by omega, by omega⟩ hI) kd_195 rfl rfl ⟨rfl, rfl, Nat.le_of_ble_eq_true rfl, Nat.le_of_ble_eq_true rfl⟩ ⟨Nat.le_of_ble_eq_true rfl, Nat.le_of_ble_eq_true rfl⟩ (Nat.le_of_ble_eq_true rfl) dX9_from_11 (fun r2 τ2 hp2 => ?_)
    obtain ⟨x2, rfl, ⟨hx2a, hx2b⟩, hx2, hI2, hG2, hq2_0⟩ := hp2
    have hF2 : ∀ j i : Nat, (j < 195 ∨ j = 198 ∨ 213 ≤ j) → τ2 j i = σ j i := fun j i h_0 => (hG2 j i (by omega)).trans (hF0 j i h_0)
    show hpV _ _ _ _ _ _ _ _ _ _ _ _ _ _ _ _ _ _ _ _ _ (_ :: _)
    refine h_istore_n (lv' := [(3, .int (hpI x2)), (0, .ref (z + 195)), (1, .int (hpI a0)), (2, .int (hpI a1))]) C dX9_from_14 rfl (by decide) rfl ?_
    refine h_iload_n C dX9_from_15 0 rfl rfl ?_
    refine h_if_ge (tgt := 21) C dX9_from_16 (by decide) ⟨by omega, by omega⟩ (fun h3 => ?_) (fun h3 => ?_)
    · refine h_iconst C dX9_from_21 ?_
      refine h_istore (lv' := [(4, .int (hpI 0)), (3, .int (hpI x2)), (0, .ref (z + 195)), (1, .int (hpI a0)), (2, .int (hpI a1))]) C dX9_from_22 (by decide) rfl ?_
      have L4 : ∀ (n4 : Nat) (w4_4 : Int), 0 ≤ w4_4 → w4_4 ≤ 2147483647 → (4294967296 - w4_4) < (n4 : Int) → hpF p l e rgX9_from s m [.ref (z + 195), .int (hpI a0), .int (hpI a1)] below meth c 6 D cy z (pgX9_from z σ a0 a1) τ2 24 [(0, .ref (z + 195)), (1, .int (hpI a0)), (2, .int (hpI a1)), (3, .int (hpI x2)), (4, .int (hpI w4_4))] [] := by
        intro n4
        induction n4 with
        | zero => intro w4_4 hv4_0 hv4_1 hm4; exfalso; omega
        | succ n4 ih4 =>
          intro w4_4 hv4_0 hv4_1 hm4
          refine h_iload C dX9_from_24 4 rfl ?_
          refine h_aload_n C dX9_from_26 0 rfl rfl ?_
          refine h_get C O9 32 kd_195 (by decide) wd_1288 dX9_from_27 (hp_fvI (by rw [kd_195]; rfl) rfl) ?_
          obtain ⟨hr5a, hr5b⟩ := hI2.b (bf_9_32 kd_195)
          generalize hg5 : τ2 195 32 = r5 at hr5a hr5b ⊢
          refine h_icmp_ge (tgt := 90) C dX9_from_30 (by decide) ⟨by omega, by omega⟩ ⟨by omega, by omega⟩ (fun h6 => ?_) (fun h6 => ?_)
          · refine h_iconst C dX9_from_90 ?_
            refine h_ireturn C hr hlk dX9_from_91 ?_
            exact ⟨⟨_, rfl, ⟨by decide, by decide⟩⟩, hI2, hF2⟩
          · refine h_aload_n C dX9_from_33 0 rfl rfl ?_
            refine h_get C O9 30 kd_195 (by decide) wd_1286 dX9_from_34 fr_195_30 ?_
            refine h_iload C dX9_from_37 4 rfl ?_
            refine h_iaload C dX9_from_39 kd_208 (w4_4).toNat (Int.toNat_of_nonneg (by omega)) (by rw [ln_208]; omega) rfl ?_
            obtain ⟨hr7a, hr7b⟩ := hI2.b (bo_208 _)
            generalize hg7 : τ2 208 ((w4_4).toNat) = r7 at hr7a hr7b ⊢
            refine h_aload_n C dX9_from_40 0 rfl rfl ?_
            refine h_get C O9 33 kd_195 (by decide) wd_1289 dX9_from_41 (hp_fvI (by rw [kd_195]; rfl) rfl) ?_
            obtain ⟨hr8a, hr8b⟩ := hI2.b (bf_9_33 kd_195)
            generalize hg8 : τ2 195 33 = r8 at hr8a hr8b ⊢
            refine h_icmp_eq (tgt := 50) C dX9_from_44 (by decide) ⟨by omega, by omega⟩ ⟨by omega, by omega⟩ (fun h9 => ?_) (fun h9 => ?_)
            · refine h_bipush C dX9_from_50 (by decide) ?_
              refine h_iload C dX9_from_52 4 rfl ?_
              refine h_imul C dX9_from_54 rfl ?_
              refine h_istore (lv' := [(5, .int (hpI (15 * w4_4))), (0, .ref (z + 195)), (1, .int (hpI a0)), (2, .int (hpI a1)), (3, .int (hpI x2)), (4, .int (hpI w4_4))]) C dX9_from_55 (by decide) rfl ?_
              refine h_iload_n C dX9_from_57 3 rfl rfl ?_
              refine h_aload_n C dX9_from_58 1 rfl rfl ?_
              refine h_get C O9 29 kd_195 (by decide) wd_1285 dX9_from_59 fr_195_29 ?_
              refine h_iload C dX9_from_62 0 rfl ?_
              refine h_iaload C dX9_from_64 kd_207 (15 * w4_4).toNat (Int.toNat_of_nonneg (by omega)) (by rw [ln_207]; omega) rfl ?_
              obtain ⟨hr10a, hr10b⟩ := hI2.b (bh_207 (i := (15 * w4_4).toNat) (by omega))
              generalize hg10 : τ2 207 ((15 * w4_4).toNat) = r10 at hr10a hr10b ⊢
              refine h_icmp_ge (tgt := 82) C dX9_from_65 (by decide) ⟨by omega, by omega⟩ ⟨by omega, by omega⟩ (fun h11 => ?_) (fun h11 => ?_)
              · refine h_iconst C dX9_from_82 ?_
                refine h_ireturn C hr hlk dX9_from_83 ?_
                exact ⟨⟨_, rfl, ⟨by decide, by decide⟩⟩, hI2, hF2⟩
              · refine h_aload_n C dX9_from_68 1 rfl rfl ?_
                refine h_get C O9 29 kd_195 (by decide) wd_1285 dX9_from_69 fr_195_29 ?_
                refine h_iload C dX9_from_72 0 rfl ?_
                refine h_iconst C dX9_from_74 ?_
                refine h_iadd C dX9_from_75 rfl ?_
                refine h_iload_n C dX9_from_76 3 rfl rfl ?_
                refine h_iadd C dX9_from_77 rfl ?_
                refine h_iaload C dX9_from_78 kd_207 (((15 * w4_4) + 1) + a1).toNat (Int.toNat_of_nonneg (by omega)) (by rw [ln_207]; omega) rfl ?_
                obtain ⟨hr12a, hr12b⟩ := hpInv.r207 hI2 _
                generalize hg12 : τ2 207 ((((15 * w4_4) + 1) + a1).toNat) = r12 at hr12a hr12b ⊢
                refine h_goto (tgt := 83) C dX9_from_79 (by decide) ?_
                refine h_ireturn C hr hlk dX9_from_83 ?_
                exact ⟨⟨_, rfl, ⟨by omega, by omega⟩⟩, hI2, hF2⟩
            · refine h_goto (tgt := 84) C dX9_from_47 (by decide) ?_
              refine h_iinc (lv' := [(4, .int (hpI (w4_4 + 1))), (0, .ref (z + 195)), (1, .int (hpI a0)), (2, .int (hpI a1)), (3, .int (hpI x2))]) C dX9_from_84 4 rfl rfl (by decide) rfl ?_
              refine h_goto (tgt := 24) C dX9_from_87 (by decide) ?_
              exact hp_sub [1, 2, 3, 4, 0] rfl (ih4 (w4_4 + 1) (by omega) (by omega) (by omega))
      exact hp_sub [2, 3, 4, 1, 0] rfl (L4 8589934592 0 (by omega) (by omega) (by omega))
    · refine h_iload_n C dX9_from_19 0 rfl rfl ?_
      refine h_ireturn C hr hlk dX9_from_20 ?_
      exact ⟨⟨_, rfl, ⟨by omega, by omega⟩⟩, hI2, hF2⟩
  · refine h_bipush C dX9_from_4 (by decide) ?_
    refine h_goto (tgt := 14) C dX9_from_6 (by decide) ?_
    refine h_istore_n (lv' := [(3, .int (hpI (-2))), (0, .ref (z + 195)), (1, .int (hpI a0)), (2, .int (hpI a1))]) C dX9_from_14 rfl (by decide) rfl ?_
    refine h_iload_n C dX9_from_15 0 rfl rfl ?_
    refine h_if_ge (tgt := 21) C dX9_from_16 (by decide) ⟨by decide, by decide⟩ (fun h13 => ?_) (fun h13 => ?_)
    · exfalso; omega
    · refine h_iload_n C dX9_from_19 0 rfl rfl ?_
      refine h_ireturn C hr hlk dX9_from_20 ?_
      exact ⟨⟨_, rfl, ⟨by decide, by decide⟩⟩, hI, hF0⟩
abbrev rgX9_way : Room := { frames := 6, cells := 0, slots := 0, locals := 139 }
abbrev pgX9_way (z : Nat) (σ : hpMem) (a0 : Int) : Option Value → hpMem → Prop := fun r τ => (∃ x : Int, r = some (.int (hpI x)) ∧ (hpR x)) ∧ hpInv τ ∧ (∀ j i : Nat, (j < 195 ∨ j = 198 ∨ 213 ≤ j) → τ j i = σ j i)
set_option maxHeartbeats 4000000 in
set_option maxRecDepth 20000 in
theorem tgX9_way (l : Launch) (D : va_G) (cy : Nat → ClassId) (z : Nat) (σ : hpMem) (a0 : Int) (ha0 : hpR a0) (hI : hpInv σ) : hpM l D cy z yX9_way cX9_way 3 (some .int) rgX9_way [.ref (z + 195), .int (hpI a0)] σ (pgX9_way z σ a0) := by
  obtain ⟨ha01, ha02⟩ := ha0
  refine hp_met rfl (Nat.le_of_ble_eq_true rfl) (fun p e s m below meth c C Z hr hlk => ?_)
  have hF0 : ∀ j i : Nat, (j < 195 ∨ j = 198 ∨ 213 ≤ j) → σ j i = σ j i := fun j i _ => rfl
  refine h_aload_n C dX9_way_0 0 rfl rfl ?_
  refine h_iload_n C dX9_way_1 1 rfl rfl ?_
  refine h_callV (As := [.int (hpI a0)]) (rest := []) C Z yyX9_askRow wd_1775 (tgX9_askRow l D cy z _ a0 ⟨by omega, by omega⟩ hI) kd_195 rfl rfl ⟨rfl, rfl, Nat.le_of_ble_eq_true rfl, Nat.le_of_ble_eq_true rfl⟩ ⟨Nat.le_of_ble_eq_true rfl, Nat.le_of_ble_eq_true rfl⟩ (Nat.le_of_ble_eq_true rfl) dX9_way_2 (fun r1 τ1 hp1 => ?_)
  obtain ⟨x1, rfl, ⟨hx1a, hx1b⟩, hx1, hI1, hG1, hq1_0⟩ := hp1
  have hF1 : ∀ j i : Nat, (j < 195 ∨ j = 198 ∨ 213 ≤ j) → τ1 j i = σ j i := fun j i h_0 => (hG1 j i (by omega)).trans (hF0 j i h_0)
  show hpV _ _ _ _ _ _ _ _ _ _ _ _ _ _ _ _ _ _ _ _ _ (_ :: _)
  refine h_istore_n (lv' := [(2, .int (hpI x1)), (0, .ref (z + 195)), (1, .int (hpI a0))]) C dX9_way_5 rfl (by decide) rfl ?_
  refine h_iload_n C dX9_way_6 0 rfl rfl ?_
  refine h_if_ge (tgt := 14) C dX9_way_7 (by decide) ⟨by omega, by omega⟩ (fun h2 => ?_) (fun h2 => ?_)
  · refine h_aload_n C dX9_way_14 1 rfl rfl ?_
    refine h_get C O9 31 kd_195 (by decide) wd_1287 dX9_way_15 fr_195_31 ?_
    refine h_aload_n C dX9_way_18 1 rfl rfl ?_
    refine h_get C O9 33 kd_195 (by decide) wd_1289 dX9_way_19 (hp_fvI (by rw [kd_195]; rfl) rfl) ?_
    obtain ⟨hr3a, hr3b⟩ := hI1.b (bf_9_33 kd_195)
    generalize hg3 : τ1 195 33 = r3 at hr3a hr3b ⊢
    refine h_iaload C dX9_way_22 kd_209 (r3).toNat (Int.toNat_of_nonneg (by omega)) (by rw [ln_209]; omega) rfl ?_
    obtain ⟨hr4a, hr4b⟩ := hI1.b (bo_209 _)
    generalize hg4 : τ1 209 ((r3).toNat) = r4 at hr4a hr4b ⊢
    refine h_ireturn C hr hlk dX9_way_23 ?_
    exact ⟨⟨_, rfl, ⟨by omega, by omega⟩⟩, hI1, hF1⟩
  · refine h_iload_n C dX9_way_10 0 rfl rfl ?_
    refine h_goto (tgt := 23) C dX9_way_11 (by decide) ?_
    refine h_ireturn C hr hlk dX9_way_23 ?_
    exact ⟨⟨_, rfl, ⟨by omega, by omega⟩⟩, hI1, hF1⟩

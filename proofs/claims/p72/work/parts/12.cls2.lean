abbrev rgX2_lookForStair : Room := { frames := 1, cells := 0, slots := 0, locals := 20 }
abbrev pgX2_lookForStair (z : Nat) (σ : hpMem) (a0 : Int) : Option Value → hpMem → Prop := fun r τ => r = none ∧ hpInv τ ∧ (∀ j i : Nat, 169 ≤ j → τ j i = σ j i)
set_option maxHeartbeats 4000000 in
set_option maxRecDepth 20000 in
theorem tgX2_lookForStair (l : Launch) (D : va_G) (cy : Nat → ClassId) (z : Nat) (σ : hpMem) (a0 : Int) (ha0 : hpR a0) (hI : hpInv σ) : hpM l D cy z yX2_lookForStair cX2_lookForStair 2 none rgX2_lookForStair [.ref (z + 123), .int (hpI a0)] σ (pgX2_lookForStair z σ a0) := by
  obtain ⟨ha01, ha02⟩ := ha0
  refine hp_met rfl (Nat.le_of_ble_eq_true rfl) (fun p e s m below meth c C Z hr hlk => ?_)
  have hF0 : ∀ j i : Nat, 169 ≤ j → σ j i = σ j i := fun j i _ => rfl
  refine h_aload_n C dX2_lookForStair_0 0 rfl rfl ?_
  refine h_get C O2 5 kd_123 (by decide) wd_231 dX2_lookForStair_1 (hp_fvI (by rw [kd_123]; rfl) rfl) ?_
  obtain ⟨hr1a, hr1b⟩ := hI.b (bf_2_5 kd_123)
  generalize hg1 : σ 123 5 = r1 at hr1a hr1b ⊢
  refine h_iconst C dX2_lookForStair_4 ?_
  refine h_icmp_ne (tgt := 23) C dX2_lookForStair_5 (by decide) ⟨by omega, by omega⟩ ⟨by decide, by decide⟩ (fun h2 => ?_) (fun h2 => ?_)
  · refine h_return C hr hlk dX2_lookForStair_23 ?_
    exact ⟨rfl, hI, hF0⟩
  · refine h_aload_n C dX2_lookForStair_8 0 rfl rfl ?_
    refine h_get C O2 0 kd_123 (by decide) wd_223 dX2_lookForStair_9 fr_123_0 ?_
    refine h_callVN (As := []) (rest := []) C Z yyX3_isStair nw_812 (tgX3_isStair l D cy z _ 124 kd_124 hI) kd_124 rfl rfl ⟨rfl, rfl, Nat.le_of_ble_eq_true rfl, Nat.le_of_ble_eq_true rfl⟩ ⟨Nat.le_of_ble_eq_true rfl, Nat.le_of_ble_eq_true rfl⟩ (Nat.le_of_ble_eq_true rfl) dX2_lookForStair_12 (fun r3 τ3 hp3 => ?_)
    obtain ⟨⟨x3, rfl, ⟨hx3a, hx3b⟩⟩, rfl⟩ := hp3
    show hpV _ _ _ _ _ _ _ _ _ _ _ _ _ _ _ _ _ _ _ _ _ (_ :: _)
    refine h_if_eq (tgt := 23) C dX2_lookForStair_15 (by decide) ⟨by omega, by omega⟩ (fun h4 => ?_) (fun h4 => ?_)
    · refine h_return C hr hlk dX2_lookForStair_23 ?_
      exact ⟨rfl, hI, hF0⟩
    · refine h_aload_n C dX2_lookForStair_18 0 rfl rfl ?_
      refine h_iload_n C dX2_lookForStair_19 1 rfl rfl ?_
      refine h_put C O2 5 kd_123 (by decide) rfl wd_231 dX2_lookForStair_20 rfl rfl (hp_fvI (by rw [kd_123]; rfl) hpu_at) ?_
      obtain ⟨τ5, e5⟩ : ∃ μ : hpMem, μ = hpw σ 123 5 a0 := ⟨_, rfl⟩
      rw [← e5]
      have hI5 : hpInv τ5 := by rw [e5]; exact hI.w (bf_2_5 kd_123) (by omega) (by omega)
      have hF5 : ∀ j i : Nat, 169 ≤ j → τ5 j i = σ j i := fun j i h_0 => by rw [e5]; exact (hpw_fr (by omega)).trans (hF0 j i h_0)
      have hg6 : τ5 123 5 = a0 := by rw [e5]; exact hpw_eq
      refine h_return C hr hlk dX2_lookForStair_23 ?_
      exact ⟨rfl, hI5, hF5⟩
abbrev rgX2_turnFrom : Room := { frames := 3, cells := 0, slots := 0, locals := 104 }
abbrev pgX2_turnFrom (z : Nat) (σ : hpMem) (q : Nat) (a1 : Int) : Option Value → hpMem → Prop := fun r τ => (∃ x : Int, r = some (.int (hpI x)) ∧ (hpR x) ∧ (-1 ≤ x ∧ x ≤ 2000)) ∧ hpInv τ ∧ (∀ j i : Nat, 169 ≤ j → τ j i = σ j i)
set_option maxHeartbeats 4000000 in
set_option maxRecDepth 20000 in
theorem tgX2_turnFrom (l : Launch) (D : va_G) (cy : Nat → ClassId) (z : Nat) (σ : hpMem) (q : Nat) (hq : hpkd q = 3) (a1 : Int) (ha1 : hpR a1) (hI : hpInv σ) : hpM l D cy z yX2_turnFrom cX2_turnFrom 6 (some .int) rgX2_turnFrom [.ref (z + 123), .ref (z + q), .int (hpI a1)] σ (pgX2_turnFrom z σ q a1) := by
  obtain ⟨ha11, ha12⟩ := ha1
  refine hp_met rfl (Nat.le_of_ble_eq_true rfl) (fun p e s m below meth c C Z hr hlk => ?_)
  have hF0 : ∀ j i : Nat, 169 ≤ j → σ j i = σ j i := fun j i _ => rfl
  have hl_q := kb_3 hq
  refine h_aload_n C dX2_turnFrom_0 0 rfl rfl ?_
  refine h_get C O2 0 kd_123 (by decide) wd_223 dX2_turnFrom_1 fr_123_0 ?_
  refine h_aload_n C dX2_turnFrom_4 1 rfl rfl ?_
  refine h_callVN (As := [.ref (z + q)]) (rest := []) C Z yyX3_become nw_801 (tgX3_become l D cy z _ 124 kd_124 q hq hI) kd_124 rfl rfl ⟨rfl, rfl, Nat.le_of_ble_eq_true rfl, Nat.le_of_ble_eq_true rfl⟩ ⟨Nat.le_of_ble_eq_true rfl, Nat.le_of_ble_eq_true rfl⟩ (Nat.le_of_ble_eq_true rfl) dX2_turnFrom_5 (fun r1 τ1 hp1 => ?_)
  obtain ⟨rfl, hI1, hG1⟩ := hp1
  have hF1 : ∀ j i : Nat, 169 ≤ j → τ1 j i = σ j i := fun j i h_0 => (hG1 j i (by omega)).trans (hF0 j i h_0)
  show hpV _ _ _ _ _ _ _ _ _ _ _ _ _ _ _ _ _ _ _ _ _ []
  refine h_aload_n C dX2_turnFrom_8 0 rfl rfl ?_
  refine h_get C O2 1 kd_123 (by decide) wd_224 dX2_turnFrom_9 fr_123_1 ?_
  refine h_aload_n C dX2_turnFrom_12 1 rfl rfl ?_
  refine h_callVN (As := [.ref (z + q)]) (rest := []) C Z yyX3_become nw_801 (tgX3_become l D cy z _ 127 kd_127 q hq hI1) kd_127 rfl rfl ⟨rfl, rfl, Nat.le_of_ble_eq_true rfl, Nat.le_of_ble_eq_true rfl⟩ ⟨Nat.le_of_ble_eq_true rfl, Nat.le_of_ble_eq_true rfl⟩ (Nat.le_of_ble_eq_true rfl) dX2_turnFrom_13 (fun r2 τ2 hp2 => ?_)
  obtain ⟨rfl, hI2, hG2⟩ := hp2
  have hF2 : ∀ j i : Nat, 169 ≤ j → τ2 j i = σ j i := fun j i h_0 => (hG2 j i (by omega)).trans (hF1 j i h_0)
  show hpV _ _ _ _ _ _ _ _ _ _ _ _ _ _ _ _ _ _ _ _ _ []
  refine h_iconst C dX2_turnFrom_16 ?_
  refine h_istore_n (lv' := [(3, .int (hpI 1)), (0, .ref (z + 123)), (1, .ref (z + q)), (2, .int (hpI a1))]) C dX2_turnFrom_17 rfl (by decide) rfl ?_
  refine h_iconst C dX2_turnFrom_18 ?_
  refine h_istore (lv' := [(4, .int (hpI 0)), (3, .int (hpI 1)), (0, .ref (z + 123)), (1, .ref (z + q)), (2, .int (hpI a1))]) C dX2_turnFrom_19 (by decide) rfl ?_
  refine h_iconst C dX2_turnFrom_21 ?_
  refine h_istore (lv' := [(5, .int (hpI 0)), (4, .int (hpI 0)), (3, .int (hpI 1)), (0, .ref (z + 123)), (1, .ref (z + q)), (2, .int (hpI a1))]) C dX2_turnFrom_22 (by decide) rfl ?_
  have L3 : ∀ (n3 : Nat) (τ3 : hpMem) (w3_3 : Int) (w3_4 : Int) (w3_5 : Int), -2147483648 ≤ w3_3 → w3_3 ≤ 2147483647 → 0 ≤ w3_4 → w3_4 ≤ 4100 → 0 ≤ w3_5 → w3_5 ≤ 4100 → w3_4 ≤ w3_5 → hpInv τ3 → (∀ j i : Nat, 169 ≤ j → τ3 j i = σ j i) → (4101 - w3_5) < (n3 : Int) → hpF p l e rgX2_turnFrom s m [.ref (z + 123), .ref (z + q), .int (hpI a1)] below meth c 6 D cy z (pgX2_turnFrom z σ q a1) τ3 24 [(0, .ref (z + 123)), (1, .ref (z + q)), (2, .int (hpI a1)), (3, .int (hpI w3_3)), (4, .int (hpI w3_4)), (5, .int (hpI w3_5))] [] := by
    intro n3
    induction n3 with
    | zero => intro τ3 w3_3 w3_4 w3_5 hv3_0 hv3_1 hv3_2 hv3_3 hv3_4 hv3_5 hv3_6 hI3 hF3 hm3; exfalso; omega
    | succ n3 ih3 =>
      intro τ3 w3_3 w3_4 w3_5 hv3_0 hv3_1 hv3_2 hv3_3 hv3_4 hv3_5 hv3_6 hI3 hF3 hm3
      refine h_iload C dX2_turnFrom_24 5 rfl ?_
      refine h_sipush C dX2_turnFrom_26 (by decide) ?_
      refine h_icmp_ge (tgt := 102) C dX2_turnFrom_29 (by decide) ⟨by omega, by omega⟩ ⟨by decide, by decide⟩ (fun h4 => ?_) (fun h4 => ?_)
      · refine h_iconst C dX2_turnFrom_102 ?_
        refine h_ireturn C hr hlk dX2_turnFrom_103 ?_
        exact ⟨⟨_, rfl, ⟨by decide, by decide⟩, by omega⟩, hI3, hF3⟩
      · refine h_aload_n C dX2_turnFrom_32 0 rfl rfl ?_
        refine h_get C O2 1 kd_123 (by decide) wd_224 dX2_turnFrom_33 fr_123_1 ?_
        refine h_iload_n C dX2_turnFrom_36 2 rfl rfl ?_
        refine h_callVN (As := [.int (hpI a1)]) (rest := []) C Z yyX3_step nw_802 (tgX3_step l D cy z _ 127 kd_127 a1 ⟨by omega, by omega⟩ hI3) kd_127 rfl rfl ⟨rfl, rfl, Nat.le_of_ble_eq_true rfl, Nat.le_of_ble_eq_true rfl⟩ ⟨Nat.le_of_ble_eq_true rfl, Nat.le_of_ble_eq_true rfl⟩ (Nat.le_of_ble_eq_true rfl) dX2_turnFrom_37 (fun r5 τ5 hp5 => ?_)
        obtain ⟨rfl, hI5, hG5⟩ := hp5
        have hF5 : ∀ j i : Nat, 169 ≤ j → τ5 j i = σ j i := fun j i h_0 => (hG5 j i (by omega)).trans (hF3 j i h_0)
        show hpV _ _ _ _ _ _ _ _ _ _ _ _ _ _ _ _ _ _ _ _ _ []
        refine h_iinc (lv' := [(4, .int (hpI (w3_4 + 1))), (0, .ref (z + 123)), (1, .ref (z + q)), (2, .int (hpI a1)), (3, .int (hpI w3_3)), (5, .int (hpI w3_5))]) C dX2_turnFrom_40 4 rfl rfl (by decide) rfl ?_
        refine h_aload_n C dX2_turnFrom_43 1 rfl rfl ?_
        refine h_get C O2 1 kd_123 (by decide) wd_224 dX2_turnFrom_44 fr_123_1 ?_
        refine h_aload_n C dX2_turnFrom_47 1 rfl rfl ?_
        refine h_get C O2 0 kd_123 (by decide) wd_223 dX2_turnFrom_48 fr_123_0 ?_
        refine h_callVN (As := [.ref (z + 124)]) (rest := []) C Z yyX3_alike nw_803 (tgX3_alike l D cy z _ 127 kd_127 124 kd_124 hI5) kd_127 rfl rfl ⟨rfl, rfl, Nat.le_of_ble_eq_true rfl, Nat.le_of_ble_eq_true rfl⟩ ⟨Nat.le_of_ble_eq_true rfl, Nat.le_of_ble_eq_true rfl⟩ (Nat.le_of_ble_eq_true rfl) dX2_turnFrom_51 (fun r6 τ6 hp6 => ?_)
        obtain ⟨⟨x6, rfl, ⟨hx6a, hx6b⟩⟩, rfl⟩ := hp6
        show hpV _ _ _ _ _ _ _ _ _ _ _ _ _ _ _ _ _ _ _ _ _ (_ :: _)
        refine h_if_eq (tgt := 72) C dX2_turnFrom_54 (by decide) ⟨by omega, by omega⟩ (fun h7 => ?_) (fun h7 => ?_)
        · refine h_iload C dX2_turnFrom_72 0 rfl ?_
          refine h_iload_n C dX2_turnFrom_74 4 rfl rfl ?_
          refine h_icmp_ne (tgt := 96) C dX2_turnFrom_75 (by decide) ⟨by omega, by omega⟩ ⟨by omega, by omega⟩ (fun h8 => ?_) (fun h8 => ?_)
          · refine h_iinc (lv' := [(5, .int (hpI (w3_5 + 1))), (4, .int (hpI (w3_4 + 1))), (0, .ref (z + 123)), (1, .ref (z + q)), (2, .int (hpI a1)), (3, .int (hpI w3_3))]) C dX2_turnFrom_96 5 rfl rfl (by decide) rfl ?_
            refine h_goto (tgt := 24) C dX2_turnFrom_99 (by decide) ?_
            exact hp_sub [2, 3, 4, 5, 1, 0] rfl (ih3 _ w3_3 (w3_4 + 1) (w3_5 + 1) (by omega) (by omega) (by omega) (by omega) (by omega) (by omega) (by omega) hI5 hF5 (by omega))
          · refine h_aload_n C dX2_turnFrom_78 1 rfl rfl ?_
            refine h_get C O2 0 kd_123 (by decide) wd_223 dX2_turnFrom_79 fr_123_0 ?_
            refine h_aload_n C dX2_turnFrom_82 1 rfl rfl ?_
            refine h_get C O2 1 kd_123 (by decide) wd_224 dX2_turnFrom_83 fr_123_1 ?_
            refine h_callVN (As := [.ref (z + 127)]) (rest := []) C Z yyX3_become nw_801 (tgX3_become l D cy z _ 124 kd_124 127 kd_127 hI5) kd_124 rfl rfl ⟨rfl, rfl, Nat.le_of_ble_eq_true rfl, Nat.le_of_ble_eq_true rfl⟩ ⟨Nat.le_of_ble_eq_true rfl, Nat.le_of_ble_eq_true rfl⟩ (Nat.le_of_ble_eq_true rfl) dX2_turnFrom_86 (fun r9 τ9 hp9 => ?_)
            obtain ⟨rfl, hI9, hG9⟩ := hp9
            have hF9 : ∀ j i : Nat, 169 ≤ j → τ9 j i = σ j i := fun j i h_0 => (hG9 j i (by omega)).trans (hF5 j i h_0)
            show hpV _ _ _ _ _ _ _ _ _ _ _ _ _ _ _ _ _ _ _ _ _ []
            refine h_iload_n C dX2_turnFrom_89 4 rfl rfl ?_
            refine h_iconst C dX2_turnFrom_90 ?_
            refine h_imul C dX2_turnFrom_91 rfl ?_
            refine h_istore_n (lv' := [(3, .int (hpI (w3_3 * 2))), (4, .int (hpI (w3_4 + 1))), (0, .ref (z + 123)), (1, .ref (z + q)), (2, .int (hpI a1)), (5, .int (hpI w3_5))]) C dX2_turnFrom_92 rfl (by decide) rfl ?_
            refine h_iconst C dX2_turnFrom_93 ?_
            refine h_istore (lv' := [(4, .int (hpI 0)), (3, .int (hpI (w3_3 * 2))), (0, .ref (z + 123)), (1, .ref (z + q)), (2, .int (hpI a1)), (5, .int (hpI w3_5))]) C dX2_turnFrom_94 (by decide) rfl ?_
            refine h_iinc (lv' := [(5, .int (hpI (w3_5 + 1))), (4, .int (hpI 0)), (3, .int (hpI (w3_3 * 2))), (0, .ref (z + 123)), (1, .ref (z + q)), (2, .int (hpI a1))]) C dX2_turnFrom_96 5 rfl rfl (by decide) rfl ?_
            refine h_goto (tgt := 24) C dX2_turnFrom_99 (by decide) ?_
            exact hp_sub [3, 4, 5, 2, 1, 0] rfl (ih3 _ (w3_3 * 2) 0 (w3_5 + 1) (by omega) (by omega) (by omega) (by omega) (by omega) (by omega) (by omega) hI9 hF9 (by omega))
        · refine h_iload C dX2_turnFrom_57 0 rfl ?_
          refine h_sipush C dX2_turnFrom_59 (by decide) ?_
          refine h_icmp_gt (tgt := 70) C dX2_turnFrom_62 (by decide) ⟨by omega, by omega⟩ ⟨by decide, by decide⟩ (fun h10 => ?_) (fun h10 => ?_)
          · refine h_iconst C dX2_turnFrom_70 ?_
            refine h_ireturn C hr hlk dX2_turnFrom_71 ?_
            exact ⟨⟨_, rfl, ⟨by decide, by decide⟩, by omega⟩, hI5, hF5⟩
          · refine h_iload C dX2_turnFrom_65 0 rfl ?_
            refine h_goto (tgt := 71) C dX2_turnFrom_67 (by decide) ?_
            refine h_ireturn C hr hlk dX2_turnFrom_71 ?_
            exact ⟨⟨_, rfl, ⟨by omega, by omega⟩, by omega⟩, hI5, hF5⟩
  exact hp_sub [3, 4, 5, 2, 1, 0] rfl (L3 8589934592 _ 1 0 0 (by omega) (by omega) (by omega) (by omega) (by omega) (by omega) (by omega) hI2 hF2 (by omega))
abbrev rgX2_stepsAheadOfRing : Room := { frames := 3, cells := 0, slots := 0, locals := 104 }
abbrev pgX2_stepsAheadOfRing (z : Nat) (σ : hpMem) (q : Nat) (a1 : Int) : Option Value → hpMem → Prop := fun r τ => (∃ x : Int, r = some (.int (hpI x)) ∧ (hpR x)) ∧ hpInv τ ∧ (∀ j i : Nat, 169 ≤ j → τ j i = σ j i)
set_option maxHeartbeats 4000000 in
set_option maxRecDepth 20000 in
theorem tgX2_stepsAheadOfRing (l : Launch) (D : va_G) (cy : Nat → ClassId) (z : Nat) (σ : hpMem) (q : Nat) (hq : hpkd q = 3) (a1 : Int) (ha1 : hpR a1) (hI : hpInv σ) : hpM l D cy z yX2_stepsAheadOfRing cX2_stepsAheadOfRing 4 (some .int) rgX2_stepsAheadOfRing [.ref (z + 123), .ref (z + q), .int (hpI a1)] σ (pgX2_stepsAheadOfRing z σ q a1) := by
  obtain ⟨ha11, ha12⟩ := ha1
  refine hp_met rfl (Nat.le_of_ble_eq_true rfl) (fun p e s m below meth c C Z hr hlk => ?_)
  have hF0 : ∀ j i : Nat, 169 ≤ j → σ j i = σ j i := fun j i _ => rfl
  have hl_q := kb_3 hq
  refine h_aload_n C dX2_stepsAheadOfRing_0 0 rfl rfl ?_
  refine h_iconst C dX2_stepsAheadOfRing_1 ?_
  refine h_put C O2 5 kd_123 (by decide) rfl wd_231 dX2_stepsAheadOfRing_2 rfl rfl (hp_fvI (by rw [kd_123]; rfl) hpu_at) ?_
  obtain ⟨τ1, e1⟩ : ∃ μ : hpMem, μ = hpw σ 123 5 (-1) := ⟨_, rfl⟩
  rw [← e1]
  have hI1 : hpInv τ1 := by rw [e1]; exact hI.w (bf_2_5 kd_123) (by omega) (by omega)
  have hF1 : ∀ j i : Nat, 169 ≤ j → τ1 j i = σ j i := fun j i h_0 => by rw [e1]; exact (hpw_fr (by omega)).trans (hF0 j i h_0)
  have hg2 : τ1 123 5 = (-1) := by rw [e1]; exact hpw_eq
  refine h_aload_n C dX2_stepsAheadOfRing_5 0 rfl rfl ?_
  refine h_get C O2 0 kd_123 (by decide) wd_223 dX2_stepsAheadOfRing_6 fr_123_0 ?_
  refine h_aload_n C dX2_stepsAheadOfRing_9 1 rfl rfl ?_
  refine h_callVN (As := [.ref (z + q)]) (rest := []) C Z yyX3_become nw_801 (tgX3_become l D cy z _ 124 kd_124 q hq hI1) kd_124 rfl rfl ⟨rfl, rfl, Nat.le_of_ble_eq_true rfl, Nat.le_of_ble_eq_true rfl⟩ ⟨Nat.le_of_ble_eq_true rfl, Nat.le_of_ble_eq_true rfl⟩ (Nat.le_of_ble_eq_true rfl) dX2_stepsAheadOfRing_10 (fun r3 τ3 hp3 => ?_)
  obtain ⟨rfl, hI3, hG3⟩ := hp3
  have hF3 : ∀ j i : Nat, 169 ≤ j → τ3 j i = σ j i := fun j i h_0 => (hG3 j i (by omega)).trans (hF1 j i h_0)
  show hpV _ _ _ _ _ _ _ _ _ _ _ _ _ _ _ _ _ _ _ _ _ []
  refine h_aload_n C dX2_stepsAheadOfRing_13 0 rfl rfl ?_
  refine h_get C O2 1 kd_123 (by decide) wd_224 dX2_stepsAheadOfRing_14 fr_123_1 ?_
  refine h_aload_n C dX2_stepsAheadOfRing_17 1 rfl rfl ?_
  refine h_callVN (As := [.ref (z + q)]) (rest := []) C Z yyX3_become nw_801 (tgX3_become l D cy z _ 127 kd_127 q hq hI3) kd_127 rfl rfl ⟨rfl, rfl, Nat.le_of_ble_eq_true rfl, Nat.le_of_ble_eq_true rfl⟩ ⟨Nat.le_of_ble_eq_true rfl, Nat.le_of_ble_eq_true rfl⟩ (Nat.le_of_ble_eq_true rfl) dX2_stepsAheadOfRing_18 (fun r4 τ4 hp4 => ?_)
  obtain ⟨rfl, hI4, hG4⟩ := hp4
  have hF4 : ∀ j i : Nat, 169 ≤ j → τ4 j i = σ j i := fun j i h_0 => (hG4 j i (by omega)).trans (hF3 j i h_0)
  show hpV _ _ _ _ _ _ _ _ _ _ _ _ _ _ _ _ _ _ _ _ _ []
  refine h_iconst C dX2_stepsAheadOfRing_21 ?_
  refine h_istore_n (lv' := [(3, .int (hpI 0)), (0, .ref (z + 123)), (1, .ref (z + q)), (2, .int (hpI a1))]) C dX2_stepsAheadOfRing_22 rfl (by decide) rfl ?_
  have L5 : ∀ (n5 : Nat) (τ5 : hpMem) (w5_3 : Int), 0 ≤ w5_3 → w5_3 ≤ 2147483647 → hpInv τ5 → (∀ j i : Nat, 169 ≤ j → τ5 j i = σ j i) → (4294967296 - w5_3) < (n5 : Int) → hpF p l e rgX2_stepsAheadOfRing s m [.ref (z + 123), .ref (z + q), .int (hpI a1)] below meth c 4 D cy z (pgX2_stepsAheadOfRing z σ q a1) τ5 23 [(0, .ref (z + 123)), (1, .ref (z + q)), (2, .int (hpI a1)), (3, .int (hpI w5_3))] [] := by
    intro n5
    induction n5 with
    | zero => intro τ5 w5_3 hv5_0 hv5_1 hI5 hF5 hm5; exfalso; omega
    | succ n5 ih5 =>
      intro τ5 w5_3 hv5_0 hv5_1 hI5 hF5 hm5
      refine h_iload_n C dX2_stepsAheadOfRing_23 3 rfl rfl ?_
      refine h_aload_n C dX2_stepsAheadOfRing_24 0 rfl rfl ?_
      refine h_get C O2 3 kd_123 (by decide) wd_227 dX2_stepsAheadOfRing_25 (hp_fvI (by rw [kd_123]; rfl) rfl) ?_
      obtain ⟨hr6a, hr6b⟩ := hI5.b (bf_2_3 kd_123)
      generalize hg6 : τ5 123 3 = r6 at hr6a hr6b ⊢
      refine h_icmp_ge (tgt := 45) C dX2_stepsAheadOfRing_28 (by decide) ⟨by omega, by omega⟩ ⟨by omega, by omega⟩ (fun h7 => ?_) (fun h7 => ?_)
      · refine h_iconst C dX2_stepsAheadOfRing_45 ?_
        refine h_istore_n (lv' := [(3, .int (hpI 0)), (0, .ref (z + 123)), (1, .ref (z + q)), (2, .int (hpI a1))]) C dX2_stepsAheadOfRing_46 rfl (by decide) rfl ?_
        have L8 : ∀ (n8 : Nat) (τ8 : hpMem) (w8_3 : Int), 0 ≤ w8_3 → w8_3 ≤ 2002 → hpInv τ8 → (∀ j i : Nat, 169 ≤ j → τ8 j i = σ j i) → (4294967296 - w8_3) < (n8 : Int) → hpF p l e rgX2_stepsAheadOfRing s m [.ref (z + 123), .ref (z + q), .int (hpI a1)] below meth c 4 D cy z (pgX2_stepsAheadOfRing z σ q a1) τ8 47 [(0, .ref (z + 123)), (1, .ref (z + q)), (2, .int (hpI a1)), (3, .int (hpI w8_3))] [] := by
          intro n8
          induction n8 with
          | zero => intro τ8 w8_3 hv8_0 hv8_1 hI8 hF8 hm8; exfalso; omega
          | succ n8 ih8 =>
            intro τ8 w8_3 hv8_0 hv8_1 hI8 hF8 hm8
            refine h_iload_n C dX2_stepsAheadOfRing_47 3 rfl rfl ?_
            refine h_aload_n C dX2_stepsAheadOfRing_48 0 rfl rfl ?_
            refine h_get C O2 3 kd_123 (by decide) wd_227 dX2_stepsAheadOfRing_49 (hp_fvI (by rw [kd_123]; rfl) rfl) ?_
            obtain ⟨hr9a, hr9b⟩ := hI8.b (bf_2_3 kd_123)
            generalize hg9 : τ8 123 3 = r9 at hr9a hr9b ⊢
            refine h_iadd C dX2_stepsAheadOfRing_52 rfl ?_
            refine h_sipush C dX2_stepsAheadOfRing_53 (by decide) ?_
            refine h_icmp_gt (tgt := 102) C dX2_stepsAheadOfRing_56 (by decide) ⟨by omega, by omega⟩ ⟨by decide, by decide⟩ (fun h10 => ?_) (fun h10 => ?_)
            · refine h_iconst C dX2_stepsAheadOfRing_102 ?_
              refine h_ireturn C hr hlk dX2_stepsAheadOfRing_103 ?_
              exact ⟨⟨_, rfl, ⟨by decide, by decide⟩⟩, hI8, hF8⟩
            · refine h_aload_n C dX2_stepsAheadOfRing_59 0 rfl rfl ?_
              refine h_get C O2 0 kd_123 (by decide) wd_223 dX2_stepsAheadOfRing_60 fr_123_0 ?_
              refine h_aload_n C dX2_stepsAheadOfRing_63 0 rfl rfl ?_
              refine h_get C O2 1 kd_123 (by decide) wd_224 dX2_stepsAheadOfRing_64 fr_123_1 ?_
              refine h_callVN (As := [.ref (z + 127)]) (rest := []) C Z yyX3_alike nw_803 (tgX3_alike l D cy z _ 124 kd_124 127 kd_127 hI8) kd_124 rfl rfl ⟨rfl, rfl, Nat.le_of_ble_eq_true rfl, Nat.le_of_ble_eq_true rfl⟩ ⟨Nat.le_of_ble_eq_true rfl, Nat.le_of_ble_eq_true rfl⟩ (Nat.le_of_ble_eq_true rfl) dX2_stepsAheadOfRing_67 (fun r11 τ11 hp11 => ?_)
              obtain ⟨⟨x11, rfl, ⟨hx11a, hx11b⟩⟩, rfl⟩ := hp11
              show hpV _ _ _ _ _ _ _ _ _ _ _ _ _ _ _ _ _ _ _ _ _ (_ :: _)
              refine h_if_eq (tgt := 75) C dX2_stepsAheadOfRing_70 (by decide) ⟨by omega, by omega⟩ (fun h12 => ?_) (fun h12 => ?_)
              · refine h_aload_n C dX2_stepsAheadOfRing_75 0 rfl rfl ?_
                refine h_iload_n C dX2_stepsAheadOfRing_76 3 rfl rfl ?_
                refine h_callV (As := [.int (hpI w8_3)]) (rest := []) C Z yyX2_lookForStair wd_808 (tgX2_lookForStair l D cy z _ w8_3 ⟨by omega, by omega⟩ hI8) kd_123 rfl rfl ⟨rfl, rfl, Nat.le_of_ble_eq_true rfl, Nat.le_of_ble_eq_true rfl⟩ ⟨Nat.le_of_ble_eq_true rfl, Nat.le_of_ble_eq_true rfl⟩ (Nat.le_of_ble_eq_true rfl) dX2_stepsAheadOfRing_77 (fun r13 τ13 hp13 => ?_)
                obtain ⟨rfl, hI13, hG13⟩ := hp13
                have hF13 : ∀ j i : Nat, 169 ≤ j → τ13 j i = σ j i := fun j i h_0 => (hG13 j i (by omega)).trans (hF8 j i h_0)
                show hpV _ _ _ _ _ _ _ _ _ _ _ _ _ _ _ _ _ _ _ _ _ []
                refine h_aload_n C dX2_stepsAheadOfRing_80 0 rfl rfl ?_
                refine h_get C O2 0 kd_123 (by decide) wd_223 dX2_stepsAheadOfRing_81 fr_123_0 ?_
                refine h_iload_n C dX2_stepsAheadOfRing_84 2 rfl rfl ?_
                refine h_callVN (As := [.int (hpI a1)]) (rest := []) C Z yyX3_step nw_802 (tgX3_step l D cy z _ 124 kd_124 a1 ⟨by omega, by omega⟩ hI13) kd_124 rfl rfl ⟨rfl, rfl, Nat.le_of_ble_eq_true rfl, Nat.le_of_ble_eq_true rfl⟩ ⟨Nat.le_of_ble_eq_true rfl, Nat.le_of_ble_eq_true rfl⟩ (Nat.le_of_ble_eq_true rfl) dX2_stepsAheadOfRing_85 (fun r14 τ14 hp14 => ?_)
                obtain ⟨rfl, hI14, hG14⟩ := hp14
                have hF14 : ∀ j i : Nat, 169 ≤ j → τ14 j i = σ j i := fun j i h_0 => (hG14 j i (by omega)).trans (hF13 j i h_0)
                show hpV _ _ _ _ _ _ _ _ _ _ _ _ _ _ _ _ _ _ _ _ _ []
                refine h_aload_n C dX2_stepsAheadOfRing_88 0 rfl rfl ?_
                refine h_get C O2 1 kd_123 (by decide) wd_224 dX2_stepsAheadOfRing_89 fr_123_1 ?_
                refine h_iload_n C dX2_stepsAheadOfRing_92 2 rfl rfl ?_
                refine h_callVN (As := [.int (hpI a1)]) (rest := []) C Z yyX3_step nw_802 (tgX3_step l D cy z _ 127 kd_127 a1 ⟨by omega, by omega⟩ hI14) kd_127 rfl rfl ⟨rfl, rfl, Nat.le_of_ble_eq_true rfl, Nat.le_of_ble_eq_true rfl⟩ ⟨Nat.le_of_ble_eq_true rfl, Nat.le_of_ble_eq_true rfl⟩ (Nat.le_of_ble_eq_true rfl) dX2_stepsAheadOfRing_93 (fun r15 τ15 hp15 => ?_)
                obtain ⟨rfl, hI15, hG15⟩ := hp15
                have hF15 : ∀ j i : Nat, 169 ≤ j → τ15 j i = σ j i := fun j i h_0 => (hG15 j i (by omega)).trans (hF14 j i h_0)
                show hpV _ _ _ _ _ _ _ _ _ _ _ _ _ _ _ _ _ _ _ _ _ []
                refine h_iinc (lv' := [(3, .int (hpI (w8_3 + 1))), (0, .ref (z + 123)), (1, .ref (z + q)), (2, .int (hpI a1))]) C dX2_stepsAheadOfRing_96 3 rfl rfl (by decide) rfl ?_
                refine h_goto (tgt := 47) C dX2_stepsAheadOfRing_99 (by decide) ?_
                exact hp_sub [1, 2, 3, 0] rfl (ih8 _ (w8_3 + 1) (by omega) (by omega) hI15 hF15 (by omega))
              · refine h_iload_n C dX2_stepsAheadOfRing_73 3 rfl rfl ?_
                refine h_ireturn C hr hlk dX2_stepsAheadOfRing_74 ?_
                exact ⟨⟨_, rfl, ⟨by omega, by omega⟩⟩, hI8, hF8⟩
        exact hp_sub [1, 2, 3, 0] rfl (L8 8589934592 _ 0 (by omega) (by omega) hI5 hF5 (by omega))
      · refine h_aload_n C dX2_stepsAheadOfRing_31 0 rfl rfl ?_
        refine h_get C O2 1 kd_123 (by decide) wd_224 dX2_stepsAheadOfRing_32 fr_123_1 ?_
        refine h_iload_n C dX2_stepsAheadOfRing_35 2 rfl rfl ?_
        refine h_callVN (As := [.int (hpI a1)]) (rest := []) C Z yyX3_step nw_802 (tgX3_step l D cy z _ 127 kd_127 a1 ⟨by omega, by omega⟩ hI5) kd_127 rfl rfl ⟨rfl, rfl, Nat.le_of_ble_eq_true rfl, Nat.le_of_ble_eq_true rfl⟩ ⟨Nat.le_of_ble_eq_true rfl, Nat.le_of_ble_eq_true rfl⟩ (Nat.le_of_ble_eq_true rfl) dX2_stepsAheadOfRing_36 (fun r16 τ16 hp16 => ?_)
        obtain ⟨rfl, hI16, hG16⟩ := hp16
        have hF16 : ∀ j i : Nat, 169 ≤ j → τ16 j i = σ j i := fun j i h_0 => (hG16 j i (by omega)).trans (hF5 j i h_0)
        show hpV _ _ _ _ _ _ _ _ _ _ _ _ _ _ _ _ _ _ _ _ _ []
        refine h_iinc (lv' := [(3, .int (hpI (w5_3 + 1))), (0, .ref (z + 123)), (1, .ref (z + q)), (2, .int (hpI a1))]) C dX2_stepsAheadOfRing_39 3 rfl rfl (by decide) rfl ?_
        refine h_goto (tgt := 23) C dX2_stepsAheadOfRing_42 (by decide) ?_
        exact hp_sub [1, 2, 3, 0] rfl (ih5 _ (w5_3 + 1) (by omega) (by omega) hI16 hF16 (by omega))
  exact hp_sub [1, 2, 3, 0] rfl (L5 8589934592 _ 0 (by omega) (by omega) hI4 hF4 (by omega))
abbrev rgX2_follow : Room := { frames := 4, cells := 0, slots := 0, locals := 129 }
abbrev pgX2_follow (z : Nat) (σ : hpMem) (q : Nat) (a1 : Int) : Option Value → hpMem → Prop := fun r τ => r = none ∧ hpInv τ ∧ (∀ j i : Nat, 169 ≤ j → τ j i = σ j i)
set_option maxHeartbeats 4000000 in
set_option maxRecDepth 20000 in
theorem tgX2_follow (l : Launch) (D : va_G) (cy : Nat → ClassId) (z : Nat) (σ : hpMem) (q : Nat) (hq : hpkd q = 3) (a1 : Int) (ha1 : hpR a1) (hI : hpInv σ) : hpM l D cy z yX2_follow cX2_follow 4 none rgX2_follow [.ref (z + 123), .ref (z + q), .int (hpI a1)] σ (pgX2_follow z σ q a1) := by
  obtain ⟨ha11, ha12⟩ := ha1
  refine hp_met rfl (Nat.le_of_ble_eq_true rfl) (fun p e s m below meth c C Z hr hlk => ?_)
  have hF0 : ∀ j i : Nat, 169 ≤ j → σ j i = σ j i := fun j i _ => rfl
  have hl_q := kb_3 hq
  refine h_aload_n C dX2_follow_0 0 rfl rfl ?_
  refine h_aload_n C dX2_follow_1 0 rfl rfl ?_
  refine h_aload_n C dX2_follow_2 1 rfl rfl ?_
  refine h_iload_n C dX2_follow_3 2 rfl rfl ?_
  refine h_callV (As := [.ref (z + q), .int (hpI a1)]) (rest := [.ref (z + 123)]) C Z yyX2_turnFrom wd_797 (tgX2_turnFrom l D cy z _ q hq a1 ⟨by omega, by omega⟩ hI) kd_123 rfl rfl ⟨rfl, rfl, Nat.le_of_ble_eq_true rfl, Nat.le_of_ble_eq_true rfl⟩ ⟨Nat.le_of_ble_eq_true rfl, Nat.le_of_ble_eq_true rfl⟩ (Nat.le_of_ble_eq_true rfl) dX2_follow_4 (fun r1 τ1 hp1 => ?_)
  obtain ⟨⟨x1, rfl, ⟨hx1a, hx1b⟩, hx1⟩, hI1, hG1⟩ := hp1
  have hF1 : ∀ j i : Nat, 169 ≤ j → τ1 j i = σ j i := fun j i h_0 => (hG1 j i (by omega)).trans (hF0 j i h_0)
  show hpV _ _ _ _ _ _ _ _ _ _ _ _ _ _ _ _ _ _ _ _ _ (_ :: _)
  refine h_put C O2 3 kd_123 (by decide) rfl wd_227 dX2_follow_7 rfl rfl (hp_fvI (by rw [kd_123]; rfl) hpu_at) ?_
  obtain ⟨τ2, e2⟩ : ∃ μ : hpMem, μ = hpw τ1 123 3 x1 := ⟨_, rfl⟩
  rw [← e2]
  have hI2 : hpInv τ2 := by rw [e2]; exact hI1.w (bf_2_3 kd_123) (by omega) (by omega)
  have hF2 : ∀ j i : Nat, 169 ≤ j → τ2 j i = σ j i := fun j i h_0 => by rw [e2]; exact (hpw_fr (by omega)).trans (hF1 j i h_0)
  have hg3 : τ2 123 3 = x1 := by rw [e2]; exact hpw_eq
  refine h_aload_n C dX2_follow_10 0 rfl rfl ?_
  refine h_aload_n C dX2_follow_11 0 rfl rfl ?_
  refine h_get C O2 3 kd_123 (by decide) wd_227 dX2_follow_12 (hp_fvI (by rw [kd_123]; rfl) rfl) ?_
  rw [hg3]
  refine h_iconst C dX2_follow_15 ?_
  refine h_icmp_ne (tgt := 23) C dX2_follow_16 (by decide) ⟨by omega, by omega⟩ ⟨by decide, by decide⟩ (fun h4 => ?_) (fun h4 => ?_)
  · refine h_aload_n C dX2_follow_23 0 rfl rfl ?_
    refine h_aload_n C dX2_follow_24 1 rfl rfl ?_
    refine h_iload_n C dX2_follow_25 2 rfl rfl ?_
    refine h_callV (As := [.ref (z + q), .int (hpI a1)]) (rest := [.ref (z + 123)]) C Z yyX2_stepsAheadOfRing wd_804 (tgX2_stepsAheadOfRing l D cy z _ q hq a1 ⟨by omega, by omega⟩ hI2) kd_123 rfl rfl ⟨rfl, rfl, Nat.le_of_ble_eq_true rfl, Nat.le_of_ble_eq_true rfl⟩ ⟨Nat.le_of_ble_eq_true rfl, Nat.le_of_ble_eq_true rfl⟩ (Nat.le_of_ble_eq_true rfl) dX2_follow_26 (fun r5 τ5 hp5 => ?_)
    obtain ⟨⟨x5, rfl, ⟨hx5a, hx5b⟩⟩, hI5, hG5⟩ := hp5
    have hF5 : ∀ j i : Nat, 169 ≤ j → τ5 j i = σ j i := fun j i h_0 => (hG5 j i (by omega)).trans (hF2 j i h_0)
    show hpV _ _ _ _ _ _ _ _ _ _ _ _ _ _ _ _ _ _ _ _ _ (_ :: _)
    refine h_put C O2 2 kd_123 (by decide) rfl wd_225 dX2_follow_29 rfl rfl (hp_fvI (by rw [kd_123]; rfl) hpu_at) ?_
    obtain ⟨τ6, e6⟩ : ∃ μ : hpMem, μ = hpw τ5 123 2 x5 := ⟨_, rfl⟩
    rw [← e6]
    have hI6 : hpInv τ6 := by rw [e6]; exact hI5.w (bf_2_2 kd_123) (by omega) (by omega)
    have hF6 : ∀ j i : Nat, 169 ≤ j → τ6 j i = σ j i := fun j i h_0 => by rw [e6]; exact (hpw_fr (by omega)).trans (hF5 j i h_0)
    have hg7 : τ6 123 2 = x5 := by rw [e6]; exact hpw_eq
    refine h_aload_n C dX2_follow_32 0 rfl rfl ?_
    refine h_iconst C dX2_follow_33 ?_
    refine h_put C O2 4 kd_123 (by decide) rfl wd_229 dX2_follow_34 rfl rfl (hp_fvI (by rw [kd_123]; rfl) hpu_at) ?_
    obtain ⟨τ8, e8⟩ : ∃ μ : hpMem, μ = hpw τ6 123 4 (-1) := ⟨_, rfl⟩
    rw [← e8]
    have hI8 : hpInv τ8 := by rw [e8]; exact hI6.w (bf_2_4 kd_123) (by omega) (by omega)
    have hF8 : ∀ j i : Nat, 169 ≤ j → τ8 j i = σ j i := fun j i h_0 => by rw [e8]; exact (hpw_fr (by omega)).trans (hF6 j i h_0)
    have hg9 : τ8 123 2 = x5 := by rw [e8]; exact (hpw_fr (Or.inr (by decide))).trans hg7
    have hg10 : τ8 123 4 = (-1) := by rw [e8]; exact hpw_eq
    refine h_aload_n C dX2_follow_37 0 rfl rfl ?_
    refine h_get C O2 2 kd_123 (by decide) wd_225 dX2_follow_38 (hp_fvI (by rw [kd_123]; rfl) rfl) ?_
    rw [hg9]
    refine h_iconst C dX2_follow_41 ?_
    refine h_icmp_ne (tgt := 56) C dX2_follow_42 (by decide) ⟨by omega, by omega⟩ ⟨by decide, by decide⟩ (fun h11 => ?_) (fun h11 => ?_)
    · refine h_iconst C dX2_follow_56 ?_
      refine h_istore_n (lv' := [(3, .int (hpI 0)), (0, .ref (z + 123)), (1, .ref (z + q)), (2, .int (hpI a1))]) C dX2_follow_57 rfl (by decide) rfl ?_
      have L12 : ∀ (n12 : Nat) (τ12 : hpMem) (w12_3 : Int), 0 ≤ w12_3 → w12_3 ≤ 2147483647 → hpInv τ12 → (∀ j i : Nat, 169 ≤ j → τ12 j i = σ j i) → (4294967296 - w12_3) < (n12 : Int) → hpF p l e rgX2_follow s m [.ref (z + 123), .ref (z + q), .int (hpI a1)] below meth c 4 D cy z (pgX2_follow z σ q a1) τ12 58 [(0, .ref (z + 123)), (1, .ref (z + q)), (2, .int (hpI a1)), (3, .int (hpI w12_3))] [] := by
        intro n12
        induction n12 with
        | zero => intro τ12 w12_3 hv12_0 hv12_1 hI12 hF12 hm12; exfalso; omega
        | succ n12 ih12 =>
          intro τ12 w12_3 hv12_0 hv12_1 hI12 hF12 hm12
          refine h_iload_n C dX2_follow_58 3 rfl rfl ?_
          refine h_aload_n C dX2_follow_59 0 rfl rfl ?_
          refine h_get C O2 3 kd_123 (by decide) wd_227 dX2_follow_60 (hp_fvI (by rw [kd_123]; rfl) rfl) ?_
          obtain ⟨hr13a, hr13b⟩ := hI12.b (bf_2_3 kd_123)
          generalize hg13 : τ12 123 3 = r13 at hr13a hr13b ⊢
          refine h_icmp_ge (tgt := 108) C dX2_follow_63 (by decide) ⟨by omega, by omega⟩ ⟨by omega, by omega⟩ (fun h14 => ?_) (fun h14 => ?_)
          · refine h_return C hr hlk dX2_follow_108 ?_
            exact ⟨rfl, hI12, hF12⟩
          · refine h_aload_n C dX2_follow_66 0 rfl rfl ?_
            refine h_aload_n C dX2_follow_67 0 rfl rfl ?_
            refine h_get C O2 4 kd_123 (by decide) wd_229 dX2_follow_68 (hp_fvI (by rw [kd_123]; rfl) rfl) ?_
            obtain ⟨hr15a, hr15b⟩ := hI12.b (bf_2_4 kd_123)
            generalize hg15 : τ12 123 4 = r15 at hr15a hr15b ⊢
            refine h_aload_n C dX2_follow_71 0 rfl rfl ?_
            refine h_get C O2 0 kd_123 (by decide) wd_223 dX2_follow_72 fr_123_0 ?_
            refine h_getN C O3 3 kd_124 (by decide) nw_161 dX2_follow_75 (hp_fvI (by rw [kd_124]; rfl) rfl) ?_
            obtain ⟨hr16a, hr16b⟩ := hI12.b (bf_3_3 kd_124)
            generalize hg16 : τ12 124 3 = r16 at hr16a hr16b ⊢
            refine h_mmax C wd_813 wd_708 wd_709 wd_15 dX2_follow_78 ⟨by omega, by omega⟩ ⟨by omega, by omega⟩ (Nat.le_of_ble_eq_true rfl) (Nat.le_of_ble_eq_true rfl) ⟨Nat.le_of_ble_eq_true rfl, Nat.le_of_ble_eq_true rfl⟩ (fun r17 hr17a hr17b hr17c => ?_)
            refine h_put C O2 4 kd_123 (by decide) rfl wd_229 dX2_follow_81 rfl rfl (hp_fvI (by rw [kd_123]; rfl) hpu_at) ?_
            obtain ⟨τ18, e18⟩ : ∃ μ : hpMem, μ = hpw τ12 123 4 r17 := ⟨_, rfl⟩
            rw [← e18]
            have hI18 : hpInv τ18 := by rw [e18]; exact hI12.w (bf_2_4 kd_123) (by omega) (by omega)
            have hF18 : ∀ j i : Nat, 169 ≤ j → τ18 j i = σ j i := fun j i h_0 => by rw [e18]; exact (hpw_fr (by omega)).trans (hF12 j i h_0)
            have hg19 : τ18 123 3 = r13 := by rw [e18]; exact (hpw_fr (Or.inr (by decide))).trans hg13
            have hg20 : τ18 124 3 = r16 := by rw [e18]; exact (hpw_fr (Or.inl (by omega))).trans hg16
            have hg21 : τ18 123 4 = r17 := by rw [e18]; exact hpw_eq
            refine h_aload_n C dX2_follow_84 0 rfl rfl ?_
            refine h_aload_n C dX2_follow_85 0 rfl rfl ?_
            refine h_get C O2 2 kd_123 (by decide) wd_225 dX2_follow_86 (hp_fvI (by rw [kd_123]; rfl) rfl) ?_
            obtain ⟨hr22a, hr22b⟩ := hI18.b (bf_2_2 kd_123)
            generalize hg22 : τ18 123 2 = r22 at hr22a hr22b ⊢
            refine h_iload_n C dX2_follow_89 3 rfl rfl ?_
            refine h_iadd C dX2_follow_90 rfl ?_
            refine hp_anyI (fun r23 hr23 => ?_)
            obtain ⟨hr23a, hr23b⟩ := hr23
            refine h_callV (As := [.int (hpI r23)]) (rest := []) C Z yyX2_lookForStair wd_808 (tgX2_lookForStair l D cy z _ r23 ⟨by omega, by omega⟩ hI18) kd_123 rfl rfl ⟨rfl, rfl, Nat.le_of_ble_eq_true rfl, Nat.le_of_ble_eq_true rfl⟩ ⟨Nat.le_of_ble_eq_true rfl, Nat.le_of_ble_eq_true rfl⟩ (Nat.le_of_ble_eq_true rfl) dX2_follow_91 (fun r24 τ24 hp24 => ?_)
            obtain ⟨rfl, hI24, hG24⟩ := hp24
            have hF24 : ∀ j i : Nat, 169 ≤ j → τ24 j i = σ j i := fun j i h_0 => (hG24 j i (by omega)).trans (hF18 j i h_0)
            show hpV _ _ _ _ _ _ _ _ _ _ _ _ _ _ _ _ _ _ _ _ _ []
            refine h_aload_n C dX2_follow_94 0 rfl rfl ?_
            refine h_get C O2 0 kd_123 (by decide) wd_223 dX2_follow_95 fr_123_0 ?_
            refine h_iload_n C dX2_follow_98 2 rfl rfl ?_
            refine h_callVN (As := [.int (hpI a1)]) (rest := []) C Z yyX3_step nw_802 (tgX3_step l D cy z _ 124 kd_124 a1 ⟨by omega, by omega⟩ hI24) kd_124 rfl rfl ⟨rfl, rfl, Nat.le_of_ble_eq_true rfl, Nat.le_of_ble_eq_true rfl⟩ ⟨Nat.le_of_ble_eq_true rfl, Nat.le_of_ble_eq_true rfl⟩ (Nat.le_of_ble_eq_true rfl) dX2_follow_99 (fun r25 τ25 hp25 => ?_)
            obtain ⟨rfl, hI25, hG25⟩ := hp25
            have hF25 : ∀ j i : Nat, 169 ≤ j → τ25 j i = σ j i := fun j i h_0 => (hG25 j i (by omega)).trans (hF24 j i h_0)
            show hpV _ _ _ _ _ _ _ _ _ _ _ _ _ _ _ _ _ _ _ _ _ []
            refine h_iinc (lv' := [(3, .int (hpI (w12_3 + 1))), (0, .ref (z + 123)), (1, .ref (z + q)), (2, .int (hpI a1))]) C dX2_follow_102 3 rfl rfl (by decide) rfl ?_
            refine h_goto (tgt := 58) C dX2_follow_105 (by decide) ?_
            exact hp_sub [1, 2, 3, 0] rfl (ih12 _ (w12_3 + 1) (by omega) (by omega) hI25 hF25 (by omega))
      exact hp_sub [1, 2, 3, 0] rfl (L12 8589934592 _ 0 (by omega) (by omega) hI8 hF8 (by omega))
    · refine h_aload_n C dX2_follow_45 0 rfl rfl ?_
      refine h_iconst C dX2_follow_46 ?_
      refine h_put C O2 3 kd_123 (by decide) rfl wd_227 dX2_follow_47 rfl rfl (hp_fvI (by rw [kd_123]; rfl) hpu_at) ?_
      obtain ⟨τ26, e26⟩ : ∃ μ : hpMem, μ = hpw τ8 123 3 (-1) := ⟨_, rfl⟩
      rw [← e26]
      have hI26 : hpInv τ26 := by rw [e26]; exact hI8.w (bf_2_3 kd_123) (by omega) (by omega)
      have hF26 : ∀ j i : Nat, 169 ≤ j → τ26 j i = σ j i := fun j i h_0 => by rw [e26]; exact (hpw_fr (by omega)).trans (hF8 j i h_0)
      have hg27 : τ26 123 2 = x5 := by rw [e26]; exact (hpw_fr (Or.inr (by decide))).trans hg9
      have hg28 : τ26 123 4 = (-1) := by rw [e26]; exact (hpw_fr (Or.inr (by decide))).trans hg10
      have hg29 : τ26 123 3 = (-1) := by rw [e26]; exact hpw_eq
      refine h_aload_n C dX2_follow_50 0 rfl rfl ?_
      refine h_iconst C dX2_follow_51 ?_
      refine h_put C O2 5 kd_123 (by decide) rfl wd_231 dX2_follow_52 rfl rfl (hp_fvI (by rw [kd_123]; rfl) hpu_at) ?_
      obtain ⟨τ30, e30⟩ : ∃ μ : hpMem, μ = hpw τ26 123 5 (-1) := ⟨_, rfl⟩
      rw [← e30]
      have hI30 : hpInv τ30 := by rw [e30]; exact hI26.w (bf_2_5 kd_123) (by omega) (by omega)
      have hF30 : ∀ j i : Nat, 169 ≤ j → τ30 j i = σ j i := fun j i h_0 => by rw [e30]; exact (hpw_fr (by omega)).trans (hF26 j i h_0)
      have hg31 : τ30 123 2 = x5 := by rw [e30]; exact (hpw_fr (Or.inr (by decide))).trans hg27
      have hg32 : τ30 123 4 = (-1) := by rw [e30]; exact (hpw_fr (Or.inr (by decide))).trans hg28
      have hg33 : τ30 123 3 = (-1) := by rw [e30]; exact (hpw_fr (Or.inr (by decide))).trans hg29
      have hg34 : τ30 123 5 = (-1) := by rw [e30]; exact hpw_eq
      refine h_return C hr hlk dX2_follow_55 ?_
      exact ⟨rfl, hI30, hF30⟩
  · refine h_iconst C dX2_follow_19 ?_
    refine h_goto (tgt := 29) C dX2_follow_20 (by decide) ?_
    refine h_put C O2 2 kd_123 (by decide) rfl wd_225 dX2_follow_29 rfl rfl (hp_fvI (by rw [kd_123]; rfl) hpu_at) ?_
    obtain ⟨τ35, e35⟩ : ∃ μ : hpMem, μ = hpw τ2 123 2 (-1) := ⟨_, rfl⟩
    rw [← e35]
    have hI35 : hpInv τ35 := by rw [e35]; exact hI2.w (bf_2_2 kd_123) (by omega) (by omega)
    have hF35 : ∀ j i : Nat, 169 ≤ j → τ35 j i = σ j i := fun j i h_0 => by rw [e35]; exact (hpw_fr (by omega)).trans (hF2 j i h_0)
    have hg36 : τ35 123 3 = x1 := by rw [e35]; exact (hpw_fr (Or.inr (by decide))).trans hg3
    have hg37 : τ35 123 2 = (-1) := by rw [e35]; exact hpw_eq
    refine h_aload_n C dX2_follow_32 0 rfl rfl ?_
    refine h_iconst C dX2_follow_33 ?_
    refine h_put C O2 4 kd_123 (by decide) rfl wd_229 dX2_follow_34 rfl rfl (hp_fvI (by rw [kd_123]; rfl) hpu_at) ?_
    obtain ⟨τ38, e38⟩ : ∃ μ : hpMem, μ = hpw τ35 123 4 (-1) := ⟨_, rfl⟩
    rw [← e38]
    have hI38 : hpInv τ38 := by rw [e38]; exact hI35.w (bf_2_4 kd_123) (by omega) (by omega)
    have hF38 : ∀ j i : Nat, 169 ≤ j → τ38 j i = σ j i := fun j i h_0 => by rw [e38]; exact (hpw_fr (by omega)).trans (hF35 j i h_0)
    have hg39 : τ38 123 3 = x1 := by rw [e38]; exact (hpw_fr (Or.inr (by decide))).trans hg36
    have hg40 : τ38 123 2 = (-1) := by rw [e38]; exact (hpw_fr (Or.inr (by decide))).trans hg37
    have hg41 : τ38 123 4 = (-1) := by rw [e38]; exact hpw_eq
    refine h_aload_n C dX2_follow_37 0 rfl rfl ?_
    refine h_get C O2 2 kd_123 (by decide) wd_225 dX2_follow_38 (hp_fvI (by rw [kd_123]; rfl) rfl) ?_
    rw [hg40]
    refine h_iconst C dX2_follow_41 ?_
    refine h_icmp_ne (tgt := 56) C dX2_follow_42 (by decide) ⟨by decide, by decide⟩ ⟨by decide, by decide⟩ (fun h42 => ?_) (fun h42 => ?_)
    · exfalso; omega
    · refine h_aload_n C dX2_follow_45 0 rfl rfl ?_
      refine h_iconst C dX2_follow_46 ?_
      refine h_put C O2 3 kd_123 (by decide) rfl wd_227 dX2_follow_47 rfl rfl (hp_fvI (by rw [kd_123]; rfl) hpu_at) ?_
      obtain ⟨τ43, e43⟩ : ∃ μ : hpMem, μ = hpw τ38 123 3 (-1) := ⟨_, rfl⟩
      rw [← e43]
      have hI43 : hpInv τ43 := by rw [e43]; exact hI38.w (bf_2_3 kd_123) (by omega) (by omega)
      have hF43 : ∀ j i : Nat, 169 ≤ j → τ43 j i = σ j i := fun j i h_0 => by rw [e43]; exact (hpw_fr (by omega)).trans (hF38 j i h_0)
      have hg44 : τ43 123 2 = (-1) := by rw [e43]; exact (hpw_fr (Or.inr (by decide))).trans hg40
      have hg45 : τ43 123 4 = (-1) := by rw [e43]; exact (hpw_fr (Or.inr (by decide))).trans hg41
      have hg46 : τ43 123 3 = (-1) := by rw [e43]; exact hpw_eq
      refine h_aload_n C dX2_follow_50 0 rfl rfl ?_
      refine h_iconst C dX2_follow_51 ?_
      refine h_put C O2 5 kd_123 (by decide) rfl wd_231 dX2_follow_52 rfl rfl (hp_fvI (by rw [kd_123]; rfl) hpu_at) ?_
      obtain ⟨τ47, e47⟩ : ∃ μ : hpMem, μ = hpw τ43 123 5 (-1) := ⟨_, rfl⟩
      rw [← e47]
      have hI47 : hpInv τ47 := by rw [e47]; exact hI43.w (bf_2_5 kd_123) (by omega) (by omega)
      have hF47 : ∀ j i : Nat, 169 ≤ j → τ47 j i = σ j i := fun j i h_0 => by rw [e47]; exact (hpw_fr (by omega)).trans (hF43 j i h_0)
      have hg48 : τ47 123 2 = (-1) := by rw [e47]; exact (hpw_fr (Or.inr (by decide))).trans hg44
      have hg49 : τ47 123 4 = (-1) := by rw [e47]; exact (hpw_fr (Or.inr (by decide))).trans hg45
      have hg50 : τ47 123 3 = (-1) := by rw [e47]; exact (hpw_fr (Or.inr (by decide))).trans hg46
      have hg51 : τ47 123 5 = (-1) := by rw [e47]; exact hpw_eq
      refine h_return C hr hlk dX2_follow_55 ?_
      exact ⟨rfl, hI47, hF47⟩
abbrev rgX0_codeOfParts : Room := { frames := 0, cells := 0, slots := 0, locals := 0 }
abbrev pgX0_codeOfParts (z : Nat) (σ : hpMem) (a0 : Int) : Option Value → hpMem → Prop := fun r τ => (∃ x : Int, r = some (.long (hpJ x)) ∧ (hpRL x)) ∧ σ = τ
set_option maxHeartbeats 4000000 in
set_option maxRecDepth 20000 in
theorem tgX0_codeOfParts (l : Launch) (D : va_G) (cy : Nat → ClassId) (z : Nat) (σ : hpMem) (a0 : Int) (ha0 : hpR a0) (hI : hpInv σ) (hu : 0 ≤ a0 ∧ a0 ≤ 14) : hpM l D cy z yX0_codeOfParts cX0_codeOfParts 5 (some .long) rgX0_codeOfParts [.ref (z + 130), .int (hpI a0)] σ (pgX0_codeOfParts z σ a0) := by
  obtain ⟨ha01, ha02⟩ := ha0
  refine hp_met rfl (Nat.le_of_ble_eq_true rfl) (fun p e s m below meth c C Z hr hlk => ?_)
  refine h_lconst C 0 dX0_codeOfParts_0 (by decide) ?_
  refine h_lstore_n (lv' := [(2, .long (hpJ 0)), (0, .ref (z + 130)), (1, .int (hpI a0))]) C dX0_codeOfParts_1 rfl (by decide) rfl ?_
  refine h_iconst C dX0_codeOfParts_2 ?_
  refine h_istore (lv' := [(4, .int (hpI 0)), (2, .long (hpJ 0)), (0, .ref (z + 130)), (1, .int (hpI a0))]) C dX0_codeOfParts_3 (by decide) rfl ?_
  have L1 : ∀ (n1 : Nat) (w1_2 : Int) (w1_4 : Int), -9223372036854775808 ≤ w1_2 → w1_2 ≤ 9223372036854775807 → 0 ≤ w1_4 → w1_4 ≤ 2147483647 → (4294967296 - w1_4) < (n1 : Int) → hpF p l e rgX0_codeOfParts s m [.ref (z + 130), .int (hpI a0)] below meth c 5 D cy z (pgX0_codeOfParts z σ a0) σ 5 [(0, .ref (z + 130)), (1, .int (hpI a0)), (2, .long (hpJ w1_2)), (4, .int (hpI w1_4))] [] := by
    intro n1
    induction n1 with
    | zero => intro w1_2 w1_4 hv1_0 hv1_1 hv1_2 hv1_3 hm1; exfalso; omega
    | succ n1 ih1 =>
      intro w1_2 w1_4 hv1_0 hv1_1 hv1_2 hv1_3 hm1
      refine h_iload C dX0_codeOfParts_5 3 rfl ?_
      refine h_bipush C dX0_codeOfParts_7 (by decide) ?_
      refine h_icmp_ge (tgt := 41) C dX0_codeOfParts_9 (by decide) ⟨by omega, by omega⟩ ⟨by decide, by decide⟩ (fun h2 => ?_) (fun h2 => ?_)
      · refine h_lload_n C dX0_codeOfParts_41 2 rfl rfl ?_
        refine h_lreturn C hr hlk dX0_codeOfParts_42 ?_
        exact ⟨⟨_, rfl, ⟨by omega, by omega⟩⟩, rfl⟩
      · refine h_lload_n C dX0_codeOfParts_12 2 rfl rfl ?_
        refine h_iconst C dX0_codeOfParts_13 ?_
        refine h_lshl_any C dX0_codeOfParts_14 (fun r3 hr3 => ?_)
        obtain ⟨hr3a, hr3b⟩ := hr3
        refine h_iload C dX0_codeOfParts_15 3 rfl ?_
        refine h_iload_n C dX0_codeOfParts_17 1 rfl rfl ?_
        refine h_icmp_ge (tgt := 31) C dX0_codeOfParts_18 (by decide) ⟨by omega, by omega⟩ ⟨by omega, by omega⟩ (fun h4 => ?_) (fun h4 => ?_)
        · refine h_iconst C dX0_codeOfParts_31 ?_
          refine h_i2l C dX0_codeOfParts_32 ⟨by decide, by decide⟩ ?_
          refine h_lor_any C dX0_codeOfParts_33 (fun r5 hr5 => ?_)
          obtain ⟨hr5a, hr5b⟩ := hr5
          refine h_lstore_n (lv' := [(2, .long (hpJ r5)), (0, .ref (z + 130)), (1, .int (hpI a0)), (4, .int (hpI w1_4))]) C dX0_codeOfParts_34 rfl (by decide) rfl ?_
          refine h_iinc (lv' := [(4, .int (hpI (w1_4 + 1))), (2, .long (hpJ r5)), (0, .ref (z + 130)), (1, .int (hpI a0))]) C dX0_codeOfParts_35 3 rfl rfl (by decide) rfl ?_
          refine h_goto (tgt := 5) C dX0_codeOfParts_38 (by decide) ?_
          exact hp_sub [2, 3, 1, 0] rfl (ih1 r5 (w1_4 + 1) (by omega) (by omega) (by omega) (by omega) (by omega))
        · refine h_aload_n C dX0_codeOfParts_21 0 rfl rfl ?_
          refine h_get C O0 6 kd_130 (by decide) wd_260 dX0_codeOfParts_22 fr_130_6 ?_
          refine h_iload C dX0_codeOfParts_25 3 rfl ?_
          refine h_iaload C dX0_codeOfParts_27 kd_137 (w1_4).toNat (Int.toNat_of_nonneg (by omega)) (by rw [ln_137]; omega) rfl ?_
          obtain ⟨hr6a, hr6b⟩ := hI.b (bo_137 _)
          generalize hg6 : σ 137 ((w1_4).toNat) = r6 at hr6a hr6b ⊢
          refine h_goto (tgt := 32) C dX0_codeOfParts_28 (by decide) ?_
          refine h_i2l C dX0_codeOfParts_32 ⟨by omega, by omega⟩ ?_
          refine h_lor_any C dX0_codeOfParts_33 (fun r7 hr7 => ?_)
          obtain ⟨hr7a, hr7b⟩ := hr7
          refine h_lstore_n (lv' := [(2, .long (hpJ r7)), (0, .ref (z + 130)), (1, .int (hpI a0)), (4, .int (hpI w1_4))]) C dX0_codeOfParts_34 rfl (by decide) rfl ?_
          refine h_iinc (lv' := [(4, .int (hpI (w1_4 + 1))), (2, .long (hpJ r7)), (0, .ref (z + 130)), (1, .int (hpI a0))]) C dX0_codeOfParts_35 3 rfl rfl (by decide) rfl ?_
          refine h_goto (tgt := 5) C dX0_codeOfParts_38 (by decide) ?_
          exact hp_sub [2, 3, 1, 0] rfl (ih1 r7 (w1_4 + 1) (by omega) (by omega) (by omega) (by omega) (by omega))
  exact hp_sub [2, 3, 1, 0] rfl (L1 8589934592 0 0 (by omega) (by omega) (by omega) (by omega) (by omega))
abbrev rgX0_nextParts : Room := { frames := 1, cells := 0, slots := 0, locals := 29 }
abbrev pgX0_nextParts (z : Nat) (σ : hpMem) (a0 : Int) : Option Value → hpMem → Prop := fun r τ => (∃ x : Int, r = some (.int (hpI x)) ∧ (hpR x) ∧ (0 ≤ x ∧ x ≤ 14)) ∧ hpInv τ ∧ (∀ j i : Nat, j ≠ 137 → τ j i = σ j i)
set_option maxHeartbeats 4000000 in
set_option maxRecDepth 20000 in
theorem tgX0_nextParts (l : Launch) (D : va_G) (cy : Nat → ClassId) (z : Nat) (σ : hpMem) (a0 : Int) (ha0 : hpR a0) (hI : hpInv σ) (hu : 0 ≤ a0 ∧ a0 ≤ 14) : hpM l D cy z yX0_nextParts cX0_nextParts 6 (some .int) rgX0_nextParts [.ref (z + 130), .int (hpI a0)] σ (pgX0_nextParts z σ a0) := by
  obtain ⟨ha01, ha02⟩ := ha0
  refine hp_met rfl (Nat.le_of_ble_eq_true rfl) (fun p e s m below meth c C Z hr hlk => ?_)
  have hF0 : ∀ j i : Nat, j ≠ 137 → σ j i = σ j i := fun j i _ => rfl
  refine h_iload_n C dX0_nextParts_0 1 rfl rfl ?_
  refine h_iconst C dX0_nextParts_1 ?_
  refine h_isub C dX0_nextParts_2 rfl ?_
  refine h_istore_n (lv' := [(2, .int (hpI (a0 - 1))), (0, .ref (z + 130)), (1, .int (hpI a0))]) C dX0_nextParts_3 rfl (by decide) rfl ?_
  refine h_iconst C dX0_nextParts_4 ?_
  refine h_istore_n (lv' := [(3, .int (hpI 0)), (2, .int (hpI (a0 - 1))), (0, .ref (z + 130)), (1, .int (hpI a0))]) C dX0_nextParts_5 rfl (by decide) rfl ?_
  have L1 : ∀ (n1 : Nat) (w1_2 : Int) (w1_3 : Int), -1 ≤ w1_2 → w1_2 ≤ 13 → 0 ≤ w1_3 → w1_3 ≤ 14 → w1_3 + w1_2 ≤ 13 → (w1_2 + 2) < (n1 : Int) → hpF p l e rgX0_nextParts s m [.ref (z + 130), .int (hpI a0)] below meth c 6 D cy z (pgX0_nextParts z σ a0) σ 6 [(0, .ref (z + 130)), (1, .int (hpI a0)), (2, .int (hpI w1_2)), (3, .int (hpI w1_3))] [] := by
    intro n1
    induction n1 with
    | zero => intro w1_2 w1_3 hv1_0 hv1_1 hv1_2 hv1_3 hv1_4 hm1; exfalso; omega
    | succ n1 ih1 =>
      intro w1_2 w1_3 hv1_0 hv1_1 hv1_2 hv1_3 hv1_4 hm1
      refine h_iload_n C dX0_nextParts_6 2 rfl rfl ?_
      refine h_if_lt (tgt := 29) C dX0_nextParts_7 (by decide) ⟨by omega, by omega⟩ (fun h2 => ?_) (fun h2 => ?_)
      · refine h_iload_n C dX0_nextParts_29 2 rfl rfl ?_
        refine h_if_ge (tgt := 35) C dX0_nextParts_30 (by decide) ⟨by omega, by omega⟩ (fun h3 => ?_) (fun h3 => ?_)
        · exfalso; omega
        · refine h_iconst C dX0_nextParts_33 ?_
          refine h_ireturn C hr hlk dX0_nextParts_34 ?_
          exact ⟨⟨_, rfl, ⟨by decide, by decide⟩, by omega⟩, hI, hF0⟩
      · refine h_aload_n C dX0_nextParts_10 0 rfl rfl ?_
        refine h_get C O0 6 kd_130 (by decide) wd_260 dX0_nextParts_11 fr_130_6 ?_
        refine h_iload_n C dX0_nextParts_14 2 rfl rfl ?_
        refine h_iaload C dX0_nextParts_15 kd_137 (w1_2).toNat (Int.toNat_of_nonneg (by omega)) (by rw [ln_137]; omega) rfl ?_
        obtain ⟨hr4a, hr4b⟩ := hI.b (bo_137 _)
        generalize hg4 : σ 137 ((w1_2).toNat) = r4 at hr4a hr4b ⊢
        refine h_iconst C dX0_nextParts_16 ?_
        refine h_icmp_ne (tgt := 29) C dX0_nextParts_17 (by decide) ⟨by omega, by omega⟩ ⟨by decide, by decide⟩ (fun h5 => ?_) (fun h5 => ?_)
        · refine h_iload_n C dX0_nextParts_29 2 rfl rfl ?_
          refine h_if_ge (tgt := 35) C dX0_nextParts_30 (by decide) ⟨by omega, by omega⟩ (fun h6 => ?_) (fun h6 => ?_)
          · refine h_aload_n C dX0_nextParts_35 0 rfl rfl ?_
            refine h_get C O0 6 kd_130 (by decide) wd_260 dX0_nextParts_36 fr_130_6 ?_
            refine h_iload_n C dX0_nextParts_39 2 rfl rfl ?_
            refine h_dup2 C rfl rfl dX0_nextParts_40 ?_
            refine h_iaload C dX0_nextParts_41 kd_137 (w1_2).toNat (Int.toNat_of_nonneg (by omega)) (by rw [ln_137]; omega) rfl ?_
            rw [hg4]
            refine h_iconst C dX0_nextParts_42 ?_
            refine h_isub C dX0_nextParts_43 rfl ?_
            refine hp_anyI (fun r7 hr7 => ?_)
            obtain ⟨hr7a, hr7b⟩ := hr7
            refine h_iastore C dX0_nextParts_44 kd_137 (w1_2).toNat (Int.toNat_of_nonneg (by omega)) (by rw [ln_137]; omega) ?_
            obtain ⟨τ8, e8⟩ : ∃ μ : hpMem, μ = hpw σ 137 ((w1_2).toNat) r7 := ⟨_, rfl⟩
            rw [← e8]
            have hI8 : hpInv τ8 := by rw [e8]; exact hI.w (bo_137 _) (by omega) (by omega)
            have hF8 : ∀ j i : Nat, j ≠ 137 → τ8 j i = σ j i := fun j i h_0 => by rw [e8]; exact (hpw_fr (by omega)).trans (hF0 j i h_0)
            refine h_iinc (lv' := [(3, .int (hpI (w1_3 + 1))), (0, .ref (z + 130)), (1, .int (hpI a0)), (2, .int (hpI w1_2))]) C dX0_nextParts_45 3 rfl rfl (by decide) rfl ?_
            refine h_aload_n C dX0_nextParts_48 1 rfl rfl ?_
            refine h_get C O0 6 kd_130 (by decide) wd_260 dX0_nextParts_49 fr_130_6 ?_
            refine h_iload_n C dX0_nextParts_52 3 rfl rfl ?_
            refine h_iaload C dX0_nextParts_53 kd_137 (w1_2).toNat (Int.toNat_of_nonneg (by omega)) (by rw [ln_137]; omega) rfl ?_
            obtain ⟨hr9a, hr9b⟩ := hI8.b (bo_137 _)
            generalize hg9 : τ8 137 ((w1_2).toNat) = r9 at hr9a hr9b ⊢
            refine h_istore (lv' := [(4, .int (hpI r9)), (3, .int (hpI (w1_3 + 1))), (0, .ref (z + 130)), (1, .int (hpI a0)), (2, .int (hpI w1_2))]) C dX0_nextParts_54 (by decide) rfl ?_
            refine h_iload_n C dX0_nextParts_56 4 rfl rfl ?_
            refine h_iconst C dX0_nextParts_57 ?_
            refine h_iadd C dX0_nextParts_58 rfl ?_
            refine h_istore (lv' := [(5, .int (hpI (w1_2 + 1))), (4, .int (hpI r9)), (3, .int (hpI (w1_3 + 1))), (0, .ref (z + 130)), (1, .int (hpI a0)), (2, .int (hpI w1_2))]) C dX0_nextParts_59 (by decide) rfl ?_
            have L10 : ∀ (n10 : Nat) (τ10 : hpMem) (w10_3 : Int) (w10_5 : Int), -2147483648 ≤ w10_3 → w10_3 ≤ 2147483647 → 1 ≤ w10_5 → w10_5 ≤ 14 → hpInv τ10 → (∀ j i : Nat, j ≠ 137 → τ10 j i = σ j i) → (15 - w10_5) < (n10 : Int) → hpF p l e rgX0_nextParts s m [.ref (z + 130), .int (hpI a0)] below meth c 6 D cy z (pgX0_nextParts z σ a0) τ10 61 [(0, .ref (z + 130)), (1, .int (hpI a0)), (2, .int (hpI w1_2)), (3, .int (hpI w10_3)), (4, .int (hpI r9)), (5, .int (hpI w10_5))] [] := by
              intro n10
              induction n10 with
              | zero => intro τ10 w10_3 w10_5 hv10_0 hv10_1 hv10_2 hv10_3 hI10 hF10 hm10; exfalso; omega
              | succ n10 ih10 =>
                intro τ10 w10_3 w10_5 hv10_0 hv10_1 hv10_2 hv10_3 hI10 hF10 hm10
                refine h_iload_n C dX0_nextParts_61 3 rfl rfl ?_
                refine h_if_le (tgt := 101) C dX0_nextParts_62 (by decide) ⟨by omega, by omega⟩ (fun h11 => ?_) (fun h11 => ?_)
                · refine h_iload C dX0_nextParts_101 5 rfl ?_
                  refine h_ireturn C hr hlk dX0_nextParts_103 ?_
                  exact ⟨⟨_, rfl, ⟨by omega, by omega⟩, by omega⟩, hI10, hF10⟩
                · refine h_iload C dX0_nextParts_65 5 rfl ?_
                  refine h_bipush C dX0_nextParts_67 (by decide) ?_
                  refine h_icmp_ge (tgt := 101) C dX0_nextParts_69 (by decide) ⟨by omega, by omega⟩ ⟨by decide, by decide⟩ (fun h12 => ?_) (fun h12 => ?_)
                  · refine h_iload C dX0_nextParts_101 5 rfl ?_
                    refine h_ireturn C hr hlk dX0_nextParts_103 ?_
                    exact ⟨⟨_, rfl, ⟨by omega, by omega⟩, by omega⟩, hI10, hF10⟩
                  · refine h_aload_n C dX0_nextParts_72 0 rfl rfl ?_
                    refine h_get C O0 6 kd_130 (by decide) wd_260 dX0_nextParts_73 fr_130_6 ?_
                    refine h_iload C dX0_nextParts_76 5 rfl ?_
                    refine h_iload C dX0_nextParts_78 4 rfl ?_
                    refine h_iload_n C dX0_nextParts_80 3 rfl rfl ?_
                    refine h_mmin C wd_860 wd_514 wd_515 wd_15 dX0_nextParts_81 ⟨by omega, by omega⟩ ⟨by omega, by omega⟩ (Nat.le_of_ble_eq_true rfl) (Nat.le_of_ble_eq_true rfl) ⟨Nat.le_of_ble_eq_true rfl, Nat.le_of_ble_eq_true rfl⟩ (fun r13 hr13a hr13b hr13c => ?_)
                    refine h_iastore C dX0_nextParts_84 kd_137 (w10_5).toNat (Int.toNat_of_nonneg (by omega)) (by rw [ln_137]; omega) ?_
                    obtain ⟨τ14, e14⟩ : ∃ μ : hpMem, μ = hpw τ10 137 ((w10_5).toNat) r13 := ⟨_, rfl⟩
                    rw [← e14]
                    have hI14 : hpInv τ14 := by rw [e14]; exact hI10.w (bo_137 _) (by omega) (by omega)
                    have hF14 : ∀ j i : Nat, j ≠ 137 → τ14 j i = σ j i := fun j i h_0 => by rw [e14]; exact (hpw_fr (by omega)).trans (hF10 j i h_0)
                    refine h_iload_n C dX0_nextParts_85 3 rfl rfl ?_
                    refine h_aload_n C dX0_nextParts_86 0 rfl rfl ?_
                    refine h_get C O0 6 kd_130 (by decide) wd_260 dX0_nextParts_87 fr_130_6 ?_
                    refine h_iload C dX0_nextParts_90 5 rfl ?_
                    refine h_iaload C dX0_nextParts_92 kd_137 (w10_5).toNat (Int.toNat_of_nonneg (by omega)) (by rw [ln_137]; omega) rfl ?_
                    obtain ⟨hr15a, hr15b⟩ := hI14.b (bo_137 _)
                    generalize hg15 : τ14 137 ((w10_5).toNat) = r15 at hr15a hr15b ⊢
                    refine h_isub C dX0_nextParts_93 rfl ?_
                    refine hp_anyI (fun r16 hr16 => ?_)
                    obtain ⟨hr16a, hr16b⟩ := hr16
                    refine h_istore_n (lv' := [(3, .int (hpI r16)), (0, .ref (z + 130)), (1, .int (hpI a0)), (2, .int (hpI w1_2)), (4, .int (hpI r9)), (5, .int (hpI w10_5))]) C dX0_nextParts_94 rfl (by decide) rfl ?_
                    refine h_iinc (lv' := [(5, .int (hpI (w10_5 + 1))), (3, .int (hpI r16)), (0, .ref (z + 130)), (1, .int (hpI a0)), (2, .int (hpI w1_2)), (4, .int (hpI r9))]) C dX0_nextParts_95 5 rfl rfl (by decide) rfl ?_
                    refine h_goto (tgt := 61) C dX0_nextParts_98 (by decide) ?_
                    exact hp_sub [2, 3, 4, 1, 5, 0] rfl (ih10 _ r16 (w10_5 + 1) (by omega) (by omega) (by omega) (by omega) hI14 hF14 (by omega))
            exact hp_sub [3, 4, 5, 2, 1, 0] rfl (L10 8589934592 _ (w1_3 + 1) (w1_2 + 1) (by omega) (by omega) (by omega) (by omega) hI8 hF8 (by omega))
          · exfalso; omega
        · refine h_iinc (lv' := [(3, .int (hpI (w1_3 + 1))), (0, .ref (z + 130)), (1, .int (hpI a0)), (2, .int (hpI w1_2))]) C dX0_nextParts_20 3 rfl rfl (by decide) rfl ?_
          refine h_iinc (lv' := [(2, .int (hpI (w1_2 + (-1)))), (3, .int (hpI (w1_3 + 1))), (0, .ref (z + 130)), (1, .int (hpI a0))]) C dX0_nextParts_23 3 rfl rfl (by decide) rfl ?_
          refine h_goto (tgt := 6) C dX0_nextParts_26 (by decide) ?_
          exact hp_sub [2, 3, 0, 1] rfl (ih1 (w1_2 + (-1)) (w1_3 + 1) (by omega) (by omega) (by omega) (by omega) (by omega) (by omega))
  exact hp_sub [2, 3, 1, 0] rfl (L1 8589934592 (a0 - 1) 0 (by omega) (by omega) (by omega) (by omega) (by omega) (by omega))
abbrev rgX0_listRows : Room := { frames := 2, cells := 0, slots := 0, locals := 54 }
abbrev pgX0_listRows (z : Nat) (σ : hpMem) (a0 : Int) : Option Value → hpMem → Prop := fun r τ => r = none ∧ hpInv τ ∧ (∀ j i : Nat, 169 ≤ j → τ j i = σ j i)
set_option maxHeartbeats 4000000 in
set_option maxRecDepth 20000 in
theorem tgX0_listRows (l : Launch) (D : va_G) (cy : Nat → ClassId) (z : Nat) (σ : hpMem) (a0 : Int) (ha0 : hpR a0) (hI : hpInv σ) (hn0 : 1 ≤ a0) : hpM l D cy z yX0_listRows cX0_listRows 3 none rgX0_listRows [.ref (z + 130), .int (hpI a0)] σ (pgX0_listRows z σ a0) := by
  obtain ⟨ha01, ha02⟩ := ha0
  refine hp_met rfl (Nat.le_of_ble_eq_true rfl) (fun p e s m below meth c C Z hr hlk => ?_)
  have hF0 : ∀ j i : Nat, 169 ≤ j → σ j i = σ j i := fun j i _ => rfl
  refine h_aload_n C dX0_listRows_0 0 rfl rfl ?_
  refine h_iconst C dX0_listRows_1 ?_
  refine h_put C O0 8 kd_130 (by decide) rfl wd_262 dX0_listRows_2 rfl rfl (hp_fvI (by rw [kd_130]; rfl) hpu_at) ?_
  obtain ⟨τ1, e1⟩ : ∃ μ : hpMem, μ = hpw σ 130 8 0 := ⟨_, rfl⟩
  rw [← e1]
  have hI1 : hpInv τ1 := by rw [e1]; exact hI.w (bf_0_8 kd_130) (by omega) (by omega)
  have hF1 : ∀ j i : Nat, 169 ≤ j → τ1 j i = σ j i := fun j i h_0 => by rw [e1]; exact (hpw_fr (by omega)).trans (hF0 j i h_0)
  have hg2 : τ1 130 8 = 0 := by rw [e1]; exact hpw_eq
  refine h_aload_n C dX0_listRows_5 0 rfl rfl ?_
  refine h_get C O0 6 kd_130 (by decide) wd_260 dX0_listRows_6 fr_130_6 ?_
  refine h_iconst C dX0_listRows_9 ?_
  refine h_iload_n C dX0_listRows_10 1 rfl rfl ?_
  refine h_iastore C dX0_listRows_11 kd_137 0 rfl (by rw [ln_137]; decide) ?_
  obtain ⟨τ3, e3⟩ : ∃ μ : hpMem, μ = hpw τ1 137 0 a0 := ⟨_, rfl⟩
  rw [← e3]
  have hI3 : hpInv τ3 := by rw [e3]; exact hI1.w (bo_137 _) (by omega) (by omega)
  have hF3 : ∀ j i : Nat, 169 ≤ j → τ3 j i = σ j i := fun j i h_0 => by rw [e3]; exact (hpw_fr (by omega)).trans (hF1 j i h_0)
  have hg4 : τ3 130 8 = 0 := by rw [e3]; exact (hpw_fr (Or.inl (by omega))).trans hg2
  have hg5 : τ3 137 0 = a0 := by rw [e3]; exact hpw_eq
  refine h_iconst C dX0_listRows_12 ?_
  refine h_istore_n (lv' := [(2, .int (hpI 1)), (0, .ref (z + 130)), (1, .int (hpI a0))]) C dX0_listRows_13 rfl (by decide) rfl ?_
  have L6 : ∀ (n6 : Nat) (τ6 : hpMem) (w6_2 : Int), 0 ≤ w6_2 → w6_2 ≤ 14 → hpInv τ6 → (∀ j i : Nat, 169 ≤ j → τ6 j i = σ j i) → (136 - τ6 130 8) < (n6 : Int) → hpF p l e rgX0_listRows s m [.ref (z + 130), .int (hpI a0)] below meth c 3 D cy z (pgX0_listRows z σ a0) τ6 14 [(0, .ref (z + 130)), (1, .int (hpI a0)), (2, .int (hpI w6_2))] [] := by
    intro n6
    induction n6 with
    | zero => intro τ6 w6_2 hv6_0 hv6_1 hI6 hF6 hm6; have hz6_0 := hI6.b (bf_0_8 kd_130); exfalso; omega
    | succ n6 ih6 =>
      intro τ6 w6_2 hv6_0 hv6_1 hI6 hF6 hm6
      have hz6_0 := hI6.b (bf_0_8 kd_130)
      refine h_iload_n C dX0_listRows_14 2 rfl rfl ?_
      refine h_if_le (tgt := 61) C dX0_listRows_15 (by decide) ⟨by omega, by omega⟩ (fun h7 => ?_) (fun h7 => ?_)
      · refine h_return C hr hlk dX0_listRows_61 ?_
        exact ⟨rfl, hI6, hF6⟩
      · refine h_aload_n C dX0_listRows_18 0 rfl rfl ?_
        refine h_get C O0 8 kd_130 (by decide) wd_262 dX0_listRows_19 (hp_fvI (by rw [kd_130]; rfl) rfl) ?_
        obtain ⟨hr8a, hr8b⟩ := hI6.b (bf_0_8 kd_130)
        generalize hg8 : τ6 130 8 = r8 at hr8a hr8b ⊢
        refine h_sipush C dX0_listRows_22 (by decide) ?_
        refine h_icmp_ge (tgt := 61) C dX0_listRows_25 (by decide) ⟨by omega, by omega⟩ ⟨by decide, by decide⟩ (fun h9 => ?_) (fun h9 => ?_)
        · refine h_return C hr hlk dX0_listRows_61 ?_
          exact ⟨rfl, hI6, hF6⟩
        · refine h_aload_n C dX0_listRows_28 0 rfl rfl ?_
          refine h_get C O0 0 kd_130 (by decide) wd_254 dX0_listRows_29 fr_130_0 ?_
          refine h_aload_n C dX0_listRows_32 0 rfl rfl ?_
          refine h_get C O0 8 kd_130 (by decide) wd_262 dX0_listRows_33 (hp_fvI (by rw [kd_130]; rfl) rfl) ?_
          rw [hg8]
          refine h_aload_n C dX0_listRows_36 0 rfl rfl ?_
          refine h_iload_n C dX0_listRows_37 2 rfl rfl ?_
          refine h_callV (As := [.int (hpI w6_2)]) (rest := [.int (hpI r8), .ref (z + 131)]) C Z yyX0_codeOfParts wd_852 (tgX0_codeOfParts l D cy z _ w6_2 ⟨by omega, by omega⟩ hI6 (by omega)) kd_130 rfl rfl ⟨rfl, rfl, Nat.le_of_ble_eq_true rfl, Nat.le_of_ble_eq_true rfl⟩ ⟨Nat.le_of_ble_eq_true rfl, Nat.le_of_ble_eq_true rfl⟩ (Nat.le_of_ble_eq_true rfl) dX0_listRows_38 (fun r10 τ10 hp10 => ?_)
          obtain ⟨⟨x10, rfl, ⟨hx10a, hx10b⟩⟩, rfl⟩ := hp10
          show hpV _ _ _ _ _ _ _ _ _ _ _ _ _ _ _ _ _ _ _ _ _ (_ :: _)
          refine h_lastore C dX0_listRows_41 kd_131 (r8).toNat (Int.toNat_of_nonneg (by omega)) (by rw [ln_131]; omega) ?_
          obtain ⟨τ11, e11⟩ : ∃ μ : hpMem, μ = hpw τ6 131 ((r8).toNat) x10 := ⟨_, rfl⟩
          rw [← e11]
          have hI11 : hpInv τ11 := by rw [e11]; exact hI6.w (bo_131 _) (by omega) (by omega)
          have hF11 : ∀ j i : Nat, 169 ≤ j → τ11 j i = σ j i := fun j i h_0 => by rw [e11]; exact (hpw_fr (by omega)).trans (hF6 j i h_0)
          have hg12 : τ11 130 8 = r8 := by rw [e11]; exact (hpw_fr (Or.inl (by omega))).trans hg8
          refine h_aload_n C dX0_listRows_42 0 rfl rfl ?_
          refine h_dup C rfl dX0_listRows_43 ?_
          refine h_get C O0 8 kd_130 (by decide) wd_262 dX0_listRows_44 (hp_fvI (by rw [kd_130]; rfl) rfl) ?_
          rw [hg12]
          refine h_iconst C dX0_listRows_47 ?_
          refine h_iadd C dX0_listRows_48 rfl ?_
          refine h_put C O0 8 kd_130 (by decide) rfl wd_262 dX0_listRows_49 rfl rfl (hp_fvI (by rw [kd_130]; rfl) hpu_at) ?_
          obtain ⟨τ13, e13⟩ : ∃ μ : hpMem, μ = hpw τ11 130 8 (r8 + 1) := ⟨_, rfl⟩
          rw [← e13]
          have hI13 : hpInv τ13 := by rw [e13]; exact hI11.w (bf_0_8 kd_130) (by omega) (by omega)
          have hF13 : ∀ j i : Nat, 169 ≤ j → τ13 j i = σ j i := fun j i h_0 => by rw [e13]; exact (hpw_fr (by omega)).trans (hF11 j i h_0)
          have hg14 : τ13 130 8 = r8 + 1 := by rw [e13]; exact hpw_eq
          refine h_aload_n C dX0_listRows_52 0 rfl rfl ?_
          refine h_iload_n C dX0_listRows_53 2 rfl rfl ?_
          refine h_callV (As := [.int (hpI w6_2)]) (rest := []) C Z yyX0_nextParts wd_856 (tgX0_nextParts l D cy z _ w6_2 ⟨by omega, by omega⟩ hI13 (by omega)) kd_130 rfl rfl ⟨rfl, rfl, Nat.le_of_ble_eq_true rfl, Nat.le_of_ble_eq_true rfl⟩ ⟨Nat.le_of_ble_eq_true rfl, Nat.le_of_ble_eq_true rfl⟩ (Nat.le_of_ble_eq_true rfl) dX0_listRows_54 (fun r15 τ15 hp15 => ?_)
          obtain ⟨⟨x15, rfl, ⟨hx15a, hx15b⟩, hx15⟩, hI15, hG15⟩ := hp15
          have hF15 : ∀ j i : Nat, 169 ≤ j → τ15 j i = σ j i := fun j i h_0 => (hG15 j i (by omega)).trans (hF13 j i h_0)
          have hg16 : τ15 130 8 = r8 + 1 := (hG15 130 8 (by omega)).trans hg14
          show hpV _ _ _ _ _ _ _ _ _ _ _ _ _ _ _ _ _ _ _ _ _ (_ :: _)
          refine h_istore_n (lv' := [(2, .int (hpI x15)), (0, .ref (z + 130)), (1, .int (hpI a0))]) C dX0_listRows_57 rfl (by decide) rfl ?_
          refine h_goto (tgt := 14) C dX0_listRows_58 (by decide) ?_
          have hy6_0 := hI15.b (bf_0_8 kd_130)
          exact hp_sub [1, 2, 0] rfl (ih6 _ x15 (by omega) (by omega) hI15 hF15 (by omega))
  have hz6_0 := hI3.b (bf_0_8 kd_130)
  exact hp_sub [1, 2, 0] rfl (L6 8589934592 _ 1 (by omega) (by omega) hI3 hF3 (by omega))
abbrev rgX0_heapOfCode : Room := { frames := 0, cells := 0, slots := 0, locals := 0 }
abbrev pgX0_heapOfCode (z : Nat) (σ : hpMem) (a0 : Int) (a1 : Int) : Option Value → hpMem → Prop := fun r τ => (∃ x : Int, r = some (.int (hpI x)) ∧ (hpR x)) ∧ σ = τ
set_option maxHeartbeats 4000000 in
set_option maxRecDepth 20000 in
theorem tgX0_heapOfCode (l : Launch) (D : va_G) (cy : Nat → ClassId) (z : Nat) (σ : hpMem) (a0 : Int) (ha0 : hpRL a0) (a1 : Int) (ha1 : hpR a1) (hI : hpInv σ) : hpM l D cy z yX0_heapOfCode cX0_heapOfCode 3 (some .int) rgX0_heapOfCode [.long (hpJ a0), .int (hpI a1)] σ (pgX0_heapOfCode z σ a0 a1) := by
  obtain ⟨ha01, ha02⟩ := ha0
  obtain ⟨ha11, ha12⟩ := ha1
  refine hp_met rfl (Nat.le_of_ble_eq_true rfl) (fun p e s m below meth c C Z hr hlk => ?_)
  refine h_iload_n C dX0_heapOfCode_0 1 rfl rfl ?_
  refine h_bipush C dX0_heapOfCode_1 (by decide) ?_
  refine h_icmp_ge (tgt := 22) C dX0_heapOfCode_3 (by decide) ⟨by omega, by omega⟩ ⟨by decide, by decide⟩ (fun h1 => ?_) (fun h1 => ?_)
  · refine h_iconst C dX0_heapOfCode_22 ?_
    refine h_ireturn C hr hlk dX0_heapOfCode_23 ?_
    exact ⟨⟨_, rfl, ⟨by decide, by decide⟩⟩, rfl⟩
  · refine h_lload_n C dX0_heapOfCode_6 0 rfl rfl ?_
    refine h_iconst C dX0_heapOfCode_7 ?_
    refine h_bipush C dX0_heapOfCode_8 (by decide) ?_
    refine h_iload_n C dX0_heapOfCode_10 1 rfl rfl ?_
    refine h_isub C dX0_heapOfCode_11 rfl ?_
    refine hp_anyI (fun r2 hr2 => ?_)
    obtain ⟨hr2a, hr2b⟩ := hr2
    refine h_imul C dX0_heapOfCode_12 rfl ?_
    refine hp_anyI (fun r3 hr3 => ?_)
    obtain ⟨hr3a, hr3b⟩ := hr3
    refine h_lshr_any C dX0_heapOfCode_13 (fun r4 hr4 => ?_)
    obtain ⟨hr4a, hr4b⟩ := hr4
    refine h_ldc2 C 15 wd_873 (by decide) dX0_heapOfCode_14 ?_
    refine h_land_any C dX0_heapOfCode_17 (fun r5 hr5 => ?_)
    obtain ⟨hr5a, hr5b⟩ := hr5
    refine h_l2i C dX0_heapOfCode_18 ?_
    refine hp_anyI (fun r6 hr6 => ?_)
    obtain ⟨hr6a, hr6b⟩ := hr6
    refine h_goto (tgt := 23) C dX0_heapOfCode_19 (by decide) ?_
    refine h_ireturn C hr hlk dX0_heapOfCode_23 ?_
    exact ⟨⟨_, rfl, ⟨by omega, by omega⟩⟩, rfl⟩
abbrev rgX0_codeOf : Room := { frames := 0, cells := 0, slots := 0, locals := 0 }
abbrev pgX0_codeOf (z : Nat) (σ : hpMem) (q : Nat) : Option Value → hpMem → Prop := fun r τ => (∃ x : Int, r = some (.long (hpJ x)) ∧ (hpRL x)) ∧ σ = τ
set_option maxHeartbeats 4000000 in
set_option maxRecDepth 20000 in
theorem tgX0_codeOf (l : Launch) (D : va_G) (cy : Nat → ClassId) (z : Nat) (σ : hpMem) (q : Nat) (hq : hpkd q = 3) (hI : hpInv σ) : hpM l D cy z yX0_codeOf cX0_codeOf 6 (some .long) rgX0_codeOf [.ref (z + q)] σ (pgX0_codeOf z σ q) := by
  refine hp_met rfl (Nat.le_of_ble_eq_true rfl) (fun p e s m below meth c C Z hr hlk => ?_)
  have hl_q := kb_3 hq
  refine h_lconst C 0 dX0_codeOf_0 (by decide) ?_
  refine h_lstore_n (lv' := [(1, .long (hpJ 0)), (0, .ref (z + q))]) C dX0_codeOf_1 rfl (by decide) rfl ?_
  refine h_bipush C dX0_codeOf_2 (by decide) ?_
  refine h_istore_n (lv' := [(3, .int (hpI 14)), (1, .long (hpJ 0)), (0, .ref (z + q))]) C dX0_codeOf_4 rfl (by decide) rfl ?_
  refine h_iconst C dX0_codeOf_5 ?_
  refine h_istore (lv' := [(4, .int (hpI 0)), (3, .int (hpI 14)), (1, .long (hpJ 0)), (0, .ref (z + q))]) C dX0_codeOf_6 (by decide) rfl ?_
  have L1 : ∀ (n1 : Nat) (w1_1 : Int) (w1_3 : Int) (w1_4 : Int), -9223372036854775808 ≤ w1_1 → w1_1 ≤ 9223372036854775807 → -2147483648 ≤ w1_3 → w1_3 ≤ 14 → 0 ≤ w1_4 → w1_4 ≤ 2147483647 → (2147483648 - w1_4) < (n1 : Int) → hpF p l e rgX0_codeOf s m [.ref (z + q)] below meth c 6 D cy z (pgX0_codeOf z σ q) σ 8 [(0, .ref (z + q)), (1, .long (hpJ w1_1)), (3, .int (hpI w1_3)), (4, .int (hpI w1_4))] [] := by
    intro n1
    induction n1 with
    | zero => intro w1_1 w1_3 w1_4 hv1_0 hv1_1 hv1_2 hv1_3 hv1_4 hv1_5 hm1; exfalso; omega
    | succ n1 ih1 =>
      intro w1_1 w1_3 w1_4 hv1_0 hv1_1 hv1_2 hv1_3 hv1_4 hv1_5 hm1
      refine h_iload C dX0_codeOf_8 3 rfl ?_
      refine h_aload_n C dX0_codeOf_10 0 rfl rfl ?_
      refine h_getN C O3 2 hq (by decide) nw_158 dX0_codeOf_11 (hp_fvI (by rw [hq]; rfl) rfl) ?_
      obtain ⟨hr2a, hr2b⟩ := hI.b (bf_3_2 hq)
      generalize hg2 : σ q 2 = r2 at hr2a hr2b ⊢
      refine h_icmp_ge (tgt := 64) C dX0_codeOf_14 (by decide) ⟨by omega, by omega⟩ ⟨by omega, by omega⟩ (fun h3 => ?_) (fun h3 => ?_)
      · refine h_lload_n C dX0_codeOf_64 1 rfl rfl ?_
        refine h_iconst C dX0_codeOf_65 ?_
        refine h_iload_n C dX0_codeOf_66 2 rfl rfl ?_
        refine h_imul C dX0_codeOf_67 rfl ?_
        refine hp_anyI (fun r4 hr4 => ?_)
        obtain ⟨hr4a, hr4b⟩ := hr4
        refine h_lshl_any C dX0_codeOf_68 (fun r5 hr5 => ?_)
        obtain ⟨hr5a, hr5b⟩ := hr5
        refine h_lreturn C hr hlk dX0_codeOf_69 ?_
        exact ⟨⟨_, rfl, ⟨by omega, by omega⟩⟩, rfl⟩
      · refine h_iconst C dX0_codeOf_17 ?_
        refine h_istore (lv' := [(5, .int (hpI 0)), (0, .ref (z + q)), (1, .long (hpJ w1_1)), (3, .int (hpI w1_3)), (4, .int (hpI w1_4))]) C dX0_codeOf_18 (by decide) rfl ?_
        have L6 : ∀ (n6 : Nat) (w6_1 : Int) (w6_3 : Int) (w6_5 : Int), -9223372036854775808 ≤ w6_1 → w6_1 ≤ 9223372036854775807 → -2147483648 ≤ w6_3 → w6_3 ≤ 14 → 0 ≤ w6_5 → w6_5 ≤ 2147483647 → (2147483648 - w6_5) < (n6 : Int) → hpF p l e rgX0_codeOf s m [.ref (z + q)] below meth c 6 D cy z (pgX0_codeOf z σ q) σ 20 [(0, .ref (z + q)), (1, .long (hpJ w6_1)), (3, .int (hpI w6_3)), (4, .int (hpI w1_4)), (5, .int (hpI w6_5))] [] := by
          intro n6
          induction n6 with
          | zero => intro w6_1 w6_3 w6_5 hv6_0 hv6_1 hv6_2 hv6_3 hv6_4 hv6_5 hm6; exfalso; omega
          | succ n6 ih6 =>
            intro w6_1 w6_3 w6_5 hv6_0 hv6_1 hv6_2 hv6_3 hv6_4 hv6_5 hm6
            refine h_iload C dX0_codeOf_20 4 rfl ?_
            refine h_aload_n C dX0_codeOf_22 0 rfl rfl ?_
            refine h_getN C O3 1 hq (by decide) nw_156 dX0_codeOf_23 (fs_3_1 hq) ?_
            refine h_iload C dX0_codeOf_26 3 rfl ?_
            refine h_iaload C dX0_codeOf_28 (fa_3_1 hq) (w1_4).toNat (Int.toNat_of_nonneg (by omega)) (by rw [(fl_3_1 hq)]; omega) rfl ?_
            obtain ⟨hr7a, hr7b⟩ := hI.b (fo_3_1 hq _)
            generalize hg7 : σ (q + 2) ((w1_4).toNat) = r7 at hr7a hr7b ⊢
            refine h_icmp_ge (tgt := 58) C dX0_codeOf_29 (by decide) ⟨by omega, by omega⟩ ⟨by omega, by omega⟩ (fun h8 => ?_) (fun h8 => ?_)
            · refine h_iinc (lv' := [(4, .int (hpI (w1_4 + 1))), (0, .ref (z + q)), (1, .long (hpJ w6_1)), (3, .int (hpI w6_3)), (5, .int (hpI w6_5))]) C dX0_codeOf_58 3 rfl rfl (by decide) rfl ?_
              refine h_goto (tgt := 8) C dX0_codeOf_61 (by decide) ?_
              exact hp_sub [1, 2, 3, 0] rfl (ih1 w6_1 w6_3 (w1_4 + 1) (by omega) (by omega) (by omega) (by omega) (by omega) (by omega) (by omega))
            · refine h_iload_n C dX0_codeOf_32 2 rfl rfl ?_
              refine h_if_le (tgt := 58) C dX0_codeOf_33 (by decide) ⟨by omega, by omega⟩ (fun h9 => ?_) (fun h9 => ?_)
              · refine h_iinc (lv' := [(4, .int (hpI (w1_4 + 1))), (0, .ref (z + q)), (1, .long (hpJ w6_1)), (3, .int (hpI w6_3)), (5, .int (hpI w6_5))]) C dX0_codeOf_58 3 rfl rfl (by decide) rfl ?_
                refine h_goto (tgt := 8) C dX0_codeOf_61 (by decide) ?_
                exact hp_sub [1, 2, 3, 0] rfl (ih1 w6_1 w6_3 (w1_4 + 1) (by omega) (by omega) (by omega) (by omega) (by omega) (by omega) (by omega))
              · refine h_lload_n C dX0_codeOf_36 1 rfl rfl ?_
                refine h_iconst C dX0_codeOf_37 ?_
                refine h_lshl_any C dX0_codeOf_38 (fun r10 hr10 => ?_)
                obtain ⟨hr10a, hr10b⟩ := hr10
                refine h_aload_n C dX0_codeOf_39 0 rfl rfl ?_
                refine h_getN C O3 0 hq (by decide) nw_153 dX0_codeOf_40 (fs_3_0 hq) ?_
                refine h_iload C dX0_codeOf_43 3 rfl ?_
                refine h_iaload C dX0_codeOf_45 (fa_3_0 hq) (w1_4).toNat (Int.toNat_of_nonneg (by omega)) (by rw [(fl_3_0 hq)]; omega) rfl ?_
                obtain ⟨hr11a, hr11b⟩ := hI.b (fo_3_0 hq _)
                generalize hg11 : σ (q + 1) ((w1_4).toNat) = r11 at hr11a hr11b ⊢
                refine h_i2l C dX0_codeOf_46 ⟨by omega, by omega⟩ ?_
                refine h_lor_any C dX0_codeOf_47 (fun r12 hr12 => ?_)
                obtain ⟨hr12a, hr12b⟩ := hr12
                refine h_lstore_n (lv' := [(1, .long (hpJ r12)), (0, .ref (z + q)), (3, .int (hpI w6_3)), (4, .int (hpI w1_4)), (5, .int (hpI w6_5))]) C dX0_codeOf_48 rfl (by decide) rfl ?_
                refine h_iinc (lv' := [(3, .int (hpI (w6_3 + (-1)))), (1, .long (hpJ r12)), (0, .ref (z + q)), (4, .int (hpI w1_4)), (5, .int (hpI w6_5))]) C dX0_codeOf_49 2 rfl rfl (by decide) rfl ?_
                refine h_iinc (lv' := [(5, .int (hpI (w6_5 + 1))), (3, .int (hpI (w6_3 + (-1)))), (1, .long (hpJ r12)), (0, .ref (z + q)), (4, .int (hpI w1_4))]) C dX0_codeOf_52 4 rfl rfl (by decide) rfl ?_
                refine h_goto (tgt := 20) C dX0_codeOf_55 (by decide) ?_
                exact hp_sub [3, 2, 1, 4, 0] rfl (ih6 r12 (w6_3 + (-1)) (w6_5 + 1) (by omega) (by omega) (by omega) (by omega) (by omega) (by omega) (by omega))
        exact hp_sub [1, 2, 3, 4, 0] rfl (L6 8589934592 w1_1 w1_3 0 (by omega) (by omega) (by omega) (by omega) (by omega) (by omega) (by omega))
  exact hp_sub [3, 2, 1, 0] rfl (L1 8589934592 0 14 0 (by omega) (by omega) (by omega) (by omega) (by omega) (by omega) (by omega))
abbrev rgX0_fill : Room := { frames := 2, cells := 0, slots := 0, locals := 82 }
abbrev pgX0_fill (z : Nat) (σ : hpMem) (a0 : Int) : Option Value → hpMem → Prop := fun r τ => r = none ∧ hpInv τ ∧ (∀ j i : Nat, 169 ≤ j → τ j i = σ j i)
set_option maxHeartbeats 4000000 in
set_option maxRecDepth 20000 in
theorem tgX0_fill (l : Launch) (D : va_G) (cy : Nat → ClassId) (z : Nat) (σ : hpMem) (a0 : Int) (ha0 : hpRL a0) (hI : hpInv σ) : hpM l D cy z yX0_fill cX0_fill 4 none rgX0_fill [.ref (z + 130), .long (hpJ a0)] σ (pgX0_fill z σ a0) := by
  obtain ⟨ha01, ha02⟩ := ha0
  refine hp_met rfl (Nat.le_of_ble_eq_true rfl) (fun p e s m below meth c C Z hr hlk => ?_)
  have hF0 : ∀ j i : Nat, 169 ≤ j → σ j i = σ j i := fun j i _ => rfl
  refine h_aload_n C dX0_fill_0 0 rfl rfl ?_
  refine h_get C O0 7 kd_130 (by decide) wd_261 dX0_fill_1 fr_130_7 ?_
  refine h_callVN (As := []) (rest := []) C Z yyX3_clear nw_869 (tgX3_clear l D cy z _ 138 kd_138 hI) kd_138 rfl rfl ⟨rfl, rfl, Nat.le_of_ble_eq_true rfl, Nat.le_of_ble_eq_true rfl⟩ ⟨Nat.le_of_ble_eq_true rfl, Nat.le_of_ble_eq_true rfl⟩ (Nat.le_of_ble_eq_true rfl) dX0_fill_4 (fun r1 τ1 hp1 => ?_)
  obtain ⟨rfl, hI1, hG1⟩ := hp1
  have hF1 : ∀ j i : Nat, 169 ≤ j → τ1 j i = σ j i := fun j i h_0 => (hG1 j i (by omega)).trans (hF0 j i h_0)
  show hpV _ _ _ _ _ _ _ _ _ _ _ _ _ _ _ _ _ _ _ _ _ []
  refine h_iconst C dX0_fill_7 ?_
  refine h_istore_n (lv' := [(3, .int (hpI 0)), (0, .ref (z + 130)), (1, .long (hpJ a0))]) C dX0_fill_8 rfl (by decide) rfl ?_
  have L2 : ∀ (n2 : Nat) (τ2 : hpMem) (w2_3 : Int), 0 ≤ w2_3 → w2_3 ≤ 2147483647 → hpInv τ2 → (∀ j i : Nat, 169 ≤ j → τ2 j i = σ j i) → (4294967296 - w2_3) < (n2 : Int) → hpF p l e rgX0_fill s m [.ref (z + 130), .long (hpJ a0)] below meth c 4 D cy z (pgX0_fill z σ a0) τ2 9 [(0, .ref (z + 130)), (1, .long (hpJ a0)), (3, .int (hpI w2_3))] [] := by
    intro n2
    induction n2 with
    | zero => intro τ2 w2_3 hv2_0 hv2_1 hI2 hF2 hm2; exfalso; omega
    | succ n2 ih2 =>
      intro τ2 w2_3 hv2_0 hv2_1 hI2 hF2 hm2
      refine h_iload_n C dX0_fill_9 2 rfl rfl ?_
      refine h_bipush C dX0_fill_10 (by decide) ?_
      refine h_icmp_ge (tgt := 33) C dX0_fill_12 (by decide) ⟨by omega, by omega⟩ ⟨by decide, by decide⟩ (fun h3 => ?_) (fun h3 => ?_)
      · refine h_return C hr hlk dX0_fill_33 ?_
        exact ⟨rfl, hI2, hF2⟩
      · refine h_aload_n C dX0_fill_15 0 rfl rfl ?_
        refine h_get C O0 7 kd_130 (by decide) wd_261 dX0_fill_16 fr_130_7 ?_
        refine h_lload_n C dX0_fill_19 1 rfl rfl ?_
        refine h_iload_n C dX0_fill_20 2 rfl rfl ?_
        refine h_callS (As := [.long (hpJ a0), .int (hpI w2_3)]) (rest := [.ref (z + 138)]) C Z yyX0_heapOfCode rfl wd_870 (tgX0_heapOfCode l D cy z _ a0 ⟨by omega, by omega⟩ w2_3 ⟨by omega, by omega⟩ hI2) rfl rfl ⟨rfl, rfl, Nat.le_of_ble_eq_true rfl, Nat.le_of_ble_eq_true rfl⟩ ⟨Nat.le_of_ble_eq_true rfl, Nat.le_of_ble_eq_true rfl⟩ (Nat.le_of_ble_eq_true rfl) dX0_fill_21 (fun r4 τ4 hp4 => ?_)
        obtain ⟨⟨x4, rfl, ⟨hx4a, hx4b⟩⟩, rfl⟩ := hp4
        show hpV _ _ _ _ _ _ _ _ _ _ _ _ _ _ _ _ _ _ _ _ _ (_ :: _)
        refine h_callVN (As := [.int (hpI x4)]) (rest := []) C Z yyX3_lay nw_874 (tgX3_lay l D cy z _ 138 kd_138 x4 ⟨by omega, by omega⟩ hI2) kd_138 rfl rfl ⟨rfl, rfl, Nat.le_of_ble_eq_true rfl, Nat.le_of_ble_eq_true rfl⟩ ⟨Nat.le_of_ble_eq_true rfl, Nat.le_of_ble_eq_true rfl⟩ (Nat.le_of_ble_eq_true rfl) dX0_fill_24 (fun r5 τ5 hp5 => ?_)
        obtain ⟨rfl, hI5, hG5⟩ := hp5
        have hF5 : ∀ j i : Nat, 169 ≤ j → τ5 j i = σ j i := fun j i h_0 => (hG5 j i (by omega)).trans (hF2 j i h_0)
        show hpV _ _ _ _ _ _ _ _ _ _ _ _ _ _ _ _ _ _ _ _ _ []
        refine h_iinc (lv' := [(3, .int (hpI (w2_3 + 1))), (0, .ref (z + 130)), (1, .long (hpJ a0))]) C dX0_fill_27 2 rfl rfl (by decide) rfl ?_
        refine h_goto (tgt := 9) C dX0_fill_30 (by decide) ?_
        exact hp_sub [1, 2, 0] rfl (ih2 _ (w2_3 + 1) (by omega) (by omega) hI5 hF5 (by omega))
  exact hp_sub [1, 2, 0] rfl (L2 8589934592 _ 0 (by omega) (by omega) hI1 hF1 (by omega))
abbrev rgX0_indexOf : Room := { frames := 0, cells := 0, slots := 0, locals := 0 }
abbrev pgX0_indexOf (z : Nat) (σ : hpMem) (a0 : Int) : Option Value → hpMem → Prop := fun r τ => (∃ x : Int, r = some (.int (hpI x)) ∧ (hpR x) ∧ (0 ≤ x ∧ x ≤ 134)) ∧ σ = τ
set_option maxHeartbeats 4000000 in
set_option maxRecDepth 20000 in
theorem tgX0_indexOf (l : Launch) (D : va_G) (cy : Nat → ClassId) (z : Nat) (σ : hpMem) (a0 : Int) (ha0 : hpRL a0) (hI : hpInv σ) : hpM l D cy z yX0_indexOf cX0_indexOf 7 (some .int) rgX0_indexOf [.ref (z + 130), .long (hpJ a0)] σ (pgX0_indexOf z σ a0) := by
  obtain ⟨ha01, ha02⟩ := ha0
  refine hp_met rfl (Nat.le_of_ble_eq_true rfl) (fun p e s m below meth c C Z hr hlk => ?_)
  refine h_iconst C dX0_indexOf_0 ?_
  refine h_istore_n (lv' := [(3, .int (hpI 0)), (0, .ref (z + 130)), (1, .long (hpJ a0))]) C dX0_indexOf_1 rfl (by decide) rfl ?_
  refine h_aload_n C dX0_indexOf_2 1 rfl rfl ?_
  refine h_get C O0 8 kd_130 (by decide) wd_262 dX0_indexOf_3 (hp_fvI (by rw [kd_130]; rfl) rfl) ?_
  obtain ⟨hr1a, hr1b⟩ := hI.b (bf_0_8 kd_130)
  generalize hg1 : σ 130 8 = r1 at hr1a hr1b ⊢
  refine h_iconst C dX0_indexOf_6 ?_
  refine h_isub C dX0_indexOf_7 rfl ?_
  refine h_istore (lv' := [(4, .int (hpI (r1 - 1))), (3, .int (hpI 0)), (0, .ref (z + 130)), (1, .long (hpJ a0))]) C dX0_indexOf_8 (by decide) rfl ?_
  refine h_iconst C dX0_indexOf_10 ?_
  refine h_istore (lv' := [(5, .int (hpI 0)), (4, .int (hpI (r1 - 1))), (3, .int (hpI 0)), (0, .ref (z + 130)), (1, .long (hpJ a0))]) C dX0_indexOf_11 (by decide) rfl ?_
  have L2 : ∀ (n2 : Nat) (w2_3 : Int) (w2_4 : Int) (w2_5 : Int), 0 ≤ w2_3 → w2_3 ≤ 134 → -1 ≤ w2_4 → w2_4 ≤ 134 → 0 ≤ w2_5 → w2_5 ≤ 2147483647 → (4294967296 - w2_5) < (n2 : Int) → hpF p l e rgX0_indexOf s m [.ref (z + 130), .long (hpJ a0)] below meth c 7 D cy z (pgX0_indexOf z σ a0) σ 13 [(0, .ref (z + 130)), (1, .long (hpJ a0)), (3, .int (hpI w2_3)), (4, .int (hpI w2_4)), (5, .int (hpI w2_5))] [] := by
    intro n2
    induction n2 with
    | zero => intro w2_3 w2_4 w2_5 hv2_0 hv2_1 hv2_2 hv2_3 hv2_4 hv2_5 hm2; exfalso; omega
    | succ n2 ih2 =>
      intro w2_3 w2_4 w2_5 hv2_0 hv2_1 hv2_2 hv2_3 hv2_4 hv2_5 hm2
      refine h_iload C dX0_indexOf_13 4 rfl ?_
      refine h_sipush C dX0_indexOf_15 (by decide) ?_
      refine h_icmp_ge (tgt := 65) C dX0_indexOf_18 (by decide) ⟨by omega, by omega⟩ ⟨by decide, by decide⟩ (fun h3 => ?_) (fun h3 => ?_)
      · refine h_iload_n C dX0_indexOf_65 2 rfl rfl ?_
        refine h_ireturn C hr hlk dX0_indexOf_66 ?_
        exact ⟨⟨_, rfl, ⟨by omega, by omega⟩, by omega⟩, rfl⟩
      · refine h_iload_n C dX0_indexOf_21 2 rfl rfl ?_
        refine h_iload C dX0_indexOf_22 3 rfl ?_
        refine h_icmp_ge (tgt := 65) C dX0_indexOf_24 (by decide) ⟨by omega, by omega⟩ ⟨by omega, by omega⟩ (fun h4 => ?_) (fun h4 => ?_)
        · refine h_iload_n C dX0_indexOf_65 2 rfl rfl ?_
          refine h_ireturn C hr hlk dX0_indexOf_66 ?_
          exact ⟨⟨_, rfl, ⟨by omega, by omega⟩, by omega⟩, rfl⟩
        · refine h_iload_n C dX0_indexOf_27 2 rfl rfl ?_
          refine h_iload C dX0_indexOf_28 3 rfl ?_
          refine h_iadd C dX0_indexOf_30 rfl ?_
          refine h_iconst C dX0_indexOf_31 ?_
          refine h_idiv C dX0_indexOf_32 (by omega) (by omega) (by omega) (by omega) ?_
          refine h_istore (lv' := [(6, .int (hpI ((w2_3 + w2_4) / 2))), (0, .ref (z + 130)), (1, .long (hpJ a0)), (3, .int (hpI w2_3)), (4, .int (hpI w2_4)), (5, .int (hpI w2_5))]) C dX0_indexOf_33 (by decide) rfl ?_
          refine h_aload_n C dX0_indexOf_35 1 rfl rfl ?_
          refine h_get C O0 0 kd_130 (by decide) wd_254 dX0_indexOf_36 fr_130_0 ?_
          refine h_iload C dX0_indexOf_39 0 rfl ?_
          refine h_laload C dX0_indexOf_41 kd_131 ((w2_3 + w2_4) / 2).toNat (Int.toNat_of_nonneg (by omega)) (by rw [ln_131]; omega) rfl ?_
          obtain ⟨hr5a, hr5b⟩ := hI.b (bo_131 _)
          generalize hg5 : σ 131 (((w2_3 + w2_4) / 2).toNat) = r5 at hr5a hr5b ⊢
          refine h_lload_n C dX0_indexOf_42 2 rfl rfl ?_
          refine h_lcmp C dX0_indexOf_43 ⟨by omega, by omega⟩ ⟨by omega, by omega⟩ (fun r6 hr6 => ?_)
          refine h_if_le (tgt := 55) C dX0_indexOf_44 (by decide) ⟨by omega, by omega⟩ (fun h7 => ?_) (fun h7 => ?_)
          · refine h_iload C dX0_indexOf_55 0 rfl ?_
            refine h_istore (lv' := [(4, .int (hpI ((w2_3 + w2_4) / 2))), (6, .int (hpI ((w2_3 + w2_4) / 2))), (0, .ref (z + 130)), (1, .long (hpJ a0)), (3, .int (hpI w2_3)), (5, .int (hpI w2_5))]) C dX0_indexOf_57 (by decide) rfl ?_
            refine h_iinc (lv' := [(5, .int (hpI (w2_5 + 1))), (4, .int (hpI ((w2_3 + w2_4) / 2))), (6, .int (hpI ((w2_3 + w2_4) / 2))), (0, .ref (z + 130)), (1, .long (hpJ a0)), (3, .int (hpI w2_3))]) C dX0_indexOf_59 5 rfl rfl (by decide) rfl ?_
            refine h_goto (tgt := 13) C dX0_indexOf_62 (by decide) ?_
            exact hp_sub [3, 4, 5, 1, 0] rfl (ih2 w2_3 ((w2_3 + w2_4) / 2) (w2_5 + 1) (by omega) (by omega) (by omega) (by omega) (by omega) (by omega) (by omega))
          · refine h_iload C dX0_indexOf_47 0 rfl ?_
            refine h_iconst C dX0_indexOf_49 ?_
            refine h_iadd C dX0_indexOf_50 rfl ?_
            refine h_istore_n (lv' := [(3, .int (hpI (((w2_3 + w2_4) / 2) + 1))), (6, .int (hpI ((w2_3 + w2_4) / 2))), (0, .ref (z + 130)), (1, .long (hpJ a0)), (4, .int (hpI w2_4)), (5, .int (hpI w2_5))]) C dX0_indexOf_51 rfl (by decide) rfl ?_
            refine h_goto (tgt := 59) C dX0_indexOf_52 (by decide) ?_
            refine h_iinc (lv' := [(5, .int (hpI (w2_5 + 1))), (3, .int (hpI (((w2_3 + w2_4) / 2) + 1))), (6, .int (hpI ((w2_3 + w2_4) / 2))), (0, .ref (z + 130)), (1, .long (hpJ a0)), (4, .int (hpI w2_4))]) C dX0_indexOf_59 5 rfl rfl (by decide) rfl ?_
            refine h_goto (tgt := 13) C dX0_indexOf_62 (by decide) ?_
            exact hp_sub [3, 4, 1, 5, 0] rfl (ih2 (((w2_3 + w2_4) / 2) + 1) w2_4 (w2_5 + 1) (by omega) (by omega) (by omega) (by omega) (by omega) (by omega) (by omega))
  exact hp_sub [3, 4, 2, 1, 0] rfl (L2 8589934592 0 (r1 - 1) 0 (by omega) (by omega) (by omega) (by omega) (by omega) (by omega) (by omega))
abbrev rgX0_linkRows : Room := { frames := 3, cells := 0, slots := 0, locals := 105 }
abbrev pgX0_linkRows (z : Nat) (σ : hpMem) (a0 : Int) : Option Value → hpMem → Prop := fun r τ => r = none ∧ hpInv τ ∧ (∀ j i : Nat, 169 ≤ j → τ j i = σ j i)
set_option maxHeartbeats 4000000 in
set_option maxRecDepth 20000 in
theorem tgX0_linkRows (l : Launch) (D : va_G) (cy : Nat → ClassId) (z : Nat) (σ : hpMem) (a0 : Int) (ha0 : hpR a0) (hI : hpInv σ) : hpM l D cy z yX0_linkRows cX0_linkRows 3 none rgX0_linkRows [.ref (z + 130), .int (hpI a0)] σ (pgX0_linkRows z σ a0) := by
  obtain ⟨ha01, ha02⟩ := ha0
  refine hp_met rfl (Nat.le_of_ble_eq_true rfl) (fun p e s m below meth c C Z hr hlk => ?_)
  have hF0 : ∀ j i : Nat, 169 ≤ j → σ j i = σ j i := fun j i _ => rfl
  refine h_iconst C dX0_linkRows_0 ?_
  refine h_istore_n (lv' := [(2, .int (hpI 0)), (0, .ref (z + 130)), (1, .int (hpI a0))]) C dX0_linkRows_1 rfl (by decide) rfl ?_
  have L1 : ∀ (n1 : Nat) (τ1 : hpMem) (w1_2 : Int), 0 ≤ w1_2 → w1_2 ≤ 2147483647 → hpInv τ1 → (∀ j i : Nat, 169 ≤ j → τ1 j i = σ j i) → (4294967296 - w1_2) < (n1 : Int) → hpF p l e rgX0_linkRows s m [.ref (z + 130), .int (hpI a0)] below meth c 3 D cy z (pgX0_linkRows z σ a0) τ1 2 [(0, .ref (z + 130)), (1, .int (hpI a0)), (2, .int (hpI w1_2))] [] := by
    intro n1
    induction n1 with
    | zero => intro τ1 w1_2 hv1_0 hv1_1 hI1 hF1 hm1; exfalso; omega
    | succ n1 ih1 =>
      intro τ1 w1_2 hv1_0 hv1_1 hI1 hF1 hm1
      refine h_iload_n C dX0_linkRows_2 2 rfl rfl ?_
      refine h_aload_n C dX0_linkRows_3 0 rfl rfl ?_
      refine h_get C O0 8 kd_130 (by decide) wd_262 dX0_linkRows_4 (hp_fvI (by rw [kd_130]; rfl) rfl) ?_
      obtain ⟨hr2a, hr2b⟩ := hI1.b (bf_0_8 kd_130)
      generalize hg2 : τ1 130 8 = r2 at hr2a hr2b ⊢
      refine h_icmp_ge (tgt := 23) C dX0_linkRows_7 (by decide) ⟨by omega, by omega⟩ ⟨by omega, by omega⟩ (fun h3 => ?_) (fun h3 => ?_)
      · refine h_iconst C dX0_linkRows_23 ?_
        refine h_istore_n (lv' := [(2, .int (hpI 0)), (0, .ref (z + 130)), (1, .int (hpI a0))]) C dX0_linkRows_24 rfl (by decide) rfl ?_
        have L4 : ∀ (n4 : Nat) (τ4 : hpMem) (w4_2 : Int), 0 ≤ w4_2 → w4_2 ≤ 2147483647 → hpInv τ4 → (∀ j i : Nat, 169 ≤ j → τ4 j i = σ j i) → (4294967296 - w4_2) < (n4 : Int) → hpF p l e rgX0_linkRows s m [.ref (z + 130), .int (hpI a0)] below meth c 3 D cy z (pgX0_linkRows z σ a0) τ4 25 [(0, .ref (z + 130)), (1, .int (hpI a0)), (2, .int (hpI w4_2))] [] := by
          intro n4
          induction n4 with
          | zero => intro τ4 w4_2 hv4_0 hv4_1 hI4 hF4 hm4; exfalso; omega
          | succ n4 ih4 =>
            intro τ4 w4_2 hv4_0 hv4_1 hI4 hF4 hm4
            refine h_iload_n C dX0_linkRows_25 2 rfl rfl ?_
            refine h_aload_n C dX0_linkRows_26 0 rfl rfl ?_
            refine h_get C O0 8 kd_130 (by decide) wd_262 dX0_linkRows_27 (hp_fvI (by rw [kd_130]; rfl) rfl) ?_
            obtain ⟨hr5a, hr5b⟩ := hI4.b (bf_0_8 kd_130)
            generalize hg5 : τ4 130 8 = r5 at hr5a hr5b ⊢
            refine h_icmp_ge (tgt := 89) C dX0_linkRows_30 (by decide) ⟨by omega, by omega⟩ ⟨by omega, by omega⟩ (fun h6 => ?_) (fun h6 => ?_)
            · refine h_aload_n C dX0_linkRows_89 0 rfl rfl ?_
              refine h_iconst C dX0_linkRows_90 ?_
              refine h_put C O0 11 kd_130 (by decide) rfl wd_268 dX0_linkRows_91 rfl rfl (hp_fvI (by rw [kd_130]; rfl) hpu_at) ?_
              obtain ⟨τ7, e7⟩ : ∃ μ : hpMem, μ = hpw τ4 130 11 0 := ⟨_, rfl⟩
              rw [← e7]
              have hI7 : hpInv τ7 := by rw [e7]; exact hI4.w (bf_0_11 kd_130) (by omega) (by omega)
              have hF7 : ∀ j i : Nat, 169 ≤ j → τ7 j i = σ j i := fun j i h_0 => by rw [e7]; exact (hpw_fr (by omega)).trans (hF4 j i h_0)
              have hg8 : τ7 130 8 = r5 := by rw [e7]; exact (hpw_fr (Or.inr (by decide))).trans hg5
              have hg9 : τ7 130 11 = 0 := by rw [e7]; exact hpw_eq
              refine h_iconst C dX0_linkRows_94 ?_
              refine h_istore_n (lv' := [(2, .int (hpI 0)), (0, .ref (z + 130)), (1, .int (hpI a0))]) C dX0_linkRows_95 rfl (by decide) rfl ?_
              have L10 : ∀ (n10 : Nat) (τ10 : hpMem) (w10_2 : Int), 0 ≤ w10_2 → w10_2 ≤ 2147483647 → hpInv τ10 → (∀ j i : Nat, 169 ≤ j → τ10 j i = σ j i) → (4294967296 - w10_2) < (n10 : Int) → hpF p l e rgX0_linkRows s m [.ref (z + 130), .int (hpI a0)] below meth c 3 D cy z (pgX0_linkRows z σ a0) τ10 96 [(0, .ref (z + 130)), (1, .int (hpI a0)), (2, .int (hpI w10_2))] [] := by
                intro n10
                induction n10 with
                | zero => intro τ10 w10_2 hv10_0 hv10_1 hI10 hF10 hm10; exfalso; omega
                | succ n10 ih10 =>
                  intro τ10 w10_2 hv10_0 hv10_1 hI10 hF10 hm10
                  refine h_iload_n C dX0_linkRows_96 2 rfl rfl ?_
                  refine h_aload_n C dX0_linkRows_97 0 rfl rfl ?_
                  refine h_get C O0 8 kd_130 (by decide) wd_262 dX0_linkRows_98 (hp_fvI (by rw [kd_130]; rfl) rfl) ?_
                  obtain ⟨hr11a, hr11b⟩ := hI10.b (bf_0_8 kd_130)
                  generalize hg11 : τ10 130 8 = r11 at hr11a hr11b ⊢
                  refine h_icmp_ge (tgt := 145) C dX0_linkRows_101 (by decide) ⟨by omega, by omega⟩ ⟨by omega, by omega⟩ (fun h12 => ?_) (fun h12 => ?_)
                  · refine h_return C hr hlk dX0_linkRows_145 ?_
                    exact ⟨rfl, hI10, hF10⟩
                  · refine h_aload_n C dX0_linkRows_104 0 rfl rfl ?_
                    refine h_get C O0 3 kd_130 (by decide) wd_257 dX0_linkRows_105 fr_130_3 ?_
                    refine h_iload_n C dX0_linkRows_108 2 rfl rfl ?_
                    refine h_aload_n C dX0_linkRows_109 0 rfl rfl ?_
                    refine h_get C O0 2 kd_130 (by decide) wd_256 dX0_linkRows_110 fr_130_2 ?_
                    refine h_iload_n C dX0_linkRows_113 2 rfl rfl ?_
                    refine h_iaload C dX0_linkRows_114 kd_133 (w10_2).toNat (Int.toNat_of_nonneg (by omega)) (by rw [ln_133]; omega) rfl ?_
                    obtain ⟨hr13a, hr13b⟩ := hI10.b (bo_133 _)
                    generalize hg13 : τ10 133 ((w10_2).toNat) = r13 at hr13a hr13b ⊢
                    refine h_iastore C dX0_linkRows_115 kd_134 (w10_2).toNat (Int.toNat_of_nonneg (by omega)) (by rw [ln_134]; omega) ?_
                    obtain ⟨τ14, e14⟩ : ∃ μ : hpMem, μ = hpw τ10 134 ((w10_2).toNat) r13 := ⟨_, rfl⟩
                    rw [← e14]
                    have hI14 : hpInv τ14 := by rw [e14]; exact hI10.w (bo_134 _) (by omega) (by omega)
                    have hF14 : ∀ j i : Nat, 169 ≤ j → τ14 j i = σ j i := fun j i h_0 => by rw [e14]; exact (hpw_fr (by omega)).trans (hF10 j i h_0)
                    have hg15 : τ14 130 8 = r11 := by rw [e14]; exact (hpw_fr (Or.inl (by omega))).trans hg11
                    have hg16 : τ14 133 ((w10_2).toNat) = r13 := by rw [e14]; exact (hpw_fr (Or.inl (by omega))).trans hg13
                    refine h_aload_n C dX0_linkRows_116 0 rfl rfl ?_
                    refine h_dup C rfl dX0_linkRows_117 ?_
                    refine h_get C O0 11 kd_130 (by decide) wd_268 dX0_linkRows_118 (hp_fvI (by rw [kd_130]; rfl) rfl) ?_
                    obtain ⟨hr17a, hr17b⟩ := hI14.b (bf_0_11 kd_130)
                    generalize hg17 : τ14 130 11 = r17 at hr17a hr17b ⊢
                    refine h_aload_n C dX0_linkRows_121 0 rfl rfl ?_
                    refine h_get C O0 2 kd_130 (by decide) wd_256 dX0_linkRows_122 fr_130_2 ?_
                    refine h_iload_n C dX0_linkRows_125 2 rfl rfl ?_
                    refine h_iaload C dX0_linkRows_126 kd_133 (w10_2).toNat (Int.toNat_of_nonneg (by omega)) (by rw [ln_133]; omega) rfl ?_
                    rw [hg16]
                    refine h_if_ne (tgt := 134) C dX0_linkRows_127 (by decide) ⟨by omega, by omega⟩ (fun h18 => ?_) (fun h18 => ?_)
                    · refine h_iconst C dX0_linkRows_134 ?_
                      refine h_iadd C dX0_linkRows_135 rfl ?_
                      refine h_put C O0 11 kd_130 (by decide) rfl wd_268 dX0_linkRows_136 rfl rfl (hp_fvI (by rw [kd_130]; rfl) hpu_at) ?_
                      obtain ⟨τ19, e19⟩ : ∃ μ : hpMem, μ = hpw τ14 130 11 (r17 + 0) := ⟨_, rfl⟩
                      rw [← e19]
                      have hI19 : hpInv τ19 := by rw [e19]; exact hI14.w (bf_0_11 kd_130) (by omega) (by omega)
                      have hF19 : ∀ j i : Nat, 169 ≤ j → τ19 j i = σ j i := fun j i h_0 => by rw [e19]; exact (hpw_fr (by omega)).trans (hF14 j i h_0)
                      have hg20 : τ19 130 8 = r11 := by rw [e19]; exact (hpw_fr (Or.inr (by decide))).trans hg15
                      have hg21 : τ19 133 ((w10_2).toNat) = r13 := by rw [e19]; exact (hpw_fr (Or.inl (by omega))).trans hg16
                      have hg22 : τ19 130 11 = r17 + 0 := by rw [e19]; exact hpw_eq
                      refine h_iinc (lv' := [(2, .int (hpI (w10_2 + 1))), (0, .ref (z + 130)), (1, .int (hpI a0))]) C dX0_linkRows_139 2 rfl rfl (by decide) rfl ?_
                      refine h_goto (tgt := 96) C dX0_linkRows_142 (by decide) ?_
                      exact hp_sub [1, 2, 0] rfl (ih10 _ (w10_2 + 1) (by omega) (by omega) hI19 hF19 (by omega))
                    · refine h_iconst C dX0_linkRows_130 ?_
                      refine h_goto (tgt := 135) C dX0_linkRows_131 (by decide) ?_
                      refine h_iadd C dX0_linkRows_135 rfl ?_
                      refine hp_anyI (fun r23 hr23 => ?_)
                      obtain ⟨hr23a, hr23b⟩ := hr23
                      refine h_put C O0 11 kd_130 (by decide) rfl wd_268 dX0_linkRows_136 rfl rfl (hp_fvI (by rw [kd_130]; rfl) hpu_at) ?_
                      obtain ⟨τ24, e24⟩ : ∃ μ : hpMem, μ = hpw τ14 130 11 r23 := ⟨_, rfl⟩
                      rw [← e24]
                      have hI24 : hpInv τ24 := by rw [e24]; exact hI14.w (bf_0_11 kd_130) (by omega) (by omega)
                      have hF24 : ∀ j i : Nat, 169 ≤ j → τ24 j i = σ j i := fun j i h_0 => by rw [e24]; exact (hpw_fr (by omega)).trans (hF14 j i h_0)
                      have hg25 : τ24 130 8 = r11 := by rw [e24]; exact (hpw_fr (Or.inr (by decide))).trans hg15
                      have hg26 : τ24 133 ((w10_2).toNat) = r13 := by rw [e24]; exact (hpw_fr (Or.inl (by omega))).trans hg16
                      have hg27 : τ24 130 11 = r23 := by rw [e24]; exact hpw_eq
                      refine h_iinc (lv' := [(2, .int (hpI (w10_2 + 1))), (0, .ref (z + 130)), (1, .int (hpI a0))]) C dX0_linkRows_139 2 rfl rfl (by decide) rfl ?_
                      refine h_goto (tgt := 96) C dX0_linkRows_142 (by decide) ?_
                      exact hp_sub [1, 2, 0] rfl (ih10 _ (w10_2 + 1) (by omega) (by omega) hI24 hF24 (by omega))
              exact hp_sub [1, 2, 0] rfl (L10 8589934592 _ 0 (by omega) (by omega) hI7 hF7 (by omega))
            · refine h_aload_n C dX0_linkRows_33 0 rfl rfl ?_
              refine h_aload_n C dX0_linkRows_34 0 rfl rfl ?_
              refine h_get C O0 0 kd_130 (by decide) wd_254 dX0_linkRows_35 fr_130_0 ?_
              refine h_iload_n C dX0_linkRows_38 2 rfl rfl ?_
              refine h_laload C dX0_linkRows_39 kd_131 (w4_2).toNat (Int.toNat_of_nonneg (by omega)) (by rw [ln_131]; omega) rfl ?_
              obtain ⟨hr28a, hr28b⟩ := hI4.b (bo_131 _)
              generalize hg28 : τ4 131 ((w4_2).toNat) = r28 at hr28a hr28b ⊢
              refine h_callV (As := [.long (hpJ r28)]) (rest := []) C Z yyX0_fill wd_865 (tgX0_fill l D cy z _ r28 ⟨by omega, by omega⟩ hI4) kd_130 rfl rfl ⟨rfl, rfl, Nat.le_of_ble_eq_true rfl, Nat.le_of_ble_eq_true rfl⟩ ⟨Nat.le_of_ble_eq_true rfl, Nat.le_of_ble_eq_true rfl⟩ (Nat.le_of_ble_eq_true rfl) dX0_linkRows_40 (fun r29 τ29 hp29 => ?_)
              obtain ⟨rfl, hI29, hG29⟩ := hp29
              have hF29 : ∀ j i : Nat, 169 ≤ j → τ29 j i = σ j i := fun j i h_0 => (hG29 j i (by omega)).trans (hF4 j i h_0)
              show hpV _ _ _ _ _ _ _ _ _ _ _ _ _ _ _ _ _ _ _ _ _ []
              refine h_aload_n C dX0_linkRows_43 0 rfl rfl ?_
              refine h_get C O0 7 kd_130 (by decide) wd_261 dX0_linkRows_44 fr_130_7 ?_
              refine h_iload_n C dX0_linkRows_47 1 rfl rfl ?_
              refine h_callVN (As := [.int (hpI a0)]) (rest := []) C Z yyX3_step nw_875 (tgX3_step l D cy z _ 138 kd_138 a0 ⟨by omega, by omega⟩ hI29) kd_138 rfl rfl ⟨rfl, rfl, Nat.le_of_ble_eq_true rfl, Nat.le_of_ble_eq_true rfl⟩ ⟨Nat.le_of_ble_eq_true rfl, Nat.le_of_ble_eq_true rfl⟩ (Nat.le_of_ble_eq_true rfl) dX0_linkRows_48 (fun r30 τ30 hp30 => ?_)
              obtain ⟨rfl, hI30, hG30⟩ := hp30
              have hF30 : ∀ j i : Nat, 169 ≤ j → τ30 j i = σ j i := fun j i h_0 => (hG30 j i (by omega)).trans (hF29 j i h_0)
              show hpV _ _ _ _ _ _ _ _ _ _ _ _ _ _ _ _ _ _ _ _ _ []
              refine h_aload_n C dX0_linkRows_51 0 rfl rfl ?_
              refine h_get C O0 1 kd_130 (by decide) wd_255 dX0_linkRows_52 fr_130_1 ?_
              refine h_iload_n C dX0_linkRows_55 2 rfl rfl ?_
              refine h_aload_n C dX0_linkRows_56 0 rfl rfl ?_
              refine h_aload_n C dX0_linkRows_57 0 rfl rfl ?_
              refine h_get C O0 7 kd_130 (by decide) wd_261 dX0_linkRows_58 fr_130_7 ?_
              refine h_callS (As := [.ref (z + 138)]) (rest := [.ref (z + 130), .int (hpI w4_2), .ref (z + 132)]) C Z yyX0_codeOf rfl wd_876 (tgX0_codeOf l D cy z _ 138 kd_138 hI30) rfl rfl ⟨rfl, rfl, Nat.le_of_ble_eq_true rfl, Nat.le_of_ble_eq_true rfl⟩ ⟨Nat.le_of_ble_eq_true rfl, Nat.le_of_ble_eq_true rfl⟩ (Nat.le_of_ble_eq_true rfl) dX0_linkRows_61 (fun r31 τ31 hp31 => ?_)
              obtain ⟨⟨x31, rfl, ⟨hx31a, hx31b⟩⟩, rfl⟩ := hp31
              show hpV _ _ _ _ _ _ _ _ _ _ _ _ _ _ _ _ _ _ _ _ _ (_ :: _)
              refine h_callV (As := [.long (hpJ x31)]) (rest := [.int (hpI w4_2), .ref (z + 132)]) C Z yyX0_indexOf wd_879 (tgX0_indexOf l D cy z _ x31 ⟨by omega, by omega⟩ hI30) kd_130 rfl rfl ⟨rfl, rfl, Nat.le_of_ble_eq_true rfl, Nat.le_of_ble_eq_true rfl⟩ ⟨Nat.le_of_ble_eq_true rfl, Nat.le_of_ble_eq_true rfl⟩ (Nat.le_of_ble_eq_true rfl) dX0_linkRows_64 (fun r32 τ32 hp32 => ?_)
              obtain ⟨⟨x32, rfl, ⟨hx32a, hx32b⟩, hx32⟩, rfl⟩ := hp32
              show hpV _ _ _ _ _ _ _ _ _ _ _ _ _ _ _ _ _ _ _ _ _ (_ :: _)
              refine h_iastore C dX0_linkRows_67 kd_132 (w4_2).toNat (Int.toNat_of_nonneg (by omega)) (by rw [ln_132]; omega) ?_
              obtain ⟨τ33, e33⟩ : ∃ μ : hpMem, μ = hpw τ30 132 ((w4_2).toNat) x32 := ⟨_, rfl⟩
              rw [← e33]
              have hI33 : hpInv τ33 := by rw [e33]; exact hI30.w (bo_132 _) (by omega) (by omega)
              have hF33 : ∀ j i : Nat, 169 ≤ j → τ33 j i = σ j i := fun j i h_0 => by rw [e33]; exact (hpw_fr (by omega)).trans (hF30 j i h_0)
              refine h_aload_n C dX0_linkRows_68 0 rfl rfl ?_
              refine h_get C O0 2 kd_130 (by decide) wd_256 dX0_linkRows_69 fr_130_2 ?_
              refine h_aload_n C dX0_linkRows_72 0 rfl rfl ?_
              refine h_get C O0 1 kd_130 (by decide) wd_255 dX0_linkRows_73 fr_130_1 ?_
              refine h_iload_n C dX0_linkRows_76 2 rfl rfl ?_
              refine h_iaload C dX0_linkRows_77 kd_132 (w4_2).toNat (Int.toNat_of_nonneg (by omega)) (by rw [ln_132]; omega) rfl ?_
              obtain ⟨hr34a, hr34b⟩ := hI33.b (bo_132 _)
              generalize hg34 : τ33 132 ((w4_2).toNat) = r34 at hr34a hr34b ⊢
              refine h_dup2 C rfl rfl dX0_linkRows_78 ?_
              refine h_iaload C dX0_linkRows_79 kd_133 (r34).toNat (Int.toNat_of_nonneg (by omega)) (by rw [ln_133]; omega) rfl ?_
              obtain ⟨hr35a, hr35b⟩ := hI33.b (bo_133 _)
              generalize hg35 : τ33 133 ((r34).toNat) = r35 at hr35a hr35b ⊢
              refine h_iconst C dX0_linkRows_80 ?_
              refine h_iadd C dX0_linkRows_81 rfl ?_
              refine hp_anyI (fun r36 hr36 => ?_)
              obtain ⟨hr36a, hr36b⟩ := hr36
              refine h_iastore C dX0_linkRows_82 kd_133 (r34).toNat (Int.toNat_of_nonneg (by omega)) (by rw [ln_133]; omega) ?_
              obtain ⟨τ37, e37⟩ : ∃ μ : hpMem, μ = hpw τ33 133 ((r34).toNat) r36 := ⟨_, rfl⟩
              rw [← e37]
              have hI37 : hpInv τ37 := by rw [e37]; exact hI33.w (bo_133 _) (by omega) (by omega)
              have hF37 : ∀ j i : Nat, 169 ≤ j → τ37 j i = σ j i := fun j i h_0 => by rw [e37]; exact (hpw_fr (by omega)).trans (hF33 j i h_0)
              have hg38 : τ37 132 ((w4_2).toNat) = r34 := by rw [e37]; exact (hpw_fr (Or.inl (by omega))).trans hg34
              refine h_iinc (lv' := [(2, .int (hpI (w4_2 + 1))), (0, .ref (z + 130)), (1, .int (hpI a0))]) C dX0_linkRows_83 2 rfl rfl (by decide) rfl ?_
              refine h_goto (tgt := 25) C dX0_linkRows_86 (by decide) ?_
              exact hp_sub [1, 2, 0] rfl (ih4 _ (w4_2 + 1) (by omega) (by omega) hI37 hF37 (by omega))
        exact hp_sub [1, 2, 0] rfl (L4 8589934592 _ 0 (by omega) (by omega) hI1 hF1 (by omega))
      · refine h_aload_n C dX0_linkRows_10 0 rfl rfl ?_
        refine h_get C O0 2 kd_130 (by decide) wd_256 dX0_linkRows_11 fr_130_2 ?_
        refine h_iload_n C dX0_linkRows_14 2 rfl rfl ?_
        refine h_iconst C dX0_linkRows_15 ?_
        refine h_iastore C dX0_linkRows_16 kd_133 (w1_2).toNat (Int.toNat_of_nonneg (by omega)) (by rw [ln_133]; omega) ?_
        obtain ⟨τ39, e39⟩ : ∃ μ : hpMem, μ = hpw τ1 133 ((w1_2).toNat) 0 := ⟨_, rfl⟩
        rw [← e39]
        have hI39 : hpInv τ39 := by rw [e39]; exact hI1.w (bo_133 _) (by omega) (by omega)
        have hF39 : ∀ j i : Nat, 169 ≤ j → τ39 j i = σ j i := fun j i h_0 => by rw [e39]; exact (hpw_fr (by omega)).trans (hF1 j i h_0)
        have hg40 : τ39 130 8 = r2 := by rw [e39]; exact (hpw_fr (Or.inl (by omega))).trans hg2
        refine h_iinc (lv' := [(2, .int (hpI (w1_2 + 1))), (0, .ref (z + 130)), (1, .int (hpI a0))]) C dX0_linkRows_17 2 rfl rfl (by decide) rfl ?_
        refine h_goto (tgt := 2) C dX0_linkRows_20 (by decide) ?_
        exact hp_sub [1, 2, 0] rfl (ih1 _ (w1_2 + 1) (by omega) (by omega) hI39 hF39 (by omega))
  exact hp_sub [1, 2, 0] rfl (L1 8589934592 _ 0 (by omega) (by omega) hI hF0 (by omega))
abbrev rgX0_peelTails : Room := { frames := 0, cells := 0, slots := 0, locals := 0 }
abbrev pgX0_peelTails (z : Nat) (σ : hpMem) : Option Value → hpMem → Prop := fun r τ => (∃ x : Int, r = some (.int (hpI x)) ∧ (hpR x) ∧ (0 ≤ x ∧ x ≤ 135)) ∧ hpInv τ ∧ (∀ j i : Nat, 169 ≤ j → τ j i = σ j i)
set_option maxHeartbeats 4000000 in
set_option maxRecDepth 20000 in
theorem tgX0_peelTails (l : Launch) (D : va_G) (cy : Nat → ClassId) (z : Nat) (σ : hpMem) (hI : hpInv σ) : hpM l D cy z yX0_peelTails cX0_peelTails 4 (some .int) rgX0_peelTails [.ref (z + 130)] σ (pgX0_peelTails z σ) := by
  refine hp_met rfl (Nat.le_of_ble_eq_true rfl) (fun p e s m below meth c C Z hr hlk => ?_)
  have hF0 : ∀ j i : Nat, 169 ≤ j → σ j i = σ j i := fun j i _ => rfl
  refine h_iconst C dX0_peelTails_0 ?_
  refine h_istore_n (lv' := [(1, .int (hpI 0)), (0, .ref (z + 130))]) C dX0_peelTails_1 rfl (by decide) rfl ?_
  refine h_iconst C dX0_peelTails_2 ?_
  refine h_istore_n (lv' := [(2, .int (hpI 0)), (1, .int (hpI 0)), (0, .ref (z + 130))]) C dX0_peelTails_3 rfl (by decide) rfl ?_
  have L1 : ∀ (n1 : Nat) (τ1 : hpMem) (w1_1 : Int) (w1_2 : Int), 0 ≤ w1_1 → w1_1 ≤ 135 → 0 ≤ w1_2 → w1_2 ≤ 135 → w1_1 ≤ w1_2 → hpInv τ1 → (∀ j i : Nat, 169 ≤ j → τ1 j i = σ j i) → (136 - w1_2) < (n1 : Int) → hpF p l e rgX0_peelTails s m [.ref (z + 130)] below meth c 4 D cy z (pgX0_peelTails z σ) τ1 4 [(0, .ref (z + 130)), (1, .int (hpI w1_1)), (2, .int (hpI w1_2))] [] := by
    intro n1
    induction n1 with
    | zero => intro τ1 w1_1 w1_2 hv1_0 hv1_1 hv1_2 hv1_3 hv1_4 hI1 hF1 hm1; exfalso; omega
    | succ n1 ih1 =>
      intro τ1 w1_1 w1_2 hv1_0 hv1_1 hv1_2 hv1_3 hv1_4 hI1 hF1 hm1
      refine h_iload_n C dX0_peelTails_4 2 rfl rfl ?_
      refine h_aload_n C dX0_peelTails_5 0 rfl rfl ?_
      refine h_get C O0 8 kd_130 (by decide) wd_262 dX0_peelTails_6 (hp_fvI (by rw [kd_130]; rfl) rfl) ?_
      obtain ⟨hr2a, hr2b⟩ := hI1.b (bf_0_8 kd_130)
      generalize hg2 : τ1 130 8 = r2 at hr2a hr2b ⊢
      refine h_icmp_ge (tgt := 37) C dX0_peelTails_9 (by decide) ⟨by omega, by omega⟩ ⟨by omega, by omega⟩ (fun h3 => ?_) (fun h3 => ?_)
      · refine h_iconst C dX0_peelTails_37 ?_
        refine h_istore_n (lv' := [(2, .int (hpI 0)), (0, .ref (z + 130)), (1, .int (hpI w1_1))]) C dX0_peelTails_38 rfl (by decide) rfl ?_
        have L4 : ∀ (n4 : Nat) (τ4 : hpMem) (w4_1 : Int) (w4_2 : Int), 0 ≤ w4_1 → w4_1 ≤ 135 → 0 ≤ w4_2 → w4_2 ≤ 135 → hpInv τ4 → (∀ j i : Nat, 169 ≤ j → τ4 j i = σ j i) → (136 - w4_2) < (n4 : Int) → hpF p l e rgX0_peelTails s m [.ref (z + 130)] below meth c 4 D cy z (pgX0_peelTails z σ) τ4 39 [(0, .ref (z + 130)), (1, .int (hpI w4_1)), (2, .int (hpI w4_2))] [] := by
          intro n4
          induction n4 with
          | zero => intro τ4 w4_1 w4_2 hv4_0 hv4_1 hv4_2 hv4_3 hI4 hF4 hm4; exfalso; omega
          | succ n4 ih4 =>
            intro τ4 w4_1 w4_2 hv4_0 hv4_1 hv4_2 hv4_3 hI4 hF4 hm4
            refine h_iload_n C dX0_peelTails_39 2 rfl rfl ?_
            refine h_iload_n C dX0_peelTails_40 1 rfl rfl ?_
            refine h_icmp_ge (tgt := 98) C dX0_peelTails_41 (by decide) ⟨by omega, by omega⟩ ⟨by omega, by omega⟩ (fun h5 => ?_) (fun h5 => ?_)
            · refine h_iload_n C dX0_peelTails_98 1 rfl rfl ?_
              refine h_ireturn C hr hlk dX0_peelTails_99 ?_
              exact ⟨⟨_, rfl, ⟨by omega, by omega⟩, by omega⟩, hI4, hF4⟩
            · refine h_aload_n C dX0_peelTails_44 0 rfl rfl ?_
              refine h_get C O0 1 kd_130 (by decide) wd_255 dX0_peelTails_45 fr_130_1 ?_
              refine h_aload_n C dX0_peelTails_48 0 rfl rfl ?_
              refine h_get C O0 4 kd_130 (by decide) wd_258 dX0_peelTails_49 fr_130_4 ?_
              refine h_iload_n C dX0_peelTails_52 2 rfl rfl ?_
              refine h_iaload C dX0_peelTails_53 kd_135 (w4_2).toNat (Int.toNat_of_nonneg (by omega)) (by rw [ln_135]; omega) rfl ?_
              obtain ⟨hr6a, hr6b⟩ := hI4.b (bo_135 _)
              generalize hg6 : τ4 135 ((w4_2).toNat) = r6 at hr6a hr6b ⊢
              refine h_iaload C dX0_peelTails_54 kd_132 (r6).toNat (Int.toNat_of_nonneg (by omega)) (by rw [ln_132]; omega) rfl ?_
              obtain ⟨hr7a, hr7b⟩ := hI4.b (bo_132 _)
              generalize hg7 : τ4 132 ((r6).toNat) = r7 at hr7a hr7b ⊢
              refine h_istore_n (lv' := [(3, .int (hpI r7)), (0, .ref (z + 130)), (1, .int (hpI w4_1)), (2, .int (hpI w4_2))]) C dX0_peelTails_55 rfl (by decide) rfl ?_
              refine h_aload_n C dX0_peelTails_56 1 rfl rfl ?_
              refine h_get C O0 3 kd_130 (by decide) wd_257 dX0_peelTails_57 fr_130_3 ?_
              refine h_iload_n C dX0_peelTails_60 0 rfl rfl ?_
              refine h_dup2 C rfl rfl dX0_peelTails_61 ?_
              refine h_iaload C dX0_peelTails_62 kd_134 (r7).toNat (Int.toNat_of_nonneg (by omega)) (by rw [ln_134]; omega) rfl ?_
              obtain ⟨hr8a, hr8b⟩ := hI4.b (bo_134 _)
              generalize hg8 : τ4 134 ((r7).toNat) = r8 at hr8a hr8b ⊢
              refine h_iconst C dX0_peelTails_63 ?_
              refine h_isub C dX0_peelTails_64 rfl ?_
              refine hp_anyI (fun r9 hr9 => ?_)
              obtain ⟨hr9a, hr9b⟩ := hr9
              refine h_iastore C dX0_peelTails_65 kd_134 (r7).toNat (Int.toNat_of_nonneg (by omega)) (by rw [ln_134]; omega) ?_
              obtain ⟨τ10, e10⟩ : ∃ μ : hpMem, μ = hpw τ4 134 ((r7).toNat) r9 := ⟨_, rfl⟩
              rw [← e10]
              have hI10 : hpInv τ10 := by rw [e10]; exact hI4.w (bo_134 _) (by omega) (by omega)
              have hF10 : ∀ j i : Nat, 169 ≤ j → τ10 j i = σ j i := fun j i h_0 => by rw [e10]; exact (hpw_fr (by omega)).trans (hF4 j i h_0)
              have hg11 : τ10 135 ((w4_2).toNat) = r6 := by rw [e10]; exact (hpw_fr (Or.inl (by omega))).trans hg6
              have hg12 : τ10 132 ((r6).toNat) = r7 := by rw [e10]; exact (hpw_fr (Or.inl (by omega))).trans hg7
              refine h_aload_n C dX0_peelTails_66 1 rfl rfl ?_
              refine h_get C O0 3 kd_130 (by decide) wd_257 dX0_peelTails_67 fr_130_3 ?_
              refine h_iload_n C dX0_peelTails_70 0 rfl rfl ?_
              refine h_iaload C dX0_peelTails_71 kd_134 (r7).toNat (Int.toNat_of_nonneg (by omega)) (by rw [ln_134]; omega) rfl ?_
              obtain ⟨hr13a, hr13b⟩ := hI10.b (bo_134 _)
              generalize hg13 : τ10 134 ((r7).toNat) = r13 at hr13a hr13b ⊢
              refine h_if_ne (tgt := 92) C dX0_peelTails_72 (by decide) ⟨by omega, by omega⟩ (fun h14 => ?_) (fun h14 => ?_)
              · refine h_iinc (lv' := [(2, .int (hpI (w4_2 + 1))), (3, .int (hpI r7)), (0, .ref (z + 130)), (1, .int (hpI w4_1))]) C dX0_peelTails_92 3 rfl rfl (by decide) rfl ?_
                refine h_goto (tgt := 39) C dX0_peelTails_95 (by decide) ?_
                exact hp_sub [2, 3, 0] rfl (ih4 _ w4_1 (w4_2 + 1) (by omega) (by omega) (by omega) (by omega) hI10 hF10 (by omega))
              · refine h_iload_n C dX0_peelTails_75 2 rfl rfl ?_
                refine h_sipush C dX0_peelTails_76 (by decide) ?_
                refine h_icmp_ge (tgt := 92) C dX0_peelTails_79 (by decide) ⟨by omega, by omega⟩ ⟨by decide, by decide⟩ (fun h15 => ?_) (fun h15 => ?_)
                · refine h_iinc (lv' := [(2, .int (hpI (w4_2 + 1))), (3, .int (hpI r7)), (0, .ref (z + 130)), (1, .int (hpI w4_1))]) C dX0_peelTails_92 3 rfl rfl (by decide) rfl ?_
                  refine h_goto (tgt := 39) C dX0_peelTails_95 (by decide) ?_
                  exact hp_sub [2, 3, 0] rfl (ih4 _ w4_1 (w4_2 + 1) (by omega) (by omega) (by omega) (by omega) hI10 hF10 (by omega))
                · refine h_aload_n C dX0_peelTails_82 1 rfl rfl ?_
                  refine h_get C O0 4 kd_130 (by decide) wd_258 dX0_peelTails_83 fr_130_4 ?_
                  refine h_iload_n C dX0_peelTails_86 2 rfl rfl ?_
                  refine h_iload_n C dX0_peelTails_87 0 rfl rfl ?_
                  refine h_iastore C dX0_peelTails_88 kd_135 (w4_1).toNat (Int.toNat_of_nonneg (by omega)) (by rw [ln_135]; omega) ?_
                  obtain ⟨τ16, e16⟩ : ∃ μ : hpMem, μ = hpw τ10 135 ((w4_1).toNat) r7 := ⟨_, rfl⟩
                  rw [← e16]
                  have hI16 : hpInv τ16 := by rw [e16]; exact hI10.w (bo_135 _) (by omega) (by omega)
                  have hF16 : ∀ j i : Nat, 169 ≤ j → τ16 j i = σ j i := fun j i h_0 => by rw [e16]; exact (hpw_fr (by omega)).trans (hF10 j i h_0)
                  have hg17 : τ16 132 ((r6).toNat) = r7 := by rw [e16]; exact (hpw_fr (Or.inl (by omega))).trans hg12
                  have hg18 : τ16 134 ((r7).toNat) = r13 := by rw [e16]; exact (hpw_fr (Or.inl (by omega))).trans hg13
                  refine h_iinc (lv' := [(1, .int (hpI (w4_1 + 1))), (3, .int (hpI r7)), (0, .ref (z + 130)), (2, .int (hpI w4_2))]) C dX0_peelTails_89 2 rfl rfl (by decide) rfl ?_
                  refine h_iinc (lv' := [(2, .int (hpI (w4_2 + 1))), (1, .int (hpI (w4_1 + 1))), (3, .int (hpI r7)), (0, .ref (z + 130))]) C dX0_peelTails_92 3 rfl rfl (by decide) rfl ?_
                  refine h_goto (tgt := 39) C dX0_peelTails_95 (by decide) ?_
                  exact hp_sub [3, 1, 0] rfl (ih4 _ (w4_1 + 1) (w4_2 + 1) (by omega) (by omega) (by omega) (by omega) hI16 hF16 (by omega))
        exact hp_sub [1, 2, 0] rfl (L4 8589934592 _ w1_1 0 (by omega) (by omega) (by omega) (by omega) hI1 hF1 (by omega))
      · refine h_aload_n C dX0_peelTails_12 0 rfl rfl ?_
        refine h_get C O0 3 kd_130 (by decide) wd_257 dX0_peelTails_13 fr_130_3 ?_
        refine h_iload_n C dX0_peelTails_16 2 rfl rfl ?_
        refine h_iaload C dX0_peelTails_17 kd_134 (w1_2).toNat (Int.toNat_of_nonneg (by omega)) (by rw [ln_134]; omega) rfl ?_
        obtain ⟨hr19a, hr19b⟩ := hI1.b (bo_134 _)
        generalize hg19 : τ1 134 ((w1_2).toNat) = r19 at hr19a hr19b ⊢
        refine h_if_ne (tgt := 31) C dX0_peelTails_18 (by decide) ⟨by omega, by omega⟩ (fun h20 => ?_) (fun h20 => ?_)
        · refine h_iinc (lv' := [(2, .int (hpI (w1_2 + 1))), (0, .ref (z + 130)), (1, .int (hpI w1_1))]) C dX0_peelTails_31 2 rfl rfl (by decide) rfl ?_
          refine h_goto (tgt := 4) C dX0_peelTails_34 (by decide) ?_
          exact hp_sub [1, 2, 0] rfl (ih1 _ w1_1 (w1_2 + 1) (by omega) (by omega) (by omega) (by omega) (by omega) hI1 hF1 (by omega))
        · refine h_aload_n C dX0_peelTails_21 0 rfl rfl ?_
          refine h_get C O0 4 kd_130 (by decide) wd_258 dX0_peelTails_22 fr_130_4 ?_
          refine h_iload_n C dX0_peelTails_25 1 rfl rfl ?_
          refine h_iload_n C dX0_peelTails_26 2 rfl rfl ?_
          refine h_iastore C dX0_peelTails_27 kd_135 (w1_1).toNat (Int.toNat_of_nonneg (by omega)) (by rw [ln_135]; omega) ?_
          obtain ⟨τ21, e21⟩ : ∃ μ : hpMem, μ = hpw τ1 135 ((w1_1).toNat) w1_2 := ⟨_, rfl⟩
          rw [← e21]
          have hI21 : hpInv τ21 := by rw [e21]; exact hI1.w (bo_135 _) (by omega) (by omega)
          have hF21 : ∀ j i : Nat, 169 ≤ j → τ21 j i = σ j i := fun j i h_0 => by rw [e21]; exact (hpw_fr (by omega)).trans (hF1 j i h_0)
          have hg22 : τ21 130 8 = r2 := by rw [e21]; exact (hpw_fr (Or.inl (by omega))).trans hg2
          have hg23 : τ21 134 ((w1_2).toNat) = r19 := by rw [e21]; exact (hpw_fr (Or.inl (by omega))).trans hg19
          refine h_iinc (lv' := [(1, .int (hpI (w1_1 + 1))), (0, .ref (z + 130)), (2, .int (hpI w1_2))]) C dX0_peelTails_28 1 rfl rfl (by decide) rfl ?_
          refine h_iinc (lv' := [(2, .int (hpI (w1_2 + 1))), (1, .int (hpI (w1_1 + 1))), (0, .ref (z + 130))]) C dX0_peelTails_31 2 rfl rfl (by decide) rfl ?_
          refine h_goto (tgt := 4) C dX0_peelTails_34 (by decide) ?_
          exact hp_sub [2, 1, 0] rfl (ih1 _ (w1_1 + 1) (w1_2 + 1) (by omega) (by omega) (by omega) (by omega) (by omega) hI21 hF21 (by omega))
  exact hp_sub [2, 1, 0] rfl (L1 8589934592 _ 0 0 (by omega) (by omega) (by omega) (by omega) (by omega) hI hF0 (by omega))
abbrev rgX0_measureTails : Room := { frames := 1, cells := 0, slots := 0, locals := 29 }
abbrev pgX0_measureTails (z : Nat) (σ : hpMem) (a0 : Int) : Option Value → hpMem → Prop := fun r τ => r = none ∧ hpInv τ ∧ (∀ j i : Nat, 169 ≤ j → τ j i = σ j i)
set_option maxHeartbeats 4000000 in
set_option maxRecDepth 20000 in
theorem tgX0_measureTails (l : Launch) (D : va_G) (cy : Nat → ClassId) (z : Nat) (σ : hpMem) (a0 : Int) (ha0 : hpR a0) (hI : hpInv σ) (ho : 0 ≤ a0 ∧ a0 ≤ 135) : hpM l D cy z yX0_measureTails cX0_measureTails 4 none rgX0_measureTails [.ref (z + 130), .int (hpI a0)] σ (pgX0_measureTails z σ a0) := by
  obtain ⟨ha01, ha02⟩ := ha0
  refine hp_met rfl (Nat.le_of_ble_eq_true rfl) (fun p e s m below meth c C Z hr hlk => ?_)
  have hF0 : ∀ j i : Nat, 169 ≤ j → σ j i = σ j i := fun j i _ => rfl
  refine h_iconst C dX0_measureTails_0 ?_
  refine h_istore_n (lv' := [(2, .int (hpI 0)), (0, .ref (z + 130)), (1, .int (hpI a0))]) C dX0_measureTails_1 rfl (by decide) rfl ?_
  have L1 : ∀ (n1 : Nat) (τ1 : hpMem) (w1_2 : Int), 0 ≤ w1_2 → w1_2 ≤ 2147483647 → hpInv τ1 → (∀ j i : Nat, 169 ≤ j → τ1 j i = σ j i) → (4294967296 - w1_2) < (n1 : Int) → hpF p l e rgX0_measureTails s m [.ref (z + 130), .int (hpI a0)] below meth c 4 D cy z (pgX0_measureTails z σ a0) τ1 2 [(0, .ref (z + 130)), (1, .int (hpI a0)), (2, .int (hpI w1_2))] [] := by
    intro n1
    induction n1 with
    | zero => intro τ1 w1_2 hv1_0 hv1_1 hI1 hF1 hm1; exfalso; omega
    | succ n1 ih1 =>
      intro τ1 w1_2 hv1_0 hv1_1 hI1 hF1 hm1
      refine h_iload_n C dX0_measureTails_2 2 rfl rfl ?_
      refine h_aload_n C dX0_measureTails_3 0 rfl rfl ?_
      refine h_get C O0 8 kd_130 (by decide) wd_262 dX0_measureTails_4 (hp_fvI (by rw [kd_130]; rfl) rfl) ?_
      obtain ⟨hr2a, hr2b⟩ := hI1.b (bf_0_8 kd_130)
      generalize hg2 : τ1 130 8 = r2 at hr2a hr2b ⊢
      refine h_icmp_ge (tgt := 23) C dX0_measureTails_7 (by decide) ⟨by omega, by omega⟩ ⟨by omega, by omega⟩ (fun h3 => ?_) (fun h3 => ?_)
      · refine h_aload_n C dX0_measureTails_23 0 rfl rfl ?_
        refine h_iconst C dX0_measureTails_24 ?_
        refine h_put C O0 12 kd_130 (by decide) rfl wd_270 dX0_measureTails_25 rfl rfl (hp_fvI (by rw [kd_130]; rfl) hpu_at) ?_
        obtain ⟨τ4, e4⟩ : ∃ μ : hpMem, μ = hpw τ1 130 12 0 := ⟨_, rfl⟩
        rw [← e4]
        have hI4 : hpInv τ4 := by rw [e4]; exact hI1.w (bf_0_12 kd_130) (by omega) (by omega)
        have hF4 : ∀ j i : Nat, 169 ≤ j → τ4 j i = σ j i := fun j i h_0 => by rw [e4]; exact (hpw_fr (by omega)).trans (hF1 j i h_0)
        have hg5 : τ4 130 8 = r2 := by rw [e4]; exact (hpw_fr (Or.inr (by decide))).trans hg2
        have hg6 : τ4 130 12 = 0 := by rw [e4]; exact hpw_eq
        refine h_iload_n C dX0_measureTails_28 1 rfl rfl ?_
        refine h_iconst C dX0_measureTails_29 ?_
        refine h_isub C dX0_measureTails_30 rfl ?_
        refine h_istore_n (lv' := [(2, .int (hpI (a0 - 1))), (0, .ref (z + 130)), (1, .int (hpI a0))]) C dX0_measureTails_31 rfl (by decide) rfl ?_
        have L7 : ∀ (n7 : Nat) (τ7 : hpMem) (w7_2 : Int), -1 ≤ w7_2 → w7_2 ≤ 134 → hpInv τ7 → (∀ j i : Nat, 169 ≤ j → τ7 j i = σ j i) → (w7_2 + 4294967296) < (n7 : Int) → hpF p l e rgX0_measureTails s m [.ref (z + 130), .int (hpI a0)] below meth c 4 D cy z (pgX0_measureTails z σ a0) τ7 32 [(0, .ref (z + 130)), (1, .int (hpI a0)), (2, .int (hpI w7_2))] [] := by
          intro n7
          induction n7 with
          | zero => intro τ7 w7_2 hv7_0 hv7_1 hI7 hF7 hm7; exfalso; omega
          | succ n7 ih7 =>
            intro τ7 w7_2 hv7_0 hv7_1 hI7 hF7 hm7
            refine h_iload_n C dX0_measureTails_32 2 rfl rfl ?_
            refine h_if_lt (tgt := 85) C dX0_measureTails_33 (by decide) ⟨by omega, by omega⟩ (fun h8 => ?_) (fun h8 => ?_)
            · refine h_return C hr hlk dX0_measureTails_85 ?_
              exact ⟨rfl, hI7, hF7⟩
            · refine h_aload_n C dX0_measureTails_36 0 rfl rfl ?_
              refine h_get C O0 4 kd_130 (by decide) wd_258 dX0_measureTails_37 fr_130_4 ?_
              refine h_iload_n C dX0_measureTails_40 2 rfl rfl ?_
              refine h_iaload C dX0_measureTails_41 kd_135 (w7_2).toNat (Int.toNat_of_nonneg (by omega)) (by rw [ln_135]; omega) rfl ?_
              obtain ⟨hr9a, hr9b⟩ := hI7.b (bo_135 _)
              generalize hg9 : τ7 135 ((w7_2).toNat) = r9 at hr9a hr9b ⊢
              refine h_istore_n (lv' := [(3, .int (hpI r9)), (0, .ref (z + 130)), (1, .int (hpI a0)), (2, .int (hpI w7_2))]) C dX0_measureTails_42 rfl (by decide) rfl ?_
              refine h_aload_n C dX0_measureTails_43 1 rfl rfl ?_
              refine h_get C O0 5 kd_130 (by decide) wd_259 dX0_measureTails_44 fr_130_5 ?_
              refine h_iload_n C dX0_measureTails_47 0 rfl rfl ?_
              refine h_aload_n C dX0_measureTails_48 1 rfl rfl ?_
              refine h_get C O0 5 kd_130 (by decide) wd_259 dX0_measureTails_49 fr_130_5 ?_
              refine h_aload_n C dX0_measureTails_52 1 rfl rfl ?_
              refine h_get C O0 1 kd_130 (by decide) wd_255 dX0_measureTails_53 fr_130_1 ?_
              refine h_iload_n C dX0_measureTails_56 0 rfl rfl ?_
              refine h_iaload C dX0_measureTails_57 kd_132 (r9).toNat (Int.toNat_of_nonneg (by omega)) (by rw [ln_132]; omega) rfl ?_
              obtain ⟨hr10a, hr10b⟩ := hI7.b (bo_132 _)
              generalize hg10 : τ7 132 ((r9).toNat) = r10 at hr10a hr10b ⊢
              refine h_iaload C dX0_measureTails_58 kd_136 (r10).toNat (Int.toNat_of_nonneg (by omega)) (by rw [ln_136]; omega) rfl ?_
              obtain ⟨hr11a, hr11b⟩ := hI7.b (bo_136 _)
              generalize hg11 : τ7 136 ((r10).toNat) = r11 at hr11a hr11b ⊢
              refine h_iconst C dX0_measureTails_59 ?_
              refine h_iadd C dX0_measureTails_60 rfl ?_
              refine hp_anyI (fun r12 hr12 => ?_)
              obtain ⟨hr12a, hr12b⟩ := hr12
              refine h_iastore C dX0_measureTails_61 kd_136 (r9).toNat (Int.toNat_of_nonneg (by omega)) (by rw [ln_136]; omega) ?_
              obtain ⟨τ13, e13⟩ : ∃ μ : hpMem, μ = hpw τ7 136 ((r9).toNat) r12 := ⟨_, rfl⟩
              rw [← e13]
              have hI13 : hpInv τ13 := by rw [e13]; exact hI7.w (bo_136 _) (by omega) (by omega)
              have hF13 : ∀ j i : Nat, 169 ≤ j → τ13 j i = σ j i := fun j i h_0 => by rw [e13]; exact (hpw_fr (by omega)).trans (hF7 j i h_0)
              have hg14 : τ13 135 ((w7_2).toNat) = r9 := by rw [e13]; exact (hpw_fr (Or.inl (by omega))).trans hg9
              have hg15 : τ13 132 ((r9).toNat) = r10 := by rw [e13]; exact (hpw_fr (Or.inl (by omega))).trans hg10
              refine h_aload_n C dX0_measureTails_62 1 rfl rfl ?_
              refine h_aload_n C dX0_measureTails_63 1 rfl rfl ?_
              refine h_get C O0 12 kd_130 (by decide) wd_270 dX0_measureTails_64 (hp_fvI (by rw [kd_130]; rfl) rfl) ?_
              obtain ⟨hr16a, hr16b⟩ := hI13.b (bf_0_12 kd_130)
              generalize hg16 : τ13 130 12 = r16 at hr16a hr16b ⊢
              refine h_aload_n C dX0_measureTails_67 1 rfl rfl ?_
              refine h_get C O0 5 kd_130 (by decide) wd_259 dX0_measureTails_68 fr_130_5 ?_
              refine h_iload_n C dX0_measureTails_71 0 rfl rfl ?_
              refine h_iaload C dX0_measureTails_72 kd_136 (r9).toNat (Int.toNat_of_nonneg (by omega)) (by rw [ln_136]; omega) rfl ?_
              obtain ⟨hr17a, hr17b⟩ := hI13.b (bo_136 _)
              generalize hg17 : τ13 136 ((r9).toNat) = r17 at hr17a hr17b ⊢
              refine h_mmax C wd_891 wd_708 wd_709 wd_15 dX0_measureTails_73 ⟨by omega, by omega⟩ ⟨by omega, by omega⟩ (Nat.le_of_ble_eq_true rfl) (Nat.le_of_ble_eq_true rfl) ⟨Nat.le_of_ble_eq_true rfl, Nat.le_of_ble_eq_true rfl⟩ (fun r18 hr18a hr18b hr18c => ?_)
              refine h_put C O0 12 kd_130 (by decide) rfl wd_270 dX0_measureTails_76 rfl rfl (hp_fvI (by rw [kd_130]; rfl) hpu_at) ?_
              obtain ⟨τ19, e19⟩ : ∃ μ : hpMem, μ = hpw τ13 130 12 r18 := ⟨_, rfl⟩
              rw [← e19]
              have hI19 : hpInv τ19 := by rw [e19]; exact hI13.w (bf_0_12 kd_130) (by omega) (by omega)
              have hF19 : ∀ j i : Nat, 169 ≤ j → τ19 j i = σ j i := fun j i h_0 => by rw [e19]; exact (hpw_fr (by omega)).trans (hF13 j i h_0)
              have hg20 : τ19 135 ((w7_2).toNat) = r9 := by rw [e19]; exact (hpw_fr (Or.inl (by omega))).trans hg14
              have hg21 : τ19 132 ((r9).toNat) = r10 := by rw [e19]; exact (hpw_fr (Or.inl (by omega))).trans hg15
              have hg22 : τ19 136 ((r9).toNat) = r17 := by rw [e19]; exact (hpw_fr (Or.inl (by omega))).trans hg17
              have hg23 : τ19 130 12 = r18 := by rw [e19]; exact hpw_eq
              refine h_iinc (lv' := [(2, .int (hpI (w7_2 + (-1)))), (3, .int (hpI r9)), (0, .ref (z + 130)), (1, .int (hpI a0))]) C dX0_measureTails_79 3 rfl rfl (by decide) rfl ?_
              refine h_goto (tgt := 32) C dX0_measureTails_82 (by decide) ?_
              exact hp_sub [2, 3, 0] rfl (ih7 _ (w7_2 + (-1)) (by omega) (by omega) hI19 hF19 (by omega))
        exact hp_sub [1, 2, 0] rfl (L7 8589934592 _ (a0 - 1) (by omega) (by omega) hI4 hF4 (by omega))
      · refine h_aload_n C dX0_measureTails_10 0 rfl rfl ?_
        refine h_get C O0 5 kd_130 (by decide) wd_259 dX0_measureTails_11 fr_130_5 ?_
        refine h_iload_n C dX0_measureTails_14 2 rfl rfl ?_
        refine h_iconst C dX0_measureTails_15 ?_
        refine h_iastore C dX0_measureTails_16 kd_136 (w1_2).toNat (Int.toNat_of_nonneg (by omega)) (by rw [ln_136]; omega) ?_
        obtain ⟨τ24, e24⟩ : ∃ μ : hpMem, μ = hpw τ1 136 ((w1_2).toNat) 0 := ⟨_, rfl⟩
        rw [← e24]
        have hI24 : hpInv τ24 := by rw [e24]; exact hI1.w (bo_136 _) (by omega) (by omega)
        have hF24 : ∀ j i : Nat, 169 ≤ j → τ24 j i = σ j i := fun j i h_0 => by rw [e24]; exact (hpw_fr (by omega)).trans (hF1 j i h_0)
        have hg25 : τ24 130 8 = r2 := by rw [e24]; exact (hpw_fr (Or.inl (by omega))).trans hg2
        refine h_iinc (lv' := [(2, .int (hpI (w1_2 + 1))), (0, .ref (z + 130)), (1, .int (hpI a0))]) C dX0_measureTails_17 2 rfl rfl (by decide) rfl ?_
        refine h_goto (tgt := 2) C dX0_measureTails_20 (by decide) ?_
        exact hp_sub [1, 2, 0] rfl (ih1 _ (w1_2 + 1) (by omega) (by omega) hI24 hF24 (by omega))
  exact hp_sub [1, 2, 0] rfl (L1 8589934592 _ 0 (by omega) (by omega) hI hF0 (by omega))
abbrev rgX0_countRings : Room := { frames := 0, cells := 0, slots := 0, locals := 0 }
abbrev pgX0_countRings (z : Nat) (σ : hpMem) : Option Value → hpMem → Prop := fun r τ => r = none ∧ hpInv τ ∧ (∀ j i : Nat, 169 ≤ j → τ j i = σ j i)
set_option maxHeartbeats 4000000 in
set_option maxRecDepth 20000 in
theorem tgX0_countRings (l : Launch) (D : va_G) (cy : Nat → ClassId) (z : Nat) (σ : hpMem) (hI : hpInv σ) : hpM l D cy z yX0_countRings cX0_countRings 4 none rgX0_countRings [.ref (z + 130)] σ (pgX0_countRings z σ) := by
  refine hp_met rfl (Nat.le_of_ble_eq_true rfl) (fun p e s m below meth c C Z hr hlk => ?_)
  have hF0 : ∀ j i : Nat, 169 ≤ j → σ j i = σ j i := fun j i _ => rfl
  refine h_aload_n C dX0_countRings_0 0 rfl rfl ?_
  refine h_iconst C dX0_countRings_1 ?_
  refine h_put C O0 10 kd_130 (by decide) rfl wd_266 dX0_countRings_2 rfl rfl (hp_fvI (by rw [kd_130]; rfl) hpu_at) ?_
  obtain ⟨τ1, e1⟩ : ∃ μ : hpMem, μ = hpw σ 130 10 0 := ⟨_, rfl⟩
  rw [← e1]
  have hI1 : hpInv τ1 := by rw [e1]; exact hI.w (bf_0_10 kd_130) (by omega) (by omega)
  have hF1 : ∀ j i : Nat, 169 ≤ j → τ1 j i = σ j i := fun j i h_0 => by rw [e1]; exact (hpw_fr (by omega)).trans (hF0 j i h_0)
  have hg2 : τ1 130 10 = 0 := by rw [e1]; exact hpw_eq
  refine h_iconst C dX0_countRings_5 ?_
  refine h_istore_n (lv' := [(1, .int (hpI 0)), (0, .ref (z + 130))]) C dX0_countRings_6 rfl (by decide) rfl ?_
  have L3 : ∀ (n3 : Nat) (τ3 : hpMem) (w3_1 : Int), 0 ≤ w3_1 → w3_1 ≤ 2147483647 → hpInv τ3 → (∀ j i : Nat, 169 ≤ j → τ3 j i = σ j i) → (4294967296 - w3_1) < (n3 : Int) → hpF p l e rgX0_countRings s m [.ref (z + 130)] below meth c 4 D cy z (pgX0_countRings z σ) τ3 7 [(0, .ref (z + 130)), (1, .int (hpI w3_1))] [] := by
    intro n3
    induction n3 with
    | zero => intro τ3 w3_1 hv3_0 hv3_1 hI3 hF3 hm3; exfalso; omega
    | succ n3 ih3 =>
      intro τ3 w3_1 hv3_0 hv3_1 hI3 hF3 hm3
      refine h_iload_n C dX0_countRings_7 1 rfl rfl ?_
      refine h_aload_n C dX0_countRings_8 0 rfl rfl ?_
      refine h_get C O0 8 kd_130 (by decide) wd_262 dX0_countRings_9 (hp_fvI (by rw [kd_130]; rfl) rfl) ?_
      obtain ⟨hr4a, hr4b⟩ := hI3.b (bf_0_8 kd_130)
      generalize hg4 : τ3 130 8 = r4 at hr4a hr4b ⊢
      refine h_icmp_ge (tgt := 81) C dX0_countRings_12 (by decide) ⟨by omega, by omega⟩ ⟨by omega, by omega⟩ (fun h5 => ?_) (fun h5 => ?_)
      · refine h_return C hr hlk dX0_countRings_81 ?_
        exact ⟨rfl, hI3, hF3⟩
      · refine h_aload_n C dX0_countRings_15 0 rfl rfl ?_
        refine h_get C O0 3 kd_130 (by decide) wd_257 dX0_countRings_16 fr_130_3 ?_
        refine h_iload_n C dX0_countRings_19 1 rfl rfl ?_
        refine h_iaload C dX0_countRings_20 kd_134 (w3_1).toNat (Int.toNat_of_nonneg (by omega)) (by rw [ln_134]; omega) rfl ?_
        obtain ⟨hr6a, hr6b⟩ := hI3.b (bo_134 _)
        generalize hg6 : τ3 134 ((w3_1).toNat) = r6 at hr6a hr6b ⊢
        refine h_if_le (tgt := 34) C dX0_countRings_21 (by decide) ⟨by omega, by omega⟩ (fun h7 => ?_) (fun h7 => ?_)
        · refine h_iload_n C dX0_countRings_34 1 rfl rfl ?_
          refine h_istore_n (lv' := [(2, .int (hpI w3_1)), (0, .ref (z + 130)), (1, .int (hpI w3_1))]) C dX0_countRings_35 rfl (by decide) rfl ?_
          refine h_iconst C dX0_countRings_36 ?_
          refine h_istore_n (lv' := [(3, .int (hpI 0)), (2, .int (hpI w3_1)), (0, .ref (z + 130)), (1, .int (hpI w3_1))]) C dX0_countRings_37 rfl (by decide) rfl ?_
          have L8 : ∀ (n8 : Nat) (τ8 : hpMem) (w8_2 : Int) (w8_3 : Int), 0 ≤ w8_2 → w8_2 ≤ 134 → 0 ≤ w8_3 → w8_3 ≤ 2147483647 → hpInv τ8 → (∀ j i : Nat, 169 ≤ j → τ8 j i = σ j i) → (4294967296 - w8_3) < (n8 : Int) → hpF p l e rgX0_countRings s m [.ref (z + 130)] below meth c 4 D cy z (pgX0_countRings z σ) τ8 38 [(0, .ref (z + 130)), (1, .int (hpI w3_1)), (2, .int (hpI w8_2)), (3, .int (hpI w8_3))] [] := by
            intro n8
            induction n8 with
            | zero => intro τ8 w8_2 w8_3 hv8_0 hv8_1 hv8_2 hv8_3 hI8 hF8 hm8; exfalso; omega
            | succ n8 ih8 =>
              intro τ8 w8_2 w8_3 hv8_0 hv8_1 hv8_2 hv8_3 hI8 hF8 hm8
              refine h_iload_n C dX0_countRings_38 3 rfl rfl ?_
              refine h_aload_n C dX0_countRings_39 0 rfl rfl ?_
              refine h_get C O0 8 kd_130 (by decide) wd_262 dX0_countRings_40 (hp_fvI (by rw [kd_130]; rfl) rfl) ?_
              obtain ⟨hr9a, hr9b⟩ := hI8.b (bf_0_8 kd_130)
              generalize hg9 : τ8 130 8 = r9 at hr9a hr9b ⊢
              refine h_icmp_ge (tgt := 75) C dX0_countRings_43 (by decide) ⟨by omega, by omega⟩ ⟨by omega, by omega⟩ (fun h10 => ?_) (fun h10 => ?_)
              · refine h_iinc (lv' := [(1, .int (hpI (w3_1 + 1))), (0, .ref (z + 130)), (2, .int (hpI w8_2)), (3, .int (hpI w8_3))]) C dX0_countRings_75 1 rfl rfl (by decide) rfl ?_
                refine h_goto (tgt := 7) C dX0_countRings_78 (by decide) ?_
                exact hp_sub [1, 0] rfl (ih3 _ (w3_1 + 1) (by omega) (by omega) hI8 hF8 (by omega))
              · refine h_aload_n C dX0_countRings_46 0 rfl rfl ?_
                refine h_get C O0 3 kd_130 (by decide) wd_257 dX0_countRings_47 fr_130_3 ?_
                refine h_iload_n C dX0_countRings_50 2 rfl rfl ?_
                refine h_iaload C dX0_countRings_51 kd_134 (w8_2).toNat (Int.toNat_of_nonneg (by omega)) (by rw [ln_134]; omega) rfl ?_
                obtain ⟨hr11a, hr11b⟩ := hI8.b (bo_134 _)
                generalize hg11 : τ8 134 ((w8_2).toNat) = r11 at hr11a hr11b ⊢
                refine h_if_le (tgt := 75) C dX0_countRings_52 (by decide) ⟨by omega, by omega⟩ (fun h12 => ?_) (fun h12 => ?_)
                · refine h_iinc (lv' := [(1, .int (hpI (w3_1 + 1))), (0, .ref (z + 130)), (2, .int (hpI w8_2)), (3, .int (hpI w8_3))]) C dX0_countRings_75 1 rfl rfl (by decide) rfl ?_
                  refine h_goto (tgt := 7) C dX0_countRings_78 (by decide) ?_
                  exact hp_sub [1, 0] rfl (ih3 _ (w3_1 + 1) (by omega) (by omega) hI8 hF8 (by omega))
                · refine h_aload_n C dX0_countRings_55 0 rfl rfl ?_
                  refine h_get C O0 3 kd_130 (by decide) wd_257 dX0_countRings_56 fr_130_3 ?_
                  refine h_iload_n C dX0_countRings_59 2 rfl rfl ?_
                  refine h_iconst C dX0_countRings_60 ?_
                  refine h_iastore C dX0_countRings_61 kd_134 (w8_2).toNat (Int.toNat_of_nonneg (by omega)) (by rw [ln_134]; omega) ?_
                  obtain ⟨τ13, e13⟩ : ∃ μ : hpMem, μ = hpw τ8 134 ((w8_2).toNat) 0 := ⟨_, rfl⟩
                  rw [← e13]
                  have hI13 : hpInv τ13 := by rw [e13]; exact hI8.w (bo_134 _) (by omega) (by omega)
                  have hF13 : ∀ j i : Nat, 169 ≤ j → τ13 j i = σ j i := fun j i h_0 => by rw [e13]; exact (hpw_fr (by omega)).trans (hF8 j i h_0)
                  have hg14 : τ13 130 8 = r9 := by rw [e13]; exact (hpw_fr (Or.inl (by omega))).trans hg9
                  refine h_aload_n C dX0_countRings_62 0 rfl rfl ?_
                  refine h_get C O0 1 kd_130 (by decide) wd_255 dX0_countRings_63 fr_130_1 ?_
                  refine h_iload_n C dX0_countRings_66 2 rfl rfl ?_
                  refine h_iaload C dX0_countRings_67 kd_132 (w8_2).toNat (Int.toNat_of_nonneg (by omega)) (by rw [ln_132]; omega) rfl ?_
                  obtain ⟨hr15a, hr15b⟩ := hI13.b (bo_132 _)
                  generalize hg15 : τ13 132 ((w8_2).toNat) = r15 at hr15a hr15b ⊢
                  refine h_istore_n (lv' := [(2, .int (hpI r15)), (0, .ref (z + 130)), (1, .int (hpI w3_1)), (3, .int (hpI w8_3))]) C dX0_countRings_68 rfl (by decide) rfl ?_
                  refine h_iinc (lv' := [(3, .int (hpI (w8_3 + 1))), (2, .int (hpI r15)), (0, .ref (z + 130)), (1, .int (hpI w3_1))]) C dX0_countRings_69 3 rfl rfl (by decide) rfl ?_
                  refine h_goto (tgt := 38) C dX0_countRings_72 (by decide) ?_
                  exact hp_sub [2, 3, 1, 0] rfl (ih8 _ r15 (w8_3 + 1) (by omega) (by omega) (by omega) (by omega) hI13 hF13 (by omega))
          exact hp_sub [2, 3, 1, 0] rfl (L8 8589934592 _ w3_1 0 (by omega) (by omega) (by omega) (by omega) hI3 hF3 (by omega))
        · refine h_aload_n C dX0_countRings_24 0 rfl rfl ?_
          refine h_dup C rfl dX0_countRings_25 ?_
          refine h_get C O0 10 kd_130 (by decide) wd_266 dX0_countRings_26 (hp_fvI (by rw [kd_130]; rfl) rfl) ?_
          obtain ⟨hr16a, hr16b⟩ := hI3.b (bf_0_10 kd_130)
          generalize hg16 : τ3 130 10 = r16 at hr16a hr16b ⊢
          refine h_iconst C dX0_countRings_29 ?_
          refine h_iadd C dX0_countRings_30 rfl ?_
          refine hp_anyI (fun r17 hr17 => ?_)
          obtain ⟨hr17a, hr17b⟩ := hr17
          refine h_put C O0 10 kd_130 (by decide) rfl wd_266 dX0_countRings_31 rfl rfl (hp_fvI (by rw [kd_130]; rfl) hpu_at) ?_
          obtain ⟨τ18, e18⟩ : ∃ μ : hpMem, μ = hpw τ3 130 10 r17 := ⟨_, rfl⟩
          rw [← e18]
          have hI18 : hpInv τ18 := by rw [e18]; exact hI3.w (bf_0_10 kd_130) (by omega) (by omega)
          have hF18 : ∀ j i : Nat, 169 ≤ j → τ18 j i = σ j i := fun j i h_0 => by rw [e18]; exact (hpw_fr (by omega)).trans (hF3 j i h_0)
          have hg19 : τ18 130 8 = r4 := by rw [e18]; exact (hpw_fr (Or.inr (by decide))).trans hg4
          have hg20 : τ18 134 ((w3_1).toNat) = r6 := by rw [e18]; exact (hpw_fr (Or.inl (by omega))).trans hg6
          have hg21 : τ18 130 10 = r17 := by rw [e18]; exact hpw_eq
          refine h_iload_n C dX0_countRings_34 1 rfl rfl ?_
          refine h_istore_n (lv' := [(2, .int (hpI w3_1)), (0, .ref (z + 130)), (1, .int (hpI w3_1))]) C dX0_countRings_35 rfl (by decide) rfl ?_
          refine h_iconst C dX0_countRings_36 ?_
          refine h_istore_n (lv' := [(3, .int (hpI 0)), (2, .int (hpI w3_1)), (0, .ref (z + 130)), (1, .int (hpI w3_1))]) C dX0_countRings_37 rfl (by decide) rfl ?_
          have L22 : ∀ (n22 : Nat) (τ22 : hpMem) (w22_2 : Int) (w22_3 : Int), 0 ≤ w22_2 → w22_2 ≤ 134 → 0 ≤ w22_3 → w22_3 ≤ 2147483647 → hpInv τ22 → (∀ j i : Nat, 169 ≤ j → τ22 j i = σ j i) → (4294967296 - w22_3) < (n22 : Int) → hpF p l e rgX0_countRings s m [.ref (z + 130)] below meth c 4 D cy z (pgX0_countRings z σ) τ22 38 [(0, .ref (z + 130)), (1, .int (hpI w3_1)), (2, .int (hpI w22_2)), (3, .int (hpI w22_3))] [] := by
            intro n22
            induction n22 with
            | zero => intro τ22 w22_2 w22_3 hv22_0 hv22_1 hv22_2 hv22_3 hI22 hF22 hm22; exfalso; omega
            | succ n22 ih22 =>
              intro τ22 w22_2 w22_3 hv22_0 hv22_1 hv22_2 hv22_3 hI22 hF22 hm22
              refine h_iload_n C dX0_countRings_38 3 rfl rfl ?_
              refine h_aload_n C dX0_countRings_39 0 rfl rfl ?_
              refine h_get C O0 8 kd_130 (by decide) wd_262 dX0_countRings_40 (hp_fvI (by rw [kd_130]; rfl) rfl) ?_
              obtain ⟨hr23a, hr23b⟩ := hI22.b (bf_0_8 kd_130)
              generalize hg23 : τ22 130 8 = r23 at hr23a hr23b ⊢
              refine h_icmp_ge (tgt := 75) C dX0_countRings_43 (by decide) ⟨by omega, by omega⟩ ⟨by omega, by omega⟩ (fun h24 => ?_) (fun h24 => ?_)
              · refine h_iinc (lv' := [(1, .int (hpI (w3_1 + 1))), (0, .ref (z + 130)), (2, .int (hpI w22_2)), (3, .int (hpI w22_3))]) C dX0_countRings_75 1 rfl rfl (by decide) rfl ?_
                refine h_goto (tgt := 7) C dX0_countRings_78 (by decide) ?_
                exact hp_sub [1, 0] rfl (ih3 _ (w3_1 + 1) (by omega) (by omega) hI22 hF22 (by omega))
              · refine h_aload_n C dX0_countRings_46 0 rfl rfl ?_
                refine h_get C O0 3 kd_130 (by decide) wd_257 dX0_countRings_47 fr_130_3 ?_
                refine h_iload_n C dX0_countRings_50 2 rfl rfl ?_
                refine h_iaload C dX0_countRings_51 kd_134 (w22_2).toNat (Int.toNat_of_nonneg (by omega)) (by rw [ln_134]; omega) rfl ?_
                obtain ⟨hr25a, hr25b⟩ := hI22.b (bo_134 _)
                generalize hg25 : τ22 134 ((w22_2).toNat) = r25 at hr25a hr25b ⊢
                refine h_if_le (tgt := 75) C dX0_countRings_52 (by decide) ⟨by omega, by omega⟩ (fun h26 => ?_) (fun h26 => ?_)
                · refine h_iinc (lv' := [(1, .int (hpI (w3_1 + 1))), (0, .ref (z + 130)), (2, .int (hpI w22_2)), (3, .int (hpI w22_3))]) C dX0_countRings_75 1 rfl rfl (by decide) rfl ?_
                  refine h_goto (tgt := 7) C dX0_countRings_78 (by decide) ?_
                  exact hp_sub [1, 0] rfl (ih3 _ (w3_1 + 1) (by omega) (by omega) hI22 hF22 (by omega))
                · refine h_aload_n C dX0_countRings_55 0 rfl rfl ?_
                  refine h_get C O0 3 kd_130 (by decide) wd_257 dX0_countRings_56 fr_130_3 ?_
                  refine h_iload_n C dX0_countRings_59 2 rfl rfl ?_
                  refine h_iconst C dX0_countRings_60 ?_
                  refine h_iastore C dX0_countRings_61 kd_134 (w22_2).toNat (Int.toNat_of_nonneg (by omega)) (by rw [ln_134]; omega) ?_
                  obtain ⟨τ27, e27⟩ : ∃ μ : hpMem, μ = hpw τ22 134 ((w22_2).toNat) 0 := ⟨_, rfl⟩
                  rw [← e27]
                  have hI27 : hpInv τ27 := by rw [e27]; exact hI22.w (bo_134 _) (by omega) (by omega)
                  have hF27 : ∀ j i : Nat, 169 ≤ j → τ27 j i = σ j i := fun j i h_0 => by rw [e27]; exact (hpw_fr (by omega)).trans (hF22 j i h_0)
                  have hg28 : τ27 130 8 = r23 := by rw [e27]; exact (hpw_fr (Or.inl (by omega))).trans hg23
                  refine h_aload_n C dX0_countRings_62 0 rfl rfl ?_
                  refine h_get C O0 1 kd_130 (by decide) wd_255 dX0_countRings_63 fr_130_1 ?_
                  refine h_iload_n C dX0_countRings_66 2 rfl rfl ?_
                  refine h_iaload C dX0_countRings_67 kd_132 (w22_2).toNat (Int.toNat_of_nonneg (by omega)) (by rw [ln_132]; omega) rfl ?_
                  obtain ⟨hr29a, hr29b⟩ := hI27.b (bo_132 _)
                  generalize hg29 : τ27 132 ((w22_2).toNat) = r29 at hr29a hr29b ⊢
                  refine h_istore_n (lv' := [(2, .int (hpI r29)), (0, .ref (z + 130)), (1, .int (hpI w3_1)), (3, .int (hpI w22_3))]) C dX0_countRings_68 rfl (by decide) rfl ?_
                  refine h_iinc (lv' := [(3, .int (hpI (w22_3 + 1))), (2, .int (hpI r29)), (0, .ref (z + 130)), (1, .int (hpI w3_1))]) C dX0_countRings_69 3 rfl rfl (by decide) rfl ?_
                  refine h_goto (tgt := 38) C dX0_countRings_72 (by decide) ?_
                  exact hp_sub [2, 3, 1, 0] rfl (ih22 _ r29 (w22_3 + 1) (by omega) (by omega) (by omega) (by omega) hI27 hF27 (by omega))
          exact hp_sub [2, 3, 1, 0] rfl (L22 8589934592 _ w3_1 0 (by omega) (by omega) (by omega) (by omega) hI18 hF18 (by omega))
  exact hp_sub [1, 0] rfl (L3 8589934592 _ 0 (by omega) (by omega) hI1 hF1 (by omega))
abbrev rgX0_workOut : Room := { frames := 4, cells := 0, slots := 0, locals := 127 }
abbrev pgX0_workOut (z : Nat) (σ : hpMem) (a0 : Int) (a1 : Int) : Option Value → hpMem → Prop := fun r τ => r = none ∧ hpInv τ ∧ (∀ j i : Nat, 169 ≤ j → τ j i = σ j i)
set_option maxHeartbeats 4000000 in
set_option maxRecDepth 20000 in
theorem tgX0_workOut (l : Launch) (D : va_G) (cy : Nat → ClassId) (z : Nat) (σ : hpMem) (a0 : Int) (ha0 : hpR a0) (a1 : Int) (ha1 : hpR a1) (hI : hpInv σ) : hpM l D cy z yX0_workOut cX0_workOut 4 none rgX0_workOut [.ref (z + 130), .int (hpI a0), .int (hpI a1)] σ (pgX0_workOut z σ a0 a1) := by
  obtain ⟨ha01, ha02⟩ := ha0
  obtain ⟨ha11, ha12⟩ := ha1
  refine hp_met rfl (Nat.le_of_ble_eq_true rfl) (fun p e s m below meth c C Z hr hlk => ?_)
  have hF0 : ∀ j i : Nat, 169 ≤ j → σ j i = σ j i := fun j i _ => rfl
  refine h_iload_n C dX0_workOut_0 1 rfl rfl ?_
  refine h_aload_n C dX0_workOut_1 0 rfl rfl ?_
  refine h_get C O0 13 kd_130 (by decide) wd_272 dX0_workOut_2 (hp_fvI (by rw [kd_130]; rfl) rfl) ?_
  obtain ⟨hr1a, hr1b⟩ := hI.b (bf_0_13 kd_130)
  generalize hg1 : σ 130 13 = r1 at hr1a hr1b ⊢
  refine h_icmp_ne (tgt := 16) C dX0_workOut_5 (by decide) ⟨by omega, by omega⟩ ⟨by omega, by omega⟩ (fun h2 => ?_) (fun h2 => ?_)
  · refine h_iload_n C dX0_workOut_16 1 rfl rfl ?_
    refine h_iconst C dX0_workOut_17 ?_
    refine h_icmp_lt (tgt := 27) C dX0_workOut_18 (by decide) ⟨by omega, by omega⟩ ⟨by decide, by decide⟩ (fun h3 => ?_) (fun h3 => ?_)
    · refine h_return C hr hlk dX0_workOut_27 ?_
      exact ⟨rfl, hI, hF0⟩
    · refine h_iload_n C dX0_workOut_21 1 rfl rfl ?_
      refine h_bipush C dX0_workOut_22 (by decide) ?_
      refine h_icmp_le (tgt := 28) C dX0_workOut_24 (by decide) ⟨by omega, by omega⟩ ⟨by decide, by decide⟩ (fun h4 => ?_) (fun h4 => ?_)
      · refine h_aload_n C dX0_workOut_28 0 rfl rfl ?_
        refine h_iload_n C dX0_workOut_29 1 rfl rfl ?_
        refine h_put C O0 13 kd_130 (by decide) rfl wd_272 dX0_workOut_30 rfl rfl (hp_fvI (by rw [kd_130]; rfl) hpu_at) ?_
        obtain ⟨τ5, e5⟩ : ∃ μ : hpMem, μ = hpw σ 130 13 a0 := ⟨_, rfl⟩
        rw [← e5]
        have hI5 : hpInv τ5 := by rw [e5]; exact hI.w (bf_0_13 kd_130) (by omega) (by omega)
        have hF5 : ∀ j i : Nat, 169 ≤ j → τ5 j i = σ j i := fun j i h_0 => by rw [e5]; exact (hpw_fr (by omega)).trans (hF0 j i h_0)
        have hg6 : τ5 130 13 = a0 := by rw [e5]; exact hpw_eq
        refine h_aload_n C dX0_workOut_33 0 rfl rfl ?_
        refine h_iload_n C dX0_workOut_34 2 rfl rfl ?_
        refine h_put C O0 14 kd_130 (by decide) rfl wd_273 dX0_workOut_35 rfl rfl (hp_fvI (by rw [kd_130]; rfl) hpu_at) ?_
        obtain ⟨τ7, e7⟩ : ∃ μ : hpMem, μ = hpw τ5 130 14 a1 := ⟨_, rfl⟩
        rw [← e7]
        have hI7 : hpInv τ7 := by rw [e7]; exact hI5.w (bf_0_14 kd_130) (by omega) (by omega)
        have hF7 : ∀ j i : Nat, 169 ≤ j → τ7 j i = σ j i := fun j i h_0 => by rw [e7]; exact (hpw_fr (by omega)).trans (hF5 j i h_0)
        have hg8 : τ7 130 13 = a0 := by rw [e7]; exact (hpw_fr (Or.inr (by decide))).trans hg6
        have hg9 : τ7 130 14 = a1 := by rw [e7]; exact hpw_eq
        refine h_aload_n C dX0_workOut_38 0 rfl rfl ?_
        refine h_iload_n C dX0_workOut_39 1 rfl rfl ?_
        refine h_callV (As := [.int (hpI a0)]) (rest := []) C Z yyX0_listRows wd_848 (tgX0_listRows l D cy z _ a0 ⟨by omega, by omega⟩ hI7 (by omega)) kd_130 rfl rfl ⟨rfl, rfl, Nat.le_of_ble_eq_true rfl, Nat.le_of_ble_eq_true rfl⟩ ⟨Nat.le_of_ble_eq_true rfl, Nat.le_of_ble_eq_true rfl⟩ (Nat.le_of_ble_eq_true rfl) dX0_workOut_40 (fun r10 τ10 hp10 => ?_)
        obtain ⟨rfl, hI10, hG10⟩ := hp10
        have hF10 : ∀ j i : Nat, 169 ≤ j → τ10 j i = σ j i := fun j i h_0 => (hG10 j i (by omega)).trans (hF7 j i h_0)
        show hpV _ _ _ _ _ _ _ _ _ _ _ _ _ _ _ _ _ _ _ _ _ []
        refine h_aload_n C dX0_workOut_43 0 rfl rfl ?_
        refine h_iload_n C dX0_workOut_44 2 rfl rfl ?_
        refine h_callV (As := [.int (hpI a1)]) (rest := []) C Z yyX0_linkRows wd_861 (tgX0_linkRows l D cy z _ a1 ⟨by omega, by omega⟩ hI10) kd_130 rfl rfl ⟨rfl, rfl, Nat.le_of_ble_eq_true rfl, Nat.le_of_ble_eq_true rfl⟩ ⟨Nat.le_of_ble_eq_true rfl, Nat.le_of_ble_eq_true rfl⟩ (Nat.le_of_ble_eq_true rfl) dX0_workOut_45 (fun r11 τ11 hp11 => ?_)
        obtain ⟨rfl, hI11, hG11⟩ := hp11
        have hF11 : ∀ j i : Nat, 169 ≤ j → τ11 j i = σ j i := fun j i h_0 => (hG11 j i (by omega)).trans (hF10 j i h_0)
        show hpV _ _ _ _ _ _ _ _ _ _ _ _ _ _ _ _ _ _ _ _ _ []
        refine h_aload_n C dX0_workOut_48 0 rfl rfl ?_
        refine h_callV (As := []) (rest := []) C Z yyX0_peelTails wd_883 (tgX0_peelTails l D cy z _ hI11) kd_130 rfl rfl ⟨rfl, rfl, Nat.le_of_ble_eq_true rfl, Nat.le_of_ble_eq_true rfl⟩ ⟨Nat.le_of_ble_eq_true rfl, Nat.le_of_ble_eq_true rfl⟩ (Nat.le_of_ble_eq_true rfl) dX0_workOut_49 (fun r12 τ12 hp12 => ?_)
        obtain ⟨⟨x12, rfl, ⟨hx12a, hx12b⟩, hx12⟩, hI12, hG12⟩ := hp12
        have hF12 : ∀ j i : Nat, 169 ≤ j → τ12 j i = σ j i := fun j i h_0 => (hG12 j i (by omega)).trans (hF11 j i h_0)
        show hpV _ _ _ _ _ _ _ _ _ _ _ _ _ _ _ _ _ _ _ _ _ (_ :: _)
        refine h_istore_n (lv' := [(3, .int (hpI x12)), (0, .ref (z + 130)), (1, .int (hpI a0)), (2, .int (hpI a1))]) C dX0_workOut_52 rfl (by decide) rfl ?_
        refine h_aload_n C dX0_workOut_53 1 rfl rfl ?_
        refine h_aload_n C dX0_workOut_54 1 rfl rfl ?_
        refine h_get C O0 8 kd_130 (by decide) wd_262 dX0_workOut_55 (hp_fvI (by rw [kd_130]; rfl) rfl) ?_
        obtain ⟨hr13a, hr13b⟩ := hI12.b (bf_0_8 kd_130)
        generalize hg13 : τ12 130 8 = r13 at hr13a hr13b ⊢
        refine h_iload_n C dX0_workOut_58 0 rfl rfl ?_
        refine h_isub C dX0_workOut_59 rfl ?_
        refine h_put C O0 9 kd_130 (by decide) rfl wd_264 dX0_workOut_60 rfl rfl (hp_fvI (by rw [kd_130]; rfl) hpu_at) ?_
        obtain ⟨τ14, e14⟩ : ∃ μ : hpMem, μ = hpw τ12 130 9 (r13 - x12) := ⟨_, rfl⟩
        rw [← e14]
        have hI14 : hpInv τ14 := by rw [e14]; exact hI12.w (bf_0_9 kd_130) (by omega) (by omega)
        have hF14 : ∀ j i : Nat, 169 ≤ j → τ14 j i = σ j i := fun j i h_0 => by rw [e14]; exact (hpw_fr (by omega)).trans (hF12 j i h_0)
        have hg15 : τ14 130 8 = r13 := by rw [e14]; exact (hpw_fr (Or.inr (by decide))).trans hg13
        have hg16 : τ14 130 9 = r13 - x12 := by rw [e14]; exact hpw_eq
        refine h_aload_n C dX0_workOut_63 1 rfl rfl ?_
        refine h_iload_n C dX0_workOut_64 0 rfl rfl ?_
        refine h_callV (As := [.int (hpI x12)]) (rest := []) C Z yyX0_measureTails wd_887 (tgX0_measureTails l D cy z _ x12 ⟨by omega, by omega⟩ hI14 (by omega)) kd_130 rfl rfl ⟨rfl, rfl, Nat.le_of_ble_eq_true rfl, Nat.le_of_ble_eq_true rfl⟩ ⟨Nat.le_of_ble_eq_true rfl, Nat.le_of_ble_eq_true rfl⟩ (Nat.le_of_ble_eq_true rfl) dX0_workOut_65 (fun r17 τ17 hp17 => ?_)
        obtain ⟨rfl, hI17, hG17⟩ := hp17
        have hF17 : ∀ j i : Nat, 169 ≤ j → τ17 j i = σ j i := fun j i h_0 => (hG17 j i (by omega)).trans (hF14 j i h_0)
        show hpV _ _ _ _ _ _ _ _ _ _ _ _ _ _ _ _ _ _ _ _ _ []
        refine h_aload_n C dX0_workOut_68 1 rfl rfl ?_
        refine h_callV (As := []) (rest := []) C Z yyX0_countRings wd_892 (tgX0_countRings l D cy z _ hI17) kd_130 rfl rfl ⟨rfl, rfl, Nat.le_of_ble_eq_true rfl, Nat.le_of_ble_eq_true rfl⟩ ⟨Nat.le_of_ble_eq_true rfl, Nat.le_of_ble_eq_true rfl⟩ (Nat.le_of_ble_eq_true rfl) dX0_workOut_69 (fun r18 τ18 hp18 => ?_)
        obtain ⟨rfl, hI18, hG18⟩ := hp18
        have hF18 : ∀ j i : Nat, 169 ≤ j → τ18 j i = σ j i := fun j i h_0 => (hG18 j i (by omega)).trans (hF17 j i h_0)
        show hpV _ _ _ _ _ _ _ _ _ _ _ _ _ _ _ _ _ _ _ _ _ []
        refine h_return C hr hlk dX0_workOut_72 ?_
        exact ⟨rfl, hI18, hF18⟩
      · refine h_return C hr hlk dX0_workOut_27 ?_
        exact ⟨rfl, hI, hF0⟩
  · refine h_iload_n C dX0_workOut_8 2 rfl rfl ?_
    refine h_aload_n C dX0_workOut_9 0 rfl rfl ?_
    refine h_get C O0 14 kd_130 (by decide) wd_273 dX0_workOut_10 (hp_fvI (by rw [kd_130]; rfl) rfl) ?_
    obtain ⟨hr19a, hr19b⟩ := hI.b (bf_0_14 kd_130)
    generalize hg19 : σ 130 14 = r19 at hr19a hr19b ⊢
    refine h_icmp_eq (tgt := 27) C dX0_workOut_13 (by decide) ⟨by omega, by omega⟩ ⟨by omega, by omega⟩ (fun h20 => ?_) (fun h20 => ?_)
    · refine h_return C hr hlk dX0_workOut_27 ?_
      exact ⟨rfl, hI, hF0⟩
    · refine h_iload_n C dX0_workOut_16 1 rfl rfl ?_
      refine h_iconst C dX0_workOut_17 ?_
      refine h_icmp_lt (tgt := 27) C dX0_workOut_18 (by decide) ⟨by omega, by omega⟩ ⟨by decide, by decide⟩ (fun h21 => ?_) (fun h21 => ?_)
      · refine h_return C hr hlk dX0_workOut_27 ?_
        exact ⟨rfl, hI, hF0⟩
      · refine h_iload_n C dX0_workOut_21 1 rfl rfl ?_
        refine h_bipush C dX0_workOut_22 (by decide) ?_
        refine h_icmp_le (tgt := 28) C dX0_workOut_24 (by decide) ⟨by omega, by omega⟩ ⟨by decide, by decide⟩ (fun h22 => ?_) (fun h22 => ?_)
        · refine h_aload_n C dX0_workOut_28 0 rfl rfl ?_
          refine h_iload_n C dX0_workOut_29 1 rfl rfl ?_
          refine h_put C O0 13 kd_130 (by decide) rfl wd_272 dX0_workOut_30 rfl rfl (hp_fvI (by rw [kd_130]; rfl) hpu_at) ?_
          obtain ⟨τ23, e23⟩ : ∃ μ : hpMem, μ = hpw σ 130 13 a0 := ⟨_, rfl⟩
          rw [← e23]
          have hI23 : hpInv τ23 := by rw [e23]; exact hI.w (bf_0_13 kd_130) (by omega) (by omega)
          have hF23 : ∀ j i : Nat, 169 ≤ j → τ23 j i = σ j i := fun j i h_0 => by rw [e23]; exact (hpw_fr (by omega)).trans (hF0 j i h_0)
          have hg24 : τ23 130 14 = r19 := by rw [e23]; exact (hpw_fr (Or.inr (by decide))).trans hg19
          have hg25 : τ23 130 13 = a0 := by rw [e23]; exact hpw_eq
          refine h_aload_n C dX0_workOut_33 0 rfl rfl ?_
          refine h_iload_n C dX0_workOut_34 2 rfl rfl ?_
          refine h_put C O0 14 kd_130 (by decide) rfl wd_273 dX0_workOut_35 rfl rfl (hp_fvI (by rw [kd_130]; rfl) hpu_at) ?_
          obtain ⟨τ26, e26⟩ : ∃ μ : hpMem, μ = hpw τ23 130 14 a1 := ⟨_, rfl⟩
          rw [← e26]
          have hI26 : hpInv τ26 := by rw [e26]; exact hI23.w (bf_0_14 kd_130) (by omega) (by omega)
          have hF26 : ∀ j i : Nat, 169 ≤ j → τ26 j i = σ j i := fun j i h_0 => by rw [e26]; exact (hpw_fr (by omega)).trans (hF23 j i h_0)
          have hg27 : τ26 130 13 = a0 := by rw [e26]; exact (hpw_fr (Or.inr (by decide))).trans hg25
          have hg28 : τ26 130 14 = a1 := by rw [e26]; exact hpw_eq
          refine h_aload_n C dX0_workOut_38 0 rfl rfl ?_
          refine h_iload_n C dX0_workOut_39 1 rfl rfl ?_
          refine h_callV (As := [.int (hpI a0)]) (rest := []) C Z yyX0_listRows wd_848 (tgX0_listRows l D cy z _ a0 ⟨by omega, by omega⟩ hI26 (by omega)) kd_130 rfl rfl ⟨rfl, rfl, Nat.le_of_ble_eq_true rfl, Nat.le_of_ble_eq_true rfl⟩ ⟨Nat.le_of_ble_eq_true rfl, Nat.le_of_ble_eq_true rfl⟩ (Nat.le_of_ble_eq_true rfl) dX0_workOut_40 (fun r29 τ29 hp29 => ?_)
          obtain ⟨rfl, hI29, hG29⟩ := hp29
          have hF29 : ∀ j i : Nat, 169 ≤ j → τ29 j i = σ j i := fun j i h_0 => (hG29 j i (by omega)).trans (hF26 j i h_0)
          show hpV _ _ _ _ _ _ _ _ _ _ _ _ _ _ _ _ _ _ _ _ _ []
          refine h_aload_n C dX0_workOut_43 0 rfl rfl ?_
          refine h_iload_n C dX0_workOut_44 2 rfl rfl ?_
          refine h_callV (As := [.int (hpI a1)]) (rest := []) C Z yyX0_linkRows wd_861 (tgX0_linkRows l D cy z _ a1 ⟨by omega, by omega⟩ hI29) kd_130 rfl rfl ⟨rfl, rfl, Nat.le_of_ble_eq_true rfl, Nat.le_of_ble_eq_true rfl⟩ ⟨Nat.le_of_ble_eq_true rfl, Nat.le_of_ble_eq_true rfl⟩ (Nat.le_of_ble_eq_true rfl) dX0_workOut_45 (fun r30 τ30 hp30 => ?_)
          obtain ⟨rfl, hI30, hG30⟩ := hp30
          have hF30 : ∀ j i : Nat, 169 ≤ j → τ30 j i = σ j i := fun j i h_0 => (hG30 j i (by omega)).trans (hF29 j i h_0)
          show hpV _ _ _ _ _ _ _ _ _ _ _ _ _ _ _ _ _ _ _ _ _ []
          refine h_aload_n C dX0_workOut_48 0 rfl rfl ?_
          refine h_callV (As := []) (rest := []) C Z yyX0_peelTails wd_883 (tgX0_peelTails l D cy z _ hI30) kd_130 rfl rfl ⟨rfl, rfl, Nat.le_of_ble_eq_true rfl, Nat.le_of_ble_eq_true rfl⟩ ⟨Nat.le_of_ble_eq_true rfl, Nat.le_of_ble_eq_true rfl⟩ (Nat.le_of_ble_eq_true rfl) dX0_workOut_49 (fun r31 τ31 hp31 => ?_)
          obtain ⟨⟨x31, rfl, ⟨hx31a, hx31b⟩, hx31⟩, hI31, hG31⟩ := hp31
          have hF31 : ∀ j i : Nat, 169 ≤ j → τ31 j i = σ j i := fun j i h_0 => (hG31 j i (by omega)).trans (hF30 j i h_0)
          show hpV _ _ _ _ _ _ _ _ _ _ _ _ _ _ _ _ _ _ _ _ _ (_ :: _)
          refine h_istore_n (lv' := [(3, .int (hpI x31)), (0, .ref (z + 130)), (1, .int (hpI a0)), (2, .int (hpI a1))]) C dX0_workOut_52 rfl (by decide) rfl ?_
          refine h_aload_n C dX0_workOut_53 1 rfl rfl ?_
          refine h_aload_n C dX0_workOut_54 1 rfl rfl ?_
          refine h_get C O0 8 kd_130 (by decide) wd_262 dX0_workOut_55 (hp_fvI (by rw [kd_130]; rfl) rfl) ?_
          obtain ⟨hr32a, hr32b⟩ := hI31.b (bf_0_8 kd_130)
          generalize hg32 : τ31 130 8 = r32 at hr32a hr32b ⊢
          refine h_iload_n C dX0_workOut_58 0 rfl rfl ?_
          refine h_isub C dX0_workOut_59 rfl ?_
          refine h_put C O0 9 kd_130 (by decide) rfl wd_264 dX0_workOut_60 rfl rfl (hp_fvI (by rw [kd_130]; rfl) hpu_at) ?_
          obtain ⟨τ33, e33⟩ : ∃ μ : hpMem, μ = hpw τ31 130 9 (r32 - x31) := ⟨_, rfl⟩
          rw [← e33]
          have hI33 : hpInv τ33 := by rw [e33]; exact hI31.w (bf_0_9 kd_130) (by omega) (by omega)
          have hF33 : ∀ j i : Nat, 169 ≤ j → τ33 j i = σ j i := fun j i h_0 => by rw [e33]; exact (hpw_fr (by omega)).trans (hF31 j i h_0)
          have hg34 : τ33 130 8 = r32 := by rw [e33]; exact (hpw_fr (Or.inr (by decide))).trans hg32
          have hg35 : τ33 130 9 = r32 - x31 := by rw [e33]; exact hpw_eq
          refine h_aload_n C dX0_workOut_63 1 rfl rfl ?_
          refine h_iload_n C dX0_workOut_64 0 rfl rfl ?_
          refine h_callV (As := [.int (hpI x31)]) (rest := []) C Z yyX0_measureTails wd_887 (tgX0_measureTails l D cy z _ x31 ⟨by omega, by omega⟩ hI33 (by omega)) kd_130 rfl rfl ⟨rfl, rfl, Nat.le_of_ble_eq_true rfl, Nat.le_of_ble_eq_true rfl⟩ ⟨Nat.le_of_ble_eq_true rfl, Nat.le_of_ble_eq_true rfl⟩ (Nat.le_of_ble_eq_true rfl) dX0_workOut_65 (fun r36 τ36 hp36 => ?_)
          obtain ⟨rfl, hI36, hG36⟩ := hp36
          have hF36 : ∀ j i : Nat, 169 ≤ j → τ36 j i = σ j i := fun j i h_0 => (hG36 j i (by omega)).trans (hF33 j i h_0)
          show hpV _ _ _ _ _ _ _ _ _ _ _ _ _ _ _ _ _ _ _ _ _ []
          refine h_aload_n C dX0_workOut_68 1 rfl rfl ?_
          refine h_callV (As := []) (rest := []) C Z yyX0_countRings wd_892 (tgX0_countRings l D cy z _ hI36) kd_130 rfl rfl ⟨rfl, rfl, Nat.le_of_ble_eq_true rfl, Nat.le_of_ble_eq_true rfl⟩ ⟨Nat.le_of_ble_eq_true rfl, Nat.le_of_ble_eq_true rfl⟩ (Nat.le_of_ble_eq_true rfl) dX0_workOut_69 (fun r37 τ37 hp37 => ?_)
          obtain ⟨rfl, hI37, hG37⟩ := hp37
          have hF37 : ∀ j i : Nat, 169 ≤ j → τ37 j i = σ j i := fun j i h_0 => (hG37 j i (by omega)).trans (hF36 j i h_0)
          show hpV _ _ _ _ _ _ _ _ _ _ _ _ _ _ _ _ _ _ _ _ _ []
          refine h_return C hr hlk dX0_workOut_72 ?_
          exact ⟨rfl, hI37, hF37⟩
        · refine h_return C hr hlk dX0_workOut_27 ?_
          exact ⟨rfl, hI, hF0⟩
abbrev rgX0_comersTo : Room := { frames := 1, cells := 0, slots := 0, locals := 26 }
abbrev pgX0_comersTo (z : Nat) (σ : hpMem) (q : Nat) : Option Value → hpMem → Prop := fun r τ => (∃ x : Int, r = some (.int (hpI x)) ∧ (hpR x)) ∧ σ = τ
set_option maxHeartbeats 4000000 in
set_option maxRecDepth 20000 in
theorem tgX0_comersTo (l : Launch) (D : va_G) (cy : Nat → ClassId) (z : Nat) (σ : hpMem) (q : Nat) (hq : hpkd q = 3) (hI : hpInv σ) : hpM l D cy z yX0_comersTo cX0_comersTo 2 (some .int) rgX0_comersTo [.ref (z + 130), .ref (z + q)] σ (pgX0_comersTo z σ q) := by
  refine hp_met rfl (Nat.le_of_ble_eq_true rfl) (fun p e s m below meth c C Z hr hlk => ?_)
  have hl_q := kb_3 hq
  refine h_aload_n C dX0_comersTo_0 0 rfl rfl ?_
  refine h_get C O0 2 kd_130 (by decide) wd_256 dX0_comersTo_1 fr_130_2 ?_
  refine h_aload_n C dX0_comersTo_4 0 rfl rfl ?_
  refine h_aload_n C dX0_comersTo_5 1 rfl rfl ?_
  refine h_callS (As := [.ref (z + q)]) (rest := [.ref (z + 130), .ref (z + 133)]) C Z yyX0_codeOf rfl wd_876 (tgX0_codeOf l D cy z _ q hq hI) rfl rfl ⟨rfl, rfl, Nat.le_of_ble_eq_true rfl, Nat.le_of_ble_eq_true rfl⟩ ⟨Nat.le_of_ble_eq_true rfl, Nat.le_of_ble_eq_true rfl⟩ (Nat.le_of_ble_eq_true rfl) dX0_comersTo_6 (fun r1 τ1 hp1 => ?_)
  obtain ⟨⟨x1, rfl, ⟨hx1a, hx1b⟩⟩, rfl⟩ := hp1
  show hpV _ _ _ _ _ _ _ _ _ _ _ _ _ _ _ _ _ _ _ _ _ (_ :: _)
  refine h_callV (As := [.long (hpJ x1)]) (rest := [.ref (z + 133)]) C Z yyX0_indexOf wd_879 (tgX0_indexOf l D cy z _ x1 ⟨by omega, by omega⟩ hI) kd_130 rfl rfl ⟨rfl, rfl, Nat.le_of_ble_eq_true rfl, Nat.le_of_ble_eq_true rfl⟩ ⟨Nat.le_of_ble_eq_true rfl, Nat.le_of_ble_eq_true rfl⟩ (Nat.le_of_ble_eq_true rfl) dX0_comersTo_9 (fun r2 τ2 hp2 => ?_)
  obtain ⟨⟨x2, rfl, ⟨hx2a, hx2b⟩, hx2⟩, rfl⟩ := hp2
  show hpV _ _ _ _ _ _ _ _ _ _ _ _ _ _ _ _ _ _ _ _ _ (_ :: _)
  refine h_iaload C dX0_comersTo_12 kd_133 (x2).toNat (Int.toNat_of_nonneg (by omega)) (by rw [ln_133]; omega) rfl ?_
  obtain ⟨hr3a, hr3b⟩ := hI.b (bo_133 _)
  generalize hg3 : σ 133 ((x2).toNat) = r3 at hr3a hr3b ⊢
  refine h_ireturn C hr hlk dX0_comersTo_13 ?_
  exact ⟨⟨_, rfl, ⟨by omega, by omega⟩⟩, rfl⟩
abbrev rgX0_tailOf : Room := { frames := 1, cells := 0, slots := 0, locals := 26 }
abbrev pgX0_tailOf (z : Nat) (σ : hpMem) (q : Nat) : Option Value → hpMem → Prop := fun r τ => (∃ x : Int, r = some (.int (hpI x)) ∧ (hpR x)) ∧ σ = τ
set_option maxHeartbeats 4000000 in
set_option maxRecDepth 20000 in
theorem tgX0_tailOf (l : Launch) (D : va_G) (cy : Nat → ClassId) (z : Nat) (σ : hpMem) (q : Nat) (hq : hpkd q = 3) (hI : hpInv σ) : hpM l D cy z yX0_tailOf cX0_tailOf 2 (some .int) rgX0_tailOf [.ref (z + 130), .ref (z + q)] σ (pgX0_tailOf z σ q) := by
  refine hp_met rfl (Nat.le_of_ble_eq_true rfl) (fun p e s m below meth c C Z hr hlk => ?_)
  have hl_q := kb_3 hq
  refine h_aload_n C dX0_tailOf_0 0 rfl rfl ?_
  refine h_get C O0 5 kd_130 (by decide) wd_259 dX0_tailOf_1 fr_130_5 ?_
  refine h_aload_n C dX0_tailOf_4 0 rfl rfl ?_
  refine h_aload_n C dX0_tailOf_5 1 rfl rfl ?_
  refine h_callS (As := [.ref (z + q)]) (rest := [.ref (z + 130), .ref (z + 136)]) C Z yyX0_codeOf rfl wd_876 (tgX0_codeOf l D cy z _ q hq hI) rfl rfl ⟨rfl, rfl, Nat.le_of_ble_eq_true rfl, Nat.le_of_ble_eq_true rfl⟩ ⟨Nat.le_of_ble_eq_true rfl, Nat.le_of_ble_eq_true rfl⟩ (Nat.le_of_ble_eq_true rfl) dX0_tailOf_6 (fun r1 τ1 hp1 => ?_)
  obtain ⟨⟨x1, rfl, ⟨hx1a, hx1b⟩⟩, rfl⟩ := hp1
  show hpV _ _ _ _ _ _ _ _ _ _ _ _ _ _ _ _ _ _ _ _ _ (_ :: _)
  refine h_callV (As := [.long (hpJ x1)]) (rest := [.ref (z + 136)]) C Z yyX0_indexOf wd_879 (tgX0_indexOf l D cy z _ x1 ⟨by omega, by omega⟩ hI) kd_130 rfl rfl ⟨rfl, rfl, Nat.le_of_ble_eq_true rfl, Nat.le_of_ble_eq_true rfl⟩ ⟨Nat.le_of_ble_eq_true rfl, Nat.le_of_ble_eq_true rfl⟩ (Nat.le_of_ble_eq_true rfl) dX0_tailOf_9 (fun r2 τ2 hp2 => ?_)
  obtain ⟨⟨x2, rfl, ⟨hx2a, hx2b⟩, hx2⟩, rfl⟩ := hp2
  show hpV _ _ _ _ _ _ _ _ _ _ _ _ _ _ _ _ _ _ _ _ _ (_ :: _)
  refine h_iaload C dX0_tailOf_12 kd_136 (x2).toNat (Int.toNat_of_nonneg (by omega)) (by rw [ln_136]; omega) rfl ?_
  obtain ⟨hr3a, hr3b⟩ := hI.b (bo_136 _)
  generalize hg3 : σ 136 ((x2).toNat) = r3 at hr3a hr3b ⊢
  refine h_ireturn C hr hlk dX0_tailOf_13 ?_
  exact ⟨⟨_, rfl, ⟨by omega, by omega⟩⟩, rfl⟩
abbrev rgX0_heapOfFirstComer : Room := { frames := 1, cells := 0, slots := 0, locals := 26 }
abbrev pgX0_heapOfFirstComer (z : Nat) (σ : hpMem) (q : Nat) (a1 : Int) : Option Value → hpMem → Prop := fun r τ => (∃ x : Int, r = some (.int (hpI x)) ∧ (hpR x)) ∧ σ = τ
set_option maxHeartbeats 4000000 in
set_option maxRecDepth 20000 in
theorem tgX0_heapOfFirstComer (l : Launch) (D : va_G) (cy : Nat → ClassId) (z : Nat) (σ : hpMem) (q : Nat) (hq : hpkd q = 3) (a1 : Int) (ha1 : hpR a1) (hI : hpInv σ) : hpM l D cy z yX0_heapOfFirstComer cX0_heapOfFirstComer 6 (some .int) rgX0_heapOfFirstComer [.ref (z + 130), .ref (z + q), .int (hpI a1)] σ (pgX0_heapOfFirstComer z σ q a1) := by
  obtain ⟨ha11, ha12⟩ := ha1
  refine hp_met rfl (Nat.le_of_ble_eq_true rfl) (fun p e s m below meth c C Z hr hlk => ?_)
  have hl_q := kb_3 hq
  refine h_aload_n C dX0_heapOfFirstComer_0 0 rfl rfl ?_
  refine h_aload_n C dX0_heapOfFirstComer_1 1 rfl rfl ?_
  refine h_callS (As := [.ref (z + q)]) (rest := [.ref (z + 130)]) C Z yyX0_codeOf rfl wd_876 (tgX0_codeOf l D cy z _ q hq hI) rfl rfl ⟨rfl, rfl, Nat.le_of_ble_eq_true rfl, Nat.le_of_ble_eq_true rfl⟩ ⟨Nat.le_of_ble_eq_true rfl, Nat.le_of_ble_eq_true rfl⟩ (Nat.le_of_ble_eq_true rfl) dX0_heapOfFirstComer_2 (fun r1 τ1 hp1 => ?_)
  obtain ⟨⟨x1, rfl, ⟨hx1a, hx1b⟩⟩, rfl⟩ := hp1
  show hpV _ _ _ _ _ _ _ _ _ _ _ _ _ _ _ _ _ _ _ _ _ (_ :: _)
  refine h_callV (As := [.long (hpJ x1)]) (rest := []) C Z yyX0_indexOf wd_879 (tgX0_indexOf l D cy z _ x1 ⟨by omega, by omega⟩ hI) kd_130 rfl rfl ⟨rfl, rfl, Nat.le_of_ble_eq_true rfl, Nat.le_of_ble_eq_true rfl⟩ ⟨Nat.le_of_ble_eq_true rfl, Nat.le_of_ble_eq_true rfl⟩ (Nat.le_of_ble_eq_true rfl) dX0_heapOfFirstComer_5 (fun r2 τ2 hp2 => ?_)
  obtain ⟨⟨x2, rfl, ⟨hx2a, hx2b⟩, hx2⟩, rfl⟩ := hp2
  show hpV _ _ _ _ _ _ _ _ _ _ _ _ _ _ _ _ _ _ _ _ _ (_ :: _)
  refine h_istore_n (lv' := [(3, .int (hpI x2)), (0, .ref (z + 130)), (1, .ref (z + q)), (2, .int (hpI a1))]) C dX0_heapOfFirstComer_8 rfl (by decide) rfl ?_
  refine h_iconst C dX0_heapOfFirstComer_9 ?_
  refine h_istore (lv' := [(4, .int (hpI 0)), (3, .int (hpI x2)), (0, .ref (z + 130)), (1, .ref (z + q)), (2, .int (hpI a1))]) C dX0_heapOfFirstComer_10 (by decide) rfl ?_
  have L3 : ∀ (n3 : Nat) (w3_4 : Int), 0 ≤ w3_4 → w3_4 ≤ 2147483647 → (4294967296 - w3_4) < (n3 : Int) → hpF p l e rgX0_heapOfFirstComer s m [.ref (z + 130), .ref (z + q), .int (hpI a1)] below meth c 6 D cy z (pgX0_heapOfFirstComer z σ q a1) σ 12 [(0, .ref (z + 130)), (1, .ref (z + q)), (2, .int (hpI a1)), (3, .int (hpI x2)), (4, .int (hpI w3_4))] [] := by
    intro n3
    induction n3 with
    | zero => intro w3_4 hv3_0 hv3_1 hm3; exfalso; omega
    | succ n3 ih3 =>
      intro w3_4 hv3_0 hv3_1 hm3
      refine h_iload C dX0_heapOfFirstComer_12 4 rfl ?_
      refine h_aload_n C dX0_heapOfFirstComer_14 0 rfl rfl ?_
      refine h_get C O0 8 kd_130 (by decide) wd_262 dX0_heapOfFirstComer_15 (hp_fvI (by rw [kd_130]; rfl) rfl) ?_
      obtain ⟨hr4a, hr4b⟩ := hI.b (bf_0_8 kd_130)
      generalize hg4 : σ 130 8 = r4 at hr4a hr4b ⊢
      refine h_icmp_ge (tgt := 63) C dX0_heapOfFirstComer_18 (by decide) ⟨by omega, by omega⟩ ⟨by omega, by omega⟩ (fun h5 => ?_) (fun h5 => ?_)
      · refine h_iconst C dX0_heapOfFirstComer_63 ?_
        refine h_ireturn C hr hlk dX0_heapOfFirstComer_64 ?_
        exact ⟨⟨_, rfl, ⟨by decide, by decide⟩⟩, rfl⟩
      · refine h_aload_n C dX0_heapOfFirstComer_21 0 rfl rfl ?_
        refine h_get C O0 1 kd_130 (by decide) wd_255 dX0_heapOfFirstComer_22 fr_130_1 ?_
        refine h_iload C dX0_heapOfFirstComer_25 4 rfl ?_
        refine h_iaload C dX0_heapOfFirstComer_27 kd_132 (w3_4).toNat (Int.toNat_of_nonneg (by omega)) (by rw [ln_132]; omega) rfl ?_
        obtain ⟨hr6a, hr6b⟩ := hI.b (bo_132 _)
        generalize hg6 : σ 132 ((w3_4).toNat) = r6 at hr6a hr6b ⊢
        refine h_iload_n C dX0_heapOfFirstComer_28 3 rfl rfl ?_
        refine h_icmp_ne (tgt := 57) C dX0_heapOfFirstComer_29 (by decide) ⟨by omega, by omega⟩ ⟨by omega, by omega⟩ (fun h7 => ?_) (fun h7 => ?_)
        · refine h_iinc (lv' := [(4, .int (hpI (w3_4 + 1))), (0, .ref (z + 130)), (1, .ref (z + q)), (2, .int (hpI a1)), (3, .int (hpI x2))]) C dX0_heapOfFirstComer_57 4 rfl rfl (by decide) rfl ?_
          refine h_goto (tgt := 12) C dX0_heapOfFirstComer_60 (by decide) ?_
          exact hp_sub [1, 2, 3, 4, 0] rfl (ih3 (w3_4 + 1) (by omega) (by omega) (by omega))
        · refine h_aload_n C dX0_heapOfFirstComer_32 0 rfl rfl ?_
          refine h_get C O0 0 kd_130 (by decide) wd_254 dX0_heapOfFirstComer_33 fr_130_0 ?_
          refine h_iload C dX0_heapOfFirstComer_36 4 rfl ?_
          refine h_laload C dX0_heapOfFirstComer_38 kd_131 (w3_4).toNat (Int.toNat_of_nonneg (by omega)) (by rw [ln_131]; omega) rfl ?_
          obtain ⟨hr8a, hr8b⟩ := hI.b (bo_131 _)
          generalize hg8 : σ 131 ((w3_4).toNat) = r8 at hr8a hr8b ⊢
          refine h_iload_n C dX0_heapOfFirstComer_39 2 rfl rfl ?_
          refine h_callS (As := [.long (hpJ r8), .int (hpI a1)]) (rest := []) C Z yyX0_heapOfCode rfl wd_870 (tgX0_heapOfCode l D cy z _ r8 ⟨by omega, by omega⟩ a1 ⟨by omega, by omega⟩ hI) rfl rfl ⟨rfl, rfl, Nat.le_of_ble_eq_true rfl, Nat.le_of_ble_eq_true rfl⟩ ⟨Nat.le_of_ble_eq_true rfl, Nat.le_of_ble_eq_true rfl⟩ (Nat.le_of_ble_eq_true rfl) dX0_heapOfFirstComer_40 (fun r9 τ9 hp9 => ?_)
          obtain ⟨⟨x9, rfl, ⟨hx9a, hx9b⟩⟩, rfl⟩ := hp9
          show hpV _ _ _ _ _ _ _ _ _ _ _ _ _ _ _ _ _ _ _ _ _ (_ :: _)
          refine h_istore (lv' := [(5, .int (hpI x9)), (0, .ref (z + 130)), (1, .ref (z + q)), (2, .int (hpI a1)), (3, .int (hpI x2)), (4, .int (hpI w3_4))]) C dX0_heapOfFirstComer_43 (by decide) rfl ?_
          refine h_iload C dX0_heapOfFirstComer_45 0 rfl ?_
          refine h_if_le (tgt := 55) C dX0_heapOfFirstComer_47 (by decide) ⟨by omega, by omega⟩ (fun h10 => ?_) (fun h10 => ?_)
          · refine h_iconst C dX0_heapOfFirstComer_55 ?_
            refine h_ireturn C hr hlk dX0_heapOfFirstComer_56 ?_
            exact ⟨⟨_, rfl, ⟨by decide, by decide⟩⟩, rfl⟩
          · refine h_iload C dX0_heapOfFirstComer_50 0 rfl ?_
            refine h_goto (tgt := 56) C dX0_heapOfFirstComer_52 (by decide) ?_
            refine h_ireturn C hr hlk dX0_heapOfFirstComer_56 ?_
            exact ⟨⟨_, rfl, ⟨by omega, by omega⟩⟩, rfl⟩
  exact hp_sub [2, 3, 4, 1, 0] rfl (L3 8589934592 0 (by omega) (by omega) (by omega))
abbrev rgX5_clear : Room := { frames := 0, cells := 0, slots := 0, locals := 0 }
abbrev pgX5_clear (z : Nat) (σ : hpMem) : Option Value → hpMem → Prop := fun r τ => r = none ∧ hpInv τ ∧ (∀ j i : Nat, 169 ≤ j → τ j i = σ j i)
set_option maxHeartbeats 4000000 in
set_option maxRecDepth 20000 in
theorem tgX5_clear (l : Launch) (D : va_G) (cy : Nat → ClassId) (z : Nat) (σ : hpMem) (hI : hpInv σ) : hpM l D cy z yX5_clear cX5_clear 1 none rgX5_clear [.ref (z + 141)] σ (pgX5_clear z σ) := by
  refine hp_met rfl (Nat.le_of_ble_eq_true rfl) (fun p e s m below meth c C Z hr hlk => ?_)
  have hF0 : ∀ j i : Nat, 169 ≤ j → σ j i = σ j i := fun j i _ => rfl
  refine h_aload_n C dX5_clear_0 0 rfl rfl ?_
  refine h_iconst C dX5_clear_1 ?_
  refine h_put C O5 2 kd_141 (by decide) rfl wd_316 dX5_clear_2 rfl rfl (hp_fvI (by rw [kd_141]; rfl) hpu_at) ?_
  obtain ⟨τ1, e1⟩ : ∃ μ : hpMem, μ = hpw σ 141 2 0 := ⟨_, rfl⟩
  rw [← e1]
  have hI1 : hpInv τ1 := by rw [e1]; exact hI.w (bf_5_2 kd_141) (by omega) (by omega)
  have hF1 : ∀ j i : Nat, 169 ≤ j → τ1 j i = σ j i := fun j i h_0 => by rw [e1]; exact (hpw_fr (by omega)).trans (hF0 j i h_0)
  have hg2 : τ1 141 2 = 0 := by rw [e1]; exact hpw_eq
  refine h_return C hr hlk dX5_clear_5 ?_
  exact ⟨rfl, hI1, hF1⟩
abbrev rgX5_keep : Room := { frames := 1, cells := 0, slots := 0, locals := 21 }
abbrev pgX5_keep (z : Nat) (σ : hpMem) (a0 : Int) : Option Value → hpMem → Prop := fun r τ => r = none ∧ hpInv τ ∧ (∀ j i : Nat, 169 ≤ j → τ j i = σ j i)
set_option maxHeartbeats 4000000 in
set_option maxRecDepth 20000 in
theorem tgX5_keep (l : Launch) (D : va_G) (cy : Nat → ClassId) (z : Nat) (σ : hpMem) (a0 : Int) (ha0 : hpR a0) (hI : hpInv σ) : hpM l D cy z yX5_keep cX5_keep 4 none rgX5_keep [.ref (z + 141), .int (hpI a0), .ref (z + 70)] σ (pgX5_keep z σ a0) := by
  obtain ⟨ha01, ha02⟩ := ha0
  refine hp_met rfl (Nat.le_of_ble_eq_true rfl) (fun p e s m below meth c C Z hr hlk => ?_)
  have hF0 : ∀ j i : Nat, 169 ≤ j → σ j i = σ j i := fun j i _ => rfl
  refine h_aload_n C dX5_keep_0 0 rfl rfl ?_
  refine h_get C O5 2 kd_141 (by decide) wd_316 dX5_keep_1 (hp_fvI (by rw [kd_141]; rfl) rfl) ?_
  obtain ⟨hr1a, hr1b⟩ := hI.b (bf_5_2 kd_141)
  generalize hg1 : σ 141 2 = r1 at hr1a hr1b ⊢
  refine h_bipush C dX5_keep_4 (by decide) ?_
  refine h_icmp_lt (tgt := 10) C dX5_keep_6 (by decide) ⟨by omega, by omega⟩ ⟨by decide, by decide⟩ (fun h2 => ?_) (fun h2 => ?_)
  · refine h_aload_n C dX5_keep_10 0 rfl rfl ?_
    refine h_get C O5 0 kd_141 (by decide) wd_314 dX5_keep_11 fr_141_0 ?_
    refine h_aload_n C dX5_keep_14 0 rfl rfl ?_
    refine h_get C O5 2 kd_141 (by decide) wd_316 dX5_keep_15 (hp_fvI (by rw [kd_141]; rfl) rfl) ?_
    rw [hg1]
    refine h_iload_n C dX5_keep_18 1 rfl rfl ?_
    refine h_iastore C dX5_keep_19 kd_142 (r1).toNat (Int.toNat_of_nonneg (by omega)) (by rw [ln_142]; omega) ?_
    obtain ⟨τ3, e3⟩ : ∃ μ : hpMem, μ = hpw σ 142 ((r1).toNat) a0 := ⟨_, rfl⟩
    rw [← e3]
    have hI3 : hpInv τ3 := by rw [e3]; exact hI.w (bo_142 _) (by omega) (by omega)
    have hF3 : ∀ j i : Nat, 169 ≤ j → τ3 j i = σ j i := fun j i h_0 => by rw [e3]; exact (hpw_fr (by omega)).trans (hF0 j i h_0)
    have hg4 : τ3 141 2 = r1 := by rw [e3]; exact (hpw_fr (Or.inl (by omega))).trans hg1
    refine h_iconst C dX5_keep_20 ?_
    refine h_istore_n (lv' := [(3, .int (hpI 0)), (0, .ref (z + 141)), (1, .int (hpI a0)), (2, .ref (z + 70))]) C dX5_keep_21 rfl (by decide) rfl ?_
    have L5 : ∀ (n5 : Nat) (τ5 : hpMem) (w5_3 : Int), 0 ≤ w5_3 → w5_3 ≤ 2147483647 → hpInv τ5 → (∀ j i : Nat, 169 ≤ j → τ5 j i = σ j i) → (τ5 141 2 ≤ 19) → (4294967296 - w5_3) < (n5 : Int) → hpF p l e rgX5_keep s m [.ref (z + 141), .int (hpI a0), .ref (z + 70)] below meth c 4 D cy z (pgX5_keep z σ a0) τ5 22 [(0, .ref (z + 141)), (1, .int (hpI a0)), (2, .ref (z + 70)), (3, .int (hpI w5_3))] [] := by
      intro n5
      induction n5 with
      | zero => intro τ5 w5_3 hv5_0 hv5_1 hI5 hF5 hM5_0 hm5; exfalso; omega
      | succ n5 ih5 =>
        intro τ5 w5_3 hv5_0 hv5_1 hI5 hF5 hM5_0 hm5
        refine h_iload_n C dX5_keep_22 3 rfl rfl ?_
        refine h_bipush C dX5_keep_23 (by decide) ?_
        refine h_icmp_gt (tgt := 53) C dX5_keep_25 (by decide) ⟨by omega, by omega⟩ ⟨by decide, by decide⟩ (fun h6 => ?_) (fun h6 => ?_)
        · refine h_aload_n C dX5_keep_53 0 rfl rfl ?_
          refine h_dup C rfl dX5_keep_54 ?_
          refine h_get C O5 2 kd_141 (by decide) wd_316 dX5_keep_55 (hp_fvI (by rw [kd_141]; rfl) rfl) ?_
          obtain ⟨hr7a, hr7b⟩ := hI5.b (bf_5_2 kd_141)
          generalize hg7 : τ5 141 2 = r7 at hr7a hr7b ⊢
          refine h_iconst C dX5_keep_58 ?_
          refine h_iadd C dX5_keep_59 rfl ?_
          refine h_put C O5 2 kd_141 (by decide) rfl wd_316 dX5_keep_60 rfl rfl (hp_fvI (by rw [kd_141]; rfl) hpu_at) ?_
          obtain ⟨τ8, e8⟩ : ∃ μ : hpMem, μ = hpw τ5 141 2 (r7 + 1) := ⟨_, rfl⟩
          rw [← e8]
          have hI8 : hpInv τ8 := by rw [e8]; exact hI5.w (bf_5_2 kd_141) (by omega) (by omega)
          have hF8 : ∀ j i : Nat, 169 ≤ j → τ8 j i = σ j i := fun j i h_0 => by rw [e8]; exact (hpw_fr (by omega)).trans (hF5 j i h_0)
          have hg9 : τ8 141 2 = r7 + 1 := by rw [e8]; exact hpw_eq
          refine h_return C hr hlk dX5_keep_63 ?_
          exact ⟨rfl, hI8, hF8⟩
        · refine h_aload_n C dX5_keep_28 0 rfl rfl ?_
          refine h_get C O5 1 kd_141 (by decide) wd_315 dX5_keep_29 fr_141_1 ?_
          refine h_aload_n C dX5_keep_32 0 rfl rfl ?_
          refine h_get C O5 2 kd_141 (by decide) wd_316 dX5_keep_33 (hp_fvI (by rw [kd_141]; rfl) rfl) ?_
          obtain ⟨hr10a, hr10b⟩ := hI5.b (bf_5_2 kd_141)
          generalize hg10 : τ5 141 2 = r10 at hr10a hr10b ⊢
          obtain ⟨q11, eq11⟩ : ∃ q : Nat, q = 144 + ((r10).toNat) := ⟨_, rfl⟩
          have hq11 : hpkd q11 = 11 ∧ hpln q11 = 17 ∧ ∀ j, hpbo q11 j = (-2147483648, 2147483647) := by rw [eq11]; exact rk_17 (by omega)
          refine h_aaloadA (k' := q11) C dX5_keep_36 kd_143 (r10).toNat (Int.toNat_of_nonneg (by omega)) (by rw [ln_143]; omega) (by rw [eq11]; exact rq_17) ?_
          refine h_iload_n C dX5_keep_37 3 rfl rfl ?_
          refine h_aload_n C dX5_keep_38 2 rfl rfl ?_
          refine h_iload_n C dX5_keep_39 3 rfl rfl ?_
          refine h_callVN (As := [.int (hpI w5_3)]) (rest := [.int (hpI w5_3), .ref (z + q11)]) C Z yyX4_at nw_1003 (tgX4_at l D cy z _ 70 kd_70 w5_3 ⟨by omega, by omega⟩ hI5) kd_70 rfl rfl ⟨rfl, rfl, Nat.le_of_ble_eq_true rfl, Nat.le_of_ble_eq_true rfl⟩ ⟨Nat.le_of_ble_eq_true rfl, Nat.le_of_ble_eq_true rfl⟩ (Nat.le_of_ble_eq_true rfl) dX5_keep_40 (fun r12 τ12 hp12 => ?_)
          obtain ⟨⟨x12, rfl, hx12⟩, rfl⟩ := hp12
          have hl12 := kb_3 hx12
          show hpV _ _ _ _ _ _ _ _ _ _ _ _ _ _ _ _ _ _ _ _ _ (_ :: _)
          refine h_getN C O3 3 hx12 (by decide) nw_162 dX5_keep_43 (hp_fvI (by rw [hx12]; rfl) rfl) ?_
          obtain ⟨hr13a, hr13b⟩ := hI5.b (bf_3_3 hx12)
          generalize hg13 : τ5 x12 3 = r13 at hr13a hr13b ⊢
          refine h_iastore C dX5_keep_46 hq11.1 (w5_3).toNat (Int.toNat_of_nonneg (by omega)) (by rw [hq11.2.1]; omega) ?_
          obtain ⟨τ14, e14⟩ : ∃ μ : hpMem, μ = hpw τ5 q11 ((w5_3).toNat) r13 := ⟨_, rfl⟩
          rw [← e14]
          have hI14 : hpInv τ14 := by rw [e14]; exact hI5.w (hq11.2.2 _) (by omega) (by omega)
          have hF14 : ∀ j i : Nat, 169 ≤ j → τ14 j i = σ j i := fun j i h_0 => by rw [e14]; exact (hpw_fr (by omega)).trans (hF5 j i h_0)
          refine h_iinc (lv' := [(3, .int (hpI (w5_3 + 1))), (0, .ref (z + 141)), (1, .int (hpI a0)), (2, .ref (z + 70))]) C dX5_keep_47 3 rfl rfl (by decide) rfl ?_
          refine h_goto (tgt := 22) C dX5_keep_50 (by decide) ?_
          exact hp_sub [1, 2, 3, 0] rfl (ih5 _ (w5_3 + 1) (by omega) (by omega) hI14 hF14 (by rw [e14, hpw_fr (Or.inl (by omega))]; omega) (by omega))
    exact hp_sub [1, 2, 3, 0] rfl (L5 8589934592 _ 0 (by omega) (by omega) hI3 hF3 (by omega) (by omega))
  · refine h_return C hr hlk dX5_keep_9 ?_
    exact ⟨rfl, hI, hF0⟩
abbrev rgX5_lowest : Room := { frames := 0, cells := 0, slots := 0, locals := 0 }
abbrev pgX5_lowest (z : Nat) (σ : hpMem) : Option Value → hpMem → Prop := fun r τ => (∃ x : Int, r = some (.int (hpI x)) ∧ (hpR x)) ∧ σ = τ
set_option maxHeartbeats 4000000 in
set_option maxRecDepth 20000 in
theorem tgX5_lowest (l : Launch) (D : va_G) (cy : Nat → ClassId) (z : Nat) (σ : hpMem) (hI : hpInv σ) : hpM l D cy z yX5_lowest cX5_lowest 1 (some .int) rgX5_lowest [.ref (z + 141)] σ (pgX5_lowest z σ) := by
  refine hp_met rfl (Nat.le_of_ble_eq_true rfl) (fun p e s m below meth c C Z hr hlk => ?_)
  refine h_aload_n C dX5_lowest_0 0 rfl rfl ?_
  refine h_get C O5 2 kd_141 (by decide) wd_316 dX5_lowest_1 (hp_fvI (by rw [kd_141]; rfl) rfl) ?_
  obtain ⟨hr1a, hr1b⟩ := hI.b (bf_5_2 kd_141)
  generalize hg1 : σ 141 2 = r1 at hr1a hr1b ⊢
  refine h_if_le (tgt := 16) C dX5_lowest_4 (by decide) ⟨by omega, by omega⟩ (fun h2 => ?_) (fun h2 => ?_)
  · refine h_iconst C dX5_lowest_16 ?_
    refine h_ireturn C hr hlk dX5_lowest_17 ?_
    exact ⟨⟨_, rfl, ⟨by decide, by decide⟩⟩, rfl⟩
  · refine h_aload_n C dX5_lowest_7 0 rfl rfl ?_
    refine h_get C O5 0 kd_141 (by decide) wd_314 dX5_lowest_8 fr_141_0 ?_
    refine h_iconst C dX5_lowest_11 ?_
    refine h_iaload C dX5_lowest_12 kd_142 0 rfl (by rw [ln_142]; decide) rfl ?_
    obtain ⟨hr3a, hr3b⟩ := hI.b (bo_142 _)
    generalize hg3 : σ 142 0 = r3 at hr3a hr3b ⊢
    refine h_goto (tgt := 17) C dX5_lowest_13 (by decide) ?_
    refine h_ireturn C hr hlk dX5_lowest_17 ?_
    exact ⟨⟨_, rfl, ⟨by omega, by omega⟩⟩, rfl⟩
abbrev rgX5_highest : Room := { frames := 0, cells := 0, slots := 0, locals := 0 }
abbrev pgX5_highest (z : Nat) (σ : hpMem) : Option Value → hpMem → Prop := fun r τ => (∃ x : Int, r = some (.int (hpI x)) ∧ (hpR x)) ∧ σ = τ
set_option maxHeartbeats 4000000 in
set_option maxRecDepth 20000 in
theorem tgX5_highest (l : Launch) (D : va_G) (cy : Nat → ClassId) (z : Nat) (σ : hpMem) (hI : hpInv σ) : hpM l D cy z yX5_highest cX5_highest 1 (some .int) rgX5_highest [.ref (z + 141)] σ (pgX5_highest z σ) := by
  refine hp_met rfl (Nat.le_of_ble_eq_true rfl) (fun p e s m below meth c C Z hr hlk => ?_)
  refine h_aload_n C dX5_highest_0 0 rfl rfl ?_
  refine h_get C O5 2 kd_141 (by decide) wd_316 dX5_highest_1 (hp_fvI (by rw [kd_141]; rfl) rfl) ?_
  obtain ⟨hr1a, hr1b⟩ := hI.b (bf_5_2 kd_141)
  generalize hg1 : σ 141 2 = r1 at hr1a hr1b ⊢
  refine h_if_le (tgt := 21) C dX5_highest_4 (by decide) ⟨by omega, by omega⟩ (fun h2 => ?_) (fun h2 => ?_)
  · refine h_iconst C dX5_highest_21 ?_
    refine h_ireturn C hr hlk dX5_highest_22 ?_
    exact ⟨⟨_, rfl, ⟨by decide, by decide⟩⟩, rfl⟩
  · refine h_aload_n C dX5_highest_7 0 rfl rfl ?_
    refine h_get C O5 0 kd_141 (by decide) wd_314 dX5_highest_8 fr_141_0 ?_
    refine h_aload_n C dX5_highest_11 0 rfl rfl ?_
    refine h_get C O5 2 kd_141 (by decide) wd_316 dX5_highest_12 (hp_fvI (by rw [kd_141]; rfl) rfl) ?_
    rw [hg1]
    refine h_iconst C dX5_highest_15 ?_
    refine h_isub C dX5_highest_16 rfl ?_
    refine h_iaload C dX5_highest_17 kd_142 (r1 - 1).toNat (Int.toNat_of_nonneg (by omega)) (by rw [ln_142]; omega) rfl ?_
    obtain ⟨hr3a, hr3b⟩ := hI.b (bo_142 _)
    generalize hg3 : σ 142 ((r1 - 1).toNat) = r3 at hr3a hr3b ⊢
    refine h_goto (tgt := 22) C dX5_highest_18 (by decide) ?_
    refine h_ireturn C hr hlk dX5_highest_22 ?_
    exact ⟨⟨_, rfl, ⟨by omega, by omega⟩⟩, rfl⟩
abbrev rgX5_worstOf : Room := { frames := 1, cells := 0, slots := 0, locals := 29 }
abbrev pgX5_worstOf (z : Nat) (σ : hpMem) (a0 : Int) : Option Value → hpMem → Prop := fun r τ => (∃ x : Int, r = some (.int (hpI x)) ∧ (hpR x)) ∧ σ = τ
set_option maxHeartbeats 4000000 in
set_option maxRecDepth 20000 in
theorem tgX5_worstOf (l : Launch) (D : va_G) (cy : Nat → ClassId) (z : Nat) (σ : hpMem) (a0 : Int) (ha0 : hpR a0) (hI : hpInv σ) (hd0 : 0 ≤ a0 ∧ a0 ≤ 16) : hpM l D cy z yX5_worstOf cX5_worstOf 6 (some .int) rgX5_worstOf [.ref (z + 141), .int (hpI a0)] σ (pgX5_worstOf z σ a0) := by
  obtain ⟨ha01, ha02⟩ := ha0
  refine hp_met rfl (Nat.le_of_ble_eq_true rfl) (fun p e s m below meth c C Z hr hlk => ?_)
  refine h_iconst C dX5_worstOf_0 ?_
  refine h_istore_n (lv' := [(2, .int (hpI 0)), (0, .ref (z + 141)), (1, .int (hpI a0))]) C dX5_worstOf_1 rfl (by decide) rfl ?_
  refine h_iconst C dX5_worstOf_2 ?_
  refine h_istore_n (lv' := [(3, .int (hpI 0)), (2, .int (hpI 0)), (0, .ref (z + 141)), (1, .int (hpI a0))]) C dX5_worstOf_3 rfl (by decide) rfl ?_
  have L1 : ∀ (n1 : Nat) (w1_2 : Int) (w1_3 : Int), -2147483648 ≤ w1_2 → w1_2 ≤ 2147483647 → 0 ≤ w1_3 → w1_3 ≤ 2147483647 → (4294967296 - w1_3) < (n1 : Int) → hpF p l e rgX5_worstOf s m [.ref (z + 141), .int (hpI a0)] below meth c 6 D cy z (pgX5_worstOf z σ a0) σ 4 [(0, .ref (z + 141)), (1, .int (hpI a0)), (2, .int (hpI w1_2)), (3, .int (hpI w1_3))] [] := by
    intro n1
    induction n1 with
    | zero => intro w1_2 w1_3 hv1_0 hv1_1 hv1_2 hv1_3 hm1; exfalso; omega
    | succ n1 ih1 =>
      intro w1_2 w1_3 hv1_0 hv1_1 hv1_2 hv1_3 hm1
      refine h_iload_n C dX5_worstOf_4 3 rfl rfl ?_
      refine h_aload_n C dX5_worstOf_5 0 rfl rfl ?_
      refine h_get C O5 2 kd_141 (by decide) wd_316 dX5_worstOf_6 (hp_fvI (by rw [kd_141]; rfl) rfl) ?_
      obtain ⟨hr2a, hr2b⟩ := hI.b (bf_5_2 kd_141)
      generalize hg2 : σ 141 2 = r2 at hr2a hr2b ⊢
      refine h_icmp_ge (tgt := 76) C dX5_worstOf_9 (by decide) ⟨by omega, by omega⟩ ⟨by omega, by omega⟩ (fun h3 => ?_) (fun h3 => ?_)
      · refine h_iload_n C dX5_worstOf_76 2 rfl rfl ?_
        refine h_ireturn C hr hlk dX5_worstOf_77 ?_
        exact ⟨⟨_, rfl, ⟨by omega, by omega⟩⟩, rfl⟩
      · refine h_iconst C dX5_worstOf_12 ?_
        refine h_istore (lv' := [(4, .int (hpI 0)), (0, .ref (z + 141)), (1, .int (hpI a0)), (2, .int (hpI w1_2)), (3, .int (hpI w1_3))]) C dX5_worstOf_13 (by decide) rfl ?_
        refine h_iconst C dX5_worstOf_15 ?_
        refine h_istore (lv' := [(5, .int (hpI 0)), (4, .int (hpI 0)), (0, .ref (z + 141)), (1, .int (hpI a0)), (2, .int (hpI w1_2)), (3, .int (hpI w1_3))]) C dX5_worstOf_16 (by decide) rfl ?_
        have L4 : ∀ (n4 : Nat) (w4_4 : Int) (w4_5 : Int), -2147483648 ≤ w4_4 → w4_4 ≤ 2147483647 → 0 ≤ w4_5 → w4_5 ≤ 2147483647 → (4294967296 - w4_5) < (n4 : Int) → hpF p l e rgX5_worstOf s m [.ref (z + 141), .int (hpI a0)] below meth c 6 D cy z (pgX5_worstOf z σ a0) σ 18 [(0, .ref (z + 141)), (1, .int (hpI a0)), (2, .int (hpI w1_2)), (3, .int (hpI w1_3)), (4, .int (hpI w4_4)), (5, .int (hpI w4_5))] [] := by
          intro n4
          induction n4 with
          | zero => intro w4_4 w4_5 hv4_0 hv4_1 hv4_2 hv4_3 hm4; exfalso; omega
          | succ n4 ih4 =>
            intro w4_4 w4_5 hv4_0 hv4_1 hv4_2 hv4_3 hm4
            refine h_iload C dX5_worstOf_18 5 rfl ?_
            refine h_aload_n C dX5_worstOf_20 0 rfl rfl ?_
            refine h_get C O5 2 kd_141 (by decide) wd_316 dX5_worstOf_21 (hp_fvI (by rw [kd_141]; rfl) rfl) ?_
            rw [hg2]
            refine h_icmp_ge (tgt := 63) C dX5_worstOf_24 (by decide) ⟨by omega, by omega⟩ ⟨by omega, by omega⟩ (fun h5 => ?_) (fun h5 => ?_)
            · refine h_iload_n C dX5_worstOf_63 2 rfl rfl ?_
              refine h_iload C dX5_worstOf_64 4 rfl ?_
              refine h_mmax C wd_1032 wd_708 wd_709 wd_15 dX5_worstOf_66 ⟨by omega, by omega⟩ ⟨by omega, by omega⟩ (Nat.le_of_ble_eq_true rfl) (Nat.le_of_ble_eq_true rfl) ⟨Nat.le_of_ble_eq_true rfl, Nat.le_of_ble_eq_true rfl⟩ (fun r6 hr6a hr6b hr6c => ?_)
              refine h_istore_n (lv' := [(2, .int (hpI r6)), (0, .ref (z + 141)), (1, .int (hpI a0)), (3, .int (hpI w1_3)), (4, .int (hpI w4_4)), (5, .int (hpI w4_5))]) C dX5_worstOf_69 rfl (by decide) rfl ?_
              refine h_iinc (lv' := [(3, .int (hpI (w1_3 + 1))), (2, .int (hpI r6)), (0, .ref (z + 141)), (1, .int (hpI a0)), (4, .int (hpI w4_4)), (5, .int (hpI w4_5))]) C dX5_worstOf_70 3 rfl rfl (by decide) rfl ?_
              refine h_goto (tgt := 4) C dX5_worstOf_73 (by decide) ?_
              exact hp_sub [2, 3, 1, 0] rfl (ih1 r6 (w1_3 + 1) (by omega) (by omega) (by omega) (by omega) (by omega))
            · refine h_iload C dX5_worstOf_27 4 rfl ?_
              refine h_aload_n C dX5_worstOf_29 0 rfl rfl ?_
              refine h_get C O5 1 kd_141 (by decide) wd_315 dX5_worstOf_30 fr_141_1 ?_
              refine h_iload C dX5_worstOf_33 5 rfl ?_
              obtain ⟨q7, eq7⟩ : ∃ q : Nat, q = 144 + ((w4_5).toNat) := ⟨_, rfl⟩
              have hq7 : hpkd q7 = 11 ∧ hpln q7 = 17 ∧ ∀ j, hpbo q7 j = (-2147483648, 2147483647) := by rw [eq7]; exact rk_17 (by omega)
              refine h_aaloadA (k' := q7) C dX5_worstOf_35 kd_143 (w4_5).toNat (Int.toNat_of_nonneg (by omega)) (by rw [ln_143]; omega) (by rw [eq7]; exact rq_17) ?_
              refine h_iload_n C dX5_worstOf_36 1 rfl rfl ?_
              refine h_iaload C dX5_worstOf_37 hq7.1 (a0).toNat (Int.toNat_of_nonneg (by omega)) (by rw [hq7.2.1]; omega) rfl ?_
              obtain ⟨hr8a, hr8b⟩ := hI.b (hq7.2.2 _)
              generalize hg8 : σ q7 ((a0).toNat) = r8 at hr8a hr8b ⊢
              refine h_aload_n C dX5_worstOf_38 0 rfl rfl ?_
              refine h_get C O5 1 kd_141 (by decide) wd_315 dX5_worstOf_39 fr_141_1 ?_
              refine h_iload_n C dX5_worstOf_42 3 rfl rfl ?_
              obtain ⟨q9, eq9⟩ : ∃ q : Nat, q = 144 + ((w1_3).toNat) := ⟨_, rfl⟩
              have hq9 : hpkd q9 = 11 ∧ hpln q9 = 17 ∧ ∀ j, hpbo q9 j = (-2147483648, 2147483647) := by rw [eq9]; exact rk_17 (by omega)
              refine h_aaloadA (k' := q9) C dX5_worstOf_43 kd_143 (w1_3).toNat (Int.toNat_of_nonneg (by omega)) (by rw [ln_143]; omega) (by rw [eq9]; exact rq_17) ?_
              refine h_iload_n C dX5_worstOf_44 1 rfl rfl ?_
              refine h_iaload C dX5_worstOf_45 hq9.1 (a0).toNat (Int.toNat_of_nonneg (by omega)) (by rw [hq9.2.1]; omega) rfl ?_
              obtain ⟨hr10a, hr10b⟩ := hI.b (hq9.2.2 _)
              generalize hg10 : σ q9 ((a0).toNat) = r10 at hr10a hr10b ⊢
              refine h_icmp_ne (tgt := 53) C dX5_worstOf_46 (by decide) ⟨by omega, by omega⟩ ⟨by omega, by omega⟩ (fun h11 => ?_) (fun h11 => ?_)
              · refine h_iconst C dX5_worstOf_53 ?_
                refine h_iadd C dX5_worstOf_54 rfl ?_
                refine h_istore (lv' := [(4, .int (hpI (w4_4 + 0))), (0, .ref (z + 141)), (1, .int (hpI a0)), (2, .int (hpI w1_2)), (3, .int (hpI w1_3)), (5, .int (hpI w4_5))]) C dX5_worstOf_55 (by decide) rfl ?_
                refine h_iinc (lv' := [(5, .int (hpI (w4_5 + 1))), (4, .int (hpI (w4_4 + 0))), (0, .ref (z + 141)), (1, .int (hpI a0)), (2, .int (hpI w1_2)), (3, .int (hpI w1_3))]) C dX5_worstOf_57 5 rfl rfl (by decide) rfl ?_
                refine h_goto (tgt := 18) C dX5_worstOf_60 (by decide) ?_
                exact hp_sub [2, 3, 4, 5, 1, 0] rfl (ih4 (w4_4 + 0) (w4_5 + 1) (by omega) (by omega) (by omega) (by omega) (by omega))
              · refine h_iconst C dX5_worstOf_49 ?_
                refine h_goto (tgt := 54) C dX5_worstOf_50 (by decide) ?_
                refine h_iadd C dX5_worstOf_54 rfl ?_
                refine hp_anyI (fun r12 hr12 => ?_)
                obtain ⟨hr12a, hr12b⟩ := hr12
                refine h_istore (lv' := [(4, .int (hpI r12)), (0, .ref (z + 141)), (1, .int (hpI a0)), (2, .int (hpI w1_2)), (3, .int (hpI w1_3)), (5, .int (hpI w4_5))]) C dX5_worstOf_55 (by decide) rfl ?_
                refine h_iinc (lv' := [(5, .int (hpI (w4_5 + 1))), (4, .int (hpI r12)), (0, .ref (z + 141)), (1, .int (hpI a0)), (2, .int (hpI w1_2)), (3, .int (hpI w1_3))]) C dX5_worstOf_57 5 rfl rfl (by decide) rfl ?_
                refine h_goto (tgt := 18) C dX5_worstOf_60 (by decide) ?_
                exact hp_sub [2, 3, 4, 5, 1, 0] rfl (ih4 r12 (w4_5 + 1) (by omega) (by omega) (by omega) (by omega) (by omega))
        exact hp_sub [2, 3, 4, 5, 1, 0] rfl (L4 8589934592 0 0 (by omega) (by omega) (by omega) (by omega) (by omega))
  exact hp_sub [2, 3, 1, 0] rfl (L1 8589934592 0 0 (by omega) (by omega) (by omega) (by omega) (by omega))
abbrev rgX5_bestDay : Room := { frames := 2, cells := 0, slots := 0, locals := 54 }
abbrev pgX5_bestDay (z : Nat) (σ : hpMem) (a0 : Int) : Option Value → hpMem → Prop := fun r τ => (∃ x : Int, r = some (.int (hpI x)) ∧ (hpR x) ∧ (-1 ≤ x ∧ x ≤ 16)) ∧ σ = τ
set_option maxHeartbeats 4000000 in
set_option maxRecDepth 20000 in
theorem tgX5_bestDay (l : Launch) (D : va_G) (cy : Nat → ClassId) (z : Nat) (σ : hpMem) (a0 : Int) (ha0 : hpR a0) (hI : hpInv σ) (hd0 : a0 ≤ 16) : hpM l D cy z yX5_bestDay cX5_bestDay 6 (some .int) rgX5_bestDay [.ref (z + 141), .int (hpI a0)] σ (pgX5_bestDay z σ a0) := by
  obtain ⟨ha01, ha02⟩ := ha0
  refine hp_met rfl (Nat.le_of_ble_eq_true rfl) (fun p e s m below meth c C Z hr hlk => ?_)
  refine h_iconst C dX5_bestDay_0 ?_
  refine h_istore_n (lv' := [(2, .int (hpI (-1))), (0, .ref (z + 141)), (1, .int (hpI a0))]) C dX5_bestDay_1 rfl (by decide) rfl ?_
  refine h_aload_n C dX5_bestDay_2 1 rfl rfl ?_
  refine h_get C O5 2 kd_141 (by decide) wd_316 dX5_bestDay_3 (hp_fvI (by rw [kd_141]; rfl) rfl) ?_
  obtain ⟨hr1a, hr1b⟩ := hI.b (bf_5_2 kd_141)
  generalize hg1 : σ 141 2 = r1 at hr1a hr1b ⊢
  refine h_istore_n (lv' := [(3, .int (hpI r1)), (2, .int (hpI (-1))), (0, .ref (z + 141)), (1, .int (hpI a0))]) C dX5_bestDay_6 rfl (by decide) rfl ?_
  refine h_iconst C dX5_bestDay_7 ?_
  refine h_istore (lv' := [(4, .int (hpI 0)), (3, .int (hpI r1)), (2, .int (hpI (-1))), (0, .ref (z + 141)), (1, .int (hpI a0))]) C dX5_bestDay_8 (by decide) rfl ?_
  have L2 : ∀ (n2 : Nat) (w2_2 : Int) (w2_3 : Int) (w2_4 : Int), -1 ≤ w2_2 → w2_2 ≤ 16 → -2147483648 ≤ w2_3 → w2_3 ≤ 2147483647 → 0 ≤ w2_4 → w2_4 ≤ 17 → (4294967296 - w2_4) < (n2 : Int) → hpF p l e rgX5_bestDay s m [.ref (z + 141), .int (hpI a0)] below meth c 6 D cy z (pgX5_bestDay z σ a0) σ 10 [(0, .ref (z + 141)), (1, .int (hpI a0)), (2, .int (hpI w2_2)), (3, .int (hpI w2_3)), (4, .int (hpI w2_4))] [] := by
    intro n2
    induction n2 with
    | zero => intro w2_2 w2_3 w2_4 hv2_0 hv2_1 hv2_2 hv2_3 hv2_4 hv2_5 hm2; exfalso; omega
    | succ n2 ih2 =>
      intro w2_2 w2_3 w2_4 hv2_0 hv2_1 hv2_2 hv2_3 hv2_4 hv2_5 hm2
      refine h_iload C dX5_bestDay_10 4 rfl ?_
      refine h_iload_n C dX5_bestDay_12 1 rfl rfl ?_
      refine h_icmp_gt (tgt := 42) C dX5_bestDay_13 (by decide) ⟨by omega, by omega⟩ ⟨by omega, by omega⟩ (fun h3 => ?_) (fun h3 => ?_)
      · refine h_iload_n C dX5_bestDay_42 2 rfl rfl ?_
        refine h_ireturn C hr hlk dX5_bestDay_43 ?_
        exact ⟨⟨_, rfl, ⟨by omega, by omega⟩, by omega⟩, rfl⟩
      · refine h_aload_n C dX5_bestDay_16 0 rfl rfl ?_
        refine h_iload C dX5_bestDay_17 4 rfl ?_
        refine h_callV (As := [.int (hpI w2_4)]) (rest := []) C Z yyX5_worstOf wd_1028 (tgX5_worstOf l D cy z _ w2_4 ⟨by omega, by omega⟩ hI (by omega)) kd_141 rfl rfl ⟨rfl, rfl, Nat.le_of_ble_eq_true rfl, Nat.le_of_ble_eq_true rfl⟩ ⟨Nat.le_of_ble_eq_true rfl, Nat.le_of_ble_eq_true rfl⟩ (Nat.le_of_ble_eq_true rfl) dX5_bestDay_19 (fun r4 τ4 hp4 => ?_)
        obtain ⟨⟨x4, rfl, ⟨hx4a, hx4b⟩⟩, rfl⟩ := hp4
        show hpV _ _ _ _ _ _ _ _ _ _ _ _ _ _ _ _ _ _ _ _ _ (_ :: _)
        refine h_istore (lv' := [(5, .int (hpI x4)), (0, .ref (z + 141)), (1, .int (hpI a0)), (2, .int (hpI w2_2)), (3, .int (hpI w2_3)), (4, .int (hpI w2_4))]) C dX5_bestDay_22 (by decide) rfl ?_
        refine h_iload C dX5_bestDay_24 0 rfl ?_
        refine h_iload_n C dX5_bestDay_26 4 rfl rfl ?_
        refine h_icmp_ge (tgt := 36) C dX5_bestDay_27 (by decide) ⟨by omega, by omega⟩ ⟨by omega, by omega⟩ (fun h5 => ?_) (fun h5 => ?_)
        · refine h_iinc (lv' := [(4, .int (hpI (w2_4 + 1))), (5, .int (hpI x4)), (0, .ref (z + 141)), (1, .int (hpI a0)), (2, .int (hpI w2_2)), (3, .int (hpI w2_3))]) C dX5_bestDay_36 5 rfl rfl (by decide) rfl ?_
          refine h_goto (tgt := 10) C dX5_bestDay_39 (by decide) ?_
          exact hp_sub [2, 3, 4, 5, 0] rfl (ih2 w2_2 w2_3 (w2_4 + 1) (by omega) (by omega) (by omega) (by omega) (by omega) (by omega) (by omega))
        · refine h_iload C dX5_bestDay_30 5 rfl ?_
          refine h_istore_n (lv' := [(2, .int (hpI w2_4)), (5, .int (hpI x4)), (0, .ref (z + 141)), (1, .int (hpI a0)), (3, .int (hpI w2_3)), (4, .int (hpI w2_4))]) C dX5_bestDay_32 rfl (by decide) rfl ?_
          refine h_iload C dX5_bestDay_33 1 rfl ?_
          refine h_istore_n (lv' := [(3, .int (hpI x4)), (2, .int (hpI w2_4)), (5, .int (hpI x4)), (0, .ref (z + 141)), (1, .int (hpI a0)), (4, .int (hpI w2_4))]) C dX5_bestDay_35 rfl (by decide) rfl ?_
          refine h_iinc (lv' := [(4, .int (hpI (w2_4 + 1))), (3, .int (hpI x4)), (2, .int (hpI w2_4)), (5, .int (hpI x4)), (0, .ref (z + 141)), (1, .int (hpI a0))]) C dX5_bestDay_36 5 rfl rfl (by decide) rfl ?_
          refine h_goto (tgt := 10) C dX5_bestDay_39 (by decide) ?_
          exact hp_sub [4, 5, 2, 1, 0] rfl (ih2 w2_4 x4 (w2_4 + 1) (by omega) (by omega) (by omega) (by omega) (by omega) (by omega) (by omega))
  exact hp_sub [3, 4, 2, 1, 0] rfl (L2 8589934592 (-1) r1 0 (by omega) (by omega) (by omega) (by omega) (by omega) (by omega) (by omega))
abbrev rgX5_leftAtWorst : Room := { frames := 3, cells := 0, slots := 0, locals := 79 }
abbrev pgX5_leftAtWorst (z : Nat) (σ : hpMem) (a0 : Int) : Option Value → hpMem → Prop := fun r τ => (∃ x : Int, r = some (.int (hpI x)) ∧ (hpR x)) ∧ σ = τ
set_option maxHeartbeats 4000000 in
set_option maxRecDepth 20000 in
theorem tgX5_leftAtWorst (l : Launch) (D : va_G) (cy : Nat → ClassId) (z : Nat) (σ : hpMem) (a0 : Int) (ha0 : hpR a0) (hI : hpInv σ) (hd0 : a0 ≤ 16) : hpM l D cy z yX5_leftAtWorst cX5_leftAtWorst 3 (some .int) rgX5_leftAtWorst [.ref (z + 141), .int (hpI a0)] σ (pgX5_leftAtWorst z σ a0) := by
  obtain ⟨ha01, ha02⟩ := ha0
  refine hp_met rfl (Nat.le_of_ble_eq_true rfl) (fun p e s m below meth c C Z hr hlk => ?_)
  refine h_aload_n C dX5_leftAtWorst_0 0 rfl rfl ?_
  refine h_iload_n C dX5_leftAtWorst_1 1 rfl rfl ?_
  refine h_callV (As := [.int (hpI a0)]) (rest := []) C Z yyX5_bestDay wd_1041 (tgX5_bestDay l D cy z _ a0 ⟨by omega, by omega⟩ hI (by omega)) kd_141 rfl rfl ⟨rfl, rfl, Nat.le_of_ble_eq_true rfl, Nat.le_of_ble_eq_true rfl⟩ ⟨Nat.le_of_ble_eq_true rfl, Nat.le_of_ble_eq_true rfl⟩ (Nat.le_of_ble_eq_true rfl) dX5_leftAtWorst_2 (fun r1 τ1 hp1 => ?_)
  obtain ⟨⟨x1, rfl, ⟨hx1a, hx1b⟩, hx1⟩, rfl⟩ := hp1
  show hpV _ _ _ _ _ _ _ _ _ _ _ _ _ _ _ _ _ _ _ _ _ (_ :: _)
  refine h_istore_n (lv' := [(2, .int (hpI x1)), (0, .ref (z + 141)), (1, .int (hpI a0))]) C dX5_leftAtWorst_5 rfl (by decide) rfl ?_
  refine h_iload_n C dX5_leftAtWorst_6 0 rfl rfl ?_
  refine h_iconst C dX5_leftAtWorst_7 ?_
  refine h_icmp_ne (tgt := 18) C dX5_leftAtWorst_8 (by decide) ⟨by omega, by omega⟩ ⟨by decide, by decide⟩ (fun h2 => ?_) (fun h2 => ?_)
  · refine h_aload_n C dX5_leftAtWorst_18 1 rfl rfl ?_
    refine h_iload_n C dX5_leftAtWorst_19 0 rfl rfl ?_
    refine h_callV (As := [.int (hpI x1)]) (rest := []) C Z yyX5_worstOf wd_1028 (tgX5_worstOf l D cy z _ x1 ⟨by omega, by omega⟩ hI (by omega)) kd_141 rfl rfl ⟨rfl, rfl, Nat.le_of_ble_eq_true rfl, Nat.le_of_ble_eq_true rfl⟩ ⟨Nat.le_of_ble_eq_true rfl, Nat.le_of_ble_eq_true rfl⟩ (Nat.le_of_ble_eq_true rfl) dX5_leftAtWorst_20 (fun r3 τ3 hp3 => ?_)
    obtain ⟨⟨x3, rfl, ⟨hx3a, hx3b⟩⟩, rfl⟩ := hp3
    show hpV _ _ _ _ _ _ _ _ _ _ _ _ _ _ _ _ _ _ _ _ _ (_ :: _)
    refine h_ireturn C hr hlk dX5_leftAtWorst_23 ?_
    exact ⟨⟨_, rfl, ⟨by omega, by omega⟩⟩, rfl⟩
  · refine h_aload_n C dX5_leftAtWorst_11 1 rfl rfl ?_
    refine h_get C O5 2 kd_141 (by decide) wd_316 dX5_leftAtWorst_12 (hp_fvI (by rw [kd_141]; rfl) rfl) ?_
    obtain ⟨hr4a, hr4b⟩ := hI.b (bf_5_2 kd_141)
    generalize hg4 : σ 141 2 = r4 at hr4a hr4b ⊢
    refine h_goto (tgt := 23) C dX5_leftAtWorst_15 (by decide) ?_
    refine h_ireturn C hr hlk dX5_leftAtWorst_23 ?_
    exact ⟨⟨_, rfl, ⟨by omega, by omega⟩⟩, rfl⟩

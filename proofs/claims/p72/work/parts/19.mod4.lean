abbrev rgX9_askSeen : Room := { frames := 2, cells := 0, slots := 0, locals := 47 }
abbrev pgX9_askSeen (z : Nat) (σ : hpMem) (a0 : Int) : Option Value → hpMem → Prop := fun r τ => (∃ x : Int, r = some (.int (hpI x)) ∧ (hpR x) ∧ (x ≤ 0) ∧ hpInv τ ∧ (∀ j i : Nat, j ≠ 203 → j ≠ 204 → (j ≠ 195 ∨ (i ≠ 16 ∧ i ≠ 21 ∧ i ≠ 22 ∧ i ≠ 23)) → τ j i = σ j i) ∧ (x = 0 → hpSn σ a0))
set_option maxHeartbeats 4000000 in
set_option maxRecDepth 20000 in
theorem tgX9_askSeen (l : Launch) (D : va_G) (cy : Nat → ClassId) (z : Nat) (σ : hpMem) (a0 : Int) (ha0 : hpR a0) (hI : hpInv σ) : hpM l D cy z yX9_askSeen cX9_askSeen 3 (some .int) rgX9_askSeen [.ref (z + 195), .int (hpI a0)] σ (pgX9_askSeen z σ a0) := by
  obtain ⟨ha01, ha02⟩ := ha0
  refine hp_met rfl (Nat.le_of_ble_eq_true rfl) (fun p e s m below meth c C Z hr hlk => ?_)
  have hF0 : ∀ j i : Nat, j ≠ 203 → j ≠ 204 → (j ≠ 195 ∨ (i ≠ 16 ∧ i ≠ 21 ∧ i ≠ 22 ∧ i ≠ 23)) → σ j i = σ j i := fun j i _ _ _ => rfl
  refine h_iload_n C dX9_askSeen_0 1 rfl rfl ?_
  refine h_callS (As := [.int (hpI a0)]) (rest := []) C Z yyX9_isSlot rfl wd_1779 (tgX9_isSlot l D cy z _ a0 ⟨by omega, by omega⟩ hI) rfl rfl ⟨rfl, rfl, Nat.le_of_ble_eq_true rfl, Nat.le_of_ble_eq_true rfl⟩ ⟨Nat.le_of_ble_eq_true rfl, Nat.le_of_ble_eq_true rfl⟩ (Nat.le_of_ble_eq_true rfl) dX9_askSeen_1 (fun r1 τ1 hp1 => ?_)
  obtain ⟨⟨x1, rfl, ⟨hx1a, hx1b⟩, hx1⟩, rfl⟩ := hp1
  show hpV _ _ _ _ _ _ _ _ _ _ _ _ _ _ _ _ _ _ _ _ _ (_ :: _)
  refine h_if_eq (tgt := 14) C dX9_askSeen_4 (by decide) ⟨by omega, by omega⟩ (fun h2 => ?_) (fun h2 => ?_)
  · refine h_bipush C dX9_askSeen_14 (by decide) ?_
    refine h_ireturn C hr hlk dX9_askSeen_16 ?_
    exact ⟨_, rfl, ⟨by decide, by decide⟩, by omega, hI, hF0, fun e => by exfalso; omega⟩
  · refine h_aload_n C dX9_askSeen_7 0 rfl rfl ?_
    refine h_callV (As := []) (rest := []) C Z yyX9_isMoor wd_1571 (tgX9_isMoor l D cy z _ hI) kd_195 rfl rfl ⟨rfl, rfl, Nat.le_of_ble_eq_true rfl, Nat.le_of_ble_eq_true rfl⟩ ⟨Nat.le_of_ble_eq_true rfl, Nat.le_of_ble_eq_true rfl⟩ (Nat.le_of_ble_eq_true rfl) dX9_askSeen_8 (fun r3 τ3 hp3 => ?_)
    obtain ⟨⟨x3, rfl, ⟨hx3a, hx3b⟩, hx3⟩, rfl⟩ := hp3
    show hpV _ _ _ _ _ _ _ _ _ _ _ _ _ _ _ _ _ _ _ _ _ (_ :: _)
    refine h_if_ne (tgt := 17) C dX9_askSeen_11 (by decide) ⟨by omega, by omega⟩ (fun h4 => ?_) (fun h4 => ?_)
    · refine h_aload_n C dX9_askSeen_17 0 rfl rfl ?_
      refine h_get C O9 42 kd_195 (by decide) wd_1298 dX9_askSeen_18 fr_195_42 ?_
      refine h_iload_n C dX9_askSeen_21 1 rfl rfl ?_
      refine h_iaload C dX9_askSeen_22 kd_213 (a0).toNat (Int.toNat_of_nonneg (by omega)) (by rw [ln_213]; omega) rfl ?_
      obtain ⟨hr5a, hr5b⟩ := hI.b (bo_213 _)
      generalize hg5 : σ 213 ((a0).toNat) = r5 at hr5a hr5b ⊢
      refine h_iconst C dX9_askSeen_23 ?_
      refine h_icmp_ne (tgt := 30) C dX9_askSeen_24 (by decide) ⟨by omega, by omega⟩ ⟨by decide, by decide⟩ (fun h6 => ?_) (fun h6 => ?_)
      · refine h_aload_n C dX9_askSeen_30 0 rfl rfl ?_
        refine h_get C O9 42 kd_195 (by decide) wd_1298 dX9_askSeen_31 fr_195_42 ?_
        refine h_iload_n C dX9_askSeen_34 1 rfl rfl ?_
        refine h_iaload C dX9_askSeen_35 kd_213 (a0).toNat (Int.toNat_of_nonneg (by omega)) (by rw [ln_213]; omega) rfl ?_
        rw [hg5]
        refine h_iconst C dX9_askSeen_36 ?_
        refine h_irem C dX9_askSeen_37 (by omega) (by omega) (by omega) (by omega) ?_
        refine h_if_eq (tgt := 44) C dX9_askSeen_38 (by decide) ⟨by omega, by omega⟩ (fun h7 => ?_) (fun h7 => ?_)
        · refine h_iconst C dX9_askSeen_44 ?_
          refine h_istore_n (lv' := [(2, .int (hpI 0)), (0, .ref (z + 195)), (1, .int (hpI a0))]) C dX9_askSeen_45 rfl (by decide) rfl ?_
          have L8 : ∀ (n8 : Nat) (w8_2 : Int), 0 ≤ w8_2 → w8_2 ≤ 62 → w8_2 % 3 = 0 → (∀ q : Nat, q % 3 = 0 → (q : Int) < w8_2 → 0 ≤ σ 215 (60 * a0 + (q : Int)).toNat ∧ σ 215 (60 * a0 + (q : Int)).toNat ≤ σ 196 0) → (4294967296 - w8_2) < (n8 : Int) → hpF p l e rgX9_askSeen s m [.ref (z + 195), .int (hpI a0)] below meth c 3 D cy z (pgX9_askSeen z σ a0) σ 46 [(0, .ref (z + 195)), (1, .int (hpI a0)), (2, .int (hpI w8_2))] [] := by
            intro n8
            induction n8 with
            | zero => intro w8_2 hv8_0 hv8_1 hv8_2 hM8_0 hm8; exfalso; omega
            | succ n8 ih8 =>
              intro w8_2 hv8_0 hv8_1 hv8_2 hM8_0 hm8
              refine h_iload_n C dX9_askSeen_46 2 rfl rfl ?_
              refine h_aload_n C dX9_askSeen_47 0 rfl rfl ?_
              refine h_get C O9 42 kd_195 (by decide) wd_1298 dX9_askSeen_48 fr_195_42 ?_
              refine h_iload_n C dX9_askSeen_51 1 rfl rfl ?_
              refine h_iaload C dX9_askSeen_52 kd_213 (a0).toNat (Int.toNat_of_nonneg (by omega)) (by rw [ln_213]; omega) rfl ?_
              rw [hg5]
              refine h_icmp_ge (tgt := 114) C dX9_askSeen_53 (by decide) ⟨by omega, by omega⟩ ⟨by omega, by omega⟩ (fun h9 => ?_) (fun h9 => ?_)
              · refine h_aload_n C dX9_askSeen_114 0 rfl rfl ?_
                refine h_callV (As := []) (rest := []) C Z yyX9_asItIs wd_1520 (tgX9_asItIs l D cy z _ hI) kd_195 rfl rfl ⟨rfl, rfl, Nat.le_of_ble_eq_true rfl, Nat.le_of_ble_eq_true rfl⟩ ⟨Nat.le_of_ble_eq_true rfl, Nat.le_of_ble_eq_true rfl⟩ (Nat.le_of_ble_eq_true rfl) dX9_askSeen_115 (fun r10 τ10 hp10 => ?_)
                obtain ⟨rfl, hI10, hG10⟩ := hp10
                have hF10 : ∀ j i : Nat, j ≠ 203 → j ≠ 204 → (j ≠ 195 ∨ (i ≠ 16 ∧ i ≠ 21 ∧ i ≠ 22 ∧ i ≠ 23)) → τ10 j i = σ j i := fun j i h_0 h_1 h_2 => (hG10 j i (by omega) (by omega) (by omega)).trans (hF0 j i h_0 h_1 h_2)
                have hg11 : τ10 213 ((a0).toNat) = r5 := (hG10 213 ((a0).toNat) (by omega) (by omega) (by omega)).trans hg5
                show hpV _ _ _ _ _ _ _ _ _ _ _ _ _ _ _ _ _ _ _ _ _ []
                refine h_iconst C dX9_askSeen_118 ?_
                refine h_ireturn C hr hlk dX9_askSeen_119 ?_
                exact ⟨_, rfl, ⟨by decide, by decide⟩, by omega, hI10, hF10, fun _ => ⟨by omega, by omega, by omega, by omega, fun q h1 h2 => hM8_0 q h1 (by omega)⟩⟩
              · refine h_aload_n C dX9_askSeen_56 0 rfl rfl ?_
                refine h_aload_n C dX9_askSeen_57 0 rfl rfl ?_
                refine h_iload_n C dX9_askSeen_58 1 rfl rfl ?_
                refine h_iload_n C dX9_askSeen_59 2 rfl rfl ?_
                refine h_callV (As := [.int (hpI a0), .int (hpI w8_2)]) (rest := [.ref (z + 195)]) C Z yyX9_numberAt wd_1783 (tgX9_numberAt l D cy z _ a0 ⟨by omega, by omega⟩ w8_2 ⟨by omega, by omega⟩ hI (by omega) (by omega)) kd_195 rfl rfl ⟨rfl, rfl, Nat.le_of_ble_eq_true rfl, Nat.le_of_ble_eq_true rfl⟩ ⟨Nat.le_of_ble_eq_true rfl, Nat.le_of_ble_eq_true rfl⟩ (Nat.le_of_ble_eq_true rfl) dX9_askSeen_60 (fun r12 τ12 hp12 => ?_)
                obtain ⟨⟨x12, rfl, ⟨hx12a, hx12b⟩, hx12⟩, rfl⟩ := hp12
                show hpV _ _ _ _ _ _ _ _ _ _ _ _ _ _ _ _ _ _ _ _ _ (_ :: _)
                refine h_callV (As := [.long (hpJ x12)]) (rest := []) C Z yyX9_isDay wd_1575 (tgX9_isDay l D cy z _ x12 ⟨by omega, by omega⟩ hI) kd_195 rfl rfl ⟨rfl, rfl, Nat.le_of_ble_eq_true rfl, Nat.le_of_ble_eq_true rfl⟩ ⟨Nat.le_of_ble_eq_true rfl, Nat.le_of_ble_eq_true rfl⟩ (Nat.le_of_ble_eq_true rfl) dX9_askSeen_63 (fun r13 τ13 hp13 => ?_)
                obtain ⟨⟨x13, rfl, ⟨hx13a, hx13b⟩, hx13⟩, rfl⟩ := hp13
                show hpV _ _ _ _ _ _ _ _ _ _ _ _ _ _ _ _ _ _ _ _ _ (_ :: _)
                refine h_if_eq (tgt := 105) C dX9_askSeen_66 (by decide) ⟨by omega, by omega⟩ (fun h14 => ?_) (fun h14 => ?_)
                · refine h_bipush C dX9_askSeen_105 (by decide) ?_
                  refine h_ireturn C hr hlk dX9_askSeen_107 ?_
                  exact ⟨_, rfl, ⟨by decide, by decide⟩, by omega, hI, hF0, fun e => by exfalso; omega⟩
                · refine h_aload_n C dX9_askSeen_69 0 rfl rfl ?_
                  refine h_iload_n C dX9_askSeen_70 1 rfl rfl ?_
                  refine h_iload_n C dX9_askSeen_71 2 rfl rfl ?_
                  refine h_iconst C dX9_askSeen_72 ?_
                  refine h_iadd C dX9_askSeen_73 rfl ?_
                  refine h_callV (As := [.int (hpI a0), .int (hpI (w8_2 + 1))]) (rest := []) C Z yyX9_numberAt wd_1783 (tgX9_numberAt l D cy z _ a0 ⟨by omega, by omega⟩ (w8_2 + 1) ⟨by omega, by omega⟩ hI (by omega) (by omega)) kd_195 rfl rfl ⟨rfl, rfl, Nat.le_of_ble_eq_true rfl, Nat.le_of_ble_eq_true rfl⟩ ⟨Nat.le_of_ble_eq_true rfl, Nat.le_of_ble_eq_true rfl⟩ (Nat.le_of_ble_eq_true rfl) dX9_askSeen_74 (fun r15 τ15 hp15 => ?_)
                  obtain ⟨⟨x15, rfl, ⟨hx15a, hx15b⟩, hx15⟩, rfl⟩ := hp15
                  show hpV _ _ _ _ _ _ _ _ _ _ _ _ _ _ _ _ _ _ _ _ _ (_ :: _)
                  refine h_lconst C 0 dX9_askSeen_77 (by decide) ?_
                  refine h_ldc2 C 700 wd_1595 (by decide) dX9_askSeen_78 ?_
                  refine h_callS (As := [.long (hpJ x15), .long (hpJ 0), .long (hpJ 700)]) (rest := []) C Z yyX9_in rfl wd_1401 (tgX9_in l D cy z _ x15 ⟨by omega, by omega⟩ 0 ⟨by decide, by decide⟩ 700 ⟨by decide, by decide⟩ hI) rfl rfl ⟨rfl, rfl, Nat.le_of_ble_eq_true rfl, Nat.le_of_ble_eq_true rfl⟩ ⟨Nat.le_of_ble_eq_true rfl, Nat.le_of_ble_eq_true rfl⟩ (Nat.le_of_ble_eq_true rfl) dX9_askSeen_81 (fun r16 τ16 hp16 => ?_)
                  obtain ⟨⟨x16, rfl, ⟨hx16a, hx16b⟩, hx16⟩, rfl⟩ := hp16
                  show hpV _ _ _ _ _ _ _ _ _ _ _ _ _ _ _ _ _ _ _ _ _ (_ :: _)
                  refine h_if_eq (tgt := 105) C dX9_askSeen_84 (by decide) ⟨by omega, by omega⟩ (fun h17 => ?_) (fun h17 => ?_)
                  · refine h_bipush C dX9_askSeen_105 (by decide) ?_
                    refine h_ireturn C hr hlk dX9_askSeen_107 ?_
                    exact ⟨_, rfl, ⟨by decide, by decide⟩, by omega, hI, hF0, fun e => by exfalso; omega⟩
                  · refine h_aload_n C dX9_askSeen_87 0 rfl rfl ?_
                    refine h_iload_n C dX9_askSeen_88 1 rfl rfl ?_
                    refine h_iload_n C dX9_askSeen_89 2 rfl rfl ?_
                    refine h_iconst C dX9_askSeen_90 ?_
                    refine h_iadd C dX9_askSeen_91 rfl ?_
                    refine h_callV (As := [.int (hpI a0), .int (hpI (w8_2 + 2))]) (rest := []) C Z yyX9_numberAt wd_1783 (tgX9_numberAt l D cy z _ a0 ⟨by omega, by omega⟩ (w8_2 + 2) ⟨by omega, by omega⟩ hI (by omega) (by omega)) kd_195 rfl rfl ⟨rfl, rfl, Nat.le_of_ble_eq_true rfl, Nat.le_of_ble_eq_true rfl⟩ ⟨Nat.le_of_ble_eq_true rfl, Nat.le_of_ble_eq_true rfl⟩ (Nat.le_of_ble_eq_true rfl) dX9_askSeen_92 (fun r18 τ18 hp18 => ?_)
                    obtain ⟨⟨x18, rfl, ⟨hx18a, hx18b⟩, hx18⟩, rfl⟩ := hp18
                    show hpV _ _ _ _ _ _ _ _ _ _ _ _ _ _ _ _ _ _ _ _ _ (_ :: _)
                    refine h_lconst C 0 dX9_askSeen_95 (by decide) ?_
                    refine h_ldc2 C 700 wd_1595 (by decide) dX9_askSeen_96 ?_
                    refine h_callS (As := [.long (hpJ x18), .long (hpJ 0), .long (hpJ 700)]) (rest := []) C Z yyX9_in rfl wd_1401 (tgX9_in l D cy z _ x18 ⟨by omega, by omega⟩ 0 ⟨by decide, by decide⟩ 700 ⟨by decide, by decide⟩ hI) rfl rfl ⟨rfl, rfl, Nat.le_of_ble_eq_true rfl, Nat.le_of_ble_eq_true rfl⟩ ⟨Nat.le_of_ble_eq_true rfl, Nat.le_of_ble_eq_true rfl⟩ (Nat.le_of_ble_eq_true rfl) dX9_askSeen_99 (fun r19 τ19 hp19 => ?_)
                    obtain ⟨⟨x19, rfl, ⟨hx19a, hx19b⟩, hx19⟩, rfl⟩ := hp19
                    show hpV _ _ _ _ _ _ _ _ _ _ _ _ _ _ _ _ _ _ _ _ _ (_ :: _)
                    refine h_if_ne (tgt := 108) C dX9_askSeen_102 (by decide) ⟨by omega, by omega⟩ (fun h20 => ?_) (fun h20 => ?_)
                    · refine h_iinc (lv' := [(2, .int (hpI (w8_2 + 3))), (0, .ref (z + 195)), (1, .int (hpI a0))]) C dX9_askSeen_108 2 rfl rfl (by decide) rfl ?_
                      refine h_goto (tgt := 46) C dX9_askSeen_111 (by decide) ?_
                      exact hp_sub [1, 2, 0] rfl (ih8 (w8_2 + 3) (by omega) (by omega) (by omega) (fun q h1 h2 => by by_cases e : (q : Int) = w8_2; (rw [e]; omega); (exact hM8_0 q h1 (by omega))) (by omega))
                    · refine h_bipush C dX9_askSeen_105 (by decide) ?_
                      refine h_ireturn C hr hlk dX9_askSeen_107 ?_
                      exact ⟨_, rfl, ⟨by decide, by decide⟩, by omega, hI, hF0, fun e => by exfalso; omega⟩
          exact hp_sub [1, 2, 0] rfl (L8 8589934592 0 (by omega) (by omega) (by omega) (fun q h1 h2 => by exfalso; omega) (by omega))
        · refine h_bipush C dX9_askSeen_41 (by decide) ?_
          refine h_ireturn C hr hlk dX9_askSeen_43 ?_
          exact ⟨_, rfl, ⟨by decide, by decide⟩, by omega, hI, hF0, fun e => by exfalso; omega⟩
      · refine h_bipush C dX9_askSeen_27 (by decide) ?_
        refine h_ireturn C hr hlk dX9_askSeen_29 ?_
        exact ⟨_, rfl, ⟨by decide, by decide⟩, by omega, hI, hF0, fun e => by exfalso; omega⟩
    · refine h_bipush C dX9_askSeen_14 (by decide) ?_
      refine h_ireturn C hr hlk dX9_askSeen_16 ?_
      exact ⟨_, rfl, ⟨by decide, by decide⟩, by omega, hI, hF0, fun e => by exfalso; omega⟩
abbrev rgX9_isSeen : Room := { frames := 4, cells := 0, slots := 0, locals := 90 }
abbrev pgX9_isSeen (z : Nat) (σ : hpMem) (a0 : Int) : Option Value → hpMem → Prop := fun r τ => (∃ x : Int, r = some (.int (hpI x)) ∧ (0 ≤ x ∧ x ≤ 1)) ∧ hpInv τ ∧ (∀ j i : Nat, j ≠ 202 → j ≠ 205 → j ≠ 206 → (j ≠ 195 ∨ (i ≠ 17 ∧ i ≠ 18)) → τ j i = σ j i)
set_option maxHeartbeats 4000000 in
set_option maxRecDepth 20000 in
theorem tgX9_isSeen (l : Launch) (D : va_G) (cy : Nat → ClassId) (z : Nat) (σ : hpMem) (a0 : Int) (ha0 : hpR a0) (hI : hpInv σ) (hS0 : hpSn σ a0) : hpM l D cy z yX9_isSeen cX9_isSeen 4 (some .boolean) rgX9_isSeen [.ref (z + 195), .int (hpI a0)] σ (pgX9_isSeen z σ a0) := by
  obtain ⟨ha01, ha02⟩ := ha0
  refine hp_met rfl (Nat.le_of_ble_eq_true rfl) (fun p e s m below meth c C Z hr hlk => ?_)
  have hF0 : ∀ j i : Nat, j ≠ 202 → j ≠ 205 → j ≠ 206 → (j ≠ 195 ∨ (i ≠ 17 ∧ i ≠ 18)) → σ j i = σ j i := fun j i _ _ _ _ => rfl
  have hs3 := hS0.1
  have hs4 := hS0.2.1
  refine h_aload_n C dX9_isSeen_0 0 rfl rfl ?_
  refine h_callV (As := []) (rest := []) C Z yyX9_goAll wd_1524 (tgX9_goAll l D cy z _ hI) kd_195 rfl rfl ⟨rfl, rfl, Nat.le_of_ble_eq_true rfl, Nat.le_of_ble_eq_true rfl⟩ ⟨Nat.le_of_ble_eq_true rfl, Nat.le_of_ble_eq_true rfl⟩ (Nat.le_of_ble_eq_true rfl) dX9_isSeen_1 (fun r1 τ1 hp1 => ?_)
  obtain ⟨rfl, hI1, hG1, hq1_0⟩ := hp1
  have hF1 : ∀ j i : Nat, j ≠ 202 → j ≠ 205 → j ≠ 206 → (j ≠ 195 ∨ (i ≠ 17 ∧ i ≠ 18)) → τ1 j i = σ j i := fun j i h_0 h_1 h_2 h_3 => (hG1 j i (by omega) (by omega) (by omega) (by omega)).trans (hF0 j i h_0 h_1 h_2 h_3)
  show hpV _ _ _ _ _ _ _ _ _ _ _ _ _ _ _ _ _ _ _ _ _ []
  have hS1 : hpSn τ1 a0 := hS0.fr (fun i => hG1 213 i (by omega) (by omega) (by omega) (by omega)) (fun i => hG1 215 i (by omega) (by omega) (by omega) (by omega)) (hG1 196 0 (by omega) (by omega) (by omega) (by omega))
  have b0 := hI1.b ((bw_196 0).trans (show hpwb 0 = (0, 16) by decide))
  have hs5 := hS1.2.2.2.1
  refine h_iconst C dX9_isSeen_4 ?_
  refine h_istore_n (lv' := [(2, .int (hpI 0)), (0, .ref (z + 195)), (1, .int (hpI a0))]) C dX9_isSeen_5 rfl (by decide) rfl ?_
  have L2 : ∀ (n2 : Nat) (w2_2 : Int), 0 ≤ w2_2 → w2_2 ≤ 62 → w2_2 % 3 = 0 → (4294967296 - w2_2) < (n2 : Int) → hpF p l e rgX9_isSeen s m [.ref (z + 195), .int (hpI a0)] below meth c 4 D cy z (pgX9_isSeen z σ a0) τ1 6 [(0, .ref (z + 195)), (1, .int (hpI a0)), (2, .int (hpI w2_2))] [] := by
    intro n2
    induction n2 with
    | zero => intro w2_2 hv2_0 hv2_1 hv2_2 hm2; exfalso; omega
    | succ n2 ih2 =>
      intro w2_2 hv2_0 hv2_1 hv2_2 hm2
      refine h_iload_n C dX9_isSeen_6 2 rfl rfl ?_
      refine h_aload_n C dX9_isSeen_7 0 rfl rfl ?_
      refine h_get C O9 42 kd_195 (by decide) wd_1298 dX9_isSeen_8 fr_195_42 ?_
      refine h_iload_n C dX9_isSeen_11 1 rfl rfl ?_
      refine h_iaload C dX9_isSeen_12 kd_213 (a0).toNat (Int.toNat_of_nonneg (by omega)) (by rw [ln_213]; omega) rfl ?_
      obtain ⟨hr3a, hr3b⟩ := hI1.b (bo_213 _)
      generalize hg3 : τ1 213 ((a0).toNat) = r3 at hr3a hr3b ⊢
      refine h_icmp_ge (tgt := 68) C dX9_isSeen_13 (by decide) ⟨by omega, by omega⟩ ⟨by omega, by omega⟩ (fun h4 => ?_) (fun h4 => ?_)
      · refine h_iconst C dX9_isSeen_68 ?_
        refine h_zreturn C (by omega) hr hlk dX9_isSeen_69 ?_
        exact ⟨⟨_, rfl, ⟨by decide, by decide⟩⟩, hI1, hF1⟩
      · refine h_aload_n C dX9_isSeen_16 0 rfl rfl ?_
        refine h_iload_n C dX9_isSeen_17 1 rfl rfl ?_
        refine h_iload_n C dX9_isSeen_18 2 rfl rfl ?_
        refine h_callV (As := [.int (hpI a0), .int (hpI w2_2)]) (rest := []) C Z yyX9_numberAt wd_1783 (tgX9_numberAt l D cy z _ a0 ⟨by omega, by omega⟩ w2_2 ⟨by omega, by omega⟩ hI1 (by omega) (by omega)) kd_195 rfl rfl ⟨rfl, rfl, Nat.le_of_ble_eq_true rfl, Nat.le_of_ble_eq_true rfl⟩ ⟨Nat.le_of_ble_eq_true rfl, Nat.le_of_ble_eq_true rfl⟩ (Nat.le_of_ble_eq_true rfl) dX9_isSeen_19 (fun r5 τ5 hp5 => ?_)
        obtain ⟨⟨x5, rfl, ⟨hx5a, hx5b⟩, hx5⟩, rfl⟩ := hp5
        show hpV _ _ _ _ _ _ _ _ _ _ _ _ _ _ _ _ _ _ _ _ _ (_ :: _)
        have hd19 := hS1.2.2.2.2 (w2_2).toNat (by omega) (by omega)
        rw [show (((w2_2).toNat : Nat) : Int) = w2_2 by omega] at hd19
        refine h_l2i C dX9_isSeen_22 ?_
        refine h_istore_n (lv' := [(3, .int (hpI x5)), (0, .ref (z + 195)), (1, .int (hpI a0)), (2, .int (hpI w2_2))]) C dX9_isSeen_23 rfl (by decide) rfl ?_
        refine h_aload_n C dX9_isSeen_24 1 rfl rfl ?_
        refine h_iload_n C dX9_isSeen_25 0 rfl rfl ?_
        refine h_callV (As := [.int (hpI x5)]) (rest := []) C Z yyX9_manyOf wd_1536 (tgX9_manyOf l D cy z _ x5 ⟨by omega, by omega⟩ hI1 (by omega)) kd_195 rfl rfl ⟨rfl, rfl, Nat.le_of_ble_eq_true rfl, Nat.le_of_ble_eq_true rfl⟩ ⟨Nat.le_of_ble_eq_true rfl, Nat.le_of_ble_eq_true rfl⟩ (Nat.le_of_ble_eq_true rfl) dX9_isSeen_26 (fun r6 τ6 hp6 => ?_)
        obtain ⟨⟨x6, rfl, ⟨hx6a, hx6b⟩, hx6⟩, rfl⟩ := hp6
        show hpV _ _ _ _ _ _ _ _ _ _ _ _ _ _ _ _ _ _ _ _ _ (_ :: _)
        refine h_i2l C dX9_isSeen_29 ⟨by omega, by omega⟩ ?_
        refine h_aload_n C dX9_isSeen_30 1 rfl rfl ?_
        refine h_iload_n C dX9_isSeen_31 2 rfl rfl ?_
        refine h_iload_n C dX9_isSeen_32 3 rfl rfl ?_
        refine h_iconst C dX9_isSeen_33 ?_
        refine h_iadd C dX9_isSeen_34 rfl ?_
        refine h_callV (As := [.int (hpI a0), .int (hpI (w2_2 + 1))]) (rest := [.long (hpJ x6)]) C Z yyX9_numberAt wd_1783 (tgX9_numberAt l D cy z _ a0 ⟨by omega, by omega⟩ (w2_2 + 1) ⟨by omega, by omega⟩ hI1 (by omega) (by omega)) kd_195 rfl rfl ⟨rfl, rfl, Nat.le_of_ble_eq_true rfl, Nat.le_of_ble_eq_true rfl⟩ ⟨Nat.le_of_ble_eq_true rfl, Nat.le_of_ble_eq_true rfl⟩ (Nat.le_of_ble_eq_true rfl) dX9_isSeen_35 (fun r7 τ7 hp7 => ?_)
        obtain ⟨⟨x7, rfl, ⟨hx7a, hx7b⟩, hx7⟩, rfl⟩ := hp7
        show hpV _ _ _ _ _ _ _ _ _ _ _ _ _ _ _ _ _ _ _ _ _ (_ :: _)
        refine h_lcmp C dX9_isSeen_38 ⟨by omega, by omega⟩ ⟨by omega, by omega⟩ (fun r8 hr8 => ?_)
        refine h_if_ne (tgt := 60) C dX9_isSeen_39 (by decide) ⟨by omega, by omega⟩ (fun h9 => ?_) (fun h9 => ?_)
        · refine h_iconst C dX9_isSeen_60 ?_
          refine h_zreturn C (by omega) hr hlk dX9_isSeen_61 ?_
          exact ⟨⟨_, rfl, ⟨by decide, by decide⟩⟩, hI1, hF1⟩
        · refine h_aload_n C dX9_isSeen_42 1 rfl rfl ?_
          refine h_iload_n C dX9_isSeen_43 0 rfl rfl ?_
          refine h_callV (As := [.int (hpI x5)]) (rest := []) C Z yyX9_highestOf wd_1629 (tgX9_highestOf l D cy z _ x5 ⟨by omega, by omega⟩ hI1 (by omega)) kd_195 rfl rfl ⟨rfl, rfl, Nat.le_of_ble_eq_true rfl, Nat.le_of_ble_eq_true rfl⟩ ⟨Nat.le_of_ble_eq_true rfl, Nat.le_of_ble_eq_true rfl⟩ (Nat.le_of_ble_eq_true rfl) dX9_isSeen_44 (fun r10 τ10 hp10 => ?_)
          obtain ⟨⟨x10, rfl, ⟨hx10a, hx10b⟩⟩, rfl⟩ := hp10
          show hpV _ _ _ _ _ _ _ _ _ _ _ _ _ _ _ _ _ _ _ _ _ (_ :: _)
          refine h_i2l C dX9_isSeen_47 ⟨by omega, by omega⟩ ?_
          refine h_aload_n C dX9_isSeen_48 1 rfl rfl ?_
          refine h_iload_n C dX9_isSeen_49 2 rfl rfl ?_
          refine h_iload_n C dX9_isSeen_50 3 rfl rfl ?_
          refine h_iconst C dX9_isSeen_51 ?_
          refine h_iadd C dX9_isSeen_52 rfl ?_
          refine h_callV (As := [.int (hpI a0), .int (hpI (w2_2 + 2))]) (rest := [.long (hpJ x10)]) C Z yyX9_numberAt wd_1783 (tgX9_numberAt l D cy z _ a0 ⟨by omega, by omega⟩ (w2_2 + 2) ⟨by omega, by omega⟩ hI1 (by omega) (by omega)) kd_195 rfl rfl ⟨rfl, rfl, Nat.le_of_ble_eq_true rfl, Nat.le_of_ble_eq_true rfl⟩ ⟨Nat.le_of_ble_eq_true rfl, Nat.le_of_ble_eq_true rfl⟩ (Nat.le_of_ble_eq_true rfl) dX9_isSeen_53 (fun r11 τ11 hp11 => ?_)
          obtain ⟨⟨x11, rfl, ⟨hx11a, hx11b⟩, hx11⟩, rfl⟩ := hp11
          show hpV _ _ _ _ _ _ _ _ _ _ _ _ _ _ _ _ _ _ _ _ _ (_ :: _)
          refine h_lcmp C dX9_isSeen_56 ⟨by omega, by omega⟩ ⟨by omega, by omega⟩ (fun r12 hr12 => ?_)
          refine h_if_eq (tgt := 62) C dX9_isSeen_57 (by decide) ⟨by omega, by omega⟩ (fun h13 => ?_) (fun h13 => ?_)
          · refine h_iinc (lv' := [(2, .int (hpI (w2_2 + 3))), (3, .int (hpI x5)), (0, .ref (z + 195)), (1, .int (hpI a0))]) C dX9_isSeen_62 3 rfl rfl (by decide) rfl ?_
            refine h_goto (tgt := 6) C dX9_isSeen_65 (by decide) ?_
            exact hp_sub [2, 3, 0] rfl (ih2 (w2_2 + 3) (by omega) (by omega) (by omega) (by omega))
          · refine h_iconst C dX9_isSeen_60 ?_
            refine h_zreturn C (by omega) hr hlk dX9_isSeen_61 ?_
            exact ⟨⟨_, rfl, ⟨by decide, by decide⟩⟩, hI1, hF1⟩
  exact hp_sub [1, 2, 0] rfl (L2 8589934592 0 (by omega) (by omega) (by omega) (by omega))
abbrev rgX9_layFits : Room := { frames := 5, cells := 0, slots := 0, locals := 113 }
abbrev pgX9_layFits (z : Nat) (σ : hpMem) (a0 : Int) (a1 : Int) : Option Value → hpMem → Prop := fun r τ => (∃ x : Int, r = some (.int (hpI x)) ∧ (hpR x) ∧ hpInv τ ∧ (∀ j i : Nat, j ≠ 202 → j ≠ 203 → j ≠ 204 → j ≠ 205 → j ≠ 206 → j ≠ 210 → j ≠ 211 → (j ≠ 195 ∨ (i ≠ 16 ∧ i ≠ 17 ∧ i ≠ 18 ∧ i ≠ 21 ∧ i ≠ 22 ∧ i ≠ 23 ∧ i ≠ 36)) → τ j i = σ j i) ∧ (x = 0 → True))
set_option maxHeartbeats 4000000 in
set_option maxRecDepth 20000 in
theorem tgX9_layFits (l : Launch) (D : va_G) (cy : Nat → ClassId) (z : Nat) (σ : hpMem) (a0 : Int) (ha0 : hpR a0) (a1 : Int) (ha1 : hpR a1) (hI : hpInv σ) : hpM l D cy z yX9_layFits cX9_layFits 6 (some .int) rgX9_layFits [.ref (z + 195), .int (hpI a0), .int (hpI a1)] σ (pgX9_layFits z σ a0 a1) := by
  obtain ⟨ha01, ha02⟩ := ha0
  obtain ⟨ha11, ha12⟩ := ha1
  refine hp_met rfl (Nat.le_of_ble_eq_true rfl) (fun p e s m below meth c C Z hr hlk => ?_)
  have hF0 : ∀ j i : Nat, j ≠ 202 → j ≠ 203 → j ≠ 204 → j ≠ 205 → j ≠ 206 → j ≠ 210 → j ≠ 211 → (j ≠ 195 ∨ (i ≠ 16 ∧ i ≠ 17 ∧ i ≠ 18 ∧ i ≠ 21 ∧ i ≠ 22 ∧ i ≠ 23 ∧ i ≠ 36)) → σ j i = σ j i := fun j i _ _ _ _ _ _ _ _ => rfl
  refine h_aload_n C dX9_layFits_0 0 rfl rfl ?_
  refine h_iload_n C dX9_layFits_1 2 rfl rfl ?_
  refine h_callV (As := [.int (hpI a1)]) (rest := []) C Z yyX9_isHeap wd_1492 (tgX9_isHeap l D cy z _ a1 ⟨by omega, by omega⟩ hI) kd_195 rfl rfl ⟨rfl, rfl, Nat.le_of_ble_eq_true rfl, Nat.le_of_ble_eq_true rfl⟩ ⟨Nat.le_of_ble_eq_true rfl, Nat.le_of_ble_eq_true rfl⟩ (Nat.le_of_ble_eq_true rfl) dX9_layFits_2 (fun r1 τ1 hp1 => ?_)
  obtain ⟨⟨x1, rfl, ⟨hx1a, hx1b⟩, hx1⟩, rfl⟩ := hp1
  show hpV _ _ _ _ _ _ _ _ _ _ _ _ _ _ _ _ _ _ _ _ _ (_ :: _)
  refine h_if_ne (tgt := 11) C dX9_layFits_5 (by decide) ⟨by omega, by omega⟩ (fun h2 => ?_) (fun h2 => ?_)
  · refine h_aload_n C dX9_layFits_11 0 rfl rfl ?_
    refine h_iload_n C dX9_layFits_12 1 rfl rfl ?_
    refine h_callV (As := [.int (hpI a0)]) (rest := []) C Z yyX9_askSeen wd_1824 (tgX9_askSeen l D cy z _ a0 ⟨by omega, by omega⟩ hI) kd_195 rfl rfl ⟨rfl, rfl, Nat.le_of_ble_eq_true rfl, Nat.le_of_ble_eq_true rfl⟩ ⟨Nat.le_of_ble_eq_true rfl, Nat.le_of_ble_eq_true rfl⟩ (Nat.le_of_ble_eq_true rfl) dX9_layFits_13 (fun r3 τ3 hp3 => ?_)
    obtain ⟨x3, rfl, ⟨hx3a, hx3b⟩, hx3, hI3, hG3, hq3_0⟩ := hp3
    have hF3 : ∀ j i : Nat, j ≠ 202 → j ≠ 203 → j ≠ 204 → j ≠ 205 → j ≠ 206 → j ≠ 210 → j ≠ 211 → (j ≠ 195 ∨ (i ≠ 16 ∧ i ≠ 17 ∧ i ≠ 18 ∧ i ≠ 21 ∧ i ≠ 22 ∧ i ≠ 23 ∧ i ≠ 36)) → τ3 j i = σ j i := fun j i h_0 h_1 h_2 h_3 h_4 h_5 h_6 h_7 => (hG3 j i (by omega) (by omega) (by omega)).trans (hF0 j i h_0 h_1 h_2 h_3 h_4 h_5 h_6 h_7)
    show hpV _ _ _ _ _ _ _ _ _ _ _ _ _ _ _ _ _ _ _ _ _ (_ :: _)
    refine h_istore_n (lv' := [(3, .int (hpI x3)), (0, .ref (z + 195)), (1, .int (hpI a0)), (2, .int (hpI a1))]) C dX9_layFits_16 rfl (by decide) rfl ?_
    refine h_iload_n C dX9_layFits_17 0 rfl rfl ?_
    refine h_if_ge (tgt := 23) C dX9_layFits_18 (by decide) ⟨by omega, by omega⟩ (fun h4 => ?_) (fun h4 => ?_)
    · refine h_aload_n C dX9_layFits_23 1 rfl rfl ?_
      refine h_iconst C dX9_layFits_24 ?_
      refine h_put C O9 36 kd_195 (by decide) rfl wd_1292 dX9_layFits_25 rfl rfl (hp_fvI (by rw [kd_195]; rfl) hpu_at) ?_
      obtain ⟨τ5, e5⟩ : ∃ μ : hpMem, μ = hpw τ3 195 36 0 := ⟨_, rfl⟩
      rw [← e5]
      have hI5 : hpInv τ5 := by rw [e5]; exact hI3.w (bf_9_36 kd_195) (by omega) (by omega)
      have hF5 : ∀ j i : Nat, j ≠ 202 → j ≠ 203 → j ≠ 204 → j ≠ 205 → j ≠ 206 → j ≠ 210 → j ≠ 211 → (j ≠ 195 ∨ (i ≠ 16 ∧ i ≠ 17 ∧ i ≠ 18 ∧ i ≠ 21 ∧ i ≠ 22 ∧ i ≠ 23 ∧ i ≠ 36)) → τ5 j i = σ j i := fun j i h_0 h_1 h_2 h_3 h_4 h_5 h_6 h_7 => by rw [e5]; exact (hpw_fr (by omega)).trans (hF3 j i h_0 h_1 h_2 h_3 h_4 h_5 h_6 h_7)
      have hg6 : τ5 195 36 = 0 := by rw [e5]; exact hpw_eq
      refine h_iconst C dX9_layFits_28 ?_
      refine h_istore (lv' := [(4, .int (hpI 1)), (3, .int (hpI x3)), (0, .ref (z + 195)), (1, .int (hpI a0)), (2, .int (hpI a1))]) C dX9_layFits_29 (by decide) rfl ?_
      have L7 : ∀ (n7 : Nat) (τ7 : hpMem) (w7_4 : Int), 1 ≤ w7_4 → w7_4 ≤ 21 → hpInv τ7 → (∀ j i : Nat, j ≠ 202 → j ≠ 203 → j ≠ 204 → j ≠ 205 → j ≠ 206 → j ≠ 210 → j ≠ 211 → (j ≠ 195 ∨ (i ≠ 16 ∧ i ≠ 17 ∧ i ≠ 18 ∧ i ≠ 21 ∧ i ≠ 22 ∧ i ≠ 23 ∧ i ≠ 36)) → τ7 j i = σ j i) → (hpSn τ7 a0) → (τ7 195 36 ≤ w7_4 - 1) → (4294967296 - w7_4) < (n7 : Int) → hpF p l e rgX9_layFits s m [.ref (z + 195), .int (hpI a0), .int (hpI a1)] below meth c 6 D cy z (pgX9_layFits z σ a0 a1) τ7 31 [(0, .ref (z + 195)), (1, .int (hpI a0)), (2, .int (hpI a1)), (3, .int (hpI x3)), (4, .int (hpI w7_4))] [] := by
        intro n7
        induction n7 with
        | zero => intro τ7 w7_4 hv7_0 hv7_1 hI7 hF7 hM7_0 hM7_1 hm7; exfalso; omega
        | succ n7 ih7 =>
          intro τ7 w7_4 hv7_0 hv7_1 hI7 hF7 hM7_0 hM7_1 hm7
          refine h_iload C dX9_layFits_31 4 rfl ?_
          refine h_bipush C dX9_layFits_33 (by decide) ?_
          refine h_icmp_gt (tgt := 123) C dX9_layFits_35 (by decide) ⟨by omega, by omega⟩ ⟨by decide, by decide⟩ (fun h8 => ?_) (fun h8 => ?_)
          · refine h_iconst C dX9_layFits_123 ?_
            refine h_ireturn C hr hlk dX9_layFits_124 ?_
            exact ⟨_, rfl, ⟨by decide, by decide⟩, hI7, hF7, fun _ => trivial⟩
          · refine h_aload_n C dX9_layFits_38 0 rfl rfl ?_
            refine h_get C O9 19 kd_195 (by decide) wd_1275 dX9_layFits_39 fr_195_19 ?_
            refine h_iload_n C dX9_layFits_42 2 rfl rfl ?_
            refine h_iload C dX9_layFits_43 4 rfl ?_
            refine h_iastore C dX9_layFits_45 kd_203 (a1).toNat (Int.toNat_of_nonneg (by omega)) (by rw [ln_203]; omega) ?_
            obtain ⟨τ9, e9⟩ : ∃ μ : hpMem, μ = hpw τ7 203 ((a1).toNat) w7_4 := ⟨_, rfl⟩
            rw [← e9]
            have hI9 : hpInv τ9 := by rw [e9]; exact hI7.w (bo_203 _) (by omega) (by omega)
            have hF9 : ∀ j i : Nat, j ≠ 202 → j ≠ 203 → j ≠ 204 → j ≠ 205 → j ≠ 206 → j ≠ 210 → j ≠ 211 → (j ≠ 195 ∨ (i ≠ 16 ∧ i ≠ 17 ∧ i ≠ 18 ∧ i ≠ 21 ∧ i ≠ 22 ∧ i ≠ 23 ∧ i ≠ 36)) → τ9 j i = σ j i := fun j i h_0 h_1 h_2 h_3 h_4 h_5 h_6 h_7 => by rw [e9]; exact (hpw_fr (by omega)).trans (hF7 j i h_0 h_1 h_2 h_3 h_4 h_5 h_6 h_7)
            refine h_aload_n C dX9_layFits_46 0 rfl rfl ?_
            refine h_iload_n C dX9_layFits_47 1 rfl rfl ?_
            have hS48 : hpSn τ9 a0 := hM7_0.fr (fun i => by rw [e9, hpw_fr (Or.inl (by decide))]) (fun i => by rw [e9, hpw_fr (Or.inl (by decide))]) (by rw [e9, hpw_fr (Or.inl (by decide))])
            refine h_callV (As := [.int (hpI a0)]) (rest := []) C Z yyX9_isSeen wd_1828 (tgX9_isSeen l D cy z _ a0 ⟨by omega, by omega⟩ hI9 hS48) kd_195 rfl rfl ⟨rfl, rfl, Nat.le_of_ble_eq_true rfl, Nat.le_of_ble_eq_true rfl⟩ ⟨Nat.le_of_ble_eq_true rfl, Nat.le_of_ble_eq_true rfl⟩ (Nat.le_of_ble_eq_true rfl) dX9_layFits_48 (fun r10 τ10 hp10 => ?_)
            obtain ⟨⟨x10, rfl, ⟨hx10a, hx10b⟩⟩, hI10, hG10⟩ := hp10
            have hF10 : ∀ j i : Nat, j ≠ 202 → j ≠ 203 → j ≠ 204 → j ≠ 205 → j ≠ 206 → j ≠ 210 → j ≠ 211 → (j ≠ 195 ∨ (i ≠ 16 ∧ i ≠ 17 ∧ i ≠ 18 ∧ i ≠ 21 ∧ i ≠ 22 ∧ i ≠ 23 ∧ i ≠ 36)) → τ10 j i = σ j i := fun j i h_0 h_1 h_2 h_3 h_4 h_5 h_6 h_7 => (hG10 j i (by omega) (by omega) (by omega) (by omega)).trans (hF9 j i h_0 h_1 h_2 h_3 h_4 h_5 h_6 h_7)
            show hpV _ _ _ _ _ _ _ _ _ _ _ _ _ _ _ _ _ _ _ _ _ (_ :: _)
            have hS51 : hpSn τ10 a0 := hS48.fr (fun i => hG10 213 i (by omega) (by omega) (by omega) (by omega)) (fun i => hG10 215 i (by omega) (by omega) (by omega) (by omega)) (hG10 196 0 (by omega) (by omega) (by omega) (by omega))
            have e48 : τ10 195 36 = τ9 195 36 := hG10 195 36 (by omega) (by omega) (by omega) (by omega)
            have e45 : τ9 195 36 = τ7 195 36 := by rw [e9]; exact hpw_fr (Or.inl (by decide))
            refine h_if_ne (tgt := 57) C dX9_layFits_51 (by decide) ⟨by omega, by omega⟩ (fun h11 => ?_) (fun h11 => ?_)
            · refine h_aload_n C dX9_layFits_57 0 rfl rfl ?_
              refine h_get C O9 34 kd_195 (by decide) wd_1290 dX9_layFits_58 fr_195_34 ?_
              refine h_aload_n C dX9_layFits_61 0 rfl rfl ?_
              refine h_get C O9 36 kd_195 (by decide) wd_1292 dX9_layFits_62 (hp_fvI (by rw [kd_195]; rfl) rfl) ?_
              obtain ⟨hr12a, hr12b⟩ := hI10.b (bf_9_36 kd_195)
              generalize hg12 : τ10 195 36 = r12 at hr12a hr12b ⊢
              refine h_iload C dX9_layFits_65 4 rfl ?_
              refine h_iastore C dX9_layFits_67 kd_210 (r12).toNat (Int.toNat_of_nonneg (by omega)) (by rw [ln_210]; omega) ?_
              obtain ⟨τ13, e13⟩ : ∃ μ : hpMem, μ = hpw τ10 210 ((r12).toNat) w7_4 := ⟨_, rfl⟩
              rw [← e13]
              have hI13 : hpInv τ13 := by rw [e13]; exact hI10.w (bo_210 _) (by omega) (by omega)
              have hF13 : ∀ j i : Nat, j ≠ 202 → j ≠ 203 → j ≠ 204 → j ≠ 205 → j ≠ 206 → j ≠ 210 → j ≠ 211 → (j ≠ 195 ∨ (i ≠ 16 ∧ i ≠ 17 ∧ i ≠ 18 ∧ i ≠ 21 ∧ i ≠ 22 ∧ i ≠ 23 ∧ i ≠ 36)) → τ13 j i = σ j i := fun j i h_0 h_1 h_2 h_3 h_4 h_5 h_6 h_7 => by rw [e13]; exact (hpw_fr (by omega)).trans (hF10 j i h_0 h_1 h_2 h_3 h_4 h_5 h_6 h_7)
              have hg14 : τ13 195 36 = r12 := by rw [e13]; exact (hpw_fr (Or.inl (by omega))).trans hg12
              have hS67 : hpSn τ13 a0 := hS51.fr (fun i => by rw [e13, hpw_fr (Or.inl (by decide))]) (fun i => by rw [e13, hpw_fr (Or.inl (by decide))]) (by rw [e13, hpw_fr (Or.inl (by decide))])
              have e67 : τ13 195 36 = τ10 195 36 := by rw [e13]; exact hpw_fr (Or.inl (by decide))
              refine h_iconst C dX9_layFits_68 ?_
              refine h_istore (lv' := [(5, .int (hpI 0)), (0, .ref (z + 195)), (1, .int (hpI a0)), (2, .int (hpI a1)), (3, .int (hpI x3)), (4, .int (hpI w7_4))]) C dX9_layFits_69 (by decide) rfl ?_
              have L15 : ∀ (n15 : Nat) (τ15 : hpMem) (w15_5 : Int), 0 ≤ w15_5 → w15_5 ≤ 17 → hpInv τ15 → (∀ j i : Nat, j ≠ 202 → j ≠ 203 → j ≠ 204 → j ≠ 205 → j ≠ 206 → j ≠ 210 → j ≠ 211 → (j ≠ 195 ∨ (i ≠ 16 ∧ i ≠ 17 ∧ i ≠ 18 ∧ i ≠ 21 ∧ i ≠ 22 ∧ i ≠ 23 ∧ i ≠ 36)) → τ15 j i = σ j i) → (hpSn τ15 a0) → (τ15 195 36 ≤ w7_4 - 1) → (4294967296 - w15_5) < (n15 : Int) → hpF p l e rgX9_layFits s m [.ref (z + 195), .int (hpI a0), .int (hpI a1)] below meth c 6 D cy z (pgX9_layFits z σ a0 a1) τ15 71 [(0, .ref (z + 195)), (1, .int (hpI a0)), (2, .int (hpI a1)), (3, .int (hpI x3)), (4, .int (hpI w7_4)), (5, .int (hpI w15_5))] [] := by
                intro n15
                induction n15 with
                | zero => intro τ15 w15_5 hv15_0 hv15_1 hI15 hF15 hM15_0 hM15_1 hm15; exfalso; omega
                | succ n15 ih15 =>
                  intro τ15 w15_5 hv15_0 hv15_1 hI15 hF15 hM15_0 hM15_1 hm15
                  refine h_iload C dX9_layFits_71 5 rfl ?_
                  refine h_aload_n C dX9_layFits_73 0 rfl rfl ?_
                  refine h_callV (As := []) (rest := [.int (hpI w15_5)]) C Z yyX9_days wd_1544 (tgX9_days l D cy z _ hI15) kd_195 rfl rfl ⟨rfl, rfl, Nat.le_of_ble_eq_true rfl, Nat.le_of_ble_eq_true rfl⟩ ⟨Nat.le_of_ble_eq_true rfl, Nat.le_of_ble_eq_true rfl⟩ (Nat.le_of_ble_eq_true rfl) dX9_layFits_74 (fun r16 τ16 hp16 => ?_)
                  obtain ⟨⟨x16, rfl, ⟨hx16a, hx16b⟩, hx16⟩, rfl⟩ := hp16
                  show hpV _ _ _ _ _ _ _ _ _ _ _ _ _ _ _ _ _ _ _ _ _ (_ :: _)
                  refine h_icmp_gt (tgt := 107) C dX9_layFits_77 (by decide) ⟨by omega, by omega⟩ ⟨by omega, by omega⟩ (fun h17 => ?_) (fun h17 => ?_)
                  · refine h_aload_n C dX9_layFits_107 0 rfl rfl ?_
                    refine h_dup C rfl dX9_layFits_108 ?_
                    refine h_get C O9 36 kd_195 (by decide) wd_1292 dX9_layFits_109 (hp_fvI (by rw [kd_195]; rfl) rfl) ?_
                    obtain ⟨hr18a, hr18b⟩ := hI15.b (bf_9_36 kd_195)
                    generalize hg18 : τ15 195 36 = r18 at hr18a hr18b ⊢
                    refine h_iconst C dX9_layFits_112 ?_
                    refine h_iadd C dX9_layFits_113 rfl ?_
                    refine h_put C O9 36 kd_195 (by decide) rfl wd_1292 dX9_layFits_114 rfl rfl (hp_fvI (by rw [kd_195]; rfl) hpu_at) ?_
                    obtain ⟨τ19, e19⟩ : ∃ μ : hpMem, μ = hpw τ15 195 36 (r18 + 1) := ⟨_, rfl⟩
                    rw [← e19]
                    have hI19 : hpInv τ19 := by rw [e19]; exact hI15.w (bf_9_36 kd_195) (by omega) (by omega)
                    have hF19 : ∀ j i : Nat, j ≠ 202 → j ≠ 203 → j ≠ 204 → j ≠ 205 → j ≠ 206 → j ≠ 210 → j ≠ 211 → (j ≠ 195 ∨ (i ≠ 16 ∧ i ≠ 17 ∧ i ≠ 18 ∧ i ≠ 21 ∧ i ≠ 22 ∧ i ≠ 23 ∧ i ≠ 36)) → τ19 j i = σ j i := fun j i h_0 h_1 h_2 h_3 h_4 h_5 h_6 h_7 => by rw [e19]; exact (hpw_fr (by omega)).trans (hF15 j i h_0 h_1 h_2 h_3 h_4 h_5 h_6 h_7)
                    have hg20 : τ19 195 36 = r18 + 1 := by rw [e19]; exact hpw_eq
                    have hSb : hpSn τ19 a0 := by first | exact hM15_0.fr (fun i => by rw [e19, hpw_fr (Or.inl (by decide))]) (fun i => by rw [e19, hpw_fr (Or.inl (by decide))]) (by rw [e19, hpw_fr (Or.inl (by decide))]) | exact hS51
                    refine h_iinc (lv' := [(4, .int (hpI (w7_4 + 1))), (0, .ref (z + 195)), (1, .int (hpI a0)), (2, .int (hpI a1)), (3, .int (hpI x3)), (5, .int (hpI w15_5))]) C dX9_layFits_117 4 rfl rfl (by decide) rfl ?_
                    refine h_goto (tgt := 31) C dX9_layFits_120 (by decide) ?_
                    exact hp_sub [1, 2, 3, 4, 0] rfl (ih7 _ (w7_4 + 1) (by omega) (by omega) hI19 hF19 hSb (by omega) (by omega))
                  · refine h_aload_n C dX9_layFits_80 0 rfl rfl ?_
                    refine h_get C O9 35 kd_195 (by decide) wd_1291 dX9_layFits_81 fr_195_35 ?_
                    refine h_bipush C dX9_layFits_84 (by decide) ?_
                    refine h_aload_n C dX9_layFits_86 0 rfl rfl ?_
                    refine h_get C O9 36 kd_195 (by decide) wd_1292 dX9_layFits_87 (hp_fvI (by rw [kd_195]; rfl) rfl) ?_
                    obtain ⟨hr21a, hr21b⟩ := hI15.b (bf_9_36 kd_195)
                    generalize hg21 : τ15 195 36 = r21 at hr21a hr21b ⊢
                    refine h_imul C dX9_layFits_90 rfl ?_
                    refine h_iload C dX9_layFits_91 5 rfl ?_
                    refine h_iadd C dX9_layFits_93 rfl ?_
                    refine h_aload_n C dX9_layFits_94 0 rfl rfl ?_
                    refine h_iload C dX9_layFits_95 5 rfl ?_
                    refine h_callV (As := [.int (hpI w15_5)]) (rest := [.int (hpI ((17 * r21) + w15_5)), .ref (z + 211)]) C Z yyX9_manyOf wd_1536 (tgX9_manyOf l D cy z _ w15_5 ⟨by omega, by omega⟩ hI15 (by omega)) kd_195 rfl rfl ⟨rfl, rfl, Nat.le_of_ble_eq_true rfl, Nat.le_of_ble_eq_true rfl⟩ ⟨Nat.le_of_ble_eq_true rfl, Nat.le_of_ble_eq_true rfl⟩ (Nat.le_of_ble_eq_true rfl) dX9_layFits_97 (fun r22 τ22 hp22 => ?_)
                    obtain ⟨⟨x22, rfl, ⟨hx22a, hx22b⟩, hx22⟩, rfl⟩ := hp22
                    show hpV _ _ _ _ _ _ _ _ _ _ _ _ _ _ _ _ _ _ _ _ _ (_ :: _)
                    refine h_iastore C dX9_layFits_100 kd_211 ((17 * r21) + w15_5).toNat (Int.toNat_of_nonneg (by omega)) (by rw [ln_211]; omega) ?_
                    obtain ⟨τ23, e23⟩ : ∃ μ : hpMem, μ = hpw τ15 211 (((17 * r21) + w15_5).toNat) x22 := ⟨_, rfl⟩
                    rw [← e23]
                    have hI23 : hpInv τ23 := by rw [e23]; exact hI15.w (bo_211 _) (by omega) (by omega)
                    have hF23 : ∀ j i : Nat, j ≠ 202 → j ≠ 203 → j ≠ 204 → j ≠ 205 → j ≠ 206 → j ≠ 210 → j ≠ 211 → (j ≠ 195 ∨ (i ≠ 16 ∧ i ≠ 17 ∧ i ≠ 18 ∧ i ≠ 21 ∧ i ≠ 22 ∧ i ≠ 23 ∧ i ≠ 36)) → τ23 j i = σ j i := fun j i h_0 h_1 h_2 h_3 h_4 h_5 h_6 h_7 => by rw [e23]; exact (hpw_fr (by omega)).trans (hF15 j i h_0 h_1 h_2 h_3 h_4 h_5 h_6 h_7)
                    have hg24 : τ23 195 36 = r21 := by rw [e23]; exact (hpw_fr (Or.inl (by omega))).trans hg21
                    refine h_iinc (lv' := [(5, .int (hpI (w15_5 + 1))), (0, .ref (z + 195)), (1, .int (hpI a0)), (2, .int (hpI a1)), (3, .int (hpI x3)), (4, .int (hpI w7_4))]) C dX9_layFits_101 5 rfl rfl (by decide) rfl ?_
                    refine h_goto (tgt := 71) C dX9_layFits_104 (by decide) ?_
                    exact hp_sub [1, 2, 3, 4, 5, 0] rfl (ih15 _ (w15_5 + 1) (by omega) (by omega) hI23 hF23 (hM15_0.fr (fun i => by rw [e23, hpw_fr (Or.inl (by decide))]) (fun i => by rw [e23, hpw_fr (Or.inl (by decide))]) (by rw [e23, hpw_fr (Or.inl (by decide))])) (by rw [e23, hpw_fr (Or.inl (by decide))]; exact hM15_1) (by omega))
              exact hp_sub [1, 2, 3, 4, 5, 0] rfl (L15 8589934592 _ 0 (by omega) (by omega) hI13 hF13 hS67 (by omega) (by omega))
            · refine h_goto (tgt := 117) C dX9_layFits_54 (by decide) ?_
              have hSb : hpSn τ10 a0 := by first | exact hM999_0.fr (fun i => by rw [no_such, hpw_fr (Or.inl (by decide))]) (fun i => by rw [no_such, hpw_fr (Or.inl (by decide))]) (by rw [no_such, hpw_fr (Or.inl (by decide))]) | exact hS51
              refine h_iinc (lv' := [(4, .int (hpI (w7_4 + 1))), (0, .ref (z + 195)), (1, .int (hpI a0)), (2, .int (hpI a1)), (3, .int (hpI x3))]) C dX9_layFits_117 4 rfl rfl (by decide) rfl ?_
              refine h_goto (tgt := 31) C dX9_layFits_120 (by decide) ?_
              exact hp_sub [1, 2, 3, 4, 0] rfl (ih7 _ (w7_4 + 1) (by omega) (by omega) hI10 hF10 hSb (by omega) (by omega))
      exact hp_sub [2, 3, 4, 1, 0] rfl (L7 8589934592 _ 1 (by omega) (by omega) hI5 hF5 (((hq3_0 (by omega)).fr (fun i => hG3 213 i (by omega) (by omega) (by omega)) (fun i => hG3 215 i (by omega) (by omega) (by omega)) (hG3 196 0 (by omega) (by omega) (by omega))).fr (fun i => by rw [e5, hpw_fr (Or.inl (by decide))]) (fun i => by rw [e5, hpw_fr (Or.inl (by decide))]) (by rw [e5, hpw_fr (Or.inl (by decide))])) (by omega) (by omega))
    · refine h_iload_n C dX9_layFits_21 0 rfl rfl ?_
      refine h_ireturn C hr hlk dX9_layFits_22 ?_
      exact ⟨_, rfl, ⟨by omega, by omega⟩, hI3, hF3, fun _ => trivial⟩
  · refine h_bipush C dX9_layFits_8 (by decide) ?_
    refine h_ireturn C hr hlk dX9_layFits_10 ?_
    exact ⟨_, rfl, ⟨by decide, by decide⟩, hI, hF0, fun _ => trivial⟩
abbrev rgX9_heights : Room := { frames := 6, cells := 0, slots := 0, locals := 138 }
abbrev pgX9_heights (z : Nat) (σ : hpMem) (a0 : Int) (a1 : Int) : Option Value → hpMem → Prop := fun r τ => (∃ x : Int, r = some (.int (hpI x)) ∧ (hpR x)) ∧ hpInv τ ∧ (∀ j i : Nat, (j < 195 ∨ j = 198 ∨ 213 ≤ j) → τ j i = σ j i)
set_option maxHeartbeats 4000000 in
set_option maxRecDepth 20000 in
theorem tgX9_heights (l : Launch) (D : va_G) (cy : Nat → ClassId) (z : Nat) (σ : hpMem) (a0 : Int) (ha0 : hpR a0) (a1 : Int) (ha1 : hpR a1) (hI : hpInv σ) : hpM l D cy z yX9_heights cX9_heights 4 (some .int) rgX9_heights [.ref (z + 195), .int (hpI a0), .int (hpI a1)] σ (pgX9_heights z σ a0 a1) := by
  obtain ⟨ha01, ha02⟩ := ha0
  obtain ⟨ha11, ha12⟩ := ha1
  refine hp_met rfl (Nat.le_of_ble_eq_true rfl) (fun p e s m below meth c C Z hr hlk => ?_)
  have hF0 : ∀ j i : Nat, (j < 195 ∨ j = 198 ∨ 213 ≤ j) → σ j i = σ j i := fun j i _ => rfl
  refine h_aload_n C dX9_heights_0 0 rfl rfl ?_
  refine h_iload_n C dX9_heights_1 1 rfl rfl ?_
  refine h_iload_n C dX9_heights_2 2 rfl rfl ?_
  refine h_callV (As := [.int (hpI a0), .int (hpI a1)]) (rest := []) C Z yyX9_layFits wd_1820 (tgX9_layFits l D cy z _ a0 ⟨by omega, by omega⟩ a1 ⟨by omega, by omega⟩ hI) kd_195 rfl rfl ⟨rfl, rfl, Nat.le_of_ble_eq_true rfl, Nat.le_of_ble_eq_true rfl⟩ ⟨Nat.le_of_ble_eq_true rfl, Nat.le_of_ble_eq_true rfl⟩ (Nat.le_of_ble_eq_true rfl) dX9_heights_3 (fun r1 τ1 hp1 => ?_)
  obtain ⟨x1, rfl, ⟨hx1a, hx1b⟩, hI1, hG1, hq1_0⟩ := hp1
  have hF1 : ∀ j i : Nat, (j < 195 ∨ j = 198 ∨ 213 ≤ j) → τ1 j i = σ j i := fun j i h_0 => (hG1 j i (by omega) (by omega) (by omega) (by omega) (by omega) (by omega) (by omega) (by omega)).trans (hF0 j i h_0)
  show hpV _ _ _ _ _ _ _ _ _ _ _ _ _ _ _ _ _ _ _ _ _ (_ :: _)
  refine h_istore_n (lv' := [(3, .int (hpI x1)), (0, .ref (z + 195)), (1, .int (hpI a0)), (2, .int (hpI a1))]) C dX9_heights_6 rfl (by decide) rfl ?_
  refine h_iload_n C dX9_heights_7 0 rfl rfl ?_
  refine h_if_ge (tgt := 15) C dX9_heights_8 (by decide) ⟨by omega, by omega⟩ (fun h2 => ?_) (fun h2 => ?_)
  · refine h_aload_n C dX9_heights_15 1 rfl rfl ?_
    refine h_get C O9 36 kd_195 (by decide) wd_1292 dX9_heights_16 (hp_fvI (by rw [kd_195]; rfl) rfl) ?_
    obtain ⟨hr3a, hr3b⟩ := hI1.b (bf_9_36 kd_195)
    generalize hg3 : τ1 195 36 = r3 at hr3a hr3b ⊢
    refine h_ireturn C hr hlk dX9_heights_19 ?_
    exact ⟨⟨_, rfl, ⟨by omega, by omega⟩⟩, hI1, hF1⟩
  · refine h_iload_n C dX9_heights_11 0 rfl rfl ?_
    refine h_goto (tgt := 19) C dX9_heights_12 (by decide) ?_
    refine h_ireturn C hr hlk dX9_heights_19 ?_
    exact ⟨⟨_, rfl, ⟨by omega, by omega⟩⟩, hI1, hF1⟩
abbrev rgX9_least : Room := { frames := 6, cells := 0, slots := 0, locals := 138 }
abbrev pgX9_least (z : Nat) (σ : hpMem) (a0 : Int) (a1 : Int) : Option Value → hpMem → Prop := fun r τ => (∃ x : Int, r = some (.int (hpI x)) ∧ (hpR x)) ∧ hpInv τ ∧ (∀ j i : Nat, (j < 195 ∨ j = 198 ∨ 213 ≤ j) → τ j i = σ j i)
set_option maxHeartbeats 4000000 in
set_option maxRecDepth 20000 in
theorem tgX9_least (l : Launch) (D : va_G) (cy : Nat → ClassId) (z : Nat) (σ : hpMem) (a0 : Int) (ha0 : hpR a0) (a1 : Int) (ha1 : hpR a1) (hI : hpInv σ) : hpM l D cy z yX9_least cX9_least 4 (some .int) rgX9_least [.ref (z + 195), .int (hpI a0), .int (hpI a1)] σ (pgX9_least z σ a0 a1) := by
  obtain ⟨ha01, ha02⟩ := ha0
  obtain ⟨ha11, ha12⟩ := ha1
  refine hp_met rfl (Nat.le_of_ble_eq_true rfl) (fun p e s m below meth c C Z hr hlk => ?_)
  have hF0 : ∀ j i : Nat, (j < 195 ∨ j = 198 ∨ 213 ≤ j) → σ j i = σ j i := fun j i _ => rfl
  refine h_aload_n C dX9_least_0 0 rfl rfl ?_
  refine h_iload_n C dX9_least_1 1 rfl rfl ?_
  refine h_iload_n C dX9_least_2 2 rfl rfl ?_
  refine h_callV (As := [.int (hpI a0), .int (hpI a1)]) (rest := []) C Z yyX9_layFits wd_1820 (tgX9_layFits l D cy z _ a0 ⟨by omega, by omega⟩ a1 ⟨by omega, by omega⟩ hI) kd_195 rfl rfl ⟨rfl, rfl, Nat.le_of_ble_eq_true rfl, Nat.le_of_ble_eq_true rfl⟩ ⟨Nat.le_of_ble_eq_true rfl, Nat.le_of_ble_eq_true rfl⟩ (Nat.le_of_ble_eq_true rfl) dX9_least_3 (fun r1 τ1 hp1 => ?_)
  obtain ⟨x1, rfl, ⟨hx1a, hx1b⟩, hI1, hG1, hq1_0⟩ := hp1
  have hF1 : ∀ j i : Nat, (j < 195 ∨ j = 198 ∨ 213 ≤ j) → τ1 j i = σ j i := fun j i h_0 => (hG1 j i (by omega) (by omega) (by omega) (by omega) (by omega) (by omega) (by omega) (by omega)).trans (hF0 j i h_0)
  show hpV _ _ _ _ _ _ _ _ _ _ _ _ _ _ _ _ _ _ _ _ _ (_ :: _)
  refine h_istore_n (lv' := [(3, .int (hpI x1)), (0, .ref (z + 195)), (1, .int (hpI a0)), (2, .int (hpI a1))]) C dX9_least_6 rfl (by decide) rfl ?_
  refine h_iload_n C dX9_least_7 0 rfl rfl ?_
  refine h_if_ge (tgt := 15) C dX9_least_8 (by decide) ⟨by omega, by omega⟩ (fun h2 => ?_) (fun h2 => ?_)
  · refine h_aload_n C dX9_least_15 1 rfl rfl ?_
    refine h_get C O9 36 kd_195 (by decide) wd_1292 dX9_least_16 (hp_fvI (by rw [kd_195]; rfl) rfl) ?_
    obtain ⟨hr3a, hr3b⟩ := hI1.b (bf_9_36 kd_195)
    generalize hg3 : τ1 195 36 = r3 at hr3a hr3b ⊢
    refine h_if_ne (tgt := 26) C dX9_least_19 (by decide) ⟨by omega, by omega⟩ (fun h4 => ?_) (fun h4 => ?_)
    · refine h_aload_n C dX9_least_26 1 rfl rfl ?_
      refine h_get C O9 34 kd_195 (by decide) wd_1290 dX9_least_27 fr_195_34 ?_
      refine h_iconst C dX9_least_30 ?_
      refine h_iaload C dX9_least_31 kd_210 0 rfl (by rw [ln_210]; decide) rfl ?_
      obtain ⟨hr5a, hr5b⟩ := hI1.b (bo_210 _)
      generalize hg5 : τ1 210 0 = r5 at hr5a hr5b ⊢
      refine h_ireturn C hr hlk dX9_least_32 ?_
      exact ⟨⟨_, rfl, ⟨by omega, by omega⟩⟩, hI1, hF1⟩
    · refine h_iconst C dX9_least_22 ?_
      refine h_goto (tgt := 32) C dX9_least_23 (by decide) ?_
      refine h_ireturn C hr hlk dX9_least_32 ?_
      exact ⟨⟨_, rfl, ⟨by decide, by decide⟩⟩, hI1, hF1⟩
  · refine h_iload_n C dX9_least_11 0 rfl rfl ?_
    refine h_goto (tgt := 32) C dX9_least_12 (by decide) ?_
    refine h_ireturn C hr hlk dX9_least_32 ?_
    exact ⟨⟨_, rfl, ⟨by omega, by omega⟩⟩, hI1, hF1⟩
abbrev rgX9_greatest : Room := { frames := 6, cells := 0, slots := 0, locals := 138 }
abbrev pgX9_greatest (z : Nat) (σ : hpMem) (a0 : Int) (a1 : Int) : Option Value → hpMem → Prop := fun r τ => (∃ x : Int, r = some (.int (hpI x)) ∧ (hpR x)) ∧ hpInv τ ∧ (∀ j i : Nat, (j < 195 ∨ j = 198 ∨ 213 ≤ j) → τ j i = σ j i)
set_option maxHeartbeats 4000000 in
set_option maxRecDepth 20000 in
theorem tgX9_greatest (l : Launch) (D : va_G) (cy : Nat → ClassId) (z : Nat) (σ : hpMem) (a0 : Int) (ha0 : hpR a0) (a1 : Int) (ha1 : hpR a1) (hI : hpInv σ) : hpM l D cy z yX9_greatest cX9_greatest 4 (some .int) rgX9_greatest [.ref (z + 195), .int (hpI a0), .int (hpI a1)] σ (pgX9_greatest z σ a0 a1) := by
  obtain ⟨ha01, ha02⟩ := ha0
  obtain ⟨ha11, ha12⟩ := ha1
  refine hp_met rfl (Nat.le_of_ble_eq_true rfl) (fun p e s m below meth c C Z hr hlk => ?_)
  have hF0 : ∀ j i : Nat, (j < 195 ∨ j = 198 ∨ 213 ≤ j) → σ j i = σ j i := fun j i _ => rfl
  refine h_aload_n C dX9_greatest_0 0 rfl rfl ?_
  refine h_iload_n C dX9_greatest_1 1 rfl rfl ?_
  refine h_iload_n C dX9_greatest_2 2 rfl rfl ?_
  refine h_callV (As := [.int (hpI a0), .int (hpI a1)]) (rest := []) C Z yyX9_layFits wd_1820 (tgX9_layFits l D cy z _ a0 ⟨by omega, by omega⟩ a1 ⟨by omega, by omega⟩ hI) kd_195 rfl rfl ⟨rfl, rfl, Nat.le_of_ble_eq_true rfl, Nat.le_of_ble_eq_true rfl⟩ ⟨Nat.le_of_ble_eq_true rfl, Nat.le_of_ble_eq_true rfl⟩ (Nat.le_of_ble_eq_true rfl) dX9_greatest_3 (fun r1 τ1 hp1 => ?_)
  obtain ⟨x1, rfl, ⟨hx1a, hx1b⟩, hI1, hG1, hq1_0⟩ := hp1
  have hF1 : ∀ j i : Nat, (j < 195 ∨ j = 198 ∨ 213 ≤ j) → τ1 j i = σ j i := fun j i h_0 => (hG1 j i (by omega) (by omega) (by omega) (by omega) (by omega) (by omega) (by omega) (by omega)).trans (hF0 j i h_0)
  show hpV _ _ _ _ _ _ _ _ _ _ _ _ _ _ _ _ _ _ _ _ _ (_ :: _)
  refine h_istore_n (lv' := [(3, .int (hpI x1)), (0, .ref (z + 195)), (1, .int (hpI a0)), (2, .int (hpI a1))]) C dX9_greatest_6 rfl (by decide) rfl ?_
  refine h_iload_n C dX9_greatest_7 0 rfl rfl ?_
  refine h_if_ge (tgt := 15) C dX9_greatest_8 (by decide) ⟨by omega, by omega⟩ (fun h2 => ?_) (fun h2 => ?_)
  · refine h_aload_n C dX9_greatest_15 1 rfl rfl ?_
    refine h_get C O9 36 kd_195 (by decide) wd_1292 dX9_greatest_16 (hp_fvI (by rw [kd_195]; rfl) rfl) ?_
    obtain ⟨hr3a, hr3b⟩ := hI1.b (bf_9_36 kd_195)
    generalize hg3 : τ1 195 36 = r3 at hr3a hr3b ⊢
    refine h_if_ne (tgt := 26) C dX9_greatest_19 (by decide) ⟨by omega, by omega⟩ (fun h4 => ?_) (fun h4 => ?_)
    · refine h_aload_n C dX9_greatest_26 1 rfl rfl ?_
      refine h_get C O9 34 kd_195 (by decide) wd_1290 dX9_greatest_27 fr_195_34 ?_
      refine h_aload_n C dX9_greatest_30 1 rfl rfl ?_
      refine h_get C O9 36 kd_195 (by decide) wd_1292 dX9_greatest_31 (hp_fvI (by rw [kd_195]; rfl) rfl) ?_
      rw [hg3]
      refine h_iconst C dX9_greatest_34 ?_
      refine h_isub C dX9_greatest_35 rfl ?_
      refine h_iaload C dX9_greatest_36 kd_210 (r3 - 1).toNat (Int.toNat_of_nonneg (by omega)) (by rw [ln_210]; omega) rfl ?_
      obtain ⟨hr5a, hr5b⟩ := hI1.b (bo_210 _)
      generalize hg5 : τ1 210 ((r3 - 1).toNat) = r5 at hr5a hr5b ⊢
      refine h_ireturn C hr hlk dX9_greatest_37 ?_
      exact ⟨⟨_, rfl, ⟨by omega, by omega⟩⟩, hI1, hF1⟩
    · refine h_iconst C dX9_greatest_22 ?_
      refine h_goto (tgt := 37) C dX9_greatest_23 (by decide) ?_
      refine h_ireturn C hr hlk dX9_greatest_37 ?_
      exact ⟨⟨_, rfl, ⟨by decide, by decide⟩⟩, hI1, hF1⟩
  · refine h_iload_n C dX9_greatest_11 0 rfl rfl ?_
    refine h_goto (tgt := 37) C dX9_greatest_12 (by decide) ?_
    refine h_ireturn C hr hlk dX9_greatest_37 ?_
    exact ⟨⟨_, rfl, ⟨by omega, by omega⟩⟩, hI1, hF1⟩
abbrev rgX9_worstIn : Room := { frames := 1, cells := 0, slots := 0, locals := 29 }
abbrev pgX9_worstIn (z : Nat) (σ : hpMem) (a0 : Int) : Option Value → hpMem → Prop := fun r τ => (∃ x : Int, r = some (.int (hpI x)) ∧ (hpR x)) ∧ σ = τ
set_option maxHeartbeats 4000000 in
set_option maxRecDepth 20000 in
theorem tgX9_worstIn (l : Launch) (D : va_G) (cy : Nat → ClassId) (z : Nat) (σ : hpMem) (a0 : Int) (ha0 : hpR a0) (hI : hpInv σ) (hd0 : 0 ≤ a0 ∧ a0 ≤ 16) : hpM l D cy z yX9_worstIn cX9_worstIn 6 (some .int) rgX9_worstIn [.ref (z + 195), .int (hpI a0)] σ (pgX9_worstIn z σ a0) := by
  obtain ⟨ha01, ha02⟩ := ha0
  refine hp_met rfl (Nat.le_of_ble_eq_true rfl) (fun p e s m below meth c C Z hr hlk => ?_)
  refine h_iconst C dX9_worstIn_0 ?_
  refine h_istore_n (lv' := [(2, .int (hpI 0)), (0, .ref (z + 195)), (1, .int (hpI a0))]) C dX9_worstIn_1 rfl (by decide) rfl ?_
  refine h_iconst C dX9_worstIn_2 ?_
  refine h_istore_n (lv' := [(3, .int (hpI 0)), (2, .int (hpI 0)), (0, .ref (z + 195)), (1, .int (hpI a0))]) C dX9_worstIn_3 rfl (by decide) rfl ?_
  have L1 : ∀ (n1 : Nat) (w1_2 : Int) (w1_3 : Int), -2147483648 ≤ w1_2 → w1_2 ≤ 2147483647 → 0 ≤ w1_3 → w1_3 ≤ 2147483647 → (4294967296 - w1_3) < (n1 : Int) → hpF p l e rgX9_worstIn s m [.ref (z + 195), .int (hpI a0)] below meth c 6 D cy z (pgX9_worstIn z σ a0) σ 4 [(0, .ref (z + 195)), (1, .int (hpI a0)), (2, .int (hpI w1_2)), (3, .int (hpI w1_3))] [] := by
    intro n1
    induction n1 with
    | zero => intro w1_2 w1_3 hv1_0 hv1_1 hv1_2 hv1_3 hm1; exfalso; omega
    | succ n1 ih1 =>
      intro w1_2 w1_3 hv1_0 hv1_1 hv1_2 hv1_3 hm1
      refine h_iload_n C dX9_worstIn_4 3 rfl rfl ?_
      refine h_aload_n C dX9_worstIn_5 0 rfl rfl ?_
      refine h_get C O9 36 kd_195 (by decide) wd_1292 dX9_worstIn_6 (hp_fvI (by rw [kd_195]; rfl) rfl) ?_
      obtain ⟨hr2a, hr2b⟩ := hI.b (bf_9_36 kd_195)
      generalize hg2 : σ 195 36 = r2 at hr2a hr2b ⊢
      refine h_icmp_ge (tgt := 82) C dX9_worstIn_9 (by decide) ⟨by omega, by omega⟩ ⟨by omega, by omega⟩ (fun h3 => ?_) (fun h3 => ?_)
      · refine h_iload_n C dX9_worstIn_82 2 rfl rfl ?_
        refine h_ireturn C hr hlk dX9_worstIn_83 ?_
        exact ⟨⟨_, rfl, ⟨by omega, by omega⟩⟩, rfl⟩
      · refine h_iconst C dX9_worstIn_12 ?_
        refine h_istore (lv' := [(4, .int (hpI 0)), (0, .ref (z + 195)), (1, .int (hpI a0)), (2, .int (hpI w1_2)), (3, .int (hpI w1_3))]) C dX9_worstIn_13 (by decide) rfl ?_
        refine h_iconst C dX9_worstIn_15 ?_
        refine h_istore (lv' := [(5, .int (hpI 0)), (4, .int (hpI 0)), (0, .ref (z + 195)), (1, .int (hpI a0)), (2, .int (hpI w1_2)), (3, .int (hpI w1_3))]) C dX9_worstIn_16 (by decide) rfl ?_
        have L4 : ∀ (n4 : Nat) (w4_4 : Int) (w4_5 : Int), -2147483648 ≤ w4_4 → w4_4 ≤ 2147483647 → 0 ≤ w4_5 → w4_5 ≤ 2147483647 → (4294967296 - w4_5) < (n4 : Int) → hpF p l e rgX9_worstIn s m [.ref (z + 195), .int (hpI a0)] below meth c 6 D cy z (pgX9_worstIn z σ a0) σ 18 [(0, .ref (z + 195)), (1, .int (hpI a0)), (2, .int (hpI w1_2)), (3, .int (hpI w1_3)), (4, .int (hpI w4_4)), (5, .int (hpI w4_5))] [] := by
          intro n4
          induction n4 with
          | zero => intro w4_4 w4_5 hv4_0 hv4_1 hv4_2 hv4_3 hm4; exfalso; omega
          | succ n4 ih4 =>
            intro w4_4 w4_5 hv4_0 hv4_1 hv4_2 hv4_3 hm4
            refine h_iload C dX9_worstIn_18 5 rfl ?_
            refine h_aload_n C dX9_worstIn_20 0 rfl rfl ?_
            refine h_get C O9 36 kd_195 (by decide) wd_1292 dX9_worstIn_21 (hp_fvI (by rw [kd_195]; rfl) rfl) ?_
            rw [hg2]
            refine h_icmp_ge (tgt := 69) C dX9_worstIn_24 (by decide) ⟨by omega, by omega⟩ ⟨by omega, by omega⟩ (fun h5 => ?_) (fun h5 => ?_)
            · refine h_iload_n C dX9_worstIn_69 2 rfl rfl ?_
              refine h_iload C dX9_worstIn_70 4 rfl ?_
              refine h_mmax C wd_1624 wd_708 wd_709 wd_15 dX9_worstIn_72 ⟨by omega, by omega⟩ ⟨by omega, by omega⟩ (Nat.le_of_ble_eq_true rfl) (Nat.le_of_ble_eq_true rfl) ⟨Nat.le_of_ble_eq_true rfl, Nat.le_of_ble_eq_true rfl⟩ (fun r6 hr6a hr6b hr6c => ?_)
              refine h_istore_n (lv' := [(2, .int (hpI r6)), (0, .ref (z + 195)), (1, .int (hpI a0)), (3, .int (hpI w1_3)), (4, .int (hpI w4_4)), (5, .int (hpI w4_5))]) C dX9_worstIn_75 rfl (by decide) rfl ?_
              refine h_iinc (lv' := [(3, .int (hpI (w1_3 + 1))), (2, .int (hpI r6)), (0, .ref (z + 195)), (1, .int (hpI a0)), (4, .int (hpI w4_4)), (5, .int (hpI w4_5))]) C dX9_worstIn_76 3 rfl rfl (by decide) rfl ?_
              refine h_goto (tgt := 4) C dX9_worstIn_79 (by decide) ?_
              exact hp_sub [2, 3, 1, 0] rfl (ih1 r6 (w1_3 + 1) (by omega) (by omega) (by omega) (by omega) (by omega))
            · refine h_iload C dX9_worstIn_27 4 rfl ?_
              refine h_aload_n C dX9_worstIn_29 0 rfl rfl ?_
              refine h_get C O9 35 kd_195 (by decide) wd_1291 dX9_worstIn_30 fr_195_35 ?_
              refine h_bipush C dX9_worstIn_33 (by decide) ?_
              refine h_iload_n C dX9_worstIn_35 3 rfl rfl ?_
              refine h_imul C dX9_worstIn_36 rfl ?_
              refine h_iload_n C dX9_worstIn_37 1 rfl rfl ?_
              refine h_iadd C dX9_worstIn_38 rfl ?_
              refine h_iaload C dX9_worstIn_39 kd_211 ((17 * w1_3) + a0).toNat (Int.toNat_of_nonneg (by omega)) (by rw [ln_211]; omega) rfl ?_
              obtain ⟨hr7a, hr7b⟩ := hI.b (bo_211 _)
              generalize hg7 : σ 211 (((17 * w1_3) + a0).toNat) = r7 at hr7a hr7b ⊢
              refine h_aload_n C dX9_worstIn_40 0 rfl rfl ?_
              refine h_get C O9 35 kd_195 (by decide) wd_1291 dX9_worstIn_41 fr_195_35 ?_
              refine h_bipush C dX9_worstIn_44 (by decide) ?_
              refine h_iload C dX9_worstIn_46 5 rfl ?_
              refine h_imul C dX9_worstIn_48 rfl ?_
              refine h_iload_n C dX9_worstIn_49 1 rfl rfl ?_
              refine h_iadd C dX9_worstIn_50 rfl ?_
              refine h_iaload C dX9_worstIn_51 kd_211 ((17 * w4_5) + a0).toNat (Int.toNat_of_nonneg (by omega)) (by rw [ln_211]; omega) rfl ?_
              obtain ⟨hr8a, hr8b⟩ := hI.b (bo_211 _)
              generalize hg8 : σ 211 (((17 * w4_5) + a0).toNat) = r8 at hr8a hr8b ⊢
              refine h_icmp_ne (tgt := 59) C dX9_worstIn_52 (by decide) ⟨by omega, by omega⟩ ⟨by omega, by omega⟩ (fun h9 => ?_) (fun h9 => ?_)
              · refine h_iconst C dX9_worstIn_59 ?_
                refine h_iadd C dX9_worstIn_60 rfl ?_
                refine h_istore (lv' := [(4, .int (hpI (w4_4 + 0))), (0, .ref (z + 195)), (1, .int (hpI a0)), (2, .int (hpI w1_2)), (3, .int (hpI w1_3)), (5, .int (hpI w4_5))]) C dX9_worstIn_61 (by decide) rfl ?_
                refine h_iinc (lv' := [(5, .int (hpI (w4_5 + 1))), (4, .int (hpI (w4_4 + 0))), (0, .ref (z + 195)), (1, .int (hpI a0)), (2, .int (hpI w1_2)), (3, .int (hpI w1_3))]) C dX9_worstIn_63 5 rfl rfl (by decide) rfl ?_
                refine h_goto (tgt := 18) C dX9_worstIn_66 (by decide) ?_
                exact hp_sub [2, 3, 4, 5, 1, 0] rfl (ih4 (w4_4 + 0) (w4_5 + 1) (by omega) (by omega) (by omega) (by omega) (by omega))
              · refine h_iconst C dX9_worstIn_55 ?_
                refine h_goto (tgt := 60) C dX9_worstIn_56 (by decide) ?_
                refine h_iadd C dX9_worstIn_60 rfl ?_
                refine hp_anyI (fun r10 hr10 => ?_)
                obtain ⟨hr10a, hr10b⟩ := hr10
                refine h_istore (lv' := [(4, .int (hpI r10)), (0, .ref (z + 195)), (1, .int (hpI a0)), (2, .int (hpI w1_2)), (3, .int (hpI w1_3)), (5, .int (hpI w4_5))]) C dX9_worstIn_61 (by decide) rfl ?_
                refine h_iinc (lv' := [(5, .int (hpI (w4_5 + 1))), (4, .int (hpI r10)), (0, .ref (z + 195)), (1, .int (hpI a0)), (2, .int (hpI w1_2)), (3, .int (hpI w1_3))]) C dX9_worstIn_63 5 rfl rfl (by decide) rfl ?_
                refine h_goto (tgt := 18) C dX9_worstIn_66 (by decide) ?_
                exact hp_sub [2, 3, 4, 5, 1, 0] rfl (ih4 r10 (w4_5 + 1) (by omega) (by omega) (by omega) (by omega) (by omega))
        exact hp_sub [2, 3, 4, 5, 1, 0] rfl (L4 8589934592 0 0 (by omega) (by omega) (by omega) (by omega) (by omega))
  exact hp_sub [2, 3, 1, 0] rfl (L1 8589934592 0 0 (by omega) (by omega) (by omega) (by omega) (by omega))
abbrev rgX9_askOf : Room := { frames := 2, cells := 0, slots := 0, locals := 54 }
abbrev pgX9_askOf (z : Nat) (σ : hpMem) : Option Value → hpMem → Prop := fun r τ => (∃ x : Int, r = some (.int (hpI x)) ∧ (hpR x)) ∧ hpInv τ ∧ (∀ j i : Nat, (j ≠ 195 ∨ (i ≠ 37)) → τ j i = σ j i)
set_option maxHeartbeats 4000000 in
set_option maxRecDepth 20000 in
theorem tgX9_askOf (l : Launch) (D : va_G) (cy : Nat → ClassId) (z : Nat) (σ : hpMem) (hI : hpInv σ) : hpM l D cy z yX9_askOf cX9_askOf 4 (some .int) rgX9_askOf [.ref (z + 195)] σ (pgX9_askOf z σ) := by
  refine hp_met rfl (Nat.le_of_ble_eq_true rfl) (fun p e s m below meth c C Z hr hlk => ?_)
  have hF0 : ∀ j i : Nat, (j ≠ 195 ∨ (i ≠ 37)) → σ j i = σ j i := fun j i _ => rfl
  refine h_aload_n C dX9_askOf_0 0 rfl rfl ?_
  refine h_aload_n C dX9_askOf_1 0 rfl rfl ?_
  refine h_get C O9 36 kd_195 (by decide) wd_1292 dX9_askOf_2 (hp_fvI (by rw [kd_195]; rfl) rfl) ?_
  obtain ⟨hr1a, hr1b⟩ := hI.b (bf_9_36 kd_195)
  generalize hg1 : σ 195 36 = r1 at hr1a hr1b ⊢
  refine h_put C O9 37 kd_195 (by decide) rfl wd_1293 dX9_askOf_5 rfl rfl (hp_fvI (by rw [kd_195]; rfl) hpu_at) ?_
  obtain ⟨τ2, e2⟩ : ∃ μ : hpMem, μ = hpw σ 195 37 r1 := ⟨_, rfl⟩
  rw [← e2]
  have hI2 : hpInv τ2 := by rw [e2]; exact hI.w (bf_9_37 kd_195) (by omega) (by omega)
  have hF2 : ∀ j i : Nat, (j ≠ 195 ∨ (i ≠ 37)) → τ2 j i = σ j i := fun j i h_0 => by rw [e2]; exact (hpw_fr (by omega)).trans (hF0 j i h_0)
  have hg3 : τ2 195 36 = r1 := by rw [e2]; exact (hpw_fr (Or.inr (by decide))).trans hg1
  have hg4 : τ2 195 37 = r1 := by rw [e2]; exact hpw_eq
  refine h_iconst C dX9_askOf_8 ?_
  refine h_istore_n (lv' := [(1, .int (hpI (-1))), (0, .ref (z + 195))]) C dX9_askOf_9 rfl (by decide) rfl ?_
  refine h_iconst C dX9_askOf_10 ?_
  refine h_istore_n (lv' := [(2, .int (hpI 0)), (1, .int (hpI (-1))), (0, .ref (z + 195))]) C dX9_askOf_11 rfl (by decide) rfl ?_
  have L5 : ∀ (n5 : Nat) (τ5 : hpMem) (w5_1 : Int) (w5_2 : Int), -2147483648 ≤ w5_1 → w5_1 ≤ 2147483647 → 0 ≤ w5_2 → w5_2 ≤ 2147483647 → hpInv τ5 → (∀ j i : Nat, (j ≠ 195 ∨ (i ≠ 37)) → τ5 j i = σ j i) → (4294967296 - w5_2) < (n5 : Int) → hpF p l e rgX9_askOf s m [.ref (z + 195)] below meth c 4 D cy z (pgX9_askOf z σ) τ5 12 [(0, .ref (z + 195)), (1, .int (hpI w5_1)), (2, .int (hpI w5_2))] [] := by
    intro n5
    induction n5 with
    | zero => intro τ5 w5_1 w5_2 hv5_0 hv5_1 hv5_2 hv5_3 hI5 hF5 hm5; exfalso; omega
    | succ n5 ih5 =>
      intro τ5 w5_1 w5_2 hv5_0 hv5_1 hv5_2 hv5_3 hI5 hF5 hm5
      refine h_iload_n C dX9_askOf_12 2 rfl rfl ?_
      refine h_aload_n C dX9_askOf_13 0 rfl rfl ?_
      refine h_callV (As := []) (rest := [.int (hpI w5_2)]) C Z yyX9_days wd_1544 (tgX9_days l D cy z _ hI5) kd_195 rfl rfl ⟨rfl, rfl, Nat.le_of_ble_eq_true rfl, Nat.le_of_ble_eq_true rfl⟩ ⟨Nat.le_of_ble_eq_true rfl, Nat.le_of_ble_eq_true rfl⟩ (Nat.le_of_ble_eq_true rfl) dX9_askOf_14 (fun r6 τ6 hp6 => ?_)
      obtain ⟨⟨x6, rfl, ⟨hx6a, hx6b⟩, hx6⟩, rfl⟩ := hp6
      show hpV _ _ _ _ _ _ _ _ _ _ _ _ _ _ _ _ _ _ _ _ _ (_ :: _)
      refine h_icmp_gt (tgt := 50) C dX9_askOf_17 (by decide) ⟨by omega, by omega⟩ ⟨by omega, by omega⟩ (fun h7 => ?_) (fun h7 => ?_)
      · refine h_iload_n C dX9_askOf_50 1 rfl rfl ?_
        refine h_ireturn C hr hlk dX9_askOf_51 ?_
        exact ⟨⟨_, rfl, ⟨by omega, by omega⟩⟩, hI5, hF5⟩
      · refine h_aload_n C dX9_askOf_20 0 rfl rfl ?_
        refine h_iload_n C dX9_askOf_21 2 rfl rfl ?_
        refine h_callV (As := [.int (hpI w5_2)]) (rest := []) C Z yyX9_worstIn wd_1848 (tgX9_worstIn l D cy z _ w5_2 ⟨by omega, by omega⟩ hI5 (by omega)) kd_195 rfl rfl ⟨rfl, rfl, Nat.le_of_ble_eq_true rfl, Nat.le_of_ble_eq_true rfl⟩ ⟨Nat.le_of_ble_eq_true rfl, Nat.le_of_ble_eq_true rfl⟩ (Nat.le_of_ble_eq_true rfl) dX9_askOf_22 (fun r8 τ8 hp8 => ?_)
        obtain ⟨⟨x8, rfl, ⟨hx8a, hx8b⟩⟩, rfl⟩ := hp8
        show hpV _ _ _ _ _ _ _ _ _ _ _ _ _ _ _ _ _ _ _ _ _ (_ :: _)
        refine h_istore_n (lv' := [(3, .int (hpI x8)), (0, .ref (z + 195)), (1, .int (hpI w5_1)), (2, .int (hpI w5_2))]) C dX9_askOf_25 rfl (by decide) rfl ?_
        refine h_iload_n C dX9_askOf_26 0 rfl rfl ?_
        refine h_aload_n C dX9_askOf_27 1 rfl rfl ?_
        refine h_get C O9 37 kd_195 (by decide) wd_1293 dX9_askOf_28 (hp_fvI (by rw [kd_195]; rfl) rfl) ?_
        obtain ⟨hr9a, hr9b⟩ := hI5.b (bf_9_37 kd_195)
        generalize hg9 : τ5 195 37 = r9 at hr9a hr9b ⊢
        refine h_icmp_lt (tgt := 37) C dX9_askOf_31 (by decide) ⟨by omega, by omega⟩ ⟨by omega, by omega⟩ (fun h10 => ?_) (fun h10 => ?_)
        · refine h_aload_n C dX9_askOf_37 1 rfl rfl ?_
          refine h_iload_n C dX9_askOf_38 0 rfl rfl ?_
          refine h_put C O9 37 kd_195 (by decide) rfl wd_1293 dX9_askOf_39 rfl rfl (hp_fvI (by rw [kd_195]; rfl) hpu_at) ?_
          obtain ⟨τ11, e11⟩ : ∃ μ : hpMem, μ = hpw τ5 195 37 x8 := ⟨_, rfl⟩
          rw [← e11]
          have hI11 : hpInv τ11 := by rw [e11]; exact hI5.w (bf_9_37 kd_195) (by omega) (by omega)
          have hF11 : ∀ j i : Nat, (j ≠ 195 ∨ (i ≠ 37)) → τ11 j i = σ j i := fun j i h_0 => by rw [e11]; exact (hpw_fr (by omega)).trans (hF5 j i h_0)
          have hg12 : τ11 195 37 = x8 := by rw [e11]; exact hpw_eq
          refine h_iload_n C dX9_askOf_42 3 rfl rfl ?_
          refine h_istore_n (lv' := [(1, .int (hpI w5_2)), (3, .int (hpI x8)), (0, .ref (z + 195)), (2, .int (hpI w5_2))]) C dX9_askOf_43 rfl (by decide) rfl ?_
          refine h_iinc (lv' := [(2, .int (hpI (w5_2 + 1))), (1, .int (hpI w5_2)), (3, .int (hpI x8)), (0, .ref (z + 195))]) C dX9_askOf_44 3 rfl rfl (by decide) rfl ?_
          refine h_goto (tgt := 12) C dX9_askOf_47 (by decide) ?_
          exact hp_sub [3, 1, 0] rfl (ih5 _ w5_2 (w5_2 + 1) (by omega) (by omega) (by omega) (by omega) hI11 hF11 (by omega))
        · refine h_goto (tgt := 44) C dX9_askOf_34 (by decide) ?_
          refine h_iinc (lv' := [(2, .int (hpI (w5_2 + 1))), (3, .int (hpI x8)), (0, .ref (z + 195)), (1, .int (hpI w5_1))]) C dX9_askOf_44 3 rfl rfl (by decide) rfl ?_
          refine h_goto (tgt := 12) C dX9_askOf_47 (by decide) ?_
          exact hp_sub [2, 3, 0] rfl (ih5 _ w5_1 (w5_2 + 1) (by omega) (by omega) (by omega) (by omega) hI5 hF5 (by omega))
  exact hp_sub [2, 1, 0] rfl (L5 8589934592 _ (-1) 0 (by omega) (by omega) (by omega) (by omega) hI2 hF2 (by omega))
abbrev rgX9_ask : Room := { frames := 6, cells := 0, slots := 0, locals := 138 }
abbrev pgX9_ask (z : Nat) (σ : hpMem) (a0 : Int) (a1 : Int) : Option Value → hpMem → Prop := fun r τ => (∃ x : Int, r = some (.int (hpI x)) ∧ (hpR x)) ∧ hpInv τ ∧ (∀ j i : Nat, (j < 195 ∨ j = 198 ∨ 213 ≤ j) → τ j i = σ j i)
set_option maxHeartbeats 4000000 in
set_option maxRecDepth 20000 in
theorem tgX9_ask (l : Launch) (D : va_G) (cy : Nat → ClassId) (z : Nat) (σ : hpMem) (a0 : Int) (ha0 : hpR a0) (a1 : Int) (ha1 : hpR a1) (hI : hpInv σ) : hpM l D cy z yX9_ask cX9_ask 4 (some .int) rgX9_ask [.ref (z + 195), .int (hpI a0), .int (hpI a1)] σ (pgX9_ask z σ a0 a1) := by
  obtain ⟨ha01, ha02⟩ := ha0
  obtain ⟨ha11, ha12⟩ := ha1
  refine hp_met rfl (Nat.le_of_ble_eq_true rfl) (fun p e s m below meth c C Z hr hlk => ?_)
  have hF0 : ∀ j i : Nat, (j < 195 ∨ j = 198 ∨ 213 ≤ j) → σ j i = σ j i := fun j i _ => rfl
  refine h_aload_n C dX9_ask_0 0 rfl rfl ?_
  refine h_iload_n C dX9_ask_1 1 rfl rfl ?_
  refine h_iload_n C dX9_ask_2 2 rfl rfl ?_
  refine h_callV (As := [.int (hpI a0), .int (hpI a1)]) (rest := []) C Z yyX9_layFits wd_1820 (tgX9_layFits l D cy z _ a0 ⟨by omega, by omega⟩ a1 ⟨by omega, by omega⟩ hI) kd_195 rfl rfl ⟨rfl, rfl, Nat.le_of_ble_eq_true rfl, Nat.le_of_ble_eq_true rfl⟩ ⟨Nat.le_of_ble_eq_true rfl, Nat.le_of_ble_eq_true rfl⟩ (Nat.le_of_ble_eq_true rfl) dX9_ask_3 (fun r1 τ1 hp1 => ?_)
  obtain ⟨x1, rfl, ⟨hx1a, hx1b⟩, hI1, hG1, hq1_0⟩ := hp1
  have hF1 : ∀ j i : Nat, (j < 195 ∨ j = 198 ∨ 213 ≤ j) → τ1 j i = σ j i := fun j i h_0 => (hG1 j i (by omega) (by omega) (by omega) (by omega) (by omega) (by omega) (by omega) (by omega)).trans (hF0 j i h_0)
  show hpV _ _ _ _ _ _ _ _ _ _ _ _ _ _ _ _ _ _ _ _ _ (_ :: _)
  refine h_istore_n (lv' := [(3, .int (hpI x1)), (0, .ref (z + 195)), (1, .int (hpI a0)), (2, .int (hpI a1))]) C dX9_ask_6 rfl (by decide) rfl ?_
  refine h_iload_n C dX9_ask_7 0 rfl rfl ?_
  refine h_if_ge (tgt := 15) C dX9_ask_8 (by decide) ⟨by omega, by omega⟩ (fun h2 => ?_) (fun h2 => ?_)
  · refine h_aload_n C dX9_ask_15 1 rfl rfl ?_
    refine h_callV (As := []) (rest := []) C Z yyX9_askOf wd_1844 (tgX9_askOf l D cy z _ hI1) kd_195 rfl rfl ⟨rfl, rfl, Nat.le_of_ble_eq_true rfl, Nat.le_of_ble_eq_true rfl⟩ ⟨Nat.le_of_ble_eq_true rfl, Nat.le_of_ble_eq_true rfl⟩ (Nat.le_of_ble_eq_true rfl) dX9_ask_16 (fun r3 τ3 hp3 => ?_)
    obtain ⟨⟨x3, rfl, ⟨hx3a, hx3b⟩⟩, hI3, hG3⟩ := hp3
    have hF3 : ∀ j i : Nat, (j < 195 ∨ j = 198 ∨ 213 ≤ j) → τ3 j i = σ j i := fun j i h_0 => (hG3 j i (by omega)).trans (hF1 j i h_0)
    show hpV _ _ _ _ _ _ _ _ _ _ _ _ _ _ _ _ _ _ _ _ _ (_ :: _)
    refine h_ireturn C hr hlk dX9_ask_19 ?_
    exact ⟨⟨_, rfl, ⟨by omega, by omega⟩⟩, hI3, hF3⟩
  · refine h_iload_n C dX9_ask_11 0 rfl rfl ?_
    refine h_goto (tgt := 19) C dX9_ask_12 (by decide) ?_
    refine h_ireturn C hr hlk dX9_ask_19 ?_
    exact ⟨⟨_, rfl, ⟨by omega, by omega⟩⟩, hI1, hF1⟩
abbrev rgX9_leaves : Room := { frames := 6, cells := 0, slots := 0, locals := 138 }
abbrev pgX9_leaves (z : Nat) (σ : hpMem) (a0 : Int) (a1 : Int) : Option Value → hpMem → Prop := fun r τ => (∃ x : Int, r = some (.int (hpI x)) ∧ (hpR x)) ∧ hpInv τ ∧ (∀ j i : Nat, (j < 195 ∨ j = 198 ∨ 213 ≤ j) → τ j i = σ j i)
set_option maxHeartbeats 4000000 in
set_option maxRecDepth 20000 in
theorem tgX9_leaves (l : Launch) (D : va_G) (cy : Nat → ClassId) (z : Nat) (σ : hpMem) (a0 : Int) (ha0 : hpR a0) (a1 : Int) (ha1 : hpR a1) (hI : hpInv σ) : hpM l D cy z yX9_leaves cX9_leaves 4 (some .int) rgX9_leaves [.ref (z + 195), .int (hpI a0), .int (hpI a1)] σ (pgX9_leaves z σ a0 a1) := by
  obtain ⟨ha01, ha02⟩ := ha0
  obtain ⟨ha11, ha12⟩ := ha1
  refine hp_met rfl (Nat.le_of_ble_eq_true rfl) (fun p e s m below meth c C Z hr hlk => ?_)
  have hF0 : ∀ j i : Nat, (j < 195 ∨ j = 198 ∨ 213 ≤ j) → σ j i = σ j i := fun j i _ => rfl
  refine h_aload_n C dX9_leaves_0 0 rfl rfl ?_
  refine h_iload_n C dX9_leaves_1 1 rfl rfl ?_
  refine h_iload_n C dX9_leaves_2 2 rfl rfl ?_
  refine h_callV (As := [.int (hpI a0), .int (hpI a1)]) (rest := []) C Z yyX9_layFits wd_1820 (tgX9_layFits l D cy z _ a0 ⟨by omega, by omega⟩ a1 ⟨by omega, by omega⟩ hI) kd_195 rfl rfl ⟨rfl, rfl, Nat.le_of_ble_eq_true rfl, Nat.le_of_ble_eq_true rfl⟩ ⟨Nat.le_of_ble_eq_true rfl, Nat.le_of_ble_eq_true rfl⟩ (Nat.le_of_ble_eq_true rfl) dX9_leaves_3 (fun r1 τ1 hp1 => ?_)
  obtain ⟨x1, rfl, ⟨hx1a, hx1b⟩, hI1, hG1, hq1_0⟩ := hp1
  have hF1 : ∀ j i : Nat, (j < 195 ∨ j = 198 ∨ 213 ≤ j) → τ1 j i = σ j i := fun j i h_0 => (hG1 j i (by omega) (by omega) (by omega) (by omega) (by omega) (by omega) (by omega) (by omega)).trans (hF0 j i h_0)
  show hpV _ _ _ _ _ _ _ _ _ _ _ _ _ _ _ _ _ _ _ _ _ (_ :: _)
  refine h_istore_n (lv' := [(3, .int (hpI x1)), (0, .ref (z + 195)), (1, .int (hpI a0)), (2, .int (hpI a1))]) C dX9_leaves_6 rfl (by decide) rfl ?_
  refine h_iload_n C dX9_leaves_7 0 rfl rfl ?_
  refine h_if_ge (tgt := 13) C dX9_leaves_8 (by decide) ⟨by omega, by omega⟩ (fun h2 => ?_) (fun h2 => ?_)
  · refine h_aload_n C dX9_leaves_13 1 rfl rfl ?_
    refine h_callV (As := []) (rest := []) C Z yyX9_askOf wd_1844 (tgX9_askOf l D cy z _ hI1) kd_195 rfl rfl ⟨rfl, rfl, Nat.le_of_ble_eq_true rfl, Nat.le_of_ble_eq_true rfl⟩ ⟨Nat.le_of_ble_eq_true rfl, Nat.le_of_ble_eq_true rfl⟩ (Nat.le_of_ble_eq_true rfl) dX9_leaves_14 (fun r3 τ3 hp3 => ?_)
    obtain ⟨⟨x3, rfl, ⟨hx3a, hx3b⟩⟩, hI3, hG3⟩ := hp3
    have hF3 : ∀ j i : Nat, (j < 195 ∨ j = 198 ∨ 213 ≤ j) → τ3 j i = σ j i := fun j i h_0 => (hG3 j i (by omega)).trans (hF1 j i h_0)
    show hpV _ _ _ _ _ _ _ _ _ _ _ _ _ _ _ _ _ _ _ _ _ (_ :: _)
    refine h_pop C rfl dX9_leaves_17 ?_
    refine h_aload_n C dX9_leaves_18 1 rfl rfl ?_
    refine h_get C O9 37 kd_195 (by decide) wd_1293 dX9_leaves_19 (hp_fvI (by rw [kd_195]; rfl) rfl) ?_
    obtain ⟨hr4a, hr4b⟩ := hI3.b (bf_9_37 kd_195)
    generalize hg4 : τ3 195 37 = r4 at hr4a hr4b ⊢
    refine h_ireturn C hr hlk dX9_leaves_22 ?_
    exact ⟨⟨_, rfl, ⟨by omega, by omega⟩⟩, hI3, hF3⟩
  · refine h_iload_n C dX9_leaves_11 0 rfl rfl ?_
    refine h_ireturn C hr hlk dX9_leaves_12 ?_
    exact ⟨⟨_, rfl, ⟨by omega, by omega⟩⟩, hI1, hF1⟩
abbrev rgX9_laws : Room := { frames := 5, cells := 0, slots := 0, locals := 113 }
abbrev pgX9_laws (z : Nat) (σ : hpMem) (a0 : Int) : Option Value → hpMem → Prop := fun r τ => (∃ x : Int, r = some (.int (hpI x)) ∧ (hpR x)) ∧ hpInv τ ∧ (∀ j i : Nat, (j < 195 ∨ j = 198 ∨ 213 ≤ j) → τ j i = σ j i)
set_option maxHeartbeats 4000000 in
set_option maxRecDepth 20000 in
theorem tgX9_laws (l : Launch) (D : va_G) (cy : Nat → ClassId) (z : Nat) (σ : hpMem) (a0 : Int) (ha0 : hpR a0) (hI : hpInv σ) : hpM l D cy z yX9_laws cX9_laws 4 (some .int) rgX9_laws [.ref (z + 195), .int (hpI a0)] σ (pgX9_laws z σ a0) := by
  obtain ⟨ha01, ha02⟩ := ha0
  refine hp_met rfl (Nat.le_of_ble_eq_true rfl) (fun p e s m below meth c C Z hr hlk => ?_)
  have hF0 : ∀ j i : Nat, (j < 195 ∨ j = 198 ∨ 213 ≤ j) → σ j i = σ j i := fun j i _ => rfl
  refine h_aload_n C dX9_laws_0 0 rfl rfl ?_
  refine h_iload_n C dX9_laws_1 1 rfl rfl ?_
  refine h_callV (As := [.int (hpI a0)]) (rest := []) C Z yyX9_askSeen wd_1824 (tgX9_askSeen l D cy z _ a0 ⟨by omega, by omega⟩ hI) kd_195 rfl rfl ⟨rfl, rfl, Nat.le_of_ble_eq_true rfl, Nat.le_of_ble_eq_true rfl⟩ ⟨Nat.le_of_ble_eq_true rfl, Nat.le_of_ble_eq_true rfl⟩ (Nat.le_of_ble_eq_true rfl) dX9_laws_2 (fun r1 τ1 hp1 => ?_)
  obtain ⟨x1, rfl, ⟨hx1a, hx1b⟩, hx1, hI1, hG1, hq1_0⟩ := hp1
  have hF1 : ∀ j i : Nat, (j < 195 ∨ j = 198 ∨ 213 ≤ j) → τ1 j i = σ j i := fun j i h_0 => (hG1 j i (by omega) (by omega) (by omega)).trans (hF0 j i h_0)
  show hpV _ _ _ _ _ _ _ _ _ _ _ _ _ _ _ _ _ _ _ _ _ (_ :: _)
  refine h_istore_n (lv' := [(2, .int (hpI x1)), (0, .ref (z + 195)), (1, .int (hpI a0))]) C dX9_laws_5 rfl (by decide) rfl ?_
  refine h_iload_n C dX9_laws_6 0 rfl rfl ?_
  refine h_if_ge (tgt := 12) C dX9_laws_7 (by decide) ⟨by omega, by omega⟩ (fun h2 => ?_) (fun h2 => ?_)
  · refine h_iconst C dX9_laws_12 ?_
    refine h_istore_n (lv' := [(3, .int (hpI 0)), (2, .int (hpI x1)), (0, .ref (z + 195)), (1, .int (hpI a0))]) C dX9_laws_13 rfl (by decide) rfl ?_
    refine h_aload_n C dX9_laws_14 2 rfl rfl ?_
    refine h_iconst C dX9_laws_15 ?_
    refine h_put C O9 16 kd_195 (by decide) rfl wd_1272 dX9_laws_16 rfl rfl (hp_fvI (by rw [kd_195]; rfl) hpu_at) ?_
    obtain ⟨τ3, e3⟩ : ∃ μ : hpMem, μ = hpw τ1 195 16 0 := ⟨_, rfl⟩
    rw [← e3]
    have hI3 : hpInv τ3 := by rw [e3]; exact hI1.w (bf_9_16 kd_195) (by omega) (by omega)
    have hF3 : ∀ j i : Nat, (j < 195 ∨ j = 198 ∨ 213 ≤ j) → τ3 j i = σ j i := fun j i h_0 => by rw [e3]; exact (hpw_fr (by omega)).trans (hF1 j i h_0)
    have hg4 : τ3 195 16 = 0 := by rw [e3]; exact hpw_eq
    have L5 : ∀ (n5 : Nat) (τ5 : hpMem) (w5_3 : Int), -2147483648 ≤ w5_3 → w5_3 ≤ 2147483647 → hpInv τ5 → (∀ j i : Nat, (j < 195 ∨ j = 198 ∨ 213 ≤ j) → τ5 j i = σ j i) → (hpSn τ5 a0) → (5 - τ5 195 16) < (n5 : Int) → hpF p l e rgX9_laws s m [.ref (z + 195), .int (hpI a0)] below meth c 4 D cy z (pgX9_laws z σ a0) τ5 19 [(0, .ref (z + 195)), (1, .int (hpI a0)), (2, .int (hpI x1)), (3, .int (hpI w5_3))] [] := by
      intro n5
      induction n5 with
      | zero => intro τ5 w5_3 hv5_0 hv5_1 hI5 hF5 hM5_0 hm5; have hz5_0 := hI5.b (bf_9_16 kd_195); exfalso; omega
      | succ n5 ih5 =>
        intro τ5 w5_3 hv5_0 hv5_1 hI5 hF5 hM5_0 hm5
        have hz5_0 := hI5.b (bf_9_16 kd_195)
        refine h_aload_n C dX9_laws_19 0 rfl rfl ?_
        refine h_get C O9 16 kd_195 (by decide) wd_1272 dX9_laws_20 (hp_fvI (by rw [kd_195]; rfl) rfl) ?_
        obtain ⟨hr6a, hr6b⟩ := hI5.b (bf_9_16 kd_195)
        generalize hg6 : τ5 195 16 = r6 at hr6a hr6b ⊢
        refine h_iconst C dX9_laws_23 ?_
        refine h_icmp_ge (tgt := 61) C dX9_laws_24 (by decide) ⟨by omega, by omega⟩ ⟨by decide, by decide⟩ (fun h7 => ?_) (fun h7 => ?_)
        · refine h_iload_n C dX9_laws_61 3 rfl rfl ?_
          refine h_ireturn C hr hlk dX9_laws_62 ?_
          exact ⟨⟨_, rfl, ⟨by omega, by omega⟩⟩, hI5, hF5⟩
        · refine h_iload_n C dX9_laws_27 3 rfl rfl ?_
          refine h_aload_n C dX9_laws_28 0 rfl rfl ?_
          refine h_iload_n C dX9_laws_29 1 rfl rfl ?_
          have hS30 : hpSn τ5 a0 := hM5_0
          refine h_callV (As := [.int (hpI a0)]) (rest := [.int (hpI w5_3)]) C Z yyX9_isSeen wd_1828 (tgX9_isSeen l D cy z _ a0 ⟨by omega, by omega⟩ hI5 hS30) kd_195 rfl rfl ⟨rfl, rfl, Nat.le_of_ble_eq_true rfl, Nat.le_of_ble_eq_true rfl⟩ ⟨Nat.le_of_ble_eq_true rfl, Nat.le_of_ble_eq_true rfl⟩ (Nat.le_of_ble_eq_true rfl) dX9_laws_30 (fun r8 τ8 hp8 => ?_)
          obtain ⟨⟨x8, rfl, ⟨hx8a, hx8b⟩⟩, hI8, hG8⟩ := hp8
          have hF8 : ∀ j i : Nat, (j < 195 ∨ j = 198 ∨ 213 ≤ j) → τ8 j i = σ j i := fun j i h_0 => (hG8 j i (by omega) (by omega) (by omega) (by omega)).trans (hF5 j i h_0)
          have hg9 : τ8 195 16 = r6 := (hG8 195 16 (by omega) (by omega) (by omega) (by omega)).trans hg6
          show hpV _ _ _ _ _ _ _ _ _ _ _ _ _ _ _ _ _ _ _ _ _ (_ :: _)
          have e30 : τ8 195 16 = τ5 195 16 := hG8 195 16 (by omega) (by omega) (by omega) (by omega)
          refine h_if_eq (tgt := 45) C dX9_laws_33 (by decide) ⟨by omega, by omega⟩ (fun h10 => ?_) (fun h10 => ?_)
          · refine h_iconst C dX9_laws_45 ?_
            refine h_ior_any C dX9_laws_46 (fun r11 hr11 => ?_)
            obtain ⟨hr11a, hr11b⟩ := hr11
            refine h_istore_n (lv' := [(3, .int (hpI r11)), (0, .ref (z + 195)), (1, .int (hpI a0)), (2, .int (hpI x1))]) C dX9_laws_47 rfl (by decide) rfl ?_
            refine h_aload_n C dX9_laws_48 1 rfl rfl ?_
            refine h_dup C rfl dX9_laws_49 ?_
            refine h_get C O9 16 kd_195 (by decide) wd_1272 dX9_laws_50 (hp_fvI (by rw [kd_195]; rfl) rfl) ?_
            rw [hg9]
            refine h_iconst C dX9_laws_53 ?_
            refine h_iadd C dX9_laws_54 rfl ?_
            refine h_put C O9 16 kd_195 (by decide) rfl wd_1272 dX9_laws_55 rfl rfl (hp_fvI (by rw [kd_195]; rfl) hpu_at) ?_
            obtain ⟨τ12, e12⟩ : ∃ μ : hpMem, μ = hpw τ8 195 16 (r6 + 1) := ⟨_, rfl⟩
            rw [← e12]
            have hI12 : hpInv τ12 := by rw [e12]; exact hI8.w (bf_9_16 kd_195) (by omega) (by omega)
            have hF12 : ∀ j i : Nat, (j < 195 ∨ j = 198 ∨ 213 ≤ j) → τ12 j i = σ j i := fun j i h_0 => by rw [e12]; exact (hpw_fr (by omega)).trans (hF8 j i h_0)
            have hg13 : τ12 195 16 = r6 + 1 := by rw [e12]; exact hpw_eq
            refine h_goto (tgt := 19) C dX9_laws_58 (by decide) ?_
            have hy5_0 := hI12.b (bf_9_16 kd_195)
            exact hp_sub [1, 2, 3, 0] rfl (ih5 _ r11 (by omega) (by omega) hI12 hF12 ((hM5_0.fr (fun i => hG8 213 i (by omega) (by omega) (by omega) (by omega)) (fun i => hG8 215 i (by omega) (by omega) (by omega) (by omega)) (hG8 196 0 (by omega) (by omega) (by omega) (by omega))).fr (fun i => by rw [e12, hpw_fr (Or.inl (by decide))]) (fun i => by rw [e12, hpw_fr (Or.inl (by decide))]) (by rw [e12, hpw_fr (Or.inl (by decide))])) (by omega))
          · refine h_iconst C dX9_laws_36 ?_
            refine h_aload_n C dX9_laws_37 0 rfl rfl ?_
            refine h_get C O9 16 kd_195 (by decide) wd_1272 dX9_laws_38 (hp_fvI (by rw [kd_195]; rfl) rfl) ?_
            rw [hg9]
            refine h_ishl_b (mm := 3) (M := 8) C dX9_laws_41 (by omega) (by omega) (by decide +kernel) (fun r14 hr14a hr14b => ?_)
            refine h_goto (tgt := 46) C dX9_laws_42 (by decide) ?_
            refine h_ior_any C dX9_laws_46 (fun r15 hr15 => ?_)
            obtain ⟨hr15a, hr15b⟩ := hr15
            refine h_istore_n (lv' := [(3, .int (hpI r15)), (0, .ref (z + 195)), (1, .int (hpI a0)), (2, .int (hpI x1))]) C dX9_laws_47 rfl (by decide) rfl ?_
            refine h_aload_n C dX9_laws_48 1 rfl rfl ?_
            refine h_dup C rfl dX9_laws_49 ?_
            refine h_get C O9 16 kd_195 (by decide) wd_1272 dX9_laws_50 (hp_fvI (by rw [kd_195]; rfl) rfl) ?_
            rw [hg9]
            refine h_iconst C dX9_laws_53 ?_
            refine h_iadd C dX9_laws_54 rfl ?_
            refine h_put C O9 16 kd_195 (by decide) rfl wd_1272 dX9_laws_55 rfl rfl (hp_fvI (by rw [kd_195]; rfl) hpu_at) ?_
            obtain ⟨τ16, e16⟩ : ∃ μ : hpMem, μ = hpw τ8 195 16 (r6 + 1) := ⟨_, rfl⟩
            rw [← e16]
            have hI16 : hpInv τ16 := by rw [e16]; exact hI8.w (bf_9_16 kd_195) (by omega) (by omega)
            have hF16 : ∀ j i : Nat, (j < 195 ∨ j = 198 ∨ 213 ≤ j) → τ16 j i = σ j i := fun j i h_0 => by rw [e16]; exact (hpw_fr (by omega)).trans (hF8 j i h_0)
            have hg17 : τ16 195 16 = r6 + 1 := by rw [e16]; exact hpw_eq
            refine h_goto (tgt := 19) C dX9_laws_58 (by decide) ?_
            have hy5_0 := hI16.b (bf_9_16 kd_195)
            exact hp_sub [1, 2, 3, 0] rfl (ih5 _ r15 (by omega) (by omega) hI16 hF16 ((hM5_0.fr (fun i => hG8 213 i (by omega) (by omega) (by omega) (by omega)) (fun i => hG8 215 i (by omega) (by omega) (by omega) (by omega)) (hG8 196 0 (by omega) (by omega) (by omega) (by omega))).fr (fun i => by rw [e16, hpw_fr (Or.inl (by decide))]) (fun i => by rw [e16, hpw_fr (Or.inl (by decide))]) (by rw [e16, hpw_fr (Or.inl (by decide))])) (by omega))
    have hz5_0 := hI3.b (bf_9_16 kd_195)
    exact hp_sub [2, 3, 1, 0] rfl (L5 8589934592 _ 0 (by omega) (by omega) hI3 hF3 (((hq1_0 (by omega)).fr (fun i => hG1 213 i (by omega) (by omega) (by omega)) (fun i => hG1 215 i (by omega) (by omega) (by omega)) (hG1 196 0 (by omega) (by omega) (by omega))).fr (fun i => by rw [e3, hpw_fr (Or.inl (by decide))]) (fun i => by rw [e3, hpw_fr (Or.inl (by decide))]) (by rw [e3, hpw_fr (Or.inl (by decide))])) (by omega))
  · refine h_iload_n C dX9_laws_10 0 rfl rfl ?_
    refine h_ireturn C hr hlk dX9_laws_11 ?_
    exact ⟨⟨_, rfl, ⟨by omega, by omega⟩⟩, hI1, hF1⟩
abbrev rgX9_divisor : Room := { frames := 1, cells := 0, slots := 0, locals := 29 }
abbrev pgX9_divisor (z : Nat) (σ : hpMem) (a0 : Int) (a1 : Int) : Option Value → hpMem → Prop := fun r τ => (∃ x : Int, r = some (.long (hpJ x)) ∧ (hpRL x) ∧ (x ≠ 0)) ∧ σ = τ
set_option maxHeartbeats 4000000 in
set_option maxRecDepth 20000 in
theorem tgX9_divisor (l : Launch) (D : va_G) (cy : Nat → ClassId) (z : Nat) (σ : hpMem) (a0 : Int) (ha0 : hpRL a0) (a1 : Int) (ha1 : hpRL a1) (hI : hpInv σ) (hb0 : a1 ≠ 0) : hpM l D cy z yX9_divisor cX9_divisor 10 (some .long) rgX9_divisor [.long (hpJ a0), .long (hpJ a1)] σ (pgX9_divisor z σ a0 a1) := by
  obtain ⟨ha01, ha02⟩ := ha0
  obtain ⟨ha11, ha12⟩ := ha1
  refine hp_met rfl (Nat.le_of_ble_eq_true rfl) (fun p e s m below meth c C Z hr hlk => ?_)
  refine h_lload_n C dX9_divisor_0 0 rfl rfl ?_
  refine h_mabs C wd_1896 wd_1087 wd_1088 wd_15 dX9_divisor_1 (Nat.le_of_ble_eq_true rfl) (Nat.le_of_ble_eq_true rfl) ⟨Nat.le_of_ble_eq_true rfl, Nat.le_of_ble_eq_true rfl⟩ (fun r1 hr1 => ?_)
  obtain ⟨hr1a, hr1b⟩ := hr1
  refine h_lstore (lv' := [(4, .long (hpJ r1)), (0, .long (hpJ a0)), (2, .long (hpJ a1))]) C dX9_divisor_4 (by decide) rfl ?_
  refine h_lload_n C dX9_divisor_6 2 rfl rfl ?_
  refine h_lstore (lv' := [(6, .long (hpJ a1)), (4, .long (hpJ r1)), (0, .long (hpJ a0)), (2, .long (hpJ a1))]) C dX9_divisor_7 (by decide) rfl ?_
  have L2 : ∀ (n2 : Nat) (w2_4 : Int) (w2_6 : Int), -9223372036854775808 ≤ w2_4 → w2_4 ≤ 9223372036854775807 → -9223372036854775808 ≤ w2_6 → w2_6 ≤ 9223372036854775807 → (w2_4 ≠ 0 ∨ w2_6 ≠ 0) → ((w2_6.natAbs : Int)) < (n2 : Int) → hpF p l e rgX9_divisor s m [.long (hpJ a0), .long (hpJ a1)] below meth c 10 D cy z (pgX9_divisor z σ a0 a1) σ 9 [(0, .long (hpJ a0)), (2, .long (hpJ a1)), (4, .long (hpJ w2_4)), (6, .long (hpJ w2_6))] [] := by
    intro n2
    induction n2 with
    | zero => intro w2_4 w2_6 hv2_0 hv2_1 hv2_2 hv2_3 hv2_4 hm2; exfalso; omega
    | succ n2 ih2 =>
      intro w2_4 w2_6 hv2_0 hv2_1 hv2_2 hv2_3 hv2_4 hm2
      refine h_lload C dX9_divisor_9 3 rfl ?_
      refine h_lconst C 0 dX9_divisor_11 (by decide) ?_
      refine h_lcmp C dX9_divisor_12 ⟨by omega, by omega⟩ ⟨by decide, by decide⟩ (fun r3 hr3 => ?_)
      refine h_if_eq (tgt := 34) C dX9_divisor_13 (by decide) ⟨by omega, by omega⟩ (fun h4 => ?_) (fun h4 => ?_)
      · refine h_lload C dX9_divisor_34 2 rfl ?_
        refine h_lreturn C hr hlk dX9_divisor_36 ?_
        exact ⟨⟨_, rfl, ⟨by omega, by omega⟩, by omega⟩, rfl⟩
      · refine h_lload C dX9_divisor_16 2 rfl ?_
        refine h_lload C dX9_divisor_18 3 rfl ?_
        refine h_lremx C dX9_divisor_20 ⟨by omega, by omega⟩ ⟨by omega, by omega⟩ (by omega) (fun r5 hr5 hr5c => ?_)
        obtain ⟨hr5a, hr5b⟩ := hr5
        refine h_lstore (lv' := [(8, .long (hpJ r5)), (0, .long (hpJ a0)), (2, .long (hpJ a1)), (4, .long (hpJ w2_4)), (6, .long (hpJ w2_6))]) C dX9_divisor_21 (by decide) rfl ?_
        refine h_lload C dX9_divisor_23 4 rfl ?_
        refine h_lstore (lv' := [(4, .long (hpJ w2_6)), (8, .long (hpJ r5)), (0, .long (hpJ a0)), (2, .long (hpJ a1)), (6, .long (hpJ w2_6))]) C dX9_divisor_25 (by decide) rfl ?_
        refine h_lload C dX9_divisor_27 1 rfl ?_
        refine h_lstore (lv' := [(6, .long (hpJ r5)), (4, .long (hpJ w2_6)), (8, .long (hpJ r5)), (0, .long (hpJ a0)), (2, .long (hpJ a1))]) C dX9_divisor_29 (by decide) rfl ?_
        refine h_goto (tgt := 9) C dX9_divisor_31 (by decide) ?_
        exact hp_sub [3, 4, 1, 0] rfl (ih2 w2_6 r5 (by omega) (by omega) (by omega) (by omega) (by omega) (by omega))
  exact hp_sub [2, 3, 1, 0] rfl (L2 36893488147419103232 r1 a1 (by omega) (by omega) (by omega) (by omega) (by omega) (by omega))
abbrev rgX9_part : Room := { frames := 2, cells := 0, slots := 0, locals := 58 }
abbrev pgX9_part (z : Nat) (σ : hpMem) (a0 : Int) (a1 : Int) (a2 : Int) : Option Value → hpMem → Prop := fun r τ => (∃ x : Int, r = some (.long (hpJ x)) ∧ (hpRL x)) ∧ σ = τ
set_option maxHeartbeats 4000000 in
set_option maxRecDepth 20000 in
theorem tgX9_part (l : Launch) (D : va_G) (cy : Nat → ClassId) (z : Nat) (σ : hpMem) (a0 : Int) (ha0 : hpRL a0) (a1 : Int) (ha1 : hpRL a1) (a2 : Int) (ha2 : hpR a2) (hI : hpInv σ) (hb0 : a1 ≠ 0) : hpM l D cy z yX9_part cX9_part 5 (some .long) rgX9_part [.long (hpJ a0), .long (hpJ a1), .int (hpI a2)] σ (pgX9_part z σ a0 a1 a2) := by
  obtain ⟨ha01, ha02⟩ := ha0
  obtain ⟨ha11, ha12⟩ := ha1
  obtain ⟨ha21, ha22⟩ := ha2
  refine hp_met rfl (Nat.le_of_ble_eq_true rfl) (fun p e s m below meth c C Z hr hlk => ?_)
  refine h_iload C dX9_part_0 2 rfl ?_
  refine h_if_ne (tgt := 9) C dX9_part_2 (by decide) ⟨by omega, by omega⟩ (fun h1 => ?_) (fun h1 => ?_)
  · refine h_lload_n C dX9_part_9 1 rfl rfl ?_
    refine h_lload_n C dX9_part_10 0 rfl rfl ?_
    refine h_lload_n C dX9_part_11 1 rfl rfl ?_
    refine h_callS (As := [.long (hpJ a0), .long (hpJ a1)]) (rest := [.long (hpJ a1)]) C Z yyX9_divisor rfl wd_1893 (tgX9_divisor l D cy z _ a0 ⟨by omega, by omega⟩ a1 ⟨by omega, by omega⟩ hI (by omega)) rfl rfl ⟨rfl, rfl, Nat.le_of_ble_eq_true rfl, Nat.le_of_ble_eq_true rfl⟩ ⟨Nat.le_of_ble_eq_true rfl, Nat.le_of_ble_eq_true rfl⟩ (Nat.le_of_ble_eq_true rfl) dX9_part_12 (fun r2 τ2 hp2 => ?_)
    obtain ⟨⟨x2, rfl, ⟨hx2a, hx2b⟩, hx2⟩, rfl⟩ := hp2
    show hpV _ _ _ _ _ _ _ _ _ _ _ _ _ _ _ _ _ _ _ _ _ (_ :: _)
    refine h_ldiv_any C dX9_part_15 ⟨by omega, by omega⟩ (by omega) (fun _ => ?_)
    refine hp_anyL (fun r3 hr3 => ?_)
    obtain ⟨hr3a, hr3b⟩ := hr3
    refine h_lreturn C hr hlk dX9_part_16 ?_
    exact ⟨⟨_, rfl, ⟨by omega, by omega⟩⟩, rfl⟩
  · refine h_lload_n C dX9_part_5 0 rfl rfl ?_
    refine h_goto (tgt := 10) C dX9_part_6 (by decide) ?_
    refine h_lload_n C dX9_part_10 0 rfl rfl ?_
    refine h_lload_n C dX9_part_11 1 rfl rfl ?_
    refine h_callS (As := [.long (hpJ a0), .long (hpJ a1)]) (rest := [.long (hpJ a0)]) C Z yyX9_divisor rfl wd_1893 (tgX9_divisor l D cy z _ a0 ⟨by omega, by omega⟩ a1 ⟨by omega, by omega⟩ hI (by omega)) rfl rfl ⟨rfl, rfl, Nat.le_of_ble_eq_true rfl, Nat.le_of_ble_eq_true rfl⟩ ⟨Nat.le_of_ble_eq_true rfl, Nat.le_of_ble_eq_true rfl⟩ (Nat.le_of_ble_eq_true rfl) dX9_part_12 (fun r4 τ4 hp4 => ?_)
    obtain ⟨⟨x4, rfl, ⟨hx4a, hx4b⟩, hx4⟩, rfl⟩ := hp4
    show hpV _ _ _ _ _ _ _ _ _ _ _ _ _ _ _ _ _ _ _ _ _ (_ :: _)
    refine h_ldiv_any C dX9_part_15 ⟨by omega, by omega⟩ (by omega) (fun _ => ?_)
    refine hp_anyL (fun r5 hr5 => ?_)
    obtain ⟨hr5a, hr5b⟩ := hr5
    refine h_lreturn C hr hlk dX9_part_16 ?_
    exact ⟨⟨_, rfl, ⟨by omega, by omega⟩⟩, rfl⟩
abbrev rgX9_factorial : Room := { frames := 0, cells := 0, slots := 0, locals := 0 }
abbrev pgX9_factorial (z : Nat) (σ : hpMem) (a0 : Int) : Option Value → hpMem → Prop := fun r τ => (∃ x : Int, r = some (.int (hpI x)) ∧ (hpR x)) ∧ σ = τ
set_option maxHeartbeats 4000000 in
set_option maxRecDepth 20000 in
theorem tgX9_factorial (l : Launch) (D : va_G) (cy : Nat → ClassId) (z : Nat) (σ : hpMem) (a0 : Int) (ha0 : hpR a0) (hI : hpInv σ) (hn0 : a0 ≤ 1000) : hpM l D cy z yX9_factorial cX9_factorial 3 (some .int) rgX9_factorial [.int (hpI a0)] σ (pgX9_factorial z σ a0) := by
  obtain ⟨ha01, ha02⟩ := ha0
  refine hp_met rfl (Nat.le_of_ble_eq_true rfl) (fun p e s m below meth c C Z hr hlk => ?_)
  refine h_iconst C dX9_factorial_0 ?_
  refine h_istore_n (lv' := [(1, .int (hpI 1)), (0, .int (hpI a0))]) C dX9_factorial_1 rfl (by decide) rfl ?_
  refine h_iconst C dX9_factorial_2 ?_
  refine h_istore_n (lv' := [(2, .int (hpI 2)), (1, .int (hpI 1)), (0, .int (hpI a0))]) C dX9_factorial_3 rfl (by decide) rfl ?_
  have L1 : ∀ (n1 : Nat) (w1_1 : Int) (w1_2 : Int), -2147483648 ≤ w1_1 → w1_1 ≤ 2147483647 → 2 ≤ w1_2 → w1_2 ≤ 2147483647 → (4294967296 - w1_2) < (n1 : Int) → hpF p l e rgX9_factorial s m [.int (hpI a0)] below meth c 3 D cy z (pgX9_factorial z σ a0) σ 4 [(0, .int (hpI a0)), (1, .int (hpI w1_1)), (2, .int (hpI w1_2))] [] := by
    intro n1
    induction n1 with
    | zero => intro w1_1 w1_2 hv1_0 hv1_1 hv1_2 hv1_3 hm1; exfalso; omega
    | succ n1 ih1 =>
      intro w1_1 w1_2 hv1_0 hv1_1 hv1_2 hv1_3 hm1
      refine h_iload_n C dX9_factorial_4 2 rfl rfl ?_
      refine h_iload_n C dX9_factorial_5 0 rfl rfl ?_
      refine h_icmp_gt (tgt := 19) C dX9_factorial_6 (by decide) ⟨by omega, by omega⟩ ⟨by omega, by omega⟩ (fun h2 => ?_) (fun h2 => ?_)
      · refine h_iload_n C dX9_factorial_19 1 rfl rfl ?_
        refine h_ireturn C hr hlk dX9_factorial_20 ?_
        exact ⟨⟨_, rfl, ⟨by omega, by omega⟩⟩, rfl⟩
      · refine h_iload_n C dX9_factorial_9 1 rfl rfl ?_
        refine h_iload_n C dX9_factorial_10 2 rfl rfl ?_
        refine h_imul C dX9_factorial_11 rfl ?_
        refine hp_anyI (fun r3 hr3 => ?_)
        obtain ⟨hr3a, hr3b⟩ := hr3
        refine h_istore_n (lv' := [(1, .int (hpI r3)), (0, .int (hpI a0)), (2, .int (hpI w1_2))]) C dX9_factorial_12 rfl (by decide) rfl ?_
        refine h_iinc (lv' := [(2, .int (hpI (w1_2 + 1))), (1, .int (hpI r3)), (0, .int (hpI a0))]) C dX9_factorial_13 2 rfl rfl (by decide) rfl ?_
        refine h_goto (tgt := 4) C dX9_factorial_16 (by decide) ?_
        exact hp_sub [2, 1, 0] rfl (ih1 r3 (w1_2 + 1) (by omega) (by omega) (by omega) (by omega) (by omega))
  exact hp_sub [2, 1, 0] rfl (L1 8589934592 1 2 (by omega) (by omega) (by omega) (by omega) (by omega))
abbrev rgX9_factorial_s : Room := { frames := 0, cells := 0, slots := 0, locals := 0 }
abbrev pgX9_factorial_s (z : Nat) (σ : hpMem) (a0 : Int) : Option Value → hpMem → Prop := fun r τ => (∃ x : Int, r = some (.int (hpI x)) ∧ (hpR x) ∧ (1 ≤ x)) ∧ σ = τ
set_option maxHeartbeats 4000000 in
set_option maxRecDepth 20000 in
theorem tgX9_factorial_s (l : Launch) (D : va_G) (cy : Nat → ClassId) (z : Nat) (σ : hpMem) (a0 : Int) (ha0 : hpR a0) (hI : hpInv σ) (hn0 : a0 ≤ 6) : hpM l D cy z yX9_factorial cX9_factorial 3 (some .int) rgX9_factorial_s [.int (hpI a0)] σ (pgX9_factorial_s z σ a0) := by
  obtain ⟨ha01, ha02⟩ := ha0
  refine hp_met rfl (Nat.le_of_ble_eq_true rfl) (fun p e s m below meth c C Z hr hlk => ?_)
  refine h_iconst C dX9_factorial_0 ?_
  refine h_istore_n (lv' := [(1, .int (hpI 1)), (0, .int (hpI a0))]) C dX9_factorial_1 rfl (by decide) rfl ?_
  refine h_iconst C dX9_factorial_2 ?_
  refine h_istore_n (lv' := [(2, .int (hpI 2)), (1, .int (hpI 1)), (0, .int (hpI a0))]) C dX9_factorial_3 rfl (by decide) rfl ?_
  have L1 : ∀ (n1 : Nat) (w1_1 : Int) (w1_2 : Int), 1 ≤ w1_1 → w1_1 ≤ 720 → 2 ≤ w1_2 → w1_2 ≤ 7 → ((w1_1 = 1 ∧ w1_2 = 2) ∨ (w1_1 = 2 ∧ w1_2 = 3) ∨ (w1_1 = 6 ∧ w1_2 = 4) ∨ (w1_1 = 24 ∧ w1_2 = 5) ∨ (w1_1 = 120 ∧ w1_2 = 6) ∨ (w1_1 = 720 ∧ w1_2 = 7)) → (4294967296 - w1_2) < (n1 : Int) → hpF p l e rgX9_factorial_s s m [.int (hpI a0)] below meth c 3 D cy z (pgX9_factorial_s z σ a0) σ 4 [(0, .int (hpI a0)), (1, .int (hpI w1_1)), (2, .int (hpI w1_2))] [] := by
    intro n1
    induction n1 with
    | zero => intro w1_1 w1_2 hv1_0 hv1_1 hv1_2 hv1_3 hv1_4 hm1; exfalso; omega
    | succ n1 ih1 =>
      intro w1_1 w1_2 hv1_0 hv1_1 hv1_2 hv1_3 hv1_4 hm1
      refine h_iload_n C dX9_factorial_4 2 rfl rfl ?_
      refine h_iload_n C dX9_factorial_5 0 rfl rfl ?_
      refine h_icmp_gt (tgt := 19) C dX9_factorial_6 (by decide) ⟨by omega, by omega⟩ ⟨by omega, by omega⟩ (fun h2 => ?_) (fun h2 => ?_)
      · refine h_iload_n C dX9_factorial_19 1 rfl rfl ?_
        refine h_ireturn C hr hlk dX9_factorial_20 ?_
        exact ⟨⟨_, rfl, ⟨by omega, by omega⟩, by omega⟩, rfl⟩
      · refine h_iload_n C dX9_factorial_9 1 rfl rfl ?_
        refine h_iload_n C dX9_factorial_10 2 rfl rfl ?_
        refine h_imul C dX9_factorial_11 rfl ?_
        have hmu := hpFs w1_1 w1_2 (by omega)
        refine h_istore_n (lv' := [(1, .int (hpI (w1_1 * w1_2))), (0, .int (hpI a0)), (2, .int (hpI w1_2))]) C dX9_factorial_12 rfl (by decide) rfl ?_
        refine h_iinc (lv' := [(2, .int (hpI (w1_2 + 1))), (1, .int (hpI (w1_1 * w1_2))), (0, .int (hpI a0))]) C dX9_factorial_13 2 rfl rfl (by decide) rfl ?_
        refine h_goto (tgt := 4) C dX9_factorial_16 (by decide) ?_
        exact hp_sub [2, 1, 0] rfl (ih1 (w1_1 * w1_2) (w1_2 + 1) (by omega) (by omega) (by omega) (by omega) (by omega) (by omega))
  exact hp_sub [2, 1, 0] rfl (L1 8589934592 1 2 (by omega) (by omega) (by omega) (by omega) (by omega) (by omega))
abbrev rgX9_share : Room := { frames := 5, cells := 0, slots := 0, locals := 111 }
abbrev pgX9_share (z : Nat) (σ : hpMem) (a0 : Int) (a1 : Int) : Option Value → hpMem → Prop := fun r τ => (∃ x : Int, r = some (.int (hpI x)) ∧ (hpR x)) ∧ hpInv τ ∧ (∀ j i : Nat, (j < 195 ∨ j = 198 ∨ 213 ≤ j) → τ j i = σ j i)
set_option maxHeartbeats 4000000 in
set_option maxRecDepth 20000 in
theorem tgX9_share (l : Launch) (D : va_G) (cy : Nat → ClassId) (z : Nat) (σ : hpMem) (a0 : Int) (ha0 : hpR a0) (a1 : Int) (ha1 : hpR a1) (hI : hpInv σ) : hpM l D cy z yX9_share cX9_share 7 (some .int) rgX9_share [.ref (z + 195), .int (hpI a0), .int (hpI a1)] σ (pgX9_share z σ a0 a1) := by
  obtain ⟨ha01, ha02⟩ := ha0
  obtain ⟨ha11, ha12⟩ := ha1
  refine hp_met rfl (Nat.le_of_ble_eq_true rfl) (fun p e s m below meth c C Z hr hlk => ?_)
  have hF0 : ∀ j i : Nat, (j < 195 ∨ j = 198 ∨ 213 ≤ j) → σ j i = σ j i := fun j i _ => rfl
  refine h_aload_n C dX9_share_0 0 rfl rfl ?_
  refine h_callV (As := []) (rest := []) C Z yyX9_asItIs wd_1520 (tgX9_asItIs l D cy z _ hI) kd_195 rfl rfl ⟨rfl, rfl, Nat.le_of_ble_eq_true rfl, Nat.le_of_ble_eq_true rfl⟩ ⟨Nat.le_of_ble_eq_true rfl, Nat.le_of_ble_eq_true rfl⟩ (Nat.le_of_ble_eq_true rfl) dX9_share_1 (fun r1 τ1 hp1 => ?_)
  obtain ⟨rfl, hI1, hG1⟩ := hp1
  have hF1 : ∀ j i : Nat, (j < 195 ∨ j = 198 ∨ 213 ≤ j) → τ1 j i = σ j i := fun j i h_0 => (hG1 j i (by omega) (by omega) (by omega)).trans (hF0 j i h_0)
  show hpV _ _ _ _ _ _ _ _ _ _ _ _ _ _ _ _ _ _ _ _ _ []
  refine h_aload_n C dX9_share_4 0 rfl rfl ?_
  refine h_iload_n C dX9_share_5 1 rfl rfl ?_
  refine h_callV (As := [.int (hpI a0)]) (rest := []) C Z yyX9_isCart wd_1500 (tgX9_isCart l D cy z _ a0 ⟨by omega, by omega⟩ hI1) kd_195 rfl rfl ⟨rfl, rfl, Nat.le_of_ble_eq_true rfl, Nat.le_of_ble_eq_true rfl⟩ ⟨Nat.le_of_ble_eq_true rfl, Nat.le_of_ble_eq_true rfl⟩ (Nat.le_of_ble_eq_true rfl) dX9_share_6 (fun r2 τ2 hp2 => ?_)
  obtain ⟨⟨x2, rfl, ⟨hx2a, hx2b⟩, hx2⟩, rfl⟩ := hp2
  show hpV _ _ _ _ _ _ _ _ _ _ _ _ _ _ _ _ _ _ _ _ _ (_ :: _)
  refine h_if_eq (tgt := 22) C dX9_share_9 (by decide) ⟨by omega, by omega⟩ (fun h3 => ?_) (fun h3 => ?_)
  · refine h_sipush C dX9_share_22 (by decide) ?_
    refine h_ireturn C hr hlk dX9_share_25 ?_
    exact ⟨⟨_, rfl, ⟨by decide, by decide⟩⟩, hI1, hF1⟩
  · refine h_iload_n C dX9_share_12 2 rfl rfl ?_
    refine h_i2l C dX9_share_13 ⟨by omega, by omega⟩ ?_
    refine h_lconst C 0 dX9_share_14 (by decide) ?_
    refine h_lconst C 1 dX9_share_15 (by decide) ?_
    refine h_callS (As := [.long (hpJ a1), .long (hpJ 0), .long (hpJ 1)]) (rest := []) C Z yyX9_in rfl wd_1401 (tgX9_in l D cy z _ a1 ⟨by omega, by omega⟩ 0 ⟨by decide, by decide⟩ 1 ⟨by decide, by decide⟩ hI1) rfl rfl ⟨rfl, rfl, Nat.le_of_ble_eq_true rfl, Nat.le_of_ble_eq_true rfl⟩ ⟨Nat.le_of_ble_eq_true rfl, Nat.le_of_ble_eq_true rfl⟩ (Nat.le_of_ble_eq_true rfl) dX9_share_16 (fun r4 τ4 hp4 => ?_)
    obtain ⟨⟨x4, rfl, ⟨hx4a, hx4b⟩, hx4⟩, rfl⟩ := hp4
    show hpV _ _ _ _ _ _ _ _ _ _ _ _ _ _ _ _ _ _ _ _ _ (_ :: _)
    refine h_if_ne (tgt := 26) C dX9_share_19 (by decide) ⟨by omega, by omega⟩ (fun h5 => ?_) (fun h5 => ?_)
    · refine h_aload_n C dX9_share_26 0 rfl rfl ?_
      refine h_callV (As := []) (rest := []) C Z yyX9_cartMany wd_1504 (tgX9_cartMany l D cy z _ hI1) kd_195 rfl rfl ⟨rfl, rfl, Nat.le_of_ble_eq_true rfl, Nat.le_of_ble_eq_true rfl⟩ ⟨Nat.le_of_ble_eq_true rfl, Nat.le_of_ble_eq_true rfl⟩ (Nat.le_of_ble_eq_true rfl) dX9_share_27 (fun r6 τ6 hp6 => ?_)
      obtain ⟨⟨x6, rfl, ⟨hx6a, hx6b⟩, hx6⟩, rfl⟩ := hp6
      show hpV _ _ _ _ _ _ _ _ _ _ _ _ _ _ _ _ _ _ _ _ _ (_ :: _)
      refine h_istore_n (lv' := [(3, .int (hpI x6)), (0, .ref (z + 195)), (1, .int (hpI a0)), (2, .int (hpI a1))]) C dX9_share_30 rfl (by decide) rfl ?_
      refine h_iconst C dX9_share_31 ?_
      refine h_istore (lv' := [(4, .int (hpI 0)), (3, .int (hpI x6)), (0, .ref (z + 195)), (1, .int (hpI a0)), (2, .int (hpI a1))]) C dX9_share_32 (by decide) rfl ?_
      have L7 : ∀ (n7 : Nat) (τ7 : hpMem) (w7_4 : Int), 0 ≤ w7_4 → w7_4 ≤ 2147483647 → hpInv τ7 → (∀ j i : Nat, (j < 195 ∨ j = 198 ∨ 213 ≤ j) → τ7 j i = σ j i) → (4294967296 - w7_4) < (n7 : Int) → hpF p l e rgX9_share s m [.ref (z + 195), .int (hpI a0), .int (hpI a1)] below meth c 7 D cy z (pgX9_share z σ a0 a1) τ7 34 [(0, .ref (z + 195)), (1, .int (hpI a0)), (2, .int (hpI a1)), (3, .int (hpI x6)), (4, .int (hpI w7_4))] [] := by
        intro n7
        induction n7 with
        | zero => intro τ7 w7_4 hv7_0 hv7_1 hI7 hF7 hm7; exfalso; omega
        | succ n7 ih7 =>
          intro τ7 w7_4 hv7_0 hv7_1 hI7 hF7 hm7
          refine h_iload C dX9_share_34 4 rfl ?_
          refine h_iconst C dX9_share_36 ?_
          refine h_iload_n C dX9_share_37 3 rfl rfl ?_
          refine h_ishl_b (mm := 6) (M := 64) C dX9_share_38 (by omega) (by omega) (by decide +kernel) (fun r8 hr8a hr8b => ?_)
          refine h_icmp_ge (tgt := 61) C dX9_share_39 (by decide) ⟨by omega, by omega⟩ ⟨by omega, by omega⟩ (fun h9 => ?_) (fun h9 => ?_)
          · refine h_lconst C 0 dX9_share_61 (by decide) ?_
            refine h_lstore (lv' := [(4, .long (hpJ 0)), (0, .ref (z + 195)), (1, .int (hpI a0)), (2, .int (hpI a1)), (3, .int (hpI x6))]) C dX9_share_62 (by decide) rfl ?_
            refine h_iconst C dX9_share_64 ?_
            refine h_istore (lv' := [(6, .int (hpI 0)), (4, .long (hpJ 0)), (0, .ref (z + 195)), (1, .int (hpI a0)), (2, .int (hpI a1)), (3, .int (hpI x6))]) C dX9_share_65 (by decide) rfl ?_
            have L10 : ∀ (n10 : Nat) (w10_4 : Int) (w10_6 : Int), -9223372036854775808 ≤ w10_4 → w10_4 ≤ 9223372036854775807 → 0 ≤ w10_6 → w10_6 ≤ 2147483647 → (4294967296 - w10_6) < (n10 : Int) → hpF p l e rgX9_share s m [.ref (z + 195), .int (hpI a0), .int (hpI a1)] below meth c 7 D cy z (pgX9_share z σ a0 a1) τ7 67 [(0, .ref (z + 195)), (1, .int (hpI a0)), (2, .int (hpI a1)), (3, .int (hpI x6)), (4, .long (hpJ w10_4)), (6, .int (hpI w10_6))] [] := by
              intro n10
              induction n10 with
              | zero => intro w10_4 w10_6 hv10_0 hv10_1 hv10_2 hv10_3 hm10; exfalso; omega
              | succ n10 ih10 =>
                intro w10_4 w10_6 hv10_0 hv10_1 hv10_2 hv10_3 hm10
                refine h_iload C dX9_share_67 5 rfl ?_
                refine h_iconst C dX9_share_69 ?_
                refine h_iload_n C dX9_share_70 3 rfl rfl ?_
                refine h_ishl_b (mm := 6) (M := 64) C dX9_share_71 (by omega) (by omega) (by decide +kernel) (fun r11 hr11a hr11b => ?_)
                refine h_icmp_ge (tgt := 139) C dX9_share_72 (by decide) ⟨by omega, by omega⟩ ⟨by omega, by omega⟩ (fun h12 => ?_) (fun h12 => ?_)
                · refine h_lload C dX9_share_139 4 rfl ?_
                  refine h_iload_n C dX9_share_141 3 rfl rfl ?_
                  refine h_callS (As := [.int (hpI x6)]) (rest := [.long (hpJ w10_4)]) C Z yyX9_factorial rfl wd_1887 (tgX9_factorial_s l D cy z _ x6 ⟨by omega, by omega⟩ hI7 (by omega)) rfl rfl ⟨rfl, rfl, Nat.le_of_ble_eq_true rfl, Nat.le_of_ble_eq_true rfl⟩ ⟨Nat.le_of_ble_eq_true rfl, Nat.le_of_ble_eq_true rfl⟩ (Nat.le_of_ble_eq_true rfl) dX9_share_142 (fun r13 τ13 hp13 => ?_)
                  obtain ⟨⟨x13, rfl, ⟨hx13a, hx13b⟩, hx13⟩, rfl⟩ := hp13
                  show hpV _ _ _ _ _ _ _ _ _ _ _ _ _ _ _ _ _ _ _ _ _ (_ :: _)
                  refine h_i2l C dX9_share_145 ⟨by omega, by omega⟩ ?_
                  refine h_iload_n C dX9_share_146 2 rfl rfl ?_
                  refine h_callS (As := [.long (hpJ w10_4), .long (hpJ x13), .int (hpI a1)]) (rest := []) C Z yyX9_part rfl wd_1890 (tgX9_part l D cy z _ w10_4 ⟨by omega, by omega⟩ x13 ⟨by omega, by omega⟩ a1 ⟨by omega, by omega⟩ hI7 (by omega)) rfl rfl ⟨rfl, rfl, Nat.le_of_ble_eq_true rfl, Nat.le_of_ble_eq_true rfl⟩ ⟨Nat.le_of_ble_eq_true rfl, Nat.le_of_ble_eq_true rfl⟩ (Nat.le_of_ble_eq_true rfl) dX9_share_147 (fun r14 τ14 hp14 => ?_)
                  obtain ⟨⟨x14, rfl, ⟨hx14a, hx14b⟩⟩, rfl⟩ := hp14
                  show hpV _ _ _ _ _ _ _ _ _ _ _ _ _ _ _ _ _ _ _ _ _ (_ :: _)
                  refine h_l2i C dX9_share_150 ?_
                  refine hp_anyI (fun r15 hr15 => ?_)
                  obtain ⟨hr15a, hr15b⟩ := hr15
                  refine h_ireturn C hr hlk dX9_share_151 ?_
                  exact ⟨⟨_, rfl, ⟨by omega, by omega⟩⟩, hI7, hF7⟩
                · refine h_iload C dX9_share_75 5 rfl ?_
                  refine h_iload_n C dX9_share_77 1 rfl rfl ?_
                  refine h_callS (As := [.int (hpI w10_6), .int (hpI a0)]) (rest := []) C Z yyX9_bit rfl wd_1552 (tgX9_bit l D cy z _ w10_6 ⟨by omega, by omega⟩ a0 ⟨by omega, by omega⟩ hI7) rfl rfl ⟨rfl, rfl, Nat.le_of_ble_eq_true rfl, Nat.le_of_ble_eq_true rfl⟩ ⟨Nat.le_of_ble_eq_true rfl, Nat.le_of_ble_eq_true rfl⟩ (Nat.le_of_ble_eq_true rfl) dX9_share_78 (fun r16 τ16 hp16 => ?_)
                  obtain ⟨⟨x16, rfl, ⟨hx16a, hx16b⟩, hx16⟩, rfl⟩ := hp16
                  show hpV _ _ _ _ _ _ _ _ _ _ _ _ _ _ _ _ _ _ _ _ _ (_ :: _)
                  refine h_if_ne (tgt := 133) C dX9_share_81 (by decide) ⟨by omega, by omega⟩ (fun h17 => ?_) (fun h17 => ?_)
                  · refine h_iinc (lv' := [(6, .int (hpI (w10_6 + 1))), (0, .ref (z + 195)), (1, .int (hpI a0)), (2, .int (hpI a1)), (3, .int (hpI x6)), (4, .long (hpJ w10_4))]) C dX9_share_133 5 rfl rfl (by decide) rfl ?_
                    refine h_goto (tgt := 67) C dX9_share_136 (by decide) ?_
                    exact hp_sub [1, 2, 3, 4, 5, 0] rfl (ih10 w10_4 (w10_6 + 1) (by omega) (by omega) (by omega) (by omega) (by omega))
                  · refine h_lload C dX9_share_84 4 rfl ?_
                    refine h_iload C dX9_share_86 5 rfl ?_
                    refine h_callS (As := [.int (hpI w10_6)]) (rest := [.long (hpJ w10_4)]) C Z yyX9_bits rfl wd_1884 (tgX9_bits l D cy z _ w10_6 ⟨by omega, by omega⟩ hI7) rfl rfl ⟨rfl, rfl, Nat.le_of_ble_eq_true rfl, Nat.le_of_ble_eq_true rfl⟩ ⟨Nat.le_of_ble_eq_true rfl, Nat.le_of_ble_eq_true rfl⟩ (Nat.le_of_ble_eq_true rfl) dX9_share_88 (fun r18 τ18 hp18 => ?_)
                    obtain ⟨⟨x18, rfl, ⟨hx18a, hx18b⟩, hx18⟩, rfl⟩ := hp18
                    show hpV _ _ _ _ _ _ _ _ _ _ _ _ _ _ _ _ _ _ _ _ _ (_ :: _)
                    refine h_callS (As := [.int (hpI x18)]) (rest := [.long (hpJ w10_4)]) C Z yyX9_factorial rfl wd_1887 (tgX9_factorial l D cy z _ x18 ⟨by omega, by omega⟩ hI7 (by omega)) rfl rfl ⟨rfl, rfl, Nat.le_of_ble_eq_true rfl, Nat.le_of_ble_eq_true rfl⟩ ⟨Nat.le_of_ble_eq_true rfl, Nat.le_of_ble_eq_true rfl⟩ (Nat.le_of_ble_eq_true rfl) dX9_share_91 (fun r19 τ19 hp19 => ?_)
                    obtain ⟨⟨x19, rfl, ⟨hx19a, hx19b⟩⟩, rfl⟩ := hp19
                    show hpV _ _ _ _ _ _ _ _ _ _ _ _ _ _ _ _ _ _ _ _ _ (_ :: _)
                    refine h_i2l C dX9_share_94 ⟨by omega, by omega⟩ ?_
                    refine h_iload_n C dX9_share_95 3 rfl rfl ?_
                    refine h_iconst C dX9_share_96 ?_
                    refine h_isub C dX9_share_97 rfl ?_
                    refine h_iload C dX9_share_98 5 rfl ?_
                    refine h_callS (As := [.int (hpI w10_6)]) (rest := [.int (hpI (x6 - 1)), .long (hpJ x19), .long (hpJ w10_4)]) C Z yyX9_bits rfl wd_1884 (tgX9_bits l D cy z _ w10_6 ⟨by omega, by omega⟩ hI7) rfl rfl ⟨rfl, rfl, Nat.le_of_ble_eq_true rfl, Nat.le_of_ble_eq_true rfl⟩ ⟨Nat.le_of_ble_eq_true rfl, Nat.le_of_ble_eq_true rfl⟩ (Nat.le_of_ble_eq_true rfl) dX9_share_100 (fun r20 τ20 hp20 => ?_)
                    obtain ⟨⟨x20, rfl, ⟨hx20a, hx20b⟩, hx20⟩, rfl⟩ := hp20
                    show hpV _ _ _ _ _ _ _ _ _ _ _ _ _ _ _ _ _ _ _ _ _ (_ :: _)
                    refine h_isub C dX9_share_103 rfl ?_
                    refine h_callS (As := [.int (hpI ((x6 - 1) - x20))]) (rest := [.long (hpJ x19), .long (hpJ w10_4)]) C Z yyX9_factorial rfl wd_1887 (tgX9_factorial l D cy z _ ((x6 - 1) - x20) ⟨by omega, by omega⟩ hI7 (by omega)) rfl rfl ⟨rfl, rfl, Nat.le_of_ble_eq_true rfl, Nat.le_of_ble_eq_true rfl⟩ ⟨Nat.le_of_ble_eq_true rfl, Nat.le_of_ble_eq_true rfl⟩ (Nat.le_of_ble_eq_true rfl) dX9_share_104 (fun r21 τ21 hp21 => ?_)
                    obtain ⟨⟨x21, rfl, ⟨hx21a, hx21b⟩⟩, rfl⟩ := hp21
                    show hpV _ _ _ _ _ _ _ _ _ _ _ _ _ _ _ _ _ _ _ _ _ (_ :: _)
                    refine h_i2l C dX9_share_107 ⟨by omega, by omega⟩ ?_
                    refine h_lmul C dX9_share_108 rfl ?_
                    refine hp_anyL (fun r22 hr22 => ?_)
                    obtain ⟨hr22a, hr22b⟩ := hr22
                    refine h_aload_n C dX9_share_109 0 rfl rfl ?_
                    refine h_get C O9 38 kd_195 (by decide) wd_1294 dX9_share_110 fr_195_38 ?_
                    refine h_iload C dX9_share_113 5 rfl ?_
                    refine h_iconst C dX9_share_115 ?_
                    refine h_iload_n C dX9_share_116 1 rfl rfl ?_
                    refine h_ishl_b (mm := 5) (M := 32) C dX9_share_117 (by omega) (by omega) (by decide +kernel) (fun r23 hr23a hr23b => ?_)
                    refine h_ior_b 6 C dX9_share_118 (by decide) ⟨by omega, by omega⟩ ⟨by omega, by omega⟩ (fun r24 hr24a hr24b => ?_)
                    refine h_iaload C dX9_share_119 kd_212 (r24).toNat (Int.toNat_of_nonneg (by omega)) (by rw [ln_212]; omega) rfl ?_
                    obtain ⟨hr25a, hr25b⟩ := hI7.b (bo_212 _)
                    generalize hg25 : τ7 212 ((r24).toNat) = r25 at hr25a hr25b ⊢
                    refine h_aload_n C dX9_share_120 0 rfl rfl ?_
                    refine h_get C O9 38 kd_195 (by decide) wd_1294 dX9_share_121 fr_195_38 ?_
                    refine h_iload C dX9_share_124 5 rfl ?_
                    refine h_iaload C dX9_share_126 kd_212 (w10_6).toNat (Int.toNat_of_nonneg (by omega)) (by rw [ln_212]; omega) rfl ?_
                    obtain ⟨hr26a, hr26b⟩ := hI7.b (bo_212 _)
                    generalize hg26 : τ7 212 ((w10_6).toNat) = r26 at hr26a hr26b ⊢
                    refine h_isub C dX9_share_127 rfl ?_
                    refine hp_anyI (fun r27 hr27 => ?_)
                    obtain ⟨hr27a, hr27b⟩ := hr27
                    refine h_i2l C dX9_share_128 ⟨by omega, by omega⟩ ?_
                    refine h_lmul C dX9_share_129 rfl ?_
                    refine hp_anyL (fun r28 hr28 => ?_)
                    obtain ⟨hr28a, hr28b⟩ := hr28
                    refine h_ladd C dX9_share_130 rfl ?_
                    refine hp_anyL (fun r29 hr29 => ?_)
                    obtain ⟨hr29a, hr29b⟩ := hr29
                    refine h_lstore (lv' := [(4, .long (hpJ r29)), (0, .ref (z + 195)), (1, .int (hpI a0)), (2, .int (hpI a1)), (3, .int (hpI x6)), (6, .int (hpI w10_6))]) C dX9_share_131 (by decide) rfl ?_
                    refine h_iinc (lv' := [(6, .int (hpI (w10_6 + 1))), (4, .long (hpJ r29)), (0, .ref (z + 195)), (1, .int (hpI a0)), (2, .int (hpI a1)), (3, .int (hpI x6))]) C dX9_share_133 5 rfl rfl (by decide) rfl ?_
                    refine h_goto (tgt := 67) C dX9_share_136 (by decide) ?_
                    exact hp_sub [2, 3, 4, 5, 1, 0] rfl (ih10 r29 (w10_6 + 1) (by omega) (by omega) (by omega) (by omega) (by omega))
            exact hp_sub [2, 3, 4, 5, 1, 0] rfl (L10 8589934592 0 0 (by omega) (by omega) (by omega) (by omega) (by omega))
          · refine h_aload_n C dX9_share_42 0 rfl rfl ?_
            refine h_get C O9 38 kd_195 (by decide) wd_1294 dX9_share_43 fr_195_38 ?_
            refine h_iload C dX9_share_46 4 rfl ?_
            refine h_aload_n C dX9_share_48 0 rfl rfl ?_
            refine h_iload C dX9_share_49 4 rfl ?_
            refine h_callV (As := [.int (hpI w7_4)]) (rest := [.int (hpI w7_4), .ref (z + 212)]) C Z yyX9_worthOf wd_1876 (tgX9_worthOf l D cy z _ w7_4 ⟨by omega, by omega⟩ hI7) kd_195 rfl rfl ⟨rfl, rfl, Nat.le_of_ble_eq_true rfl, Nat.le_of_ble_eq_true rfl⟩ ⟨Nat.le_of_ble_eq_true rfl, Nat.le_of_ble_eq_true rfl⟩ (Nat.le_of_ble_eq_true rfl) dX9_share_51 (fun r30 τ30 hp30 => ?_)
            obtain ⟨⟨x30, rfl, ⟨hx30a, hx30b⟩⟩, hI30, hG30⟩ := hp30
            have hF30 : ∀ j i : Nat, (j < 195 ∨ j = 198 ∨ 213 ≤ j) → τ30 j i = σ j i := fun j i h_0 => (hG30 j i (by omega)).trans (hF7 j i h_0)
            show hpV _ _ _ _ _ _ _ _ _ _ _ _ _ _ _ _ _ _ _ _ _ (_ :: _)
            refine h_iastore C dX9_share_54 kd_212 (w7_4).toNat (Int.toNat_of_nonneg (by omega)) (by rw [ln_212]; omega) ?_
            obtain ⟨τ31, e31⟩ : ∃ μ : hpMem, μ = hpw τ30 212 ((w7_4).toNat) x30 := ⟨_, rfl⟩
            rw [← e31]
            have hI31 : hpInv τ31 := by rw [e31]; exact hI30.w (bo_212 _) (by omega) (by omega)
            have hF31 : ∀ j i : Nat, (j < 195 ∨ j = 198 ∨ 213 ≤ j) → τ31 j i = σ j i := fun j i h_0 => by rw [e31]; exact (hpw_fr (by omega)).trans (hF30 j i h_0)
            refine h_iinc (lv' := [(4, .int (hpI (w7_4 + 1))), (0, .ref (z + 195)), (1, .int (hpI a0)), (2, .int (hpI a1)), (3, .int (hpI x6))]) C dX9_share_55 4 rfl rfl (by decide) rfl ?_
            refine h_goto (tgt := 34) C dX9_share_58 (by decide) ?_
            exact hp_sub [1, 2, 3, 4, 0] rfl (ih7 _ (w7_4 + 1) (by omega) (by omega) hI31 hF31 (by omega))
      exact hp_sub [2, 3, 4, 1, 0] rfl (L7 8589934592 _ 0 (by omega) (by omega) hI1 hF1 (by omega))
    · refine h_sipush C dX9_share_22 (by decide) ?_
      refine h_ireturn C hr hlk dX9_share_25 ?_
      exact ⟨⟨_, rfl, ⟨by decide, by decide⟩⟩, hI1, hF1⟩

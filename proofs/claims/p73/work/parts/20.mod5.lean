abbrev rgX9_layWet : Room := { frames := 4, cells := 0, slots := 0, locals := 90 }
abbrev pgX9_layWet (z : Nat) (σ : hpMem) (a0 : Int) (a1 : Int) : Option Value → hpMem → Prop := fun r τ => r = none ∧ hpInv τ ∧ (∀ j i : Nat, j ≠ 202 → j ≠ 203 → j ≠ 204 → j ≠ 205 → j ≠ 206 → (j ≠ 195 ∨ (i ≠ 16 ∧ i ≠ 17 ∧ i ≠ 18 ∧ i ≠ 21 ∧ i ≠ 22 ∧ i ≠ 23 ∧ i ≠ 39 ∧ i ≠ 40 ∧ i ≠ 41)) → τ j i = σ j i) ∧ (1 ≤ τ 195 39)
set_option maxHeartbeats 4000000 in
set_option maxRecDepth 20000 in
theorem tgX9_layWet (l : Launch) (D : va_G) (cy : Nat → ClassId) (z : Nat) (σ : hpMem) (a0 : Int) (ha0 : hpR a0) (a1 : Int) (ha1 : hpR a1) (hI : hpInv σ) (hd0 : 0 ≤ a0 ∧ a0 ≤ 7) : hpM l D cy z yX9_layWet cX9_layWet 7 none rgX9_layWet [.ref (z + 195), .int (hpI a0), .int (hpI a1)] σ (pgX9_layWet z σ a0 a1) := by
  obtain ⟨ha01, ha02⟩ := ha0
  obtain ⟨ha11, ha12⟩ := ha1
  refine hp_met rfl (Nat.le_of_ble_eq_true rfl) (fun p e s m below meth c C Z hr hlk => ?_)
  have hF0 : ∀ j i : Nat, j ≠ 202 → j ≠ 203 → j ≠ 204 → j ≠ 205 → j ≠ 206 → (j ≠ 195 ∨ (i ≠ 16 ∧ i ≠ 17 ∧ i ≠ 18 ∧ i ≠ 21 ∧ i ≠ 22 ∧ i ≠ 23 ∧ i ≠ 39 ∧ i ≠ 40 ∧ i ≠ 41)) → σ j i = σ j i := fun j i _ _ _ _ _ _ => rfl
  have h2d := hpShl2_b a0 (by omega)
  have bo := hI.b ((bw_196 2).trans (show hpwb 2 = (0, 10) by decide))
  refine h_aload_n C dX9_layWet_0 0 rfl rfl ?_
  refine h_lconst C 0 dX9_layWet_1 (by decide) ?_
  refine h_put C O9 39 kd_195 (by decide) rfl wd_1295 dX9_layWet_2 rfl rfl (hp_fvJ (by rw [kd_195]; rfl) hpu_at) ?_
  obtain ⟨τ1, e1⟩ : ∃ μ : hpMem, μ = hpw σ 195 39 0 := ⟨_, rfl⟩
  rw [← e1]
  have hI1 : hpInv τ1 := by rw [e1]; exact hI.w (bf_9_39 kd_195) (by omega) (by omega)
  have hF1 : ∀ j i : Nat, j ≠ 202 → j ≠ 203 → j ≠ 204 → j ≠ 205 → j ≠ 206 → (j ≠ 195 ∨ (i ≠ 16 ∧ i ≠ 17 ∧ i ≠ 18 ∧ i ≠ 21 ∧ i ≠ 22 ∧ i ≠ 23 ∧ i ≠ 39 ∧ i ≠ 40 ∧ i ≠ 41)) → τ1 j i = σ j i := fun j i h_0 h_1 h_2 h_3 h_4 h_5 => by rw [e1]; exact (hpw_fr (by omega)).trans (hF0 j i h_0 h_1 h_2 h_3 h_4 h_5)
  have hg2 : τ1 195 39 = 0 := by rw [e1]; exact hpw_eq
  refine h_aload_n C dX9_layWet_5 0 rfl rfl ?_
  refine h_lconst C 0 dX9_layWet_6 (by decide) ?_
  refine h_put C O9 40 kd_195 (by decide) rfl wd_1296 dX9_layWet_7 rfl rfl (hp_fvJ (by rw [kd_195]; rfl) hpu_at) ?_
  obtain ⟨τ3, e3⟩ : ∃ μ : hpMem, μ = hpw τ1 195 40 0 := ⟨_, rfl⟩
  rw [← e3]
  have hI3 : hpInv τ3 := by rw [e3]; exact hI1.w (bf_9_40 kd_195) (by omega) (by omega)
  have hF3 : ∀ j i : Nat, j ≠ 202 → j ≠ 203 → j ≠ 204 → j ≠ 205 → j ≠ 206 → (j ≠ 195 ∨ (i ≠ 16 ∧ i ≠ 17 ∧ i ≠ 18 ∧ i ≠ 21 ∧ i ≠ 22 ∧ i ≠ 23 ∧ i ≠ 39 ∧ i ≠ 40 ∧ i ≠ 41)) → τ3 j i = σ j i := fun j i h_0 h_1 h_2 h_3 h_4 h_5 => by rw [e3]; exact (hpw_fr (by omega)).trans (hF1 j i h_0 h_1 h_2 h_3 h_4 h_5)
  have hg4 : τ3 195 39 = 0 := by rw [e3]; exact (hpw_fr (Or.inr (by decide))).trans hg2
  have hg5 : τ3 195 40 = 0 := by rw [e3]; exact hpw_eq
  refine h_aload_n C dX9_layWet_10 0 rfl rfl ?_
  refine h_lconst C 0 dX9_layWet_11 (by decide) ?_
  refine h_put C O9 41 kd_195 (by decide) rfl wd_1297 dX9_layWet_12 rfl rfl (hp_fvJ (by rw [kd_195]; rfl) hpu_at) ?_
  obtain ⟨τ6, e6⟩ : ∃ μ : hpMem, μ = hpw τ3 195 41 0 := ⟨_, rfl⟩
  rw [← e6]
  have hI6 : hpInv τ6 := by rw [e6]; exact hI3.w (bf_9_41 kd_195) (by omega) (by omega)
  have hF6 : ∀ j i : Nat, j ≠ 202 → j ≠ 203 → j ≠ 204 → j ≠ 205 → j ≠ 206 → (j ≠ 195 ∨ (i ≠ 16 ∧ i ≠ 17 ∧ i ≠ 18 ∧ i ≠ 21 ∧ i ≠ 22 ∧ i ≠ 23 ∧ i ≠ 39 ∧ i ≠ 40 ∧ i ≠ 41)) → τ6 j i = σ j i := fun j i h_0 h_1 h_2 h_3 h_4 h_5 => by rw [e6]; exact (hpw_fr (by omega)).trans (hF3 j i h_0 h_1 h_2 h_3 h_4 h_5)
  have hg7 : τ6 195 39 = 0 := by rw [e6]; exact (hpw_fr (Or.inr (by decide))).trans hg4
  have hg8 : τ6 195 40 = 0 := by rw [e6]; exact (hpw_fr (Or.inr (by decide))).trans hg5
  have hg9 : τ6 195 41 = 0 := by rw [e6]; exact hpw_eq
  refine h_aload_n C dX9_layWet_15 0 rfl rfl ?_
  refine h_callV (As := []) (rest := []) C Z yyX9_asItIs wd_1520 (tgX9_asItIs l D cy z _ hI6) kd_195 rfl rfl ⟨rfl, rfl, Nat.le_of_ble_eq_true rfl, Nat.le_of_ble_eq_true rfl⟩ ⟨Nat.le_of_ble_eq_true rfl, Nat.le_of_ble_eq_true rfl⟩ (Nat.le_of_ble_eq_true rfl) dX9_layWet_16 (fun r10 τ10 hp10 => ?_)
  obtain ⟨rfl, hI10, hG10⟩ := hp10
  have hF10 : ∀ j i : Nat, j ≠ 202 → j ≠ 203 → j ≠ 204 → j ≠ 205 → j ≠ 206 → (j ≠ 195 ∨ (i ≠ 16 ∧ i ≠ 17 ∧ i ≠ 18 ∧ i ≠ 21 ∧ i ≠ 22 ∧ i ≠ 23 ∧ i ≠ 39 ∧ i ≠ 40 ∧ i ≠ 41)) → τ10 j i = σ j i := fun j i h_0 h_1 h_2 h_3 h_4 h_5 => (hG10 j i (by omega) (by omega) (by omega)).trans (hF6 j i h_0 h_1 h_2 h_3 h_4 h_5)
  have hg11 : τ10 195 39 = 0 := (hG10 195 39 (by omega) (by omega) (by omega)).trans hg7
  have hg12 : τ10 195 40 = 0 := (hG10 195 40 (by omega) (by omega) (by omega)).trans hg8
  have hg13 : τ10 195 41 = 0 := (hG10 195 41 (by omega) (by omega) (by omega)).trans hg9
  show hpV _ _ _ _ _ _ _ _ _ _ _ _ _ _ _ _ _ _ _ _ _ []
  refine h_iconst C dX9_layWet_19 ?_
  refine h_istore_n (lv' := [(3, .int (hpI 0)), (0, .ref (z + 195)), (1, .int (hpI a0)), (2, .int (hpI a1))]) C dX9_layWet_20 rfl (by decide) rfl ?_
  have L14 : ∀ (n14 : Nat) (τ14 : hpMem) (w14_3 : Int), 0 ≤ w14_3 → w14_3 ≤ 256 → w14_3 ≤ hpShl 2 a0 → hpInv τ14 → (∀ j i : Nat, j ≠ 202 → j ≠ 203 → j ≠ 204 → j ≠ 205 → j ≠ 206 → (j ≠ 195 ∨ (i ≠ 16 ∧ i ≠ 17 ∧ i ≠ 18 ∧ i ≠ 21 ∧ i ≠ 22 ∧ i ≠ 23 ∧ i ≠ 39 ∧ i ≠ 40 ∧ i ≠ 41)) → τ14 j i = σ j i) → (0 ≤ τ14 195 39 ∧ τ14 195 39 ≤ w14_3 * 1000000000) → (σ 196 2 = 10 ∨ w14_3 = 0 ∨ 1 ≤ τ14 195 39) → (σ 196 2 ≠ 10 ∨ w14_3 ≠ hpShl 2 a0 ∨ 1 ≤ τ14 195 39) → (4294967296 - w14_3) < (n14 : Int) → hpF p l e rgX9_layWet s m [.ref (z + 195), .int (hpI a0), .int (hpI a1)] below meth c 7 D cy z (pgX9_layWet z σ a0 a1) τ14 21 [(0, .ref (z + 195)), (1, .int (hpI a0)), (2, .int (hpI a1)), (3, .int (hpI w14_3))] [] := by
    intro n14
    induction n14 with
    | zero => intro τ14 w14_3 hv14_0 hv14_1 hv14_2 hI14 hF14 hM14_0 hM14_1 hM14_2 hm14; exfalso; omega
    | succ n14 ih14 =>
      intro τ14 w14_3 hv14_0 hv14_1 hv14_2 hI14 hF14 hM14_0 hM14_1 hM14_2 hm14
      have hod : τ14 196 2 = σ 196 2 := hF14 196 2 (by omega) (by omega) (by omega) (by omega) (by omega) (by omega)
      refine h_iload_n C dX9_layWet_21 3 rfl rfl ?_
      refine h_iconst C dX9_layWet_22 ?_
      refine h_iload_n C dX9_layWet_23 1 rfl rfl ?_
      refine h_ishlx C dX9_layWet_24 ?_
      have hs15 := hpShl_b 2 a0
      obtain ⟨hs15a, hs15b⟩ := hs15
      refine h_icmp_ge (tgt := 163) C dX9_layWet_25 (by decide) ⟨by omega, by omega⟩ ⟨by omega, by omega⟩ (fun h16 => ?_) (fun h16 => ?_)
      · refine h_return C hr hlk dX9_layWet_163 ?_
        exact ⟨rfl, hI14, hF14, by omega⟩
      · refine h_lconst C 1 dX9_layWet_28 (by decide) ?_
        refine h_lstore (lv' := [(4, .long (hpJ 1)), (0, .ref (z + 195)), (1, .int (hpI a0)), (2, .int (hpI a1)), (3, .int (hpI w14_3))]) C dX9_layWet_29 (by decide) rfl ?_
        refine h_iconst C dX9_layWet_31 ?_
        refine h_istore (lv' := [(6, .int (hpI 0)), (4, .long (hpJ 1)), (0, .ref (z + 195)), (1, .int (hpI a0)), (2, .int (hpI a1)), (3, .int (hpI w14_3))]) C dX9_layWet_32 (by decide) rfl ?_
        have L17 : ∀ (n17 : Nat) (w17_4 : Int) (w17_6 : Int), 0 ≤ w17_4 → w17_4 ≤ 1000000000 → 0 ≤ w17_6 → w17_6 ≤ 8 → w17_4 ≤ hpTen w17_6 → σ 196 2 = 10 ∨ w14_3 ≠ 0 ∨ 1 ≤ w17_4 → σ 196 2 ≠ 10 ∨ w14_3 ≠ hpShl 2 a0 - 1 ∨ 1 ≤ w17_4 → (4294967296 - w17_6) < (n17 : Int) → hpF p l e rgX9_layWet s m [.ref (z + 195), .int (hpI a0), .int (hpI a1)] below meth c 7 D cy z (pgX9_layWet z σ a0 a1) τ14 34 [(0, .ref (z + 195)), (1, .int (hpI a0)), (2, .int (hpI a1)), (3, .int (hpI w14_3)), (4, .long (hpJ w17_4)), (6, .int (hpI w17_6))] [] := by
          intro n17
          induction n17 with
          | zero => intro w17_4 w17_6 hv17_0 hv17_1 hv17_2 hv17_3 hv17_4 hv17_5 hv17_6 hm17; exfalso; omega
          | succ n17 ih17 =>
            intro w17_4 w17_6 hv17_0 hv17_1 hv17_2 hv17_3 hv17_4 hv17_5 hv17_6 hm17
            refine h_iload C dX9_layWet_34 5 rfl ?_
            refine h_iload_n C dX9_layWet_36 1 rfl rfl ?_
            refine h_icmp_gt (tgt := 81) C dX9_layWet_37 (by decide) ⟨by omega, by omega⟩ ⟨by omega, by omega⟩ (fun h18 => ?_) (fun h18 => ?_)
            · refine h_lload C dX9_layWet_81 4 rfl ?_
              refine h_lconst C 0 dX9_layWet_83 (by decide) ?_
              refine h_lcmp C dX9_layWet_84 ⟨by omega, by omega⟩ ⟨by decide, by decide⟩ (fun r19 hr19 => ?_)
              refine h_if_ne (tgt := 91) C dX9_layWet_85 (by decide) ⟨by omega, by omega⟩ (fun h20 => ?_) (fun h20 => ?_)
              · refine h_aload_n C dX9_layWet_91 0 rfl rfl ?_
                refine h_iload_n C dX9_layWet_92 3 rfl rfl ?_
                refine h_put C O9 21 kd_195 (by decide) rfl wd_1277 dX9_layWet_93 rfl rfl (hp_fvI (by rw [kd_195]; rfl) hpu_at) ?_
                obtain ⟨τ21, e21⟩ : ∃ μ : hpMem, μ = hpw τ14 195 21 w14_3 := ⟨_, rfl⟩
                rw [← e21]
                have hI21 : hpInv τ21 := by rw [e21]; exact hI14.w (bf_9_21 kd_195) (by omega) (by omega)
                have hF21 : ∀ j i : Nat, j ≠ 202 → j ≠ 203 → j ≠ 204 → j ≠ 205 → j ≠ 206 → (j ≠ 195 ∨ (i ≠ 16 ∧ i ≠ 17 ∧ i ≠ 18 ∧ i ≠ 21 ∧ i ≠ 22 ∧ i ≠ 23 ∧ i ≠ 39 ∧ i ≠ 40 ∧ i ≠ 41)) → τ21 j i = σ j i := fun j i h_0 h_1 h_2 h_3 h_4 h_5 => by rw [e21]; exact (hpw_fr (by omega)).trans (hF14 j i h_0 h_1 h_2 h_3 h_4 h_5)
                have hg22 : τ21 195 21 = w14_3 := by rw [e21]; exact hpw_eq
                have e93 : τ21 195 39 = τ14 195 39 := by rw [e21]; exact hpw_fr (Or.inr (by decide))
                refine h_aload_n C dX9_layWet_96 0 rfl rfl ?_
                refine h_callV (As := []) (rest := []) C Z yyX9_goAll wd_1524 (tgX9_goAll l D cy z _ hI21) kd_195 rfl rfl ⟨rfl, rfl, Nat.le_of_ble_eq_true rfl, Nat.le_of_ble_eq_true rfl⟩ ⟨Nat.le_of_ble_eq_true rfl, Nat.le_of_ble_eq_true rfl⟩ (Nat.le_of_ble_eq_true rfl) dX9_layWet_97 (fun r23 τ23 hp23 => ?_)
                obtain ⟨rfl, hI23, hG23, hq23_0⟩ := hp23
                have hF23 : ∀ j i : Nat, j ≠ 202 → j ≠ 203 → j ≠ 204 → j ≠ 205 → j ≠ 206 → (j ≠ 195 ∨ (i ≠ 16 ∧ i ≠ 17 ∧ i ≠ 18 ∧ i ≠ 21 ∧ i ≠ 22 ∧ i ≠ 23 ∧ i ≠ 39 ∧ i ≠ 40 ∧ i ≠ 41)) → τ23 j i = σ j i := fun j i h_0 h_1 h_2 h_3 h_4 h_5 => (hG23 j i (by omega) (by omega) (by omega) (by omega)).trans (hF21 j i h_0 h_1 h_2 h_3 h_4 h_5)
                have hg24 : τ23 195 21 = w14_3 := (hG23 195 21 (by omega) (by omega) (by omega) (by omega)).trans hg22
                show hpV _ _ _ _ _ _ _ _ _ _ _ _ _ _ _ _ _ _ _ _ _ []
                have e97 : τ23 195 39 = τ21 195 39 := hG23 195 39 (by omega) (by omega) (by omega) (by omega)
                refine h_aload_n C dX9_layWet_100 0 rfl rfl ?_
                refine h_dup C rfl dX9_layWet_101 ?_
                refine h_get C O9 39 kd_195 (by decide) wd_1295 dX9_layWet_102 (hp_fvJ (by rw [kd_195]; rfl) rfl) ?_
                obtain ⟨hr25a, hr25b⟩ := hI23.b (bf_9_39 kd_195)
                generalize hg25 : τ23 195 39 = r25 at hr25a hr25b ⊢
                refine h_lload C dX9_layWet_105 4 rfl ?_
                refine h_ladd C dX9_layWet_107 rfl ?_
                refine h_put C O9 39 kd_195 (by decide) rfl wd_1295 dX9_layWet_108 rfl rfl (hp_fvJ (by rw [kd_195]; rfl) hpu_at) ?_
                obtain ⟨τ26, e26⟩ : ∃ μ : hpMem, μ = hpw τ23 195 39 (r25 + w17_4) := ⟨_, rfl⟩
                rw [← e26]
                have hI26 : hpInv τ26 := by rw [e26]; exact hI23.w (bf_9_39 kd_195) (by omega) (by omega)
                have hF26 : ∀ j i : Nat, j ≠ 202 → j ≠ 203 → j ≠ 204 → j ≠ 205 → j ≠ 206 → (j ≠ 195 ∨ (i ≠ 16 ∧ i ≠ 17 ∧ i ≠ 18 ∧ i ≠ 21 ∧ i ≠ 22 ∧ i ≠ 23 ∧ i ≠ 39 ∧ i ≠ 40 ∧ i ≠ 41)) → τ26 j i = σ j i := fun j i h_0 h_1 h_2 h_3 h_4 h_5 => by rw [e26]; exact (hpw_fr (by omega)).trans (hF23 j i h_0 h_1 h_2 h_3 h_4 h_5)
                have hg27 : τ26 195 21 = w14_3 := by rw [e26]; exact (hpw_fr (Or.inr (by decide))).trans hg24
                have hg28 : τ26 195 39 = r25 + w17_4 := by rw [e26]; exact hpw_eq
                refine h_aload_n C dX9_layWet_111 0 rfl rfl ?_
                refine h_dup C rfl dX9_layWet_112 ?_
                refine h_get C O9 40 kd_195 (by decide) wd_1296 dX9_layWet_113 (hp_fvJ (by rw [kd_195]; rfl) rfl) ?_
                obtain ⟨hr29a, hr29b⟩ := hI26.b (bf_9_40 kd_195)
                generalize hg29 : τ26 195 40 = r29 at hr29a hr29b ⊢
                refine h_aload_n C dX9_layWet_116 0 rfl rfl ?_
                refine h_iload_n C dX9_layWet_117 1 rfl rfl ?_
                refine h_iconst C dX9_layWet_118 ?_
                refine h_iadd C dX9_layWet_119 rfl ?_
                refine h_callV (As := [.int (hpI (a0 + 1))]) (rest := [.long (hpJ r29), .ref (z + 195)]) C Z yyX9_manyOf wd_1536 (tgX9_manyOf l D cy z _ (a0 + 1) ⟨by omega, by omega⟩ hI26 (by omega)) kd_195 rfl rfl ⟨rfl, rfl, Nat.le_of_ble_eq_true rfl, Nat.le_of_ble_eq_true rfl⟩ ⟨Nat.le_of_ble_eq_true rfl, Nat.le_of_ble_eq_true rfl⟩ (Nat.le_of_ble_eq_true rfl) dX9_layWet_120 (fun r30 τ30 hp30 => ?_)
                obtain ⟨⟨x30, rfl, ⟨hx30a, hx30b⟩, hx30⟩, rfl⟩ := hp30
                show hpV _ _ _ _ _ _ _ _ _ _ _ _ _ _ _ _ _ _ _ _ _ (_ :: _)
                refine h_iload_n C dX9_layWet_123 2 rfl rfl ?_
                refine h_icmp_lt (tgt := 132) C dX9_layWet_124 (by decide) ⟨by omega, by omega⟩ ⟨by omega, by omega⟩ (fun h31 => ?_) (fun h31 => ?_)
                · refine h_lconst C 0 dX9_layWet_132 (by decide) ?_
                  refine h_ladd C dX9_layWet_133 rfl ?_
                  refine h_put C O9 40 kd_195 (by decide) rfl wd_1296 dX9_layWet_134 rfl rfl (hp_fvJ (by rw [kd_195]; rfl) hpu_at) ?_
                  obtain ⟨τ32, e32⟩ : ∃ μ : hpMem, μ = hpw τ26 195 40 (r29 + 0) := ⟨_, rfl⟩
                  rw [← e32]
                  have hI32 : hpInv τ32 := by rw [e32]; exact hI26.w (bf_9_40 kd_195) (by omega) (by omega)
                  have hF32 : ∀ j i : Nat, j ≠ 202 → j ≠ 203 → j ≠ 204 → j ≠ 205 → j ≠ 206 → (j ≠ 195 ∨ (i ≠ 16 ∧ i ≠ 17 ∧ i ≠ 18 ∧ i ≠ 21 ∧ i ≠ 22 ∧ i ≠ 23 ∧ i ≠ 39 ∧ i ≠ 40 ∧ i ≠ 41)) → τ32 j i = σ j i := fun j i h_0 h_1 h_2 h_3 h_4 h_5 => by rw [e32]; exact (hpw_fr (by omega)).trans (hF26 j i h_0 h_1 h_2 h_3 h_4 h_5)
                  have hg33 : τ32 195 21 = w14_3 := by rw [e32]; exact (hpw_fr (Or.inr (by decide))).trans hg27
                  have hg34 : τ32 195 39 = r25 + w17_4 := by rw [e32]; exact (hpw_fr (Or.inr (by decide))).trans hg28
                  have hg35 : τ32 195 40 = r29 + 0 := by rw [e32]; exact hpw_eq
                  refine h_aload_n C dX9_layWet_137 0 rfl rfl ?_
                  refine h_dup C rfl dX9_layWet_138 ?_
                  refine h_get C O9 41 kd_195 (by decide) wd_1297 dX9_layWet_139 (hp_fvJ (by rw [kd_195]; rfl) rfl) ?_
                  obtain ⟨hr36a, hr36b⟩ := hI32.b (bf_9_41 kd_195)
                  generalize hg36 : τ32 195 41 = r36 at hr36a hr36b ⊢
                  refine h_lload C dX9_layWet_142 4 rfl ?_
                  refine h_aload_n C dX9_layWet_144 0 rfl rfl ?_
                  refine h_iload_n C dX9_layWet_145 1 rfl rfl ?_
                  refine h_iconst C dX9_layWet_146 ?_
                  refine h_iadd C dX9_layWet_147 rfl ?_
                  refine h_callV (As := [.int (hpI (a0 + 1))]) (rest := [.long (hpJ w17_4), .long (hpJ r36), .ref (z + 195)]) C Z yyX9_manyOf wd_1536 (tgX9_manyOf l D cy z _ (a0 + 1) ⟨by omega, by omega⟩ hI32 (by omega)) kd_195 rfl rfl ⟨rfl, rfl, Nat.le_of_ble_eq_true rfl, Nat.le_of_ble_eq_true rfl⟩ ⟨Nat.le_of_ble_eq_true rfl, Nat.le_of_ble_eq_true rfl⟩ (Nat.le_of_ble_eq_true rfl) dX9_layWet_148 (fun r37 τ37 hp37 => ?_)
                  obtain ⟨⟨x37, rfl, ⟨hx37a, hx37b⟩, hx37⟩, rfl⟩ := hp37
                  show hpV _ _ _ _ _ _ _ _ _ _ _ _ _ _ _ _ _ _ _ _ _ (_ :: _)
                  refine h_i2l C dX9_layWet_151 ⟨by omega, by omega⟩ ?_
                  refine h_lmul C dX9_layWet_152 rfl ?_
                  refine hp_anyL (fun r38 hr38 => ?_)
                  obtain ⟨hr38a, hr38b⟩ := hr38
                  refine h_ladd C dX9_layWet_153 rfl ?_
                  refine hp_anyL (fun r39 hr39 => ?_)
                  obtain ⟨hr39a, hr39b⟩ := hr39
                  refine h_put C O9 41 kd_195 (by decide) rfl wd_1297 dX9_layWet_154 rfl rfl (hp_fvJ (by rw [kd_195]; rfl) hpu_at) ?_
                  obtain ⟨τ40, e40⟩ : ∃ μ : hpMem, μ = hpw τ32 195 41 r39 := ⟨_, rfl⟩
                  rw [← e40]
                  have hI40 : hpInv τ40 := by rw [e40]; exact hI32.w (bf_9_41 kd_195) (by omega) (by omega)
                  have hF40 : ∀ j i : Nat, j ≠ 202 → j ≠ 203 → j ≠ 204 → j ≠ 205 → j ≠ 206 → (j ≠ 195 ∨ (i ≠ 16 ∧ i ≠ 17 ∧ i ≠ 18 ∧ i ≠ 21 ∧ i ≠ 22 ∧ i ≠ 23 ∧ i ≠ 39 ∧ i ≠ 40 ∧ i ≠ 41)) → τ40 j i = σ j i := fun j i h_0 h_1 h_2 h_3 h_4 h_5 => by rw [e40]; exact (hpw_fr (by omega)).trans (hF32 j i h_0 h_1 h_2 h_3 h_4 h_5)
                  have hg41 : τ40 195 21 = w14_3 := by rw [e40]; exact (hpw_fr (Or.inr (by decide))).trans hg33
                  have hg42 : τ40 195 39 = r25 + w17_4 := by rw [e40]; exact (hpw_fr (Or.inr (by decide))).trans hg34
                  have hg43 : τ40 195 40 = r29 + 0 := by rw [e40]; exact (hpw_fr (Or.inr (by decide))).trans hg35
                  have hg44 : τ40 195 41 = r39 := by rw [e40]; exact hpw_eq
                  refine h_iinc (lv' := [(3, .int (hpI (w14_3 + 1))), (0, .ref (z + 195)), (1, .int (hpI a0)), (2, .int (hpI a1)), (4, .long (hpJ w17_4)), (6, .int (hpI w17_6))]) C dX9_layWet_157 3 rfl rfl (by decide) rfl ?_
                  refine h_goto (tgt := 21) C dX9_layWet_160 (by decide) ?_
                  exact hp_sub [1, 2, 3, 0] rfl (ih14 _ (w14_3 + 1) (by omega) (by omega) (by omega) hI40 hF40 (by omega) (by omega) (by omega) (by omega))
                · refine h_lload C dX9_layWet_127 4 rfl ?_
                  refine h_goto (tgt := 133) C dX9_layWet_129 (by decide) ?_
                  refine h_ladd C dX9_layWet_133 rfl ?_
                  refine hp_anyL (fun r45 hr45 => ?_)
                  obtain ⟨hr45a, hr45b⟩ := hr45
                  refine h_put C O9 40 kd_195 (by decide) rfl wd_1296 dX9_layWet_134 rfl rfl (hp_fvJ (by rw [kd_195]; rfl) hpu_at) ?_
                  obtain ⟨τ46, e46⟩ : ∃ μ : hpMem, μ = hpw τ26 195 40 r45 := ⟨_, rfl⟩
                  rw [← e46]
                  have hI46 : hpInv τ46 := by rw [e46]; exact hI26.w (bf_9_40 kd_195) (by omega) (by omega)
                  have hF46 : ∀ j i : Nat, j ≠ 202 → j ≠ 203 → j ≠ 204 → j ≠ 205 → j ≠ 206 → (j ≠ 195 ∨ (i ≠ 16 ∧ i ≠ 17 ∧ i ≠ 18 ∧ i ≠ 21 ∧ i ≠ 22 ∧ i ≠ 23 ∧ i ≠ 39 ∧ i ≠ 40 ∧ i ≠ 41)) → τ46 j i = σ j i := fun j i h_0 h_1 h_2 h_3 h_4 h_5 => by rw [e46]; exact (hpw_fr (by omega)).trans (hF26 j i h_0 h_1 h_2 h_3 h_4 h_5)
                  have hg47 : τ46 195 21 = w14_3 := by rw [e46]; exact (hpw_fr (Or.inr (by decide))).trans hg27
                  have hg48 : τ46 195 39 = r25 + w17_4 := by rw [e46]; exact (hpw_fr (Or.inr (by decide))).trans hg28
                  have hg49 : τ46 195 40 = r45 := by rw [e46]; exact hpw_eq
                  refine h_aload_n C dX9_layWet_137 0 rfl rfl ?_
                  refine h_dup C rfl dX9_layWet_138 ?_
                  refine h_get C O9 41 kd_195 (by decide) wd_1297 dX9_layWet_139 (hp_fvJ (by rw [kd_195]; rfl) rfl) ?_
                  obtain ⟨hr50a, hr50b⟩ := hI46.b (bf_9_41 kd_195)
                  generalize hg50 : τ46 195 41 = r50 at hr50a hr50b ⊢
                  refine h_lload C dX9_layWet_142 4 rfl ?_
                  refine h_aload_n C dX9_layWet_144 0 rfl rfl ?_
                  refine h_iload_n C dX9_layWet_145 1 rfl rfl ?_
                  refine h_iconst C dX9_layWet_146 ?_
                  refine h_iadd C dX9_layWet_147 rfl ?_
                  refine h_callV (As := [.int (hpI (a0 + 1))]) (rest := [.long (hpJ w17_4), .long (hpJ r50), .ref (z + 195)]) C Z yyX9_manyOf wd_1536 (tgX9_manyOf l D cy z _ (a0 + 1) ⟨by omega, by omega⟩ hI46 (by omega)) kd_195 rfl rfl ⟨rfl, rfl, Nat.le_of_ble_eq_true rfl, Nat.le_of_ble_eq_true rfl⟩ ⟨Nat.le_of_ble_eq_true rfl, Nat.le_of_ble_eq_true rfl⟩ (Nat.le_of_ble_eq_true rfl) dX9_layWet_148 (fun r51 τ51 hp51 => ?_)
                  obtain ⟨⟨x51, rfl, ⟨hx51a, hx51b⟩, hx51⟩, rfl⟩ := hp51
                  show hpV _ _ _ _ _ _ _ _ _ _ _ _ _ _ _ _ _ _ _ _ _ (_ :: _)
                  refine h_i2l C dX9_layWet_151 ⟨by omega, by omega⟩ ?_
                  refine h_lmul C dX9_layWet_152 rfl ?_
                  refine hp_anyL (fun r52 hr52 => ?_)
                  obtain ⟨hr52a, hr52b⟩ := hr52
                  refine h_ladd C dX9_layWet_153 rfl ?_
                  refine hp_anyL (fun r53 hr53 => ?_)
                  obtain ⟨hr53a, hr53b⟩ := hr53
                  refine h_put C O9 41 kd_195 (by decide) rfl wd_1297 dX9_layWet_154 rfl rfl (hp_fvJ (by rw [kd_195]; rfl) hpu_at) ?_
                  obtain ⟨τ54, e54⟩ : ∃ μ : hpMem, μ = hpw τ46 195 41 r53 := ⟨_, rfl⟩
                  rw [← e54]
                  have hI54 : hpInv τ54 := by rw [e54]; exact hI46.w (bf_9_41 kd_195) (by omega) (by omega)
                  have hF54 : ∀ j i : Nat, j ≠ 202 → j ≠ 203 → j ≠ 204 → j ≠ 205 → j ≠ 206 → (j ≠ 195 ∨ (i ≠ 16 ∧ i ≠ 17 ∧ i ≠ 18 ∧ i ≠ 21 ∧ i ≠ 22 ∧ i ≠ 23 ∧ i ≠ 39 ∧ i ≠ 40 ∧ i ≠ 41)) → τ54 j i = σ j i := fun j i h_0 h_1 h_2 h_3 h_4 h_5 => by rw [e54]; exact (hpw_fr (by omega)).trans (hF46 j i h_0 h_1 h_2 h_3 h_4 h_5)
                  have hg55 : τ54 195 21 = w14_3 := by rw [e54]; exact (hpw_fr (Or.inr (by decide))).trans hg47
                  have hg56 : τ54 195 39 = r25 + w17_4 := by rw [e54]; exact (hpw_fr (Or.inr (by decide))).trans hg48
                  have hg57 : τ54 195 40 = r45 := by rw [e54]; exact (hpw_fr (Or.inr (by decide))).trans hg49
                  have hg58 : τ54 195 41 = r53 := by rw [e54]; exact hpw_eq
                  refine h_iinc (lv' := [(3, .int (hpI (w14_3 + 1))), (0, .ref (z + 195)), (1, .int (hpI a0)), (2, .int (hpI a1)), (4, .long (hpJ w17_4)), (6, .int (hpI w17_6))]) C dX9_layWet_157 3 rfl rfl (by decide) rfl ?_
                  refine h_goto (tgt := 21) C dX9_layWet_160 (by decide) ?_
                  exact hp_sub [1, 2, 3, 0] rfl (ih14 _ (w14_3 + 1) (by omega) (by omega) (by omega) hI54 hF54 (by omega) (by omega) (by omega) (by omega))
              · refine h_goto (tgt := 157) C dX9_layWet_88 (by decide) ?_
                refine h_iinc (lv' := [(3, .int (hpI (w14_3 + 1))), (0, .ref (z + 195)), (1, .int (hpI a0)), (2, .int (hpI a1)), (4, .long (hpJ w17_4)), (6, .int (hpI w17_6))]) C dX9_layWet_157 3 rfl rfl (by decide) rfl ?_
                refine h_goto (tgt := 21) C dX9_layWet_160 (by decide) ?_
                exact hp_sub [1, 2, 3, 0] rfl (ih14 _ (w14_3 + 1) (by omega) (by omega) (by omega) hI14 hF14 (by omega) (by omega) (by omega) (by omega))
            · refine h_lload C dX9_layWet_40 4 rfl ?_
              refine h_iload_n C dX9_layWet_42 3 rfl rfl ?_
              refine h_iload C dX9_layWet_43 5 rfl ?_
              refine h_callS (As := [.int (hpI w14_3), .int (hpI w17_6)]) (rest := [.long (hpJ w17_4)]) C Z yyX9_bit rfl wd_1552 (tgX9_bit l D cy z _ w14_3 ⟨by omega, by omega⟩ w17_6 ⟨by omega, by omega⟩ hI14) rfl rfl ⟨rfl, rfl, Nat.le_of_ble_eq_true rfl, Nat.le_of_ble_eq_true rfl⟩ ⟨Nat.le_of_ble_eq_true rfl, Nat.le_of_ble_eq_true rfl⟩ (Nat.le_of_ble_eq_true rfl) dX9_layWet_45 (fun r59 τ59 hp59 => ?_)
              obtain ⟨⟨x59, rfl, ⟨hx59a, hx59b⟩, hx59⟩, rfl⟩ := hp59
              show hpV _ _ _ _ _ _ _ _ _ _ _ _ _ _ _ _ _ _ _ _ _ (_ :: _)
              refine h_iconst C dX9_layWet_48 ?_
              have hz : w14_3 ≠ 0 ∨ hpAnd (hpShr w14_3 w17_6) 1 = 0 := by by_cases e : w14_3 = 0; (exact Or.inr (hpBit0 e (by omega))); (exact Or.inl e)
              have ho : w14_3 ≠ hpShl 2 a0 - 1 ∨ hpAnd (hpShr w14_3 w17_6) 1 = 1 := by by_cases e : w14_3 = hpShl 2 a0 - 1; (exact Or.inr (hpBit1 e (by omega) (by omega) (by omega))); (exact Or.inl e)
              refine h_icmp_ne (tgt := 62) C dX9_layWet_49 (by decide) ⟨by omega, by omega⟩ ⟨by decide, by decide⟩ (fun h60 => ?_) (fun h60 => ?_)
              · refine h_bipush C dX9_layWet_62 (by decide) ?_
                refine h_aload_n C dX9_layWet_64 0 rfl rfl ?_
                refine h_get C O9 1 kd_195 (by decide) wd_1257 dX9_layWet_65 fr_195_1 ?_
                refine h_iconst C dX9_layWet_68 ?_
                refine h_iaload C dX9_layWet_69 kd_196 2 rfl (by rw [ln_196]; decide) rfl ?_
                obtain ⟨hr61a, hr61b⟩ := hI14.b ((bw_196 2).trans (show hpwb 2 = (0, 10) by decide))
                generalize hg61 : τ14 196 2 = r61 at hr61a hr61b ⊢
                refine h_isub C dX9_layWet_70 rfl ?_
                refine h_i2l C dX9_layWet_71 ⟨by omega, by omega⟩ ?_
                refine h_lmul C dX9_layWet_72 rfl ?_
                have hmu := hpMu w17_4 (10 - r61) (by omega) (by omega)
                refine h_lstore (lv' := [(4, .long (hpJ (w17_4 * (10 - r61)))), (0, .ref (z + 195)), (1, .int (hpI a0)), (2, .int (hpI a1)), (3, .int (hpI w14_3)), (6, .int (hpI w17_6))]) C dX9_layWet_73 (by decide) rfl ?_
                have ht1 := hpTen_s w17_6 (by omega)
                have ht2 := hpTen_b (w17_6 + 1) (by omega) (by omega)
                refine h_iinc (lv' := [(6, .int (hpI (w17_6 + 1))), (4, .long (hpJ (w17_4 * (10 - r61)))), (0, .ref (z + 195)), (1, .int (hpI a0)), (2, .int (hpI a1)), (3, .int (hpI w14_3))]) C dX9_layWet_75 5 rfl rfl (by decide) rfl ?_
                refine h_goto (tgt := 34) C dX9_layWet_78 (by decide) ?_
                exact hp_sub [2, 3, 4, 5, 1, 0] rfl (ih17 (w17_4 * (10 - r61)) (w17_6 + 1) (by omega) (by omega) (by omega) (by omega) (by omega) (by omega) (by omega) (by omega))
              · refine h_aload_n C dX9_layWet_52 0 rfl rfl ?_
                refine h_get C O9 1 kd_195 (by decide) wd_1257 dX9_layWet_53 fr_195_1 ?_
                refine h_iconst C dX9_layWet_56 ?_
                refine h_iaload C dX9_layWet_57 kd_196 2 rfl (by rw [ln_196]; decide) rfl ?_
                obtain ⟨hr62a, hr62b⟩ := hI14.b ((bw_196 2).trans (show hpwb 2 = (0, 10) by decide))
                generalize hg62 : τ14 196 2 = r62 at hr62a hr62b ⊢
                refine h_i2l C dX9_layWet_58 ⟨by omega, by omega⟩ ?_
                refine h_goto (tgt := 72) C dX9_layWet_59 (by decide) ?_
                refine h_lmul C dX9_layWet_72 rfl ?_
                have hmu := hpMu w17_4 r62 (by omega) (by omega)
                refine h_lstore (lv' := [(4, .long (hpJ (w17_4 * r62))), (0, .ref (z + 195)), (1, .int (hpI a0)), (2, .int (hpI a1)), (3, .int (hpI w14_3)), (6, .int (hpI w17_6))]) C dX9_layWet_73 (by decide) rfl ?_
                have ht1 := hpTen_s w17_6 (by omega)
                have ht2 := hpTen_b (w17_6 + 1) (by omega) (by omega)
                refine h_iinc (lv' := [(6, .int (hpI (w17_6 + 1))), (4, .long (hpJ (w17_4 * r62))), (0, .ref (z + 195)), (1, .int (hpI a0)), (2, .int (hpI a1)), (3, .int (hpI w14_3))]) C dX9_layWet_75 5 rfl rfl (by decide) rfl ?_
                refine h_goto (tgt := 34) C dX9_layWet_78 (by decide) ?_
                exact hp_sub [2, 3, 4, 5, 1, 0] rfl (ih17 (w17_4 * r62) (w17_6 + 1) (by omega) (by omega) (by omega) (by omega) (by omega) (by omega) (by omega) (by omega))
        have ht0 : hpTen 0 = 1 := by decide
        exact hp_sub [2, 3, 4, 5, 1, 0] rfl (L17 8589934592 1 0 (by omega) (by omega) (by omega) (by omega) (by omega) (by omega) (by omega) (by omega))
  exact hp_sub [1, 2, 3, 0] rfl (L14 8589934592 _ 0 (by omega) (by omega) (by omega) hI10 hF10 (by omega) (by omega) (by omega) (by omega))
abbrev rgX9_isWet : Room := { frames := 2, cells := 0, slots := 0, locals := 47 }
abbrev pgX9_isWet (z : Nat) (σ : hpMem) (a0 : Int) (a1 : Int) : Option Value → hpMem → Prop := fun r τ => (∃ x : Int, r = some (.int (hpI x)) ∧ (0 ≤ x ∧ x ≤ 1) ∧ (x = 1 → (0 ≤ a0 ∧ a0 ≤ 7))) ∧ σ = τ
set_option maxHeartbeats 4000000 in
set_option maxRecDepth 20000 in
theorem tgX9_isWet (l : Launch) (D : va_G) (cy : Nat → ClassId) (z : Nat) (σ : hpMem) (a0 : Int) (ha0 : hpR a0) (a1 : Int) (ha1 : hpR a1) (hI : hpInv σ) : hpM l D cy z yX9_isWet cX9_isWet 3 (some .boolean) rgX9_isWet [.ref (z + 195), .int (hpI a0), .int (hpI a1)] σ (pgX9_isWet z σ a0 a1) := by
  obtain ⟨ha01, ha02⟩ := ha0
  obtain ⟨ha11, ha12⟩ := ha1
  refine hp_met rfl (Nat.le_of_ble_eq_true rfl) (fun p e s m below meth c C Z hr hlk => ?_)
  refine h_aload_n C dX9_isWet_0 0 rfl rfl ?_
  refine h_iload_n C dX9_isWet_1 1 rfl rfl ?_
  refine h_i2l C dX9_isWet_2 ⟨by omega, by omega⟩ ?_
  refine h_callV (As := [.long (hpJ a0)]) (rest := []) C Z yyX9_isAhead wd_1612 (tgX9_isAhead l D cy z _ a0 ⟨by omega, by omega⟩ hI) kd_195 rfl rfl ⟨rfl, rfl, Nat.le_of_ble_eq_true rfl, Nat.le_of_ble_eq_true rfl⟩ ⟨Nat.le_of_ble_eq_true rfl, Nat.le_of_ble_eq_true rfl⟩ (Nat.le_of_ble_eq_true rfl) dX9_isWet_3 (fun r1 τ1 hp1 => ?_)
  obtain ⟨⟨x1, rfl, ⟨hx1a, hx1b⟩, hx1⟩, rfl⟩ := hp1
  show hpV _ _ _ _ _ _ _ _ _ _ _ _ _ _ _ _ _ _ _ _ _ (_ :: _)
  refine h_if_eq (tgt := 29) C dX9_isWet_6 (by decide) ⟨by omega, by omega⟩ (fun h2 => ?_) (fun h2 => ?_)
  · refine h_iconst C dX9_isWet_29 ?_
    refine h_zreturn C (by omega) hr hlk dX9_isWet_30 ?_
    exact ⟨⟨_, rfl, ⟨by decide, by decide⟩, by omega⟩, rfl⟩
  · refine h_iload_n C dX9_isWet_9 1 rfl rfl ?_
    refine h_bipush C dX9_isWet_10 (by decide) ?_
    refine h_icmp_gt (tgt := 29) C dX9_isWet_12 (by decide) ⟨by omega, by omega⟩ ⟨by decide, by decide⟩ (fun h3 => ?_) (fun h3 => ?_)
    · refine h_iconst C dX9_isWet_29 ?_
      refine h_zreturn C (by omega) hr hlk dX9_isWet_30 ?_
      exact ⟨⟨_, rfl, ⟨by decide, by decide⟩, by omega⟩, rfl⟩
    · refine h_iload_n C dX9_isWet_15 2 rfl rfl ?_
      refine h_i2l C dX9_isWet_16 ⟨by omega, by omega⟩ ?_
      refine h_lconst C 0 dX9_isWet_17 (by decide) ?_
      refine h_lconst C 1 dX9_isWet_18 (by decide) ?_
      refine h_callS (As := [.long (hpJ a1), .long (hpJ 0), .long (hpJ 1)]) (rest := []) C Z yyX9_in rfl wd_1401 (tgX9_in l D cy z _ a1 ⟨by omega, by omega⟩ 0 ⟨by decide, by decide⟩ 1 ⟨by decide, by decide⟩ hI) rfl rfl ⟨rfl, rfl, Nat.le_of_ble_eq_true rfl, Nat.le_of_ble_eq_true rfl⟩ ⟨Nat.le_of_ble_eq_true rfl, Nat.le_of_ble_eq_true rfl⟩ (Nat.le_of_ble_eq_true rfl) dX9_isWet_19 (fun r4 τ4 hp4 => ?_)
      obtain ⟨⟨x4, rfl, ⟨hx4a, hx4b⟩, hx4⟩, rfl⟩ := hp4
      show hpV _ _ _ _ _ _ _ _ _ _ _ _ _ _ _ _ _ _ _ _ _ (_ :: _)
      refine h_if_eq (tgt := 29) C dX9_isWet_22 (by decide) ⟨by omega, by omega⟩ (fun h5 => ?_) (fun h5 => ?_)
      · refine h_iconst C dX9_isWet_29 ?_
        refine h_zreturn C (by omega) hr hlk dX9_isWet_30 ?_
        exact ⟨⟨_, rfl, ⟨by decide, by decide⟩, by omega⟩, rfl⟩
      · refine h_iconst C dX9_isWet_25 ?_
        refine h_goto (tgt := 30) C dX9_isWet_26 (by decide) ?_
        refine h_zreturn C (by omega) hr hlk dX9_isWet_30 ?_
        exact ⟨⟨_, rfl, ⟨by decide, by decide⟩, by omega⟩, rfl⟩
abbrev rgX9_chance : Room := { frames := 5, cells := 0, slots := 0, locals := 116 }
abbrev pgX9_chance (z : Nat) (σ : hpMem) (a0 : Int) (a1 : Int) (a2 : Int) : Option Value → hpMem → Prop := fun r τ => (∃ x : Int, r = some (.long (hpJ x)) ∧ (hpRL x)) ∧ hpInv τ ∧ (∀ j i : Nat, (j < 195 ∨ j = 198 ∨ 213 ≤ j) → τ j i = σ j i)
set_option maxHeartbeats 4000000 in
set_option maxRecDepth 20000 in
theorem tgX9_chance (l : Launch) (D : va_G) (cy : Nat → ClassId) (z : Nat) (σ : hpMem) (a0 : Int) (ha0 : hpR a0) (a1 : Int) (ha1 : hpR a1) (a2 : Int) (ha2 : hpR a2) (hI : hpInv σ) : hpM l D cy z yX9_chance cX9_chance 4 (some .long) rgX9_chance [.ref (z + 195), .int (hpI a0), .int (hpI a1), .int (hpI a2)] σ (pgX9_chance z σ a0 a1 a2) := by
  obtain ⟨ha01, ha02⟩ := ha0
  obtain ⟨ha11, ha12⟩ := ha1
  obtain ⟨ha21, ha22⟩ := ha2
  refine hp_met rfl (Nat.le_of_ble_eq_true rfl) (fun p e s m below meth c C Z hr hlk => ?_)
  have hF0 : ∀ j i : Nat, (j < 195 ∨ j = 198 ∨ 213 ≤ j) → σ j i = σ j i := fun j i _ => rfl
  refine h_aload_n C dX9_chance_0 0 rfl rfl ?_
  refine h_iload_n C dX9_chance_1 1 rfl rfl ?_
  refine h_iload_n C dX9_chance_2 3 rfl rfl ?_
  refine h_callV (As := [.int (hpI a0), .int (hpI a2)]) (rest := []) C Z yyX9_isWet wd_1945 (tgX9_isWet l D cy z _ a0 ⟨by omega, by omega⟩ a2 ⟨by omega, by omega⟩ hI) kd_195 rfl rfl ⟨rfl, rfl, Nat.le_of_ble_eq_true rfl, Nat.le_of_ble_eq_true rfl⟩ ⟨Nat.le_of_ble_eq_true rfl, Nat.le_of_ble_eq_true rfl⟩ (Nat.le_of_ble_eq_true rfl) dX9_chance_3 (fun r1 τ1 hp1 => ?_)
  obtain ⟨⟨x1, rfl, ⟨hx1a, hx1b⟩, hx1⟩, rfl⟩ := hp1
  show hpV _ _ _ _ _ _ _ _ _ _ _ _ _ _ _ _ _ _ _ _ _ (_ :: _)
  refine h_if_eq (tgt := 21) C dX9_chance_6 (by decide) ⟨by omega, by omega⟩ (fun h2 => ?_) (fun h2 => ?_)
  · refine h_ldc2 C (-2) wd_1949 (by decide) dX9_chance_21 ?_
    refine h_lreturn C hr hlk dX9_chance_24 ?_
    exact ⟨⟨_, rfl, ⟨by decide, by decide⟩⟩, hI, hF0⟩
  · refine h_iload_n C dX9_chance_9 2 rfl rfl ?_
    refine h_i2l C dX9_chance_10 ⟨by omega, by omega⟩ ?_
    refine h_lconst C 0 dX9_chance_11 (by decide) ?_
    refine h_ldc2 C 700 wd_1595 (by decide) dX9_chance_12 ?_
    refine h_callS (As := [.long (hpJ a1), .long (hpJ 0), .long (hpJ 700)]) (rest := []) C Z yyX9_in rfl wd_1401 (tgX9_in l D cy z _ a1 ⟨by omega, by omega⟩ 0 ⟨by decide, by decide⟩ 700 ⟨by decide, by decide⟩ hI) rfl rfl ⟨rfl, rfl, Nat.le_of_ble_eq_true rfl, Nat.le_of_ble_eq_true rfl⟩ ⟨Nat.le_of_ble_eq_true rfl, Nat.le_of_ble_eq_true rfl⟩ (Nat.le_of_ble_eq_true rfl) dX9_chance_15 (fun r3 τ3 hp3 => ?_)
    obtain ⟨⟨x3, rfl, ⟨hx3a, hx3b⟩, hx3⟩, rfl⟩ := hp3
    show hpV _ _ _ _ _ _ _ _ _ _ _ _ _ _ _ _ _ _ _ _ _ (_ :: _)
    refine h_if_ne (tgt := 25) C dX9_chance_18 (by decide) ⟨by omega, by omega⟩ (fun h4 => ?_) (fun h4 => ?_)
    · refine h_aload_n C dX9_chance_25 0 rfl rfl ?_
      refine h_iload_n C dX9_chance_26 1 rfl rfl ?_
      refine h_iload_n C dX9_chance_27 2 rfl rfl ?_
      refine h_callV (As := [.int (hpI a0), .int (hpI a1)]) (rest := []) C Z yyX9_layWet wd_1950 (tgX9_layWet l D cy z _ a0 ⟨by omega, by omega⟩ a1 ⟨by omega, by omega⟩ hI (by omega)) kd_195 rfl rfl ⟨rfl, rfl, Nat.le_of_ble_eq_true rfl, Nat.le_of_ble_eq_true rfl⟩ ⟨Nat.le_of_ble_eq_true rfl, Nat.le_of_ble_eq_true rfl⟩ (Nat.le_of_ble_eq_true rfl) dX9_chance_28 (fun r5 τ5 hp5 => ?_)
      obtain ⟨rfl, hI5, hG5, hq5_0⟩ := hp5
      have hF5 : ∀ j i : Nat, (j < 195 ∨ j = 198 ∨ 213 ≤ j) → τ5 j i = σ j i := fun j i h_0 => (hG5 j i (by omega) (by omega) (by omega) (by omega) (by omega) (by omega)).trans (hF0 j i h_0)
      show hpV _ _ _ _ _ _ _ _ _ _ _ _ _ _ _ _ _ _ _ _ _ []
      refine h_aload_n C dX9_chance_31 0 rfl rfl ?_
      refine h_get C O9 40 kd_195 (by decide) wd_1296 dX9_chance_32 (hp_fvJ (by rw [kd_195]; rfl) rfl) ?_
      obtain ⟨hr6a, hr6b⟩ := hI5.b (bf_9_40 kd_195)
      generalize hg6 : τ5 195 40 = r6 at hr6a hr6b ⊢
      refine h_aload_n C dX9_chance_35 0 rfl rfl ?_
      refine h_get C O9 39 kd_195 (by decide) wd_1295 dX9_chance_36 (hp_fvJ (by rw [kd_195]; rfl) rfl) ?_
      obtain ⟨hr7a, hr7b⟩ := hI5.b (bf_9_39 kd_195)
      generalize hg7 : τ5 195 39 = r7 at hr7a hr7b ⊢
      refine h_iload_n C dX9_chance_39 3 rfl rfl ?_
      refine h_callS (As := [.long (hpJ r6), .long (hpJ r7), .int (hpI a2)]) (rest := []) C Z yyX9_part rfl wd_1890 (tgX9_part l D cy z _ r6 ⟨by omega, by omega⟩ r7 ⟨by omega, by omega⟩ a2 ⟨by omega, by omega⟩ hI5 (by omega)) rfl rfl ⟨rfl, rfl, Nat.le_of_ble_eq_true rfl, Nat.le_of_ble_eq_true rfl⟩ ⟨Nat.le_of_ble_eq_true rfl, Nat.le_of_ble_eq_true rfl⟩ (Nat.le_of_ble_eq_true rfl) dX9_chance_40 (fun r8 τ8 hp8 => ?_)
      obtain ⟨⟨x8, rfl, ⟨hx8a, hx8b⟩⟩, rfl⟩ := hp8
      show hpV _ _ _ _ _ _ _ _ _ _ _ _ _ _ _ _ _ _ _ _ _ (_ :: _)
      refine h_lreturn C hr hlk dX9_chance_43 ?_
      exact ⟨⟨_, rfl, ⟨by omega, by omega⟩⟩, hI5, hF5⟩
    · refine h_ldc2 C (-2) wd_1949 (by decide) dX9_chance_21 ?_
      refine h_lreturn C hr hlk dX9_chance_24 ?_
      exact ⟨⟨_, rfl, ⟨by decide, by decide⟩⟩, hI, hF0⟩
abbrev rgX9_mean : Room := { frames := 5, cells := 0, slots := 0, locals := 116 }
abbrev pgX9_mean (z : Nat) (σ : hpMem) (a0 : Int) (a1 : Int) : Option Value → hpMem → Prop := fun r τ => (∃ x : Int, r = some (.long (hpJ x)) ∧ (hpRL x)) ∧ hpInv τ ∧ (∀ j i : Nat, (j < 195 ∨ j = 198 ∨ 213 ≤ j) → τ j i = σ j i)
set_option maxHeartbeats 4000000 in
set_option maxRecDepth 20000 in
theorem tgX9_mean (l : Launch) (D : va_G) (cy : Nat → ClassId) (z : Nat) (σ : hpMem) (a0 : Int) (ha0 : hpR a0) (a1 : Int) (ha1 : hpR a1) (hI : hpInv σ) : hpM l D cy z yX9_mean cX9_mean 3 (some .long) rgX9_mean [.ref (z + 195), .int (hpI a0), .int (hpI a1)] σ (pgX9_mean z σ a0 a1) := by
  obtain ⟨ha01, ha02⟩ := ha0
  obtain ⟨ha11, ha12⟩ := ha1
  refine hp_met rfl (Nat.le_of_ble_eq_true rfl) (fun p e s m below meth c C Z hr hlk => ?_)
  have hF0 : ∀ j i : Nat, (j < 195 ∨ j = 198 ∨ 213 ≤ j) → σ j i = σ j i := fun j i _ => rfl
  refine h_aload_n C dX9_mean_0 0 rfl rfl ?_
  refine h_iload_n C dX9_mean_1 1 rfl rfl ?_
  refine h_iload_n C dX9_mean_2 2 rfl rfl ?_
  refine h_callV (As := [.int (hpI a0), .int (hpI a1)]) (rest := []) C Z yyX9_isWet wd_1945 (tgX9_isWet l D cy z _ a0 ⟨by omega, by omega⟩ a1 ⟨by omega, by omega⟩ hI) kd_195 rfl rfl ⟨rfl, rfl, Nat.le_of_ble_eq_true rfl, Nat.le_of_ble_eq_true rfl⟩ ⟨Nat.le_of_ble_eq_true rfl, Nat.le_of_ble_eq_true rfl⟩ (Nat.le_of_ble_eq_true rfl) dX9_mean_3 (fun r1 τ1 hp1 => ?_)
  obtain ⟨⟨x1, rfl, ⟨hx1a, hx1b⟩, hx1⟩, rfl⟩ := hp1
  show hpV _ _ _ _ _ _ _ _ _ _ _ _ _ _ _ _ _ _ _ _ _ (_ :: _)
  refine h_if_ne (tgt := 13) C dX9_mean_6 (by decide) ⟨by omega, by omega⟩ (fun h2 => ?_) (fun h2 => ?_)
  · refine h_aload_n C dX9_mean_13 0 rfl rfl ?_
    refine h_iload_n C dX9_mean_14 1 rfl rfl ?_
    refine h_iconst C dX9_mean_15 ?_
    refine h_callV (As := [.int (hpI a0), .int (hpI 0)]) (rest := []) C Z yyX9_layWet wd_1950 (tgX9_layWet l D cy z _ a0 ⟨by omega, by omega⟩ 0 ⟨by decide, by decide⟩ hI (by omega)) kd_195 rfl rfl ⟨rfl, rfl, Nat.le_of_ble_eq_true rfl, Nat.le_of_ble_eq_true rfl⟩ ⟨Nat.le_of_ble_eq_true rfl, Nat.le_of_ble_eq_true rfl⟩ (Nat.le_of_ble_eq_true rfl) dX9_mean_16 (fun r3 τ3 hp3 => ?_)
    obtain ⟨rfl, hI3, hG3, hq3_0⟩ := hp3
    have hF3 : ∀ j i : Nat, (j < 195 ∨ j = 198 ∨ 213 ≤ j) → τ3 j i = σ j i := fun j i h_0 => (hG3 j i (by omega) (by omega) (by omega) (by omega) (by omega) (by omega)).trans (hF0 j i h_0)
    show hpV _ _ _ _ _ _ _ _ _ _ _ _ _ _ _ _ _ _ _ _ _ []
    refine h_aload_n C dX9_mean_19 0 rfl rfl ?_
    refine h_get C O9 41 kd_195 (by decide) wd_1297 dX9_mean_20 (hp_fvJ (by rw [kd_195]; rfl) rfl) ?_
    obtain ⟨hr4a, hr4b⟩ := hI3.b (bf_9_41 kd_195)
    generalize hg4 : τ3 195 41 = r4 at hr4a hr4b ⊢
    refine h_aload_n C dX9_mean_23 0 rfl rfl ?_
    refine h_get C O9 39 kd_195 (by decide) wd_1295 dX9_mean_24 (hp_fvJ (by rw [kd_195]; rfl) rfl) ?_
    obtain ⟨hr5a, hr5b⟩ := hI3.b (bf_9_39 kd_195)
    generalize hg5 : τ3 195 39 = r5 at hr5a hr5b ⊢
    refine h_iload_n C dX9_mean_27 2 rfl rfl ?_
    refine h_callS (As := [.long (hpJ r4), .long (hpJ r5), .int (hpI a1)]) (rest := []) C Z yyX9_part rfl wd_1890 (tgX9_part l D cy z _ r4 ⟨by omega, by omega⟩ r5 ⟨by omega, by omega⟩ a1 ⟨by omega, by omega⟩ hI3 (by omega)) rfl rfl ⟨rfl, rfl, Nat.le_of_ble_eq_true rfl, Nat.le_of_ble_eq_true rfl⟩ ⟨Nat.le_of_ble_eq_true rfl, Nat.le_of_ble_eq_true rfl⟩ (Nat.le_of_ble_eq_true rfl) dX9_mean_28 (fun r6 τ6 hp6 => ?_)
    obtain ⟨⟨x6, rfl, ⟨hx6a, hx6b⟩⟩, rfl⟩ := hp6
    show hpV _ _ _ _ _ _ _ _ _ _ _ _ _ _ _ _ _ _ _ _ _ (_ :: _)
    refine h_lreturn C hr hlk dX9_mean_31 ?_
    exact ⟨⟨_, rfl, ⟨by omega, by omega⟩⟩, hI3, hF3⟩
  · refine h_ldc2 C (-2) wd_1949 (by decide) dX9_mean_9 ?_
    refine h_lreturn C hr hlk dX9_mean_12 ?_
    exact ⟨⟨_, rfl, ⟨by decide, by decide⟩⟩, hI, hF0⟩

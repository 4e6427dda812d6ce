abbrev rgX3_clear : Room := { frames := 0, cells := 0, slots := 0, locals := 0 }
abbrev pgX3_clear (z : Nat) (σ : hpMem) (k : Nat) : Option Value → hpMem → Prop := fun r τ => r = none ∧ hpInv τ ∧ (∀ j i : Nat, 169 ≤ j → τ j i = σ j i)
set_option maxHeartbeats 4000000 in
set_option maxRecDepth 20000 in
theorem tgX3_clear (l : Launch) (D : va_G) (cy : Nat → ClassId) (z : Nat) (σ : hpMem) (k : Nat) (hk : hpkd k = 3) (hI : hpInv σ) : hpM l D cy z yX3_clear cX3_clear 1 none rgX3_clear [.ref (z + k)] σ (pgX3_clear z σ k) := by
  refine hp_met rfl (Nat.le_of_ble_eq_true rfl) (fun p e s m below meth c C Z hr hlk => ?_)
  have hF0 : ∀ j i : Nat, 169 ≤ j → σ j i = σ j i := fun j i _ => rfl
  have hl_k := kb_3 hk
  refine h_aload_n C dX3_clear_0 0 rfl rfl ?_
  refine h_iconst C dX3_clear_1 ?_
  refine h_put C O3 2 hk (by decide) rfl wd_157 dX3_clear_2 rfl rfl (hp_fvI (by rw [hk]; rfl) hpu_at) ?_
  obtain ⟨τ1, e1⟩ : ∃ μ : hpMem, μ = hpw σ k 2 0 := ⟨_, rfl⟩
  rw [← e1]
  have hI1 : hpInv τ1 := by rw [e1]; exact hI.w (bf_3_2 hk) (by omega) (by omega)
  have hF1 : ∀ j i : Nat, 169 ≤ j → τ1 j i = σ j i := fun j i h_0 => by rw [e1]; exact (hpw_fr (by omega)).trans (hF0 j i h_0)
  have hg2 : τ1 k 2 = 0 := by rw [e1]; exact hpw_eq
  refine h_aload_n C dX3_clear_5 0 rfl rfl ?_
  refine h_iconst C dX3_clear_6 ?_
  refine h_put C O3 3 hk (by decide) rfl wd_160 dX3_clear_7 rfl rfl (hp_fvI (by rw [hk]; rfl) hpu_at) ?_
  obtain ⟨τ3, e3⟩ : ∃ μ : hpMem, μ = hpw τ1 k 3 0 := ⟨_, rfl⟩
  rw [← e3]
  have hI3 : hpInv τ3 := by rw [e3]; exact hI1.w (bf_3_3 hk) (by omega) (by omega)
  have hF3 : ∀ j i : Nat, 169 ≤ j → τ3 j i = σ j i := fun j i h_0 => by rw [e3]; exact (hpw_fr (by omega)).trans (hF1 j i h_0)
  have hg4 : τ3 k 2 = 0 := by rw [e3]; exact (hpw_fr (Or.inr (by decide))).trans hg2
  have hg5 : τ3 k 3 = 0 := by rw [e3]; exact hpw_eq
  refine h_aload_n C dX3_clear_10 0 rfl rfl ?_
  refine h_iconst C dX3_clear_11 ?_
  refine h_put C O3 4 hk (by decide) rfl wd_165 dX3_clear_12 rfl rfl (hp_fvI (by rw [hk]; rfl) hpu_at) ?_
  obtain ⟨τ6, e6⟩ : ∃ μ : hpMem, μ = hpw τ3 k 4 0 := ⟨_, rfl⟩
  rw [← e6]
  have hI6 : hpInv τ6 := by rw [e6]; exact hI3.w (bf_3_4 hk) (by omega) (by omega)
  have hF6 : ∀ j i : Nat, 169 ≤ j → τ6 j i = σ j i := fun j i h_0 => by rw [e6]; exact (hpw_fr (by omega)).trans (hF3 j i h_0)
  have hg7 : τ6 k 2 = 0 := by rw [e6]; exact (hpw_fr (Or.inr (by decide))).trans hg4
  have hg8 : τ6 k 3 = 0 := by rw [e6]; exact (hpw_fr (Or.inr (by decide))).trans hg5
  have hg9 : τ6 k 4 = 0 := by rw [e6]; exact hpw_eq
  refine h_return C hr hlk dX3_clear_15 ?_
  exact ⟨rfl, hI6, hF6⟩
abbrev rgX3_become : Room := { frames := 1, cells := 0, slots := 0, locals := 60 }
abbrev pgX3_become (z : Nat) (σ : hpMem) (k : Nat) (q : Nat) : Option Value → hpMem → Prop := fun r τ => r = none ∧ hpInv τ ∧ (∀ j i : Nat, 169 ≤ j → τ j i = σ j i)
set_option maxHeartbeats 4000000 in
set_option maxRecDepth 20000 in
theorem tgX3_become (l : Launch) (D : va_G) (cy : Nat → ClassId) (z : Nat) (σ : hpMem) (k : Nat) (hk : hpkd k = 3) (q : Nat) (hq : hpkd q = 3) (hI : hpInv σ) : hpM l D cy z yX3_become cX3_become 2 none rgX3_become [.ref (z + k), .ref (z + q)] σ (pgX3_become z σ k q) := by
  refine hp_met rfl (Nat.le_of_ble_eq_true rfl) (fun p e s m below meth c C Z hr hlk => ?_)
  have hF0 : ∀ j i : Nat, 169 ≤ j → σ j i = σ j i := fun j i _ => rfl
  have hl_k := kb_3 hk
  have hl_q := kb_3 hq
  refine h_aload_n C dX3_become_0 1 rfl rfl ?_
  refine h_get C O3 0 hq (by decide) wd_152 dX3_become_1 (fs_3_0 hq) ?_
  refine h_iconst C dX3_become_4 ?_
  refine h_aload_n C dX3_become_5 0 rfl rfl ?_
  refine h_get C O3 0 hk (by decide) wd_152 dX3_become_6 (fs_3_0 hk) ?_
  refine h_iconst C dX3_become_9 ?_
  refine h_aload_n C dX3_become_10 1 rfl rfl ?_
  refine h_get C O3 2 hq (by decide) wd_157 dX3_become_11 (hp_fvI (by rw [hq]; rfl) rfl) ?_
  obtain ⟨hr1a, hr1b⟩ := hI.b (bf_3_2 hq)
  generalize hg1 : σ q 2 = r1 at hr1a hr1b ⊢
  refine h_copyI C wd_600 wd_536 wd_535 wd_16 dX3_become_14 (fa_3_0 hq) (fa_3_0 hk) 0 0 (r1).toNat rfl rfl (Int.toNat_of_nonneg (by omega)) (by rw [(fl_3_0 hq)]; omega) (by rw [(fl_3_0 hk)]; omega) (Nat.le_of_ble_eq_true rfl) (Nat.le_of_ble_eq_true rfl) ?_
  obtain ⟨τ2, e2⟩ : ∃ μ : hpMem, μ = hpwr σ (k + 1) (hpcp (σ (q + 1)) (σ (k + 1)) 0 0 ((r1).toNat)) := ⟨_, rfl⟩
  rw [← e2]
  have hI2 : hpInv τ2 := by rw [e2]; exact hI.cp (fun i => fo_3_0 hq i) (fun i => fo_3_0 hk i)
  have hF2 : ∀ j i : Nat, 169 ≤ j → τ2 j i = σ j i := fun j i h_0 => by rw [e2]; exact (hpwr_fr (by omega)).trans (hF0 j i h_0)
  refine h_aload_n C dX3_become_17 1 rfl rfl ?_
  refine h_get C O3 1 hq (by decide) wd_155 dX3_become_18 (fs_3_1 hq) ?_
  refine h_iconst C dX3_become_21 ?_
  refine h_aload_n C dX3_become_22 0 rfl rfl ?_
  refine h_get C O3 1 hk (by decide) wd_155 dX3_become_23 (fs_3_1 hk) ?_
  refine h_iconst C dX3_become_26 ?_
  refine h_aload_n C dX3_become_27 1 rfl rfl ?_
  refine h_get C O3 2 hq (by decide) wd_157 dX3_become_28 (hp_fvI (by rw [hq]; rfl) rfl) ?_
  obtain ⟨hr3a, hr3b⟩ := hI2.b (bf_3_2 hq)
  generalize hg3 : τ2 q 2 = r3 at hr3a hr3b ⊢
  refine h_copyI C wd_600 wd_536 wd_535 wd_16 dX3_become_31 (fa_3_1 hq) (fa_3_1 hk) 0 0 (r3).toNat rfl rfl (Int.toNat_of_nonneg (by omega)) (by rw [(fl_3_1 hq)]; omega) (by rw [(fl_3_1 hk)]; omega) (Nat.le_of_ble_eq_true rfl) (Nat.le_of_ble_eq_true rfl) ?_
  obtain ⟨τ4, e4⟩ : ∃ μ : hpMem, μ = hpwr τ2 (k + 2) (hpcp (τ2 (q + 2)) (τ2 (k + 2)) 0 0 ((r3).toNat)) := ⟨_, rfl⟩
  rw [← e4]
  have hI4 : hpInv τ4 := by rw [e4]; exact hI2.cp (fun i => fo_3_1 hq i) (fun i => fo_3_1 hk i)
  have hF4 : ∀ j i : Nat, 169 ≤ j → τ4 j i = σ j i := fun j i h_0 => by rw [e4]; exact (hpwr_fr (by omega)).trans (hF2 j i h_0)
  refine h_aload_n C dX3_become_34 0 rfl rfl ?_
  refine h_aload_n C dX3_become_35 1 rfl rfl ?_
  refine h_get C O3 2 hq (by decide) wd_157 dX3_become_36 (hp_fvI (by rw [hq]; rfl) rfl) ?_
  obtain ⟨hr5a, hr5b⟩ := hI4.b (bf_3_2 hq)
  generalize hg5 : τ4 q 2 = r5 at hr5a hr5b ⊢
  refine h_put C O3 2 hk (by decide) rfl wd_157 dX3_become_39 rfl rfl (hp_fvI (by rw [hk]; rfl) hpu_at) ?_
  obtain ⟨τ6, e6⟩ : ∃ μ : hpMem, μ = hpw τ4 k 2 r5 := ⟨_, rfl⟩
  rw [← e6]
  have hI6 : hpInv τ6 := by rw [e6]; exact hI4.w (bf_3_2 hk) (by omega) (by omega)
  have hF6 : ∀ j i : Nat, 169 ≤ j → τ6 j i = σ j i := fun j i h_0 => by rw [e6]; exact (hpw_fr (by omega)).trans (hF4 j i h_0)
  have hg7 : τ6 k 2 = r5 := by rw [e6]; exact hpw_eq
  refine h_aload_n C dX3_become_42 0 rfl rfl ?_
  refine h_aload_n C dX3_become_43 1 rfl rfl ?_
  refine h_get C O3 3 hq (by decide) wd_160 dX3_become_44 (hp_fvI (by rw [hq]; rfl) rfl) ?_
  obtain ⟨hr8a, hr8b⟩ := hI6.b (bf_3_3 hq)
  generalize hg8 : τ6 q 3 = r8 at hr8a hr8b ⊢
  refine h_put C O3 3 hk (by decide) rfl wd_160 dX3_become_47 rfl rfl (hp_fvI (by rw [hk]; rfl) hpu_at) ?_
  obtain ⟨τ9, e9⟩ : ∃ μ : hpMem, μ = hpw τ6 k 3 r8 := ⟨_, rfl⟩
  rw [← e9]
  have hI9 : hpInv τ9 := by rw [e9]; exact hI6.w (bf_3_3 hk) (by omega) (by omega)
  have hF9 : ∀ j i : Nat, 169 ≤ j → τ9 j i = σ j i := fun j i h_0 => by rw [e9]; exact (hpw_fr (by omega)).trans (hF6 j i h_0)
  have hg10 : τ9 k 2 = r5 := by rw [e9]; exact (hpw_fr (Or.inr (by decide))).trans hg7
  have hg11 : τ9 k 3 = r8 := by rw [e9]; exact hpw_eq
  refine h_aload_n C dX3_become_50 0 rfl rfl ?_
  refine h_aload_n C dX3_become_51 1 rfl rfl ?_
  refine h_get C O3 4 hq (by decide) wd_165 dX3_become_52 (hp_fvI (by rw [hq]; rfl) rfl) ?_
  obtain ⟨hr12a, hr12b⟩ := hI9.b (bf_3_4 hq)
  generalize hg12 : τ9 q 4 = r12 at hr12a hr12b ⊢
  refine h_put C O3 4 hk (by decide) rfl wd_165 dX3_become_55 rfl rfl (hp_fvI (by rw [hk]; rfl) hpu_at) ?_
  obtain ⟨τ13, e13⟩ : ∃ μ : hpMem, μ = hpw τ9 k 4 r12 := ⟨_, rfl⟩
  rw [← e13]
  have hI13 : hpInv τ13 := by rw [e13]; exact hI9.w (bf_3_4 hk) (by omega) (by omega)
  have hF13 : ∀ j i : Nat, 169 ≤ j → τ13 j i = σ j i := fun j i h_0 => by rw [e13]; exact (hpw_fr (by omega)).trans (hF9 j i h_0)
  have hg14 : τ13 k 2 = r5 := by rw [e13]; exact (hpw_fr (Or.inr (by decide))).trans hg10
  have hg15 : τ13 k 3 = r8 := by rw [e13]; exact (hpw_fr (Or.inr (by decide))).trans hg11
  have hg16 : τ13 k 4 = r12 := by rw [e13]; exact hpw_eq
  refine h_return C hr hlk dX3_become_58 ?_
  exact ⟨rfl, hI13, hF13⟩
abbrev rgX3_alike : Room := { frames := 0, cells := 0, slots := 0, locals := 0 }
abbrev pgX3_alike (z : Nat) (σ : hpMem) (k : Nat) (q : Nat) : Option Value → hpMem → Prop := fun r τ => (∃ x : Int, r = some (.int (hpI x)) ∧ (0 ≤ x ∧ x ≤ 1)) ∧ σ = τ
set_option maxHeartbeats 4000000 in
set_option maxRecDepth 20000 in
theorem tgX3_alike (l : Launch) (D : va_G) (cy : Nat → ClassId) (z : Nat) (σ : hpMem) (k : Nat) (hk : hpkd k = 3) (q : Nat) (hq : hpkd q = 3) (hI : hpInv σ) : hpM l D cy z yX3_alike cX3_alike 3 (some .boolean) rgX3_alike [.ref (z + k), .ref (z + q)] σ (pgX3_alike z σ k q) := by
  refine hp_met rfl (Nat.le_of_ble_eq_true rfl) (fun p e s m below meth c C Z hr hlk => ?_)
  have hl_k := kb_3 hk
  have hl_q := kb_3 hq
  refine h_aload_n C dX3_alike_0 0 rfl rfl ?_
  refine h_get C O3 2 hk (by decide) wd_157 dX3_alike_1 (hp_fvI (by rw [hk]; rfl) rfl) ?_
  obtain ⟨hr1a, hr1b⟩ := hI.b (bf_3_2 hk)
  generalize hg1 : σ k 2 = r1 at hr1a hr1b ⊢
  refine h_aload_n C dX3_alike_4 1 rfl rfl ?_
  refine h_get C O3 2 hq (by decide) wd_157 dX3_alike_5 (hp_fvI (by rw [hq]; rfl) rfl) ?_
  obtain ⟨hr2a, hr2b⟩ := hI.b (bf_3_2 hq)
  generalize hg2 : σ q 2 = r2 at hr2a hr2b ⊢
  refine h_icmp_ne (tgt := 33) C dX3_alike_8 (by decide) ⟨by omega, by omega⟩ ⟨by omega, by omega⟩ (fun h3 => ?_) (fun h3 => ?_)
  · refine h_iconst C dX3_alike_33 ?_
    refine h_zreturn C (by omega) hr hlk dX3_alike_34 ?_
    exact ⟨⟨_, rfl, ⟨by decide, by decide⟩⟩, rfl⟩
  · refine h_aload_n C dX3_alike_11 0 rfl rfl ?_
    refine h_get C O3 3 hk (by decide) wd_160 dX3_alike_12 (hp_fvI (by rw [hk]; rfl) rfl) ?_
    obtain ⟨hr4a, hr4b⟩ := hI.b (bf_3_3 hk)
    generalize hg4 : σ k 3 = r4 at hr4a hr4b ⊢
    refine h_aload_n C dX3_alike_15 1 rfl rfl ?_
    refine h_get C O3 3 hq (by decide) wd_160 dX3_alike_16 (hp_fvI (by rw [hq]; rfl) rfl) ?_
    obtain ⟨hr5a, hr5b⟩ := hI.b (bf_3_3 hq)
    generalize hg5 : σ q 3 = r5 at hr5a hr5b ⊢
    refine h_icmp_ne (tgt := 33) C dX3_alike_19 (by decide) ⟨by omega, by omega⟩ ⟨by omega, by omega⟩ (fun h6 => ?_) (fun h6 => ?_)
    · refine h_iconst C dX3_alike_33 ?_
      refine h_zreturn C (by omega) hr hlk dX3_alike_34 ?_
      exact ⟨⟨_, rfl, ⟨by decide, by decide⟩⟩, rfl⟩
    · refine h_aload_n C dX3_alike_22 0 rfl rfl ?_
      refine h_get C O3 4 hk (by decide) wd_165 dX3_alike_23 (hp_fvI (by rw [hk]; rfl) rfl) ?_
      obtain ⟨hr7a, hr7b⟩ := hI.b (bf_3_4 hk)
      generalize hg7 : σ k 4 = r7 at hr7a hr7b ⊢
      refine h_aload_n C dX3_alike_26 1 rfl rfl ?_
      refine h_get C O3 4 hq (by decide) wd_165 dX3_alike_27 (hp_fvI (by rw [hq]; rfl) rfl) ?_
      obtain ⟨hr8a, hr8b⟩ := hI.b (bf_3_4 hq)
      generalize hg8 : σ q 4 = r8 at hr8a hr8b ⊢
      refine h_icmp_eq (tgt := 35) C dX3_alike_30 (by decide) ⟨by omega, by omega⟩ ⟨by omega, by omega⟩ (fun h9 => ?_) (fun h9 => ?_)
      · refine h_iconst C dX3_alike_35 ?_
        refine h_istore_n (lv' := [(2, .int (hpI 0)), (0, .ref (z + k)), (1, .ref (z + q))]) C dX3_alike_36 rfl (by decide) rfl ?_
        have L10 : ∀ (n10 : Nat) (w10_2 : Int), 0 ≤ w10_2 → w10_2 ≤ 2147483647 → (4294967296 - w10_2) < (n10 : Int) → hpF p l e rgX3_alike s m [.ref (z + k), .ref (z + q)] below meth c 3 D cy z (pgX3_alike z σ k q) σ 37 [(0, .ref (z + k)), (1, .ref (z + q)), (2, .int (hpI w10_2))] [] := by
          intro n10
          induction n10 with
          | zero => intro w10_2 hv10_0 hv10_1 hm10; exfalso; omega
          | succ n10 ih10 =>
            intro w10_2 hv10_0 hv10_1 hm10
            refine h_iload_n C dX3_alike_37 2 rfl rfl ?_
            refine h_aload_n C dX3_alike_38 0 rfl rfl ?_
            refine h_get C O3 2 hk (by decide) wd_157 dX3_alike_39 (hp_fvI (by rw [hk]; rfl) rfl) ?_
            rw [hg1]
            refine h_icmp_ge (tgt := 83) C dX3_alike_42 (by decide) ⟨by omega, by omega⟩ ⟨by omega, by omega⟩ (fun h11 => ?_) (fun h11 => ?_)
            · refine h_iconst C dX3_alike_83 ?_
              refine h_zreturn C (by omega) hr hlk dX3_alike_84 ?_
              exact ⟨⟨_, rfl, ⟨by decide, by decide⟩⟩, rfl⟩
            · refine h_aload_n C dX3_alike_45 0 rfl rfl ?_
              refine h_get C O3 0 hk (by decide) wd_152 dX3_alike_46 (fs_3_0 hk) ?_
              refine h_iload_n C dX3_alike_49 2 rfl rfl ?_
              refine h_iaload C dX3_alike_50 (fa_3_0 hk) (w10_2).toNat (Int.toNat_of_nonneg (by omega)) (by rw [(fl_3_0 hk)]; omega) rfl ?_
              obtain ⟨hr12a, hr12b⟩ := hI.b (fo_3_0 hk _)
              generalize hg12 : σ (k + 1) ((w10_2).toNat) = r12 at hr12a hr12b ⊢
              refine h_aload_n C dX3_alike_51 1 rfl rfl ?_
              refine h_get C O3 0 hq (by decide) wd_152 dX3_alike_52 (fs_3_0 hq) ?_
              refine h_iload_n C dX3_alike_55 2 rfl rfl ?_
              refine h_iaload C dX3_alike_56 (fa_3_0 hq) (w10_2).toNat (Int.toNat_of_nonneg (by omega)) (by rw [(fl_3_0 hq)]; omega) rfl ?_
              obtain ⟨hr13a, hr13b⟩ := hI.b (fo_3_0 hq _)
              generalize hg13 : σ (q + 1) ((w10_2).toNat) = r13 at hr13a hr13b ⊢
              refine h_icmp_ne (tgt := 75) C dX3_alike_57 (by decide) ⟨by omega, by omega⟩ ⟨by omega, by omega⟩ (fun h14 => ?_) (fun h14 => ?_)
              · refine h_iconst C dX3_alike_75 ?_
                refine h_zreturn C (by omega) hr hlk dX3_alike_76 ?_
                exact ⟨⟨_, rfl, ⟨by decide, by decide⟩⟩, rfl⟩
              · refine h_aload_n C dX3_alike_60 0 rfl rfl ?_
                refine h_get C O3 1 hk (by decide) wd_155 dX3_alike_61 (fs_3_1 hk) ?_
                refine h_iload_n C dX3_alike_64 2 rfl rfl ?_
                refine h_iaload C dX3_alike_65 (fa_3_1 hk) (w10_2).toNat (Int.toNat_of_nonneg (by omega)) (by rw [(fl_3_1 hk)]; omega) rfl ?_
                obtain ⟨hr15a, hr15b⟩ := hI.b (fo_3_1 hk _)
                generalize hg15 : σ (k + 2) ((w10_2).toNat) = r15 at hr15a hr15b ⊢
                refine h_aload_n C dX3_alike_66 1 rfl rfl ?_
                refine h_get C O3 1 hq (by decide) wd_155 dX3_alike_67 (fs_3_1 hq) ?_
                refine h_iload_n C dX3_alike_70 2 rfl rfl ?_
                refine h_iaload C dX3_alike_71 (fa_3_1 hq) (w10_2).toNat (Int.toNat_of_nonneg (by omega)) (by rw [(fl_3_1 hq)]; omega) rfl ?_
                obtain ⟨hr16a, hr16b⟩ := hI.b (fo_3_1 hq _)
                generalize hg16 : σ (q + 2) ((w10_2).toNat) = r16 at hr16a hr16b ⊢
                refine h_icmp_eq (tgt := 77) C dX3_alike_72 (by decide) ⟨by omega, by omega⟩ ⟨by omega, by omega⟩ (fun h17 => ?_) (fun h17 => ?_)
                · refine h_iinc (lv' := [(2, .int (hpI (w10_2 + 1))), (0, .ref (z + k)), (1, .ref (z + q))]) C dX3_alike_77 2 rfl rfl (by decide) rfl ?_
                  refine h_goto (tgt := 37) C dX3_alike_80 (by decide) ?_
                  exact hp_sub [1, 2, 0] rfl (ih10 (w10_2 + 1) (by omega) (by omega) (by omega))
                · refine h_iconst C dX3_alike_75 ?_
                  refine h_zreturn C (by omega) hr hlk dX3_alike_76 ?_
                  exact ⟨⟨_, rfl, ⟨by decide, by decide⟩⟩, rfl⟩
        exact hp_sub [1, 2, 0] rfl (L10 8589934592 0 (by omega) (by omega) (by omega))
      · refine h_iconst C dX3_alike_33 ?_
        refine h_zreturn C (by omega) hr hlk dX3_alike_34 ?_
        exact ⟨⟨_, rfl, ⟨by decide, by decide⟩⟩, rfl⟩
abbrev rgX3_lay : Room := { frames := 1, cells := 0, slots := 0, locals := 60 }
abbrev pgX3_lay (z : Nat) (σ : hpMem) (k : Nat) (a0 : Int) : Option Value → hpMem → Prop := fun r τ => r = none ∧ hpInv τ ∧ (∀ j i : Nat, 169 ≤ j → τ j i = σ j i)
set_option maxHeartbeats 4000000 in
set_option maxRecDepth 20000 in
theorem tgX3_lay (l : Launch) (D : va_G) (cy : Nat → ClassId) (z : Nat) (σ : hpMem) (k : Nat) (hk : hpkd k = 3) (a0 : Int) (ha0 : hpR a0) (hI : hpInv σ) : hpM l D cy z yX3_lay cX3_lay 3 none rgX3_lay [.ref (z + k), .int (hpI a0)] σ (pgX3_lay z σ k a0) := by
  obtain ⟨ha01, ha02⟩ := ha0
  refine hp_met rfl (Nat.le_of_ble_eq_true rfl) (fun p e s m below meth c C Z hr hlk => ?_)
  have hF0 : ∀ j i : Nat, 169 ≤ j → σ j i = σ j i := fun j i _ => rfl
  have hl_k := kb_3 hk
  refine h_iload_n C dX3_lay_0 1 rfl rfl ?_
  refine h_iconst C dX3_lay_1 ?_
  refine h_icmp_ge (tgt := 6) C dX3_lay_2 (by decide) ⟨by omega, by omega⟩ ⟨by decide, by decide⟩ (fun h1 => ?_) (fun h1 => ?_)
  · refine h_aload_n C dX3_lay_6 0 rfl rfl ?_
    refine h_get C O3 2 hk (by decide) wd_157 dX3_lay_7 (hp_fvI (by rw [hk]; rfl) rfl) ?_
    obtain ⟨hr2a, hr2b⟩ := hI.b (bf_3_2 hk)
    generalize hg2 : σ k 2 = r2 at hr2a hr2b ⊢
    refine h_istore_n (lv' := [(2, .int (hpI r2)), (0, .ref (z + k)), (1, .int (hpI a0))]) C dX3_lay_10 rfl (by decide) rfl ?_
    have L3 : ∀ (n3 : Nat) (w3_2 : Int), 0 ≤ w3_2 → w3_2 ≤ 40 → w3_2 ≤ σ k 2 → (w3_2 + 4294967296) < (n3 : Int) → hpF p l e rgX3_lay s m [.ref (z + k), .int (hpI a0)] below meth c 3 D cy z (pgX3_lay z σ k a0) σ 11 [(0, .ref (z + k)), (1, .int (hpI a0)), (2, .int (hpI w3_2))] [] := by
      intro n3
      induction n3 with
      | zero => intro w3_2 hv3_0 hv3_1 hv3_2 hm3; exfalso; omega
      | succ n3 ih3 =>
        intro w3_2 hv3_0 hv3_1 hv3_2 hm3
        refine h_iload_n C dX3_lay_11 2 rfl rfl ?_
        refine h_if_le (tgt := 33) C dX3_lay_12 (by decide) ⟨by omega, by omega⟩ (fun h4 => ?_) (fun h4 => ?_)
        · refine h_iload_n C dX3_lay_33 2 rfl rfl ?_
          refine h_if_le (tgt := 64) C dX3_lay_34 (by decide) ⟨by omega, by omega⟩ (fun h5 => ?_) (fun h5 => ?_)
          · refine h_aload_n C dX3_lay_64 0 rfl rfl ?_
            refine h_get C O3 2 hk (by decide) wd_157 dX3_lay_65 (hp_fvI (by rw [hk]; rfl) rfl) ?_
            rw [hg2]
            refine h_bipush C dX3_lay_68 (by decide) ?_
            refine h_icmp_ge (tgt := 142) C dX3_lay_70 (by decide) ⟨by omega, by omega⟩ ⟨by decide, by decide⟩ (fun h6 => ?_) (fun h6 => ?_)
            · refine h_return C hr hlk dX3_lay_142 ?_
              exact ⟨rfl, hI, hF0⟩
            · refine h_aload_n C dX3_lay_73 0 rfl rfl ?_
              refine h_get C O3 0 hk (by decide) wd_152 dX3_lay_74 (fs_3_0 hk) ?_
              refine h_iload_n C dX3_lay_77 2 rfl rfl ?_
              refine h_aload_n C dX3_lay_78 0 rfl rfl ?_
              refine h_get C O3 0 hk (by decide) wd_152 dX3_lay_79 (fs_3_0 hk) ?_
              refine h_iload_n C dX3_lay_82 2 rfl rfl ?_
              refine h_iconst C dX3_lay_83 ?_
              refine h_iadd C dX3_lay_84 rfl ?_
              refine h_aload_n C dX3_lay_85 0 rfl rfl ?_
              refine h_get C O3 2 hk (by decide) wd_157 dX3_lay_86 (hp_fvI (by rw [hk]; rfl) rfl) ?_
              rw [hg2]
              refine h_iload_n C dX3_lay_89 2 rfl rfl ?_
              refine h_isub C dX3_lay_90 rfl ?_
              refine h_copyI C wd_600 wd_536 wd_535 wd_16 dX3_lay_91 (fa_3_0 hk) (fa_3_0 hk) (w3_2).toNat (w3_2 + 1).toNat (r2 - w3_2).toNat (Int.toNat_of_nonneg (by omega)) (Int.toNat_of_nonneg (by omega)) (Int.toNat_of_nonneg (by omega)) (by rw [(fl_3_0 hk)]; omega) (by rw [(fl_3_0 hk)]; omega) (Nat.le_of_ble_eq_true rfl) (Nat.le_of_ble_eq_true rfl) ?_
              obtain ⟨τ7, e7⟩ : ∃ μ : hpMem, μ = hpwr σ (k + 1) (hpcp (σ (k + 1)) (σ (k + 1)) ((w3_2).toNat) ((w3_2 + 1).toNat) ((r2 - w3_2).toNat)) := ⟨_, rfl⟩
              rw [← e7]
              have hI7 : hpInv τ7 := by rw [e7]; exact hI.cp (fun i => fo_3_0 hk i) (fun i => fo_3_0 hk i)
              have hF7 : ∀ j i : Nat, 169 ≤ j → τ7 j i = σ j i := fun j i h_0 => by rw [e7]; exact (hpwr_fr (by omega)).trans (hF0 j i h_0)
              have hg8 : τ7 k 2 = r2 := by rw [e7]; exact (hpwr_fr (by omega)).trans hg2
              refine h_aload_n C dX3_lay_94 0 rfl rfl ?_
              refine h_get C O3 1 hk (by decide) wd_155 dX3_lay_95 (fs_3_1 hk) ?_
              refine h_iload_n C dX3_lay_98 2 rfl rfl ?_
              refine h_aload_n C dX3_lay_99 0 rfl rfl ?_
              refine h_get C O3 1 hk (by decide) wd_155 dX3_lay_100 (fs_3_1 hk) ?_
              refine h_iload_n C dX3_lay_103 2 rfl rfl ?_
              refine h_iconst C dX3_lay_104 ?_
              refine h_iadd C dX3_lay_105 rfl ?_
              refine h_aload_n C dX3_lay_106 0 rfl rfl ?_
              refine h_get C O3 2 hk (by decide) wd_157 dX3_lay_107 (hp_fvI (by rw [hk]; rfl) rfl) ?_
              rw [hg8]
              refine h_iload_n C dX3_lay_110 2 rfl rfl ?_
              refine h_isub C dX3_lay_111 rfl ?_
              refine h_copyI C wd_600 wd_536 wd_535 wd_16 dX3_lay_112 (fa_3_1 hk) (fa_3_1 hk) (w3_2).toNat (w3_2 + 1).toNat (r2 - w3_2).toNat (Int.toNat_of_nonneg (by omega)) (Int.toNat_of_nonneg (by omega)) (Int.toNat_of_nonneg (by omega)) (by rw [(fl_3_1 hk)]; omega) (by rw [(fl_3_1 hk)]; omega) (Nat.le_of_ble_eq_true rfl) (Nat.le_of_ble_eq_true rfl) ?_
              obtain ⟨τ9, e9⟩ : ∃ μ : hpMem, μ = hpwr τ7 (k + 2) (hpcp (τ7 (k + 2)) (τ7 (k + 2)) ((w3_2).toNat) ((w3_2 + 1).toNat) ((r2 - w3_2).toNat)) := ⟨_, rfl⟩
              rw [← e9]
              have hI9 : hpInv τ9 := by rw [e9]; exact hI7.cp (fun i => fo_3_1 hk i) (fun i => fo_3_1 hk i)
              have hF9 : ∀ j i : Nat, 169 ≤ j → τ9 j i = σ j i := fun j i h_0 => by rw [e9]; exact (hpwr_fr (by omega)).trans (hF7 j i h_0)
              have hg10 : τ9 k 2 = r2 := by rw [e9]; exact (hpwr_fr (by omega)).trans hg8
              refine h_aload_n C dX3_lay_115 0 rfl rfl ?_
              refine h_get C O3 0 hk (by decide) wd_152 dX3_lay_116 (fs_3_0 hk) ?_
              refine h_iload_n C dX3_lay_119 2 rfl rfl ?_
              refine h_iload_n C dX3_lay_120 1 rfl rfl ?_
              refine h_iastore C dX3_lay_121 (fa_3_0 hk) (w3_2).toNat (Int.toNat_of_nonneg (by omega)) (by rw [(fl_3_0 hk)]; omega) ?_
              obtain ⟨τ11, e11⟩ : ∃ μ : hpMem, μ = hpw τ9 (k + 1) ((w3_2).toNat) a0 := ⟨_, rfl⟩
              rw [← e11]
              have hI11 : hpInv τ11 := by rw [e11]; exact hI9.w (fo_3_0 hk _) (by omega) (by omega)
              have hF11 : ∀ j i : Nat, 169 ≤ j → τ11 j i = σ j i := fun j i h_0 => by rw [e11]; exact (hpw_fr (by omega)).trans (hF9 j i h_0)
              have hg12 : τ11 k 2 = r2 := by rw [e11]; exact (hpw_fr (Or.inl (by omega))).trans hg10
              refine h_aload_n C dX3_lay_122 0 rfl rfl ?_
              refine h_get C O3 1 hk (by decide) wd_155 dX3_lay_123 (fs_3_1 hk) ?_
              refine h_iload_n C dX3_lay_126 2 rfl rfl ?_
              refine h_iconst C dX3_lay_127 ?_
              refine h_iastore C dX3_lay_128 (fa_3_1 hk) (w3_2).toNat (Int.toNat_of_nonneg (by omega)) (by rw [(fl_3_1 hk)]; omega) ?_
              obtain ⟨τ13, e13⟩ : ∃ μ : hpMem, μ = hpw τ11 (k + 2) ((w3_2).toNat) 1 := ⟨_, rfl⟩
              rw [← e13]
              have hI13 : hpInv τ13 := by rw [e13]; exact hI11.w (fo_3_1 hk _) (by omega) (by omega)
              have hF13 : ∀ j i : Nat, 169 ≤ j → τ13 j i = σ j i := fun j i h_0 => by rw [e13]; exact (hpw_fr (by omega)).trans (hF11 j i h_0)
              have hg14 : τ13 k 2 = r2 := by rw [e13]; exact (hpw_fr (Or.inl (by omega))).trans hg12
              refine h_aload_n C dX3_lay_129 0 rfl rfl ?_
              refine h_dup C rfl dX3_lay_130 ?_
              refine h_get C O3 2 hk (by decide) wd_157 dX3_lay_131 (hp_fvI (by rw [hk]; rfl) rfl) ?_
              rw [hg14]
              refine h_iconst C dX3_lay_134 ?_
              refine h_iadd C dX3_lay_135 rfl ?_
              refine h_put C O3 2 hk (by decide) rfl wd_157 dX3_lay_136 rfl rfl (hp_fvI (by rw [hk]; rfl) hpu_at) ?_
              obtain ⟨τ15, e15⟩ : ∃ μ : hpMem, μ = hpw τ13 k 2 (r2 + 1) := ⟨_, rfl⟩
              rw [← e15]
              have hI15 : hpInv τ15 := by rw [e15]; exact hI13.w (bf_3_2 hk) (by omega) (by omega)
              have hF15 : ∀ j i : Nat, 169 ≤ j → τ15 j i = σ j i := fun j i h_0 => by rw [e15]; exact (hpw_fr (by omega)).trans (hF13 j i h_0)
              have hg16 : τ15 k 2 = r2 + 1 := by rw [e15]; exact hpw_eq
              refine h_goto (tgt := 143) C dX3_lay_139 (by decide) ?_
              refine h_aload_n C dX3_lay_143 0 rfl rfl ?_
              refine h_dup C rfl dX3_lay_144 ?_
              refine h_get C O3 3 hk (by decide) wd_160 dX3_lay_145 (hp_fvI (by rw [hk]; rfl) rfl) ?_
              obtain ⟨hr17a, hr17b⟩ := hI15.b (bf_3_3 hk)
              generalize hg17 : τ15 k 3 = r17 at hr17a hr17b ⊢
              refine h_iconst C dX3_lay_148 ?_
              refine h_iadd C dX3_lay_149 rfl ?_
              refine hp_anyI (fun r18 hr18 => ?_)
              obtain ⟨hr18a, hr18b⟩ := hr18
              refine h_put C O3 3 hk (by decide) rfl wd_160 dX3_lay_150 rfl rfl (hp_fvI (by rw [hk]; rfl) hpu_at) ?_
              obtain ⟨τ19, e19⟩ : ∃ μ : hpMem, μ = hpw τ15 k 3 r18 := ⟨_, rfl⟩
              rw [← e19]
              have hI19 : hpInv τ19 := by rw [e19]; exact hI15.w (bf_3_3 hk) (by omega) (by omega)
              have hF19 : ∀ j i : Nat, 169 ≤ j → τ19 j i = σ j i := fun j i h_0 => by rw [e19]; exact (hpw_fr (by omega)).trans (hF15 j i h_0)
              have hg20 : τ19 k 2 = r2 + 1 := by rw [e19]; exact (hpw_fr (Or.inr (by decide))).trans hg16
              have hg21 : τ19 k 3 = r18 := by rw [e19]; exact hpw_eq
              refine h_aload_n C dX3_lay_153 0 rfl rfl ?_
              refine h_dup C rfl dX3_lay_154 ?_
              refine h_get C O3 4 hk (by decide) wd_165 dX3_lay_155 (hp_fvI (by rw [hk]; rfl) rfl) ?_
              obtain ⟨hr22a, hr22b⟩ := hI19.b (bf_3_4 hk)
              generalize hg22 : τ19 k 4 = r22 at hr22a hr22b ⊢
              refine h_iload_n C dX3_lay_158 1 rfl rfl ?_
              refine h_iadd C dX3_lay_159 rfl ?_
              refine hp_anyI (fun r23 hr23 => ?_)
              obtain ⟨hr23a, hr23b⟩ := hr23
              refine h_put C O3 4 hk (by decide) rfl wd_165 dX3_lay_160 rfl rfl (hp_fvI (by rw [hk]; rfl) hpu_at) ?_
              obtain ⟨τ24, e24⟩ : ∃ μ : hpMem, μ = hpw τ19 k 4 r23 := ⟨_, rfl⟩
              rw [← e24]
              have hI24 : hpInv τ24 := by rw [e24]; exact hI19.w (bf_3_4 hk) (by omega) (by omega)
              have hF24 : ∀ j i : Nat, 169 ≤ j → τ24 j i = σ j i := fun j i h_0 => by rw [e24]; exact (hpw_fr (by omega)).trans (hF19 j i h_0)
              have hg25 : τ24 k 2 = r2 + 1 := by rw [e24]; exact (hpw_fr (Or.inr (by decide))).trans hg20
              have hg26 : τ24 k 3 = r18 := by rw [e24]; exact (hpw_fr (Or.inr (by decide))).trans hg21
              have hg27 : τ24 k 4 = r23 := by rw [e24]; exact hpw_eq
              refine h_return C hr hlk dX3_lay_163 ?_
              exact ⟨rfl, hI24, hF24⟩
          · exfalso; omega
        · refine h_aload_n C dX3_lay_15 0 rfl rfl ?_
          refine h_get C O3 0 hk (by decide) wd_152 dX3_lay_16 (fs_3_0 hk) ?_
          refine h_iload_n C dX3_lay_19 2 rfl rfl ?_
          refine h_iconst C dX3_lay_20 ?_
          refine h_isub C dX3_lay_21 rfl ?_
          refine h_iaload C dX3_lay_22 (fa_3_0 hk) (w3_2 - 1).toNat (Int.toNat_of_nonneg (by omega)) (by rw [(fl_3_0 hk)]; omega) rfl ?_
          obtain ⟨hr28a, hr28b⟩ := hI.b (fo_3_0 hk _)
          generalize hg28 : σ (k + 1) ((w3_2 - 1).toNat) = r28 at hr28a hr28b ⊢
          refine h_iload_n C dX3_lay_23 1 rfl rfl ?_
          refine h_icmp_ge (tgt := 33) C dX3_lay_24 (by decide) ⟨by omega, by omega⟩ ⟨by omega, by omega⟩ (fun h29 => ?_) (fun h29 => ?_)
          · refine h_iload_n C dX3_lay_33 2 rfl rfl ?_
            refine h_if_le (tgt := 64) C dX3_lay_34 (by decide) ⟨by omega, by omega⟩ (fun h30 => ?_) (fun h30 => ?_)
            · exfalso; omega
            · refine h_aload_n C dX3_lay_37 0 rfl rfl ?_
              refine h_get C O3 0 hk (by decide) wd_152 dX3_lay_38 (fs_3_0 hk) ?_
              refine h_iload_n C dX3_lay_41 2 rfl rfl ?_
              refine h_iconst C dX3_lay_42 ?_
              refine h_isub C dX3_lay_43 rfl ?_
              refine h_iaload C dX3_lay_44 (fa_3_0 hk) (w3_2 - 1).toNat (Int.toNat_of_nonneg (by omega)) (by rw [(fl_3_0 hk)]; omega) rfl ?_
              rw [hg28]
              refine h_iload_n C dX3_lay_45 1 rfl rfl ?_
              refine h_icmp_ne (tgt := 64) C dX3_lay_46 (by decide) ⟨by omega, by omega⟩ ⟨by omega, by omega⟩ (fun h31 => ?_) (fun h31 => ?_)
              · refine h_aload_n C dX3_lay_64 0 rfl rfl ?_
                refine h_get C O3 2 hk (by decide) wd_157 dX3_lay_65 (hp_fvI (by rw [hk]; rfl) rfl) ?_
                rw [hg2]
                refine h_bipush C dX3_lay_68 (by decide) ?_
                refine h_icmp_ge (tgt := 142) C dX3_lay_70 (by decide) ⟨by omega, by omega⟩ ⟨by decide, by decide⟩ (fun h32 => ?_) (fun h32 => ?_)
                · refine h_return C hr hlk dX3_lay_142 ?_
                  exact ⟨rfl, hI, hF0⟩
                · refine h_aload_n C dX3_lay_73 0 rfl rfl ?_
                  refine h_get C O3 0 hk (by decide) wd_152 dX3_lay_74 (fs_3_0 hk) ?_
                  refine h_iload_n C dX3_lay_77 2 rfl rfl ?_
                  refine h_aload_n C dX3_lay_78 0 rfl rfl ?_
                  refine h_get C O3 0 hk (by decide) wd_152 dX3_lay_79 (fs_3_0 hk) ?_
                  refine h_iload_n C dX3_lay_82 2 rfl rfl ?_
                  refine h_iconst C dX3_lay_83 ?_
                  refine h_iadd C dX3_lay_84 rfl ?_
                  refine h_aload_n C dX3_lay_85 0 rfl rfl ?_
                  refine h_get C O3 2 hk (by decide) wd_157 dX3_lay_86 (hp_fvI (by rw [hk]; rfl) rfl) ?_
                  rw [hg2]
                  refine h_iload_n C dX3_lay_89 2 rfl rfl ?_
                  refine h_isub C dX3_lay_90 rfl ?_
                  refine h_copyI C wd_600 wd_536 wd_535 wd_16 dX3_lay_91 (fa_3_0 hk) (fa_3_0 hk) (w3_2).toNat (w3_2 + 1).toNat (r2 - w3_2).toNat (Int.toNat_of_nonneg (by omega)) (Int.toNat_of_nonneg (by omega)) (Int.toNat_of_nonneg (by omega)) (by rw [(fl_3_0 hk)]; omega) (by rw [(fl_3_0 hk)]; omega) (Nat.le_of_ble_eq_true rfl) (Nat.le_of_ble_eq_true rfl) ?_
                  obtain ⟨τ33, e33⟩ : ∃ μ : hpMem, μ = hpwr σ (k + 1) (hpcp (σ (k + 1)) (σ (k + 1)) ((w3_2).toNat) ((w3_2 + 1).toNat) ((r2 - w3_2).toNat)) := ⟨_, rfl⟩
                  rw [← e33]
                  have hI33 : hpInv τ33 := by rw [e33]; exact hI.cp (fun i => fo_3_0 hk i) (fun i => fo_3_0 hk i)
                  have hF33 : ∀ j i : Nat, 169 ≤ j → τ33 j i = σ j i := fun j i h_0 => by rw [e33]; exact (hpwr_fr (by omega)).trans (hF0 j i h_0)
                  have hg34 : τ33 k 2 = r2 := by rw [e33]; exact (hpwr_fr (by omega)).trans hg2
                  refine h_aload_n C dX3_lay_94 0 rfl rfl ?_
                  refine h_get C O3 1 hk (by decide) wd_155 dX3_lay_95 (fs_3_1 hk) ?_
                  refine h_iload_n C dX3_lay_98 2 rfl rfl ?_
                  refine h_aload_n C dX3_lay_99 0 rfl rfl ?_
                  refine h_get C O3 1 hk (by decide) wd_155 dX3_lay_100 (fs_3_1 hk) ?_
                  refine h_iload_n C dX3_lay_103 2 rfl rfl ?_
                  refine h_iconst C dX3_lay_104 ?_
                  refine h_iadd C dX3_lay_105 rfl ?_
                  refine h_aload_n C dX3_lay_106 0 rfl rfl ?_
                  refine h_get C O3 2 hk (by decide) wd_157 dX3_lay_107 (hp_fvI (by rw [hk]; rfl) rfl) ?_
                  rw [hg34]
                  refine h_iload_n C dX3_lay_110 2 rfl rfl ?_
                  refine h_isub C dX3_lay_111 rfl ?_
                  refine h_copyI C wd_600 wd_536 wd_535 wd_16 dX3_lay_112 (fa_3_1 hk) (fa_3_1 hk) (w3_2).toNat (w3_2 + 1).toNat (r2 - w3_2).toNat (Int.toNat_of_nonneg (by omega)) (Int.toNat_of_nonneg (by omega)) (Int.toNat_of_nonneg (by omega)) (by rw [(fl_3_1 hk)]; omega) (by rw [(fl_3_1 hk)]; omega) (Nat.le_of_ble_eq_true rfl) (Nat.le_of_ble_eq_true rfl) ?_
                  obtain ⟨τ35, e35⟩ : ∃ μ : hpMem, μ = hpwr τ33 (k + 2) (hpcp (τ33 (k + 2)) (τ33 (k + 2)) ((w3_2).toNat) ((w3_2 + 1).toNat) ((r2 - w3_2).toNat)) := ⟨_, rfl⟩
                  rw [← e35]
                  have hI35 : hpInv τ35 := by rw [e35]; exact hI33.cp (fun i => fo_3_1 hk i) (fun i => fo_3_1 hk i)
                  have hF35 : ∀ j i : Nat, 169 ≤ j → τ35 j i = σ j i := fun j i h_0 => by rw [e35]; exact (hpwr_fr (by omega)).trans (hF33 j i h_0)
                  have hg36 : τ35 k 2 = r2 := by rw [e35]; exact (hpwr_fr (by omega)).trans hg34
                  refine h_aload_n C dX3_lay_115 0 rfl rfl ?_
                  refine h_get C O3 0 hk (by decide) wd_152 dX3_lay_116 (fs_3_0 hk) ?_
                  refine h_iload_n C dX3_lay_119 2 rfl rfl ?_
                  refine h_iload_n C dX3_lay_120 1 rfl rfl ?_
                  refine h_iastore C dX3_lay_121 (fa_3_0 hk) (w3_2).toNat (Int.toNat_of_nonneg (by omega)) (by rw [(fl_3_0 hk)]; omega) ?_
                  obtain ⟨τ37, e37⟩ : ∃ μ : hpMem, μ = hpw τ35 (k + 1) ((w3_2).toNat) a0 := ⟨_, rfl⟩
                  rw [← e37]
                  have hI37 : hpInv τ37 := by rw [e37]; exact hI35.w (fo_3_0 hk _) (by omega) (by omega)
                  have hF37 : ∀ j i : Nat, 169 ≤ j → τ37 j i = σ j i := fun j i h_0 => by rw [e37]; exact (hpw_fr (by omega)).trans (hF35 j i h_0)
                  have hg38 : τ37 k 2 = r2 := by rw [e37]; exact (hpw_fr (Or.inl (by omega))).trans hg36
                  refine h_aload_n C dX3_lay_122 0 rfl rfl ?_
                  refine h_get C O3 1 hk (by decide) wd_155 dX3_lay_123 (fs_3_1 hk) ?_
                  refine h_iload_n C dX3_lay_126 2 rfl rfl ?_
                  refine h_iconst C dX3_lay_127 ?_
                  refine h_iastore C dX3_lay_128 (fa_3_1 hk) (w3_2).toNat (Int.toNat_of_nonneg (by omega)) (by rw [(fl_3_1 hk)]; omega) ?_
                  obtain ⟨τ39, e39⟩ : ∃ μ : hpMem, μ = hpw τ37 (k + 2) ((w3_2).toNat) 1 := ⟨_, rfl⟩
                  rw [← e39]
                  have hI39 : hpInv τ39 := by rw [e39]; exact hI37.w (fo_3_1 hk _) (by omega) (by omega)
                  have hF39 : ∀ j i : Nat, 169 ≤ j → τ39 j i = σ j i := fun j i h_0 => by rw [e39]; exact (hpw_fr (by omega)).trans (hF37 j i h_0)
                  have hg40 : τ39 k 2 = r2 := by rw [e39]; exact (hpw_fr (Or.inl (by omega))).trans hg38
                  refine h_aload_n C dX3_lay_129 0 rfl rfl ?_
                  refine h_dup C rfl dX3_lay_130 ?_
                  refine h_get C O3 2 hk (by decide) wd_157 dX3_lay_131 (hp_fvI (by rw [hk]; rfl) rfl) ?_
                  rw [hg40]
                  refine h_iconst C dX3_lay_134 ?_
                  refine h_iadd C dX3_lay_135 rfl ?_
                  refine h_put C O3 2 hk (by decide) rfl wd_157 dX3_lay_136 rfl rfl (hp_fvI (by rw [hk]; rfl) hpu_at) ?_
                  obtain ⟨τ41, e41⟩ : ∃ μ : hpMem, μ = hpw τ39 k 2 (r2 + 1) := ⟨_, rfl⟩
                  rw [← e41]
                  have hI41 : hpInv τ41 := by rw [e41]; exact hI39.w (bf_3_2 hk) (by omega) (by omega)
                  have hF41 : ∀ j i : Nat, 169 ≤ j → τ41 j i = σ j i := fun j i h_0 => by rw [e41]; exact (hpw_fr (by omega)).trans (hF39 j i h_0)
                  have hg42 : τ41 k 2 = r2 + 1 := by rw [e41]; exact hpw_eq
                  refine h_goto (tgt := 143) C dX3_lay_139 (by decide) ?_
                  refine h_aload_n C dX3_lay_143 0 rfl rfl ?_
                  refine h_dup C rfl dX3_lay_144 ?_
                  refine h_get C O3 3 hk (by decide) wd_160 dX3_lay_145 (hp_fvI (by rw [hk]; rfl) rfl) ?_
                  obtain ⟨hr43a, hr43b⟩ := hI41.b (bf_3_3 hk)
                  generalize hg43 : τ41 k 3 = r43 at hr43a hr43b ⊢
                  refine h_iconst C dX3_lay_148 ?_
                  refine h_iadd C dX3_lay_149 rfl ?_
                  refine hp_anyI (fun r44 hr44 => ?_)
                  obtain ⟨hr44a, hr44b⟩ := hr44
                  refine h_put C O3 3 hk (by decide) rfl wd_160 dX3_lay_150 rfl rfl (hp_fvI (by rw [hk]; rfl) hpu_at) ?_
                  obtain ⟨τ45, e45⟩ : ∃ μ : hpMem, μ = hpw τ41 k 3 r44 := ⟨_, rfl⟩
                  rw [← e45]
                  have hI45 : hpInv τ45 := by rw [e45]; exact hI41.w (bf_3_3 hk) (by omega) (by omega)
                  have hF45 : ∀ j i : Nat, 169 ≤ j → τ45 j i = σ j i := fun j i h_0 => by rw [e45]; exact (hpw_fr (by omega)).trans (hF41 j i h_0)
                  have hg46 : τ45 k 2 = r2 + 1 := by rw [e45]; exact (hpw_fr (Or.inr (by decide))).trans hg42
                  have hg47 : τ45 k 3 = r44 := by rw [e45]; exact hpw_eq
                  refine h_aload_n C dX3_lay_153 0 rfl rfl ?_
                  refine h_dup C rfl dX3_lay_154 ?_
                  refine h_get C O3 4 hk (by decide) wd_165 dX3_lay_155 (hp_fvI (by rw [hk]; rfl) rfl) ?_
                  obtain ⟨hr48a, hr48b⟩ := hI45.b (bf_3_4 hk)
                  generalize hg48 : τ45 k 4 = r48 at hr48a hr48b ⊢
                  refine h_iload_n C dX3_lay_158 1 rfl rfl ?_
                  refine h_iadd C dX3_lay_159 rfl ?_
                  refine hp_anyI (fun r49 hr49 => ?_)
                  obtain ⟨hr49a, hr49b⟩ := hr49
                  refine h_put C O3 4 hk (by decide) rfl wd_165 dX3_lay_160 rfl rfl (hp_fvI (by rw [hk]; rfl) hpu_at) ?_
                  obtain ⟨τ50, e50⟩ : ∃ μ : hpMem, μ = hpw τ45 k 4 r49 := ⟨_, rfl⟩
                  rw [← e50]
                  have hI50 : hpInv τ50 := by rw [e50]; exact hI45.w (bf_3_4 hk) (by omega) (by omega)
                  have hF50 : ∀ j i : Nat, 169 ≤ j → τ50 j i = σ j i := fun j i h_0 => by rw [e50]; exact (hpw_fr (by omega)).trans (hF45 j i h_0)
                  have hg51 : τ50 k 2 = r2 + 1 := by rw [e50]; exact (hpw_fr (Or.inr (by decide))).trans hg46
                  have hg52 : τ50 k 3 = r44 := by rw [e50]; exact (hpw_fr (Or.inr (by decide))).trans hg47
                  have hg53 : τ50 k 4 = r49 := by rw [e50]; exact hpw_eq
                  refine h_return C hr hlk dX3_lay_163 ?_
                  exact ⟨rfl, hI50, hF50⟩
              · refine h_aload_n C dX3_lay_49 0 rfl rfl ?_
                refine h_get C O3 1 hk (by decide) wd_155 dX3_lay_50 (fs_3_1 hk) ?_
                refine h_iload_n C dX3_lay_53 2 rfl rfl ?_
                refine h_iconst C dX3_lay_54 ?_
                refine h_isub C dX3_lay_55 rfl ?_
                refine h_dup2 C rfl rfl dX3_lay_56 ?_
                refine h_iaload C dX3_lay_57 (fa_3_1 hk) (w3_2 - 1).toNat (Int.toNat_of_nonneg (by omega)) (by rw [(fl_3_1 hk)]; omega) rfl ?_
                obtain ⟨hr54a, hr54b⟩ := hI.b (fo_3_1 hk _)
                generalize hg54 : σ (k + 2) ((w3_2 - 1).toNat) = r54 at hr54a hr54b ⊢
                refine h_iconst C dX3_lay_58 ?_
                refine h_iadd C dX3_lay_59 rfl ?_
                refine hp_anyI (fun r55 hr55 => ?_)
                obtain ⟨hr55a, hr55b⟩ := hr55
                refine h_iastore C dX3_lay_60 (fa_3_1 hk) (w3_2 - 1).toNat (Int.toNat_of_nonneg (by omega)) (by rw [(fl_3_1 hk)]; omega) ?_
                obtain ⟨τ56, e56⟩ : ∃ μ : hpMem, μ = hpw σ (k + 2) ((w3_2 - 1).toNat) r55 := ⟨_, rfl⟩
                rw [← e56]
                have hI56 : hpInv τ56 := by rw [e56]; exact hI.w (fo_3_1 hk _) (by omega) (by omega)
                have hF56 : ∀ j i : Nat, 169 ≤ j → τ56 j i = σ j i := fun j i h_0 => by rw [e56]; exact (hpw_fr (by omega)).trans (hF0 j i h_0)
                have hg57 : τ56 k 2 = r2 := by rw [e56]; exact (hpw_fr (Or.inl (by omega))).trans hg2
                have hg58 : τ56 (k + 1) ((w3_2 - 1).toNat) = r28 := by rw [e56]; exact (hpw_fr (Or.inl (by omega))).trans hg28
                refine h_goto (tgt := 143) C dX3_lay_61 (by decide) ?_
                refine h_aload_n C dX3_lay_143 0 rfl rfl ?_
                refine h_dup C rfl dX3_lay_144 ?_
                refine h_get C O3 3 hk (by decide) wd_160 dX3_lay_145 (hp_fvI (by rw [hk]; rfl) rfl) ?_
                obtain ⟨hr59a, hr59b⟩ := hI56.b (bf_3_3 hk)
                generalize hg59 : τ56 k 3 = r59 at hr59a hr59b ⊢
                refine h_iconst C dX3_lay_148 ?_
                refine h_iadd C dX3_lay_149 rfl ?_
                refine hp_anyI (fun r60 hr60 => ?_)
                obtain ⟨hr60a, hr60b⟩ := hr60
                refine h_put C O3 3 hk (by decide) rfl wd_160 dX3_lay_150 rfl rfl (hp_fvI (by rw [hk]; rfl) hpu_at) ?_
                obtain ⟨τ61, e61⟩ : ∃ μ : hpMem, μ = hpw τ56 k 3 r60 := ⟨_, rfl⟩
                rw [← e61]
                have hI61 : hpInv τ61 := by rw [e61]; exact hI56.w (bf_3_3 hk) (by omega) (by omega)
                have hF61 : ∀ j i : Nat, 169 ≤ j → τ61 j i = σ j i := fun j i h_0 => by rw [e61]; exact (hpw_fr (by omega)).trans (hF56 j i h_0)
                have hg62 : τ61 k 2 = r2 := by rw [e61]; exact (hpw_fr (Or.inr (by decide))).trans hg57
                have hg63 : τ61 (k + 1) ((w3_2 - 1).toNat) = r28 := by rw [e61]; exact (hpw_fr (Or.inl (by omega))).trans hg58
                have hg64 : τ61 k 3 = r60 := by rw [e61]; exact hpw_eq
                refine h_aload_n C dX3_lay_153 0 rfl rfl ?_
                refine h_dup C rfl dX3_lay_154 ?_
                refine h_get C O3 4 hk (by decide) wd_165 dX3_lay_155 (hp_fvI (by rw [hk]; rfl) rfl) ?_
                obtain ⟨hr65a, hr65b⟩ := hI61.b (bf_3_4 hk)
                generalize hg65 : τ61 k 4 = r65 at hr65a hr65b ⊢
                refine h_iload_n C dX3_lay_158 1 rfl rfl ?_
                refine h_iadd C dX3_lay_159 rfl ?_
                refine hp_anyI (fun r66 hr66 => ?_)
                obtain ⟨hr66a, hr66b⟩ := hr66
                refine h_put C O3 4 hk (by decide) rfl wd_165 dX3_lay_160 rfl rfl (hp_fvI (by rw [hk]; rfl) hpu_at) ?_
                obtain ⟨τ67, e67⟩ : ∃ μ : hpMem, μ = hpw τ61 k 4 r66 := ⟨_, rfl⟩
                rw [← e67]
                have hI67 : hpInv τ67 := by rw [e67]; exact hI61.w (bf_3_4 hk) (by omega) (by omega)
                have hF67 : ∀ j i : Nat, 169 ≤ j → τ67 j i = σ j i := fun j i h_0 => by rw [e67]; exact (hpw_fr (by omega)).trans (hF61 j i h_0)
                have hg68 : τ67 k 2 = r2 := by rw [e67]; exact (hpw_fr (Or.inr (by decide))).trans hg62
                have hg69 : τ67 (k + 1) ((w3_2 - 1).toNat) = r28 := by rw [e67]; exact (hpw_fr (Or.inl (by omega))).trans hg63
                have hg70 : τ67 k 3 = r60 := by rw [e67]; exact (hpw_fr (Or.inr (by decide))).trans hg64
                have hg71 : τ67 k 4 = r66 := by rw [e67]; exact hpw_eq
                refine h_return C hr hlk dX3_lay_163 ?_
                exact ⟨rfl, hI67, hF67⟩
          · refine h_iinc (lv' := [(2, .int (hpI (w3_2 + (-1)))), (0, .ref (z + k)), (1, .int (hpI a0))]) C dX3_lay_27 2 rfl rfl (by decide) rfl ?_
            refine h_goto (tgt := 11) C dX3_lay_30 (by decide) ?_
            exact hp_sub [1, 2, 0] rfl (ih3 (w3_2 + (-1)) (by omega) (by omega) (by omega) (by omega))
    exact hp_sub [1, 2, 0] rfl (L3 8589934592 r2 (by omega) (by omega) (by omega) (by omega))
  · refine h_return C hr hlk dX3_lay_5 ?_
    exact ⟨rfl, hI, hF0⟩
abbrev rgX3_dropHighest : Room := { frames := 1, cells := 0, slots := 0, locals := 60 }
abbrev pgX3_dropHighest (z : Nat) (σ : hpMem) (k : Nat) : Option Value → hpMem → Prop := fun r τ => (∃ x : Int, r = some (.int (hpI x)) ∧ (hpR x)) ∧ hpInv τ ∧ (∀ j i : Nat, 169 ≤ j → τ j i = σ j i)
set_option maxHeartbeats 4000000 in
set_option maxRecDepth 20000 in
theorem tgX3_dropHighest (l : Launch) (D : va_G) (cy : Nat → ClassId) (z : Nat) (σ : hpMem) (k : Nat) (hk : hpkd k = 3) (hI : hpInv σ) : hpM l D cy z yX3_dropHighest cX3_dropHighest 2 (some .int) rgX3_dropHighest [.ref (z + k)] σ (pgX3_dropHighest z σ k) := by
  refine hp_met rfl (Nat.le_of_ble_eq_true rfl) (fun p e s m below meth c C Z hr hlk => ?_)
  have hF0 : ∀ j i : Nat, 169 ≤ j → σ j i = σ j i := fun j i _ => rfl
  have hl_k := kb_3 hk
  refine h_aload_n C dX3_dropHighest_0 0 rfl rfl ?_
  refine h_get C O3 2 hk (by decide) wd_157 dX3_dropHighest_1 (hp_fvI (by rw [hk]; rfl) rfl) ?_
  obtain ⟨hr1a, hr1b⟩ := hI.b (bf_3_2 hk)
  generalize hg1 : σ k 2 = r1 at hr1a hr1b ⊢
  refine h_if_ne (tgt := 9) C dX3_dropHighest_4 (by decide) ⟨by omega, by omega⟩ (fun h2 => ?_) (fun h2 => ?_)
  · refine h_aload_n C dX3_dropHighest_9 0 rfl rfl ?_
    refine h_get C O3 0 hk (by decide) wd_152 dX3_dropHighest_10 (fs_3_0 hk) ?_
    refine h_iconst C dX3_dropHighest_13 ?_
    refine h_iaload C dX3_dropHighest_14 (fa_3_0 hk) 0 rfl (by rw [(fl_3_0 hk)]; decide) rfl ?_
    obtain ⟨hr3a, hr3b⟩ := hI.b (fo_3_0 hk _)
    generalize hg3 : σ (k + 1) 0 = r3 at hr3a hr3b ⊢
    refine h_istore_n (lv' := [(1, .int (hpI r3)), (0, .ref (z + k))]) C dX3_dropHighest_15 rfl (by decide) rfl ?_
    refine h_aload_n C dX3_dropHighest_16 1 rfl rfl ?_
    refine h_get C O3 1 hk (by decide) wd_155 dX3_dropHighest_17 (fs_3_1 hk) ?_
    refine h_iconst C dX3_dropHighest_20 ?_
    refine h_dup2 C rfl rfl dX3_dropHighest_21 ?_
    refine h_iaload C dX3_dropHighest_22 (fa_3_1 hk) 0 rfl (by rw [(fl_3_1 hk)]; decide) rfl ?_
    obtain ⟨hr4a, hr4b⟩ := hI.b (fo_3_1 hk _)
    generalize hg4 : σ (k + 2) 0 = r4 at hr4a hr4b ⊢
    refine h_iconst C dX3_dropHighest_23 ?_
    refine h_isub C dX3_dropHighest_24 rfl ?_
    refine hp_anyI (fun r5 hr5 => ?_)
    obtain ⟨hr5a, hr5b⟩ := hr5
    refine h_iastore C dX3_dropHighest_25 (fa_3_1 hk) 0 rfl (by rw [(fl_3_1 hk)]; decide) ?_
    obtain ⟨τ6, e6⟩ : ∃ μ : hpMem, μ = hpw σ (k + 2) 0 r5 := ⟨_, rfl⟩
    rw [← e6]
    have hI6 : hpInv τ6 := by rw [e6]; exact hI.w (fo_3_1 hk _) (by omega) (by omega)
    have hF6 : ∀ j i : Nat, 169 ≤ j → τ6 j i = σ j i := fun j i h_0 => by rw [e6]; exact (hpw_fr (by omega)).trans (hF0 j i h_0)
    have hg7 : τ6 k 2 = r1 := by rw [e6]; exact (hpw_fr (Or.inl (by omega))).trans hg1
    have hg8 : τ6 (k + 1) 0 = r3 := by rw [e6]; exact (hpw_fr (Or.inl (by omega))).trans hg3
    have hg9 : τ6 (k + 2) 0 = r5 := by rw [e6]; exact hpw_eq
    refine h_aload_n C dX3_dropHighest_26 1 rfl rfl ?_
    refine h_dup C rfl dX3_dropHighest_27 ?_
    refine h_get C O3 3 hk (by decide) wd_160 dX3_dropHighest_28 (hp_fvI (by rw [hk]; rfl) rfl) ?_
    obtain ⟨hr10a, hr10b⟩ := hI6.b (bf_3_3 hk)
    generalize hg10 : τ6 k 3 = r10 at hr10a hr10b ⊢
    refine h_iconst C dX3_dropHighest_31 ?_
    refine h_isub C dX3_dropHighest_32 rfl ?_
    refine hp_anyI (fun r11 hr11 => ?_)
    obtain ⟨hr11a, hr11b⟩ := hr11
    refine h_put C O3 3 hk (by decide) rfl wd_160 dX3_dropHighest_33 rfl rfl (hp_fvI (by rw [hk]; rfl) hpu_at) ?_
    obtain ⟨τ12, e12⟩ : ∃ μ : hpMem, μ = hpw τ6 k 3 r11 := ⟨_, rfl⟩
    rw [← e12]
    have hI12 : hpInv τ12 := by rw [e12]; exact hI6.w (bf_3_3 hk) (by omega) (by omega)
    have hF12 : ∀ j i : Nat, 169 ≤ j → τ12 j i = σ j i := fun j i h_0 => by rw [e12]; exact (hpw_fr (by omega)).trans (hF6 j i h_0)
    have hg13 : τ12 k 2 = r1 := by rw [e12]; exact (hpw_fr (Or.inr (by decide))).trans hg7
    have hg14 : τ12 (k + 1) 0 = r3 := by rw [e12]; exact (hpw_fr (Or.inl (by omega))).trans hg8
    have hg15 : τ12 (k + 2) 0 = r5 := by rw [e12]; exact (hpw_fr (Or.inl (by omega))).trans hg9
    have hg16 : τ12 k 3 = r11 := by rw [e12]; exact hpw_eq
    refine h_aload_n C dX3_dropHighest_36 1 rfl rfl ?_
    refine h_dup C rfl dX3_dropHighest_37 ?_
    refine h_get C O3 4 hk (by decide) wd_165 dX3_dropHighest_38 (hp_fvI (by rw [hk]; rfl) rfl) ?_
    obtain ⟨hr17a, hr17b⟩ := hI12.b (bf_3_4 hk)
    generalize hg17 : τ12 k 4 = r17 at hr17a hr17b ⊢
    refine h_iload_n C dX3_dropHighest_41 0 rfl rfl ?_
    refine h_isub C dX3_dropHighest_42 rfl ?_
    refine hp_anyI (fun r18 hr18 => ?_)
    obtain ⟨hr18a, hr18b⟩ := hr18
    refine h_put C O3 4 hk (by decide) rfl wd_165 dX3_dropHighest_43 rfl rfl (hp_fvI (by rw [hk]; rfl) hpu_at) ?_
    obtain ⟨τ19, e19⟩ : ∃ μ : hpMem, μ = hpw τ12 k 4 r18 := ⟨_, rfl⟩
    rw [← e19]
    have hI19 : hpInv τ19 := by rw [e19]; exact hI12.w (bf_3_4 hk) (by omega) (by omega)
    have hF19 : ∀ j i : Nat, 169 ≤ j → τ19 j i = σ j i := fun j i h_0 => by rw [e19]; exact (hpw_fr (by omega)).trans (hF12 j i h_0)
    have hg20 : τ19 k 2 = r1 := by rw [e19]; exact (hpw_fr (Or.inr (by decide))).trans hg13
    have hg21 : τ19 (k + 1) 0 = r3 := by rw [e19]; exact (hpw_fr (Or.inl (by omega))).trans hg14
    have hg22 : τ19 (k + 2) 0 = r5 := by rw [e19]; exact (hpw_fr (Or.inl (by omega))).trans hg15
    have hg23 : τ19 k 3 = r11 := by rw [e19]; exact (hpw_fr (Or.inr (by decide))).trans hg16
    have hg24 : τ19 k 4 = r18 := by rw [e19]; exact hpw_eq
    refine h_aload_n C dX3_dropHighest_46 1 rfl rfl ?_
    refine h_get C O3 1 hk (by decide) wd_155 dX3_dropHighest_47 (fs_3_1 hk) ?_
    refine h_iconst C dX3_dropHighest_50 ?_
    refine h_iaload C dX3_dropHighest_51 (fa_3_1 hk) 0 rfl (by rw [(fl_3_1 hk)]; decide) rfl ?_
    rw [hg22]
    refine h_if_ne (tgt := 99) C dX3_dropHighest_52 (by decide) ⟨by omega, by omega⟩ (fun h25 => ?_) (fun h25 => ?_)
    · refine h_iload_n C dX3_dropHighest_99 0 rfl rfl ?_
      refine h_ireturn C hr hlk dX3_dropHighest_100 ?_
      exact ⟨⟨_, rfl, ⟨by omega, by omega⟩⟩, hI19, hF19⟩
    · refine h_aload_n C dX3_dropHighest_55 1 rfl rfl ?_
      refine h_dup C rfl dX3_dropHighest_56 ?_
      refine h_get C O3 2 hk (by decide) wd_157 dX3_dropHighest_57 (hp_fvI (by rw [hk]; rfl) rfl) ?_
      rw [hg20]
      refine h_iconst C dX3_dropHighest_60 ?_
      refine h_isub C dX3_dropHighest_61 rfl ?_
      refine h_put C O3 2 hk (by decide) rfl wd_157 dX3_dropHighest_62 rfl rfl (hp_fvI (by rw [hk]; rfl) hpu_at) ?_
      obtain ⟨τ26, e26⟩ : ∃ μ : hpMem, μ = hpw τ19 k 2 (r1 - 1) := ⟨_, rfl⟩
      rw [← e26]
      have hI26 : hpInv τ26 := by rw [e26]; exact hI19.w (bf_3_2 hk) (by omega) (by omega)
      have hF26 : ∀ j i : Nat, 169 ≤ j → τ26 j i = σ j i := fun j i h_0 => by rw [e26]; exact (hpw_fr (by omega)).trans (hF19 j i h_0)
      have hg27 : τ26 (k + 1) 0 = r3 := by rw [e26]; exact (hpw_fr (Or.inl (by omega))).trans hg21
      have hg28 : τ26 (k + 2) 0 = r5 := by rw [e26]; exact (hpw_fr (Or.inl (by omega))).trans hg22
      have hg29 : τ26 k 3 = r11 := by rw [e26]; exact (hpw_fr (Or.inr (by decide))).trans hg23
      have hg30 : τ26 k 4 = r18 := by rw [e26]; exact (hpw_fr (Or.inr (by decide))).trans hg24
      have hg31 : τ26 k 2 = r1 - 1 := by rw [e26]; exact hpw_eq
      refine h_aload_n C dX3_dropHighest_65 1 rfl rfl ?_
      refine h_get C O3 0 hk (by decide) wd_152 dX3_dropHighest_66 (fs_3_0 hk) ?_
      refine h_iconst C dX3_dropHighest_69 ?_
      refine h_aload_n C dX3_dropHighest_70 1 rfl rfl ?_
      refine h_get C O3 0 hk (by decide) wd_152 dX3_dropHighest_71 (fs_3_0 hk) ?_
      refine h_iconst C dX3_dropHighest_74 ?_
      refine h_aload_n C dX3_dropHighest_75 1 rfl rfl ?_
      refine h_get C O3 2 hk (by decide) wd_157 dX3_dropHighest_76 (hp_fvI (by rw [hk]; rfl) rfl) ?_
      rw [hg31]
      refine h_copyI C wd_600 wd_536 wd_535 wd_16 dX3_dropHighest_79 (fa_3_0 hk) (fa_3_0 hk) 1 0 (r1 - 1).toNat rfl rfl (Int.toNat_of_nonneg (by omega)) (by rw [(fl_3_0 hk)]; omega) (by rw [(fl_3_0 hk)]; omega) (Nat.le_of_ble_eq_true rfl) (Nat.le_of_ble_eq_true rfl) ?_
      obtain ⟨τ32, e32⟩ : ∃ μ : hpMem, μ = hpwr τ26 (k + 1) (hpcp (τ26 (k + 1)) (τ26 (k + 1)) 1 0 ((r1 - 1).toNat)) := ⟨_, rfl⟩
      rw [← e32]
      have hI32 : hpInv τ32 := by rw [e32]; exact hI26.cp (fun i => fo_3_0 hk i) (fun i => fo_3_0 hk i)
      have hF32 : ∀ j i : Nat, 169 ≤ j → τ32 j i = σ j i := fun j i h_0 => by rw [e32]; exact (hpwr_fr (by omega)).trans (hF26 j i h_0)
      have hg33 : τ32 (k + 2) 0 = r5 := by rw [e32]; exact (hpwr_fr (by omega)).trans hg28
      have hg34 : τ32 k 3 = r11 := by rw [e32]; exact (hpwr_fr (by omega)).trans hg29
      have hg35 : τ32 k 4 = r18 := by rw [e32]; exact (hpwr_fr (by omega)).trans hg30
      have hg36 : τ32 k 2 = r1 - 1 := by rw [e32]; exact (hpwr_fr (by omega)).trans hg31
      refine h_aload_n C dX3_dropHighest_82 1 rfl rfl ?_
      refine h_get C O3 1 hk (by decide) wd_155 dX3_dropHighest_83 (fs_3_1 hk) ?_
      refine h_iconst C dX3_dropHighest_86 ?_
      refine h_aload_n C dX3_dropHighest_87 1 rfl rfl ?_
      refine h_get C O3 1 hk (by decide) wd_155 dX3_dropHighest_88 (fs_3_1 hk) ?_
      refine h_iconst C dX3_dropHighest_91 ?_
      refine h_aload_n C dX3_dropHighest_92 1 rfl rfl ?_
      refine h_get C O3 2 hk (by decide) wd_157 dX3_dropHighest_93 (hp_fvI (by rw [hk]; rfl) rfl) ?_
      rw [hg36]
      refine h_copyI C wd_600 wd_536 wd_535 wd_16 dX3_dropHighest_96 (fa_3_1 hk) (fa_3_1 hk) 1 0 (r1 - 1).toNat rfl rfl (Int.toNat_of_nonneg (by omega)) (by rw [(fl_3_1 hk)]; omega) (by rw [(fl_3_1 hk)]; omega) (Nat.le_of_ble_eq_true rfl) (Nat.le_of_ble_eq_true rfl) ?_
      obtain ⟨τ37, e37⟩ : ∃ μ : hpMem, μ = hpwr τ32 (k + 2) (hpcp (τ32 (k + 2)) (τ32 (k + 2)) 1 0 ((r1 - 1).toNat)) := ⟨_, rfl⟩
      rw [← e37]
      have hI37 : hpInv τ37 := by rw [e37]; exact hI32.cp (fun i => fo_3_1 hk i) (fun i => fo_3_1 hk i)
      have hF37 : ∀ j i : Nat, 169 ≤ j → τ37 j i = σ j i := fun j i h_0 => by rw [e37]; exact (hpwr_fr (by omega)).trans (hF32 j i h_0)
      have hg38 : τ37 k 3 = r11 := by rw [e37]; exact (hpwr_fr (by omega)).trans hg34
      have hg39 : τ37 k 4 = r18 := by rw [e37]; exact (hpwr_fr (by omega)).trans hg35
      have hg40 : τ37 k 2 = r1 - 1 := by rw [e37]; exact (hpwr_fr (by omega)).trans hg36
      refine h_iload_n C dX3_dropHighest_99 0 rfl rfl ?_
      refine h_ireturn C hr hlk dX3_dropHighest_100 ?_
      exact ⟨⟨_, rfl, ⟨by omega, by omega⟩⟩, hI37, hF37⟩
  · refine h_iconst C dX3_dropHighest_7 ?_
    refine h_ireturn C hr hlk dX3_dropHighest_8 ?_
    exact ⟨⟨_, rfl, ⟨by decide, by decide⟩⟩, hI, hF0⟩
abbrev rgX3_offEach : Room := { frames := 0, cells := 0, slots := 0, locals := 0 }
abbrev pgX3_offEach (z : Nat) (σ : hpMem) (a0 : Int) (a1 : Int) : Option Value → hpMem → Prop := fun r τ => (∃ x : Int, r = some (.int (hpI x)) ∧ (hpR x)) ∧ σ = τ
set_option maxHeartbeats 4000000 in
set_option maxRecDepth 20000 in
theorem tgX3_offEach (l : Launch) (D : va_G) (cy : Nat → ClassId) (z : Nat) (σ : hpMem) (a0 : Int) (ha0 : hpR a0) (a1 : Int) (ha1 : hpR a1) (hI : hpInv σ) : hpM l D cy z yX3_offEach cX3_offEach 2 (some .int) rgX3_offEach [.int (hpI a0), .int (hpI a1)] σ (pgX3_offEach z σ a0 a1) := by
  obtain ⟨ha01, ha02⟩ := ha0
  obtain ⟨ha11, ha12⟩ := ha1
  refine hp_met rfl (Nat.le_of_ble_eq_true rfl) (fun p e s m below meth c C Z hr hlk => ?_)
  refine h_iload_n C dX3_offEach_0 1 rfl rfl ?_
  refine h_iconst C dX3_offEach_1 ?_
  refine h_icmp_le (tgt := 16) C dX3_offEach_2 (by decide) ⟨by omega, by omega⟩ ⟨by decide, by decide⟩ (fun h1 => ?_) (fun h1 => ?_)
  · refine h_iload_n C dX3_offEach_16 0 rfl rfl ?_
    refine h_iconst C dX3_offEach_17 ?_
    refine h_icmp_ne (tgt := 25) C dX3_offEach_18 (by decide) ⟨by omega, by omega⟩ ⟨by decide, by decide⟩ (fun h2 => ?_) (fun h2 => ?_)
    · refine h_iconst C dX3_offEach_25 ?_
      refine h_ireturn C hr hlk dX3_offEach_26 ?_
      exact ⟨⟨_, rfl, ⟨by decide, by decide⟩⟩, rfl⟩
    · refine h_iconst C dX3_offEach_21 ?_
      refine h_goto (tgt := 26) C dX3_offEach_22 (by decide) ?_
      refine h_ireturn C hr hlk dX3_offEach_26 ?_
      exact ⟨⟨_, rfl, ⟨by decide, by decide⟩⟩, rfl⟩
  · refine h_iload_n C dX3_offEach_5 0 rfl rfl ?_
    refine h_iconst C dX3_offEach_6 ?_
    refine h_icmp_ne (tgt := 14) C dX3_offEach_7 (by decide) ⟨by omega, by omega⟩ ⟨by decide, by decide⟩ (fun h3 => ?_) (fun h3 => ?_)
    · refine h_iconst C dX3_offEach_14 ?_
      refine h_ireturn C hr hlk dX3_offEach_15 ?_
      exact ⟨⟨_, rfl, ⟨by decide, by decide⟩⟩, rfl⟩
    · refine h_iconst C dX3_offEach_10 ?_
      refine h_goto (tgt := 15) C dX3_offEach_11 (by decide) ?_
      refine h_ireturn C hr hlk dX3_offEach_15 ?_
      exact ⟨⟨_, rfl, ⟨by decide, by decide⟩⟩, rfl⟩
abbrev rgX3_lower : Room := { frames := 1, cells := 0, slots := 0, locals := 21 }
abbrev pgX3_lower (z : Nat) (σ : hpMem) (k : Nat) (a0 : Int) : Option Value → hpMem → Prop := fun r τ => (∃ x : Int, r = some (.int (hpI x)) ∧ (hpR x)) ∧ hpInv τ ∧ (∀ j i : Nat, 169 ≤ j → τ j i = σ j i)
set_option maxHeartbeats 4000000 in
set_option maxRecDepth 20000 in
theorem tgX3_lower (l : Launch) (D : va_G) (cy : Nat → ClassId) (z : Nat) (σ : hpMem) (k : Nat) (hk : hpkd k = 3) (a0 : Int) (ha0 : hpR a0) (hI : hpInv σ) : hpM l D cy z yX3_lower cX3_lower 8 (some .int) rgX3_lower [.ref (z + k), .int (hpI a0)] σ (pgX3_lower z σ k a0) := by
  obtain ⟨ha01, ha02⟩ := ha0
  refine hp_met rfl (Nat.le_of_ble_eq_true rfl) (fun p e s m below meth c C Z hr hlk => ?_)
  have hF0 : ∀ j i : Nat, 169 ≤ j → σ j i = σ j i := fun j i _ => rfl
  have hl_k := kb_3 hk
  refine h_iconst C dX3_lower_0 ?_
  refine h_istore_n (lv' := [(2, .int (hpI 0)), (0, .ref (z + k)), (1, .int (hpI a0))]) C dX3_lower_1 rfl (by decide) rfl ?_
  refine h_iconst C dX3_lower_2 ?_
  refine h_istore_n (lv' := [(3, .int (hpI 0)), (2, .int (hpI 0)), (0, .ref (z + k)), (1, .int (hpI a0))]) C dX3_lower_3 rfl (by decide) rfl ?_
  refine h_iconst C dX3_lower_4 ?_
  refine h_istore (lv' := [(4, .int (hpI 0)), (3, .int (hpI 0)), (2, .int (hpI 0)), (0, .ref (z + k)), (1, .int (hpI a0))]) C dX3_lower_5 (by decide) rfl ?_
  refine h_iconst C dX3_lower_7 ?_
  refine h_istore (lv' := [(5, .int (hpI 0)), (4, .int (hpI 0)), (3, .int (hpI 0)), (2, .int (hpI 0)), (0, .ref (z + k)), (1, .int (hpI a0))]) C dX3_lower_8 (by decide) rfl ?_
  have L1 : ∀ (n1 : Nat) (τ1 : hpMem) (w1_2 : Int) (w1_3 : Int) (w1_4 : Int) (w1_5 : Int), -2147483648 ≤ w1_2 → w1_2 ≤ 2147483647 → -2147483648 ≤ w1_3 → w1_3 ≤ 2147483647 → 0 ≤ w1_4 → w1_4 ≤ 2147483647 → 0 ≤ w1_5 → w1_5 ≤ 40 → w1_4 ≤ w1_5 → hpInv τ1 → (∀ j i : Nat, 169 ≤ j → τ1 j i = σ j i) → (41 - w1_5) < (n1 : Int) → hpF p l e rgX3_lower s m [.ref (z + k), .int (hpI a0)] below meth c 8 D cy z (pgX3_lower z σ k a0) τ1 10 [(0, .ref (z + k)), (1, .int (hpI a0)), (2, .int (hpI w1_2)), (3, .int (hpI w1_3)), (4, .int (hpI w1_4)), (5, .int (hpI w1_5))] [] := by
    intro n1
    induction n1 with
    | zero => intro τ1 w1_2 w1_3 w1_4 w1_5 hv1_0 hv1_1 hv1_2 hv1_3 hv1_4 hv1_5 hv1_6 hv1_7 hv1_8 hI1 hF1 hm1; exfalso; omega
    | succ n1 ih1 =>
      intro τ1 w1_2 w1_3 w1_4 w1_5 hv1_0 hv1_1 hv1_2 hv1_3 hv1_4 hv1_5 hv1_6 hv1_7 hv1_8 hI1 hF1 hm1
      refine h_iload C dX3_lower_10 5 rfl ?_
      refine h_aload_n C dX3_lower_12 0 rfl rfl ?_
      refine h_get C O3 2 hk (by decide) wd_157 dX3_lower_13 (hp_fvI (by rw [hk]; rfl) rfl) ?_
      obtain ⟨hr2a, hr2b⟩ := hI1.b (bf_3_2 hk)
      generalize hg2 : τ1 k 2 = r2 at hr2a hr2b ⊢
      refine h_icmp_ge (tgt := 145) C dX3_lower_16 (by decide) ⟨by omega, by omega⟩ ⟨by omega, by omega⟩ (fun h3 => ?_) (fun h3 => ?_)
      · refine h_aload_n C dX3_lower_145 0 rfl rfl ?_
        refine h_iload C dX3_lower_146 4 rfl ?_
        refine h_put C O3 2 hk (by decide) rfl wd_157 dX3_lower_148 rfl rfl (hp_fvI (by rw [hk]; rfl) hpu_at) ?_
        obtain ⟨τ4, e4⟩ : ∃ μ : hpMem, μ = hpw τ1 k 2 w1_4 := ⟨_, rfl⟩
        rw [← e4]
        have hI4 : hpInv τ4 := by rw [e4]; exact hI1.w (bf_3_2 hk) (by omega) (by omega)
        have hF4 : ∀ j i : Nat, 169 ≤ j → τ4 j i = σ j i := fun j i h_0 => by rw [e4]; exact (hpw_fr (by omega)).trans (hF1 j i h_0)
        have hg5 : τ4 k 2 = w1_4 := by rw [e4]; exact hpw_eq
        refine h_aload_n C dX3_lower_151 0 rfl rfl ?_
        refine h_iload_n C dX3_lower_152 3 rfl rfl ?_
        refine h_put C O3 3 hk (by decide) rfl wd_160 dX3_lower_153 rfl rfl (hp_fvI (by rw [hk]; rfl) hpu_at) ?_
        obtain ⟨τ6, e6⟩ : ∃ μ : hpMem, μ = hpw τ4 k 3 w1_3 := ⟨_, rfl⟩
        rw [← e6]
        have hI6 : hpInv τ6 := by rw [e6]; exact hI4.w (bf_3_3 hk) (by omega) (by omega)
        have hF6 : ∀ j i : Nat, 169 ≤ j → τ6 j i = σ j i := fun j i h_0 => by rw [e6]; exact (hpw_fr (by omega)).trans (hF4 j i h_0)
        have hg7 : τ6 k 2 = w1_4 := by rw [e6]; exact (hpw_fr (Or.inr (by decide))).trans hg5
        have hg8 : τ6 k 3 = w1_3 := by rw [e6]; exact hpw_eq
        refine h_aload_n C dX3_lower_156 0 rfl rfl ?_
        refine h_dup C rfl dX3_lower_157 ?_
        refine h_get C O3 4 hk (by decide) wd_165 dX3_lower_158 (hp_fvI (by rw [hk]; rfl) rfl) ?_
        obtain ⟨hr9a, hr9b⟩ := hI6.b (bf_3_4 hk)
        generalize hg9 : τ6 k 4 = r9 at hr9a hr9b ⊢
        refine h_iload_n C dX3_lower_161 2 rfl rfl ?_
        refine h_isub C dX3_lower_162 rfl ?_
        refine hp_anyI (fun r10 hr10 => ?_)
        obtain ⟨hr10a, hr10b⟩ := hr10
        refine h_put C O3 4 hk (by decide) rfl wd_165 dX3_lower_163 rfl rfl (hp_fvI (by rw [hk]; rfl) hpu_at) ?_
        obtain ⟨τ11, e11⟩ : ∃ μ : hpMem, μ = hpw τ6 k 4 r10 := ⟨_, rfl⟩
        rw [← e11]
        have hI11 : hpInv τ11 := by rw [e11]; exact hI6.w (bf_3_4 hk) (by omega) (by omega)
        have hF11 : ∀ j i : Nat, 169 ≤ j → τ11 j i = σ j i := fun j i h_0 => by rw [e11]; exact (hpw_fr (by omega)).trans (hF6 j i h_0)
        have hg12 : τ11 k 2 = w1_4 := by rw [e11]; exact (hpw_fr (Or.inr (by decide))).trans hg7
        have hg13 : τ11 k 3 = w1_3 := by rw [e11]; exact (hpw_fr (Or.inr (by decide))).trans hg8
        have hg14 : τ11 k 4 = r10 := by rw [e11]; exact hpw_eq
        refine h_iload_n C dX3_lower_166 2 rfl rfl ?_
        refine h_ireturn C hr hlk dX3_lower_167 ?_
        exact ⟨⟨_, rfl, ⟨by omega, by omega⟩⟩, hI11, hF11⟩
      · refine h_iload_n C dX3_lower_19 1 rfl rfl ?_
        refine h_aload_n C dX3_lower_20 0 rfl rfl ?_
        refine h_get C O3 0 hk (by decide) wd_152 dX3_lower_21 (fs_3_0 hk) ?_
        refine h_iload C dX3_lower_24 5 rfl ?_
        refine h_iaload C dX3_lower_26 (fa_3_0 hk) (w1_5).toNat (Int.toNat_of_nonneg (by omega)) (by rw [(fl_3_0 hk)]; omega) rfl ?_
        obtain ⟨hr15a, hr15b⟩ := hI1.b (fo_3_0 hk _)
        generalize hg15 : τ1 (k + 1) ((w1_5).toNat) = r15 at hr15a hr15b ⊢
        refine h_callS (As := [.int (hpI a0), .int (hpI r15)]) (rest := []) C Z yyX3_offEach rfl wd_630 (tgX3_offEach l D cy z _ a0 ⟨by omega, by omega⟩ r15 ⟨by omega, by omega⟩ hI1) rfl rfl ⟨rfl, rfl, Nat.le_of_ble_eq_true rfl, Nat.le_of_ble_eq_true rfl⟩ ⟨Nat.le_of_ble_eq_true rfl, Nat.le_of_ble_eq_true rfl⟩ (Nat.le_of_ble_eq_true rfl) dX3_lower_27 (fun r16 τ16 hp16 => ?_)
        obtain ⟨⟨x16, rfl, ⟨hx16a, hx16b⟩⟩, rfl⟩ := hp16
        show hpV _ _ _ _ _ _ _ _ _ _ _ _ _ _ _ _ _ _ _ _ _ (_ :: _)
        refine h_istore (lv' := [(6, .int (hpI x16)), (0, .ref (z + k)), (1, .int (hpI a0)), (2, .int (hpI w1_2)), (3, .int (hpI w1_3)), (4, .int (hpI w1_4)), (5, .int (hpI w1_5))]) C dX3_lower_30 (by decide) rfl ?_
        refine h_aload_n C dX3_lower_32 1 rfl rfl ?_
        refine h_get C O3 0 hk (by decide) wd_152 dX3_lower_33 (fs_3_0 hk) ?_
        refine h_iload C dX3_lower_36 6 rfl ?_
        refine h_iaload C dX3_lower_38 (fa_3_0 hk) (w1_5).toNat (Int.toNat_of_nonneg (by omega)) (by rw [(fl_3_0 hk)]; omega) rfl ?_
        rw [hg15]
        refine h_iload C dX3_lower_39 0 rfl ?_
        refine h_isub C dX3_lower_41 rfl ?_
        refine hp_anyI (fun r17 hr17 => ?_)
        obtain ⟨hr17a, hr17b⟩ := hr17
        refine h_istore (lv' := [(7, .int (hpI r17)), (6, .int (hpI x16)), (0, .ref (z + k)), (1, .int (hpI a0)), (2, .int (hpI w1_2)), (3, .int (hpI w1_3)), (4, .int (hpI w1_4)), (5, .int (hpI w1_5))]) C dX3_lower_42 (by decide) rfl ?_
        refine h_iload_n C dX3_lower_44 4 rfl rfl ?_
        refine h_iload C dX3_lower_45 1 rfl ?_
        refine h_aload_n C dX3_lower_47 2 rfl rfl ?_
        refine h_get C O3 1 hk (by decide) wd_155 dX3_lower_48 (fs_3_1 hk) ?_
        refine h_iload C dX3_lower_51 7 rfl ?_
        refine h_iaload C dX3_lower_53 (fa_3_1 hk) (w1_5).toNat (Int.toNat_of_nonneg (by omega)) (by rw [(fl_3_1 hk)]; omega) rfl ?_
        obtain ⟨hr18a, hr18b⟩ := hI1.b (fo_3_1 hk _)
        generalize hg18 : τ1 (k + 2) ((w1_5).toNat) = r18 at hr18a hr18b ⊢
        refine h_imul C dX3_lower_54 rfl ?_
        refine hp_anyI (fun r19 hr19 => ?_)
        obtain ⟨hr19a, hr19b⟩ := hr19
        refine h_iadd C dX3_lower_55 rfl ?_
        refine hp_anyI (fun r20 hr20 => ?_)
        obtain ⟨hr20a, hr20b⟩ := hr20
        refine h_istore_n (lv' := [(2, .int (hpI r20)), (7, .int (hpI r17)), (6, .int (hpI x16)), (0, .ref (z + k)), (1, .int (hpI a0)), (3, .int (hpI w1_3)), (4, .int (hpI w1_4)), (5, .int (hpI w1_5))]) C dX3_lower_56 rfl (by decide) rfl ?_
        refine h_iload C dX3_lower_57 1 rfl ?_
        refine h_if_le (tgt := 139) C dX3_lower_59 (by decide) ⟨by omega, by omega⟩ (fun h21 => ?_) (fun h21 => ?_)
        · refine h_iinc (lv' := [(5, .int (hpI (w1_5 + 1))), (2, .int (hpI r20)), (7, .int (hpI r17)), (6, .int (hpI x16)), (0, .ref (z + k)), (1, .int (hpI a0)), (3, .int (hpI w1_3)), (4, .int (hpI w1_4))]) C dX3_lower_139 7 rfl rfl (by decide) rfl ?_
          refine h_goto (tgt := 10) C dX3_lower_142 (by decide) ?_
          exact hp_sub [4, 5, 1, 6, 7, 0] rfl (ih1 _ r20 w1_3 w1_4 (w1_5 + 1) (by omega) (by omega) (by omega) (by omega) (by omega) (by omega) (by omega) (by omega) (by omega) hI1 hF1 (by omega))
        · refine h_iload_n C dX3_lower_62 5 rfl rfl ?_
          refine h_aload_n C dX3_lower_63 3 rfl rfl ?_
          refine h_get C O3 1 hk (by decide) wd_155 dX3_lower_64 (fs_3_1 hk) ?_
          refine h_iload C dX3_lower_67 7 rfl ?_
          refine h_iaload C dX3_lower_69 (fa_3_1 hk) (w1_5).toNat (Int.toNat_of_nonneg (by omega)) (by rw [(fl_3_1 hk)]; omega) rfl ?_
          rw [hg18]
          refine h_iadd C dX3_lower_70 rfl ?_
          refine hp_anyI (fun r22 hr22 => ?_)
          obtain ⟨hr22a, hr22b⟩ := hr22
          refine h_istore_n (lv' := [(3, .int (hpI r22)), (2, .int (hpI r20)), (7, .int (hpI r17)), (6, .int (hpI x16)), (0, .ref (z + k)), (1, .int (hpI a0)), (4, .int (hpI w1_4)), (5, .int (hpI w1_5))]) C dX3_lower_71 rfl (by decide) rfl ?_
          refine h_iload C dX3_lower_72 6 rfl ?_
          refine h_if_le (tgt := 113) C dX3_lower_74 (by decide) ⟨by omega, by omega⟩ (fun h23 => ?_) (fun h23 => ?_)
          · refine h_aload_n C dX3_lower_113 4 rfl rfl ?_
            refine h_get C O3 0 hk (by decide) wd_152 dX3_lower_114 (fs_3_0 hk) ?_
            refine h_iload C dX3_lower_117 6 rfl ?_
            refine h_iload C dX3_lower_119 2 rfl ?_
            refine h_iastore C dX3_lower_121 (fa_3_0 hk) (w1_4).toNat (Int.toNat_of_nonneg (by omega)) (by rw [(fl_3_0 hk)]; omega) ?_
            obtain ⟨τ24, e24⟩ : ∃ μ : hpMem, μ = hpw τ1 (k + 1) ((w1_4).toNat) r17 := ⟨_, rfl⟩
            rw [← e24]
            have hI24 : hpInv τ24 := by rw [e24]; exact hI1.w (fo_3_0 hk _) (by omega) (by omega)
            have hF24 : ∀ j i : Nat, 169 ≤ j → τ24 j i = σ j i := fun j i h_0 => by rw [e24]; exact (hpw_fr (by omega)).trans (hF1 j i h_0)
            have hg25 : τ24 k 2 = r2 := by rw [e24]; exact (hpw_fr (Or.inl (by omega))).trans hg2
            have hg26 : τ24 (k + 2) ((w1_5).toNat) = r18 := by rw [e24]; exact (hpw_fr (Or.inl (by omega))).trans hg18
            refine h_aload_n C dX3_lower_122 4 rfl rfl ?_
            refine h_get C O3 1 hk (by decide) wd_155 dX3_lower_123 (fs_3_1 hk) ?_
            refine h_iload C dX3_lower_126 6 rfl ?_
            refine h_aload_n C dX3_lower_128 4 rfl rfl ?_
            refine h_get C O3 1 hk (by decide) wd_155 dX3_lower_129 (fs_3_1 hk) ?_
            refine h_iload C dX3_lower_132 7 rfl ?_
            refine h_iaload C dX3_lower_134 (fa_3_1 hk) (w1_5).toNat (Int.toNat_of_nonneg (by omega)) (by rw [(fl_3_1 hk)]; omega) rfl ?_
            rw [hg26]
            refine h_iastore C dX3_lower_135 (fa_3_1 hk) (w1_4).toNat (Int.toNat_of_nonneg (by omega)) (by rw [(fl_3_1 hk)]; omega) ?_
            obtain ⟨τ27, e27⟩ : ∃ μ : hpMem, μ = hpw τ24 (k + 2) ((w1_4).toNat) r18 := ⟨_, rfl⟩
            rw [← e27]
            have hI27 : hpInv τ27 := by rw [e27]; exact hI24.w (fo_3_1 hk _) (by omega) (by omega)
            have hF27 : ∀ j i : Nat, 169 ≤ j → τ27 j i = σ j i := fun j i h_0 => by rw [e27]; exact (hpw_fr (by omega)).trans (hF24 j i h_0)
            have hg28 : τ27 k 2 = r2 := by rw [e27]; exact (hpw_fr (Or.inl (by omega))).trans hg25
            refine h_iinc (lv' := [(4, .int (hpI (w1_4 + 1))), (3, .int (hpI r22)), (2, .int (hpI r20)), (7, .int (hpI r17)), (6, .int (hpI x16)), (0, .ref (z + k)), (1, .int (hpI a0)), (5, .int (hpI w1_5))]) C dX3_lower_136 6 rfl rfl (by decide) rfl ?_
            refine h_iinc (lv' := [(5, .int (hpI (w1_5 + 1))), (4, .int (hpI (w1_4 + 1))), (3, .int (hpI r22)), (2, .int (hpI r20)), (7, .int (hpI r17)), (6, .int (hpI x16)), (0, .ref (z + k)), (1, .int (hpI a0))]) C dX3_lower_139 7 rfl rfl (by decide) rfl ?_
            refine h_goto (tgt := 10) C dX3_lower_142 (by decide) ?_
            exact hp_sub [6, 7, 3, 2, 1, 0] rfl (ih1 _ r20 r22 (w1_4 + 1) (w1_5 + 1) (by omega) (by omega) (by omega) (by omega) (by omega) (by omega) (by omega) (by omega) (by omega) hI27 hF27 (by omega))
          · refine h_aload_n C dX3_lower_77 4 rfl rfl ?_
            refine h_get C O3 0 hk (by decide) wd_152 dX3_lower_78 (fs_3_0 hk) ?_
            refine h_iload C dX3_lower_81 6 rfl ?_
            refine h_iconst C dX3_lower_83 ?_
            refine h_isub C dX3_lower_84 rfl ?_
            refine h_iaload C dX3_lower_85 (fa_3_0 hk) (w1_4 - 1).toNat (Int.toNat_of_nonneg (by omega)) (by rw [(fl_3_0 hk)]; omega) rfl ?_
            obtain ⟨hr29a, hr29b⟩ := hI1.b (fo_3_0 hk _)
            generalize hg29 : τ1 (k + 1) ((w1_4 - 1).toNat) = r29 at hr29a hr29b ⊢
            refine h_iload C dX3_lower_86 2 rfl ?_
            refine h_icmp_ne (tgt := 113) C dX3_lower_88 (by decide) ⟨by omega, by omega⟩ ⟨by omega, by omega⟩ (fun h30 => ?_) (fun h30 => ?_)
            · refine h_aload_n C dX3_lower_113 4 rfl rfl ?_
              refine h_get C O3 0 hk (by decide) wd_152 dX3_lower_114 (fs_3_0 hk) ?_
              refine h_iload C dX3_lower_117 6 rfl ?_
              refine h_iload C dX3_lower_119 2 rfl ?_
              refine h_iastore C dX3_lower_121 (fa_3_0 hk) (w1_4).toNat (Int.toNat_of_nonneg (by omega)) (by rw [(fl_3_0 hk)]; omega) ?_
              obtain ⟨τ31, e31⟩ : ∃ μ : hpMem, μ = hpw τ1 (k + 1) ((w1_4).toNat) r17 := ⟨_, rfl⟩
              rw [← e31]
              have hI31 : hpInv τ31 := by rw [e31]; exact hI1.w (fo_3_0 hk _) (by omega) (by omega)
              have hF31 : ∀ j i : Nat, 169 ≤ j → τ31 j i = σ j i := fun j i h_0 => by rw [e31]; exact (hpw_fr (by omega)).trans (hF1 j i h_0)
              have hg32 : τ31 k 2 = r2 := by rw [e31]; exact (hpw_fr (Or.inl (by omega))).trans hg2
              have hg33 : τ31 (k + 2) ((w1_5).toNat) = r18 := by rw [e31]; exact (hpw_fr (Or.inl (by omega))).trans hg18
              refine h_aload_n C dX3_lower_122 4 rfl rfl ?_
              refine h_get C O3 1 hk (by decide) wd_155 dX3_lower_123 (fs_3_1 hk) ?_
              refine h_iload C dX3_lower_126 6 rfl ?_
              refine h_aload_n C dX3_lower_128 4 rfl rfl ?_
              refine h_get C O3 1 hk (by decide) wd_155 dX3_lower_129 (fs_3_1 hk) ?_
              refine h_iload C dX3_lower_132 7 rfl ?_
              refine h_iaload C dX3_lower_134 (fa_3_1 hk) (w1_5).toNat (Int.toNat_of_nonneg (by omega)) (by rw [(fl_3_1 hk)]; omega) rfl ?_
              rw [hg33]
              refine h_iastore C dX3_lower_135 (fa_3_1 hk) (w1_4).toNat (Int.toNat_of_nonneg (by omega)) (by rw [(fl_3_1 hk)]; omega) ?_
              obtain ⟨τ34, e34⟩ : ∃ μ : hpMem, μ = hpw τ31 (k + 2) ((w1_4).toNat) r18 := ⟨_, rfl⟩
              rw [← e34]
              have hI34 : hpInv τ34 := by rw [e34]; exact hI31.w (fo_3_1 hk _) (by omega) (by omega)
              have hF34 : ∀ j i : Nat, 169 ≤ j → τ34 j i = σ j i := fun j i h_0 => by rw [e34]; exact (hpw_fr (by omega)).trans (hF31 j i h_0)
              have hg35 : τ34 k 2 = r2 := by rw [e34]; exact (hpw_fr (Or.inl (by omega))).trans hg32
              refine h_iinc (lv' := [(4, .int (hpI (w1_4 + 1))), (3, .int (hpI r22)), (2, .int (hpI r20)), (7, .int (hpI r17)), (6, .int (hpI x16)), (0, .ref (z + k)), (1, .int (hpI a0)), (5, .int (hpI w1_5))]) C dX3_lower_136 6 rfl rfl (by decide) rfl ?_
              refine h_iinc (lv' := [(5, .int (hpI (w1_5 + 1))), (4, .int (hpI (w1_4 + 1))), (3, .int (hpI r22)), (2, .int (hpI r20)), (7, .int (hpI r17)), (6, .int (hpI x16)), (0, .ref (z + k)), (1, .int (hpI a0))]) C dX3_lower_139 7 rfl rfl (by decide) rfl ?_
              refine h_goto (tgt := 10) C dX3_lower_142 (by decide) ?_
              exact hp_sub [6, 7, 3, 2, 1, 0] rfl (ih1 _ r20 r22 (w1_4 + 1) (w1_5 + 1) (by omega) (by omega) (by omega) (by omega) (by omega) (by omega) (by omega) (by omega) (by omega) hI34 hF34 (by omega))
            · refine h_aload_n C dX3_lower_91 4 rfl rfl ?_
              refine h_get C O3 1 hk (by decide) wd_155 dX3_lower_92 (fs_3_1 hk) ?_
              refine h_iload C dX3_lower_95 6 rfl ?_
              refine h_iconst C dX3_lower_97 ?_
              refine h_isub C dX3_lower_98 rfl ?_
              refine h_dup2 C rfl rfl dX3_lower_99 ?_
              refine h_iaload C dX3_lower_100 (fa_3_1 hk) (w1_4 - 1).toNat (Int.toNat_of_nonneg (by omega)) (by rw [(fl_3_1 hk)]; omega) rfl ?_
              obtain ⟨hr36a, hr36b⟩ := hI1.b (fo_3_1 hk _)
              generalize hg36 : τ1 (k + 2) ((w1_4 - 1).toNat) = r36 at hr36a hr36b ⊢
              refine h_aload_n C dX3_lower_101 4 rfl rfl ?_
              refine h_get C O3 1 hk (by decide) wd_155 dX3_lower_102 (fs_3_1 hk) ?_
              refine h_iload C dX3_lower_105 7 rfl ?_
              refine h_iaload C dX3_lower_107 (fa_3_1 hk) (w1_5).toNat (Int.toNat_of_nonneg (by omega)) (by rw [(fl_3_1 hk)]; omega) rfl ?_
              rw [hg18]
              refine h_iadd C dX3_lower_108 rfl ?_
              refine hp_anyI (fun r37 hr37 => ?_)
              obtain ⟨hr37a, hr37b⟩ := hr37
              refine h_iastore C dX3_lower_109 (fa_3_1 hk) (w1_4 - 1).toNat (Int.toNat_of_nonneg (by omega)) (by rw [(fl_3_1 hk)]; omega) ?_
              obtain ⟨τ38, e38⟩ : ∃ μ : hpMem, μ = hpw τ1 (k + 2) ((w1_4 - 1).toNat) r37 := ⟨_, rfl⟩
              rw [← e38]
              have hI38 : hpInv τ38 := by rw [e38]; exact hI1.w (fo_3_1 hk _) (by omega) (by omega)
              have hF38 : ∀ j i : Nat, 169 ≤ j → τ38 j i = σ j i := fun j i h_0 => by rw [e38]; exact (hpw_fr (by omega)).trans (hF1 j i h_0)
              have hg39 : τ38 k 2 = r2 := by rw [e38]; exact (hpw_fr (Or.inl (by omega))).trans hg2
              have hg40 : τ38 (k + 1) ((w1_5).toNat) = r15 := by rw [e38]; exact (hpw_fr (Or.inl (by omega))).trans hg15
              have hg41 : τ38 (k + 1) ((w1_4 - 1).toNat) = r29 := by rw [e38]; exact (hpw_fr (Or.inl (by omega))).trans hg29
              refine h_goto (tgt := 139) C dX3_lower_110 (by decide) ?_
              refine h_iinc (lv' := [(5, .int (hpI (w1_5 + 1))), (3, .int (hpI r22)), (2, .int (hpI r20)), (7, .int (hpI r17)), (6, .int (hpI x16)), (0, .ref (z + k)), (1, .int (hpI a0)), (4, .int (hpI w1_4))]) C dX3_lower_139 7 rfl rfl (by decide) rfl ?_
              refine h_goto (tgt := 10) C dX3_lower_142 (by decide) ?_
              exact hp_sub [5, 6, 2, 1, 7, 0] rfl (ih1 _ r20 r22 w1_4 (w1_5 + 1) (by omega) (by omega) (by omega) (by omega) (by omega) (by omega) (by omega) (by omega) (by omega) hI38 hF38 (by omega))
  exact hp_sub [4, 5, 3, 2, 1, 0] rfl (L1 8589934592 _ 0 0 0 0 (by omega) (by omega) (by omega) (by omega) (by omega) (by omega) (by omega) (by omega) (by omega) hI hF0 (by omega))
abbrev rgX3_step : Room := { frames := 2, cells := 0, slots := 0, locals := 82 }
abbrev pgX3_step (z : Nat) (σ : hpMem) (k : Nat) (a0 : Int) : Option Value → hpMem → Prop := fun r τ => r = none ∧ hpInv τ ∧ (∀ j i : Nat, 169 ≤ j → τ j i = σ j i)
set_option maxHeartbeats 4000000 in
set_option maxRecDepth 20000 in
theorem tgX3_step (l : Launch) (D : va_G) (cy : Nat → ClassId) (z : Nat) (σ : hpMem) (k : Nat) (hk : hpkd k = 3) (a0 : Int) (ha0 : hpR a0) (hI : hpInv σ) : hpM l D cy z yX3_step cX3_step 3 none rgX3_step [.ref (z + k), .int (hpI a0)] σ (pgX3_step z σ k a0) := by
  obtain ⟨ha01, ha02⟩ := ha0
  refine hp_met rfl (Nat.le_of_ble_eq_true rfl) (fun p e s m below meth c C Z hr hlk => ?_)
  have hF0 : ∀ j i : Nat, 169 ≤ j → σ j i = σ j i := fun j i _ => rfl
  have hl_k := kb_3 hk
  refine h_iload_n C dX3_step_0 1 rfl rfl ?_
  refine h_iconst C dX3_step_1 ?_
  refine h_icmp_ne (tgt := 12) C dX3_step_2 (by decide) ⟨by omega, by omega⟩ ⟨by decide, by decide⟩ (fun h1 => ?_) (fun h1 => ?_)
  · refine h_iconst C dX3_step_12 ?_
    refine h_istore_n (lv' := [(2, .int (hpI 0)), (0, .ref (z + k)), (1, .int (hpI a0))]) C dX3_step_13 rfl (by decide) rfl ?_
    refine h_aload_n C dX3_step_14 1 rfl rfl ?_
    refine h_aload_n C dX3_step_15 1 rfl rfl ?_
    refine h_iload_n C dX3_step_16 2 rfl rfl ?_
    refine h_callV (As := [.int (hpI a0)]) (rest := [.ref (z + k)]) C Z yyX3_lower wd_626 (tgX3_lower l D cy z _ k hk a0 ⟨by omega, by omega⟩ hI) hk rfl rfl ⟨rfl, rfl, Nat.le_of_ble_eq_true rfl, Nat.le_of_ble_eq_true rfl⟩ ⟨Nat.le_of_ble_eq_true rfl, Nat.le_of_ble_eq_true rfl⟩ (Nat.le_of_ble_eq_true rfl) dX3_step_17 (fun r2 τ2 hp2 => ?_)
    obtain ⟨⟨x2, rfl, ⟨hx2a, hx2b⟩⟩, hI2, hG2⟩ := hp2
    have hF2 : ∀ j i : Nat, 169 ≤ j → τ2 j i = σ j i := fun j i h_0 => (hG2 j i (by omega)).trans (hF0 j i h_0)
    show hpV _ _ _ _ _ _ _ _ _ _ _ _ _ _ _ _ _ _ _ _ _ (_ :: _)
    refine h_callV (As := [.int (hpI x2)]) (rest := []) C Z yyX3_lay wd_633 (tgX3_lay l D cy z _ k hk x2 ⟨by omega, by omega⟩ hI2) hk rfl rfl ⟨rfl, rfl, Nat.le_of_ble_eq_true rfl, Nat.le_of_ble_eq_true rfl⟩ ⟨Nat.le_of_ble_eq_true rfl, Nat.le_of_ble_eq_true rfl⟩ (Nat.le_of_ble_eq_true rfl) dX3_step_20 (fun r3 τ3 hp3 => ?_)
    obtain ⟨rfl, hI3, hG3⟩ := hp3
    have hF3 : ∀ j i : Nat, 169 ≤ j → τ3 j i = σ j i := fun j i h_0 => (hG3 j i (by omega)).trans (hF2 j i h_0)
    show hpV _ _ _ _ _ _ _ _ _ _ _ _ _ _ _ _ _ _ _ _ _ []
    refine h_aload_n C dX3_step_23 1 rfl rfl ?_
    refine h_iload_n C dX3_step_24 0 rfl rfl ?_
    refine h_callV (As := [.int (hpI 0)]) (rest := []) C Z yyX3_lay wd_633 (tgX3_lay l D cy z _ k hk 0 ⟨by decide, by decide⟩ hI3) hk rfl rfl ⟨rfl, rfl, Nat.le_of_ble_eq_true rfl, Nat.le_of_ble_eq_true rfl⟩ ⟨Nat.le_of_ble_eq_true rfl, Nat.le_of_ble_eq_true rfl⟩ (Nat.le_of_ble_eq_true rfl) dX3_step_25 (fun r4 τ4 hp4 => ?_)
    obtain ⟨rfl, hI4, hG4⟩ := hp4
    have hF4 : ∀ j i : Nat, 169 ≤ j → τ4 j i = σ j i := fun j i h_0 => (hG4 j i (by omega)).trans (hF3 j i h_0)
    show hpV _ _ _ _ _ _ _ _ _ _ _ _ _ _ _ _ _ _ _ _ _ []
    refine h_return C hr hlk dX3_step_28 ?_
    exact ⟨rfl, hI4, hF4⟩
  · refine h_aload_n C dX3_step_5 0 rfl rfl ?_
    refine h_callV (As := []) (rest := []) C Z yyX3_dropHighest wd_625 (tgX3_dropHighest l D cy z _ k hk hI) hk rfl rfl ⟨rfl, rfl, Nat.le_of_ble_eq_true rfl, Nat.le_of_ble_eq_true rfl⟩ ⟨Nat.le_of_ble_eq_true rfl, Nat.le_of_ble_eq_true rfl⟩ (Nat.le_of_ble_eq_true rfl) dX3_step_6 (fun r5 τ5 hp5 => ?_)
    obtain ⟨⟨x5, rfl, ⟨hx5a, hx5b⟩⟩, hI5, hG5⟩ := hp5
    have hF5 : ∀ j i : Nat, 169 ≤ j → τ5 j i = σ j i := fun j i h_0 => (hG5 j i (by omega)).trans (hF0 j i h_0)
    show hpV _ _ _ _ _ _ _ _ _ _ _ _ _ _ _ _ _ _ _ _ _ (_ :: _)
    refine h_goto (tgt := 13) C dX3_step_9 (by decide) ?_
    refine h_istore_n (lv' := [(2, .int (hpI x5)), (0, .ref (z + k)), (1, .int (hpI a0))]) C dX3_step_13 rfl (by decide) rfl ?_
    refine h_aload_n C dX3_step_14 1 rfl rfl ?_
    refine h_aload_n C dX3_step_15 1 rfl rfl ?_
    refine h_iload_n C dX3_step_16 2 rfl rfl ?_
    refine h_callV (As := [.int (hpI a0)]) (rest := [.ref (z + k)]) C Z yyX3_lower wd_626 (tgX3_lower l D cy z _ k hk a0 ⟨by omega, by omega⟩ hI5) hk rfl rfl ⟨rfl, rfl, Nat.le_of_ble_eq_true rfl, Nat.le_of_ble_eq_true rfl⟩ ⟨Nat.le_of_ble_eq_true rfl, Nat.le_of_ble_eq_true rfl⟩ (Nat.le_of_ble_eq_true rfl) dX3_step_17 (fun r6 τ6 hp6 => ?_)
    obtain ⟨⟨x6, rfl, ⟨hx6a, hx6b⟩⟩, hI6, hG6⟩ := hp6
    have hF6 : ∀ j i : Nat, 169 ≤ j → τ6 j i = σ j i := fun j i h_0 => (hG6 j i (by omega)).trans (hF5 j i h_0)
    show hpV _ _ _ _ _ _ _ _ _ _ _ _ _ _ _ _ _ _ _ _ _ (_ :: _)
    refine h_callV (As := [.int (hpI x6)]) (rest := []) C Z yyX3_lay wd_633 (tgX3_lay l D cy z _ k hk x6 ⟨by omega, by omega⟩ hI6) hk rfl rfl ⟨rfl, rfl, Nat.le_of_ble_eq_true rfl, Nat.le_of_ble_eq_true rfl⟩ ⟨Nat.le_of_ble_eq_true rfl, Nat.le_of_ble_eq_true rfl⟩ (Nat.le_of_ble_eq_true rfl) dX3_step_20 (fun r7 τ7 hp7 => ?_)
    obtain ⟨rfl, hI7, hG7⟩ := hp7
    have hF7 : ∀ j i : Nat, 169 ≤ j → τ7 j i = σ j i := fun j i h_0 => (hG7 j i (by omega)).trans (hF6 j i h_0)
    show hpV _ _ _ _ _ _ _ _ _ _ _ _ _ _ _ _ _ _ _ _ _ []
    refine h_aload_n C dX3_step_23 1 rfl rfl ?_
    refine h_iload_n C dX3_step_24 0 rfl rfl ?_
    refine h_callV (As := [.int (hpI x5)]) (rest := []) C Z yyX3_lay wd_633 (tgX3_lay l D cy z _ k hk x5 ⟨by omega, by omega⟩ hI7) hk rfl rfl ⟨rfl, rfl, Nat.le_of_ble_eq_true rfl, Nat.le_of_ble_eq_true rfl⟩ ⟨Nat.le_of_ble_eq_true rfl, Nat.le_of_ble_eq_true rfl⟩ (Nat.le_of_ble_eq_true rfl) dX3_step_25 (fun r8 τ8 hp8 => ?_)
    obtain ⟨rfl, hI8, hG8⟩ := hp8
    have hF8 : ∀ j i : Nat, 169 ≤ j → τ8 j i = σ j i := fun j i h_0 => (hG8 j i (by omega)).trans (hF7 j i h_0)
    show hpV _ _ _ _ _ _ _ _ _ _ _ _ _ _ _ _ _ _ _ _ _ []
    refine h_return C hr hlk dX3_step_28 ?_
    exact ⟨rfl, hI8, hF8⟩
abbrev rgX3_touched : Room := { frames := 0, cells := 0, slots := 0, locals := 0 }
abbrev pgX3_touched (z : Nat) (σ : hpMem) (k : Nat) (a0 : Int) (a1 : Int) : Option Value → hpMem → Prop := fun r τ => (∃ x : Int, r = some (.int (hpI x)) ∧ (hpR x)) ∧ σ = τ
set_option maxHeartbeats 4000000 in
set_option maxRecDepth 20000 in
theorem tgX3_touched (l : Launch) (D : va_G) (cy : Nat → ClassId) (z : Nat) (σ : hpMem) (k : Nat) (hk : hpkd k = 3) (a0 : Int) (ha0 : hpR a0) (a1 : Int) (ha1 : hpR a1) (hI : hpInv σ) (hr0 : 0 ≤ a1 ∧ a1 ≤ 39) : hpM l D cy z yX3_touched cX3_touched 3 (some .int) rgX3_touched [.ref (z + k), .int (hpI a0), .int (hpI a1)] σ (pgX3_touched z σ k a0 a1) := by
  obtain ⟨ha01, ha02⟩ := ha0
  obtain ⟨ha11, ha12⟩ := ha1
  refine hp_met rfl (Nat.le_of_ble_eq_true rfl) (fun p e s m below meth c C Z hr hlk => ?_)
  have hl_k := kb_3 hk
  refine h_iload_n C dX3_touched_0 1 rfl rfl ?_
  refine h_iconst C dX3_touched_1 ?_
  refine h_icmp_ne (tgt := 20) C dX3_touched_2 (by decide) ⟨by omega, by omega⟩ ⟨by decide, by decide⟩ (fun h1 => ?_) (fun h1 => ?_)
  · refine h_aload_n C dX3_touched_20 0 rfl rfl ?_
    refine h_get C O3 1 hk (by decide) wd_155 dX3_touched_21 (fs_3_1 hk) ?_
    refine h_iload_n C dX3_touched_24 2 rfl rfl ?_
    refine h_iaload C dX3_touched_25 (fa_3_1 hk) (a1).toNat (Int.toNat_of_nonneg (by omega)) (by rw [(fl_3_1 hk)]; omega) rfl ?_
    obtain ⟨hr2a, hr2b⟩ := hI.b (fo_3_1 hk _)
    generalize hg2 : σ (k + 2) ((a1).toNat) = r2 at hr2a hr2b ⊢
    refine h_ireturn C hr hlk dX3_touched_26 ?_
    exact ⟨⟨_, rfl, ⟨by omega, by omega⟩⟩, rfl⟩
  · refine h_iload_n C dX3_touched_5 2 rfl rfl ?_
    refine h_if_ne (tgt := 20) C dX3_touched_6 (by decide) ⟨by omega, by omega⟩ (fun h3 => ?_) (fun h3 => ?_)
    · refine h_aload_n C dX3_touched_20 0 rfl rfl ?_
      refine h_get C O3 1 hk (by decide) wd_155 dX3_touched_21 (fs_3_1 hk) ?_
      refine h_iload_n C dX3_touched_24 2 rfl rfl ?_
      refine h_iaload C dX3_touched_25 (fa_3_1 hk) (a1).toNat (Int.toNat_of_nonneg (by omega)) (by rw [(fl_3_1 hk)]; omega) rfl ?_
      obtain ⟨hr4a, hr4b⟩ := hI.b (fo_3_1 hk _)
      generalize hg4 : σ (k + 2) ((a1).toNat) = r4 at hr4a hr4b ⊢
      refine h_ireturn C hr hlk dX3_touched_26 ?_
      exact ⟨⟨_, rfl, ⟨by omega, by omega⟩⟩, rfl⟩
    · refine h_aload_n C dX3_touched_9 0 rfl rfl ?_
      refine h_get C O3 1 hk (by decide) wd_155 dX3_touched_10 (fs_3_1 hk) ?_
      refine h_iload_n C dX3_touched_13 2 rfl rfl ?_
      refine h_iaload C dX3_touched_14 (fa_3_1 hk) (a1).toNat (Int.toNat_of_nonneg (by omega)) (by rw [(fl_3_1 hk)]; omega) rfl ?_
      obtain ⟨hr5a, hr5b⟩ := hI.b (fo_3_1 hk _)
      generalize hg5 : σ (k + 2) ((a1).toNat) = r5 at hr5a hr5b ⊢
      refine h_iconst C dX3_touched_15 ?_
      refine h_isub C dX3_touched_16 rfl ?_
      refine hp_anyI (fun r6 hr6 => ?_)
      obtain ⟨hr6a, hr6b⟩ := hr6
      refine h_goto (tgt := 26) C dX3_touched_17 (by decide) ?_
      refine h_ireturn C hr hlk dX3_touched_26 ?_
      exact ⟨⟨_, rfl, ⟨by omega, by omega⟩⟩, rfl⟩
abbrev rgX3_takenBy : Room := { frames := 1, cells := 0, slots := 0, locals := 22 }
abbrev pgX3_takenBy (z : Nat) (σ : hpMem) (k : Nat) (a0 : Int) : Option Value → hpMem → Prop := fun r τ => (∃ x : Int, r = some (.int (hpI x)) ∧ (hpR x)) ∧ σ = τ
set_option maxHeartbeats 4000000 in
set_option maxRecDepth 20000 in
theorem tgX3_takenBy (l : Launch) (D : va_G) (cy : Nat → ClassId) (z : Nat) (σ : hpMem) (k : Nat) (hk : hpkd k = 3) (a0 : Int) (ha0 : hpR a0) (hI : hpInv σ) : hpM l D cy z yX3_takenBy cX3_takenBy 4 (some .int) rgX3_takenBy [.ref (z + k), .int (hpI a0)] σ (pgX3_takenBy z σ k a0) := by
  obtain ⟨ha01, ha02⟩ := ha0
  refine hp_met rfl (Nat.le_of_ble_eq_true rfl) (fun p e s m below meth c C Z hr hlk => ?_)
  have hl_k := kb_3 hk
  refine h_iconst C dX3_takenBy_0 ?_
  refine h_istore_n (lv' := [(2, .int (hpI 0)), (0, .ref (z + k)), (1, .int (hpI a0))]) C dX3_takenBy_1 rfl (by decide) rfl ?_
  refine h_iconst C dX3_takenBy_2 ?_
  refine h_istore_n (lv' := [(3, .int (hpI 0)), (2, .int (hpI 0)), (0, .ref (z + k)), (1, .int (hpI a0))]) C dX3_takenBy_3 rfl (by decide) rfl ?_
  have L1 : ∀ (n1 : Nat) (w1_2 : Int) (w1_3 : Int), -2147483648 ≤ w1_2 → w1_2 ≤ 2147483647 → 0 ≤ w1_3 → w1_3 ≤ 2147483647 → (4294967296 - w1_3) < (n1 : Int) → hpF p l e rgX3_takenBy s m [.ref (z + k), .int (hpI a0)] below meth c 4 D cy z (pgX3_takenBy z σ k a0) σ 4 [(0, .ref (z + k)), (1, .int (hpI a0)), (2, .int (hpI w1_2)), (3, .int (hpI w1_3))] [] := by
    intro n1
    induction n1 with
    | zero => intro w1_2 w1_3 hv1_0 hv1_1 hv1_2 hv1_3 hm1; exfalso; omega
    | succ n1 ih1 =>
      intro w1_2 w1_3 hv1_0 hv1_1 hv1_2 hv1_3 hm1
      refine h_iload_n C dX3_takenBy_4 3 rfl rfl ?_
      refine h_aload_n C dX3_takenBy_5 0 rfl rfl ?_
      refine h_get C O3 2 hk (by decide) wd_157 dX3_takenBy_6 (hp_fvI (by rw [hk]; rfl) rfl) ?_
      obtain ⟨hr2a, hr2b⟩ := hI.b (bf_3_2 hk)
      generalize hg2 : σ k 2 = r2 at hr2a hr2b ⊢
      refine h_icmp_ge (tgt := 38) C dX3_takenBy_9 (by decide) ⟨by omega, by omega⟩ ⟨by omega, by omega⟩ (fun h3 => ?_) (fun h3 => ?_)
      · refine h_iload_n C dX3_takenBy_38 2 rfl rfl ?_
        refine h_ireturn C hr hlk dX3_takenBy_39 ?_
        exact ⟨⟨_, rfl, ⟨by omega, by omega⟩⟩, rfl⟩
      · refine h_iload_n C dX3_takenBy_12 2 rfl rfl ?_
        refine h_iload_n C dX3_takenBy_13 1 rfl rfl ?_
        refine h_aload_n C dX3_takenBy_14 0 rfl rfl ?_
        refine h_get C O3 0 hk (by decide) wd_152 dX3_takenBy_15 (fs_3_0 hk) ?_
        refine h_iload_n C dX3_takenBy_18 3 rfl rfl ?_
        refine h_iaload C dX3_takenBy_19 (fa_3_0 hk) (w1_3).toNat (Int.toNat_of_nonneg (by omega)) (by rw [(fl_3_0 hk)]; omega) rfl ?_
        obtain ⟨hr4a, hr4b⟩ := hI.b (fo_3_0 hk _)
        generalize hg4 : σ (k + 1) ((w1_3).toNat) = r4 at hr4a hr4b ⊢
        refine h_callS (As := [.int (hpI a0), .int (hpI r4)]) (rest := [.int (hpI w1_2)]) C Z yyX3_offEach rfl wd_630 (tgX3_offEach l D cy z _ a0 ⟨by omega, by omega⟩ r4 ⟨by omega, by omega⟩ hI) rfl rfl ⟨rfl, rfl, Nat.le_of_ble_eq_true rfl, Nat.le_of_ble_eq_true rfl⟩ ⟨Nat.le_of_ble_eq_true rfl, Nat.le_of_ble_eq_true rfl⟩ (Nat.le_of_ble_eq_true rfl) dX3_takenBy_20 (fun r5 τ5 hp5 => ?_)
        obtain ⟨⟨x5, rfl, ⟨hx5a, hx5b⟩⟩, rfl⟩ := hp5
        show hpV _ _ _ _ _ _ _ _ _ _ _ _ _ _ _ _ _ _ _ _ _ (_ :: _)
        refine h_aload_n C dX3_takenBy_23 0 rfl rfl ?_
        refine h_iload_n C dX3_takenBy_24 1 rfl rfl ?_
        refine h_iload_n C dX3_takenBy_25 3 rfl rfl ?_
        refine h_callV (As := [.int (hpI a0), .int (hpI w1_3)]) (rest := [.int (hpI x5), .int (hpI w1_2)]) C Z yyX3_touched wd_691 (tgX3_touched l D cy z _ k hk a0 ⟨by omega, by omega⟩ w1_3 ⟨by omega, by omega⟩ hI (by omega)) hk rfl rfl ⟨rfl, rfl, Nat.le_of_ble_eq_true rfl, Nat.le_of_ble_eq_true rfl⟩ ⟨Nat.le_of_ble_eq_true rfl, Nat.le_of_ble_eq_true rfl⟩ (Nat.le_of_ble_eq_true rfl) dX3_takenBy_26 (fun r6 τ6 hp6 => ?_)
        obtain ⟨⟨x6, rfl, ⟨hx6a, hx6b⟩⟩, rfl⟩ := hp6
        show hpV _ _ _ _ _ _ _ _ _ _ _ _ _ _ _ _ _ _ _ _ _ (_ :: _)
        refine h_imul C dX3_takenBy_29 rfl ?_
        refine hp_anyI (fun r7 hr7 => ?_)
        obtain ⟨hr7a, hr7b⟩ := hr7
        refine h_iadd C dX3_takenBy_30 rfl ?_
        refine hp_anyI (fun r8 hr8 => ?_)
        obtain ⟨hr8a, hr8b⟩ := hr8
        refine h_istore_n (lv' := [(2, .int (hpI r8)), (0, .ref (z + k)), (1, .int (hpI a0)), (3, .int (hpI w1_3))]) C dX3_takenBy_31 rfl (by decide) rfl ?_
        refine h_iinc (lv' := [(3, .int (hpI (w1_3 + 1))), (2, .int (hpI r8)), (0, .ref (z + k)), (1, .int (hpI a0))]) C dX3_takenBy_32 3 rfl rfl (by decide) rfl ?_
        refine h_goto (tgt := 4) C dX3_takenBy_35 (by decide) ?_
        exact hp_sub [2, 3, 1, 0] rfl (ih1 r8 (w1_3 + 1) (by omega) (by omega) (by omega) (by omega) (by omega))
  exact hp_sub [2, 3, 1, 0] rfl (L1 8589934592 0 0 (by omega) (by omega) (by omega) (by omega) (by omega))
abbrev rgX3_goneBy : Room := { frames := 1, cells := 0, slots := 0, locals := 22 }
abbrev pgX3_goneBy (z : Nat) (σ : hpMem) (k : Nat) (a0 : Int) : Option Value → hpMem → Prop := fun r τ => (∃ x : Int, r = some (.int (hpI x)) ∧ (hpR x)) ∧ σ = τ
set_option maxHeartbeats 4000000 in
set_option maxRecDepth 20000 in
theorem tgX3_goneBy (l : Launch) (D : va_G) (cy : Nat → ClassId) (z : Nat) (σ : hpMem) (k : Nat) (hk : hpkd k = 3) (a0 : Int) (ha0 : hpR a0) (hI : hpInv σ) : hpM l D cy z yX3_goneBy cX3_goneBy 4 (some .int) rgX3_goneBy [.ref (z + k), .int (hpI a0)] σ (pgX3_goneBy z σ k a0) := by
  obtain ⟨ha01, ha02⟩ := ha0
  refine hp_met rfl (Nat.le_of_ble_eq_true rfl) (fun p e s m below meth c C Z hr hlk => ?_)
  have hl_k := kb_3 hk
  refine h_iconst C dX3_goneBy_0 ?_
  refine h_istore_n (lv' := [(2, .int (hpI 0)), (0, .ref (z + k)), (1, .int (hpI a0))]) C dX3_goneBy_1 rfl (by decide) rfl ?_
  refine h_iconst C dX3_goneBy_2 ?_
  refine h_istore_n (lv' := [(3, .int (hpI 0)), (2, .int (hpI 0)), (0, .ref (z + k)), (1, .int (hpI a0))]) C dX3_goneBy_3 rfl (by decide) rfl ?_
  have L1 : ∀ (n1 : Nat) (w1_2 : Int) (w1_3 : Int), -2147483648 ≤ w1_2 → w1_2 ≤ 2147483647 → 0 ≤ w1_3 → w1_3 ≤ 2147483647 → (4294967296 - w1_3) < (n1 : Int) → hpF p l e rgX3_goneBy s m [.ref (z + k), .int (hpI a0)] below meth c 4 D cy z (pgX3_goneBy z σ k a0) σ 4 [(0, .ref (z + k)), (1, .int (hpI a0)), (2, .int (hpI w1_2)), (3, .int (hpI w1_3))] [] := by
    intro n1
    induction n1 with
    | zero => intro w1_2 w1_3 hv1_0 hv1_1 hv1_2 hv1_3 hm1; exfalso; omega
    | succ n1 ih1 =>
      intro w1_2 w1_3 hv1_0 hv1_1 hv1_2 hv1_3 hm1
      refine h_iload_n C dX3_goneBy_4 3 rfl rfl ?_
      refine h_aload_n C dX3_goneBy_5 0 rfl rfl ?_
      refine h_get C O3 2 hk (by decide) wd_157 dX3_goneBy_6 (hp_fvI (by rw [hk]; rfl) rfl) ?_
      obtain ⟨hr2a, hr2b⟩ := hI.b (bf_3_2 hk)
      generalize hg2 : σ k 2 = r2 at hr2a hr2b ⊢
      refine h_icmp_ge (tgt := 46) C dX3_goneBy_9 (by decide) ⟨by omega, by omega⟩ ⟨by omega, by omega⟩ (fun h3 => ?_) (fun h3 => ?_)
      · refine h_iload_n C dX3_goneBy_46 2 rfl rfl ?_
        refine h_ireturn C hr hlk dX3_goneBy_47 ?_
        exact ⟨⟨_, rfl, ⟨by omega, by omega⟩⟩, rfl⟩
      · refine h_iload_n C dX3_goneBy_12 1 rfl rfl ?_
        refine h_aload_n C dX3_goneBy_13 0 rfl rfl ?_
        refine h_get C O3 0 hk (by decide) wd_152 dX3_goneBy_14 (fs_3_0 hk) ?_
        refine h_iload_n C dX3_goneBy_17 3 rfl rfl ?_
        refine h_iaload C dX3_goneBy_18 (fa_3_0 hk) (w1_3).toNat (Int.toNat_of_nonneg (by omega)) (by rw [(fl_3_0 hk)]; omega) rfl ?_
        obtain ⟨hr4a, hr4b⟩ := hI.b (fo_3_0 hk _)
        generalize hg4 : σ (k + 1) ((w1_3).toNat) = r4 at hr4a hr4b ⊢
        refine h_callS (As := [.int (hpI a0), .int (hpI r4)]) (rest := []) C Z yyX3_offEach rfl wd_630 (tgX3_offEach l D cy z _ a0 ⟨by omega, by omega⟩ r4 ⟨by omega, by omega⟩ hI) rfl rfl ⟨rfl, rfl, Nat.le_of_ble_eq_true rfl, Nat.le_of_ble_eq_true rfl⟩ ⟨Nat.le_of_ble_eq_true rfl, Nat.le_of_ble_eq_true rfl⟩ (Nat.le_of_ble_eq_true rfl) dX3_goneBy_19 (fun r5 τ5 hp5 => ?_)
        obtain ⟨⟨x5, rfl, ⟨hx5a, hx5b⟩⟩, rfl⟩ := hp5
        show hpV _ _ _ _ _ _ _ _ _ _ _ _ _ _ _ _ _ _ _ _ _ (_ :: _)
        refine h_aload_n C dX3_goneBy_22 0 rfl rfl ?_
        refine h_get C O3 0 hk (by decide) wd_152 dX3_goneBy_23 (fs_3_0 hk) ?_
        refine h_iload_n C dX3_goneBy_26 3 rfl rfl ?_
        refine h_iaload C dX3_goneBy_27 (fa_3_0 hk) (w1_3).toNat (Int.toNat_of_nonneg (by omega)) (by rw [(fl_3_0 hk)]; omega) rfl ?_
        rw [hg4]
        refine h_icmp_ne (tgt := 40) C dX3_goneBy_28 (by decide) ⟨by omega, by omega⟩ ⟨by omega, by omega⟩ (fun h6 => ?_) (fun h6 => ?_)
        · refine h_iinc (lv' := [(3, .int (hpI (w1_3 + 1))), (0, .ref (z + k)), (1, .int (hpI a0)), (2, .int (hpI w1_2))]) C dX3_goneBy_40 3 rfl rfl (by decide) rfl ?_
          refine h_goto (tgt := 4) C dX3_goneBy_43 (by decide) ?_
          exact hp_sub [1, 2, 3, 0] rfl (ih1 w1_2 (w1_3 + 1) (by omega) (by omega) (by omega) (by omega) (by omega))
        · refine h_iload_n C dX3_goneBy_31 2 rfl rfl ?_
          refine h_aload_n C dX3_goneBy_32 0 rfl rfl ?_
          refine h_iload_n C dX3_goneBy_33 1 rfl rfl ?_
          refine h_iload_n C dX3_goneBy_34 3 rfl rfl ?_
          refine h_callV (As := [.int (hpI a0), .int (hpI w1_3)]) (rest := [.int (hpI w1_2)]) C Z yyX3_touched wd_691 (tgX3_touched l D cy z _ k hk a0 ⟨by omega, by omega⟩ w1_3 ⟨by omega, by omega⟩ hI (by omega)) hk rfl rfl ⟨rfl, rfl, Nat.le_of_ble_eq_true rfl, Nat.le_of_ble_eq_true rfl⟩ ⟨Nat.le_of_ble_eq_true rfl, Nat.le_of_ble_eq_true rfl⟩ (Nat.le_of_ble_eq_true rfl) dX3_goneBy_35 (fun r7 τ7 hp7 => ?_)
          obtain ⟨⟨x7, rfl, ⟨hx7a, hx7b⟩⟩, rfl⟩ := hp7
          show hpV _ _ _ _ _ _ _ _ _ _ _ _ _ _ _ _ _ _ _ _ _ (_ :: _)
          refine h_iadd C dX3_goneBy_38 rfl ?_
          refine hp_anyI (fun r8 hr8 => ?_)
          obtain ⟨hr8a, hr8b⟩ := hr8
          refine h_istore_n (lv' := [(2, .int (hpI r8)), (0, .ref (z + k)), (1, .int (hpI a0)), (3, .int (hpI w1_3))]) C dX3_goneBy_39 rfl (by decide) rfl ?_
          refine h_iinc (lv' := [(3, .int (hpI (w1_3 + 1))), (2, .int (hpI r8)), (0, .ref (z + k)), (1, .int (hpI a0))]) C dX3_goneBy_40 3 rfl rfl (by decide) rfl ?_
          refine h_goto (tgt := 4) C dX3_goneBy_43 (by decide) ?_
          exact hp_sub [2, 3, 1, 0] rfl (ih1 r8 (w1_3 + 1) (by omega) (by omega) (by omega) (by omega) (by omega))
  exact hp_sub [2, 3, 1, 0] rfl (L1 8589934592 0 0 (by omega) (by omega) (by omega) (by omega) (by omega))
abbrev rgX3_highest : Room := { frames := 0, cells := 0, slots := 0, locals := 0 }
abbrev pgX3_highest (z : Nat) (σ : hpMem) (k : Nat) : Option Value → hpMem → Prop := fun r τ => (∃ x : Int, r = some (.int (hpI x)) ∧ (hpR x)) ∧ σ = τ
set_option maxHeartbeats 4000000 in
set_option maxRecDepth 20000 in
theorem tgX3_highest (l : Launch) (D : va_G) (cy : Nat → ClassId) (z : Nat) (σ : hpMem) (k : Nat) (hk : hpkd k = 3) (hI : hpInv σ) : hpM l D cy z yX3_highest cX3_highest 1 (some .int) rgX3_highest [.ref (z + k)] σ (pgX3_highest z σ k) := by
  refine hp_met rfl (Nat.le_of_ble_eq_true rfl) (fun p e s m below meth c C Z hr hlk => ?_)
  have hl_k := kb_3 hk
  refine h_aload_n C dX3_highest_0 0 rfl rfl ?_
  refine h_get C O3 2 hk (by decide) wd_157 dX3_highest_1 (hp_fvI (by rw [hk]; rfl) rfl) ?_
  obtain ⟨hr1a, hr1b⟩ := hI.b (bf_3_2 hk)
  generalize hg1 : σ k 2 = r1 at hr1a hr1b ⊢
  refine h_if_le (tgt := 16) C dX3_highest_4 (by decide) ⟨by omega, by omega⟩ (fun h2 => ?_) (fun h2 => ?_)
  · refine h_iconst C dX3_highest_16 ?_
    refine h_ireturn C hr hlk dX3_highest_17 ?_
    exact ⟨⟨_, rfl, ⟨by decide, by decide⟩⟩, rfl⟩
  · refine h_aload_n C dX3_highest_7 0 rfl rfl ?_
    refine h_get C O3 0 hk (by decide) wd_152 dX3_highest_8 (fs_3_0 hk) ?_
    refine h_iconst C dX3_highest_11 ?_
    refine h_iaload C dX3_highest_12 (fa_3_0 hk) 0 rfl (by rw [(fl_3_0 hk)]; decide) rfl ?_
    obtain ⟨hr3a, hr3b⟩ := hI.b (fo_3_0 hk _)
    generalize hg3 : σ (k + 1) 0 = r3 at hr3a hr3b ⊢
    refine h_goto (tgt := 17) C dX3_highest_13 (by decide) ?_
    refine h_ireturn C hr hlk dX3_highest_17 ?_
    exact ⟨⟨_, rfl, ⟨by omega, by omega⟩⟩, rfl⟩
abbrev rgX3_lowest : Room := { frames := 0, cells := 0, slots := 0, locals := 0 }
abbrev pgX3_lowest (z : Nat) (σ : hpMem) (k : Nat) : Option Value → hpMem → Prop := fun r τ => (∃ x : Int, r = some (.int (hpI x)) ∧ (hpR x)) ∧ σ = τ
set_option maxHeartbeats 4000000 in
set_option maxRecDepth 20000 in
theorem tgX3_lowest (l : Launch) (D : va_G) (cy : Nat → ClassId) (z : Nat) (σ : hpMem) (k : Nat) (hk : hpkd k = 3) (hI : hpInv σ) : hpM l D cy z yX3_lowest cX3_lowest 1 (some .int) rgX3_lowest [.ref (z + k)] σ (pgX3_lowest z σ k) := by
  refine hp_met rfl (Nat.le_of_ble_eq_true rfl) (fun p e s m below meth c C Z hr hlk => ?_)
  have hl_k := kb_3 hk
  refine h_aload_n C dX3_lowest_0 0 rfl rfl ?_
  refine h_get C O3 2 hk (by decide) wd_157 dX3_lowest_1 (hp_fvI (by rw [hk]; rfl) rfl) ?_
  obtain ⟨hr1a, hr1b⟩ := hI.b (bf_3_2 hk)
  generalize hg1 : σ k 2 = r1 at hr1a hr1b ⊢
  refine h_if_le (tgt := 21) C dX3_lowest_4 (by decide) ⟨by omega, by omega⟩ (fun h2 => ?_) (fun h2 => ?_)
  · refine h_iconst C dX3_lowest_21 ?_
    refine h_ireturn C hr hlk dX3_lowest_22 ?_
    exact ⟨⟨_, rfl, ⟨by decide, by decide⟩⟩, rfl⟩
  · refine h_aload_n C dX3_lowest_7 0 rfl rfl ?_
    refine h_get C O3 0 hk (by decide) wd_152 dX3_lowest_8 (fs_3_0 hk) ?_
    refine h_aload_n C dX3_lowest_11 0 rfl rfl ?_
    refine h_get C O3 2 hk (by decide) wd_157 dX3_lowest_12 (hp_fvI (by rw [hk]; rfl) rfl) ?_
    rw [hg1]
    refine h_iconst C dX3_lowest_15 ?_
    refine h_isub C dX3_lowest_16 rfl ?_
    refine h_iaload C dX3_lowest_17 (fa_3_0 hk) (r1 - 1).toNat (Int.toNat_of_nonneg (by omega)) (by rw [(fl_3_0 hk)]; omega) rfl ?_
    obtain ⟨hr3a, hr3b⟩ := hI.b (fo_3_0 hk _)
    generalize hg3 : σ (k + 1) ((r1 - 1).toNat) = r3 at hr3a hr3b ⊢
    refine h_goto (tgt := 22) C dX3_lowest_18 (by decide) ?_
    refine h_ireturn C hr hlk dX3_lowest_22 ?_
    exact ⟨⟨_, rfl, ⟨by omega, by omega⟩⟩, rfl⟩
abbrev rgX3_heapAt : Room := { frames := 0, cells := 0, slots := 0, locals := 0 }
abbrev pgX3_heapAt (z : Nat) (σ : hpMem) (k : Nat) (a0 : Int) : Option Value → hpMem → Prop := fun r τ => (∃ x : Int, r = some (.int (hpI x)) ∧ (hpR x)) ∧ σ = τ
set_option maxHeartbeats 4000000 in
set_option maxRecDepth 20000 in
theorem tgX3_heapAt (l : Launch) (D : va_G) (cy : Nat → ClassId) (z : Nat) (σ : hpMem) (k : Nat) (hk : hpkd k = 3) (a0 : Int) (ha0 : hpR a0) (hI : hpInv σ) : hpM l D cy z yX3_heapAt cX3_heapAt 4 (some .int) rgX3_heapAt [.ref (z + k), .int (hpI a0)] σ (pgX3_heapAt z σ k a0) := by
  obtain ⟨ha01, ha02⟩ := ha0
  refine hp_met rfl (Nat.le_of_ble_eq_true rfl) (fun p e s m below meth c C Z hr hlk => ?_)
  have hl_k := kb_3 hk
  refine h_iconst C dX3_heapAt_0 ?_
  refine h_istore_n (lv' := [(2, .int (hpI 0)), (0, .ref (z + k)), (1, .int (hpI a0))]) C dX3_heapAt_1 rfl (by decide) rfl ?_
  refine h_iconst C dX3_heapAt_2 ?_
  refine h_istore_n (lv' := [(3, .int (hpI 0)), (2, .int (hpI 0)), (0, .ref (z + k)), (1, .int (hpI a0))]) C dX3_heapAt_3 rfl (by decide) rfl ?_
  have L1 : ∀ (n1 : Nat) (w1_2 : Int) (w1_3 : Int), -2147483648 ≤ w1_2 → w1_2 ≤ 2147483647 → 0 ≤ w1_3 → w1_3 ≤ 2147483647 → (4294967296 - w1_3) < (n1 : Int) → hpF p l e rgX3_heapAt s m [.ref (z + k), .int (hpI a0)] below meth c 4 D cy z (pgX3_heapAt z σ k a0) σ 4 [(0, .ref (z + k)), (1, .int (hpI a0)), (2, .int (hpI w1_2)), (3, .int (hpI w1_3))] [] := by
    intro n1
    induction n1 with
    | zero => intro w1_2 w1_3 hv1_0 hv1_1 hv1_2 hv1_3 hm1; exfalso; omega
    | succ n1 ih1 =>
      intro w1_2 w1_3 hv1_0 hv1_1 hv1_2 hv1_3 hm1
      refine h_iload_n C dX3_heapAt_4 3 rfl rfl ?_
      refine h_aload_n C dX3_heapAt_5 0 rfl rfl ?_
      refine h_get C O3 2 hk (by decide) wd_157 dX3_heapAt_6 (hp_fvI (by rw [hk]; rfl) rfl) ?_
      obtain ⟨hr2a, hr2b⟩ := hI.b (bf_3_2 hk)
      generalize hg2 : σ k 2 = r2 at hr2a hr2b ⊢
      refine h_icmp_ge (tgt := 39) C dX3_heapAt_9 (by decide) ⟨by omega, by omega⟩ ⟨by omega, by omega⟩ (fun h3 => ?_) (fun h3 => ?_)
      · refine h_iconst C dX3_heapAt_39 ?_
        refine h_ireturn C hr hlk dX3_heapAt_40 ?_
        exact ⟨⟨_, rfl, ⟨by decide, by decide⟩⟩, rfl⟩
      · refine h_iload_n C dX3_heapAt_12 2 rfl rfl ?_
        refine h_aload_n C dX3_heapAt_13 0 rfl rfl ?_
        refine h_get C O3 1 hk (by decide) wd_155 dX3_heapAt_14 (fs_3_1 hk) ?_
        refine h_iload_n C dX3_heapAt_17 3 rfl rfl ?_
        refine h_iaload C dX3_heapAt_18 (fa_3_1 hk) (w1_3).toNat (Int.toNat_of_nonneg (by omega)) (by rw [(fl_3_1 hk)]; omega) rfl ?_
        obtain ⟨hr4a, hr4b⟩ := hI.b (fo_3_1 hk _)
        generalize hg4 : σ (k + 2) ((w1_3).toNat) = r4 at hr4a hr4b ⊢
        refine h_iadd C dX3_heapAt_19 rfl ?_
        refine hp_anyI (fun r5 hr5 => ?_)
        obtain ⟨hr5a, hr5b⟩ := hr5
        refine h_istore_n (lv' := [(2, .int (hpI r5)), (0, .ref (z + k)), (1, .int (hpI a0)), (3, .int (hpI w1_3))]) C dX3_heapAt_20 rfl (by decide) rfl ?_
        refine h_iload_n C dX3_heapAt_21 2 rfl rfl ?_
        refine h_iload_n C dX3_heapAt_22 0 rfl rfl ?_
        refine h_icmp_ge (tgt := 33) C dX3_heapAt_23 (by decide) ⟨by omega, by omega⟩ ⟨by omega, by omega⟩ (fun h6 => ?_) (fun h6 => ?_)
        · refine h_iinc (lv' := [(3, .int (hpI (w1_3 + 1))), (2, .int (hpI r5)), (0, .ref (z + k)), (1, .int (hpI a0))]) C dX3_heapAt_33 3 rfl rfl (by decide) rfl ?_
          refine h_goto (tgt := 4) C dX3_heapAt_36 (by decide) ?_
          exact hp_sub [2, 3, 1, 0] rfl (ih1 r5 (w1_3 + 1) (by omega) (by omega) (by omega) (by omega) (by omega))
        · refine h_aload_n C dX3_heapAt_26 1 rfl rfl ?_
          refine h_get C O3 0 hk (by decide) wd_152 dX3_heapAt_27 (fs_3_0 hk) ?_
          refine h_iload_n C dX3_heapAt_30 3 rfl rfl ?_
          refine h_iaload C dX3_heapAt_31 (fa_3_0 hk) (w1_3).toNat (Int.toNat_of_nonneg (by omega)) (by rw [(fl_3_0 hk)]; omega) rfl ?_
          obtain ⟨hr7a, hr7b⟩ := hI.b (fo_3_0 hk _)
          generalize hg7 : σ (k + 1) ((w1_3).toNat) = r7 at hr7a hr7b ⊢
          refine h_ireturn C hr hlk dX3_heapAt_32 ?_
          exact ⟨⟨_, rfl, ⟨by omega, by omega⟩⟩, rfl⟩
  exact hp_sub [2, 3, 1, 0] rfl (L1 8589934592 0 0 (by omega) (by omega) (by omega) (by omega) (by omega))
abbrev rgX3_heapsOf : Room := { frames := 0, cells := 0, slots := 0, locals := 0 }
abbrev pgX3_heapsOf (z : Nat) (σ : hpMem) (k : Nat) (a0 : Int) : Option Value → hpMem → Prop := fun r τ => (∃ x : Int, r = some (.int (hpI x)) ∧ (hpR x)) ∧ σ = τ
set_option maxHeartbeats 4000000 in
set_option maxRecDepth 20000 in
theorem tgX3_heapsOf (l : Launch) (D : va_G) (cy : Nat → ClassId) (z : Nat) (σ : hpMem) (k : Nat) (hk : hpkd k = 3) (a0 : Int) (ha0 : hpR a0) (hI : hpInv σ) : hpM l D cy z yX3_heapsOf cX3_heapsOf 3 (some .int) rgX3_heapsOf [.ref (z + k), .int (hpI a0)] σ (pgX3_heapsOf z σ k a0) := by
  obtain ⟨ha01, ha02⟩ := ha0
  refine hp_met rfl (Nat.le_of_ble_eq_true rfl) (fun p e s m below meth c C Z hr hlk => ?_)
  have hl_k := kb_3 hk
  refine h_iconst C dX3_heapsOf_0 ?_
  refine h_istore_n (lv' := [(2, .int (hpI 0)), (0, .ref (z + k)), (1, .int (hpI a0))]) C dX3_heapsOf_1 rfl (by decide) rfl ?_
  have L1 : ∀ (n1 : Nat) (w1_2 : Int), 0 ≤ w1_2 → w1_2 ≤ 2147483647 → (4294967296 - w1_2) < (n1 : Int) → hpF p l e rgX3_heapsOf s m [.ref (z + k), .int (hpI a0)] below meth c 3 D cy z (pgX3_heapsOf z σ k a0) σ 2 [(0, .ref (z + k)), (1, .int (hpI a0)), (2, .int (hpI w1_2))] [] := by
    intro n1
    induction n1 with
    | zero => intro w1_2 hv1_0 hv1_1 hm1; exfalso; omega
    | succ n1 ih1 =>
      intro w1_2 hv1_0 hv1_1 hm1
      refine h_iload_n C dX3_heapsOf_2 2 rfl rfl ?_
      refine h_aload_n C dX3_heapsOf_3 0 rfl rfl ?_
      refine h_get C O3 2 hk (by decide) wd_157 dX3_heapsOf_4 (hp_fvI (by rw [hk]; rfl) rfl) ?_
      obtain ⟨hr2a, hr2b⟩ := hI.b (bf_3_2 hk)
      generalize hg2 : σ k 2 = r2 at hr2a hr2b ⊢
      refine h_icmp_ge (tgt := 33) C dX3_heapsOf_7 (by decide) ⟨by omega, by omega⟩ ⟨by omega, by omega⟩ (fun h3 => ?_) (fun h3 => ?_)
      · refine h_iconst C dX3_heapsOf_33 ?_
        refine h_ireturn C hr hlk dX3_heapsOf_34 ?_
        exact ⟨⟨_, rfl, ⟨by decide, by decide⟩⟩, rfl⟩
      · refine h_aload_n C dX3_heapsOf_10 0 rfl rfl ?_
        refine h_get C O3 0 hk (by decide) wd_152 dX3_heapsOf_11 (fs_3_0 hk) ?_
        refine h_iload_n C dX3_heapsOf_14 2 rfl rfl ?_
        refine h_iaload C dX3_heapsOf_15 (fa_3_0 hk) (w1_2).toNat (Int.toNat_of_nonneg (by omega)) (by rw [(fl_3_0 hk)]; omega) rfl ?_
        obtain ⟨hr4a, hr4b⟩ := hI.b (fo_3_0 hk _)
        generalize hg4 : σ (k + 1) ((w1_2).toNat) = r4 at hr4a hr4b ⊢
        refine h_iload_n C dX3_heapsOf_16 1 rfl rfl ?_
        refine h_icmp_ne (tgt := 27) C dX3_heapsOf_17 (by decide) ⟨by omega, by omega⟩ ⟨by omega, by omega⟩ (fun h5 => ?_) (fun h5 => ?_)
        · refine h_iinc (lv' := [(2, .int (hpI (w1_2 + 1))), (0, .ref (z + k)), (1, .int (hpI a0))]) C dX3_heapsOf_27 2 rfl rfl (by decide) rfl ?_
          refine h_goto (tgt := 2) C dX3_heapsOf_30 (by decide) ?_
          exact hp_sub [1, 2, 0] rfl (ih1 (w1_2 + 1) (by omega) (by omega) (by omega))
        · refine h_aload_n C dX3_heapsOf_20 0 rfl rfl ?_
          refine h_get C O3 1 hk (by decide) wd_155 dX3_heapsOf_21 (fs_3_1 hk) ?_
          refine h_iload_n C dX3_heapsOf_24 2 rfl rfl ?_
          refine h_iaload C dX3_heapsOf_25 (fa_3_1 hk) (w1_2).toNat (Int.toNat_of_nonneg (by omega)) (by rw [(fl_3_1 hk)]; omega) rfl ?_
          obtain ⟨hr6a, hr6b⟩ := hI.b (fo_3_1 hk _)
          generalize hg6 : σ (k + 2) ((w1_2).toNat) = r6 at hr6a hr6b ⊢
          refine h_ireturn C hr hlk dX3_heapsOf_26 ?_
          exact ⟨⟨_, rfl, ⟨by omega, by omega⟩⟩, rfl⟩
  exact hp_sub [1, 2, 0] rfl (L1 8589934592 0 (by omega) (by omega) (by omega))
abbrev rgX3_heapsFrom : Room := { frames := 0, cells := 0, slots := 0, locals := 0 }
abbrev pgX3_heapsFrom (z : Nat) (σ : hpMem) (k : Nat) (a0 : Int) : Option Value → hpMem → Prop := fun r τ => (∃ x : Int, r = some (.int (hpI x)) ∧ (hpR x)) ∧ σ = τ
set_option maxHeartbeats 4000000 in
set_option maxRecDepth 20000 in
theorem tgX3_heapsFrom (l : Launch) (D : va_G) (cy : Nat → ClassId) (z : Nat) (σ : hpMem) (k : Nat) (hk : hpkd k = 3) (a0 : Int) (ha0 : hpR a0) (hI : hpInv σ) : hpM l D cy z yX3_heapsFrom cX3_heapsFrom 4 (some .int) rgX3_heapsFrom [.ref (z + k), .int (hpI a0)] σ (pgX3_heapsFrom z σ k a0) := by
  obtain ⟨ha01, ha02⟩ := ha0
  refine hp_met rfl (Nat.le_of_ble_eq_true rfl) (fun p e s m below meth c C Z hr hlk => ?_)
  have hl_k := kb_3 hk
  refine h_iconst C dX3_heapsFrom_0 ?_
  refine h_istore_n (lv' := [(2, .int (hpI 0)), (0, .ref (z + k)), (1, .int (hpI a0))]) C dX3_heapsFrom_1 rfl (by decide) rfl ?_
  refine h_iconst C dX3_heapsFrom_2 ?_
  refine h_istore_n (lv' := [(3, .int (hpI 0)), (2, .int (hpI 0)), (0, .ref (z + k)), (1, .int (hpI a0))]) C dX3_heapsFrom_3 rfl (by decide) rfl ?_
  have L1 : ∀ (n1 : Nat) (w1_2 : Int) (w1_3 : Int), -2147483648 ≤ w1_2 → w1_2 ≤ 2147483647 → 0 ≤ w1_3 → w1_3 ≤ 2147483647 → (4294967296 - w1_3) < (n1 : Int) → hpF p l e rgX3_heapsFrom s m [.ref (z + k), .int (hpI a0)] below meth c 4 D cy z (pgX3_heapsFrom z σ k a0) σ 4 [(0, .ref (z + k)), (1, .int (hpI a0)), (2, .int (hpI w1_2)), (3, .int (hpI w1_3))] [] := by
    intro n1
    induction n1 with
    | zero => intro w1_2 w1_3 hv1_0 hv1_1 hv1_2 hv1_3 hm1; exfalso; omega
    | succ n1 ih1 =>
      intro w1_2 w1_3 hv1_0 hv1_1 hv1_2 hv1_3 hm1
      refine h_iload_n C dX3_heapsFrom_4 3 rfl rfl ?_
      refine h_aload_n C dX3_heapsFrom_5 0 rfl rfl ?_
      refine h_get C O3 2 hk (by decide) wd_157 dX3_heapsFrom_6 (hp_fvI (by rw [hk]; rfl) rfl) ?_
      obtain ⟨hr2a, hr2b⟩ := hI.b (bf_3_2 hk)
      generalize hg2 : σ k 2 = r2 at hr2a hr2b ⊢
      refine h_icmp_ge (tgt := 37) C dX3_heapsFrom_9 (by decide) ⟨by omega, by omega⟩ ⟨by omega, by omega⟩ (fun h3 => ?_) (fun h3 => ?_)
      · refine h_iload_n C dX3_heapsFrom_37 2 rfl rfl ?_
        refine h_ireturn C hr hlk dX3_heapsFrom_38 ?_
        exact ⟨⟨_, rfl, ⟨by omega, by omega⟩⟩, rfl⟩
      · refine h_aload_n C dX3_heapsFrom_12 0 rfl rfl ?_
        refine h_get C O3 0 hk (by decide) wd_152 dX3_heapsFrom_13 (fs_3_0 hk) ?_
        refine h_iload_n C dX3_heapsFrom_16 3 rfl rfl ?_
        refine h_iaload C dX3_heapsFrom_17 (fa_3_0 hk) (w1_3).toNat (Int.toNat_of_nonneg (by omega)) (by rw [(fl_3_0 hk)]; omega) rfl ?_
        obtain ⟨hr4a, hr4b⟩ := hI.b (fo_3_0 hk _)
        generalize hg4 : σ (k + 1) ((w1_3).toNat) = r4 at hr4a hr4b ⊢
        refine h_iload_n C dX3_heapsFrom_18 1 rfl rfl ?_
        refine h_icmp_lt (tgt := 37) C dX3_heapsFrom_19 (by decide) ⟨by omega, by omega⟩ ⟨by omega, by omega⟩ (fun h5 => ?_) (fun h5 => ?_)
        · refine h_iload_n C dX3_heapsFrom_37 2 rfl rfl ?_
          refine h_ireturn C hr hlk dX3_heapsFrom_38 ?_
          exact ⟨⟨_, rfl, ⟨by omega, by omega⟩⟩, rfl⟩
        · refine h_iload_n C dX3_heapsFrom_22 2 rfl rfl ?_
          refine h_aload_n C dX3_heapsFrom_23 0 rfl rfl ?_
          refine h_get C O3 1 hk (by decide) wd_155 dX3_heapsFrom_24 (fs_3_1 hk) ?_
          refine h_iload_n C dX3_heapsFrom_27 3 rfl rfl ?_
          refine h_iaload C dX3_heapsFrom_28 (fa_3_1 hk) (w1_3).toNat (Int.toNat_of_nonneg (by omega)) (by rw [(fl_3_1 hk)]; omega) rfl ?_
          obtain ⟨hr6a, hr6b⟩ := hI.b (fo_3_1 hk _)
          generalize hg6 : σ (k + 2) ((w1_3).toNat) = r6 at hr6a hr6b ⊢
          refine h_iadd C dX3_heapsFrom_29 rfl ?_
          refine hp_anyI (fun r7 hr7 => ?_)
          obtain ⟨hr7a, hr7b⟩ := hr7
          refine h_istore_n (lv' := [(2, .int (hpI r7)), (0, .ref (z + k)), (1, .int (hpI a0)), (3, .int (hpI w1_3))]) C dX3_heapsFrom_30 rfl (by decide) rfl ?_
          refine h_iinc (lv' := [(3, .int (hpI (w1_3 + 1))), (2, .int (hpI r7)), (0, .ref (z + k)), (1, .int (hpI a0))]) C dX3_heapsFrom_31 3 rfl rfl (by decide) rfl ?_
          refine h_goto (tgt := 4) C dX3_heapsFrom_34 (by decide) ?_
          exact hp_sub [2, 3, 1, 0] rfl (ih1 r7 (w1_3 + 1) (by omega) (by omega) (by omega) (by omega) (by omega))
  exact hp_sub [2, 3, 1, 0] rfl (L1 8589934592 0 0 (by omega) (by omega) (by omega) (by omega) (by omega))
abbrev rgX3_oddHeaps : Room := { frames := 0, cells := 0, slots := 0, locals := 0 }
abbrev pgX3_oddHeaps (z : Nat) (σ : hpMem) (k : Nat) : Option Value → hpMem → Prop := fun r τ => (∃ x : Int, r = some (.int (hpI x)) ∧ (hpR x)) ∧ σ = τ
set_option maxHeartbeats 4000000 in
set_option maxRecDepth 20000 in
theorem tgX3_oddHeaps (l : Launch) (D : va_G) (cy : Nat → ClassId) (z : Nat) (σ : hpMem) (k : Nat) (hk : hpkd k = 3) (hI : hpInv σ) : hpM l D cy z yX3_oddHeaps cX3_oddHeaps 3 (some .int) rgX3_oddHeaps [.ref (z + k)] σ (pgX3_oddHeaps z σ k) := by
  refine hp_met rfl (Nat.le_of_ble_eq_true rfl) (fun p e s m below meth c C Z hr hlk => ?_)
  have hl_k := kb_3 hk
  refine h_iconst C dX3_oddHeaps_0 ?_
  refine h_istore_n (lv' := [(1, .int (hpI 0)), (0, .ref (z + k))]) C dX3_oddHeaps_1 rfl (by decide) rfl ?_
  refine h_iconst C dX3_oddHeaps_2 ?_
  refine h_istore_n (lv' := [(2, .int (hpI 0)), (1, .int (hpI 0)), (0, .ref (z + k))]) C dX3_oddHeaps_3 rfl (by decide) rfl ?_
  have L1 : ∀ (n1 : Nat) (w1_1 : Int) (w1_2 : Int), -2147483648 ≤ w1_1 → w1_1 ≤ 2147483647 → 0 ≤ w1_2 → w1_2 ≤ 2147483647 → (4294967296 - w1_2) < (n1 : Int) → hpF p l e rgX3_oddHeaps s m [.ref (z + k)] below meth c 3 D cy z (pgX3_oddHeaps z σ k) σ 4 [(0, .ref (z + k)), (1, .int (hpI w1_1)), (2, .int (hpI w1_2))] [] := by
    intro n1
    induction n1 with
    | zero => intro w1_1 w1_2 hv1_0 hv1_1 hv1_2 hv1_3 hm1; exfalso; omega
    | succ n1 ih1 =>
      intro w1_1 w1_2 hv1_0 hv1_1 hv1_2 hv1_3 hm1
      refine h_iload_n C dX3_oddHeaps_4 2 rfl rfl ?_
      refine h_aload_n C dX3_oddHeaps_5 0 rfl rfl ?_
      refine h_get C O3 2 hk (by decide) wd_157 dX3_oddHeaps_6 (hp_fvI (by rw [hk]; rfl) rfl) ?_
      obtain ⟨hr2a, hr2b⟩ := hI.b (bf_3_2 hk)
      generalize hg2 : σ k 2 = r2 at hr2a hr2b ⊢
      refine h_icmp_ge (tgt := 39) C dX3_oddHeaps_9 (by decide) ⟨by omega, by omega⟩ ⟨by omega, by omega⟩ (fun h3 => ?_) (fun h3 => ?_)
      · refine h_iload_n C dX3_oddHeaps_39 1 rfl rfl ?_
        refine h_ireturn C hr hlk dX3_oddHeaps_40 ?_
        exact ⟨⟨_, rfl, ⟨by omega, by omega⟩⟩, rfl⟩
      · refine h_aload_n C dX3_oddHeaps_12 0 rfl rfl ?_
        refine h_get C O3 0 hk (by decide) wd_152 dX3_oddHeaps_13 (fs_3_0 hk) ?_
        refine h_iload_n C dX3_oddHeaps_16 2 rfl rfl ?_
        refine h_iaload C dX3_oddHeaps_17 (fa_3_0 hk) (w1_2).toNat (Int.toNat_of_nonneg (by omega)) (by rw [(fl_3_0 hk)]; omega) rfl ?_
        obtain ⟨hr4a, hr4b⟩ := hI.b (fo_3_0 hk _)
        generalize hg4 : σ (k + 1) ((w1_2).toNat) = r4 at hr4a hr4b ⊢
        refine h_iconst C dX3_oddHeaps_18 ?_
        refine h_irem_any C dX3_oddHeaps_19 ⟨by omega, by omega⟩ (by omega) (fun _ => ?_)
        refine hp_anyI (fun r5 hr5 => ?_)
        obtain ⟨hr5a, hr5b⟩ := hr5
        refine h_iconst C dX3_oddHeaps_20 ?_
        refine h_icmp_ne (tgt := 33) C dX3_oddHeaps_21 (by decide) ⟨by omega, by omega⟩ ⟨by decide, by decide⟩ (fun h6 => ?_) (fun h6 => ?_)
        · refine h_iinc (lv' := [(2, .int (hpI (w1_2 + 1))), (0, .ref (z + k)), (1, .int (hpI w1_1))]) C dX3_oddHeaps_33 2 rfl rfl (by decide) rfl ?_
          refine h_goto (tgt := 4) C dX3_oddHeaps_36 (by decide) ?_
          exact hp_sub [1, 2, 0] rfl (ih1 w1_1 (w1_2 + 1) (by omega) (by omega) (by omega) (by omega) (by omega))
        · refine h_iload_n C dX3_oddHeaps_24 1 rfl rfl ?_
          refine h_aload_n C dX3_oddHeaps_25 0 rfl rfl ?_
          refine h_get C O3 1 hk (by decide) wd_155 dX3_oddHeaps_26 (fs_3_1 hk) ?_
          refine h_iload_n C dX3_oddHeaps_29 2 rfl rfl ?_
          refine h_iaload C dX3_oddHeaps_30 (fa_3_1 hk) (w1_2).toNat (Int.toNat_of_nonneg (by omega)) (by rw [(fl_3_1 hk)]; omega) rfl ?_
          obtain ⟨hr7a, hr7b⟩ := hI.b (fo_3_1 hk _)
          generalize hg7 : σ (k + 2) ((w1_2).toNat) = r7 at hr7a hr7b ⊢
          refine h_iadd C dX3_oddHeaps_31 rfl ?_
          refine hp_anyI (fun r8 hr8 => ?_)
          obtain ⟨hr8a, hr8b⟩ := hr8
          refine h_istore_n (lv' := [(1, .int (hpI r8)), (0, .ref (z + k)), (2, .int (hpI w1_2))]) C dX3_oddHeaps_32 rfl (by decide) rfl ?_
          refine h_iinc (lv' := [(2, .int (hpI (w1_2 + 1))), (1, .int (hpI r8)), (0, .ref (z + k))]) C dX3_oddHeaps_33 2 rfl rfl (by decide) rfl ?_
          refine h_goto (tgt := 4) C dX3_oddHeaps_36 (by decide) ?_
          exact hp_sub [2, 1, 0] rfl (ih1 r8 (w1_2 + 1) (by omega) (by omega) (by omega) (by omega) (by omega))
  exact hp_sub [2, 1, 0] rfl (L1 8589934592 0 0 (by omega) (by omega) (by omega) (by omega) (by omega))
abbrev rgX3_isStair : Room := { frames := 0, cells := 0, slots := 0, locals := 0 }
abbrev pgX3_isStair (z : Nat) (σ : hpMem) (k : Nat) : Option Value → hpMem → Prop := fun r τ => (∃ x : Int, r = some (.int (hpI x)) ∧ (0 ≤ x ∧ x ≤ 1)) ∧ σ = τ
set_option maxHeartbeats 4000000 in
set_option maxRecDepth 20000 in
theorem tgX3_isStair (l : Launch) (D : va_G) (cy : Nat → ClassId) (z : Nat) (σ : hpMem) (k : Nat) (hk : hpkd k = 3) (hI : hpInv σ) : hpM l D cy z yX3_isStair cX3_isStair 1 (some .boolean) rgX3_isStair [.ref (z + k)] σ (pgX3_isStair z σ k) := by
  refine hp_met rfl (Nat.le_of_ble_eq_true rfl) (fun p e s m below meth c C Z hr hlk => ?_)
  have hl_k := kb_3 hk
  refine h_aload_n C dX3_isStair_0 0 rfl rfl ?_
  refine h_get C O3 2 hk (by decide) wd_157 dX3_isStair_1 (hp_fvI (by rw [hk]; rfl) rfl) ?_
  obtain ⟨hr1a, hr1b⟩ := hI.b (bf_3_2 hk)
  generalize hg1 : σ k 2 = r1 at hr1a hr1b ⊢
  refine h_if_le (tgt := 35) C dX3_isStair_4 (by decide) ⟨by omega, by omega⟩ (fun h2 => ?_) (fun h2 => ?_)
  · refine h_iconst C dX3_isStair_35 ?_
    refine h_zreturn C (by omega) hr hlk dX3_isStair_36 ?_
    exact ⟨⟨_, rfl, ⟨by decide, by decide⟩⟩, rfl⟩
  · refine h_aload_n C dX3_isStair_7 0 rfl rfl ?_
    refine h_get C O3 0 hk (by decide) wd_152 dX3_isStair_8 (fs_3_0 hk) ?_
    refine h_iconst C dX3_isStair_11 ?_
    refine h_iaload C dX3_isStair_12 (fa_3_0 hk) 0 rfl (by rw [(fl_3_0 hk)]; decide) rfl ?_
    obtain ⟨hr3a, hr3b⟩ := hI.b (fo_3_0 hk _)
    generalize hg3 : σ (k + 1) 0 = r3 at hr3a hr3b ⊢
    refine h_aload_n C dX3_isStair_13 0 rfl rfl ?_
    refine h_get C O3 2 hk (by decide) wd_157 dX3_isStair_14 (hp_fvI (by rw [hk]; rfl) rfl) ?_
    rw [hg1]
    refine h_icmp_ne (tgt := 35) C dX3_isStair_17 (by decide) ⟨by omega, by omega⟩ ⟨by omega, by omega⟩ (fun h4 => ?_) (fun h4 => ?_)
    · refine h_iconst C dX3_isStair_35 ?_
      refine h_zreturn C (by omega) hr hlk dX3_isStair_36 ?_
      exact ⟨⟨_, rfl, ⟨by decide, by decide⟩⟩, rfl⟩
    · refine h_aload_n C dX3_isStair_20 0 rfl rfl ?_
      refine h_get C O3 3 hk (by decide) wd_160 dX3_isStair_21 (hp_fvI (by rw [hk]; rfl) rfl) ?_
      obtain ⟨hr5a, hr5b⟩ := hI.b (bf_3_3 hk)
      generalize hg5 : σ k 3 = r5 at hr5a hr5b ⊢
      refine h_aload_n C dX3_isStair_24 0 rfl rfl ?_
      refine h_get C O3 2 hk (by decide) wd_157 dX3_isStair_25 (hp_fvI (by rw [hk]; rfl) rfl) ?_
      rw [hg1]
      refine h_icmp_ne (tgt := 35) C dX3_isStair_28 (by decide) ⟨by omega, by omega⟩ ⟨by omega, by omega⟩ (fun h6 => ?_) (fun h6 => ?_)
      · refine h_iconst C dX3_isStair_35 ?_
        refine h_zreturn C (by omega) hr hlk dX3_isStair_36 ?_
        exact ⟨⟨_, rfl, ⟨by decide, by decide⟩⟩, rfl⟩
      · refine h_iconst C dX3_isStair_31 ?_
        refine h_goto (tgt := 36) C dX3_isStair_32 (by decide) ?_
        refine h_zreturn C (by omega) hr hlk dX3_isStair_36 ?_
        exact ⟨⟨_, rfl, ⟨by decide, by decide⟩⟩, rfl⟩
abbrev rgX3_squareSide : Room := { frames := 1, cells := 0, slots := 0, locals := 23 }
abbrev pgX3_squareSide (z : Nat) (σ : hpMem) (k : Nat) : Option Value → hpMem → Prop := fun r τ => (∃ x : Int, r = some (.int (hpI x)) ∧ (hpR x)) ∧ σ = τ
set_option maxHeartbeats 4000000 in
set_option maxRecDepth 20000 in
theorem tgX3_squareSide (l : Launch) (D : va_G) (cy : Nat → ClassId) (z : Nat) (σ : hpMem) (k : Nat) (hk : hpkd k = 3) (hI : hpInv σ) : hpM l D cy z yX3_squareSide cX3_squareSide 2 (some .int) rgX3_squareSide [.ref (z + k)] σ (pgX3_squareSide z σ k) := by
  refine hp_met rfl (Nat.le_of_ble_eq_true rfl) (fun p e s m below meth c C Z hr hlk => ?_)
  have hl_k := kb_3 hk
  refine h_iconst C dX3_squareSide_0 ?_
  refine h_istore_n (lv' := [(1, .int (hpI 0)), (0, .ref (z + k))]) C dX3_squareSide_1 rfl (by decide) rfl ?_
  have L1 : ∀ (n1 : Nat) (w1_1 : Int), 0 ≤ w1_1 → w1_1 ≤ 2147483647 → (4294967296 - w1_1) < (n1 : Int) → hpF p l e rgX3_squareSide s m [.ref (z + k)] below meth c 2 D cy z (pgX3_squareSide z σ k) σ 2 [(0, .ref (z + k)), (1, .int (hpI w1_1))] [] := by
    intro n1
    induction n1 with
    | zero => intro w1_1 hv1_0 hv1_1 hm1; exfalso; omega
    | succ n1 ih1 =>
      intro w1_1 hv1_0 hv1_1 hm1
      refine h_iload_n C dX3_squareSide_2 1 rfl rfl ?_
      refine h_aload_n C dX3_squareSide_3 0 rfl rfl ?_
      refine h_get C O3 3 hk (by decide) wd_160 dX3_squareSide_4 (hp_fvI (by rw [hk]; rfl) rfl) ?_
      obtain ⟨hr2a, hr2b⟩ := hI.b (bf_3_3 hk)
      generalize hg2 : σ k 3 = r2 at hr2a hr2b ⊢
      refine h_icmp_ge (tgt := 27) C dX3_squareSide_7 (by decide) ⟨by omega, by omega⟩ ⟨by omega, by omega⟩ (fun h3 => ?_) (fun h3 => ?_)
      · refine h_iload_n C dX3_squareSide_27 1 rfl rfl ?_
        refine h_ireturn C hr hlk dX3_squareSide_28 ?_
        exact ⟨⟨_, rfl, ⟨by omega, by omega⟩⟩, rfl⟩
      · refine h_aload_n C dX3_squareSide_10 0 rfl rfl ?_
        refine h_iload_n C dX3_squareSide_11 1 rfl rfl ?_
        refine h_iconst C dX3_squareSide_12 ?_
        refine h_iadd C dX3_squareSide_13 rfl ?_
        refine h_callV (As := [.int (hpI (w1_1 + 1))]) (rest := []) C Z yyX3_heapsFrom wd_757 (tgX3_heapsFrom l D cy z _ k hk (w1_1 + 1) ⟨by omega, by omega⟩ hI) hk rfl rfl ⟨rfl, rfl, Nat.le_of_ble_eq_true rfl, Nat.le_of_ble_eq_true rfl⟩ ⟨Nat.le_of_ble_eq_true rfl, Nat.le_of_ble_eq_true rfl⟩ (Nat.le_of_ble_eq_true rfl) dX3_squareSide_14 (fun r4 τ4 hp4 => ?_)
        obtain ⟨⟨x4, rfl, ⟨hx4a, hx4b⟩⟩, rfl⟩ := hp4
        show hpV _ _ _ _ _ _ _ _ _ _ _ _ _ _ _ _ _ _ _ _ _ (_ :: _)
        refine h_iload_n C dX3_squareSide_17 1 rfl rfl ?_
        refine h_icmp_le (tgt := 27) C dX3_squareSide_18 (by decide) ⟨by omega, by omega⟩ ⟨by omega, by omega⟩ (fun h5 => ?_) (fun h5 => ?_)
        · refine h_iload_n C dX3_squareSide_27 1 rfl rfl ?_
          refine h_ireturn C hr hlk dX3_squareSide_28 ?_
          exact ⟨⟨_, rfl, ⟨by omega, by omega⟩⟩, rfl⟩
        · refine h_iinc (lv' := [(1, .int (hpI (w1_1 + 1))), (0, .ref (z + k))]) C dX3_squareSide_21 1 rfl rfl (by decide) rfl ?_
          refine h_goto (tgt := 2) C dX3_squareSide_24 (by decide) ?_
          exact hp_sub [1, 0] rfl (ih1 (w1_1 + 1) (by omega) (by omega) (by omega))
  exact hp_sub [1, 0] rfl (L1 8589934592 0 (by omega) (by omega) (by omega))
abbrev rgX3_sameTurnedOver : Room := { frames := 1, cells := 0, slots := 0, locals := 23 }
abbrev pgX3_sameTurnedOver (z : Nat) (σ : hpMem) (k : Nat) : Option Value → hpMem → Prop := fun r τ => (∃ x : Int, r = some (.int (hpI x)) ∧ (0 ≤ x ∧ x ≤ 1)) ∧ σ = τ
set_option maxHeartbeats 4000000 in
set_option maxRecDepth 20000 in
theorem tgX3_sameTurnedOver (l : Launch) (D : va_G) (cy : Nat → ClassId) (z : Nat) (σ : hpMem) (k : Nat) (hk : hpkd k = 3) (hI : hpInv σ) : hpM l D cy z yX3_sameTurnedOver cX3_sameTurnedOver 2 (some .boolean) rgX3_sameTurnedOver [.ref (z + k)] σ (pgX3_sameTurnedOver z σ k) := by
  refine hp_met rfl (Nat.le_of_ble_eq_true rfl) (fun p e s m below meth c C Z hr hlk => ?_)
  have hl_k := kb_3 hk
  refine h_aload_n C dX3_sameTurnedOver_0 0 rfl rfl ?_
  refine h_callV (As := []) (rest := []) C Z yyX3_highest wd_774 (tgX3_highest l D cy z _ k hk hI) hk rfl rfl ⟨rfl, rfl, Nat.le_of_ble_eq_true rfl, Nat.le_of_ble_eq_true rfl⟩ ⟨Nat.le_of_ble_eq_true rfl, Nat.le_of_ble_eq_true rfl⟩ (Nat.le_of_ble_eq_true rfl) dX3_sameTurnedOver_1 (fun r1 τ1 hp1 => ?_)
  obtain ⟨⟨x1, rfl, ⟨hx1a, hx1b⟩⟩, rfl⟩ := hp1
  show hpV _ _ _ _ _ _ _ _ _ _ _ _ _ _ _ _ _ _ _ _ _ (_ :: _)
  refine h_aload_n C dX3_sameTurnedOver_4 0 rfl rfl ?_
  refine h_get C O3 3 hk (by decide) wd_160 dX3_sameTurnedOver_5 (hp_fvI (by rw [hk]; rfl) rfl) ?_
  obtain ⟨hr2a, hr2b⟩ := hI.b (bf_3_3 hk)
  generalize hg2 : σ k 3 = r2 at hr2a hr2b ⊢
  refine h_icmp_eq (tgt := 13) C dX3_sameTurnedOver_8 (by decide) ⟨by omega, by omega⟩ ⟨by omega, by omega⟩ (fun h3 => ?_) (fun h3 => ?_)
  · refine h_iconst C dX3_sameTurnedOver_13 ?_
    refine h_istore_n (lv' := [(1, .int (hpI 0)), (0, .ref (z + k))]) C dX3_sameTurnedOver_14 rfl (by decide) rfl ?_
    have L4 : ∀ (n4 : Nat) (w4_1 : Int), 0 ≤ w4_1 → w4_1 ≤ 2147483647 → (4294967296 - w4_1) < (n4 : Int) → hpF p l e rgX3_sameTurnedOver s m [.ref (z + k)] below meth c 2 D cy z (pgX3_sameTurnedOver z σ k) σ 15 [(0, .ref (z + k)), (1, .int (hpI w4_1))] [] := by
      intro n4
      induction n4 with
      | zero => intro w4_1 hv4_0 hv4_1 hm4; exfalso; omega
      | succ n4 ih4 =>
        intro w4_1 hv4_0 hv4_1 hm4
        refine h_iload_n C dX3_sameTurnedOver_15 1 rfl rfl ?_
        refine h_aload_n C dX3_sameTurnedOver_16 0 rfl rfl ?_
        refine h_get C O3 3 hk (by decide) wd_160 dX3_sameTurnedOver_17 (hp_fvI (by rw [hk]; rfl) rfl) ?_
        rw [hg2]
        refine h_icmp_ge (tgt := 46) C dX3_sameTurnedOver_20 (by decide) ⟨by omega, by omega⟩ ⟨by omega, by omega⟩ (fun h5 => ?_) (fun h5 => ?_)
        · refine h_iconst C dX3_sameTurnedOver_46 ?_
          refine h_zreturn C (by omega) hr hlk dX3_sameTurnedOver_47 ?_
          exact ⟨⟨_, rfl, ⟨by decide, by decide⟩⟩, rfl⟩
        · refine h_aload_n C dX3_sameTurnedOver_23 0 rfl rfl ?_
          refine h_iload_n C dX3_sameTurnedOver_24 1 rfl rfl ?_
          refine h_callV (As := [.int (hpI w4_1)]) (rest := []) C Z yyX3_heapAt wd_775 (tgX3_heapAt l D cy z _ k hk w4_1 ⟨by omega, by omega⟩ hI) hk rfl rfl ⟨rfl, rfl, Nat.le_of_ble_eq_true rfl, Nat.le_of_ble_eq_true rfl⟩ ⟨Nat.le_of_ble_eq_true rfl, Nat.le_of_ble_eq_true rfl⟩ (Nat.le_of_ble_eq_true rfl) dX3_sameTurnedOver_25 (fun r6 τ6 hp6 => ?_)
          obtain ⟨⟨x6, rfl, ⟨hx6a, hx6b⟩⟩, rfl⟩ := hp6
          show hpV _ _ _ _ _ _ _ _ _ _ _ _ _ _ _ _ _ _ _ _ _ (_ :: _)
          refine h_aload_n C dX3_sameTurnedOver_28 0 rfl rfl ?_
          refine h_iload_n C dX3_sameTurnedOver_29 1 rfl rfl ?_
          refine h_iconst C dX3_sameTurnedOver_30 ?_
          refine h_iadd C dX3_sameTurnedOver_31 rfl ?_
          refine h_callV (As := [.int (hpI (w4_1 + 1))]) (rest := [.int (hpI x6)]) C Z yyX3_heapsFrom wd_757 (tgX3_heapsFrom l D cy z _ k hk (w4_1 + 1) ⟨by omega, by omega⟩ hI) hk rfl rfl ⟨rfl, rfl, Nat.le_of_ble_eq_true rfl, Nat.le_of_ble_eq_true rfl⟩ ⟨Nat.le_of_ble_eq_true rfl, Nat.le_of_ble_eq_true rfl⟩ (Nat.le_of_ble_eq_true rfl) dX3_sameTurnedOver_32 (fun r7 τ7 hp7 => ?_)
          obtain ⟨⟨x7, rfl, ⟨hx7a, hx7b⟩⟩, rfl⟩ := hp7
          show hpV _ _ _ _ _ _ _ _ _ _ _ _ _ _ _ _ _ _ _ _ _ (_ :: _)
          refine h_icmp_eq (tgt := 40) C dX3_sameTurnedOver_35 (by decide) ⟨by omega, by omega⟩ ⟨by omega, by omega⟩ (fun h8 => ?_) (fun h8 => ?_)
          · refine h_iinc (lv' := [(1, .int (hpI (w4_1 + 1))), (0, .ref (z + k))]) C dX3_sameTurnedOver_40 1 rfl rfl (by decide) rfl ?_
            refine h_goto (tgt := 15) C dX3_sameTurnedOver_43 (by decide) ?_
            exact hp_sub [1, 0] rfl (ih4 (w4_1 + 1) (by omega) (by omega) (by omega))
          · refine h_iconst C dX3_sameTurnedOver_38 ?_
            refine h_zreturn C (by omega) hr hlk dX3_sameTurnedOver_39 ?_
            exact ⟨⟨_, rfl, ⟨by decide, by decide⟩⟩, rfl⟩
    exact hp_sub [1, 0] rfl (L4 8589934592 0 (by omega) (by omega) (by omega))
  · refine h_iconst C dX3_sameTurnedOver_11 ?_
    refine h_zreturn C (by omega) hr hlk dX3_sameTurnedOver_12 ?_
    exact ⟨⟨_, rfl, ⟨by decide, by decide⟩⟩, rfl⟩
abbrev rgX3_standsTo : Room := { frames := 1, cells := 0, slots := 0, locals := 29 }
abbrev pgX3_standsTo (z : Nat) (σ : hpMem) (k : Nat) (q : Nat) : Option Value → hpMem → Prop := fun r τ => (∃ x : Int, r = some (.int (hpI x)) ∧ (hpR x)) ∧ σ = τ
set_option maxHeartbeats 4000000 in
set_option maxRecDepth 20000 in
theorem tgX3_standsTo (l : Launch) (D : va_G) (cy : Nat → ClassId) (z : Nat) (σ : hpMem) (k : Nat) (hk : hpkd k = 3) (q : Nat) (hq : hpkd q = 3) (hI : hpInv σ) : hpM l D cy z yX3_standsTo cX3_standsTo 7 (some .int) rgX3_standsTo [.ref (z + k), .ref (z + q)] σ (pgX3_standsTo z σ k q) := by
  refine hp_met rfl (Nat.le_of_ble_eq_true rfl) (fun p e s m below meth c C Z hr hlk => ?_)
  have hl_k := kb_3 hk
  have hl_q := kb_3 hq
  refine h_aload_n C dX3_standsTo_0 0 rfl rfl ?_
  refine h_get C O3 4 hk (by decide) wd_165 dX3_standsTo_1 (hp_fvI (by rw [hk]; rfl) rfl) ?_
  obtain ⟨hr1a, hr1b⟩ := hI.b (bf_3_4 hk)
  generalize hg1 : σ k 4 = r1 at hr1a hr1b ⊢
  refine h_aload_n C dX3_standsTo_4 1 rfl rfl ?_
  refine h_get C O3 4 hq (by decide) wd_165 dX3_standsTo_5 (hp_fvI (by rw [hq]; rfl) rfl) ?_
  obtain ⟨hr2a, hr2b⟩ := hI.b (bf_3_4 hq)
  generalize hg2 : σ q 4 = r2 at hr2a hr2b ⊢
  refine h_icmp_eq (tgt := 13) C dX3_standsTo_8 (by decide) ⟨by omega, by omega⟩ ⟨by omega, by omega⟩ (fun h3 => ?_) (fun h3 => ?_)
  · refine h_iconst C dX3_standsTo_13 ?_
    refine h_istore_n (lv' := [(2, .int (hpI 0)), (0, .ref (z + k)), (1, .ref (z + q))]) C dX3_standsTo_14 rfl (by decide) rfl ?_
    refine h_iconst C dX3_standsTo_15 ?_
    refine h_istore_n (lv' := [(3, .int (hpI 0)), (2, .int (hpI 0)), (0, .ref (z + k)), (1, .ref (z + q))]) C dX3_standsTo_16 rfl (by decide) rfl ?_
    refine h_iconst C dX3_standsTo_17 ?_
    refine h_istore (lv' := [(4, .int (hpI 0)), (3, .int (hpI 0)), (2, .int (hpI 0)), (0, .ref (z + k)), (1, .ref (z + q))]) C dX3_standsTo_18 (by decide) rfl ?_
    refine h_aload_n C dX3_standsTo_20 3 rfl rfl ?_
    refine h_get C O3 3 hk (by decide) wd_160 dX3_standsTo_21 (hp_fvI (by rw [hk]; rfl) rfl) ?_
    obtain ⟨hr4a, hr4b⟩ := hI.b (bf_3_3 hk)
    generalize hg4 : σ k 3 = r4 at hr4a hr4b ⊢
    refine h_aload_n C dX3_standsTo_24 4 rfl rfl ?_
    refine h_get C O3 3 hq (by decide) wd_160 dX3_standsTo_25 (hp_fvI (by rw [hq]; rfl) rfl) ?_
    obtain ⟨hr5a, hr5b⟩ := hI.b (bf_3_3 hq)
    generalize hg5 : σ q 3 = r5 at hr5a hr5b ⊢
    refine h_mmax C wd_784 wd_708 wd_709 wd_15 dX3_standsTo_28 ⟨by omega, by omega⟩ ⟨by omega, by omega⟩ (Nat.le_of_ble_eq_true rfl) (Nat.le_of_ble_eq_true rfl) ⟨Nat.le_of_ble_eq_true rfl, Nat.le_of_ble_eq_true rfl⟩ (fun r6 hr6a hr6b hr6c => ?_)
    refine h_istore (lv' := [(5, .int (hpI r6)), (4, .int (hpI 0)), (3, .int (hpI 0)), (2, .int (hpI 0)), (0, .ref (z + k)), (1, .ref (z + q))]) C dX3_standsTo_31 (by decide) rfl ?_
    refine h_iconst C dX3_standsTo_33 ?_
    refine h_istore (lv' := [(6, .int (hpI 0)), (5, .int (hpI r6)), (4, .int (hpI 0)), (3, .int (hpI 0)), (2, .int (hpI 0)), (0, .ref (z + k)), (1, .ref (z + q))]) C dX3_standsTo_34 (by decide) rfl ?_
    have L7 : ∀ (n7 : Nat) (w7_2 : Int) (w7_3 : Int) (w7_4 : Int) (w7_6 : Int), -2147483648 ≤ w7_2 → w7_2 ≤ 2147483647 → -2147483648 ≤ w7_3 → w7_3 ≤ 2147483647 → -2147483648 ≤ w7_4 → w7_4 ≤ 2147483647 → 0 ≤ w7_6 → w7_6 ≤ 2147483647 → (4294967296 - w7_6) < (n7 : Int) → hpF p l e rgX3_standsTo s m [.ref (z + k), .ref (z + q)] below meth c 7 D cy z (pgX3_standsTo z σ k q) σ 36 [(0, .ref (z + k)), (1, .ref (z + q)), (2, .int (hpI w7_2)), (3, .int (hpI w7_3)), (4, .int (hpI w7_4)), (5, .int (hpI r6)), (6, .int (hpI w7_6))] [] := by
      intro n7
      induction n7 with
      | zero => intro w7_2 w7_3 w7_4 w7_6 hv7_0 hv7_1 hv7_2 hv7_3 hv7_4 hv7_5 hv7_6 hv7_7 hm7; exfalso; omega
      | succ n7 ih7 =>
        intro w7_2 w7_3 w7_4 w7_6 hv7_0 hv7_1 hv7_2 hv7_3 hv7_4 hv7_5 hv7_6 hv7_7 hm7
        refine h_iload C dX3_standsTo_36 6 rfl ?_
        refine h_iload C dX3_standsTo_38 5 rfl ?_
        refine h_icmp_ge (tgt := 103) C dX3_standsTo_40 (by decide) ⟨by omega, by omega⟩ ⟨by omega, by omega⟩ (fun h8 => ?_) (fun h8 => ?_)
        · refine h_iload_n C dX3_standsTo_103 3 rfl rfl ?_
          refine h_if_eq (tgt := 111) C dX3_standsTo_104 (by decide) ⟨by omega, by omega⟩ (fun h9 => ?_) (fun h9 => ?_)
          · refine h_iconst C dX3_standsTo_111 ?_
            refine h_iload C dX3_standsTo_112 4 rfl ?_
            refine h_if_eq (tgt := 121) C dX3_standsTo_114 (by decide) ⟨by omega, by omega⟩ (fun h10 => ?_) (fun h10 => ?_)
            · refine h_iconst C dX3_standsTo_121 ?_
              refine h_iadd (r := 0) C dX3_standsTo_122 (by decide) ?_
              refine h_ireturn C hr hlk dX3_standsTo_123 ?_
              exact ⟨⟨_, rfl, ⟨by decide, by decide⟩⟩, rfl⟩
            · refine h_iconst C dX3_standsTo_117 ?_
              refine h_goto (tgt := 122) C dX3_standsTo_118 (by decide) ?_
              refine h_iadd (r := 2) C dX3_standsTo_122 (by decide) ?_
              refine h_ireturn C hr hlk dX3_standsTo_123 ?_
              exact ⟨⟨_, rfl, ⟨by decide, by decide⟩⟩, rfl⟩
          · refine h_iconst C dX3_standsTo_107 ?_
            refine h_goto (tgt := 112) C dX3_standsTo_108 (by decide) ?_
            refine h_iload C dX3_standsTo_112 4 rfl ?_
            refine h_if_eq (tgt := 121) C dX3_standsTo_114 (by decide) ⟨by omega, by omega⟩ (fun h11 => ?_) (fun h11 => ?_)
            · refine h_iconst C dX3_standsTo_121 ?_
              refine h_iadd (r := 1) C dX3_standsTo_122 (by decide) ?_
              refine h_ireturn C hr hlk dX3_standsTo_123 ?_
              exact ⟨⟨_, rfl, ⟨by decide, by decide⟩⟩, rfl⟩
            · refine h_iconst C dX3_standsTo_117 ?_
              refine h_goto (tgt := 122) C dX3_standsTo_118 (by decide) ?_
              refine h_iadd (r := 3) C dX3_standsTo_122 (by decide) ?_
              refine h_ireturn C hr hlk dX3_standsTo_123 ?_
              exact ⟨⟨_, rfl, ⟨by decide, by decide⟩⟩, rfl⟩
        · refine h_iload_n C dX3_standsTo_43 2 rfl rfl ?_
          refine h_iconst C dX3_standsTo_44 ?_
          refine h_aload_n C dX3_standsTo_45 0 rfl rfl ?_
          refine h_iload C dX3_standsTo_46 6 rfl ?_
          refine h_callV (As := [.int (hpI w7_6)]) (rest := [.int (hpI 0), .int (hpI w7_2)]) C Z yyX3_heapAt wd_775 (tgX3_heapAt l D cy z _ k hk w7_6 ⟨by omega, by omega⟩ hI) hk rfl rfl ⟨rfl, rfl, Nat.le_of_ble_eq_true rfl, Nat.le_of_ble_eq_true rfl⟩ ⟨Nat.le_of_ble_eq_true rfl, Nat.le_of_ble_eq_true rfl⟩ (Nat.le_of_ble_eq_true rfl) dX3_standsTo_48 (fun r12 τ12 hp12 => ?_)
          obtain ⟨⟨x12, rfl, ⟨hx12a, hx12b⟩⟩, rfl⟩ := hp12
          show hpV _ _ _ _ _ _ _ _ _ _ _ _ _ _ _ _ _ _ _ _ _ (_ :: _)
          refine h_mmax C wd_784 wd_708 wd_709 wd_15 dX3_standsTo_51 ⟨by decide, by decide⟩ ⟨by omega, by omega⟩ (Nat.le_of_ble_eq_true rfl) (Nat.le_of_ble_eq_true rfl) ⟨Nat.le_of_ble_eq_true rfl, Nat.le_of_ble_eq_true rfl⟩ (fun r13 hr13a hr13b hr13c => ?_)
          refine h_iconst C dX3_standsTo_54 ?_
          refine h_aload_n C dX3_standsTo_55 1 rfl rfl ?_
          refine h_iload C dX3_standsTo_56 6 rfl ?_
          refine h_callV (As := [.int (hpI w7_6)]) (rest := [.int (hpI 0), .int (hpI r13), .int (hpI w7_2)]) C Z yyX3_heapAt wd_775 (tgX3_heapAt l D cy z _ q hq w7_6 ⟨by omega, by omega⟩ hI) hq rfl rfl ⟨rfl, rfl, Nat.le_of_ble_eq_true rfl, Nat.le_of_ble_eq_true rfl⟩ ⟨Nat.le_of_ble_eq_true rfl, Nat.le_of_ble_eq_true rfl⟩ (Nat.le_of_ble_eq_true rfl) dX3_standsTo_58 (fun r14 τ14 hp14 => ?_)
          obtain ⟨⟨x14, rfl, ⟨hx14a, hx14b⟩⟩, rfl⟩ := hp14
          show hpV _ _ _ _ _ _ _ _ _ _ _ _ _ _ _ _ _ _ _ _ _ (_ :: _)
          refine h_mmax C wd_784 wd_708 wd_709 wd_15 dX3_standsTo_61 ⟨by decide, by decide⟩ ⟨by omega, by omega⟩ (Nat.le_of_ble_eq_true rfl) (Nat.le_of_ble_eq_true rfl) ⟨Nat.le_of_ble_eq_true rfl, Nat.le_of_ble_eq_true rfl⟩ (fun r15 hr15a hr15b hr15c => ?_)
          refine h_isub C dX3_standsTo_64 rfl ?_
          refine h_iadd C dX3_standsTo_65 rfl ?_
          refine hp_anyI (fun r16 hr16 => ?_)
          obtain ⟨hr16a, hr16b⟩ := hr16
          refine h_istore_n (lv' := [(2, .int (hpI r16)), (0, .ref (z + k)), (1, .ref (z + q)), (3, .int (hpI w7_3)), (4, .int (hpI w7_4)), (5, .int (hpI r6)), (6, .int (hpI w7_6))]) C dX3_standsTo_66 rfl (by decide) rfl ?_
          refine h_iload_n C dX3_standsTo_67 3 rfl rfl ?_
          refine h_if_ne (tgt := 75) C dX3_standsTo_68 (by decide) ⟨by omega, by omega⟩ (fun h17 => ?_) (fun h17 => ?_)
          · refine h_iconst C dX3_standsTo_75 ?_
            refine h_goto (tgt := 80) C dX3_standsTo_76 (by decide) ?_
            refine h_istore_n (lv' := [(3, .int (hpI 1)), (2, .int (hpI r16)), (0, .ref (z + k)), (1, .ref (z + q)), (4, .int (hpI w7_4)), (5, .int (hpI r6)), (6, .int (hpI w7_6))]) C dX3_standsTo_80 rfl (by decide) rfl ?_
            refine h_iload C dX3_standsTo_81 4 rfl ?_
            refine h_if_ne (tgt := 90) C dX3_standsTo_83 (by decide) ⟨by omega, by omega⟩ (fun h18 => ?_) (fun h18 => ?_)
            · refine h_iconst C dX3_standsTo_90 ?_
              refine h_goto (tgt := 95) C dX3_standsTo_91 (by decide) ?_
              refine h_istore (lv' := [(4, .int (hpI 1)), (3, .int (hpI 1)), (2, .int (hpI r16)), (0, .ref (z + k)), (1, .ref (z + q)), (5, .int (hpI r6)), (6, .int (hpI w7_6))]) C dX3_standsTo_95 (by decide) rfl ?_
              refine h_iinc (lv' := [(6, .int (hpI (w7_6 + 1))), (4, .int (hpI 1)), (3, .int (hpI 1)), (2, .int (hpI r16)), (0, .ref (z + k)), (1, .ref (z + q)), (5, .int (hpI r6))]) C dX3_standsTo_97 6 rfl rfl (by decide) rfl ?_
              refine h_goto (tgt := 36) C dX3_standsTo_100 (by decide) ?_
              exact hp_sub [4, 5, 3, 2, 1, 6, 0] rfl (ih7 r16 1 1 (w7_6 + 1) (by omega) (by omega) (by omega) (by omega) (by omega) (by omega) (by omega) (by omega) (by omega))
            · refine h_iload_n C dX3_standsTo_86 1 rfl rfl ?_
              refine h_if_ge (tgt := 94) C dX3_standsTo_87 (by decide) ⟨by omega, by omega⟩ (fun h19 => ?_) (fun h19 => ?_)
              · refine h_iconst C dX3_standsTo_94 ?_
                refine h_istore (lv' := [(4, .int (hpI 0)), (3, .int (hpI 1)), (2, .int (hpI r16)), (0, .ref (z + k)), (1, .ref (z + q)), (5, .int (hpI r6)), (6, .int (hpI w7_6))]) C dX3_standsTo_95 (by decide) rfl ?_
                refine h_iinc (lv' := [(6, .int (hpI (w7_6 + 1))), (4, .int (hpI 0)), (3, .int (hpI 1)), (2, .int (hpI r16)), (0, .ref (z + k)), (1, .ref (z + q)), (5, .int (hpI r6))]) C dX3_standsTo_97 6 rfl rfl (by decide) rfl ?_
                refine h_goto (tgt := 36) C dX3_standsTo_100 (by decide) ?_
                exact hp_sub [4, 5, 3, 2, 1, 6, 0] rfl (ih7 r16 1 0 (w7_6 + 1) (by omega) (by omega) (by omega) (by omega) (by omega) (by omega) (by omega) (by omega) (by omega))
              · refine h_iconst C dX3_standsTo_90 ?_
                refine h_goto (tgt := 95) C dX3_standsTo_91 (by decide) ?_
                refine h_istore (lv' := [(4, .int (hpI 1)), (3, .int (hpI 1)), (2, .int (hpI r16)), (0, .ref (z + k)), (1, .ref (z + q)), (5, .int (hpI r6)), (6, .int (hpI w7_6))]) C dX3_standsTo_95 (by decide) rfl ?_
                refine h_iinc (lv' := [(6, .int (hpI (w7_6 + 1))), (4, .int (hpI 1)), (3, .int (hpI 1)), (2, .int (hpI r16)), (0, .ref (z + k)), (1, .ref (z + q)), (5, .int (hpI r6))]) C dX3_standsTo_97 6 rfl rfl (by decide) rfl ?_
                refine h_goto (tgt := 36) C dX3_standsTo_100 (by decide) ?_
                exact hp_sub [4, 5, 3, 2, 1, 6, 0] rfl (ih7 r16 1 1 (w7_6 + 1) (by omega) (by omega) (by omega) (by omega) (by omega) (by omega) (by omega) (by omega) (by omega))
          · refine h_iload_n C dX3_standsTo_71 0 rfl rfl ?_
            refine h_if_le (tgt := 79) C dX3_standsTo_72 (by decide) ⟨by omega, by omega⟩ (fun h20 => ?_) (fun h20 => ?_)
            · refine h_iconst C dX3_standsTo_79 ?_
              refine h_istore_n (lv' := [(3, .int (hpI 0)), (2, .int (hpI r16)), (0, .ref (z + k)), (1, .ref (z + q)), (4, .int (hpI w7_4)), (5, .int (hpI r6)), (6, .int (hpI w7_6))]) C dX3_standsTo_80 rfl (by decide) rfl ?_
              refine h_iload C dX3_standsTo_81 4 rfl ?_
              refine h_if_ne (tgt := 90) C dX3_standsTo_83 (by decide) ⟨by omega, by omega⟩ (fun h21 => ?_) (fun h21 => ?_)
              · refine h_iconst C dX3_standsTo_90 ?_
                refine h_goto (tgt := 95) C dX3_standsTo_91 (by decide) ?_
                refine h_istore (lv' := [(4, .int (hpI 1)), (3, .int (hpI 0)), (2, .int (hpI r16)), (0, .ref (z + k)), (1, .ref (z + q)), (5, .int (hpI r6)), (6, .int (hpI w7_6))]) C dX3_standsTo_95 (by decide) rfl ?_
                refine h_iinc (lv' := [(6, .int (hpI (w7_6 + 1))), (4, .int (hpI 1)), (3, .int (hpI 0)), (2, .int (hpI r16)), (0, .ref (z + k)), (1, .ref (z + q)), (5, .int (hpI r6))]) C dX3_standsTo_97 6 rfl rfl (by decide) rfl ?_
                refine h_goto (tgt := 36) C dX3_standsTo_100 (by decide) ?_
                exact hp_sub [4, 5, 3, 2, 1, 6, 0] rfl (ih7 r16 0 1 (w7_6 + 1) (by omega) (by omega) (by omega) (by omega) (by omega) (by omega) (by omega) (by omega) (by omega))
              · refine h_iload_n C dX3_standsTo_86 1 rfl rfl ?_
                refine h_if_ge (tgt := 94) C dX3_standsTo_87 (by decide) ⟨by omega, by omega⟩ (fun h22 => ?_) (fun h22 => ?_)
                · refine h_iconst C dX3_standsTo_94 ?_
                  refine h_istore (lv' := [(4, .int (hpI 0)), (3, .int (hpI 0)), (2, .int (hpI r16)), (0, .ref (z + k)), (1, .ref (z + q)), (5, .int (hpI r6)), (6, .int (hpI w7_6))]) C dX3_standsTo_95 (by decide) rfl ?_
                  refine h_iinc (lv' := [(6, .int (hpI (w7_6 + 1))), (4, .int (hpI 0)), (3, .int (hpI 0)), (2, .int (hpI r16)), (0, .ref (z + k)), (1, .ref (z + q)), (5, .int (hpI r6))]) C dX3_standsTo_97 6 rfl rfl (by decide) rfl ?_
                  refine h_goto (tgt := 36) C dX3_standsTo_100 (by decide) ?_
                  exact hp_sub [4, 5, 3, 2, 1, 6, 0] rfl (ih7 r16 0 0 (w7_6 + 1) (by omega) (by omega) (by omega) (by omega) (by omega) (by omega) (by omega) (by omega) (by omega))
                · refine h_iconst C dX3_standsTo_90 ?_
                  refine h_goto (tgt := 95) C dX3_standsTo_91 (by decide) ?_
                  refine h_istore (lv' := [(4, .int (hpI 1)), (3, .int (hpI 0)), (2, .int (hpI r16)), (0, .ref (z + k)), (1, .ref (z + q)), (5, .int (hpI r6)), (6, .int (hpI w7_6))]) C dX3_standsTo_95 (by decide) rfl ?_
                  refine h_iinc (lv' := [(6, .int (hpI (w7_6 + 1))), (4, .int (hpI 1)), (3, .int (hpI 0)), (2, .int (hpI r16)), (0, .ref (z + k)), (1, .ref (z + q)), (5, .int (hpI r6))]) C dX3_standsTo_97 6 rfl rfl (by decide) rfl ?_
                  refine h_goto (tgt := 36) C dX3_standsTo_100 (by decide) ?_
                  exact hp_sub [4, 5, 3, 2, 1, 6, 0] rfl (ih7 r16 0 1 (w7_6 + 1) (by omega) (by omega) (by omega) (by omega) (by omega) (by omega) (by omega) (by omega) (by omega))
            · refine h_iconst C dX3_standsTo_75 ?_
              refine h_goto (tgt := 80) C dX3_standsTo_76 (by decide) ?_
              refine h_istore_n (lv' := [(3, .int (hpI 1)), (2, .int (hpI r16)), (0, .ref (z + k)), (1, .ref (z + q)), (4, .int (hpI w7_4)), (5, .int (hpI r6)), (6, .int (hpI w7_6))]) C dX3_standsTo_80 rfl (by decide) rfl ?_
              refine h_iload C dX3_standsTo_81 4 rfl ?_
              refine h_if_ne (tgt := 90) C dX3_standsTo_83 (by decide) ⟨by omega, by omega⟩ (fun h23 => ?_) (fun h23 => ?_)
              · refine h_iconst C dX3_standsTo_90 ?_
                refine h_goto (tgt := 95) C dX3_standsTo_91 (by decide) ?_
                refine h_istore (lv' := [(4, .int (hpI 1)), (3, .int (hpI 1)), (2, .int (hpI r16)), (0, .ref (z + k)), (1, .ref (z + q)), (5, .int (hpI r6)), (6, .int (hpI w7_6))]) C dX3_standsTo_95 (by decide) rfl ?_
                refine h_iinc (lv' := [(6, .int (hpI (w7_6 + 1))), (4, .int (hpI 1)), (3, .int (hpI 1)), (2, .int (hpI r16)), (0, .ref (z + k)), (1, .ref (z + q)), (5, .int (hpI r6))]) C dX3_standsTo_97 6 rfl rfl (by decide) rfl ?_
                refine h_goto (tgt := 36) C dX3_standsTo_100 (by decide) ?_
                exact hp_sub [4, 5, 3, 2, 1, 6, 0] rfl (ih7 r16 1 1 (w7_6 + 1) (by omega) (by omega) (by omega) (by omega) (by omega) (by omega) (by omega) (by omega) (by omega))
              · refine h_iload_n C dX3_standsTo_86 1 rfl rfl ?_
                refine h_if_ge (tgt := 94) C dX3_standsTo_87 (by decide) ⟨by omega, by omega⟩ (fun h24 => ?_) (fun h24 => ?_)
                · refine h_iconst C dX3_standsTo_94 ?_
                  refine h_istore (lv' := [(4, .int (hpI 0)), (3, .int (hpI 1)), (2, .int (hpI r16)), (0, .ref (z + k)), (1, .ref (z + q)), (5, .int (hpI r6)), (6, .int (hpI w7_6))]) C dX3_standsTo_95 (by decide) rfl ?_
                  refine h_iinc (lv' := [(6, .int (hpI (w7_6 + 1))), (4, .int (hpI 0)), (3, .int (hpI 1)), (2, .int (hpI r16)), (0, .ref (z + k)), (1, .ref (z + q)), (5, .int (hpI r6))]) C dX3_standsTo_97 6 rfl rfl (by decide) rfl ?_
                  refine h_goto (tgt := 36) C dX3_standsTo_100 (by decide) ?_
                  exact hp_sub [4, 5, 3, 2, 1, 6, 0] rfl (ih7 r16 1 0 (w7_6 + 1) (by omega) (by omega) (by omega) (by omega) (by omega) (by omega) (by omega) (by omega) (by omega))
                · exfalso; omega
    exact hp_sub [5, 6, 4, 3, 2, 1, 0] rfl (L7 8589934592 0 0 0 0 (by omega) (by omega) (by omega) (by omega) (by omega) (by omega) (by omega) (by omega) (by omega))
  · refine h_iconst C dX3_standsTo_11 ?_
    refine h_ireturn C hr hlk dX3_standsTo_12 ?_
    exact ⟨⟨_, rfl, ⟨by decide, by decide⟩⟩, rfl⟩
abbrev rgX3_nimSum : Room := { frames := 0, cells := 0, slots := 0, locals := 0 }
abbrev pgX3_nimSum (z : Nat) (σ : hpMem) (k : Nat) (a0 : Int) : Option Value → hpMem → Prop := fun r τ => (∃ x : Int, r = some (.int (hpI x)) ∧ (hpR x)) ∧ σ = τ
set_option maxHeartbeats 4000000 in
set_option maxRecDepth 20000 in
theorem tgX3_nimSum (l : Launch) (D : va_G) (cy : Nat → ClassId) (z : Nat) (σ : hpMem) (k : Nat) (hk : hpkd k = 3) (a0 : Int) (ha0 : hpR a0) (hI : hpInv σ) : hpM l D cy z yX3_nimSum cX3_nimSum 4 (some .int) rgX3_nimSum [.ref (z + k), .int (hpI a0)] σ (pgX3_nimSum z σ k a0) := by
  obtain ⟨ha01, ha02⟩ := ha0
  refine hp_met rfl (Nat.le_of_ble_eq_true rfl) (fun p e s m below meth c C Z hr hlk => ?_)
  have hl_k := kb_3 hk
  refine h_iload_n C dX3_nimSum_0 1 rfl rfl ?_
  refine h_iconst C dX3_nimSum_1 ?_
  refine h_icmp_ge (tgt := 7) C dX3_nimSum_2 (by decide) ⟨by omega, by omega⟩ ⟨by decide, by decide⟩ (fun h1 => ?_) (fun h1 => ?_)
  · refine h_iconst C dX3_nimSum_7 ?_
    refine h_istore_n (lv' := [(2, .int (hpI 0)), (0, .ref (z + k)), (1, .int (hpI a0))]) C dX3_nimSum_8 rfl (by decide) rfl ?_
    refine h_iconst C dX3_nimSum_9 ?_
    refine h_istore_n (lv' := [(3, .int (hpI 0)), (2, .int (hpI 0)), (0, .ref (z + k)), (1, .int (hpI a0))]) C dX3_nimSum_10 rfl (by decide) rfl ?_
    have L2 : ∀ (n2 : Nat) (w2_2 : Int) (w2_3 : Int), -2147483648 ≤ w2_2 → w2_2 ≤ 2147483647 → 0 ≤ w2_3 → w2_3 ≤ 2147483647 → (4294967296 - w2_3) < (n2 : Int) → hpF p l e rgX3_nimSum s m [.ref (z + k), .int (hpI a0)] below meth c 4 D cy z (pgX3_nimSum z σ k a0) σ 11 [(0, .ref (z + k)), (1, .int (hpI a0)), (2, .int (hpI w2_2)), (3, .int (hpI w2_3))] [] := by
      intro n2
      induction n2 with
      | zero => intro w2_2 w2_3 hv2_0 hv2_1 hv2_2 hv2_3 hm2; exfalso; omega
      | succ n2 ih2 =>
        intro w2_2 w2_3 hv2_0 hv2_1 hv2_2 hv2_3 hm2
        refine h_iload_n C dX3_nimSum_11 3 rfl rfl ?_
        refine h_aload_n C dX3_nimSum_12 0 rfl rfl ?_
        refine h_get C O3 2 hk (by decide) wd_157 dX3_nimSum_13 (hp_fvI (by rw [hk]; rfl) rfl) ?_
        obtain ⟨hr3a, hr3b⟩ := hI.b (bf_3_2 hk)
        generalize hg3 : σ k 2 = r3 at hr3a hr3b ⊢
        refine h_icmp_ge (tgt := 48) C dX3_nimSum_16 (by decide) ⟨by omega, by omega⟩ ⟨by omega, by omega⟩ (fun h4 => ?_) (fun h4 => ?_)
        · refine h_iload_n C dX3_nimSum_48 2 rfl rfl ?_
          refine h_ireturn C hr hlk dX3_nimSum_49 ?_
          exact ⟨⟨_, rfl, ⟨by omega, by omega⟩⟩, rfl⟩
        · refine h_aload_n C dX3_nimSum_19 0 rfl rfl ?_
          refine h_get C O3 1 hk (by decide) wd_155 dX3_nimSum_20 (fs_3_1 hk) ?_
          refine h_iload_n C dX3_nimSum_23 3 rfl rfl ?_
          refine h_iaload C dX3_nimSum_24 (fa_3_1 hk) (w2_3).toNat (Int.toNat_of_nonneg (by omega)) (by rw [(fl_3_1 hk)]; omega) rfl ?_
          obtain ⟨hr5a, hr5b⟩ := hI.b (fo_3_1 hk _)
          generalize hg5 : σ (k + 2) ((w2_3).toNat) = r5 at hr5a hr5b ⊢
          refine h_iconst C dX3_nimSum_25 ?_
          refine h_irem_any C dX3_nimSum_26 ⟨by omega, by omega⟩ (by omega) (fun _ => ?_)
          refine hp_anyI (fun r6 hr6 => ?_)
          obtain ⟨hr6a, hr6b⟩ := hr6
          refine h_iconst C dX3_nimSum_27 ?_
          refine h_icmp_ne (tgt := 42) C dX3_nimSum_28 (by decide) ⟨by omega, by omega⟩ ⟨by decide, by decide⟩ (fun h7 => ?_) (fun h7 => ?_)
          · refine h_iinc (lv' := [(3, .int (hpI (w2_3 + 1))), (0, .ref (z + k)), (1, .int (hpI a0)), (2, .int (hpI w2_2))]) C dX3_nimSum_42 3 rfl rfl (by decide) rfl ?_
            refine h_goto (tgt := 11) C dX3_nimSum_45 (by decide) ?_
            exact hp_sub [1, 2, 3, 0] rfl (ih2 w2_2 (w2_3 + 1) (by omega) (by omega) (by omega) (by omega) (by omega))
          · refine h_iload_n C dX3_nimSum_31 2 rfl rfl ?_
            refine h_aload_n C dX3_nimSum_32 0 rfl rfl ?_
            refine h_get C O3 0 hk (by decide) wd_152 dX3_nimSum_33 (fs_3_0 hk) ?_
            refine h_iload_n C dX3_nimSum_36 3 rfl rfl ?_
            refine h_iaload C dX3_nimSum_37 (fa_3_0 hk) (w2_3).toNat (Int.toNat_of_nonneg (by omega)) (by rw [(fl_3_0 hk)]; omega) rfl ?_
            obtain ⟨hr8a, hr8b⟩ := hI.b (fo_3_0 hk _)
            generalize hg8 : σ (k + 1) ((w2_3).toNat) = r8 at hr8a hr8b ⊢
            refine h_iload_n C dX3_nimSum_38 1 rfl rfl ?_
            refine h_irem_any C dX3_nimSum_39 ⟨by omega, by omega⟩ (by omega) (fun _ => ?_)
            refine hp_anyI (fun r9 hr9 => ?_)
            obtain ⟨hr9a, hr9b⟩ := hr9
            refine h_ixor_any C dX3_nimSum_40 (fun r10 hr10 => ?_)
            obtain ⟨hr10a, hr10b⟩ := hr10
            refine h_istore_n (lv' := [(2, .int (hpI r10)), (0, .ref (z + k)), (1, .int (hpI a0)), (3, .int (hpI w2_3))]) C dX3_nimSum_41 rfl (by decide) rfl ?_
            refine h_iinc (lv' := [(3, .int (hpI (w2_3 + 1))), (2, .int (hpI r10)), (0, .ref (z + k)), (1, .int (hpI a0))]) C dX3_nimSum_42 3 rfl rfl (by decide) rfl ?_
            refine h_goto (tgt := 11) C dX3_nimSum_45 (by decide) ?_
            exact hp_sub [2, 3, 1, 0] rfl (ih2 r10 (w2_3 + 1) (by omega) (by omega) (by omega) (by omega) (by omega))
    exact hp_sub [2, 3, 1, 0] rfl (L2 8589934592 0 0 (by omega) (by omega) (by omega) (by omega) (by omega))
  · refine h_iconst C dX3_nimSum_5 ?_
    refine h_ireturn C hr hlk dX3_nimSum_6 ?_
    exact ⟨⟨_, rfl, ⟨by decide, by decide⟩⟩, rfl⟩
abbrev rgX3_winningTake : Room := { frames := 1, cells := 0, slots := 0, locals := 23 }
abbrev pgX3_winningTake (z : Nat) (σ : hpMem) (k : Nat) (a0 : Int) (a1 : Int) : Option Value → hpMem → Prop := fun r τ => (∃ x : Int, r = some (.int (hpI x)) ∧ (hpR x)) ∧ σ = τ
set_option maxHeartbeats 4000000 in
set_option maxRecDepth 20000 in
theorem tgX3_winningTake (l : Launch) (D : va_G) (cy : Nat → ClassId) (z : Nat) (σ : hpMem) (k : Nat) (hk : hpkd k = 3) (a0 : Int) (ha0 : hpR a0) (a1 : Int) (ha1 : hpR a1) (hI : hpInv σ) : hpM l D cy z yX3_winningTake cX3_winningTake 7 (some .int) rgX3_winningTake [.ref (z + k), .int (hpI a0), .int (hpI a1)] σ (pgX3_winningTake z σ k a0 a1) := by
  obtain ⟨ha01, ha02⟩ := ha0
  obtain ⟨ha11, ha12⟩ := ha1
  refine hp_met rfl (Nat.le_of_ble_eq_true rfl) (fun p e s m below meth c C Z hr hlk => ?_)
  have hl_k := kb_3 hk
  refine h_iload_n C dX3_winningTake_0 2 rfl rfl ?_
  refine h_iconst C dX3_winningTake_1 ?_
  refine h_icmp_lt (tgt := 17) C dX3_winningTake_2 (by decide) ⟨by omega, by omega⟩ ⟨by decide, by decide⟩ (fun h1 => ?_) (fun h1 => ?_)
  · refine h_iconst C dX3_winningTake_17 ?_
    refine h_ireturn C hr hlk dX3_winningTake_18 ?_
    exact ⟨⟨_, rfl, ⟨by decide, by decide⟩⟩, rfl⟩
  · refine h_iload_n C dX3_winningTake_5 1 rfl rfl ?_
    refine h_if_lt (tgt := 17) C dX3_winningTake_6 (by decide) ⟨by omega, by omega⟩ (fun h2 => ?_) (fun h2 => ?_)
    · refine h_iconst C dX3_winningTake_17 ?_
      refine h_ireturn C hr hlk dX3_winningTake_18 ?_
      exact ⟨⟨_, rfl, ⟨by decide, by decide⟩⟩, rfl⟩
    · refine h_iload_n C dX3_winningTake_9 1 rfl rfl ?_
      refine h_aload_n C dX3_winningTake_10 0 rfl rfl ?_
      refine h_get C O3 2 hk (by decide) wd_157 dX3_winningTake_11 (hp_fvI (by rw [hk]; rfl) rfl) ?_
      obtain ⟨hr3a, hr3b⟩ := hI.b (bf_3_2 hk)
      generalize hg3 : σ k 2 = r3 at hr3a hr3b ⊢
      refine h_icmp_lt (tgt := 19) C dX3_winningTake_14 (by decide) ⟨by omega, by omega⟩ ⟨by omega, by omega⟩ (fun h4 => ?_) (fun h4 => ?_)
      · refine h_aload_n C dX3_winningTake_19 0 rfl rfl ?_
        refine h_iload_n C dX3_winningTake_20 2 rfl rfl ?_
        refine h_callV (As := [.int (hpI a1)]) (rest := []) C Z yyX3_nimSum wd_1108 (tgX3_nimSum l D cy z _ k hk a1 ⟨by omega, by omega⟩ hI) hk rfl rfl ⟨rfl, rfl, Nat.le_of_ble_eq_true rfl, Nat.le_of_ble_eq_true rfl⟩ ⟨Nat.le_of_ble_eq_true rfl, Nat.le_of_ble_eq_true rfl⟩ (Nat.le_of_ble_eq_true rfl) dX3_winningTake_21 (fun r5 τ5 hp5 => ?_)
        obtain ⟨⟨x5, rfl, ⟨hx5a, hx5b⟩⟩, rfl⟩ := hp5
        show hpV _ _ _ _ _ _ _ _ _ _ _ _ _ _ _ _ _ _ _ _ _ (_ :: _)
        refine h_istore_n (lv' := [(3, .int (hpI x5)), (0, .ref (z + k)), (1, .int (hpI a0)), (2, .int (hpI a1))]) C dX3_winningTake_24 rfl (by decide) rfl ?_
        refine h_iload_n C dX3_winningTake_25 0 rfl rfl ?_
        refine h_if_ne (tgt := 31) C dX3_winningTake_26 (by decide) ⟨by omega, by omega⟩ (fun h6 => ?_) (fun h6 => ?_)
        · refine h_aload_n C dX3_winningTake_31 1 rfl rfl ?_
          refine h_get C O3 0 hk (by decide) wd_152 dX3_winningTake_32 (fs_3_0 hk) ?_
          refine h_iload_n C dX3_winningTake_35 2 rfl rfl ?_
          refine h_iaload C dX3_winningTake_36 (fa_3_0 hk) (a0).toNat (Int.toNat_of_nonneg (by omega)) (by rw [(fl_3_0 hk)]; omega) rfl ?_
          obtain ⟨hr7a, hr7b⟩ := hI.b (fo_3_0 hk _)
          generalize hg7 : σ (k + 1) ((a0).toNat) = r7 at hr7a hr7b ⊢
          refine h_iload_n C dX3_winningTake_37 3 rfl rfl ?_
          refine h_irem_any C dX3_winningTake_38 ⟨by omega, by omega⟩ (by omega) (fun _ => ?_)
          refine hp_anyI (fun r8 hr8 => ?_)
          obtain ⟨hr8a, hr8b⟩ := hr8
          refine h_istore (lv' := [(4, .int (hpI r8)), (3, .int (hpI x5)), (0, .ref (z + k)), (1, .int (hpI a0)), (2, .int (hpI a1))]) C dX3_winningTake_39 (by decide) rfl ?_
          refine h_iload C dX3_winningTake_41 0 rfl ?_
          refine h_iload_n C dX3_winningTake_43 1 rfl rfl ?_
          refine h_ixor_any C dX3_winningTake_44 (fun r9 hr9 => ?_)
          obtain ⟨hr9a, hr9b⟩ := hr9
          refine h_istore (lv' := [(5, .int (hpI r9)), (4, .int (hpI r8)), (3, .int (hpI x5)), (0, .ref (z + k)), (1, .int (hpI a0)), (2, .int (hpI a1))]) C dX3_winningTake_45 (by decide) rfl ?_
          refine h_iload C dX3_winningTake_47 0 rfl ?_
          refine h_iload_n C dX3_winningTake_49 5 rfl rfl ?_
          refine h_icmp_lt (tgt := 55) C dX3_winningTake_50 (by decide) ⟨by omega, by omega⟩ ⟨by omega, by omega⟩ (fun h10 => ?_) (fun h10 => ?_)
          · refine h_iload C dX3_winningTake_55 0 rfl ?_
            refine h_iload C dX3_winningTake_57 1 rfl ?_
            refine h_icmp_ge (tgt := 70) C dX3_winningTake_59 (by decide) ⟨by omega, by omega⟩ ⟨by omega, by omega⟩ (fun h11 => ?_) (fun h11 => ?_)
            · refine h_iload C dX3_winningTake_70 1 rfl ?_
              refine h_iload C dX3_winningTake_72 0 rfl ?_
              refine h_isub C dX3_winningTake_74 rfl ?_
              refine hp_anyI (fun r12 hr12 => ?_)
              obtain ⟨hr12a, hr12b⟩ := hr12
              refine h_iload_n C dX3_winningTake_75 5 rfl rfl ?_
              refine h_iadd C dX3_winningTake_76 rfl ?_
              refine hp_anyI (fun r13 hr13 => ?_)
              obtain ⟨hr13a, hr13b⟩ := hr13
              refine h_istore (lv' := [(6, .int (hpI r13)), (5, .int (hpI r9)), (4, .int (hpI r8)), (3, .int (hpI x5)), (0, .ref (z + k)), (1, .int (hpI a0)), (2, .int (hpI a1))]) C dX3_winningTake_77 (by decide) rfl ?_
              refine h_iload C dX3_winningTake_79 0 rfl ?_
              refine h_aload_n C dX3_winningTake_81 4 rfl rfl ?_
              refine h_get C O3 0 hk (by decide) wd_152 dX3_winningTake_82 (fs_3_0 hk) ?_
              refine h_iload_n C dX3_winningTake_85 5 rfl rfl ?_
              refine h_iaload C dX3_winningTake_86 (fa_3_0 hk) (a0).toNat (Int.toNat_of_nonneg (by omega)) (by rw [(fl_3_0 hk)]; omega) rfl ?_
              rw [hg7]
              refine h_icmp_gt (tgt := 95) C dX3_winningTake_87 (by decide) ⟨by omega, by omega⟩ ⟨by omega, by omega⟩ (fun h14 => ?_) (fun h14 => ?_)
              · refine h_iconst C dX3_winningTake_95 ?_
                refine h_ireturn C hr hlk dX3_winningTake_96 ?_
                exact ⟨⟨_, rfl, ⟨by decide, by decide⟩⟩, rfl⟩
              · refine h_iload C dX3_winningTake_90 0 rfl ?_
                refine h_goto (tgt := 96) C dX3_winningTake_92 (by decide) ?_
                refine h_ireturn C hr hlk dX3_winningTake_96 ?_
                exact ⟨⟨_, rfl, ⟨by omega, by omega⟩⟩, rfl⟩
            · refine h_iload C dX3_winningTake_62 1 rfl ?_
              refine h_iload C dX3_winningTake_64 0 rfl ?_
              refine h_isub C dX3_winningTake_66 rfl ?_
              refine hp_anyI (fun r15 hr15 => ?_)
              obtain ⟨hr15a, hr15b⟩ := hr15
              refine h_goto (tgt := 77) C dX3_winningTake_67 (by decide) ?_
              refine h_istore (lv' := [(6, .int (hpI r15)), (5, .int (hpI r9)), (4, .int (hpI r8)), (3, .int (hpI x5)), (0, .ref (z + k)), (1, .int (hpI a0)), (2, .int (hpI a1))]) C dX3_winningTake_77 (by decide) rfl ?_
              refine h_iload C dX3_winningTake_79 0 rfl ?_
              refine h_aload_n C dX3_winningTake_81 4 rfl rfl ?_
              refine h_get C O3 0 hk (by decide) wd_152 dX3_winningTake_82 (fs_3_0 hk) ?_
              refine h_iload_n C dX3_winningTake_85 5 rfl rfl ?_
              refine h_iaload C dX3_winningTake_86 (fa_3_0 hk) (a0).toNat (Int.toNat_of_nonneg (by omega)) (by rw [(fl_3_0 hk)]; omega) rfl ?_
              rw [hg7]
              refine h_icmp_gt (tgt := 95) C dX3_winningTake_87 (by decide) ⟨by omega, by omega⟩ ⟨by omega, by omega⟩ (fun h16 => ?_) (fun h16 => ?_)
              · refine h_iconst C dX3_winningTake_95 ?_
                refine h_ireturn C hr hlk dX3_winningTake_96 ?_
                exact ⟨⟨_, rfl, ⟨by decide, by decide⟩⟩, rfl⟩
              · refine h_iload C dX3_winningTake_90 0 rfl ?_
                refine h_goto (tgt := 96) C dX3_winningTake_92 (by decide) ?_
                refine h_ireturn C hr hlk dX3_winningTake_96 ?_
                exact ⟨⟨_, rfl, ⟨by omega, by omega⟩⟩, rfl⟩
          · refine h_iconst C dX3_winningTake_53 ?_
            refine h_ireturn C hr hlk dX3_winningTake_54 ?_
            exact ⟨⟨_, rfl, ⟨by decide, by decide⟩⟩, rfl⟩
        · refine h_iconst C dX3_winningTake_29 ?_
          refine h_ireturn C hr hlk dX3_winningTake_30 ?_
          exact ⟨⟨_, rfl, ⟨by decide, by decide⟩⟩, rfl⟩
      · refine h_iconst C dX3_winningTake_17 ?_
        refine h_ireturn C hr hlk dX3_winningTake_18 ?_
        exact ⟨⟨_, rfl, ⟨by decide, by decide⟩⟩, rfl⟩
abbrev rgX4_asTold : Room := { frames := 0, cells := 0, slots := 0, locals := 0 }
abbrev pgX4_asTold (z : Nat) (σ : hpMem) (k : Nat) : Option Value → hpMem → Prop := fun r τ => r = none ∧ hpInv τ ∧ (∀ j i : Nat, 169 ≤ j → τ j i = σ j i)
set_option maxHeartbeats 4000000 in
set_option maxRecDepth 20000 in
theorem tgX4_asTold (l : Launch) (D : va_G) (cy : Nat → ClassId) (z : Nat) (σ : hpMem) (k : Nat) (hk : hpkd k = 4) (hI : hpInv σ) : hpM l D cy z yX4_asTold cX4_asTold 2 none rgX4_asTold [.ref (z + k), .ref (z + 3)] σ (pgX4_asTold z σ k) := by
  refine hp_met rfl (Nat.le_of_ble_eq_true rfl) (fun p e s m below meth c C Z hr hlk => ?_)
  have hF0 : ∀ j i : Nat, 169 ≤ j → σ j i = σ j i := fun j i _ => rfl
  have hl_k := kb_4 hk
  refine h_aload_n C dX4_asTold_0 0 rfl rfl ?_
  refine h_aload_n C dX4_asTold_1 1 rfl rfl ?_
  refine h_getN C O1 6 kd_3 (by decide) nw_86 dX4_asTold_2 (hp_fvI (by rw [kd_3]; rfl) rfl) ?_
  obtain ⟨hr1a, hr1b⟩ := hI.b (bf_1_6 kd_3)
  generalize hg1 : σ 3 6 = r1 at hr1a hr1b ⊢
  refine h_put C O4 1 hk (by decide) rfl wd_180 dX4_asTold_5 rfl rfl (hp_fvI (by rw [hk]; rfl) hpu_at) ?_
  obtain ⟨τ2, e2⟩ : ∃ μ : hpMem, μ = hpw σ k 1 r1 := ⟨_, rfl⟩
  rw [← e2]
  have hI2 : hpInv τ2 := by rw [e2]; exact hI.w (bf_4_1 hk) (by omega) (by omega)
  have hF2 : ∀ j i : Nat, 169 ≤ j → τ2 j i = σ j i := fun j i h_0 => by rw [e2]; exact (hpw_fr (by omega)).trans (hF0 j i h_0)
  have hg3 : τ2 k 1 = r1 := by rw [e2]; exact hpw_eq
  refine h_aload_n C dX4_asTold_8 0 rfl rfl ?_
  refine h_bipush C dX4_asTold_9 (by decide) ?_
  refine h_put C O4 2 hk (by decide) rfl wd_182 dX4_asTold_11 rfl rfl (hp_fvI (by rw [hk]; rfl) hpu_at) ?_
  obtain ⟨τ4, e4⟩ : ∃ μ : hpMem, μ = hpw τ2 k 2 63 := ⟨_, rfl⟩
  rw [← e4]
  have hI4 : hpInv τ4 := by rw [e4]; exact hI2.w (bf_4_2 hk) (by omega) (by omega)
  have hF4 : ∀ j i : Nat, 169 ≤ j → τ4 j i = σ j i := fun j i h_0 => by rw [e4]; exact (hpw_fr (by omega)).trans (hF2 j i h_0)
  have hg5 : τ4 k 1 = r1 := by rw [e4]; exact (hpw_fr (Or.inr (by decide))).trans hg3
  have hg6 : τ4 k 2 = 63 := by rw [e4]; exact hpw_eq
  refine h_aload_n C dX4_asTold_14 0 rfl rfl ?_
  refine h_iconst C dX4_asTold_15 ?_
  refine h_put C O4 3 hk (by decide) rfl wd_184 dX4_asTold_16 rfl rfl (hp_fvI (by rw [hk]; rfl) hpu_at) ?_
  obtain ⟨τ7, e7⟩ : ∃ μ : hpMem, μ = hpw τ4 k 3 0 := ⟨_, rfl⟩
  rw [← e7]
  have hI7 : hpInv τ7 := by rw [e7]; exact hI4.w (bf_4_3 hk) (by omega) (by omega)
  have hF7 : ∀ j i : Nat, 169 ≤ j → τ7 j i = σ j i := fun j i h_0 => by rw [e7]; exact (hpw_fr (by omega)).trans (hF4 j i h_0)
  have hg8 : τ7 k 1 = r1 := by rw [e7]; exact (hpw_fr (Or.inr (by decide))).trans hg5
  have hg9 : τ7 k 2 = 63 := by rw [e7]; exact (hpw_fr (Or.inr (by decide))).trans hg6
  have hg10 : τ7 k 3 = 0 := by rw [e7]; exact hpw_eq
  refine h_aload_n C dX4_asTold_19 0 rfl rfl ?_
  refine h_iconst C dX4_asTold_20 ?_
  refine h_put C O4 4 hk (by decide) rfl wd_186 dX4_asTold_21 rfl rfl (hp_fvI (by rw [hk]; rfl) hpu_at) ?_
  obtain ⟨τ11, e11⟩ : ∃ μ : hpMem, μ = hpw τ7 k 4 0 := ⟨_, rfl⟩
  rw [← e11]
  have hI11 : hpInv τ11 := by rw [e11]; exact hI7.w (bf_4_4 hk) (by omega) (by omega)
  have hF11 : ∀ j i : Nat, 169 ≤ j → τ11 j i = σ j i := fun j i h_0 => by rw [e11]; exact (hpw_fr (by omega)).trans (hF7 j i h_0)
  have hg12 : τ11 k 1 = r1 := by rw [e11]; exact (hpw_fr (Or.inr (by decide))).trans hg8
  have hg13 : τ11 k 2 = 63 := by rw [e11]; exact (hpw_fr (Or.inr (by decide))).trans hg9
  have hg14 : τ11 k 3 = 0 := by rw [e11]; exact (hpw_fr (Or.inr (by decide))).trans hg10
  have hg15 : τ11 k 4 = 0 := by rw [e11]; exact hpw_eq
  refine h_aload_n C dX4_asTold_24 0 rfl rfl ?_
  refine h_iconst C dX4_asTold_25 ?_
  refine h_put C O4 5 hk (by decide) rfl wd_188 dX4_asTold_26 rfl rfl (hp_fvI (by rw [hk]; rfl) hpu_at) ?_
  obtain ⟨τ16, e16⟩ : ∃ μ : hpMem, μ = hpw τ11 k 5 (-1) := ⟨_, rfl⟩
  rw [← e16]
  have hI16 : hpInv τ16 := by rw [e16]; exact hI11.w (bf_4_5 hk) (by omega) (by omega)
  have hF16 : ∀ j i : Nat, 169 ≤ j → τ16 j i = σ j i := fun j i h_0 => by rw [e16]; exact (hpw_fr (by omega)).trans (hF11 j i h_0)
  have hg17 : τ16 k 1 = r1 := by rw [e16]; exact (hpw_fr (Or.inr (by decide))).trans hg12
  have hg18 : τ16 k 2 = 63 := by rw [e16]; exact (hpw_fr (Or.inr (by decide))).trans hg13
  have hg19 : τ16 k 3 = 0 := by rw [e16]; exact (hpw_fr (Or.inr (by decide))).trans hg14
  have hg20 : τ16 k 4 = 0 := by rw [e16]; exact (hpw_fr (Or.inr (by decide))).trans hg15
  have hg21 : τ16 k 5 = (-1) := by rw [e16]; exact hpw_eq
  refine h_aload_n C dX4_asTold_29 0 rfl rfl ?_
  refine h_iconst C dX4_asTold_30 ?_
  refine h_put C O4 6 hk (by decide) rfl wd_190 dX4_asTold_31 rfl rfl (hp_fvI (by rw [hk]; rfl) hpu_at) ?_
  obtain ⟨τ22, e22⟩ : ∃ μ : hpMem, μ = hpw τ16 k 6 0 := ⟨_, rfl⟩
  rw [← e22]
  have hI22 : hpInv τ22 := by rw [e22]; exact hI16.w (bf_4_6 hk) (by omega) (by omega)
  have hF22 : ∀ j i : Nat, 169 ≤ j → τ22 j i = σ j i := fun j i h_0 => by rw [e22]; exact (hpw_fr (by omega)).trans (hF16 j i h_0)
  have hg23 : τ22 k 1 = r1 := by rw [e22]; exact (hpw_fr (Or.inr (by decide))).trans hg17
  have hg24 : τ22 k 2 = 63 := by rw [e22]; exact (hpw_fr (Or.inr (by decide))).trans hg18
  have hg25 : τ22 k 3 = 0 := by rw [e22]; exact (hpw_fr (Or.inr (by decide))).trans hg19
  have hg26 : τ22 k 4 = 0 := by rw [e22]; exact (hpw_fr (Or.inr (by decide))).trans hg20
  have hg27 : τ22 k 5 = (-1) := by rw [e22]; exact (hpw_fr (Or.inr (by decide))).trans hg21
  have hg28 : τ22 k 6 = 0 := by rw [e22]; exact hpw_eq
  refine h_aload_n C dX4_asTold_34 0 rfl rfl ?_
  refine h_iconst C dX4_asTold_35 ?_
  refine h_put C O4 7 hk (by decide) rfl wd_192 dX4_asTold_36 rfl rfl (hp_fvI (by rw [hk]; rfl) hpu_at) ?_
  obtain ⟨τ29, e29⟩ : ∃ μ : hpMem, μ = hpw τ22 k 7 (-1) := ⟨_, rfl⟩
  rw [← e29]
  have hI29 : hpInv τ29 := by rw [e29]; exact hI22.w (bf_4_7 hk) (by omega) (by omega)
  have hF29 : ∀ j i : Nat, 169 ≤ j → τ29 j i = σ j i := fun j i h_0 => by rw [e29]; exact (hpw_fr (by omega)).trans (hF22 j i h_0)
  have hg30 : τ29 k 1 = r1 := by rw [e29]; exact (hpw_fr (Or.inr (by decide))).trans hg23
  have hg31 : τ29 k 2 = 63 := by rw [e29]; exact (hpw_fr (Or.inr (by decide))).trans hg24
  have hg32 : τ29 k 3 = 0 := by rw [e29]; exact (hpw_fr (Or.inr (by decide))).trans hg25
  have hg33 : τ29 k 4 = 0 := by rw [e29]; exact (hpw_fr (Or.inr (by decide))).trans hg26
  have hg34 : τ29 k 5 = (-1) := by rw [e29]; exact (hpw_fr (Or.inr (by decide))).trans hg27
  have hg35 : τ29 k 6 = 0 := by rw [e29]; exact (hpw_fr (Or.inr (by decide))).trans hg28
  have hg36 : τ29 k 7 = (-1) := by rw [e29]; exact hpw_eq
  refine h_aload_n C dX4_asTold_39 0 rfl rfl ?_
  refine h_iconst C dX4_asTold_40 ?_
  refine h_put C O4 8 hk (by decide) rfl wd_194 dX4_asTold_41 rfl rfl (hp_fvI (by rw [hk]; rfl) hpu_at) ?_
  obtain ⟨τ37, e37⟩ : ∃ μ : hpMem, μ = hpw τ29 k 8 0 := ⟨_, rfl⟩
  rw [← e37]
  have hI37 : hpInv τ37 := by rw [e37]; exact hI29.w (bf_4_8 hk) (by omega) (by omega)
  have hF37 : ∀ j i : Nat, 169 ≤ j → τ37 j i = σ j i := fun j i h_0 => by rw [e37]; exact (hpw_fr (by omega)).trans (hF29 j i h_0)
  have hg38 : τ37 k 1 = r1 := by rw [e37]; exact (hpw_fr (Or.inr (by decide))).trans hg30
  have hg39 : τ37 k 2 = 63 := by rw [e37]; exact (hpw_fr (Or.inr (by decide))).trans hg31
  have hg40 : τ37 k 3 = 0 := by rw [e37]; exact (hpw_fr (Or.inr (by decide))).trans hg32
  have hg41 : τ37 k 4 = 0 := by rw [e37]; exact (hpw_fr (Or.inr (by decide))).trans hg33
  have hg42 : τ37 k 5 = (-1) := by rw [e37]; exact (hpw_fr (Or.inr (by decide))).trans hg34
  have hg43 : τ37 k 6 = 0 := by rw [e37]; exact (hpw_fr (Or.inr (by decide))).trans hg35
  have hg44 : τ37 k 7 = (-1) := by rw [e37]; exact (hpw_fr (Or.inr (by decide))).trans hg36
  have hg45 : τ37 k 8 = 0 := by rw [e37]; exact hpw_eq
  refine h_return C hr hlk dX4_asTold_44 ?_
  exact ⟨rfl, hI37, hF37⟩
abbrev rgX4_at : Room := { frames := 0, cells := 0, slots := 0, locals := 0 }
abbrev pgX4_at (z : Nat) (σ : hpMem) (k : Nat) (a0 : Int) : Option Value → hpMem → Prop := fun r τ => (∃ x : Nat, r = some (.ref (z + x)) ∧ hpkd x = 3) ∧ σ = τ
set_option maxHeartbeats 4000000 in
set_option maxRecDepth 20000 in
theorem tgX4_at (l : Launch) (D : va_G) (cy : Nat → ClassId) (z : Nat) (σ : hpMem) (k : Nat) (hk : hpkd k = 4) (a0 : Int) (ha0 : hpR a0) (hI : hpInv σ) : hpM l D cy z yX4_at cX4_at 2 (some (.object "TurfHeaps$Row")) rgX4_at [.ref (z + k), .int (hpI a0)] σ (pgX4_at z σ k a0) := by
  obtain ⟨ha01, ha02⟩ := ha0
  refine hp_met rfl (Nat.le_of_ble_eq_true rfl) (fun p e s m below meth c C Z hr hlk => ?_)
  have hl_k := kb_4 hk
  refine h_iload_n C dX4_at_0 1 rfl rfl ?_
  refine h_if_lt (tgt := 19) C dX4_at_1 (by decide) ⟨by omega, by omega⟩ (fun h1 => ?_) (fun h1 => ?_)
  · refine h_aload_n C dX4_at_19 0 rfl rfl ?_
    refine h_get C O4 0 hk (by decide) wd_179 dX4_at_20 (fs_4_0 hk) ?_
    refine h_iconst C dX4_at_23 ?_
    obtain ⟨q2, eq2⟩ : ∃ q : Nat, q = k + 2 + 3 * 0 := ⟨_, rfl⟩
    have hq2 : hpkd q2 = 3 := by rw [eq2]; exact rk_15 hk (by omega)
    refine h_aaload (t0 := 5) (k' := q2) C dX4_at_24 (fa_4_0 hk) (by decide) (by decide) rfl 0 rfl (by rw [(fl_4_0 hk)]; decide) (by rw [eq2]; exact (rq_15 hk)) ?_
    have hl2 := kb_3 hq2
    refine h_areturn C (Or.inl ⟨_, rfl⟩) hr hlk dX4_at_25 ?_
    exact ⟨⟨_, rfl, hq2⟩, rfl⟩
  · refine h_iload_n C dX4_at_4 1 rfl rfl ?_
    refine h_bipush C dX4_at_5 (by decide) ?_
    refine h_icmp_gt (tgt := 19) C dX4_at_7 (by decide) ⟨by omega, by omega⟩ ⟨by decide, by decide⟩ (fun h3 => ?_) (fun h3 => ?_)
    · refine h_aload_n C dX4_at_19 0 rfl rfl ?_
      refine h_get C O4 0 hk (by decide) wd_179 dX4_at_20 (fs_4_0 hk) ?_
      refine h_iconst C dX4_at_23 ?_
      obtain ⟨q4, eq4⟩ : ∃ q : Nat, q = k + 2 + 3 * 0 := ⟨_, rfl⟩
      have hq4 : hpkd q4 = 3 := by rw [eq4]; exact rk_15 hk (by omega)
      refine h_aaload (t0 := 5) (k' := q4) C dX4_at_24 (fa_4_0 hk) (by decide) (by decide) rfl 0 rfl (by rw [(fl_4_0 hk)]; decide) (by rw [eq4]; exact (rq_15 hk)) ?_
      have hl4 := kb_3 hq4
      refine h_areturn C (Or.inl ⟨_, rfl⟩) hr hlk dX4_at_25 ?_
      exact ⟨⟨_, rfl, hq4⟩, rfl⟩
    · refine h_aload_n C dX4_at_10 0 rfl rfl ?_
      refine h_get C O4 0 hk (by decide) wd_179 dX4_at_11 (fs_4_0 hk) ?_
      refine h_iload_n C dX4_at_14 1 rfl rfl ?_
      obtain ⟨q5, eq5⟩ : ∃ q : Nat, q = k + 2 + 3 * ((a0).toNat) := ⟨_, rfl⟩
      have hq5 : hpkd q5 = 3 := by rw [eq5]; exact rk_15 hk (by omega)
      refine h_aaload (t0 := 5) (k' := q5) C dX4_at_15 (fa_4_0 hk) (by decide) (by decide) rfl (a0).toNat (Int.toNat_of_nonneg (by omega)) (by rw [(fl_4_0 hk)]; omega) (by rw [eq5]; exact (rq_15 hk)) ?_
      have hl5 := kb_3 hq5
      refine h_goto (tgt := 25) C dX4_at_16 (by decide) ?_
      refine h_areturn C (Or.inl ⟨_, rfl⟩) hr hlk dX4_at_25 ?_
      exact ⟨⟨_, rfl, hq5⟩, rfl⟩
abbrev rgX4_arrive : Room := { frames := 2, cells := 0, slots := 0, locals := 82 }
abbrev pgX4_arrive (z : Nat) (σ : hpMem) (k : Nat) (a1 : Int) : Option Value → hpMem → Prop := fun r τ => r = none ∧ hpInv τ ∧ (∀ j i : Nat, 169 ≤ j → τ j i = σ j i)
set_option maxHeartbeats 4000000 in
set_option maxRecDepth 20000 in
theorem tgX4_arrive (l : Launch) (D : va_G) (cy : Nat → ClassId) (z : Nat) (σ : hpMem) (k : Nat) (hk : hpkd k = 4) (a1 : Int) (ha1 : hpR a1) (hI : hpInv σ) : hpM l D cy z yX4_arrive cX4_arrive 6 none rgX4_arrive [.ref (z + k), .ref (z + 3), .int (hpI a1)] σ (pgX4_arrive z σ k a1) := by
  obtain ⟨ha11, ha12⟩ := ha1
  refine hp_met rfl (Nat.le_of_ble_eq_true rfl) (fun p e s m below meth c C Z hr hlk => ?_)
  have hF0 : ∀ j i : Nat, 169 ≤ j → σ j i = σ j i := fun j i _ => rfl
  have hl_k := kb_4 hk
  refine h_aload_n C dX4_arrive_0 0 rfl rfl ?_
  refine h_iload_n C dX4_arrive_1 2 rfl rfl ?_
  refine h_callV (As := [.int (hpI a1)]) (rest := []) C Z yyX4_at wd_605 (tgX4_at l D cy z _ k hk a1 ⟨by omega, by omega⟩ hI) hk rfl rfl ⟨rfl, rfl, Nat.le_of_ble_eq_true rfl, Nat.le_of_ble_eq_true rfl⟩ ⟨Nat.le_of_ble_eq_true rfl, Nat.le_of_ble_eq_true rfl⟩ (Nat.le_of_ble_eq_true rfl) dX4_arrive_2 (fun r1 τ1 hp1 => ?_)
  obtain ⟨⟨x1, rfl, hx1⟩, rfl⟩ := hp1
  have hl1 := kb_3 hx1
  show hpV _ _ _ _ _ _ _ _ _ _ _ _ _ _ _ _ _ _ _ _ _ (_ :: _)
  refine h_astore_n (lv' := [(3, .ref (z + x1)), (0, .ref (z + k)), (1, .ref (z + 3)), (2, .int (hpI a1))]) C dX4_arrive_5 rfl (by decide) rfl ?_
  refine h_iconst C dX4_arrive_6 ?_
  refine h_istore (lv' := [(4, .int (hpI 0)), (3, .ref (z + x1)), (0, .ref (z + k)), (1, .ref (z + 3)), (2, .int (hpI a1))]) C dX4_arrive_7 (by decide) rfl ?_
  have L2 : ∀ (n2 : Nat) (τ2 : hpMem) (w2_4 : Int), 0 ≤ w2_4 → w2_4 ≤ 2147483647 → hpInv τ2 → (∀ j i : Nat, 169 ≤ j → τ2 j i = σ j i) → (4294967296 - w2_4) < (n2 : Int) → hpF p l e rgX4_arrive s m [.ref (z + k), .ref (z + 3), .int (hpI a1)] below meth c 6 D cy z (pgX4_arrive z σ k a1) τ2 9 [(0, .ref (z + k)), (1, .ref (z + 3)), (2, .int (hpI a1)), (3, .ref (z + x1)), (4, .int (hpI w2_4))] [] := by
    intro n2
    induction n2 with
    | zero => intro τ2 w2_4 hv2_0 hv2_1 hI2 hF2 hm2; exfalso; omega
    | succ n2 ih2 =>
      intro τ2 w2_4 hv2_0 hv2_1 hI2 hF2 hm2
      refine h_iload C dX4_arrive_9 4 rfl ?_
      refine h_aload_n C dX4_arrive_11 1 rfl rfl ?_
      refine h_getN C O1 10 kd_3 (by decide) nw_102 dX4_arrive_12 (hp_fvI (by rw [kd_3]; rfl) rfl) ?_
      obtain ⟨hr3a, hr3b⟩ := hI2.b (bf_1_10 kd_3)
      generalize hg3 : τ2 3 10 = r3 at hr3a hr3b ⊢
      refine h_icmp_ge (tgt := 69) C dX4_arrive_15 (by decide) ⟨by omega, by omega⟩ ⟨by omega, by omega⟩ (fun h4 => ?_) (fun h4 => ?_)
      · refine h_aload_n C dX4_arrive_69 0 rfl rfl ?_
        refine h_get C O4 5 hk (by decide) wd_188 dX4_arrive_70 (hp_fvI (by rw [hk]; rfl) rfl) ?_
        obtain ⟨hr5a, hr5b⟩ := hI2.b (bf_4_5 hk)
        generalize hg5 : τ2 k 5 = r5 at hr5a hr5b ⊢
        refine h_iload_n C dX4_arrive_73 2 rfl rfl ?_
        refine h_icmp_ne (tgt := 85) C dX4_arrive_74 (by decide) ⟨by omega, by omega⟩ ⟨by omega, by omega⟩ (fun h6 => ?_) (fun h6 => ?_)
        · refine h_iconst C dX4_arrive_85 ?_
          refine h_istore (lv' := [(4, .int (hpI 0)), (0, .ref (z + k)), (1, .ref (z + 3)), (2, .int (hpI a1)), (3, .ref (z + x1))]) C dX4_arrive_86 (by decide) rfl ?_
          refine h_iconst C dX4_arrive_88 ?_
          refine h_istore (lv' := [(5, .int (hpI 0)), (4, .int (hpI 0)), (0, .ref (z + k)), (1, .ref (z + 3)), (2, .int (hpI a1)), (3, .ref (z + x1))]) C dX4_arrive_89 (by decide) rfl ?_
          have L7 : ∀ (n7 : Nat) (τ7 : hpMem) (w7_4 : Int) (w7_5 : Int), -2147483648 ≤ w7_4 → w7_4 ≤ 2147483647 → 0 ≤ w7_5 → w7_5 ≤ 2147483647 → hpInv τ7 → (∀ j i : Nat, 169 ≤ j → τ7 j i = σ j i) → (4294967296 - w7_5) < (n7 : Int) → hpF p l e rgX4_arrive s m [.ref (z + k), .ref (z + 3), .int (hpI a1)] below meth c 6 D cy z (pgX4_arrive z σ k a1) τ7 91 [(0, .ref (z + k)), (1, .ref (z + 3)), (2, .int (hpI a1)), (3, .ref (z + x1)), (4, .int (hpI w7_4)), (5, .int (hpI w7_5))] [] := by
            intro n7
            induction n7 with
            | zero => intro τ7 w7_4 w7_5 hv7_0 hv7_1 hv7_2 hv7_3 hI7 hF7 hm7; exfalso; omega
            | succ n7 ih7 =>
              intro τ7 w7_4 w7_5 hv7_0 hv7_1 hv7_2 hv7_3 hI7 hF7 hm7
              refine h_iload C dX4_arrive_91 5 rfl ?_
              refine h_aload_n C dX4_arrive_93 1 rfl rfl ?_
              refine h_getN C O1 11 kd_3 (by decide) nw_105 dX4_arrive_94 (hp_fvI (by rw [kd_3]; rfl) rfl) ?_
              obtain ⟨hr8a, hr8b⟩ := hI7.b (bf_1_11 kd_3)
              generalize hg8 : τ7 3 11 = r8 at hr8a hr8b ⊢
              refine h_icmp_ge (tgt := 148) C dX4_arrive_97 (by decide) ⟨by omega, by omega⟩ ⟨by omega, by omega⟩ (fun h9 => ?_) (fun h9 => ?_)
              · refine h_iconst C dX4_arrive_148 ?_
                refine h_istore (lv' := [(5, .int (hpI 0)), (0, .ref (z + k)), (1, .ref (z + 3)), (2, .int (hpI a1)), (3, .ref (z + x1)), (4, .int (hpI w7_4))]) C dX4_arrive_149 (by decide) rfl ?_
                have L10 : ∀ (n10 : Nat) (τ10 : hpMem) (w10_5 : Int), 0 ≤ w10_5 → w10_5 ≤ 2147483647 → hpInv τ10 → (∀ j i : Nat, 169 ≤ j → τ10 j i = σ j i) → (4294967296 - w10_5) < (n10 : Int) → hpF p l e rgX4_arrive s m [.ref (z + k), .ref (z + 3), .int (hpI a1)] below meth c 6 D cy z (pgX4_arrive z σ k a1) τ10 151 [(0, .ref (z + k)), (1, .ref (z + 3)), (2, .int (hpI a1)), (3, .ref (z + x1)), (4, .int (hpI w7_4)), (5, .int (hpI w10_5))] [] := by
                  intro n10
                  induction n10 with
                  | zero => intro τ10 w10_5 hv10_0 hv10_1 hI10 hF10 hm10; exfalso; omega
                  | succ n10 ih10 =>
                    intro τ10 w10_5 hv10_0 hv10_1 hI10 hF10 hm10
                    refine h_iload C dX4_arrive_151 5 rfl ?_
                    refine h_iload C dX4_arrive_153 4 rfl ?_
                    refine h_icmp_ge (tgt := 169) C dX4_arrive_155 (by decide) ⟨by omega, by omega⟩ ⟨by omega, by omega⟩ (fun h11 => ?_) (fun h11 => ?_)
                    · refine h_return C hr hlk dX4_arrive_169 ?_
                      exact ⟨rfl, hI10, hF10⟩
                    · refine h_aload_n C dX4_arrive_158 3 rfl rfl ?_
                      refine h_callVN (As := []) (rest := []) C Z yyX3_dropHighest nw_609 (tgX3_dropHighest l D cy z _ x1 hx1 hI10) hx1 rfl rfl ⟨rfl, rfl, Nat.le_of_ble_eq_true rfl, Nat.le_of_ble_eq_true rfl⟩ ⟨Nat.le_of_ble_eq_true rfl, Nat.le_of_ble_eq_true rfl⟩ (Nat.le_of_ble_eq_true rfl) dX4_arrive_159 (fun r12 τ12 hp12 => ?_)
                      obtain ⟨⟨x12, rfl, ⟨hx12a, hx12b⟩⟩, hI12, hG12⟩ := hp12
                      have hF12 : ∀ j i : Nat, 169 ≤ j → τ12 j i = σ j i := fun j i h_0 => (hG12 j i (by omega)).trans (hF10 j i h_0)
                      show hpV _ _ _ _ _ _ _ _ _ _ _ _ _ _ _ _ _ _ _ _ _ (_ :: _)
                      refine h_pop C rfl dX4_arrive_162 ?_
                      refine h_iinc (lv' := [(5, .int (hpI (w10_5 + 1))), (0, .ref (z + k)), (1, .ref (z + 3)), (2, .int (hpI a1)), (3, .ref (z + x1)), (4, .int (hpI w7_4))]) C dX4_arrive_163 5 rfl rfl (by decide) rfl ?_
                      refine h_goto (tgt := 151) C dX4_arrive_166 (by decide) ?_
                      exact hp_sub [1, 2, 3, 4, 5, 0] rfl (ih10 _ (w10_5 + 1) (by omega) (by omega) hI12 hF12 (by omega))
                exact hp_sub [1, 2, 3, 4, 5, 0] rfl (L10 8589934592 _ 0 (by omega) (by omega) hI7 hF7 (by omega))
              · refine h_aload_n C dX4_arrive_100 1 rfl rfl ?_
                refine h_getN C O1 4 kd_3 (by decide) nw_80 dX4_arrive_101 fr_3_4 ?_
                refine h_iload C dX4_arrive_104 5 rfl ?_
                refine h_iaload C dX4_arrive_106 kd_8 (w7_5).toNat (Int.toNat_of_nonneg (by omega)) (by rw [ln_8]; omega) rfl ?_
                obtain ⟨hr13a, hr13b⟩ := hI7.b (bo_8 _)
                generalize hg13 : τ7 8 ((w7_5).toNat) = r13 at hr13a hr13b ⊢
                refine h_iload_n C dX4_arrive_107 2 rfl rfl ?_
                refine h_icmp_ne (tgt := 142) C dX4_arrive_108 (by decide) ⟨by omega, by omega⟩ ⟨by omega, by omega⟩ (fun h14 => ?_) (fun h14 => ?_)
                · refine h_iinc (lv' := [(5, .int (hpI (w7_5 + 1))), (0, .ref (z + k)), (1, .ref (z + 3)), (2, .int (hpI a1)), (3, .ref (z + x1)), (4, .int (hpI w7_4))]) C dX4_arrive_142 5 rfl rfl (by decide) rfl ?_
                  refine h_goto (tgt := 91) C dX4_arrive_145 (by decide) ?_
                  exact hp_sub [1, 2, 3, 4, 5, 0] rfl (ih7 _ w7_4 (w7_5 + 1) (by omega) (by omega) (by omega) (by omega) hI7 hF7 (by omega))
                · refine h_aload_n C dX4_arrive_111 3 rfl rfl ?_
                  refine h_aload_n C dX4_arrive_112 1 rfl rfl ?_
                  refine h_getN C O1 3 kd_3 (by decide) nw_77 dX4_arrive_113 fr_3_3 ?_
                  refine h_iload C dX4_arrive_116 5 rfl ?_
                  refine h_iaload C dX4_arrive_118 kd_7 (w7_5).toNat (Int.toNat_of_nonneg (by omega)) (by rw [ln_7]; omega) rfl ?_
                  obtain ⟨hr15a, hr15b⟩ := hI7.b (bo_7 _)
                  generalize hg15 : τ7 7 ((w7_5).toNat) = r15 at hr15a hr15b ⊢
                  refine h_callVN (As := [.int (hpI r15)]) (rest := []) C Z yyX3_lay nw_596 (tgX3_lay l D cy z _ x1 hx1 r15 ⟨by omega, by omega⟩ hI7) hx1 rfl rfl ⟨rfl, rfl, Nat.le_of_ble_eq_true rfl, Nat.le_of_ble_eq_true rfl⟩ ⟨Nat.le_of_ble_eq_true rfl, Nat.le_of_ble_eq_true rfl⟩ (Nat.le_of_ble_eq_true rfl) dX4_arrive_119 (fun r16 τ16 hp16 => ?_)
                  obtain ⟨rfl, hI16, hG16⟩ := hp16
                  have hF16 : ∀ j i : Nat, 169 ≤ j → τ16 j i = σ j i := fun j i h_0 => (hG16 j i (by omega)).trans (hF7 j i h_0)
                  show hpV _ _ _ _ _ _ _ _ _ _ _ _ _ _ _ _ _ _ _ _ _ []
                  refine h_iload C dX4_arrive_122 4 rfl ?_
                  refine h_aload_n C dX4_arrive_124 1 rfl rfl ?_
                  refine h_getN C O1 3 kd_3 (by decide) nw_77 dX4_arrive_125 fr_3_3 ?_
                  refine h_iload C dX4_arrive_128 5 rfl ?_
                  refine h_iaload C dX4_arrive_130 kd_7 (w7_5).toNat (Int.toNat_of_nonneg (by omega)) (by rw [ln_7]; omega) rfl ?_
                  obtain ⟨hr17a, hr17b⟩ := hI16.b (bo_7 _)
                  generalize hg17 : τ16 7 ((w7_5).toNat) = r17 at hr17a hr17b ⊢
                  refine h_if_ne (tgt := 138) C dX4_arrive_131 (by decide) ⟨by omega, by omega⟩ (fun h18 => ?_) (fun h18 => ?_)
                  · refine h_iconst C dX4_arrive_138 ?_
                    refine h_iadd C dX4_arrive_139 rfl ?_
                    refine h_istore (lv' := [(4, .int (hpI (w7_4 + 0))), (0, .ref (z + k)), (1, .ref (z + 3)), (2, .int (hpI a1)), (3, .ref (z + x1)), (5, .int (hpI w7_5))]) C dX4_arrive_140 (by decide) rfl ?_
                    refine h_iinc (lv' := [(5, .int (hpI (w7_5 + 1))), (4, .int (hpI (w7_4 + 0))), (0, .ref (z + k)), (1, .ref (z + 3)), (2, .int (hpI a1)), (3, .ref (z + x1))]) C dX4_arrive_142 5 rfl rfl (by decide) rfl ?_
                    refine h_goto (tgt := 91) C dX4_arrive_145 (by decide) ?_
                    exact hp_sub [2, 3, 4, 5, 1, 0] rfl (ih7 _ (w7_4 + 0) (w7_5 + 1) (by omega) (by omega) (by omega) (by omega) hI16 hF16 (by omega))
                  · refine h_iconst C dX4_arrive_134 ?_
                    refine h_goto (tgt := 139) C dX4_arrive_135 (by decide) ?_
                    refine h_iadd C dX4_arrive_139 rfl ?_
                    refine hp_anyI (fun r19 hr19 => ?_)
                    obtain ⟨hr19a, hr19b⟩ := hr19
                    refine h_istore (lv' := [(4, .int (hpI r19)), (0, .ref (z + k)), (1, .ref (z + 3)), (2, .int (hpI a1)), (3, .ref (z + x1)), (5, .int (hpI w7_5))]) C dX4_arrive_140 (by decide) rfl ?_
                    refine h_iinc (lv' := [(5, .int (hpI (w7_5 + 1))), (4, .int (hpI r19)), (0, .ref (z + k)), (1, .ref (z + 3)), (2, .int (hpI a1)), (3, .ref (z + x1))]) C dX4_arrive_142 5 rfl rfl (by decide) rfl ?_
                    refine h_goto (tgt := 91) C dX4_arrive_145 (by decide) ?_
                    exact hp_sub [2, 3, 4, 5, 1, 0] rfl (ih7 _ r19 (w7_5 + 1) (by omega) (by omega) (by omega) (by omega) hI16 hF16 (by omega))
          exact hp_sub [2, 3, 4, 5, 1, 0] rfl (L7 8589934592 _ 0 0 (by omega) (by omega) (by omega) (by omega) hI2 hF2 (by omega))
        · refine h_aload_n C dX4_arrive_77 3 rfl rfl ?_
          refine h_aload_n C dX4_arrive_78 0 rfl rfl ?_
          refine h_get C O4 6 hk (by decide) wd_190 dX4_arrive_79 (hp_fvI (by rw [hk]; rfl) rfl) ?_
          obtain ⟨hr20a, hr20b⟩ := hI2.b (bf_4_6 hk)
          generalize hg20 : τ2 k 6 = r20 at hr20a hr20b ⊢
          refine h_callVN (As := [.int (hpI r20)]) (rest := []) C Z yyX3_lay nw_596 (tgX3_lay l D cy z _ x1 hx1 r20 ⟨by omega, by omega⟩ hI2) hx1 rfl rfl ⟨rfl, rfl, Nat.le_of_ble_eq_true rfl, Nat.le_of_ble_eq_true rfl⟩ ⟨Nat.le_of_ble_eq_true rfl, Nat.le_of_ble_eq_true rfl⟩ (Nat.le_of_ble_eq_true rfl) dX4_arrive_82 (fun r21 τ21 hp21 => ?_)
          obtain ⟨rfl, hI21, hG21⟩ := hp21
          have hF21 : ∀ j i : Nat, 169 ≤ j → τ21 j i = σ j i := fun j i h_0 => (hG21 j i (by omega)).trans (hF2 j i h_0)
          show hpV _ _ _ _ _ _ _ _ _ _ _ _ _ _ _ _ _ _ _ _ _ []
          refine h_iconst C dX4_arrive_85 ?_
          refine h_istore (lv' := [(4, .int (hpI 0)), (0, .ref (z + k)), (1, .ref (z + 3)), (2, .int (hpI a1)), (3, .ref (z + x1))]) C dX4_arrive_86 (by decide) rfl ?_
          refine h_iconst C dX4_arrive_88 ?_
          refine h_istore (lv' := [(5, .int (hpI 0)), (4, .int (hpI 0)), (0, .ref (z + k)), (1, .ref (z + 3)), (2, .int (hpI a1)), (3, .ref (z + x1))]) C dX4_arrive_89 (by decide) rfl ?_
          have L22 : ∀ (n22 : Nat) (τ22 : hpMem) (w22_4 : Int) (w22_5 : Int), -2147483648 ≤ w22_4 → w22_4 ≤ 2147483647 → 0 ≤ w22_5 → w22_5 ≤ 2147483647 → hpInv τ22 → (∀ j i : Nat, 169 ≤ j → τ22 j i = σ j i) → (4294967296 - w22_5) < (n22 : Int) → hpF p l e rgX4_arrive s m [.ref (z + k), .ref (z + 3), .int (hpI a1)] below meth c 6 D cy z (pgX4_arrive z σ k a1) τ22 91 [(0, .ref (z + k)), (1, .ref (z + 3)), (2, .int (hpI a1)), (3, .ref (z + x1)), (4, .int (hpI w22_4)), (5, .int (hpI w22_5))] [] := by
            intro n22
            induction n22 with
            | zero => intro τ22 w22_4 w22_5 hv22_0 hv22_1 hv22_2 hv22_3 hI22 hF22 hm22; exfalso; omega
            | succ n22 ih22 =>
              intro τ22 w22_4 w22_5 hv22_0 hv22_1 hv22_2 hv22_3 hI22 hF22 hm22
              refine h_iload C dX4_arrive_91 5 rfl ?_
              refine h_aload_n C dX4_arrive_93 1 rfl rfl ?_
              refine h_getN C O1 11 kd_3 (by decide) nw_105 dX4_arrive_94 (hp_fvI (by rw [kd_3]; rfl) rfl) ?_
              obtain ⟨hr23a, hr23b⟩ := hI22.b (bf_1_11 kd_3)
              generalize hg23 : τ22 3 11 = r23 at hr23a hr23b ⊢
              refine h_icmp_ge (tgt := 148) C dX4_arrive_97 (by decide) ⟨by omega, by omega⟩ ⟨by omega, by omega⟩ (fun h24 => ?_) (fun h24 => ?_)
              · refine h_iconst C dX4_arrive_148 ?_
                refine h_istore (lv' := [(5, .int (hpI 0)), (0, .ref (z + k)), (1, .ref (z + 3)), (2, .int (hpI a1)), (3, .ref (z + x1)), (4, .int (hpI w22_4))]) C dX4_arrive_149 (by decide) rfl ?_
                have L25 : ∀ (n25 : Nat) (τ25 : hpMem) (w25_5 : Int), 0 ≤ w25_5 → w25_5 ≤ 2147483647 → hpInv τ25 → (∀ j i : Nat, 169 ≤ j → τ25 j i = σ j i) → (4294967296 - w25_5) < (n25 : Int) → hpF p l e rgX4_arrive s m [.ref (z + k), .ref (z + 3), .int (hpI a1)] below meth c 6 D cy z (pgX4_arrive z σ k a1) τ25 151 [(0, .ref (z + k)), (1, .ref (z + 3)), (2, .int (hpI a1)), (3, .ref (z + x1)), (4, .int (hpI w22_4)), (5, .int (hpI w25_5))] [] := by
                  intro n25
                  induction n25 with
                  | zero => intro τ25 w25_5 hv25_0 hv25_1 hI25 hF25 hm25; exfalso; omega
                  | succ n25 ih25 =>
                    intro τ25 w25_5 hv25_0 hv25_1 hI25 hF25 hm25
                    refine h_iload C dX4_arrive_151 5 rfl ?_
                    refine h_iload C dX4_arrive_153 4 rfl ?_
                    refine h_icmp_ge (tgt := 169) C dX4_arrive_155 (by decide) ⟨by omega, by omega⟩ ⟨by omega, by omega⟩ (fun h26 => ?_) (fun h26 => ?_)
                    · refine h_return C hr hlk dX4_arrive_169 ?_
                      exact ⟨rfl, hI25, hF25⟩
                    · refine h_aload_n C dX4_arrive_158 3 rfl rfl ?_
                      refine h_callVN (As := []) (rest := []) C Z yyX3_dropHighest nw_609 (tgX3_dropHighest l D cy z _ x1 hx1 hI25) hx1 rfl rfl ⟨rfl, rfl, Nat.le_of_ble_eq_true rfl, Nat.le_of_ble_eq_true rfl⟩ ⟨Nat.le_of_ble_eq_true rfl, Nat.le_of_ble_eq_true rfl⟩ (Nat.le_of_ble_eq_true rfl) dX4_arrive_159 (fun r27 τ27 hp27 => ?_)
                      obtain ⟨⟨x27, rfl, ⟨hx27a, hx27b⟩⟩, hI27, hG27⟩ := hp27
                      have hF27 : ∀ j i : Nat, 169 ≤ j → τ27 j i = σ j i := fun j i h_0 => (hG27 j i (by omega)).trans (hF25 j i h_0)
                      show hpV _ _ _ _ _ _ _ _ _ _ _ _ _ _ _ _ _ _ _ _ _ (_ :: _)
                      refine h_pop C rfl dX4_arrive_162 ?_
                      refine h_iinc (lv' := [(5, .int (hpI (w25_5 + 1))), (0, .ref (z + k)), (1, .ref (z + 3)), (2, .int (hpI a1)), (3, .ref (z + x1)), (4, .int (hpI w22_4))]) C dX4_arrive_163 5 rfl rfl (by decide) rfl ?_
                      refine h_goto (tgt := 151) C dX4_arrive_166 (by decide) ?_
                      exact hp_sub [1, 2, 3, 4, 5, 0] rfl (ih25 _ (w25_5 + 1) (by omega) (by omega) hI27 hF27 (by omega))
                exact hp_sub [1, 2, 3, 4, 5, 0] rfl (L25 8589934592 _ 0 (by omega) (by omega) hI22 hF22 (by omega))
              · refine h_aload_n C dX4_arrive_100 1 rfl rfl ?_
                refine h_getN C O1 4 kd_3 (by decide) nw_80 dX4_arrive_101 fr_3_4 ?_
                refine h_iload C dX4_arrive_104 5 rfl ?_
                refine h_iaload C dX4_arrive_106 kd_8 (w22_5).toNat (Int.toNat_of_nonneg (by omega)) (by rw [ln_8]; omega) rfl ?_
                obtain ⟨hr28a, hr28b⟩ := hI22.b (bo_8 _)
                generalize hg28 : τ22 8 ((w22_5).toNat) = r28 at hr28a hr28b ⊢
                refine h_iload_n C dX4_arrive_107 2 rfl rfl ?_
                refine h_icmp_ne (tgt := 142) C dX4_arrive_108 (by decide) ⟨by omega, by omega⟩ ⟨by omega, by omega⟩ (fun h29 => ?_) (fun h29 => ?_)
                · refine h_iinc (lv' := [(5, .int (hpI (w22_5 + 1))), (0, .ref (z + k)), (1, .ref (z + 3)), (2, .int (hpI a1)), (3, .ref (z + x1)), (4, .int (hpI w22_4))]) C dX4_arrive_142 5 rfl rfl (by decide) rfl ?_
                  refine h_goto (tgt := 91) C dX4_arrive_145 (by decide) ?_
                  exact hp_sub [1, 2, 3, 4, 5, 0] rfl (ih22 _ w22_4 (w22_5 + 1) (by omega) (by omega) (by omega) (by omega) hI22 hF22 (by omega))
                · refine h_aload_n C dX4_arrive_111 3 rfl rfl ?_
                  refine h_aload_n C dX4_arrive_112 1 rfl rfl ?_
                  refine h_getN C O1 3 kd_3 (by decide) nw_77 dX4_arrive_113 fr_3_3 ?_
                  refine h_iload C dX4_arrive_116 5 rfl ?_
                  refine h_iaload C dX4_arrive_118 kd_7 (w22_5).toNat (Int.toNat_of_nonneg (by omega)) (by rw [ln_7]; omega) rfl ?_
                  obtain ⟨hr30a, hr30b⟩ := hI22.b (bo_7 _)
                  generalize hg30 : τ22 7 ((w22_5).toNat) = r30 at hr30a hr30b ⊢
                  refine h_callVN (As := [.int (hpI r30)]) (rest := []) C Z yyX3_lay nw_596 (tgX3_lay l D cy z _ x1 hx1 r30 ⟨by omega, by omega⟩ hI22) hx1 rfl rfl ⟨rfl, rfl, Nat.le_of_ble_eq_true rfl, Nat.le_of_ble_eq_true rfl⟩ ⟨Nat.le_of_ble_eq_true rfl, Nat.le_of_ble_eq_true rfl⟩ (Nat.le_of_ble_eq_true rfl) dX4_arrive_119 (fun r31 τ31 hp31 => ?_)
                  obtain ⟨rfl, hI31, hG31⟩ := hp31
                  have hF31 : ∀ j i : Nat, 169 ≤ j → τ31 j i = σ j i := fun j i h_0 => (hG31 j i (by omega)).trans (hF22 j i h_0)
                  show hpV _ _ _ _ _ _ _ _ _ _ _ _ _ _ _ _ _ _ _ _ _ []
                  refine h_iload C dX4_arrive_122 4 rfl ?_
                  refine h_aload_n C dX4_arrive_124 1 rfl rfl ?_
                  refine h_getN C O1 3 kd_3 (by decide) nw_77 dX4_arrive_125 fr_3_3 ?_
                  refine h_iload C dX4_arrive_128 5 rfl ?_
                  refine h_iaload C dX4_arrive_130 kd_7 (w22_5).toNat (Int.toNat_of_nonneg (by omega)) (by rw [ln_7]; omega) rfl ?_
                  obtain ⟨hr32a, hr32b⟩ := hI31.b (bo_7 _)
                  generalize hg32 : τ31 7 ((w22_5).toNat) = r32 at hr32a hr32b ⊢
                  refine h_if_ne (tgt := 138) C dX4_arrive_131 (by decide) ⟨by omega, by omega⟩ (fun h33 => ?_) (fun h33 => ?_)
                  · refine h_iconst C dX4_arrive_138 ?_
                    refine h_iadd C dX4_arrive_139 rfl ?_
                    refine h_istore (lv' := [(4, .int (hpI (w22_4 + 0))), (0, .ref (z + k)), (1, .ref (z + 3)), (2, .int (hpI a1)), (3, .ref (z + x1)), (5, .int (hpI w22_5))]) C dX4_arrive_140 (by decide) rfl ?_
                    refine h_iinc (lv' := [(5, .int (hpI (w22_5 + 1))), (4, .int (hpI (w22_4 + 0))), (0, .ref (z + k)), (1, .ref (z + 3)), (2, .int (hpI a1)), (3, .ref (z + x1))]) C dX4_arrive_142 5 rfl rfl (by decide) rfl ?_
                    refine h_goto (tgt := 91) C dX4_arrive_145 (by decide) ?_
                    exact hp_sub [2, 3, 4, 5, 1, 0] rfl (ih22 _ (w22_4 + 0) (w22_5 + 1) (by omega) (by omega) (by omega) (by omega) hI31 hF31 (by omega))
                  · refine h_iconst C dX4_arrive_134 ?_
                    refine h_goto (tgt := 139) C dX4_arrive_135 (by decide) ?_
                    refine h_iadd C dX4_arrive_139 rfl ?_
                    refine hp_anyI (fun r34 hr34 => ?_)
                    obtain ⟨hr34a, hr34b⟩ := hr34
                    refine h_istore (lv' := [(4, .int (hpI r34)), (0, .ref (z + k)), (1, .ref (z + 3)), (2, .int (hpI a1)), (3, .ref (z + x1)), (5, .int (hpI w22_5))]) C dX4_arrive_140 (by decide) rfl ?_
                    refine h_iinc (lv' := [(5, .int (hpI (w22_5 + 1))), (4, .int (hpI r34)), (0, .ref (z + k)), (1, .ref (z + 3)), (2, .int (hpI a1)), (3, .ref (z + x1))]) C dX4_arrive_142 5 rfl rfl (by decide) rfl ?_
                    refine h_goto (tgt := 91) C dX4_arrive_145 (by decide) ?_
                    exact hp_sub [2, 3, 4, 5, 1, 0] rfl (ih22 _ r34 (w22_5 + 1) (by omega) (by omega) (by omega) (by omega) hI31 hF31 (by omega))
          exact hp_sub [2, 3, 4, 5, 1, 0] rfl (L22 8589934592 _ 0 0 (by omega) (by omega) (by omega) (by omega) hI21 hF21 (by omega))
      · refine h_aload_n C dX4_arrive_18 0 rfl rfl ?_
        refine h_get C O4 2 hk (by decide) wd_182 dX4_arrive_19 (hp_fvI (by rw [hk]; rfl) rfl) ?_
        obtain ⟨hr35a, hr35b⟩ := hI2.b (bf_4_2 hk)
        generalize hg35 : τ2 k 2 = r35 at hr35a hr35b ⊢
        refine h_iload C dX4_arrive_22 4 rfl ?_
        refine h_ishr_any C dX4_arrive_24 (fun r36 hr36 => ?_)
        obtain ⟨hr36a, hr36b⟩ := hr36
        refine h_iconst C dX4_arrive_25 ?_
        refine h_iand_r C dX4_arrive_26 ⟨by decide, by decide⟩ (by omega) (fun r37 hr37a hr37b => ?_)
        refine h_iconst C dX4_arrive_27 ?_
        refine h_icmp_ne (tgt := 63) C dX4_arrive_28 (by decide) ⟨by omega, by omega⟩ ⟨by decide, by decide⟩ (fun h38 => ?_) (fun h38 => ?_)
        · refine h_iinc (lv' := [(4, .int (hpI (w2_4 + 1))), (0, .ref (z + k)), (1, .ref (z + 3)), (2, .int (hpI a1)), (3, .ref (z + x1))]) C dX4_arrive_63 4 rfl rfl (by decide) rfl ?_
          refine h_goto (tgt := 9) C dX4_arrive_66 (by decide) ?_
          exact hp_sub [1, 2, 3, 4, 0] rfl (ih2 _ (w2_4 + 1) (by omega) (by omega) hI2 hF2 (by omega))
        · refine h_aload_n C dX4_arrive_31 1 rfl rfl ?_
          refine h_getN C O1 2 kd_3 (by decide) nw_73 dX4_arrive_32 fr_3_2 ?_
          refine h_iload C dX4_arrive_35 4 rfl ?_
          refine h_iaload C dX4_arrive_37 kd_6 (w2_4).toNat (Int.toNat_of_nonneg (by omega)) (by rw [ln_6]; omega) rfl ?_
          obtain ⟨hr39a, hr39b⟩ := hI2.b (bo_6 _)
          generalize hg39 : τ2 6 ((w2_4).toNat) = r39 at hr39a hr39b ⊢
          refine h_aload_n C dX4_arrive_38 0 rfl rfl ?_
          refine h_get C O4 3 hk (by decide) wd_184 dX4_arrive_39 (hp_fvI (by rw [hk]; rfl) rfl) ?_
          obtain ⟨hr40a, hr40b⟩ := hI2.b (bf_4_3 hk)
          generalize hg40 : τ2 k 3 = r40 at hr40a hr40b ⊢
          refine h_iload C dX4_arrive_42 4 rfl ?_
          refine h_ishr_any C dX4_arrive_44 (fun r41 hr41 => ?_)
          obtain ⟨hr41a, hr41b⟩ := hr41
          refine h_iconst C dX4_arrive_45 ?_
          refine h_iand_r C dX4_arrive_46 ⟨by decide, by decide⟩ (by omega) (fun r42 hr42a hr42b => ?_)
          refine h_iadd C dX4_arrive_47 rfl ?_
          refine hp_anyI (fun r43 hr43 => ?_)
          obtain ⟨hr43a, hr43b⟩ := hr43
          refine h_iload_n C dX4_arrive_48 2 rfl rfl ?_
          refine h_icmp_ne (tgt := 63) C dX4_arrive_49 (by decide) ⟨by omega, by omega⟩ ⟨by omega, by omega⟩ (fun h44 => ?_) (fun h44 => ?_)
          · refine h_iinc (lv' := [(4, .int (hpI (w2_4 + 1))), (0, .ref (z + k)), (1, .ref (z + 3)), (2, .int (hpI a1)), (3, .ref (z + x1))]) C dX4_arrive_63 4 rfl rfl (by decide) rfl ?_
            refine h_goto (tgt := 9) C dX4_arrive_66 (by decide) ?_
            exact hp_sub [1, 2, 3, 4, 0] rfl (ih2 _ (w2_4 + 1) (by omega) (by omega) hI2 hF2 (by omega))
          · refine h_aload_n C dX4_arrive_52 3 rfl rfl ?_
            refine h_aload_n C dX4_arrive_53 1 rfl rfl ?_
            refine h_getN C O1 1 kd_3 (by decide) nw_71 dX4_arrive_54 fr_3_1 ?_
            refine h_iload C dX4_arrive_57 4 rfl ?_
            refine h_iaload C dX4_arrive_59 kd_5 (w2_4).toNat (Int.toNat_of_nonneg (by omega)) (by rw [ln_5]; omega) rfl ?_
            obtain ⟨hr45a, hr45b⟩ := hI2.b (bo_5 _)
            generalize hg45 : τ2 5 ((w2_4).toNat) = r45 at hr45a hr45b ⊢
            refine h_callVN (As := [.int (hpI r45)]) (rest := []) C Z yyX3_lay nw_596 (tgX3_lay l D cy z _ x1 hx1 r45 ⟨by omega, by omega⟩ hI2) hx1 rfl rfl ⟨rfl, rfl, Nat.le_of_ble_eq_true rfl, Nat.le_of_ble_eq_true rfl⟩ ⟨Nat.le_of_ble_eq_true rfl, Nat.le_of_ble_eq_true rfl⟩ (Nat.le_of_ble_eq_true rfl) dX4_arrive_60 (fun r46 τ46 hp46 => ?_)
            obtain ⟨rfl, hI46, hG46⟩ := hp46
            have hF46 : ∀ j i : Nat, 169 ≤ j → τ46 j i = σ j i := fun j i h_0 => (hG46 j i (by omega)).trans (hF2 j i h_0)
            show hpV _ _ _ _ _ _ _ _ _ _ _ _ _ _ _ _ _ _ _ _ _ []
            refine h_iinc (lv' := [(4, .int (hpI (w2_4 + 1))), (0, .ref (z + k)), (1, .ref (z + 3)), (2, .int (hpI a1)), (3, .ref (z + x1))]) C dX4_arrive_63 4 rfl rfl (by decide) rfl ?_
            refine h_goto (tgt := 9) C dX4_arrive_66 (by decide) ?_
            exact hp_sub [1, 2, 3, 4, 0] rfl (ih2 _ (w2_4 + 1) (by omega) (by omega) hI46 hF46 (by omega))
  exact hp_sub [2, 3, 4, 1, 0] rfl (L2 8589934592 _ 0 (by omega) (by omega) hI hF0 (by omega))
abbrev rgX4_begin : Room := { frames := 3, cells := 0, slots := 0, locals := 107 }
abbrev pgX4_begin (z : Nat) (σ : hpMem) (k : Nat) : Option Value → hpMem → Prop := fun r τ => r = none ∧ hpInv τ ∧ (∀ j i : Nat, 169 ≤ j → τ j i = σ j i)
set_option maxHeartbeats 4000000 in
set_option maxRecDepth 20000 in
theorem tgX4_begin (l : Launch) (D : va_G) (cy : Nat → ClassId) (z : Nat) (σ : hpMem) (k : Nat) (hk : hpkd k = 4) (hI : hpInv σ) : hpM l D cy z yX4_begin cX4_begin 4 none rgX4_begin [.ref (z + k), .ref (z + 3)] σ (pgX4_begin z σ k) := by
  refine hp_met rfl (Nat.le_of_ble_eq_true rfl) (fun p e s m below meth c C Z hr hlk => ?_)
  have hF0 : ∀ j i : Nat, 169 ≤ j → σ j i = σ j i := fun j i _ => rfl
  have hl_k := kb_4 hk
  refine h_aload_n C dX4_begin_0 0 rfl rfl ?_
  refine h_get C O4 0 hk (by decide) wd_179 dX4_begin_1 (fs_4_0 hk) ?_
  refine h_iconst C dX4_begin_4 ?_
  obtain ⟨q1, eq1⟩ : ∃ q : Nat, q = k + 2 + 3 * 0 := ⟨_, rfl⟩
  have hq1 : hpkd q1 = 3 := by rw [eq1]; exact rk_15 hk (by omega)
  refine h_aaload (t0 := 5) (k' := q1) C dX4_begin_5 (fa_4_0 hk) (by decide) (by decide) rfl 0 rfl (by rw [(fl_4_0 hk)]; decide) (by rw [eq1]; exact (rq_15 hk)) ?_
  have hl1 := kb_3 hq1
  refine h_astore_n (lv' := [(2, .ref (z + q1)), (0, .ref (z + k)), (1, .ref (z + 3))]) C dX4_begin_6 rfl (by decide) rfl ?_
  refine h_aload_n C dX4_begin_7 0 rfl rfl ?_
  refine h_callVN (As := []) (rest := []) C Z yyX3_clear nw_592 (tgX3_clear l D cy z _ q1 hq1 hI) hq1 rfl rfl ⟨rfl, rfl, Nat.le_of_ble_eq_true rfl, Nat.le_of_ble_eq_true rfl⟩ ⟨Nat.le_of_ble_eq_true rfl, Nat.le_of_ble_eq_true rfl⟩ (Nat.le_of_ble_eq_true rfl) dX4_begin_8 (fun r2 τ2 hp2 => ?_)
  obtain ⟨rfl, hI2, hG2⟩ := hp2
  have hF2 : ∀ j i : Nat, 169 ≤ j → τ2 j i = σ j i := fun j i h_0 => (hG2 j i (by omega)).trans (hF0 j i h_0)
  show hpV _ _ _ _ _ _ _ _ _ _ _ _ _ _ _ _ _ _ _ _ _ []
  refine h_iconst C dX4_begin_11 ?_
  refine h_istore_n (lv' := [(3, .int (hpI 0)), (2, .ref (z + q1)), (0, .ref (z + k)), (1, .ref (z + 3))]) C dX4_begin_12 rfl (by decide) rfl ?_
  have L3 : ∀ (n3 : Nat) (τ3 : hpMem) (w3_3 : Int), 0 ≤ w3_3 → w3_3 ≤ 2147483647 → hpInv τ3 → (∀ j i : Nat, 169 ≤ j → τ3 j i = σ j i) → (4294967296 - w3_3) < (n3 : Int) → hpF p l e rgX4_begin s m [.ref (z + k), .ref (z + 3)] below meth c 4 D cy z (pgX4_begin z σ k) τ3 13 [(0, .ref (z + k)), (1, .ref (z + 3)), (2, .ref (z + q1)), (3, .int (hpI w3_3))] [] := by
    intro n3
    induction n3 with
    | zero => intro τ3 w3_3 hv3_0 hv3_1 hI3 hF3 hm3; exfalso; omega
    | succ n3 ih3 =>
      intro τ3 w3_3 hv3_0 hv3_1 hI3 hF3 hm3
      refine h_iload_n C dX4_begin_13 3 rfl rfl ?_
      refine h_aload_n C dX4_begin_14 1 rfl rfl ?_
      refine h_getN C O1 9 kd_3 (by decide) nw_97 dX4_begin_15 (hp_fvI (by rw [kd_3]; rfl) rfl) ?_
      obtain ⟨hr4a, hr4b⟩ := hI3.b (bf_1_9 kd_3)
      generalize hg4 : τ3 3 9 = r4 at hr4a hr4b ⊢
      refine h_icmp_ge (tgt := 52) C dX4_begin_18 (by decide) ⟨by omega, by omega⟩ ⟨by omega, by omega⟩ (fun h5 => ?_) (fun h5 => ?_)
      · refine h_aload_n C dX4_begin_52 0 rfl rfl ?_
        refine h_aload_n C dX4_begin_53 1 rfl rfl ?_
        refine h_iconst C dX4_begin_54 ?_
        refine h_callV (As := [.ref (z + 3), .int (hpI 0)]) (rest := []) C Z yyX4_arrive wd_601 (tgX4_arrive l D cy z _ k hk 0 ⟨by decide, by decide⟩ hI3) hk rfl rfl ⟨rfl, rfl, Nat.le_of_ble_eq_true rfl, Nat.le_of_ble_eq_true rfl⟩ ⟨Nat.le_of_ble_eq_true rfl, Nat.le_of_ble_eq_true rfl⟩ (Nat.le_of_ble_eq_true rfl) dX4_begin_55 (fun r6 τ6 hp6 => ?_)
        obtain ⟨rfl, hI6, hG6⟩ := hp6
        have hF6 : ∀ j i : Nat, 169 ≤ j → τ6 j i = σ j i := fun j i h_0 => (hG6 j i (by omega)).trans (hF3 j i h_0)
        show hpV _ _ _ _ _ _ _ _ _ _ _ _ _ _ _ _ _ _ _ _ _ []
        refine h_return C hr hlk dX4_begin_58 ?_
        exact ⟨rfl, hI6, hF6⟩
      · refine h_aload_n C dX4_begin_21 2 rfl rfl ?_
        refine h_iload_n C dX4_begin_22 3 rfl rfl ?_
        refine h_aload_n C dX4_begin_23 0 rfl rfl ?_
        refine h_get C O4 7 hk (by decide) wd_192 dX4_begin_24 (hp_fvI (by rw [hk]; rfl) rfl) ?_
        obtain ⟨hr7a, hr7b⟩ := hI3.b (bf_4_7 hk)
        generalize hg7 : τ3 k 7 = r7 at hr7a hr7b ⊢
        refine h_icmp_ne (tgt := 37) C dX4_begin_27 (by decide) ⟨by omega, by omega⟩ ⟨by omega, by omega⟩ (fun h8 => ?_) (fun h8 => ?_)
        · refine h_aload_n C dX4_begin_37 1 rfl rfl ?_
          refine h_getN C O1 0 kd_3 (by decide) nw_65 dX4_begin_38 fr_3_0 ?_
          refine h_iload_n C dX4_begin_41 3 rfl rfl ?_
          refine h_iaload C dX4_begin_42 kd_4 (w3_3).toNat (Int.toNat_of_nonneg (by omega)) (by rw [ln_4]; omega) rfl ?_
          obtain ⟨hr9a, hr9b⟩ := hI3.b (bo_4 _)
          generalize hg9 : τ3 4 ((w3_3).toNat) = r9 at hr9a hr9b ⊢
          refine h_callVN (As := [.int (hpI r9)]) (rest := []) C Z yyX3_lay nw_596 (tgX3_lay l D cy z _ q1 hq1 r9 ⟨by omega, by omega⟩ hI3) hq1 rfl rfl ⟨rfl, rfl, Nat.le_of_ble_eq_true rfl, Nat.le_of_ble_eq_true rfl⟩ ⟨Nat.le_of_ble_eq_true rfl, Nat.le_of_ble_eq_true rfl⟩ (Nat.le_of_ble_eq_true rfl) dX4_begin_43 (fun r10 τ10 hp10 => ?_)
          obtain ⟨rfl, hI10, hG10⟩ := hp10
          have hF10 : ∀ j i : Nat, 169 ≤ j → τ10 j i = σ j i := fun j i h_0 => (hG10 j i (by omega)).trans (hF3 j i h_0)
          show hpV _ _ _ _ _ _ _ _ _ _ _ _ _ _ _ _ _ _ _ _ _ []
          refine h_iinc (lv' := [(3, .int (hpI (w3_3 + 1))), (0, .ref (z + k)), (1, .ref (z + 3)), (2, .ref (z + q1))]) C dX4_begin_46 3 rfl rfl (by decide) rfl ?_
          refine h_goto (tgt := 13) C dX4_begin_49 (by decide) ?_
          exact hp_sub [1, 2, 3, 0] rfl (ih3 _ (w3_3 + 1) (by omega) (by omega) hI10 hF10 (by omega))
        · refine h_aload_n C dX4_begin_30 0 rfl rfl ?_
          refine h_get C O4 8 hk (by decide) wd_194 dX4_begin_31 (hp_fvI (by rw [hk]; rfl) rfl) ?_
          obtain ⟨hr11a, hr11b⟩ := hI3.b (bf_4_8 hk)
          generalize hg11 : τ3 k 8 = r11 at hr11a hr11b ⊢
          refine h_goto (tgt := 43) C dX4_begin_34 (by decide) ?_
          refine h_callVN (As := [.int (hpI r11)]) (rest := []) C Z yyX3_lay nw_596 (tgX3_lay l D cy z _ q1 hq1 r11 ⟨by omega, by omega⟩ hI3) hq1 rfl rfl ⟨rfl, rfl, Nat.le_of_ble_eq_true rfl, Nat.le_of_ble_eq_true rfl⟩ ⟨Nat.le_of_ble_eq_true rfl, Nat.le_of_ble_eq_true rfl⟩ (Nat.le_of_ble_eq_true rfl) dX4_begin_43 (fun r12 τ12 hp12 => ?_)
          obtain ⟨rfl, hI12, hG12⟩ := hp12
          have hF12 : ∀ j i : Nat, 169 ≤ j → τ12 j i = σ j i := fun j i h_0 => (hG12 j i (by omega)).trans (hF3 j i h_0)
          show hpV _ _ _ _ _ _ _ _ _ _ _ _ _ _ _ _ _ _ _ _ _ []
          refine h_iinc (lv' := [(3, .int (hpI (w3_3 + 1))), (0, .ref (z + k)), (1, .ref (z + 3)), (2, .ref (z + q1))]) C dX4_begin_46 3 rfl rfl (by decide) rfl ?_
          refine h_goto (tgt := 13) C dX4_begin_49 (by decide) ?_
          exact hp_sub [1, 2, 3, 0] rfl (ih3 _ (w3_3 + 1) (by omega) (by omega) hI12 hF12 (by omega))
  exact hp_sub [2, 3, 1, 0] rfl (L3 8589934592 _ 0 (by omega) (by omega) hI2 hF2 (by omega))
abbrev rgX4_next : Room := { frames := 3, cells := 0, slots := 0, locals := 107 }
abbrev pgX4_next (z : Nat) (σ : hpMem) (k : Nat) (a1 : Int) : Option Value → hpMem → Prop := fun r τ => r = none ∧ hpInv τ ∧ (∀ j i : Nat, 169 ≤ j → τ j i = σ j i)
set_option maxHeartbeats 4000000 in
set_option maxRecDepth 20000 in
theorem tgX4_next (l : Launch) (D : va_G) (cy : Nat → ClassId) (z : Nat) (σ : hpMem) (k : Nat) (hk : hpkd k = 4) (a1 : Int) (ha1 : hpR a1) (hI : hpInv σ) : hpM l D cy z yX4_next cX4_next 4 none rgX4_next [.ref (z + k), .ref (z + 3), .int (hpI a1)] σ (pgX4_next z σ k a1) := by
  obtain ⟨ha11, ha12⟩ := ha1
  refine hp_met rfl (Nat.le_of_ble_eq_true rfl) (fun p e s m below meth c C Z hr hlk => ?_)
  have hF0 : ∀ j i : Nat, 169 ≤ j → σ j i = σ j i := fun j i _ => rfl
  have hl_k := kb_4 hk
  refine h_iload_n C dX4_next_0 2 rfl rfl ?_
  refine h_if_lt (tgt := 10) C dX4_next_1 (by decide) ⟨by omega, by omega⟩ (fun h1 => ?_) (fun h1 => ?_)
  · refine h_return C hr hlk dX4_next_10 ?_
    exact ⟨rfl, hI, hF0⟩
  · refine h_iload_n C dX4_next_4 2 rfl rfl ?_
    refine h_bipush C dX4_next_5 (by decide) ?_
    refine h_icmp_lt (tgt := 11) C dX4_next_7 (by decide) ⟨by omega, by omega⟩ ⟨by decide, by decide⟩ (fun h2 => ?_) (fun h2 => ?_)
    · refine h_aload_n C dX4_next_11 0 rfl rfl ?_
      refine h_get C O4 0 hk (by decide) wd_179 dX4_next_12 (fs_4_0 hk) ?_
      refine h_iload_n C dX4_next_15 2 rfl rfl ?_
      refine h_iconst C dX4_next_16 ?_
      refine h_iadd C dX4_next_17 rfl ?_
      obtain ⟨q3, eq3⟩ : ∃ q : Nat, q = k + 2 + 3 * ((a1 + 1).toNat) := ⟨_, rfl⟩
      have hq3 : hpkd q3 = 3 := by rw [eq3]; exact rk_15 hk (by omega)
      refine h_aaload (t0 := 5) (k' := q3) C dX4_next_18 (fa_4_0 hk) (by decide) (by decide) rfl (a1 + 1).toNat (Int.toNat_of_nonneg (by omega)) (by rw [(fl_4_0 hk)]; omega) (by rw [eq3]; exact (rq_15 hk)) ?_
      have hl3 := kb_3 hq3
      refine h_astore_n (lv' := [(3, .ref (z + q3)), (0, .ref (z + k)), (1, .ref (z + 3)), (2, .int (hpI a1))]) C dX4_next_19 rfl (by decide) rfl ?_
      refine h_aload_n C dX4_next_20 0 rfl rfl ?_
      refine h_aload_n C dX4_next_21 1 rfl rfl ?_
      refine h_get C O4 0 hk (by decide) wd_179 dX4_next_22 (fs_4_0 hk) ?_
      refine h_iload_n C dX4_next_25 3 rfl rfl ?_
      obtain ⟨q4, eq4⟩ : ∃ q : Nat, q = k + 2 + 3 * ((a1).toNat) := ⟨_, rfl⟩
      have hq4 : hpkd q4 = 3 := by rw [eq4]; exact rk_15 hk (by omega)
      refine h_aaload (t0 := 5) (k' := q4) C dX4_next_26 (fa_4_0 hk) (by decide) (by decide) rfl (a1).toNat (Int.toNat_of_nonneg (by omega)) (by rw [(fl_4_0 hk)]; omega) (by rw [eq4]; exact (rq_15 hk)) ?_
      have hl4 := kb_3 hq4
      refine h_callVN (As := [.ref (z + q4)]) (rest := []) C Z yyX3_become nw_617 (tgX3_become l D cy z _ q3 hq3 q4 hq4 hI) hq3 rfl rfl ⟨rfl, rfl, Nat.le_of_ble_eq_true rfl, Nat.le_of_ble_eq_true rfl⟩ ⟨Nat.le_of_ble_eq_true rfl, Nat.le_of_ble_eq_true rfl⟩ (Nat.le_of_ble_eq_true rfl) dX4_next_27 (fun r5 τ5 hp5 => ?_)
      obtain ⟨rfl, hI5, hG5⟩ := hp5
      have hF5 : ∀ j i : Nat, 169 ≤ j → τ5 j i = σ j i := fun j i h_0 => (hG5 j i (by omega)).trans (hF0 j i h_0)
      show hpV _ _ _ _ _ _ _ _ _ _ _ _ _ _ _ _ _ _ _ _ _ []
      refine h_aload_n C dX4_next_30 1 rfl rfl ?_
      refine h_get C O4 4 hk (by decide) wd_186 dX4_next_31 (hp_fvI (by rw [hk]; rfl) rfl) ?_
      obtain ⟨hr6a, hr6b⟩ := hI5.b (bf_4_4 hk)
      generalize hg6 : τ5 k 4 = r6 at hr6a hr6b ⊢
      refine h_iload_n C dX4_next_34 3 rfl rfl ?_
      refine h_ishr_any C dX4_next_35 (fun r7 hr7 => ?_)
      obtain ⟨hr7a, hr7b⟩ := hr7
      refine h_iconst C dX4_next_36 ?_
      refine h_iand_r C dX4_next_37 ⟨by decide, by decide⟩ (by omega) (fun r8 hr8a hr8b => ?_)
      refine h_if_ne (tgt := 49) C dX4_next_38 (by decide) ⟨by omega, by omega⟩ (fun h9 => ?_) (fun h9 => ?_)
      · refine h_aload_n C dX4_next_49 1 rfl rfl ?_
        refine h_aload_n C dX4_next_50 2 rfl rfl ?_
        refine h_iload_n C dX4_next_51 3 rfl rfl ?_
        refine h_iconst C dX4_next_52 ?_
        refine h_iadd C dX4_next_53 rfl ?_
        refine h_callV (As := [.ref (z + 3), .int (hpI (a1 + 1))]) (rest := []) C Z yyX4_arrive wd_601 (tgX4_arrive l D cy z _ k hk (a1 + 1) ⟨by omega, by omega⟩ hI5) hk rfl rfl ⟨rfl, rfl, Nat.le_of_ble_eq_true rfl, Nat.le_of_ble_eq_true rfl⟩ ⟨Nat.le_of_ble_eq_true rfl, Nat.le_of_ble_eq_true rfl⟩ (Nat.le_of_ble_eq_true rfl) dX4_next_54 (fun r10 τ10 hp10 => ?_)
        obtain ⟨rfl, hI10, hG10⟩ := hp10
        have hF10 : ∀ j i : Nat, 169 ≤ j → τ10 j i = σ j i := fun j i h_0 => (hG10 j i (by omega)).trans (hF5 j i h_0)
        show hpV _ _ _ _ _ _ _ _ _ _ _ _ _ _ _ _ _ _ _ _ _ []
        refine h_return C hr hlk dX4_next_57 ?_
        exact ⟨rfl, hI10, hF10⟩
      · refine h_aload_n C dX4_next_41 0 rfl rfl ?_
        refine h_aload_n C dX4_next_42 1 rfl rfl ?_
        refine h_get C O4 1 hk (by decide) wd_180 dX4_next_43 (hp_fvI (by rw [hk]; rfl) rfl) ?_
        obtain ⟨hr11a, hr11b⟩ := hI5.b (bf_4_1 hk)
        generalize hg11 : τ5 k 1 = r11 at hr11a hr11b ⊢
        refine h_callVN (As := [.int (hpI r11)]) (rest := []) C Z yyX3_step nw_621 (tgX3_step l D cy z _ q3 hq3 r11 ⟨by omega, by omega⟩ hI5) hq3 rfl rfl ⟨rfl, rfl, Nat.le_of_ble_eq_true rfl, Nat.le_of_ble_eq_true rfl⟩ ⟨Nat.le_of_ble_eq_true rfl, Nat.le_of_ble_eq_true rfl⟩ (Nat.le_of_ble_eq_true rfl) dX4_next_46 (fun r12 τ12 hp12 => ?_)
        obtain ⟨rfl, hI12, hG12⟩ := hp12
        have hF12 : ∀ j i : Nat, 169 ≤ j → τ12 j i = σ j i := fun j i h_0 => (hG12 j i (by omega)).trans (hF5 j i h_0)
        show hpV _ _ _ _ _ _ _ _ _ _ _ _ _ _ _ _ _ _ _ _ _ []
        refine h_aload_n C dX4_next_49 1 rfl rfl ?_
        refine h_aload_n C dX4_next_50 2 rfl rfl ?_
        refine h_iload_n C dX4_next_51 3 rfl rfl ?_
        refine h_iconst C dX4_next_52 ?_
        refine h_iadd C dX4_next_53 rfl ?_
        refine h_callV (As := [.ref (z + 3), .int (hpI (a1 + 1))]) (rest := []) C Z yyX4_arrive wd_601 (tgX4_arrive l D cy z _ k hk (a1 + 1) ⟨by omega, by omega⟩ hI12) hk rfl rfl ⟨rfl, rfl, Nat.le_of_ble_eq_true rfl, Nat.le_of_ble_eq_true rfl⟩ ⟨Nat.le_of_ble_eq_true rfl, Nat.le_of_ble_eq_true rfl⟩ (Nat.le_of_ble_eq_true rfl) dX4_next_54 (fun r13 τ13 hp13 => ?_)
        obtain ⟨rfl, hI13, hG13⟩ := hp13
        have hF13 : ∀ j i : Nat, 169 ≤ j → τ13 j i = σ j i := fun j i h_0 => (hG13 j i (by omega)).trans (hF12 j i h_0)
        show hpV _ _ _ _ _ _ _ _ _ _ _ _ _ _ _ _ _ _ _ _ _ []
        refine h_return C hr hlk dX4_next_57 ?_
        exact ⟨rfl, hI13, hF13⟩
    · refine h_return C hr hlk dX4_next_10 ?_
      exact ⟨rfl, hI, hF0⟩
abbrev rgX4_pass : Room := { frames := 4, cells := 0, slots := 0, locals := 130 }
abbrev pgX4_pass (z : Nat) (σ : hpMem) (k : Nat) : Option Value → hpMem → Prop := fun r τ => r = none ∧ hpInv τ ∧ (∀ j i : Nat, 169 ≤ j → τ j i = σ j i)
set_option maxHeartbeats 4000000 in
set_option maxRecDepth 20000 in
theorem tgX4_pass (l : Launch) (D : va_G) (cy : Nat → ClassId) (z : Nat) (σ : hpMem) (k : Nat) (hk : hpkd k = 4) (hI : hpInv σ) : hpM l D cy z yX4_pass cX4_pass 3 none rgX4_pass [.ref (z + k), .ref (z + 3)] σ (pgX4_pass z σ k) := by
  refine hp_met rfl (Nat.le_of_ble_eq_true rfl) (fun p e s m below meth c C Z hr hlk => ?_)
  have hF0 : ∀ j i : Nat, 169 ≤ j → σ j i = σ j i := fun j i _ => rfl
  have hl_k := kb_4 hk
  refine h_aload_n C dX4_pass_0 0 rfl rfl ?_
  refine h_aload_n C dX4_pass_1 1 rfl rfl ?_
  refine h_callV (As := [.ref (z + 3)]) (rest := []) C Z yyX4_begin wd_588 (tgX4_begin l D cy z _ k hk hI) hk rfl rfl ⟨rfl, rfl, Nat.le_of_ble_eq_true rfl, Nat.le_of_ble_eq_true rfl⟩ ⟨Nat.le_of_ble_eq_true rfl, Nat.le_of_ble_eq_true rfl⟩ (Nat.le_of_ble_eq_true rfl) dX4_pass_2 (fun r1 τ1 hp1 => ?_)
  obtain ⟨rfl, hI1, hG1⟩ := hp1
  have hF1 : ∀ j i : Nat, 169 ≤ j → τ1 j i = σ j i := fun j i h_0 => (hG1 j i (by omega)).trans (hF0 j i h_0)
  show hpV _ _ _ _ _ _ _ _ _ _ _ _ _ _ _ _ _ _ _ _ _ []
  refine h_iconst C dX4_pass_5 ?_
  refine h_istore_n (lv' := [(2, .int (hpI 0)), (0, .ref (z + k)), (1, .ref (z + 3))]) C dX4_pass_6 rfl (by decide) rfl ?_
  have L2 : ∀ (n2 : Nat) (τ2 : hpMem) (w2_2 : Int), 0 ≤ w2_2 → w2_2 ≤ 2147483647 → hpInv τ2 → (∀ j i : Nat, 169 ≤ j → τ2 j i = σ j i) → (4294967296 - w2_2) < (n2 : Int) → hpF p l e rgX4_pass s m [.ref (z + k), .ref (z + 3)] below meth c 3 D cy z (pgX4_pass z σ k) τ2 7 [(0, .ref (z + k)), (1, .ref (z + 3)), (2, .int (hpI w2_2))] [] := by
    intro n2
    induction n2 with
    | zero => intro τ2 w2_2 hv2_0 hv2_1 hI2 hF2 hm2; exfalso; omega
    | succ n2 ih2 =>
      intro τ2 w2_2 hv2_0 hv2_1 hI2 hF2 hm2
      refine h_iload_n C dX4_pass_7 2 rfl rfl ?_
      refine h_aload_n C dX4_pass_8 1 rfl rfl ?_
      refine h_getN C O1 5 kd_3 (by decide) nw_83 dX4_pass_9 (hp_fvI (by rw [kd_3]; rfl) rfl) ?_
      obtain ⟨hr3a, hr3b⟩ := hI2.b (bf_1_5 kd_3)
      generalize hg3 : τ2 3 5 = r3 at hr3a hr3b ⊢
      refine h_icmp_ge (tgt := 27) C dX4_pass_12 (by decide) ⟨by omega, by omega⟩ ⟨by omega, by omega⟩ (fun h4 => ?_) (fun h4 => ?_)
      · refine h_return C hr hlk dX4_pass_27 ?_
        exact ⟨rfl, hI2, hF2⟩
      · refine h_aload_n C dX4_pass_15 0 rfl rfl ?_
        refine h_aload_n C dX4_pass_16 1 rfl rfl ?_
        refine h_iload_n C dX4_pass_17 2 rfl rfl ?_
        refine h_callV (As := [.ref (z + 3), .int (hpI w2_2)]) (rest := []) C Z yyX4_next wd_613 (tgX4_next l D cy z _ k hk w2_2 ⟨by omega, by omega⟩ hI2) hk rfl rfl ⟨rfl, rfl, Nat.le_of_ble_eq_true rfl, Nat.le_of_ble_eq_true rfl⟩ ⟨Nat.le_of_ble_eq_true rfl, Nat.le_of_ble_eq_true rfl⟩ (Nat.le_of_ble_eq_true rfl) dX4_pass_18 (fun r5 τ5 hp5 => ?_)
        obtain ⟨rfl, hI5, hG5⟩ := hp5
        have hF5 : ∀ j i : Nat, 169 ≤ j → τ5 j i = σ j i := fun j i h_0 => (hG5 j i (by omega)).trans (hF2 j i h_0)
        show hpV _ _ _ _ _ _ _ _ _ _ _ _ _ _ _ _ _ _ _ _ _ []
        refine h_iinc (lv' := [(2, .int (hpI (w2_2 + 1))), (0, .ref (z + k)), (1, .ref (z + 3))]) C dX4_pass_21 2 rfl rfl (by decide) rfl ?_
        refine h_goto (tgt := 7) C dX4_pass_24 (by decide) ?_
        exact hp_sub [1, 2, 0] rfl (ih2 _ (w2_2 + 1) (by omega) (by omega) hI5 hF5 (by omega))
  exact hp_sub [1, 2, 0] rfl (L2 8589934592 _ 0 (by omega) (by omega) hI1 hF1 (by omega))
abbrev rgX1_clear : Room := { frames := 0, cells := 0, slots := 0, locals := 0 }
abbrev pgX1_clear (z : Nat) (σ : hpMem) : Option Value → hpMem → Prop := fun r τ => r = none ∧ hpInv τ ∧ (∀ j i : Nat, j ≠ 9 → τ j i = σ j i)
set_option maxHeartbeats 4000000 in
set_option maxRecDepth 20000 in
theorem tgX1_clear (l : Launch) (D : va_G) (cy : Nat → ClassId) (z : Nat) (σ : hpMem) (hI : hpInv σ) : hpM l D cy z yX1_clear cX1_clear 1 none rgX1_clear [.ref (z + 9)] σ (pgX1_clear z σ) := by
  refine hp_met rfl (Nat.le_of_ble_eq_true rfl) (fun p e s m below meth c C Z hr hlk => ?_)
  have hF0 : ∀ j i : Nat, j ≠ 9 → σ j i = σ j i := fun j i _ => rfl
  refine h_aload_n C dX1_clear_0 0 rfl rfl ?_
  refine h_iconst C dX1_clear_1 ?_
  refine h_put C O1 5 kd_9 (by decide) rfl wd_82 dX1_clear_2 rfl rfl (hp_fvI (by rw [kd_9]; rfl) hpu_at) ?_
  obtain ⟨τ1, e1⟩ : ∃ μ : hpMem, μ = hpw σ 9 5 0 := ⟨_, rfl⟩
  rw [← e1]
  have hI1 : hpInv τ1 := by rw [e1]; exact hI.w (bf_1_5 kd_9) (by omega) (by omega)
  have hF1 : ∀ j i : Nat, j ≠ 9 → τ1 j i = σ j i := fun j i h_0 => by rw [e1]; exact (hpw_fr (by omega)).trans (hF0 j i h_0)
  have hg2 : τ1 9 5 = 0 := by rw [e1]; exact hpw_eq
  refine h_aload_n C dX1_clear_5 0 rfl rfl ?_
  refine h_iconst C dX1_clear_6 ?_
  refine h_put C O1 6 kd_9 (by decide) rfl wd_87 dX1_clear_7 rfl rfl (hp_fvI (by rw [kd_9]; rfl) hpu_at) ?_
  obtain ⟨τ3, e3⟩ : ∃ μ : hpMem, μ = hpw τ1 9 6 0 := ⟨_, rfl⟩
  rw [← e3]
  have hI3 : hpInv τ3 := by rw [e3]; exact hI1.w (bf_1_6 kd_9) (by omega) (by omega)
  have hF3 : ∀ j i : Nat, j ≠ 9 → τ3 j i = σ j i := fun j i h_0 => by rw [e3]; exact (hpw_fr (by omega)).trans (hF1 j i h_0)
  have hg4 : τ3 9 5 = 0 := by rw [e3]; exact (hpw_fr (Or.inr (by decide))).trans hg2
  have hg5 : τ3 9 6 = 0 := by rw [e3]; exact hpw_eq
  refine h_aload_n C dX1_clear_10 0 rfl rfl ?_
  refine h_iconst C dX1_clear_11 ?_
  refine h_put C O1 7 kd_9 (by decide) rfl wd_90 dX1_clear_12 rfl rfl (hp_fvI (by rw [kd_9]; rfl) hpu_at) ?_
  obtain ⟨τ6, e6⟩ : ∃ μ : hpMem, μ = hpw τ3 9 7 0 := ⟨_, rfl⟩
  rw [← e6]
  have hI6 : hpInv τ6 := by rw [e6]; exact hI3.w (bf_1_7 kd_9) (by omega) (by omega)
  have hF6 : ∀ j i : Nat, j ≠ 9 → τ6 j i = σ j i := fun j i h_0 => by rw [e6]; exact (hpw_fr (by omega)).trans (hF3 j i h_0)
  have hg7 : τ6 9 5 = 0 := by rw [e6]; exact (hpw_fr (Or.inr (by decide))).trans hg4
  have hg8 : τ6 9 6 = 0 := by rw [e6]; exact (hpw_fr (Or.inr (by decide))).trans hg5
  have hg9 : τ6 9 7 = 0 := by rw [e6]; exact hpw_eq
  refine h_aload_n C dX1_clear_15 0 rfl rfl ?_
  refine h_iconst C dX1_clear_16 ?_
  refine h_put C O1 8 kd_9 (by decide) rfl wd_93 dX1_clear_17 rfl rfl (hp_fvI (by rw [kd_9]; rfl) hpu_at) ?_
  obtain ⟨τ10, e10⟩ : ∃ μ : hpMem, μ = hpw τ6 9 8 0 := ⟨_, rfl⟩
  rw [← e10]
  have hI10 : hpInv τ10 := by rw [e10]; exact hI6.w (bf_1_8 kd_9) (by omega) (by omega)
  have hF10 : ∀ j i : Nat, j ≠ 9 → τ10 j i = σ j i := fun j i h_0 => by rw [e10]; exact (hpw_fr (by omega)).trans (hF6 j i h_0)
  have hg11 : τ10 9 5 = 0 := by rw [e10]; exact (hpw_fr (Or.inr (by decide))).trans hg7
  have hg12 : τ10 9 6 = 0 := by rw [e10]; exact (hpw_fr (Or.inr (by decide))).trans hg8
  have hg13 : τ10 9 7 = 0 := by rw [e10]; exact (hpw_fr (Or.inr (by decide))).trans hg9
  have hg14 : τ10 9 8 = 0 := by rw [e10]; exact hpw_eq
  refine h_aload_n C dX1_clear_20 0 rfl rfl ?_
  refine h_iconst C dX1_clear_21 ?_
  refine h_put C O1 9 kd_9 (by decide) rfl wd_96 dX1_clear_22 rfl rfl (hp_fvI (by rw [kd_9]; rfl) hpu_at) ?_
  obtain ⟨τ15, e15⟩ : ∃ μ : hpMem, μ = hpw τ10 9 9 0 := ⟨_, rfl⟩
  rw [← e15]
  have hI15 : hpInv τ15 := by rw [e15]; exact hI10.w (bf_1_9 kd_9) (by omega) (by omega)
  have hF15 : ∀ j i : Nat, j ≠ 9 → τ15 j i = σ j i := fun j i h_0 => by rw [e15]; exact (hpw_fr (by omega)).trans (hF10 j i h_0)
  have hg16 : τ15 9 5 = 0 := by rw [e15]; exact (hpw_fr (Or.inr (by decide))).trans hg11
  have hg17 : τ15 9 6 = 0 := by rw [e15]; exact (hpw_fr (Or.inr (by decide))).trans hg12
  have hg18 : τ15 9 7 = 0 := by rw [e15]; exact (hpw_fr (Or.inr (by decide))).trans hg13
  have hg19 : τ15 9 8 = 0 := by rw [e15]; exact (hpw_fr (Or.inr (by decide))).trans hg14
  have hg20 : τ15 9 9 = 0 := by rw [e15]; exact hpw_eq
  refine h_aload_n C dX1_clear_25 0 rfl rfl ?_
  refine h_iconst C dX1_clear_26 ?_
  refine h_put C O1 10 kd_9 (by decide) rfl wd_100 dX1_clear_27 rfl rfl (hp_fvI (by rw [kd_9]; rfl) hpu_at) ?_
  obtain ⟨τ21, e21⟩ : ∃ μ : hpMem, μ = hpw τ15 9 10 0 := ⟨_, rfl⟩
  rw [← e21]
  have hI21 : hpInv τ21 := by rw [e21]; exact hI15.w (bf_1_10 kd_9) (by omega) (by omega)
  have hF21 : ∀ j i : Nat, j ≠ 9 → τ21 j i = σ j i := fun j i h_0 => by rw [e21]; exact (hpw_fr (by omega)).trans (hF15 j i h_0)
  have hg22 : τ21 9 5 = 0 := by rw [e21]; exact (hpw_fr (Or.inr (by decide))).trans hg16
  have hg23 : τ21 9 6 = 0 := by rw [e21]; exact (hpw_fr (Or.inr (by decide))).trans hg17
  have hg24 : τ21 9 7 = 0 := by rw [e21]; exact (hpw_fr (Or.inr (by decide))).trans hg18
  have hg25 : τ21 9 8 = 0 := by rw [e21]; exact (hpw_fr (Or.inr (by decide))).trans hg19
  have hg26 : τ21 9 9 = 0 := by rw [e21]; exact (hpw_fr (Or.inr (by decide))).trans hg20
  have hg27 : τ21 9 10 = 0 := by rw [e21]; exact hpw_eq
  refine h_aload_n C dX1_clear_30 0 rfl rfl ?_
  refine h_iconst C dX1_clear_31 ?_
  refine h_put C O1 11 kd_9 (by decide) rfl wd_104 dX1_clear_32 rfl rfl (hp_fvI (by rw [kd_9]; rfl) hpu_at) ?_
  obtain ⟨τ28, e28⟩ : ∃ μ : hpMem, μ = hpw τ21 9 11 0 := ⟨_, rfl⟩
  rw [← e28]
  have hI28 : hpInv τ28 := by rw [e28]; exact hI21.w (bf_1_11 kd_9) (by omega) (by omega)
  have hF28 : ∀ j i : Nat, j ≠ 9 → τ28 j i = σ j i := fun j i h_0 => by rw [e28]; exact (hpw_fr (by omega)).trans (hF21 j i h_0)
  have hg29 : τ28 9 5 = 0 := by rw [e28]; exact (hpw_fr (Or.inr (by decide))).trans hg22
  have hg30 : τ28 9 6 = 0 := by rw [e28]; exact (hpw_fr (Or.inr (by decide))).trans hg23
  have hg31 : τ28 9 7 = 0 := by rw [e28]; exact (hpw_fr (Or.inr (by decide))).trans hg24
  have hg32 : τ28 9 8 = 0 := by rw [e28]; exact (hpw_fr (Or.inr (by decide))).trans hg25
  have hg33 : τ28 9 9 = 0 := by rw [e28]; exact (hpw_fr (Or.inr (by decide))).trans hg26
  have hg34 : τ28 9 10 = 0 := by rw [e28]; exact (hpw_fr (Or.inr (by decide))).trans hg27
  have hg35 : τ28 9 11 = 0 := by rw [e28]; exact hpw_eq
  refine h_return C hr hlk dX1_clear_35 ?_
  exact ⟨rfl, hI28, hF28⟩
abbrev rgX1_become : Room := { frames := 1, cells := 0, slots := 0, locals := 60 }
abbrev pgX1_become (z : Nat) (σ : hpMem) (k : Nat) (q : Nat) : Option Value → hpMem → Prop := fun r τ => r = none ∧ hpInv τ ∧ (∀ j i : Nat, (j < k ∨ k + 5 < j) → τ j i = σ j i)
set_option maxHeartbeats 4000000 in
set_option maxRecDepth 20000 in
theorem tgX1_become (l : Launch) (D : va_G) (cy : Nat → ClassId) (z : Nat) (σ : hpMem) (k : Nat) (hk : hpkd k = 1) (q : Nat) (hq : hpkd q = 1) (hI : hpInv σ) : hpM l D cy z yX1_become cX1_become 2 none rgX1_become [.ref (z + k), .ref (z + q)] σ (pgX1_become z σ k q) := by
  refine hp_met rfl (Nat.le_of_ble_eq_true rfl) (fun p e s m below meth c C Z hr hlk => ?_)
  have hF0 : ∀ j i : Nat, (j < k ∨ k + 5 < j) → σ j i = σ j i := fun j i _ => rfl
  have hl_k := kb_1 hk
  have hl_q := kb_1 hq
  refine h_aload_n C dX1_become_0 0 rfl rfl ?_
  refine h_aload_n C dX1_become_1 1 rfl rfl ?_
  refine h_get C O1 5 hq (by decide) wd_82 dX1_become_2 (hp_fvI (by rw [hq]; rfl) rfl) ?_
  obtain ⟨hr1a, hr1b⟩ := hI.b (bf_1_5 hq)
  generalize hg1 : σ q 5 = r1 at hr1a hr1b ⊢
  refine h_put C O1 5 hk (by decide) rfl wd_82 dX1_become_5 rfl rfl (hp_fvI (by rw [hk]; rfl) hpu_at) ?_
  obtain ⟨τ2, e2⟩ : ∃ μ : hpMem, μ = hpw σ k 5 r1 := ⟨_, rfl⟩
  rw [← e2]
  have hI2 : hpInv τ2 := by rw [e2]; exact hI.w (bf_1_5 hk) (by omega) (by omega)
  have hF2 : ∀ j i : Nat, (j < k ∨ k + 5 < j) → τ2 j i = σ j i := fun j i h_0 => by rw [e2]; exact (hpw_fr (by omega)).trans (hF0 j i h_0)
  have hg3 : τ2 k 5 = r1 := by rw [e2]; exact hpw_eq
  refine h_aload_n C dX1_become_8 0 rfl rfl ?_
  refine h_aload_n C dX1_become_9 1 rfl rfl ?_
  refine h_get C O1 6 hq (by decide) wd_87 dX1_become_10 (hp_fvI (by rw [hq]; rfl) rfl) ?_
  obtain ⟨hr4a, hr4b⟩ := hI2.b (bf_1_6 hq)
  generalize hg4 : τ2 q 6 = r4 at hr4a hr4b ⊢
  refine h_put C O1 6 hk (by decide) rfl wd_87 dX1_become_13 rfl rfl (hp_fvI (by rw [hk]; rfl) hpu_at) ?_
  obtain ⟨τ5, e5⟩ : ∃ μ : hpMem, μ = hpw τ2 k 6 r4 := ⟨_, rfl⟩
  rw [← e5]
  have hI5 : hpInv τ5 := by rw [e5]; exact hI2.w (bf_1_6 hk) (by omega) (by omega)
  have hF5 : ∀ j i : Nat, (j < k ∨ k + 5 < j) → τ5 j i = σ j i := fun j i h_0 => by rw [e5]; exact (hpw_fr (by omega)).trans (hF2 j i h_0)
  have hg6 : τ5 k 5 = r1 := by rw [e5]; exact (hpw_fr (Or.inr (by decide))).trans hg3
  have hg7 : τ5 k 6 = r4 := by rw [e5]; exact hpw_eq
  refine h_aload_n C dX1_become_16 0 rfl rfl ?_
  refine h_aload_n C dX1_become_17 1 rfl rfl ?_
  refine h_get C O1 7 hq (by decide) wd_90 dX1_become_18 (hp_fvI (by rw [hq]; rfl) rfl) ?_
  obtain ⟨hr8a, hr8b⟩ := hI5.b (bf_1_7 hq)
  generalize hg8 : τ5 q 7 = r8 at hr8a hr8b ⊢
  refine h_put C O1 7 hk (by decide) rfl wd_90 dX1_become_21 rfl rfl (hp_fvI (by rw [hk]; rfl) hpu_at) ?_
  obtain ⟨τ9, e9⟩ : ∃ μ : hpMem, μ = hpw τ5 k 7 r8 := ⟨_, rfl⟩
  rw [← e9]
  have hI9 : hpInv τ9 := by rw [e9]; exact hI5.w (bf_1_7 hk) (by omega) (by omega)
  have hF9 : ∀ j i : Nat, (j < k ∨ k + 5 < j) → τ9 j i = σ j i := fun j i h_0 => by rw [e9]; exact (hpw_fr (by omega)).trans (hF5 j i h_0)
  have hg10 : τ9 k 5 = r1 := by rw [e9]; exact (hpw_fr (Or.inr (by decide))).trans hg6
  have hg11 : τ9 k 6 = r4 := by rw [e9]; exact (hpw_fr (Or.inr (by decide))).trans hg7
  have hg12 : τ9 k 7 = r8 := by rw [e9]; exact hpw_eq
  refine h_aload_n C dX1_become_24 0 rfl rfl ?_
  refine h_aload_n C dX1_become_25 1 rfl rfl ?_
  refine h_get C O1 8 hq (by decide) wd_93 dX1_become_26 (hp_fvI (by rw [hq]; rfl) rfl) ?_
  obtain ⟨hr13a, hr13b⟩ := hI9.b (bf_1_8 hq)
  generalize hg13 : τ9 q 8 = r13 at hr13a hr13b ⊢
  refine h_put C O1 8 hk (by decide) rfl wd_93 dX1_become_29 rfl rfl (hp_fvI (by rw [hk]; rfl) hpu_at) ?_
  obtain ⟨τ14, e14⟩ : ∃ μ : hpMem, μ = hpw τ9 k 8 r13 := ⟨_, rfl⟩
  rw [← e14]
  have hI14 : hpInv τ14 := by rw [e14]; exact hI9.w (bf_1_8 hk) (by omega) (by omega)
  have hF14 : ∀ j i : Nat, (j < k ∨ k + 5 < j) → τ14 j i = σ j i := fun j i h_0 => by rw [e14]; exact (hpw_fr (by omega)).trans (hF9 j i h_0)
  have hg15 : τ14 k 5 = r1 := by rw [e14]; exact (hpw_fr (Or.inr (by decide))).trans hg10
  have hg16 : τ14 k 6 = r4 := by rw [e14]; exact (hpw_fr (Or.inr (by decide))).trans hg11
  have hg17 : τ14 k 7 = r8 := by rw [e14]; exact (hpw_fr (Or.inr (by decide))).trans hg12
  have hg18 : τ14 k 8 = r13 := by rw [e14]; exact hpw_eq
  refine h_aload_n C dX1_become_32 0 rfl rfl ?_
  refine h_aload_n C dX1_become_33 1 rfl rfl ?_
  refine h_get C O1 9 hq (by decide) wd_96 dX1_become_34 (hp_fvI (by rw [hq]; rfl) rfl) ?_
  obtain ⟨hr19a, hr19b⟩ := hI14.b (bf_1_9 hq)
  generalize hg19 : τ14 q 9 = r19 at hr19a hr19b ⊢
  refine h_put C O1 9 hk (by decide) rfl wd_96 dX1_become_37 rfl rfl (hp_fvI (by rw [hk]; rfl) hpu_at) ?_
  obtain ⟨τ20, e20⟩ : ∃ μ : hpMem, μ = hpw τ14 k 9 r19 := ⟨_, rfl⟩
  rw [← e20]
  have hI20 : hpInv τ20 := by rw [e20]; exact hI14.w (bf_1_9 hk) (by omega) (by omega)
  have hF20 : ∀ j i : Nat, (j < k ∨ k + 5 < j) → τ20 j i = σ j i := fun j i h_0 => by rw [e20]; exact (hpw_fr (by omega)).trans (hF14 j i h_0)
  have hg21 : τ20 k 5 = r1 := by rw [e20]; exact (hpw_fr (Or.inr (by decide))).trans hg15
  have hg22 : τ20 k 6 = r4 := by rw [e20]; exact (hpw_fr (Or.inr (by decide))).trans hg16
  have hg23 : τ20 k 7 = r8 := by rw [e20]; exact (hpw_fr (Or.inr (by decide))).trans hg17
  have hg24 : τ20 k 8 = r13 := by rw [e20]; exact (hpw_fr (Or.inr (by decide))).trans hg18
  have hg25 : τ20 k 9 = r19 := by rw [e20]; exact hpw_eq
  refine h_aload_n C dX1_become_40 0 rfl rfl ?_
  refine h_aload_n C dX1_become_41 1 rfl rfl ?_
  refine h_get C O1 10 hq (by decide) wd_100 dX1_become_42 (hp_fvI (by rw [hq]; rfl) rfl) ?_
  obtain ⟨hr26a, hr26b⟩ := hI20.b (bf_1_10 hq)
  generalize hg26 : τ20 q 10 = r26 at hr26a hr26b ⊢
  refine h_put C O1 10 hk (by decide) rfl wd_100 dX1_become_45 rfl rfl (hp_fvI (by rw [hk]; rfl) hpu_at) ?_
  obtain ⟨τ27, e27⟩ : ∃ μ : hpMem, μ = hpw τ20 k 10 r26 := ⟨_, rfl⟩
  rw [← e27]
  have hI27 : hpInv τ27 := by rw [e27]; exact hI20.w (bf_1_10 hk) (by omega) (by omega)
  have hF27 : ∀ j i : Nat, (j < k ∨ k + 5 < j) → τ27 j i = σ j i := fun j i h_0 => by rw [e27]; exact (hpw_fr (by omega)).trans (hF20 j i h_0)
  have hg28 : τ27 k 5 = r1 := by rw [e27]; exact (hpw_fr (Or.inr (by decide))).trans hg21
  have hg29 : τ27 k 6 = r4 := by rw [e27]; exact (hpw_fr (Or.inr (by decide))).trans hg22
  have hg30 : τ27 k 7 = r8 := by rw [e27]; exact (hpw_fr (Or.inr (by decide))).trans hg23
  have hg31 : τ27 k 8 = r13 := by rw [e27]; exact (hpw_fr (Or.inr (by decide))).trans hg24
  have hg32 : τ27 k 9 = r19 := by rw [e27]; exact (hpw_fr (Or.inr (by decide))).trans hg25
  have hg33 : τ27 k 10 = r26 := by rw [e27]; exact hpw_eq
  refine h_aload_n C dX1_become_48 0 rfl rfl ?_
  refine h_aload_n C dX1_become_49 1 rfl rfl ?_
  refine h_get C O1 11 hq (by decide) wd_104 dX1_become_50 (hp_fvI (by rw [hq]; rfl) rfl) ?_
  obtain ⟨hr34a, hr34b⟩ := hI27.b (bf_1_11 hq)
  generalize hg34 : τ27 q 11 = r34 at hr34a hr34b ⊢
  refine h_put C O1 11 hk (by decide) rfl wd_104 dX1_become_53 rfl rfl (hp_fvI (by rw [hk]; rfl) hpu_at) ?_
  obtain ⟨τ35, e35⟩ : ∃ μ : hpMem, μ = hpw τ27 k 11 r34 := ⟨_, rfl⟩
  rw [← e35]
  have hI35 : hpInv τ35 := by rw [e35]; exact hI27.w (bf_1_11 hk) (by omega) (by omega)
  have hF35 : ∀ j i : Nat, (j < k ∨ k + 5 < j) → τ35 j i = σ j i := fun j i h_0 => by rw [e35]; exact (hpw_fr (by omega)).trans (hF27 j i h_0)
  have hg36 : τ35 k 5 = r1 := by rw [e35]; exact (hpw_fr (Or.inr (by decide))).trans hg28
  have hg37 : τ35 k 6 = r4 := by rw [e35]; exact (hpw_fr (Or.inr (by decide))).trans hg29
  have hg38 : τ35 k 7 = r8 := by rw [e35]; exact (hpw_fr (Or.inr (by decide))).trans hg30
  have hg39 : τ35 k 8 = r13 := by rw [e35]; exact (hpw_fr (Or.inr (by decide))).trans hg31
  have hg40 : τ35 k 9 = r19 := by rw [e35]; exact (hpw_fr (Or.inr (by decide))).trans hg32
  have hg41 : τ35 k 10 = r26 := by rw [e35]; exact (hpw_fr (Or.inr (by decide))).trans hg33
  have hg42 : τ35 k 11 = r34 := by rw [e35]; exact hpw_eq
  refine h_aload_n C dX1_become_56 1 rfl rfl ?_
  refine h_get C O1 0 hq (by decide) wd_64 dX1_become_57 (fs_1_0 hq) ?_
  refine h_iconst C dX1_become_60 ?_
  refine h_aload_n C dX1_become_61 0 rfl rfl ?_
  refine h_get C O1 0 hk (by decide) wd_64 dX1_become_62 (fs_1_0 hk) ?_
  refine h_iconst C dX1_become_65 ?_
  refine h_bipush C dX1_become_66 (by decide) ?_
  refine h_copyI C wd_534 wd_536 wd_535 wd_16 dX1_become_68 (fa_1_0 hq) (fa_1_0 hk) 0 0 8 rfl rfl rfl (by rw [(fl_1_0 hq)]; omega) (by rw [(fl_1_0 hk)]; omega) (Nat.le_of_ble_eq_true rfl) (Nat.le_of_ble_eq_true rfl) ?_
  obtain ⟨τ43, e43⟩ : ∃ μ : hpMem, μ = hpwr τ35 (k + 1) (hpcp (τ35 (q + 1)) (τ35 (k + 1)) 0 0 8) := ⟨_, rfl⟩
  rw [← e43]
  have hI43 : hpInv τ43 := by rw [e43]; exact hI35.cp (fun i => fo_1_0 hq i) (fun i => fo_1_0 hk i)
  have hF43 : ∀ j i : Nat, (j < k ∨ k + 5 < j) → τ43 j i = σ j i := fun j i h_0 => by rw [e43]; exact (hpwr_fr (by omega)).trans (hF35 j i h_0)
  have hg44 : τ43 k 5 = r1 := by rw [e43]; exact (hpwr_fr (by omega)).trans hg36
  have hg45 : τ43 k 6 = r4 := by rw [e43]; exact (hpwr_fr (by omega)).trans hg37
  have hg46 : τ43 k 7 = r8 := by rw [e43]; exact (hpwr_fr (by omega)).trans hg38
  have hg47 : τ43 k 8 = r13 := by rw [e43]; exact (hpwr_fr (by omega)).trans hg39
  have hg48 : τ43 k 9 = r19 := by rw [e43]; exact (hpwr_fr (by omega)).trans hg40
  have hg49 : τ43 k 10 = r26 := by rw [e43]; exact (hpwr_fr (by omega)).trans hg41
  have hg50 : τ43 k 11 = r34 := by rw [e43]; exact (hpwr_fr (by omega)).trans hg42
  refine h_aload_n C dX1_become_71 1 rfl rfl ?_
  refine h_get C O1 1 hq (by decide) wd_68 dX1_become_72 (fs_1_1 hq) ?_
  refine h_iconst C dX1_become_75 ?_
  refine h_aload_n C dX1_become_76 0 rfl rfl ?_
  refine h_get C O1 1 hk (by decide) wd_68 dX1_become_77 (fs_1_1 hk) ?_
  refine h_iconst C dX1_become_80 ?_
  refine h_bipush C dX1_become_81 (by decide) ?_
  refine h_copyI C wd_534 wd_536 wd_535 wd_16 dX1_become_83 (fa_1_1 hq) (fa_1_1 hk) 0 0 6 rfl rfl rfl (by rw [(fl_1_1 hq)]; omega) (by rw [(fl_1_1 hk)]; omega) (Nat.le_of_ble_eq_true rfl) (Nat.le_of_ble_eq_true rfl) ?_
  obtain ⟨τ51, e51⟩ : ∃ μ : hpMem, μ = hpwr τ43 (k + 2) (hpcp (τ43 (q + 2)) (τ43 (k + 2)) 0 0 6) := ⟨_, rfl⟩
  rw [← e51]
  have hI51 : hpInv τ51 := by rw [e51]; exact hI43.cp (fun i => fo_1_1 hq i) (fun i => fo_1_1 hk i)
  have hF51 : ∀ j i : Nat, (j < k ∨ k + 5 < j) → τ51 j i = σ j i := fun j i h_0 => by rw [e51]; exact (hpwr_fr (by omega)).trans (hF43 j i h_0)
  have hg52 : τ51 k 5 = r1 := by rw [e51]; exact (hpwr_fr (by omega)).trans hg44
  have hg53 : τ51 k 6 = r4 := by rw [e51]; exact (hpwr_fr (by omega)).trans hg45
  have hg54 : τ51 k 7 = r8 := by rw [e51]; exact (hpwr_fr (by omega)).trans hg46
  have hg55 : τ51 k 8 = r13 := by rw [e51]; exact (hpwr_fr (by omega)).trans hg47
  have hg56 : τ51 k 9 = r19 := by rw [e51]; exact (hpwr_fr (by omega)).trans hg48
  have hg57 : τ51 k 10 = r26 := by rw [e51]; exact (hpwr_fr (by omega)).trans hg49
  have hg58 : τ51 k 11 = r34 := by rw [e51]; exact (hpwr_fr (by omega)).trans hg50
  refine h_aload_n C dX1_become_86 1 rfl rfl ?_
  refine h_get C O1 2 hq (by decide) wd_72 dX1_become_87 (fs_1_2 hq) ?_
  refine h_iconst C dX1_become_90 ?_
  refine h_aload_n C dX1_become_91 0 rfl rfl ?_
  refine h_get C O1 2 hk (by decide) wd_72 dX1_become_92 (fs_1_2 hk) ?_
  refine h_iconst C dX1_become_95 ?_
  refine h_bipush C dX1_become_96 (by decide) ?_
  refine h_copyI C wd_534 wd_536 wd_535 wd_16 dX1_become_98 (fa_1_2 hq) (fa_1_2 hk) 0 0 6 rfl rfl rfl (by rw [(fl_1_2 hq)]; omega) (by rw [(fl_1_2 hk)]; omega) (Nat.le_of_ble_eq_true rfl) (Nat.le_of_ble_eq_true rfl) ?_
  obtain ⟨τ59, e59⟩ : ∃ μ : hpMem, μ = hpwr τ51 (k + 3) (hpcp (τ51 (q + 3)) (τ51 (k + 3)) 0 0 6) := ⟨_, rfl⟩
  rw [← e59]
  have hI59 : hpInv τ59 := by rw [e59]; exact hI51.cp (fun i => fo_1_2 hq i) (fun i => fo_1_2 hk i)
  have hF59 : ∀ j i : Nat, (j < k ∨ k + 5 < j) → τ59 j i = σ j i := fun j i h_0 => by rw [e59]; exact (hpwr_fr (by omega)).trans (hF51 j i h_0)
  have hg60 : τ59 k 5 = r1 := by rw [e59]; exact (hpwr_fr (by omega)).trans hg52
  have hg61 : τ59 k 6 = r4 := by rw [e59]; exact (hpwr_fr (by omega)).trans hg53
  have hg62 : τ59 k 7 = r8 := by rw [e59]; exact (hpwr_fr (by omega)).trans hg54
  have hg63 : τ59 k 8 = r13 := by rw [e59]; exact (hpwr_fr (by omega)).trans hg55
  have hg64 : τ59 k 9 = r19 := by rw [e59]; exact (hpwr_fr (by omega)).trans hg56
  have hg65 : τ59 k 10 = r26 := by rw [e59]; exact (hpwr_fr (by omega)).trans hg57
  have hg66 : τ59 k 11 = r34 := by rw [e59]; exact (hpwr_fr (by omega)).trans hg58
  refine h_aload_n C dX1_become_101 1 rfl rfl ?_
  refine h_get C O1 3 hq (by decide) wd_76 dX1_become_102 (fs_1_3 hq) ?_
  refine h_iconst C dX1_become_105 ?_
  refine h_aload_n C dX1_become_106 0 rfl rfl ?_
  refine h_get C O1 3 hk (by decide) wd_76 dX1_become_107 (fs_1_3 hk) ?_
  refine h_iconst C dX1_become_110 ?_
  refine h_bipush C dX1_become_111 (by decide) ?_
  refine h_copyI C wd_534 wd_536 wd_535 wd_16 dX1_become_113 (fa_1_3 hq) (fa_1_3 hk) 0 0 20 rfl rfl rfl (by rw [(fl_1_3 hq)]; omega) (by rw [(fl_1_3 hk)]; omega) (Nat.le_of_ble_eq_true rfl) (Nat.le_of_ble_eq_true rfl) ?_
  obtain ⟨τ67, e67⟩ : ∃ μ : hpMem, μ = hpwr τ59 (k + 4) (hpcp (τ59 (q + 4)) (τ59 (k + 4)) 0 0 20) := ⟨_, rfl⟩
  rw [← e67]
  have hI67 : hpInv τ67 := by rw [e67]; exact hI59.cp (fun i => fo_1_3 hq i) (fun i => fo_1_3 hk i)
  have hF67 : ∀ j i : Nat, (j < k ∨ k + 5 < j) → τ67 j i = σ j i := fun j i h_0 => by rw [e67]; exact (hpwr_fr (by omega)).trans (hF59 j i h_0)
  have hg68 : τ67 k 5 = r1 := by rw [e67]; exact (hpwr_fr (by omega)).trans hg60
  have hg69 : τ67 k 6 = r4 := by rw [e67]; exact (hpwr_fr (by omega)).trans hg61
  have hg70 : τ67 k 7 = r8 := by rw [e67]; exact (hpwr_fr (by omega)).trans hg62
  have hg71 : τ67 k 8 = r13 := by rw [e67]; exact (hpwr_fr (by omega)).trans hg63
  have hg72 : τ67 k 9 = r19 := by rw [e67]; exact (hpwr_fr (by omega)).trans hg64
  have hg73 : τ67 k 10 = r26 := by rw [e67]; exact (hpwr_fr (by omega)).trans hg65
  have hg74 : τ67 k 11 = r34 := by rw [e67]; exact (hpwr_fr (by omega)).trans hg66
  refine h_aload_n C dX1_become_116 1 rfl rfl ?_
  refine h_get C O1 4 hq (by decide) wd_79 dX1_become_117 (fs_1_4 hq) ?_
  refine h_iconst C dX1_become_120 ?_
  refine h_aload_n C dX1_become_121 0 rfl rfl ?_
  refine h_get C O1 4 hk (by decide) wd_79 dX1_become_122 (fs_1_4 hk) ?_
  refine h_iconst C dX1_become_125 ?_
  refine h_bipush C dX1_become_126 (by decide) ?_
  refine h_copyI C wd_534 wd_536 wd_535 wd_16 dX1_become_128 (fa_1_4 hq) (fa_1_4 hk) 0 0 20 rfl rfl rfl (by rw [(fl_1_4 hq)]; omega) (by rw [(fl_1_4 hk)]; omega) (Nat.le_of_ble_eq_true rfl) (Nat.le_of_ble_eq_true rfl) ?_
  obtain ⟨τ75, e75⟩ : ∃ μ : hpMem, μ = hpwr τ67 (k + 5) (hpcp (τ67 (q + 5)) (τ67 (k + 5)) 0 0 20) := ⟨_, rfl⟩
  rw [← e75]
  have hI75 : hpInv τ75 := by rw [e75]; exact hI67.cp (fun i => fo_1_4 hq i) (fun i => fo_1_4 hk i)
  have hF75 : ∀ j i : Nat, (j < k ∨ k + 5 < j) → τ75 j i = σ j i := fun j i h_0 => by rw [e75]; exact (hpwr_fr (by omega)).trans (hF67 j i h_0)
  have hg76 : τ75 k 5 = r1 := by rw [e75]; exact (hpwr_fr (by omega)).trans hg68
  have hg77 : τ75 k 6 = r4 := by rw [e75]; exact (hpwr_fr (by omega)).trans hg69
  have hg78 : τ75 k 7 = r8 := by rw [e75]; exact (hpwr_fr (by omega)).trans hg70
  have hg79 : τ75 k 8 = r13 := by rw [e75]; exact (hpwr_fr (by omega)).trans hg71
  have hg80 : τ75 k 9 = r19 := by rw [e75]; exact (hpwr_fr (by omega)).trans hg72
  have hg81 : τ75 k 10 = r26 := by rw [e75]; exact (hpwr_fr (by omega)).trans hg73
  have hg82 : τ75 k 11 = r34 := by rw [e75]; exact (hpwr_fr (by omega)).trans hg74
  refine h_return C hr hlk dX1_become_131 ?_
  exact ⟨rfl, hI75, hF75⟩
abbrev rgX6_lay : Room := { frames := 0, cells := 0, slots := 0, locals := 0 }
abbrev pgX6_lay (z : Nat) (σ : hpMem) (k : Nat) (a0 : Int) (a1 : Int) : Option Value → hpMem → Prop := fun r τ => r = none ∧ hpInv τ ∧ (∀ j i : Nat, (j < k ∨ k + 1 < j) → τ j i = σ j i) ∧ (τ k 1 = 1 ∧ τ k 2 = a0 ∧ τ k 3 = a1)
set_option maxHeartbeats 4000000 in
set_option maxRecDepth 20000 in
theorem tgX6_lay (l : Launch) (D : va_G) (cy : Nat → ClassId) (z : Nat) (σ : hpMem) (k : Nat) (hk : hpkd k = 6) (a0 : Int) (ha0 : hpR a0) (a1 : Int) (ha1 : hpR a1) (hI : hpInv σ) (hn0 : 0 ≤ a1 ∧ a1 ≤ 60) : hpM l D cy z yX6_lay cX6_lay 4 none rgX6_lay [.ref (z + k), .int (hpI a0), .int (hpI a1)] σ (pgX6_lay z σ k a0 a1) := by
  obtain ⟨ha01, ha02⟩ := ha0
  obtain ⟨ha11, ha12⟩ := ha1
  refine hp_met rfl (Nat.le_of_ble_eq_true rfl) (fun p e s m below meth c C Z hr hlk => ?_)
  have hF0 : ∀ j i : Nat, (j < k ∨ k + 1 < j) → σ j i = σ j i := fun j i _ => rfl
  have hl_k := kb_6 hk
  refine h_aload_n C dX6_lay_0 0 rfl rfl ?_
  refine h_iconst C dX6_lay_1 ?_
  refine h_put C O6 1 hk (by decide) rfl wd_334 dX6_lay_2 (hp_nz (by omega)) rfl (hp_fvI (by rw [hk]; rfl) hpu_at) ?_
  obtain ⟨τ1, e1⟩ : ∃ μ : hpMem, μ = hpw σ k 1 1 := ⟨_, rfl⟩
  rw [← e1]
  have hI1 : hpInv τ1 := by rw [e1]; exact hI.w (bf_6_1 hk) (by omega) (by omega)
  have hF1 : ∀ j i : Nat, (j < k ∨ k + 1 < j) → τ1 j i = σ j i := fun j i h_0 => by rw [e1]; exact (hpw_fr (by omega)).trans (hF0 j i h_0)
  have hg2 : τ1 k 1 = 1 := by rw [e1]; exact hpw_eq
  refine h_aload_n C dX6_lay_5 0 rfl rfl ?_
  refine h_iload_n C dX6_lay_6 1 rfl rfl ?_
  refine h_put C O6 2 hk (by decide) rfl wd_336 dX6_lay_7 rfl rfl (hp_fvI (by rw [hk]; rfl) hpu_at) ?_
  obtain ⟨τ3, e3⟩ : ∃ μ : hpMem, μ = hpw τ1 k 2 a0 := ⟨_, rfl⟩
  rw [← e3]
  have hI3 : hpInv τ3 := by rw [e3]; exact hI1.w (bf_6_2 hk) (by omega) (by omega)
  have hF3 : ∀ j i : Nat, (j < k ∨ k + 1 < j) → τ3 j i = σ j i := fun j i h_0 => by rw [e3]; exact (hpw_fr (by omega)).trans (hF1 j i h_0)
  have hg4 : τ3 k 1 = 1 := by rw [e3]; exact (hpw_fr (Or.inr (by decide))).trans hg2
  have hg5 : τ3 k 2 = a0 := by rw [e3]; exact hpw_eq
  refine h_aload_n C dX6_lay_10 0 rfl rfl ?_
  refine h_iload_n C dX6_lay_11 2 rfl rfl ?_
  refine h_put C O6 3 hk (by decide) rfl wd_338 dX6_lay_12 rfl rfl (hp_fvI (by rw [hk]; rfl) hpu_at) ?_
  obtain ⟨τ6, e6⟩ : ∃ μ : hpMem, μ = hpw τ3 k 3 a1 := ⟨_, rfl⟩
  rw [← e6]
  have hI6 : hpInv τ6 := by rw [e6]; exact hI3.w (bf_6_3 hk) (by omega) (by omega)
  have hF6 : ∀ j i : Nat, (j < k ∨ k + 1 < j) → τ6 j i = σ j i := fun j i h_0 => by rw [e6]; exact (hpw_fr (by omega)).trans (hF3 j i h_0)
  have hg7 : τ6 k 1 = 1 := by rw [e6]; exact (hpw_fr (Or.inr (by decide))).trans hg4
  have hg8 : τ6 k 2 = a0 := by rw [e6]; exact (hpw_fr (Or.inr (by decide))).trans hg5
  have hg9 : τ6 k 3 = a1 := by rw [e6]; exact hpw_eq
  refine h_iconst C dX6_lay_15 ?_
  refine h_istore_n (lv' := [(3, .int (hpI 0)), (0, .ref (z + k)), (1, .int (hpI a0)), (2, .int (hpI a1))]) C dX6_lay_16 rfl (by decide) rfl ?_
  have L10 : ∀ (n10 : Nat) (τ10 : hpMem) (w10_3 : Int), 0 ≤ w10_3 → w10_3 ≤ 2147483647 → hpInv τ10 → (∀ j i : Nat, (j < k ∨ k + 1 < j) → τ10 j i = σ j i) → (τ10 k 1 = 1 ∧ τ10 k 2 = a0 ∧ τ10 k 3 = a1) → (4294967296 - w10_3) < (n10 : Int) → hpF p l e rgX6_lay s m [.ref (z + k), .int (hpI a0), .int (hpI a1)] below meth c 4 D cy z (pgX6_lay z σ k a0 a1) τ10 17 [(0, .ref (z + k)), (1, .int (hpI a0)), (2, .int (hpI a1)), (3, .int (hpI w10_3))] [] := by
    intro n10
    induction n10 with
    | zero => intro τ10 w10_3 hv10_0 hv10_1 hI10 hF10 hM10_0 hm10; exfalso; omega
    | succ n10 ih10 =>
      intro τ10 w10_3 hv10_0 hv10_1 hI10 hF10 hM10_0 hm10
      refine h_iload_n C dX6_lay_17 3 rfl rfl ?_
      refine h_iload_n C dX6_lay_18 2 rfl rfl ?_
      refine h_icmp_ge (tgt := 35) C dX6_lay_19 (by decide) ⟨by omega, by omega⟩ ⟨by omega, by omega⟩ (fun h11 => ?_) (fun h11 => ?_)
      · refine h_return C hr hlk dX6_lay_35 ?_
        exact ⟨rfl, hI10, hF10, hM10_0⟩
      · refine h_aload_n C dX6_lay_22 0 rfl rfl ?_
        refine h_get C O6 0 hk (by decide) wd_332 dX6_lay_23 (fs_6_0 hk) ?_
        refine h_iload_n C dX6_lay_26 3 rfl rfl ?_
        refine h_lconst C 0 dX6_lay_27 (by decide) ?_
        refine h_lastore C dX6_lay_28 (fa_6_0 hk) (w10_3).toNat (Int.toNat_of_nonneg (by omega)) (by rw [(fl_6_0 hk)]; omega) ?_
        obtain ⟨τ12, e12⟩ : ∃ μ : hpMem, μ = hpw τ10 (k + 1) ((w10_3).toNat) 0 := ⟨_, rfl⟩
        rw [← e12]
        have hI12 : hpInv τ12 := by rw [e12]; exact hI10.w (fo_6_0 hk _) (by omega) (by omega)
        have hF12 : ∀ j i : Nat, (j < k ∨ k + 1 < j) → τ12 j i = σ j i := fun j i h_0 => by rw [e12]; exact (hpw_fr (by omega)).trans (hF10 j i h_0)
        refine h_iinc (lv' := [(3, .int (hpI (w10_3 + 1))), (0, .ref (z + k)), (1, .int (hpI a0)), (2, .int (hpI a1))]) C dX6_lay_29 3 rfl rfl (by decide) rfl ?_
        refine h_goto (tgt := 17) C dX6_lay_32 (by decide) ?_
        exact hp_sub [1, 2, 3, 0] rfl (ih10 _ (w10_3 + 1) (by omega) (by omega) hI12 hF12 (by rw [e12, hpw_fr (Or.inl (by omega)), hpw_fr (Or.inl (by omega)), hpw_fr (Or.inl (by omega))]; exact hM10_0) (by omega))
  exact hp_sub [1, 2, 3, 0] rfl (L10 8589934592 _ 0 (by omega) (by omega) hI6 hF6 (by omega) (by omega))
abbrev rgX6_reaches : Room := { frames := 0, cells := 0, slots := 0, locals := 0 }
abbrev pgX6_reaches (z : Nat) (σ : hpMem) (k : Nat) (a0 : Int) (a1 : Int) : Option Value → hpMem → Prop := fun r τ => (∃ x : Int, r = some (.int (hpI x)) ∧ (0 ≤ x ∧ x ≤ 1) ∧ ((x = 1 ∧ 0 ≤ a0 ∧ 0 ≤ a1 ∧ a0 + a1 ≤ σ k 3 ∧ a0 + a1 ≤ 60) ∨ (x = 0 ∧ (a0 < 0 ∨ a1 < 0 ∨ σ k 3 < a0 + a1)))) ∧ σ = τ
set_option maxHeartbeats 4000000 in
set_option maxRecDepth 20000 in
theorem tgX6_reaches (l : Launch) (D : va_G) (cy : Nat → ClassId) (z : Nat) (σ : hpMem) (k : Nat) (hk : hpkd k = 6) (a0 : Int) (ha0 : hpR a0) (a1 : Int) (ha1 : hpR a1) (hI : hpInv σ) : hpM l D cy z yX6_reaches cX6_reaches 3 (some .boolean) rgX6_reaches [.ref (z + k), .int (hpI a0), .int (hpI a1)] σ (pgX6_reaches z σ k a0 a1) := by
  obtain ⟨ha01, ha02⟩ := ha0
  obtain ⟨ha11, ha12⟩ := ha1
  refine hp_met rfl (Nat.le_of_ble_eq_true rfl) (fun p e s m below meth c C Z hr hlk => ?_)
  have hl_k := kb_6 hk
  refine h_iload_n C dX6_reaches_0 1 rfl rfl ?_
  refine h_if_lt (tgt := 30) C dX6_reaches_1 (by decide) ⟨by omega, by omega⟩ (fun h1 => ?_) (fun h1 => ?_)
  · refine h_iconst C dX6_reaches_30 ?_
    refine h_zreturn C (by omega) hr hlk dX6_reaches_31 ?_
    exact ⟨⟨_, rfl, ⟨by decide, by decide⟩, by omega⟩, rfl⟩
  · refine h_iload_n C dX6_reaches_4 2 rfl rfl ?_
    refine h_if_lt (tgt := 30) C dX6_reaches_5 (by decide) ⟨by omega, by omega⟩ (fun h2 => ?_) (fun h2 => ?_)
    · refine h_iconst C dX6_reaches_30 ?_
      refine h_zreturn C (by omega) hr hlk dX6_reaches_31 ?_
      exact ⟨⟨_, rfl, ⟨by decide, by decide⟩, by omega⟩, rfl⟩
    · refine h_iload_n C dX6_reaches_8 2 rfl rfl ?_
      refine h_aload_n C dX6_reaches_9 0 rfl rfl ?_
      refine h_get C O6 3 hk (by decide) wd_338 dX6_reaches_10 (hp_fvI (by rw [hk]; rfl) rfl) ?_
      obtain ⟨hr3a, hr3b⟩ := hI.b (bf_6_3 hk)
      generalize hg3 : σ k 3 = r3 at hr3a hr3b ⊢
      refine h_icmp_gt (tgt := 30) C dX6_reaches_13 (by decide) ⟨by omega, by omega⟩ ⟨by omega, by omega⟩ (fun h4 => ?_) (fun h4 => ?_)
      · refine h_iconst C dX6_reaches_30 ?_
        refine h_zreturn C (by omega) hr hlk dX6_reaches_31 ?_
        exact ⟨⟨_, rfl, ⟨by decide, by decide⟩, by omega⟩, rfl⟩
      · refine h_iload_n C dX6_reaches_16 1 rfl rfl ?_
        refine h_aload_n C dX6_reaches_17 0 rfl rfl ?_
        refine h_get C O6 3 hk (by decide) wd_338 dX6_reaches_18 (hp_fvI (by rw [hk]; rfl) rfl) ?_
        rw [hg3]
        refine h_iload_n C dX6_reaches_21 2 rfl rfl ?_
        refine h_isub C dX6_reaches_22 rfl ?_
        refine h_icmp_gt (tgt := 30) C dX6_reaches_23 (by decide) ⟨by omega, by omega⟩ ⟨by omega, by omega⟩ (fun h5 => ?_) (fun h5 => ?_)
        · refine h_iconst C dX6_reaches_30 ?_
          refine h_zreturn C (by omega) hr hlk dX6_reaches_31 ?_
          exact ⟨⟨_, rfl, ⟨by decide, by decide⟩, by omega⟩, rfl⟩
        · refine h_iconst C dX6_reaches_26 ?_
          refine h_goto (tgt := 31) C dX6_reaches_27 (by decide) ?_
          refine h_zreturn C (by omega) hr hlk dX6_reaches_31 ?_
          exact ⟨⟨_, rfl, ⟨by decide, by decide⟩, by omega⟩, rfl⟩
abbrev rgX6_fillSmall : Room := { frames := 2, cells := 0, slots := 0, locals := 82 }
abbrev pgX6_fillSmall (z : Nat) (σ : hpMem) (k : Nat) : Option Value → hpMem → Prop := fun r τ => (∃ x : Int, r = some (.int (hpI x)) ∧ (0 ≤ x ∧ x ≤ 1)) ∧ hpInv τ ∧ (∀ j i : Nat, 169 ≤ j → τ j i = σ j i)
set_option maxHeartbeats 4000000 in
set_option maxRecDepth 20000 in
theorem tgX6_fillSmall (l : Launch) (D : va_G) (cy : Nat → ClassId) (z : Nat) (σ : hpMem) (k : Nat) (hk : hpkd k = 6) (hI : hpInv σ) : hpM l D cy z yX6_fillSmall cX6_fillSmall 3 (some .boolean) rgX6_fillSmall [.ref (z + k), .ref (z + 164)] σ (pgX6_fillSmall z σ k) := by
  refine hp_met rfl (Nat.le_of_ble_eq_true rfl) (fun p e s m below meth c C Z hr hlk => ?_)
  have hF0 : ∀ j i : Nat, 169 ≤ j → σ j i = σ j i := fun j i _ => rfl
  have hl_k := kb_6 hk
  refine h_aload_n C dX6_fillSmall_0 1 rfl rfl ?_
  refine h_callVN (As := []) (rest := []) C Z yyX3_clear nw_927 (tgX3_clear l D cy z _ 164 kd_164 hI) kd_164 rfl rfl ⟨rfl, rfl, Nat.le_of_ble_eq_true rfl, Nat.le_of_ble_eq_true rfl⟩ ⟨Nat.le_of_ble_eq_true rfl, Nat.le_of_ble_eq_true rfl⟩ (Nat.le_of_ble_eq_true rfl) dX6_fillSmall_1 (fun r1 τ1 hp1 => ?_)
  obtain ⟨rfl, hI1, hG1⟩ := hp1
  have hF1 : ∀ j i : Nat, 169 ≤ j → τ1 j i = σ j i := fun j i h_0 => (hG1 j i (by omega)).trans (hF0 j i h_0)
  show hpV _ _ _ _ _ _ _ _ _ _ _ _ _ _ _ _ _ _ _ _ _ []
  refine h_iconst C dX6_fillSmall_4 ?_
  refine h_istore_n (lv' := [(2, .int (hpI 0)), (0, .ref (z + k)), (1, .ref (z + 164))]) C dX6_fillSmall_5 rfl (by decide) rfl ?_
  have L2 : ∀ (n2 : Nat) (τ2 : hpMem) (w2_2 : Int), 0 ≤ w2_2 → w2_2 ≤ 2147483647 → hpInv τ2 → (∀ j i : Nat, 169 ≤ j → τ2 j i = σ j i) → (4294967296 - w2_2) < (n2 : Int) → hpF p l e rgX6_fillSmall s m [.ref (z + k), .ref (z + 164)] below meth c 3 D cy z (pgX6_fillSmall z σ k) τ2 6 [(0, .ref (z + k)), (1, .ref (z + 164)), (2, .int (hpI w2_2))] [] := by
    intro n2
    induction n2 with
    | zero => intro τ2 w2_2 hv2_0 hv2_1 hI2 hF2 hm2; exfalso; omega
    | succ n2 ih2 =>
      intro τ2 w2_2 hv2_0 hv2_1 hI2 hF2 hm2
      refine h_iload_n C dX6_fillSmall_6 2 rfl rfl ?_
      refine h_aload_n C dX6_fillSmall_7 0 rfl rfl ?_
      refine h_get C O6 3 hk (by decide) wd_338 dX6_fillSmall_8 (hp_fvI (by rw [hk]; rfl) rfl) ?_
      obtain ⟨hr3a, hr3b⟩ := hI2.b (bf_6_3 hk)
      generalize hg3 : τ2 k 3 = r3 at hr3a hr3b ⊢
      refine h_icmp_ge (tgt := 62) C dX6_fillSmall_11 (by decide) ⟨by omega, by omega⟩ ⟨by omega, by omega⟩ (fun h4 => ?_) (fun h4 => ?_)
      · refine h_aload_n C dX6_fillSmall_62 1 rfl rfl ?_
        refine h_getN C O3 3 kd_164 (by decide) nw_163 dX6_fillSmall_63 (hp_fvI (by rw [kd_164]; rfl) rfl) ?_
        obtain ⟨hr5a, hr5b⟩ := hI2.b (bf_3_3 kd_164)
        generalize hg5 : τ2 164 3 = r5 at hr5a hr5b ⊢
        refine h_if_le (tgt := 73) C dX6_fillSmall_66 (by decide) ⟨by omega, by omega⟩ (fun h6 => ?_) (fun h6 => ?_)
        · refine h_iconst C dX6_fillSmall_73 ?_
          refine h_zreturn C (by omega) hr hlk dX6_fillSmall_74 ?_
          exact ⟨⟨_, rfl, ⟨by decide, by decide⟩⟩, hI2, hF2⟩
        · refine h_iconst C dX6_fillSmall_69 ?_
          refine h_goto (tgt := 74) C dX6_fillSmall_70 (by decide) ?_
          refine h_zreturn C (by omega) hr hlk dX6_fillSmall_74 ?_
          exact ⟨⟨_, rfl, ⟨by decide, by decide⟩⟩, hI2, hF2⟩
      · refine h_aload_n C dX6_fillSmall_14 0 rfl rfl ?_
        refine h_get C O6 0 hk (by decide) wd_332 dX6_fillSmall_15 (fs_6_0 hk) ?_
        refine h_iload_n C dX6_fillSmall_18 2 rfl rfl ?_
        refine h_laload C dX6_fillSmall_19 (fa_6_0 hk) (w2_2).toNat (Int.toNat_of_nonneg (by omega)) (by rw [(fl_6_0 hk)]; omega) rfl ?_
        obtain ⟨hr7a, hr7b⟩ := hI2.b (fo_6_0 hk _)
        generalize hg7 : τ2 (k + 1) ((w2_2).toNat) = r7 at hr7a hr7b ⊢
        refine h_lconst C 1 dX6_fillSmall_20 (by decide) ?_
        refine h_lcmp C dX6_fillSmall_21 ⟨by omega, by omega⟩ ⟨by decide, by decide⟩ (fun r8 hr8 => ?_)
        refine h_if_lt (tgt := 43) C dX6_fillSmall_22 (by decide) ⟨by omega, by omega⟩ (fun h9 => ?_) (fun h9 => ?_)
        · refine h_iconst C dX6_fillSmall_43 ?_
          refine h_zreturn C (by omega) hr hlk dX6_fillSmall_44 ?_
          exact ⟨⟨_, rfl, ⟨by decide, by decide⟩⟩, hI2, hF2⟩
        · refine h_aload_n C dX6_fillSmall_25 0 rfl rfl ?_
          refine h_get C O6 0 hk (by decide) wd_332 dX6_fillSmall_26 (fs_6_0 hk) ?_
          refine h_iload_n C dX6_fillSmall_29 2 rfl rfl ?_
          refine h_laload C dX6_fillSmall_30 (fa_6_0 hk) (w2_2).toNat (Int.toNat_of_nonneg (by omega)) (by rw [(fl_6_0 hk)]; omega) rfl ?_
          rw [hg7]
          refine h_bipush C dX6_fillSmall_31 (by decide) ?_
          refine h_aload_n C dX6_fillSmall_33 1 rfl rfl ?_
          refine h_getN C O3 4 kd_164 (by decide) nw_166 dX6_fillSmall_34 (hp_fvI (by rw [kd_164]; rfl) rfl) ?_
          obtain ⟨hr10a, hr10b⟩ := hI2.b (bf_3_4 kd_164)
          generalize hg10 : τ2 164 4 = r10 at hr10a hr10b ⊢
          refine h_isub C dX6_fillSmall_37 rfl ?_
          refine hp_anyI (fun r11 hr11 => ?_)
          obtain ⟨hr11a, hr11b⟩ := hr11
          refine h_i2l C dX6_fillSmall_38 ⟨by omega, by omega⟩ ?_
          refine h_lcmp C dX6_fillSmall_39 ⟨by omega, by omega⟩ ⟨by omega, by omega⟩ (fun r12 hr12 => ?_)
          refine h_if_le (tgt := 45) C dX6_fillSmall_40 (by decide) ⟨by omega, by omega⟩ (fun h13 => ?_) (fun h13 => ?_)
          · refine h_aload_n C dX6_fillSmall_45 1 rfl rfl ?_
            refine h_aload_n C dX6_fillSmall_46 0 rfl rfl ?_
            refine h_get C O6 0 hk (by decide) wd_332 dX6_fillSmall_47 (fs_6_0 hk) ?_
            refine h_iload_n C dX6_fillSmall_50 2 rfl rfl ?_
            refine h_laload C dX6_fillSmall_51 (fa_6_0 hk) (w2_2).toNat (Int.toNat_of_nonneg (by omega)) (by rw [(fl_6_0 hk)]; omega) rfl ?_
            rw [hg7]
            refine h_l2i C dX6_fillSmall_52 ?_
            refine hp_anyI (fun r14 hr14 => ?_)
            obtain ⟨hr14a, hr14b⟩ := hr14
            refine h_callVN (As := [.int (hpI r14)]) (rest := []) C Z yyX3_lay nw_928 (tgX3_lay l D cy z _ 164 kd_164 r14 ⟨by omega, by omega⟩ hI2) kd_164 rfl rfl ⟨rfl, rfl, Nat.le_of_ble_eq_true rfl, Nat.le_of_ble_eq_true rfl⟩ ⟨Nat.le_of_ble_eq_true rfl, Nat.le_of_ble_eq_true rfl⟩ (Nat.le_of_ble_eq_true rfl) dX6_fillSmall_53 (fun r15 τ15 hp15 => ?_)
            obtain ⟨rfl, hI15, hG15⟩ := hp15
            have hF15 : ∀ j i : Nat, 169 ≤ j → τ15 j i = σ j i := fun j i h_0 => (hG15 j i (by omega)).trans (hF2 j i h_0)
            show hpV _ _ _ _ _ _ _ _ _ _ _ _ _ _ _ _ _ _ _ _ _ []
            refine h_iinc (lv' := [(2, .int (hpI (w2_2 + 1))), (0, .ref (z + k)), (1, .ref (z + 164))]) C dX6_fillSmall_56 2 rfl rfl (by decide) rfl ?_
            refine h_goto (tgt := 6) C dX6_fillSmall_59 (by decide) ?_
            exact hp_sub [1, 2, 0] rfl (ih2 _ (w2_2 + 1) (by omega) (by omega) hI15 hF15 (by omega))
          · refine h_iconst C dX6_fillSmall_43 ?_
            refine h_zreturn C (by omega) hr hlk dX6_fillSmall_44 ?_
            exact ⟨⟨_, rfl, ⟨by decide, by decide⟩⟩, hI2, hF2⟩
  exact hp_sub [1, 2, 0] rfl (L2 8589934592 _ 0 (by omega) (by omega) hI1 hF1 (by omega))
abbrev rgX6_isOfThrees : Room := { frames := 0, cells := 0, slots := 0, locals := 0 }
abbrev pgX6_isOfThrees (z : Nat) (σ : hpMem) (k : Nat) (a0 : Int) : Option Value → hpMem → Prop := fun r τ => (∃ x : Int, r = some (.int (hpI x)) ∧ (0 ≤ x ∧ x ≤ 1)) ∧ σ = τ
set_option maxHeartbeats 4000000 in
set_option maxRecDepth 20000 in
theorem tgX6_isOfThrees (l : Launch) (D : va_G) (cy : Nat → ClassId) (z : Nat) (σ : hpMem) (k : Nat) (hk : hpkd k = 6) (a0 : Int) (ha0 : hpR a0) (hI : hpInv σ) : hpM l D cy z yX6_isOfThrees cX6_isOfThrees 4 (some .boolean) rgX6_isOfThrees [.ref (z + k), .int (hpI a0)] σ (pgX6_isOfThrees z σ k a0) := by
  obtain ⟨ha01, ha02⟩ := ha0
  refine hp_met rfl (Nat.le_of_ble_eq_true rfl) (fun p e s m below meth c C Z hr hlk => ?_)
  have hl_k := kb_6 hk
  refine h_aload_n C dX6_isOfThrees_0 0 rfl rfl ?_
  refine h_get C O6 3 hk (by decide) wd_338 dX6_isOfThrees_1 (hp_fvI (by rw [hk]; rfl) rfl) ?_
  obtain ⟨hr1a, hr1b⟩ := hI.b (bf_6_3 hk)
  generalize hg1 : σ k 3 = r1 at hr1a hr1b ⊢
  refine h_iconst C dX6_isOfThrees_4 ?_
  refine h_irem C dX6_isOfThrees_5 (by omega) (by omega) (by omega) (by omega) ?_
  refine h_if_eq (tgt := 11) C dX6_isOfThrees_6 (by decide) ⟨by omega, by omega⟩ (fun h2 => ?_) (fun h2 => ?_)
  · refine h_iconst C dX6_isOfThrees_11 ?_
    refine h_istore_n (lv' := [(2, .int (hpI 0)), (0, .ref (z + k)), (1, .int (hpI a0))]) C dX6_isOfThrees_12 rfl (by decide) rfl ?_
    have L3 : ∀ (n3 : Nat) (w3_2 : Int), 0 ≤ w3_2 → w3_2 ≤ 2147483647 → (4294967296 - w3_2) < (n3 : Int) → hpF p l e rgX6_isOfThrees s m [.ref (z + k), .int (hpI a0)] below meth c 4 D cy z (pgX6_isOfThrees z σ k a0) σ 13 [(0, .ref (z + k)), (1, .int (hpI a0)), (2, .int (hpI w3_2))] [] := by
      intro n3
      induction n3 with
      | zero => intro w3_2 hv3_0 hv3_1 hm3; exfalso; omega
      | succ n3 ih3 =>
        intro w3_2 hv3_0 hv3_1 hm3
        refine h_iload_n C dX6_isOfThrees_13 2 rfl rfl ?_
        refine h_aload_n C dX6_isOfThrees_14 0 rfl rfl ?_
        refine h_get C O6 3 hk (by decide) wd_338 dX6_isOfThrees_15 (hp_fvI (by rw [hk]; rfl) rfl) ?_
        rw [hg1]
        refine h_icmp_ge (tgt := 66) C dX6_isOfThrees_18 (by decide) ⟨by omega, by omega⟩ ⟨by omega, by omega⟩ (fun h4 => ?_) (fun h4 => ?_)
        · refine h_iconst C dX6_isOfThrees_66 ?_
          refine h_zreturn C (by omega) hr hlk dX6_isOfThrees_67 ?_
          exact ⟨⟨_, rfl, ⟨by decide, by decide⟩⟩, rfl⟩
        · refine h_iload_n C dX6_isOfThrees_21 2 rfl rfl ?_
          refine h_iconst C dX6_isOfThrees_22 ?_
          refine h_irem C dX6_isOfThrees_23 (by omega) (by omega) (by omega) (by omega) ?_
          refine h_if_ne (tgt := 31) C dX6_isOfThrees_24 (by decide) ⟨by omega, by omega⟩ (fun h5 => ?_) (fun h5 => ?_)
          · refine h_sipush C dX6_isOfThrees_31 (by decide) ?_
            refine h_istore_n (lv' := [(3, .int (hpI 700)), (0, .ref (z + k)), (1, .int (hpI a0)), (2, .int (hpI w3_2))]) C dX6_isOfThrees_34 rfl (by decide) rfl ?_
            refine h_aload_n C dX6_isOfThrees_35 1 rfl rfl ?_
            refine h_get C O6 0 hk (by decide) wd_332 dX6_isOfThrees_36 (fs_6_0 hk) ?_
            refine h_iload_n C dX6_isOfThrees_39 3 rfl rfl ?_
            refine h_laload C dX6_isOfThrees_40 (fa_6_0 hk) (w3_2).toNat (Int.toNat_of_nonneg (by omega)) (by rw [(fl_6_0 hk)]; omega) rfl ?_
            obtain ⟨hr6a, hr6b⟩ := hI.b (fo_6_0 hk _)
            generalize hg6 : σ (k + 1) ((w3_2).toNat) = r6 at hr6a hr6b ⊢
            refine h_lconst C 0 dX6_isOfThrees_41 (by decide) ?_
            refine h_lcmp C dX6_isOfThrees_42 ⟨by omega, by omega⟩ ⟨by decide, by decide⟩ (fun r7 hr7 => ?_)
            refine h_if_lt (tgt := 58) C dX6_isOfThrees_43 (by decide) ⟨by omega, by omega⟩ (fun h8 => ?_) (fun h8 => ?_)
            · refine h_iconst C dX6_isOfThrees_58 ?_
              refine h_zreturn C (by omega) hr hlk dX6_isOfThrees_59 ?_
              exact ⟨⟨_, rfl, ⟨by decide, by decide⟩⟩, rfl⟩
            · refine h_aload_n C dX6_isOfThrees_46 1 rfl rfl ?_
              refine h_get C O6 0 hk (by decide) wd_332 dX6_isOfThrees_47 (fs_6_0 hk) ?_
              refine h_iload_n C dX6_isOfThrees_50 3 rfl rfl ?_
              refine h_laload C dX6_isOfThrees_51 (fa_6_0 hk) (w3_2).toNat (Int.toNat_of_nonneg (by omega)) (by rw [(fl_6_0 hk)]; omega) rfl ?_
              rw [hg6]
              refine h_iload_n C dX6_isOfThrees_52 0 rfl rfl ?_
              refine h_i2l C dX6_isOfThrees_53 ⟨by decide, by decide⟩ ?_
              refine h_lcmp C dX6_isOfThrees_54 ⟨by omega, by omega⟩ ⟨by decide, by decide⟩ (fun r9 hr9 => ?_)
              refine h_if_le (tgt := 60) C dX6_isOfThrees_55 (by decide) ⟨by omega, by omega⟩ (fun h10 => ?_) (fun h10 => ?_)
              · refine h_iinc (lv' := [(2, .int (hpI (w3_2 + 1))), (3, .int (hpI 700)), (0, .ref (z + k)), (1, .int (hpI a0))]) C dX6_isOfThrees_60 3 rfl rfl (by decide) rfl ?_
                refine h_goto (tgt := 13) C dX6_isOfThrees_63 (by decide) ?_
                exact hp_sub [2, 3, 0] rfl (ih3 (w3_2 + 1) (by omega) (by omega) (by omega))
              · refine h_iconst C dX6_isOfThrees_58 ?_
                refine h_zreturn C (by omega) hr hlk dX6_isOfThrees_59 ?_
                exact ⟨⟨_, rfl, ⟨by decide, by decide⟩⟩, rfl⟩
          · refine h_iload_n C dX6_isOfThrees_27 1 rfl rfl ?_
            refine h_goto (tgt := 34) C dX6_isOfThrees_28 (by decide) ?_
            refine h_istore_n (lv' := [(3, .int (hpI a0)), (0, .ref (z + k)), (1, .int (hpI a0)), (2, .int (hpI w3_2))]) C dX6_isOfThrees_34 rfl (by decide) rfl ?_
            refine h_aload_n C dX6_isOfThrees_35 1 rfl rfl ?_
            refine h_get C O6 0 hk (by decide) wd_332 dX6_isOfThrees_36 (fs_6_0 hk) ?_
            refine h_iload_n C dX6_isOfThrees_39 3 rfl rfl ?_
            refine h_laload C dX6_isOfThrees_40 (fa_6_0 hk) (w3_2).toNat (Int.toNat_of_nonneg (by omega)) (by rw [(fl_6_0 hk)]; omega) rfl ?_
            obtain ⟨hr11a, hr11b⟩ := hI.b (fo_6_0 hk _)
            generalize hg11 : σ (k + 1) ((w3_2).toNat) = r11 at hr11a hr11b ⊢
            refine h_lconst C 0 dX6_isOfThrees_41 (by decide) ?_
            refine h_lcmp C dX6_isOfThrees_42 ⟨by omega, by omega⟩ ⟨by decide, by decide⟩ (fun r12 hr12 => ?_)
            refine h_if_lt (tgt := 58) C dX6_isOfThrees_43 (by decide) ⟨by omega, by omega⟩ (fun h13 => ?_) (fun h13 => ?_)
            · refine h_iconst C dX6_isOfThrees_58 ?_
              refine h_zreturn C (by omega) hr hlk dX6_isOfThrees_59 ?_
              exact ⟨⟨_, rfl, ⟨by decide, by decide⟩⟩, rfl⟩
            · refine h_aload_n C dX6_isOfThrees_46 1 rfl rfl ?_
              refine h_get C O6 0 hk (by decide) wd_332 dX6_isOfThrees_47 (fs_6_0 hk) ?_
              refine h_iload_n C dX6_isOfThrees_50 3 rfl rfl ?_
              refine h_laload C dX6_isOfThrees_51 (fa_6_0 hk) (w3_2).toNat (Int.toNat_of_nonneg (by omega)) (by rw [(fl_6_0 hk)]; omega) rfl ?_
              rw [hg11]
              refine h_iload_n C dX6_isOfThrees_52 0 rfl rfl ?_
              refine h_i2l C dX6_isOfThrees_53 ⟨by omega, by omega⟩ ?_
              refine h_lcmp C dX6_isOfThrees_54 ⟨by omega, by omega⟩ ⟨by omega, by omega⟩ (fun r14 hr14 => ?_)
              refine h_if_le (tgt := 60) C dX6_isOfThrees_55 (by decide) ⟨by omega, by omega⟩ (fun h15 => ?_) (fun h15 => ?_)
              · refine h_iinc (lv' := [(2, .int (hpI (w3_2 + 1))), (3, .int (hpI a0)), (0, .ref (z + k)), (1, .int (hpI a0))]) C dX6_isOfThrees_60 3 rfl rfl (by decide) rfl ?_
                refine h_goto (tgt := 13) C dX6_isOfThrees_63 (by decide) ?_
                exact hp_sub [2, 3, 0] rfl (ih3 (w3_2 + 1) (by omega) (by omega) (by omega))
              · refine h_iconst C dX6_isOfThrees_58 ?_
                refine h_zreturn C (by omega) hr hlk dX6_isOfThrees_59 ?_
                exact ⟨⟨_, rfl, ⟨by decide, by decide⟩⟩, rfl⟩
    exact hp_sub [1, 2, 0] rfl (L3 8589934592 0 (by omega) (by omega) (by omega))
  · refine h_iconst C dX6_isOfThrees_9 ?_
    refine h_zreturn C (by omega) hr hlk dX6_isOfThrees_10 ?_
    exact ⟨⟨_, rfl, ⟨by decide, by decide⟩⟩, rfl⟩
abbrev rgX6_tellsOf : Room := { frames := 1, cells := 0, slots := 0, locals := 21 }
abbrev pgX6_tellsOf (z : Nat) (σ : hpMem) (k : Nat) : Option Value → hpMem → Prop := fun r τ => (∃ x : Int, r = some (.int (hpI x)) ∧ (0 ≤ x ∧ x ≤ 1)) ∧ σ = τ
set_option maxHeartbeats 4000000 in
set_option maxRecDepth 20000 in
theorem tgX6_tellsOf (l : Launch) (D : va_G) (cy : Nat → ClassId) (z : Nat) (σ : hpMem) (k : Nat) (hk : hpkd k = 6) (hI : hpInv σ) : hpM l D cy z yX6_tellsOf cX6_tellsOf 4 (some .boolean) rgX6_tellsOf [.ref (z + k), .ref (z + 70)] σ (pgX6_tellsOf z σ k) := by
  refine hp_met rfl (Nat.le_of_ble_eq_true rfl) (fun p e s m below meth c C Z hr hlk => ?_)
  have hl_k := kb_6 hk
  refine h_iconst C dX6_tellsOf_0 ?_
  refine h_istore_n (lv' := [(2, .int (hpI 0)), (0, .ref (z + k)), (1, .ref (z + 70))]) C dX6_tellsOf_1 rfl (by decide) rfl ?_
  have L1 : ∀ (n1 : Nat) (w1_2 : Int), 0 ≤ w1_2 → w1_2 ≤ 60 → (4294967296 - w1_2) < (n1 : Int) → hpF p l e rgX6_tellsOf s m [.ref (z + k), .ref (z + 70)] below meth c 4 D cy z (pgX6_tellsOf z σ k) σ 2 [(0, .ref (z + k)), (1, .ref (z + 70)), (2, .int (hpI w1_2))] [] := by
    intro n1
    induction n1 with
    | zero => intro w1_2 hv1_0 hv1_1 hm1; exfalso; omega
    | succ n1 ih1 =>
      intro w1_2 hv1_0 hv1_1 hm1
      refine h_iload_n C dX6_tellsOf_2 2 rfl rfl ?_
      refine h_iconst C dX6_tellsOf_3 ?_
      refine h_iadd C dX6_tellsOf_4 rfl ?_
      refine h_aload_n C dX6_tellsOf_5 0 rfl rfl ?_
      refine h_get C O6 3 hk (by decide) wd_338 dX6_tellsOf_6 (hp_fvI (by rw [hk]; rfl) rfl) ?_
      obtain ⟨hr2a, hr2b⟩ := hI.b (bf_6_3 hk)
      generalize hg2 : σ k 3 = r2 at hr2a hr2b ⊢
      refine h_icmp_ge (tgt := 66) C dX6_tellsOf_9 (by decide) ⟨by omega, by omega⟩ ⟨by omega, by omega⟩ (fun h3 => ?_) (fun h3 => ?_)
      · refine h_iconst C dX6_tellsOf_66 ?_
        refine h_zreturn C (by omega) hr hlk dX6_tellsOf_67 ?_
        exact ⟨⟨_, rfl, ⟨by decide, by decide⟩⟩, rfl⟩
      · refine h_aload_n C dX6_tellsOf_12 1 rfl rfl ?_
        refine h_aload_n C dX6_tellsOf_13 0 rfl rfl ?_
        refine h_get C O6 0 hk (by decide) wd_332 dX6_tellsOf_14 (fs_6_0 hk) ?_
        refine h_iload_n C dX6_tellsOf_17 2 rfl rfl ?_
        refine h_laload C dX6_tellsOf_18 (fa_6_0 hk) (w1_2).toNat (Int.toNat_of_nonneg (by omega)) (by rw [(fl_6_0 hk)]; omega) rfl ?_
        obtain ⟨hr4a, hr4b⟩ := hI.b (fo_6_0 hk _)
        generalize hg4 : σ (k + 1) ((w1_2).toNat) = r4 at hr4a hr4b ⊢
        refine h_l2i C dX6_tellsOf_19 ?_
        refine hp_anyI (fun r5 hr5 => ?_)
        obtain ⟨hr5a, hr5b⟩ := hr5
        refine h_callVN (As := [.int (hpI r5)]) (rest := []) C Z yyX4_at nw_997 (tgX4_at l D cy z _ 70 kd_70 r5 ⟨by omega, by omega⟩ hI) kd_70 rfl rfl ⟨rfl, rfl, Nat.le_of_ble_eq_true rfl, Nat.le_of_ble_eq_true rfl⟩ ⟨Nat.le_of_ble_eq_true rfl, Nat.le_of_ble_eq_true rfl⟩ (Nat.le_of_ble_eq_true rfl) dX6_tellsOf_20 (fun r6 τ6 hp6 => ?_)
        obtain ⟨⟨x6, rfl, hx6⟩, rfl⟩ := hp6
        have hl6 := kb_3 hx6
        show hpV _ _ _ _ _ _ _ _ _ _ _ _ _ _ _ _ _ _ _ _ _ (_ :: _)
        refine h_astore_n (lv' := [(3, .ref (z + x6)), (0, .ref (z + k)), (1, .ref (z + 70)), (2, .int (hpI w1_2))]) C dX6_tellsOf_23 rfl (by decide) rfl ?_
        refine h_aload_n C dX6_tellsOf_24 0 rfl rfl ?_
        refine h_getN C O3 3 hx6 (by decide) nw_163 dX6_tellsOf_25 (hp_fvI (by rw [hx6]; rfl) rfl) ?_
        obtain ⟨hr7a, hr7b⟩ := hI.b (bf_3_3 hx6)
        generalize hg7 : σ x6 3 = r7 at hr7a hr7b ⊢
        refine h_i2l C dX6_tellsOf_28 ⟨by omega, by omega⟩ ?_
        refine h_aload_n C dX6_tellsOf_29 1 rfl rfl ?_
        refine h_get C O6 0 hk (by decide) wd_332 dX6_tellsOf_30 (fs_6_0 hk) ?_
        refine h_iload_n C dX6_tellsOf_33 3 rfl rfl ?_
        refine h_iconst C dX6_tellsOf_34 ?_
        refine h_iadd C dX6_tellsOf_35 rfl ?_
        refine h_laload C dX6_tellsOf_36 (fa_6_0 hk) (w1_2 + 1).toNat (Int.toNat_of_nonneg (by omega)) (by rw [(fl_6_0 hk)]; omega) rfl ?_
        obtain ⟨hr8a, hr8b⟩ := hI.b (fo_6_0 hk _)
        generalize hg8 : σ (k + 1) ((w1_2 + 1).toNat) = r8 at hr8a hr8b ⊢
        refine h_lcmp C dX6_tellsOf_37 ⟨by omega, by omega⟩ ⟨by omega, by omega⟩ (fun r9 hr9 => ?_)
        refine h_if_ne (tgt := 58) C dX6_tellsOf_38 (by decide) ⟨by omega, by omega⟩ (fun h10 => ?_) (fun h10 => ?_)
        · refine h_iconst C dX6_tellsOf_58 ?_
          refine h_zreturn C (by omega) hr hlk dX6_tellsOf_59 ?_
          exact ⟨⟨_, rfl, ⟨by decide, by decide⟩⟩, rfl⟩
        · refine h_aload_n C dX6_tellsOf_41 0 rfl rfl ?_
          refine h_callVN (As := []) (rest := []) C Z yyX3_highest nw_998 (tgX3_highest l D cy z _ x6 hx6 hI) hx6 rfl rfl ⟨rfl, rfl, Nat.le_of_ble_eq_true rfl, Nat.le_of_ble_eq_true rfl⟩ ⟨Nat.le_of_ble_eq_true rfl, Nat.le_of_ble_eq_true rfl⟩ (Nat.le_of_ble_eq_true rfl) dX6_tellsOf_42 (fun r11 τ11 hp11 => ?_)
          obtain ⟨⟨x11, rfl, ⟨hx11a, hx11b⟩⟩, rfl⟩ := hp11
          show hpV _ _ _ _ _ _ _ _ _ _ _ _ _ _ _ _ _ _ _ _ _ (_ :: _)
          refine h_i2l C dX6_tellsOf_45 ⟨by omega, by omega⟩ ?_
          refine h_aload_n C dX6_tellsOf_46 1 rfl rfl ?_
          refine h_get C O6 0 hk (by decide) wd_332 dX6_tellsOf_47 (fs_6_0 hk) ?_
          refine h_iload_n C dX6_tellsOf_50 3 rfl rfl ?_
          refine h_iconst C dX6_tellsOf_51 ?_
          refine h_iadd C dX6_tellsOf_52 rfl ?_
          refine h_laload C dX6_tellsOf_53 (fa_6_0 hk) (w1_2 + 2).toNat (Int.toNat_of_nonneg (by omega)) (by rw [(fl_6_0 hk)]; omega) rfl ?_
          obtain ⟨hr12a, hr12b⟩ := hI.b (fo_6_0 hk _)
          generalize hg12 : σ (k + 1) ((w1_2 + 2).toNat) = r12 at hr12a hr12b ⊢
          refine h_lcmp C dX6_tellsOf_54 ⟨by omega, by omega⟩ ⟨by omega, by omega⟩ (fun r13 hr13 => ?_)
          refine h_if_eq (tgt := 60) C dX6_tellsOf_55 (by decide) ⟨by omega, by omega⟩ (fun h14 => ?_) (fun h14 => ?_)
          · refine h_iinc (lv' := [(2, .int (hpI (w1_2 + 3))), (3, .ref (z + x6)), (0, .ref (z + k)), (1, .ref (z + 70))]) C dX6_tellsOf_60 3 rfl rfl (by decide) rfl ?_
            refine h_goto (tgt := 2) C dX6_tellsOf_63 (by decide) ?_
            exact hp_sub [2, 3, 0] rfl (ih1 (w1_2 + 3) (by omega) (by omega) (by omega))
          · refine h_iconst C dX6_tellsOf_58 ?_
            refine h_zreturn C (by omega) hr hlk dX6_tellsOf_59 ?_
            exact ⟨⟨_, rfl, ⟨by decide, by decide⟩⟩, rfl⟩
  exact hp_sub [1, 2, 0] rfl (L1 8589934592 0 (by omega) (by omega) (by omega))
abbrev rgX7_isBlank : Room := { frames := 0, cells := 0, slots := 0, locals := 0 }
abbrev pgX7_isBlank (z : Nat) (σ : hpMem) (a0 : Int) : Option Value → hpMem → Prop := fun r τ => (∃ x : Int, r = some (.int (hpI x)) ∧ (0 ≤ x ∧ x ≤ 1)) ∧ σ = τ
set_option maxHeartbeats 4000000 in
set_option maxRecDepth 20000 in
theorem tgX7_isBlank (l : Launch) (D : va_G) (cy : Nat → ClassId) (z : Nat) (σ : hpMem) (a0 : Int) (ha0 : -128 ≤ a0 ∧ a0 ≤ 127) (hI : hpInv σ) : hpM l D cy z yX7_isBlank cX7_isBlank 1 (some .boolean) rgX7_isBlank [.int (hpI a0)] σ (pgX7_isBlank z σ a0) := by
  obtain ⟨ha01, ha02⟩ := ha0
  refine hp_met rfl (Nat.le_of_ble_eq_true rfl) (fun p e s m below meth c C Z hr hlk => ?_)
  refine h_iload_n C dX7_isBlank_0 0 rfl rfl ?_
  refine h_bipush C dX7_isBlank_1 (by decide) ?_
  refine h_icmp_eq (tgt := 12) C dX7_isBlank_3 (by decide) ⟨by omega, by omega⟩ ⟨by decide, by decide⟩ (fun h1 => ?_) (fun h1 => ?_)
  · refine h_iconst C dX7_isBlank_12 ?_
    refine h_goto (tgt := 17) C dX7_isBlank_13 (by decide) ?_
    refine h_zreturn C (by omega) hr hlk dX7_isBlank_17 ?_
    exact ⟨⟨_, rfl, ⟨by decide, by decide⟩⟩, rfl⟩
  · refine h_iload_n C dX7_isBlank_6 0 rfl rfl ?_
    refine h_bipush C dX7_isBlank_7 (by decide) ?_
    refine h_icmp_ne (tgt := 16) C dX7_isBlank_9 (by decide) ⟨by omega, by omega⟩ ⟨by decide, by decide⟩ (fun h2 => ?_) (fun h2 => ?_)
    · refine h_iconst C dX7_isBlank_16 ?_
      refine h_zreturn C (by omega) hr hlk dX7_isBlank_17 ?_
      exact ⟨⟨_, rfl, ⟨by decide, by decide⟩⟩, rfl⟩
    · refine h_iconst C dX7_isBlank_12 ?_
      refine h_goto (tgt := 17) C dX7_isBlank_13 (by decide) ?_
      refine h_zreturn C (by omega) hr hlk dX7_isBlank_17 ?_
      exact ⟨⟨_, rfl, ⟨by decide, by decide⟩⟩, rfl⟩
abbrev rgX7_isLetter : Room := { frames := 0, cells := 0, slots := 0, locals := 0 }
abbrev pgX7_isLetter (z : Nat) (σ : hpMem) (a0 : Int) : Option Value → hpMem → Prop := fun r τ => (∃ x : Int, r = some (.int (hpI x)) ∧ (0 ≤ x ∧ x ≤ 1)) ∧ σ = τ
set_option maxHeartbeats 4000000 in
set_option maxRecDepth 20000 in
theorem tgX7_isLetter (l : Launch) (D : va_G) (cy : Nat → ClassId) (z : Nat) (σ : hpMem) (a0 : Int) (ha0 : -128 ≤ a0 ∧ a0 ≤ 127) (hI : hpInv σ) : hpM l D cy z yX7_isLetter cX7_isLetter 1 (some .boolean) rgX7_isLetter [.int (hpI a0)] σ (pgX7_isLetter z σ a0) := by
  obtain ⟨ha01, ha02⟩ := ha0
  refine hp_met rfl (Nat.le_of_ble_eq_true rfl) (fun p e s m below meth c C Z hr hlk => ?_)
  refine h_iload_n C dX7_isLetter_0 0 rfl rfl ?_
  refine h_bipush C dX7_isLetter_1 (by decide) ?_
  refine h_icmp_lt (tgt := 16) C dX7_isLetter_3 (by decide) ⟨by omega, by omega⟩ ⟨by decide, by decide⟩ (fun h1 => ?_) (fun h1 => ?_)
  · refine h_iconst C dX7_isLetter_16 ?_
    refine h_zreturn C (by omega) hr hlk dX7_isLetter_17 ?_
    exact ⟨⟨_, rfl, ⟨by decide, by decide⟩⟩, rfl⟩
  · refine h_iload_n C dX7_isLetter_6 0 rfl rfl ?_
    refine h_bipush C dX7_isLetter_7 (by decide) ?_
    refine h_icmp_gt (tgt := 16) C dX7_isLetter_9 (by decide) ⟨by omega, by omega⟩ ⟨by decide, by decide⟩ (fun h2 => ?_) (fun h2 => ?_)
    · refine h_iconst C dX7_isLetter_16 ?_
      refine h_zreturn C (by omega) hr hlk dX7_isLetter_17 ?_
      exact ⟨⟨_, rfl, ⟨by decide, by decide⟩⟩, rfl⟩
    · refine h_iconst C dX7_isLetter_12 ?_
      refine h_goto (tgt := 17) C dX7_isLetter_13 (by decide) ?_
      refine h_zreturn C (by omega) hr hlk dX7_isLetter_17 ?_
      exact ⟨⟨_, rfl, ⟨by decide, by decide⟩⟩, rfl⟩
abbrev rgX7_isDigit : Room := { frames := 0, cells := 0, slots := 0, locals := 0 }
abbrev pgX7_isDigit (z : Nat) (σ : hpMem) (a0 : Int) : Option Value → hpMem → Prop := fun r τ => (∃ x : Int, r = some (.int (hpI x)) ∧ (0 ≤ x ∧ x ≤ 1)) ∧ σ = τ
set_option maxHeartbeats 4000000 in
set_option maxRecDepth 20000 in
theorem tgX7_isDigit (l : Launch) (D : va_G) (cy : Nat → ClassId) (z : Nat) (σ : hpMem) (a0 : Int) (ha0 : -128 ≤ a0 ∧ a0 ≤ 127) (hI : hpInv σ) : hpM l D cy z yX7_isDigit cX7_isDigit 1 (some .boolean) rgX7_isDigit [.int (hpI a0)] σ (pgX7_isDigit z σ a0) := by
  obtain ⟨ha01, ha02⟩ := ha0
  refine hp_met rfl (Nat.le_of_ble_eq_true rfl) (fun p e s m below meth c C Z hr hlk => ?_)
  refine h_iload_n C dX7_isDigit_0 0 rfl rfl ?_
  refine h_bipush C dX7_isDigit_1 (by decide) ?_
  refine h_icmp_lt (tgt := 16) C dX7_isDigit_3 (by decide) ⟨by omega, by omega⟩ ⟨by decide, by decide⟩ (fun h1 => ?_) (fun h1 => ?_)
  · refine h_iconst C dX7_isDigit_16 ?_
    refine h_zreturn C (by omega) hr hlk dX7_isDigit_17 ?_
    exact ⟨⟨_, rfl, ⟨by decide, by decide⟩⟩, rfl⟩
  · refine h_iload_n C dX7_isDigit_6 0 rfl rfl ?_
    refine h_bipush C dX7_isDigit_7 (by decide) ?_
    refine h_icmp_gt (tgt := 16) C dX7_isDigit_9 (by decide) ⟨by omega, by omega⟩ ⟨by decide, by decide⟩ (fun h2 => ?_) (fun h2 => ?_)
    · refine h_iconst C dX7_isDigit_16 ?_
      refine h_zreturn C (by omega) hr hlk dX7_isDigit_17 ?_
      exact ⟨⟨_, rfl, ⟨by decide, by decide⟩⟩, rfl⟩
    · refine h_iconst C dX7_isDigit_12 ?_
      refine h_goto (tgt := 17) C dX7_isDigit_13 (by decide) ?_
      refine h_zreturn C (by omega) hr hlk dX7_isDigit_17 ?_
      exact ⟨⟨_, rfl, ⟨by decide, by decide⟩⟩, rfl⟩
abbrev rgX7_put : Room := { frames := 0, cells := 0, slots := 0, locals := 0 }
abbrev pgX7_put (z : Nat) (σ : hpMem) (a0 : Int) : Option Value → hpMem → Prop := fun r τ => r = none ∧ hpInv τ ∧ (∀ j i : Nat, 169 ≤ j → τ j i = σ j i)
set_option maxHeartbeats 4000000 in
set_option maxRecDepth 20000 in
theorem tgX7_put (l : Launch) (D : va_G) (cy : Nat → ClassId) (z : Nat) (σ : hpMem) (a0 : Int) (ha0 : hpR a0) (hI : hpInv σ) : hpM l D cy z yX7_put cX7_put 3 none rgX7_put [.ref (z + 1), .int (hpI a0)] σ (pgX7_put z σ a0) := by
  obtain ⟨ha01, ha02⟩ := ha0
  refine hp_met rfl (Nat.le_of_ble_eq_true rfl) (fun p e s m below meth c C Z hr hlk => ?_)
  have hF0 : ∀ j i : Nat, 169 ≤ j → σ j i = σ j i := fun j i _ => rfl
  refine h_bipush C dX7_put_0 (by decide) ?_
  refine h_istore_n (lv' := [(2, .int (hpI 24)), (0, .ref (z + 1)), (1, .int (hpI a0))]) C dX7_put_2 rfl (by decide) rfl ?_
  have L1 : ∀ (n1 : Nat) (τ1 : hpMem) (w1_2 : Int), -2147483648 ≤ w1_2 → w1_2 ≤ 24 → hpInv τ1 → (∀ j i : Nat, 169 ≤ j → τ1 j i = σ j i) → (w1_2 + 4294967296) < (n1 : Int) → hpF p l e rgX7_put s m [.ref (z + 1), .int (hpI a0)] below meth c 3 D cy z (pgX7_put z σ a0) τ1 3 [(0, .ref (z + 1)), (1, .int (hpI a0)), (2, .int (hpI w1_2))] [] := by
    intro n1
    induction n1 with
    | zero => intro τ1 w1_2 hv1_0 hv1_1 hI1 hF1 hm1; exfalso; omega
    | succ n1 ih1 =>
      intro τ1 w1_2 hv1_0 hv1_1 hI1 hF1 hm1
      refine h_iload_n C dX7_put_3 2 rfl rfl ?_
      refine h_if_lt (tgt := 46) C dX7_put_4 (by decide) ⟨by omega, by omega⟩ (fun h2 => ?_) (fun h2 => ?_)
      · refine h_return C hr hlk dX7_put_46 ?_
        exact ⟨rfl, hI1, hF1⟩
      · refine h_aload_n C dX7_put_7 0 rfl rfl ?_
        refine h_get C O7 1 kd_1 (by decide) wd_34 dX7_put_8 (hp_fvI (by rw [kd_1]; rfl) rfl) ?_
        obtain ⟨hr3a, hr3b⟩ := hI1.b (bf_7_1 kd_1)
        generalize hg3 : τ1 1 1 = r3 at hr3a hr3b ⊢
        refine h_sipush C dX7_put_11 (by decide) ?_
        refine h_icmp_ge (tgt := 40) C dX7_put_14 (by decide) ⟨by omega, by omega⟩ ⟨by decide, by decide⟩ (fun h4 => ?_) (fun h4 => ?_)
        · refine h_iinc (lv' := [(2, .int (hpI (w1_2 + (-8)))), (0, .ref (z + 1)), (1, .int (hpI a0))]) C dX7_put_40 2 rfl rfl (by decide) rfl ?_
          refine h_goto (tgt := 3) C dX7_put_43 (by decide) ?_
          exact hp_sub [1, 2, 0] rfl (ih1 _ (w1_2 + (-8)) (by omega) (by omega) hI1 hF1 (by omega))
        · refine h_aload_n C dX7_put_17 0 rfl rfl ?_
          refine h_get C O7 0 kd_1 (by decide) wd_32 dX7_put_18 fr_1_0 ?_
          refine h_aload_n C dX7_put_21 0 rfl rfl ?_
          refine h_get C O7 1 kd_1 (by decide) wd_34 dX7_put_22 (hp_fvI (by rw [kd_1]; rfl) rfl) ?_
          rw [hg3]
          refine h_iload_n C dX7_put_25 1 rfl rfl ?_
          refine h_iload_n C dX7_put_26 2 rfl rfl ?_
          refine h_ishr_any C dX7_put_27 (fun r5 hr5 => ?_)
          obtain ⟨hr5a, hr5b⟩ := hr5
          refine h_i2b C dX7_put_28 (fun r6 hr6a hr6b => ?_)
          refine h_bastore C dX7_put_29 kd_2 (by omega) (by omega) (r3).toNat (Int.toNat_of_nonneg (by omega)) (by rw [ln_2]; omega) ?_
          obtain ⟨τ7, e7⟩ : ∃ μ : hpMem, μ = hpw τ1 2 ((r3).toNat) r6 := ⟨_, rfl⟩
          rw [← e7]
          have hI7 : hpInv τ7 := by rw [e7]; exact hI1.w (bo_2 _) (by omega) (by omega)
          have hF7 : ∀ j i : Nat, 169 ≤ j → τ7 j i = σ j i := fun j i h_0 => by rw [e7]; exact (hpw_fr (by omega)).trans (hF1 j i h_0)
          have hg8 : τ7 1 1 = r3 := by rw [e7]; exact (hpw_fr (Or.inl (by omega))).trans hg3
          refine h_aload_n C dX7_put_30 0 rfl rfl ?_
          refine h_dup C rfl dX7_put_31 ?_
          refine h_get C O7 1 kd_1 (by decide) wd_34 dX7_put_32 (hp_fvI (by rw [kd_1]; rfl) rfl) ?_
          rw [hg8]
          refine h_iconst C dX7_put_35 ?_
          refine h_iadd C dX7_put_36 rfl ?_
          refine h_put C O7 1 kd_1 (by decide) rfl wd_34 dX7_put_37 rfl rfl (hp_fvI (by rw [kd_1]; rfl) hpu_at) ?_
          obtain ⟨τ9, e9⟩ : ∃ μ : hpMem, μ = hpw τ7 1 1 (r3 + 1) := ⟨_, rfl⟩
          rw [← e9]
          have hI9 : hpInv τ9 := by rw [e9]; exact hI7.w (bf_7_1 kd_1) (by omega) (by omega)
          have hF9 : ∀ j i : Nat, 169 ≤ j → τ9 j i = σ j i := fun j i h_0 => by rw [e9]; exact (hpw_fr (by omega)).trans (hF7 j i h_0)
          have hg10 : τ9 1 1 = r3 + 1 := by rw [e9]; exact hpw_eq
          refine h_iinc (lv' := [(2, .int (hpI (w1_2 + (-8)))), (0, .ref (z + 1)), (1, .int (hpI a0))]) C dX7_put_40 2 rfl rfl (by decide) rfl ?_
          refine h_goto (tgt := 3) C dX7_put_43 (by decide) ?_
          exact hp_sub [1, 2, 0] rfl (ih1 _ (w1_2 + (-8)) (by omega) (by omega) hI9 hF9 (by omega))
  exact hp_sub [1, 2, 0] rfl (L1 8589934592 _ 24 (by omega) (by omega) hI hF0 (by omega))
abbrev rgX7_nextToken : Room := { frames := 1, cells := 0, slots := 0, locals := 20 }
abbrev pgX7_nextToken (z : Nat) (σ : hpMem) : Option Value → hpMem → Prop := fun r τ => r = none ∧ hpInv τ ∧ (∀ j i : Nat, j ≠ 1 → τ j i = σ j i)
set_option maxHeartbeats 4000000 in
set_option maxRecDepth 20000 in
theorem tgX7_nextToken (l : Launch) (D : va_G) (cy : Nat → ClassId) (z : Nat) (σ : hpMem) (hI : hpInv σ) : hpM l D cy z yX7_nextToken cX7_nextToken 2 none rgX7_nextToken [.ref (z + 1)] σ (pgX7_nextToken z σ) := by
  refine hp_met rfl (Nat.le_of_ble_eq_true rfl) (fun p e s m below meth c C Z hr hlk => ?_)
  have hF0 : ∀ j i : Nat, j ≠ 1 → σ j i = σ j i := fun j i _ => rfl
  have L1 : ∀ (n1 : Nat) (τ1 : hpMem), hpInv τ1 → (∀ j i : Nat, j ≠ 1 → τ1 j i = σ j i) → (501 - τ1 1 4) < (n1 : Int) → hpF p l e rgX7_nextToken s m [.ref (z + 1)] below meth c 2 D cy z (pgX7_nextToken z σ) τ1 0 [(0, .ref (z + 1))] [] := by
    intro n1
    induction n1 with
    | zero => intro τ1 hI1 hF1 hm1; have hz1_0 := hI1.b (bf_7_4 kd_1); exfalso; omega
    | succ n1 ih1 =>
      intro τ1 hI1 hF1 hm1
      have hz1_0 := hI1.b (bf_7_4 kd_1)
      refine h_aload_n C dX7_nextToken_0 0 rfl rfl ?_
      refine h_get C O7 4 kd_1 (by decide) wd_39 dX7_nextToken_1 (hp_fvI (by rw [kd_1]; rfl) rfl) ?_
      obtain ⟨hr2a, hr2b⟩ := hI1.b (bf_7_4 kd_1)
      generalize hg2 : τ1 1 4 = r2 at hr2a hr2b ⊢
      refine h_aload_n C dX7_nextToken_4 0 rfl rfl ?_
      refine h_get C O7 1 kd_1 (by decide) wd_34 dX7_nextToken_5 (hp_fvI (by rw [kd_1]; rfl) rfl) ?_
      obtain ⟨hr3a, hr3b⟩ := hI1.b (bf_7_1 kd_1)
      generalize hg3 : τ1 1 1 = r3 at hr3a hr3b ⊢
      refine h_icmp_ge (tgt := 39) C dX7_nextToken_8 (by decide) ⟨by omega, by omega⟩ ⟨by omega, by omega⟩ (fun h4 => ?_) (fun h4 => ?_)
      · refine h_aload_n C dX7_nextToken_39 0 rfl rfl ?_
        refine h_aload_n C dX7_nextToken_40 0 rfl rfl ?_
        refine h_get C O7 4 kd_1 (by decide) wd_39 dX7_nextToken_41 (hp_fvI (by rw [kd_1]; rfl) rfl) ?_
        rw [hg2]
        refine h_put C O7 6 kd_1 (by decide) rfl wd_41 dX7_nextToken_44 rfl rfl (hp_fvI (by rw [kd_1]; rfl) hpu_at) ?_
        obtain ⟨τ5, e5⟩ : ∃ μ : hpMem, μ = hpw τ1 1 6 r2 := ⟨_, rfl⟩
        rw [← e5]
        have hI5 : hpInv τ5 := by rw [e5]; exact hI1.w (bf_7_6 kd_1) (by omega) (by omega)
        have hF5 : ∀ j i : Nat, j ≠ 1 → τ5 j i = σ j i := fun j i h_0 => by rw [e5]; exact (hpw_fr (by omega)).trans (hF1 j i h_0)
        have hg6 : τ5 1 4 = r2 := by rw [e5]; exact (hpw_fr (Or.inr (by decide))).trans hg2
        have hg7 : τ5 1 1 = r3 := by rw [e5]; exact (hpw_fr (Or.inr (by decide))).trans hg3
        have hg8 : τ5 1 6 = r2 := by rw [e5]; exact hpw_eq
        refine h_aload_n C dX7_nextToken_47 0 rfl rfl ?_
        refine h_get C O7 4 kd_1 (by decide) wd_39 dX7_nextToken_48 (hp_fvI (by rw [kd_1]; rfl) rfl) ?_
        rw [hg6]
        refine h_aload_n C dX7_nextToken_51 0 rfl rfl ?_
        refine h_get C O7 1 kd_1 (by decide) wd_34 dX7_nextToken_52 (hp_fvI (by rw [kd_1]; rfl) rfl) ?_
        rw [hg7]
        refine h_icmp_lt (tgt := 64) C dX7_nextToken_55 (by decide) ⟨by omega, by omega⟩ ⟨by omega, by omega⟩ (fun h9 => ?_) (fun h9 => ?_)
        · refine h_aload_n C dX7_nextToken_64 0 rfl rfl ?_
          refine h_get C O7 0 kd_1 (by decide) wd_32 dX7_nextToken_65 fr_1_0 ?_
          refine h_aload_n C dX7_nextToken_68 0 rfl rfl ?_
          refine h_get C O7 4 kd_1 (by decide) wd_39 dX7_nextToken_69 (hp_fvI (by rw [kd_1]; rfl) rfl) ?_
          rw [hg6]
          refine h_baload C dX7_nextToken_72 kd_2 (r2).toNat (Int.toNat_of_nonneg (by omega)) (by rw [ln_2]; omega) rfl ?_
          obtain ⟨hr10a, hr10b⟩ := hI5.b (bo_2 _)
          generalize hg10 : τ5 2 ((r2).toNat) = r10 at hr10a hr10b ⊢
          refine h_istore_n (lv' := [(1, .int (hpI r10)), (0, .ref (z + 1))]) C dX7_nextToken_73 rfl (by decide) rfl ?_
          refine h_aload_n C dX7_nextToken_74 1 rfl rfl ?_
          refine h_dup C rfl dX7_nextToken_75 ?_
          refine h_get C O7 4 kd_1 (by decide) wd_39 dX7_nextToken_76 (hp_fvI (by rw [kd_1]; rfl) rfl) ?_
          rw [hg6]
          refine h_iconst C dX7_nextToken_79 ?_
          refine h_iadd C dX7_nextToken_80 rfl ?_
          refine h_put C O7 4 kd_1 (by decide) rfl wd_39 dX7_nextToken_81 rfl rfl (hp_fvI (by rw [kd_1]; rfl) hpu_at) ?_
          obtain ⟨τ11, e11⟩ : ∃ μ : hpMem, μ = hpw τ5 1 4 (r2 + 1) := ⟨_, rfl⟩
          rw [← e11]
          have hI11 : hpInv τ11 := by rw [e11]; exact hI5.w (bf_7_4 kd_1) (by omega) (by omega)
          have hF11 : ∀ j i : Nat, j ≠ 1 → τ11 j i = σ j i := fun j i h_0 => by rw [e11]; exact (hpw_fr (by omega)).trans (hF5 j i h_0)
          have hg12 : τ11 1 1 = r3 := by rw [e11]; exact (hpw_fr (Or.inr (by decide))).trans hg7
          have hg13 : τ11 1 6 = r2 := by rw [e11]; exact (hpw_fr (Or.inr (by decide))).trans hg8
          have hg14 : τ11 2 ((r2).toNat) = r10 := by rw [e11]; exact (hpw_fr (Or.inl (by omega))).trans hg10
          have hg15 : τ11 1 4 = r2 + 1 := by rw [e11]; exact hpw_eq
          refine h_iload_n C dX7_nextToken_84 0 rfl rfl ?_
          refine h_callS (As := [.int (hpI r10)]) (rest := []) C Z yyX7_isLetter rfl wd_429 (tgX7_isLetter l D cy z _ r10 ⟨by omega, by omega⟩ hI11) rfl rfl ⟨rfl, rfl, Nat.le_of_ble_eq_true rfl, Nat.le_of_ble_eq_true rfl⟩ ⟨Nat.le_of_ble_eq_true rfl, Nat.le_of_ble_eq_true rfl⟩ (Nat.le_of_ble_eq_true rfl) dX7_nextToken_85 (fun r16 τ16 hp16 => ?_)
          obtain ⟨⟨x16, rfl, ⟨hx16a, hx16b⟩⟩, rfl⟩ := hp16
          show hpV _ _ _ _ _ _ _ _ _ _ _ _ _ _ _ _ _ _ _ _ _ (_ :: _)
          refine h_if_eq (tgt := 135) C dX7_nextToken_88 (by decide) ⟨by omega, by omega⟩ (fun h17 => ?_) (fun h17 => ?_)
          · refine h_iload_n C dX7_nextToken_135 0 rfl rfl ?_
            refine h_callS (As := [.int (hpI r10)]) (rest := []) C Z yyX7_isDigit rfl wd_432 (tgX7_isDigit l D cy z _ r10 ⟨by omega, by omega⟩ hI11) rfl rfl ⟨rfl, rfl, Nat.le_of_ble_eq_true rfl, Nat.le_of_ble_eq_true rfl⟩ ⟨Nat.le_of_ble_eq_true rfl, Nat.le_of_ble_eq_true rfl⟩ (Nat.le_of_ble_eq_true rfl) dX7_nextToken_136 (fun r18 τ18 hp18 => ?_)
            obtain ⟨⟨x18, rfl, ⟨hx18a, hx18b⟩⟩, rfl⟩ := hp18
            show hpV _ _ _ _ _ _ _ _ _ _ _ _ _ _ _ _ _ _ _ _ _ (_ :: _)
            refine h_if_eq (tgt := 186) C dX7_nextToken_139 (by decide) ⟨by omega, by omega⟩ (fun h19 => ?_) (fun h19 => ?_)
            · refine h_aload_n C dX7_nextToken_186 1 rfl rfl ?_
              refine h_iload_n C dX7_nextToken_187 0 rfl rfl ?_
              refine h_bipush C dX7_nextToken_188 (by decide) ?_
              refine h_icmp_ne (tgt := 197) C dX7_nextToken_190 (by decide) ⟨by omega, by omega⟩ ⟨by decide, by decide⟩ (fun h20 => ?_) (fun h20 => ?_)
              · refine h_iconst C dX7_nextToken_197 ?_
                refine h_put C O7 5 kd_1 (by decide) rfl wd_40 dX7_nextToken_198 rfl rfl (hp_fvI (by rw [kd_1]; rfl) hpu_at) ?_
                obtain ⟨τ21, e21⟩ : ∃ μ : hpMem, μ = hpw τ11 1 5 4 := ⟨_, rfl⟩
                rw [← e21]
                have hI21 : hpInv τ21 := by rw [e21]; exact hI11.w (bf_7_5 kd_1) (by omega) (by omega)
                have hF21 : ∀ j i : Nat, j ≠ 1 → τ21 j i = σ j i := fun j i h_0 => by rw [e21]; exact (hpw_fr (by omega)).trans (hF11 j i h_0)
                have hg22 : τ21 1 1 = r3 := by rw [e21]; exact (hpw_fr (Or.inr (by decide))).trans hg12
                have hg23 : τ21 1 6 = r2 := by rw [e21]; exact (hpw_fr (Or.inr (by decide))).trans hg13
                have hg24 : τ21 2 ((r2).toNat) = r10 := by rw [e21]; exact (hpw_fr (Or.inl (by omega))).trans hg14
                have hg25 : τ21 1 4 = r2 + 1 := by rw [e21]; exact (hpw_fr (Or.inr (by decide))).trans hg15
                have hg26 : τ21 1 5 = 4 := by rw [e21]; exact hpw_eq
                refine h_return C hr hlk dX7_nextToken_201 ?_
                exact ⟨rfl, hI21, hF21⟩
              · refine h_iconst C dX7_nextToken_193 ?_
                refine h_goto (tgt := 198) C dX7_nextToken_194 (by decide) ?_
                refine h_put C O7 5 kd_1 (by decide) rfl wd_40 dX7_nextToken_198 rfl rfl (hp_fvI (by rw [kd_1]; rfl) hpu_at) ?_
                obtain ⟨τ27, e27⟩ : ∃ μ : hpMem, μ = hpw τ11 1 5 3 := ⟨_, rfl⟩
                rw [← e27]
                have hI27 : hpInv τ27 := by rw [e27]; exact hI11.w (bf_7_5 kd_1) (by omega) (by omega)
                have hF27 : ∀ j i : Nat, j ≠ 1 → τ27 j i = σ j i := fun j i h_0 => by rw [e27]; exact (hpw_fr (by omega)).trans (hF11 j i h_0)
                have hg28 : τ27 1 1 = r3 := by rw [e27]; exact (hpw_fr (Or.inr (by decide))).trans hg12
                have hg29 : τ27 1 6 = r2 := by rw [e27]; exact (hpw_fr (Or.inr (by decide))).trans hg13
                have hg30 : τ27 2 ((r2).toNat) = r10 := by rw [e27]; exact (hpw_fr (Or.inl (by omega))).trans hg14
                have hg31 : τ27 1 4 = r2 + 1 := by rw [e27]; exact (hpw_fr (Or.inr (by decide))).trans hg15
                have hg32 : τ27 1 5 = 3 := by rw [e27]; exact hpw_eq
                refine h_return C hr hlk dX7_nextToken_201 ?_
                exact ⟨rfl, hI27, hF27⟩
            · refine h_aload_n C dX7_nextToken_142 1 rfl rfl ?_
              refine h_iconst C dX7_nextToken_143 ?_
              refine h_put C O7 5 kd_1 (by decide) rfl wd_40 dX7_nextToken_144 rfl rfl (hp_fvI (by rw [kd_1]; rfl) hpu_at) ?_
              obtain ⟨τ33, e33⟩ : ∃ μ : hpMem, μ = hpw τ11 1 5 2 := ⟨_, rfl⟩
              rw [← e33]
              have hI33 : hpInv τ33 := by rw [e33]; exact hI11.w (bf_7_5 kd_1) (by omega) (by omega)
              have hF33 : ∀ j i : Nat, j ≠ 1 → τ33 j i = σ j i := fun j i h_0 => by rw [e33]; exact (hpw_fr (by omega)).trans (hF11 j i h_0)
              have hg34 : τ33 1 1 = r3 := by rw [e33]; exact (hpw_fr (Or.inr (by decide))).trans hg12
              have hg35 : τ33 1 6 = r2 := by rw [e33]; exact (hpw_fr (Or.inr (by decide))).trans hg13
              have hg36 : τ33 2 ((r2).toNat) = r10 := by rw [e33]; exact (hpw_fr (Or.inl (by omega))).trans hg14
              have hg37 : τ33 1 4 = r2 + 1 := by rw [e33]; exact (hpw_fr (Or.inr (by decide))).trans hg15
              have hg38 : τ33 1 5 = 2 := by rw [e33]; exact hpw_eq
              have L39 : ∀ (n39 : Nat) (τ39 : hpMem), hpInv τ39 → (∀ j i : Nat, j ≠ 1 → τ39 j i = σ j i) → (501 - τ39 1 4) < (n39 : Int) → hpF p l e rgX7_nextToken s m [.ref (z + 1)] below meth c 2 D cy z (pgX7_nextToken z σ) τ39 147 [(0, .ref (z + 1)), (1, .int (hpI r10))] [] := by
                intro n39
                induction n39 with
                | zero => intro τ39 hI39 hF39 hm39; have hz39_0 := hI39.b (bf_7_4 kd_1); exfalso; omega
                | succ n39 ih39 =>
                  intro τ39 hI39 hF39 hm39
                  have hz39_0 := hI39.b (bf_7_4 kd_1)
                  refine h_aload_n C dX7_nextToken_147 0 rfl rfl ?_
                  refine h_get C O7 4 kd_1 (by decide) wd_39 dX7_nextToken_148 (hp_fvI (by rw [kd_1]; rfl) rfl) ?_
                  obtain ⟨hr40a, hr40b⟩ := hI39.b (bf_7_4 kd_1)
                  generalize hg40 : τ39 1 4 = r40 at hr40a hr40b ⊢
                  refine h_aload_n C dX7_nextToken_151 0 rfl rfl ?_
                  refine h_get C O7 1 kd_1 (by decide) wd_34 dX7_nextToken_152 (hp_fvI (by rw [kd_1]; rfl) rfl) ?_
                  obtain ⟨hr41a, hr41b⟩ := hI39.b (bf_7_1 kd_1)
                  generalize hg41 : τ39 1 1 = r41 at hr41a hr41b ⊢
                  refine h_icmp_ge (tgt := 201) C dX7_nextToken_155 (by decide) ⟨by omega, by omega⟩ ⟨by omega, by omega⟩ (fun h42 => ?_) (fun h42 => ?_)
                  · refine h_return C hr hlk dX7_nextToken_201 ?_
                    exact ⟨rfl, hI39, hF39⟩
                  · refine h_aload_n C dX7_nextToken_158 0 rfl rfl ?_
                    refine h_get C O7 0 kd_1 (by decide) wd_32 dX7_nextToken_159 fr_1_0 ?_
                    refine h_aload_n C dX7_nextToken_162 0 rfl rfl ?_
                    refine h_get C O7 4 kd_1 (by decide) wd_39 dX7_nextToken_163 (hp_fvI (by rw [kd_1]; rfl) rfl) ?_
                    rw [hg40]
                    refine h_baload C dX7_nextToken_166 kd_2 (r40).toNat (Int.toNat_of_nonneg (by omega)) (by rw [ln_2]; omega) rfl ?_
                    obtain ⟨hr43a, hr43b⟩ := hI39.b (bo_2 _)
                    generalize hg43 : τ39 2 ((r40).toNat) = r43 at hr43a hr43b ⊢
                    refine h_callS (As := [.int (hpI r43)]) (rest := []) C Z yyX7_isDigit rfl wd_432 (tgX7_isDigit l D cy z _ r43 ⟨by omega, by omega⟩ hI39) rfl rfl ⟨rfl, rfl, Nat.le_of_ble_eq_true rfl, Nat.le_of_ble_eq_true rfl⟩ ⟨Nat.le_of_ble_eq_true rfl, Nat.le_of_ble_eq_true rfl⟩ (Nat.le_of_ble_eq_true rfl) dX7_nextToken_167 (fun r44 τ44 hp44 => ?_)
                    obtain ⟨⟨x44, rfl, ⟨hx44a, hx44b⟩⟩, rfl⟩ := hp44
                    show hpV _ _ _ _ _ _ _ _ _ _ _ _ _ _ _ _ _ _ _ _ _ (_ :: _)
                    refine h_if_eq (tgt := 201) C dX7_nextToken_170 (by decide) ⟨by omega, by omega⟩ (fun h45 => ?_) (fun h45 => ?_)
                    · refine h_return C hr hlk dX7_nextToken_201 ?_
                      exact ⟨rfl, hI39, hF39⟩
                    · refine h_aload_n C dX7_nextToken_173 0 rfl rfl ?_
                      refine h_dup C rfl dX7_nextToken_174 ?_
                      refine h_get C O7 4 kd_1 (by decide) wd_39 dX7_nextToken_175 (hp_fvI (by rw [kd_1]; rfl) rfl) ?_
                      rw [hg40]
                      refine h_iconst C dX7_nextToken_178 ?_
                      refine h_iadd C dX7_nextToken_179 rfl ?_
                      refine h_put C O7 4 kd_1 (by decide) rfl wd_39 dX7_nextToken_180 rfl rfl (hp_fvI (by rw [kd_1]; rfl) hpu_at) ?_
                      obtain ⟨τ46, e46⟩ : ∃ μ : hpMem, μ = hpw τ39 1 4 (r40 + 1) := ⟨_, rfl⟩
                      rw [← e46]
                      have hI46 : hpInv τ46 := by rw [e46]; exact hI39.w (bf_7_4 kd_1) (by omega) (by omega)
                      have hF46 : ∀ j i : Nat, j ≠ 1 → τ46 j i = σ j i := fun j i h_0 => by rw [e46]; exact (hpw_fr (by omega)).trans (hF39 j i h_0)
                      have hg47 : τ46 1 1 = r41 := by rw [e46]; exact (hpw_fr (Or.inr (by decide))).trans hg41
                      have hg48 : τ46 2 ((r40).toNat) = r43 := by rw [e46]; exact (hpw_fr (Or.inl (by omega))).trans hg43
                      have hg49 : τ46 1 4 = r40 + 1 := by rw [e46]; exact hpw_eq
                      refine h_goto (tgt := 147) C dX7_nextToken_183 (by decide) ?_
                      have hy39_0 := hI46.b (bf_7_4 kd_1)
                      exact hp_sub [0, 1] rfl (ih39 _ hI46 hF46 (by omega))
              have hz39_0 := hI33.b (bf_7_4 kd_1)
              exact hp_sub [1, 0] rfl (L39 8589934592 _ hI33 hF33 (by omega))
          · refine h_aload_n C dX7_nextToken_91 1 rfl rfl ?_
            refine h_iconst C dX7_nextToken_92 ?_
            refine h_put C O7 5 kd_1 (by decide) rfl wd_40 dX7_nextToken_93 rfl rfl (hp_fvI (by rw [kd_1]; rfl) hpu_at) ?_
            obtain ⟨τ50, e50⟩ : ∃ μ : hpMem, μ = hpw τ11 1 5 1 := ⟨_, rfl⟩
            rw [← e50]
            have hI50 : hpInv τ50 := by rw [e50]; exact hI11.w (bf_7_5 kd_1) (by omega) (by omega)
            have hF50 : ∀ j i : Nat, j ≠ 1 → τ50 j i = σ j i := fun j i h_0 => by rw [e50]; exact (hpw_fr (by omega)).trans (hF11 j i h_0)
            have hg51 : τ50 1 1 = r3 := by rw [e50]; exact (hpw_fr (Or.inr (by decide))).trans hg12
            have hg52 : τ50 1 6 = r2 := by rw [e50]; exact (hpw_fr (Or.inr (by decide))).trans hg13
            have hg53 : τ50 2 ((r2).toNat) = r10 := by rw [e50]; exact (hpw_fr (Or.inl (by omega))).trans hg14
            have hg54 : τ50 1 4 = r2 + 1 := by rw [e50]; exact (hpw_fr (Or.inr (by decide))).trans hg15
            have hg55 : τ50 1 5 = 1 := by rw [e50]; exact hpw_eq
            have L56 : ∀ (n56 : Nat) (τ56 : hpMem), hpInv τ56 → (∀ j i : Nat, j ≠ 1 → τ56 j i = σ j i) → (501 - τ56 1 4) < (n56 : Int) → hpF p l e rgX7_nextToken s m [.ref (z + 1)] below meth c 2 D cy z (pgX7_nextToken z σ) τ56 96 [(0, .ref (z + 1)), (1, .int (hpI r10))] [] := by
              intro n56
              induction n56 with
              | zero => intro τ56 hI56 hF56 hm56; have hz56_0 := hI56.b (bf_7_4 kd_1); exfalso; omega
              | succ n56 ih56 =>
                intro τ56 hI56 hF56 hm56
                have hz56_0 := hI56.b (bf_7_4 kd_1)
                refine h_aload_n C dX7_nextToken_96 0 rfl rfl ?_
                refine h_get C O7 4 kd_1 (by decide) wd_39 dX7_nextToken_97 (hp_fvI (by rw [kd_1]; rfl) rfl) ?_
                obtain ⟨hr57a, hr57b⟩ := hI56.b (bf_7_4 kd_1)
                generalize hg57 : τ56 1 4 = r57 at hr57a hr57b ⊢
                refine h_aload_n C dX7_nextToken_100 0 rfl rfl ?_
                refine h_get C O7 1 kd_1 (by decide) wd_34 dX7_nextToken_101 (hp_fvI (by rw [kd_1]; rfl) rfl) ?_
                obtain ⟨hr58a, hr58b⟩ := hI56.b (bf_7_1 kd_1)
                generalize hg58 : τ56 1 1 = r58 at hr58a hr58b ⊢
                refine h_icmp_ge (tgt := 201) C dX7_nextToken_104 (by decide) ⟨by omega, by omega⟩ ⟨by omega, by omega⟩ (fun h59 => ?_) (fun h59 => ?_)
                · refine h_return C hr hlk dX7_nextToken_201 ?_
                  exact ⟨rfl, hI56, hF56⟩
                · refine h_aload_n C dX7_nextToken_107 0 rfl rfl ?_
                  refine h_get C O7 0 kd_1 (by decide) wd_32 dX7_nextToken_108 fr_1_0 ?_
                  refine h_aload_n C dX7_nextToken_111 0 rfl rfl ?_
                  refine h_get C O7 4 kd_1 (by decide) wd_39 dX7_nextToken_112 (hp_fvI (by rw [kd_1]; rfl) rfl) ?_
                  rw [hg57]
                  refine h_baload C dX7_nextToken_115 kd_2 (r57).toNat (Int.toNat_of_nonneg (by omega)) (by rw [ln_2]; omega) rfl ?_
                  obtain ⟨hr60a, hr60b⟩ := hI56.b (bo_2 _)
                  generalize hg60 : τ56 2 ((r57).toNat) = r60 at hr60a hr60b ⊢
                  refine h_callS (As := [.int (hpI r60)]) (rest := []) C Z yyX7_isLetter rfl wd_429 (tgX7_isLetter l D cy z _ r60 ⟨by omega, by omega⟩ hI56) rfl rfl ⟨rfl, rfl, Nat.le_of_ble_eq_true rfl, Nat.le_of_ble_eq_true rfl⟩ ⟨Nat.le_of_ble_eq_true rfl, Nat.le_of_ble_eq_true rfl⟩ (Nat.le_of_ble_eq_true rfl) dX7_nextToken_116 (fun r61 τ61 hp61 => ?_)
                  obtain ⟨⟨x61, rfl, ⟨hx61a, hx61b⟩⟩, rfl⟩ := hp61
                  show hpV _ _ _ _ _ _ _ _ _ _ _ _ _ _ _ _ _ _ _ _ _ (_ :: _)
                  refine h_if_eq (tgt := 201) C dX7_nextToken_119 (by decide) ⟨by omega, by omega⟩ (fun h62 => ?_) (fun h62 => ?_)
                  · refine h_return C hr hlk dX7_nextToken_201 ?_
                    exact ⟨rfl, hI56, hF56⟩
                  · refine h_aload_n C dX7_nextToken_122 0 rfl rfl ?_
                    refine h_dup C rfl dX7_nextToken_123 ?_
                    refine h_get C O7 4 kd_1 (by decide) wd_39 dX7_nextToken_124 (hp_fvI (by rw [kd_1]; rfl) rfl) ?_
                    rw [hg57]
                    refine h_iconst C dX7_nextToken_127 ?_
                    refine h_iadd C dX7_nextToken_128 rfl ?_
                    refine h_put C O7 4 kd_1 (by decide) rfl wd_39 dX7_nextToken_129 rfl rfl (hp_fvI (by rw [kd_1]; rfl) hpu_at) ?_
                    obtain ⟨τ63, e63⟩ : ∃ μ : hpMem, μ = hpw τ56 1 4 (r57 + 1) := ⟨_, rfl⟩
                    rw [← e63]
                    have hI63 : hpInv τ63 := by rw [e63]; exact hI56.w (bf_7_4 kd_1) (by omega) (by omega)
                    have hF63 : ∀ j i : Nat, j ≠ 1 → τ63 j i = σ j i := fun j i h_0 => by rw [e63]; exact (hpw_fr (by omega)).trans (hF56 j i h_0)
                    have hg64 : τ63 1 1 = r58 := by rw [e63]; exact (hpw_fr (Or.inr (by decide))).trans hg58
                    have hg65 : τ63 2 ((r57).toNat) = r60 := by rw [e63]; exact (hpw_fr (Or.inl (by omega))).trans hg60
                    have hg66 : τ63 1 4 = r57 + 1 := by rw [e63]; exact hpw_eq
                    refine h_goto (tgt := 96) C dX7_nextToken_132 (by decide) ?_
                    have hy56_0 := hI63.b (bf_7_4 kd_1)
                    exact hp_sub [0, 1] rfl (ih56 _ hI63 hF63 (by omega))
            have hz56_0 := hI50.b (bf_7_4 kd_1)
            exact hp_sub [1, 0] rfl (L56 8589934592 _ hI50 hF50 (by omega))
        · refine h_aload_n C dX7_nextToken_58 0 rfl rfl ?_
          refine h_iconst C dX7_nextToken_59 ?_
          refine h_put C O7 5 kd_1 (by decide) rfl wd_40 dX7_nextToken_60 rfl rfl (hp_fvI (by rw [kd_1]; rfl) hpu_at) ?_
          obtain ⟨τ67, e67⟩ : ∃ μ : hpMem, μ = hpw τ5 1 5 0 := ⟨_, rfl⟩
          rw [← e67]
          have hI67 : hpInv τ67 := by rw [e67]; exact hI5.w (bf_7_5 kd_1) (by omega) (by omega)
          have hF67 : ∀ j i : Nat, j ≠ 1 → τ67 j i = σ j i := fun j i h_0 => by rw [e67]; exact (hpw_fr (by omega)).trans (hF5 j i h_0)
          have hg68 : τ67 1 4 = r2 := by rw [e67]; exact (hpw_fr (Or.inr (by decide))).trans hg6
          have hg69 : τ67 1 1 = r3 := by rw [e67]; exact (hpw_fr (Or.inr (by decide))).trans hg7
          have hg70 : τ67 1 6 = r2 := by rw [e67]; exact (hpw_fr (Or.inr (by decide))).trans hg8
          have hg71 : τ67 1 5 = 0 := by rw [e67]; exact hpw_eq
          refine h_return C hr hlk dX7_nextToken_63 ?_
          exact ⟨rfl, hI67, hF67⟩
      · refine h_aload_n C dX7_nextToken_11 0 rfl rfl ?_
        refine h_get C O7 0 kd_1 (by decide) wd_32 dX7_nextToken_12 fr_1_0 ?_
        refine h_aload_n C dX7_nextToken_15 0 rfl rfl ?_
        refine h_get C O7 4 kd_1 (by decide) wd_39 dX7_nextToken_16 (hp_fvI (by rw [kd_1]; rfl) rfl) ?_
        rw [hg2]
        refine h_baload C dX7_nextToken_19 kd_2 (r2).toNat (Int.toNat_of_nonneg (by omega)) (by rw [ln_2]; omega) rfl ?_
        obtain ⟨hr72a, hr72b⟩ := hI1.b (bo_2 _)
        generalize hg72 : τ1 2 ((r2).toNat) = r72 at hr72a hr72b ⊢
        refine h_callS (As := [.int (hpI r72)]) (rest := []) C Z yyX7_isBlank rfl wd_426 (tgX7_isBlank l D cy z _ r72 ⟨by omega, by omega⟩ hI1) rfl rfl ⟨rfl, rfl, Nat.le_of_ble_eq_true rfl, Nat.le_of_ble_eq_true rfl⟩ ⟨Nat.le_of_ble_eq_true rfl, Nat.le_of_ble_eq_true rfl⟩ (Nat.le_of_ble_eq_true rfl) dX7_nextToken_20 (fun r73 τ73 hp73 => ?_)
        obtain ⟨⟨x73, rfl, ⟨hx73a, hx73b⟩⟩, rfl⟩ := hp73
        show hpV _ _ _ _ _ _ _ _ _ _ _ _ _ _ _ _ _ _ _ _ _ (_ :: _)
        refine h_if_eq (tgt := 39) C dX7_nextToken_23 (by decide) ⟨by omega, by omega⟩ (fun h74 => ?_) (fun h74 => ?_)
        · refine h_aload_n C dX7_nextToken_39 0 rfl rfl ?_
          refine h_aload_n C dX7_nextToken_40 0 rfl rfl ?_
          refine h_get C O7 4 kd_1 (by decide) wd_39 dX7_nextToken_41 (hp_fvI (by rw [kd_1]; rfl) rfl) ?_
          rw [hg2]
          refine h_put C O7 6 kd_1 (by decide) rfl wd_41 dX7_nextToken_44 rfl rfl (hp_fvI (by rw [kd_1]; rfl) hpu_at) ?_
          obtain ⟨τ75, e75⟩ : ∃ μ : hpMem, μ = hpw τ1 1 6 r2 := ⟨_, rfl⟩
          rw [← e75]
          have hI75 : hpInv τ75 := by rw [e75]; exact hI1.w (bf_7_6 kd_1) (by omega) (by omega)
          have hF75 : ∀ j i : Nat, j ≠ 1 → τ75 j i = σ j i := fun j i h_0 => by rw [e75]; exact (hpw_fr (by omega)).trans (hF1 j i h_0)
          have hg76 : τ75 1 4 = r2 := by rw [e75]; exact (hpw_fr (Or.inr (by decide))).trans hg2
          have hg77 : τ75 1 1 = r3 := by rw [e75]; exact (hpw_fr (Or.inr (by decide))).trans hg3
          have hg78 : τ75 2 ((r2).toNat) = r72 := by rw [e75]; exact (hpw_fr (Or.inl (by omega))).trans hg72
          have hg79 : τ75 1 6 = r2 := by rw [e75]; exact hpw_eq
          refine h_aload_n C dX7_nextToken_47 0 rfl rfl ?_
          refine h_get C O7 4 kd_1 (by decide) wd_39 dX7_nextToken_48 (hp_fvI (by rw [kd_1]; rfl) rfl) ?_
          rw [hg76]
          refine h_aload_n C dX7_nextToken_51 0 rfl rfl ?_
          refine h_get C O7 1 kd_1 (by decide) wd_34 dX7_nextToken_52 (hp_fvI (by rw [kd_1]; rfl) rfl) ?_
          rw [hg77]
          refine h_icmp_lt (tgt := 64) C dX7_nextToken_55 (by decide) ⟨by omega, by omega⟩ ⟨by omega, by omega⟩ (fun h80 => ?_) (fun h80 => ?_)
          · refine h_aload_n C dX7_nextToken_64 0 rfl rfl ?_
            refine h_get C O7 0 kd_1 (by decide) wd_32 dX7_nextToken_65 fr_1_0 ?_
            refine h_aload_n C dX7_nextToken_68 0 rfl rfl ?_
            refine h_get C O7 4 kd_1 (by decide) wd_39 dX7_nextToken_69 (hp_fvI (by rw [kd_1]; rfl) rfl) ?_
            rw [hg76]
            refine h_baload C dX7_nextToken_72 kd_2 (r2).toNat (Int.toNat_of_nonneg (by omega)) (by rw [ln_2]; omega) rfl ?_
            rw [hg78]
            refine h_istore_n (lv' := [(1, .int (hpI r72)), (0, .ref (z + 1))]) C dX7_nextToken_73 rfl (by decide) rfl ?_
            refine h_aload_n C dX7_nextToken_74 1 rfl rfl ?_
            refine h_dup C rfl dX7_nextToken_75 ?_
            refine h_get C O7 4 kd_1 (by decide) wd_39 dX7_nextToken_76 (hp_fvI (by rw [kd_1]; rfl) rfl) ?_
            rw [hg76]
            refine h_iconst C dX7_nextToken_79 ?_
            refine h_iadd C dX7_nextToken_80 rfl ?_
            refine h_put C O7 4 kd_1 (by decide) rfl wd_39 dX7_nextToken_81 rfl rfl (hp_fvI (by rw [kd_1]; rfl) hpu_at) ?_
            obtain ⟨τ81, e81⟩ : ∃ μ : hpMem, μ = hpw τ75 1 4 (r2 + 1) := ⟨_, rfl⟩
            rw [← e81]
            have hI81 : hpInv τ81 := by rw [e81]; exact hI75.w (bf_7_4 kd_1) (by omega) (by omega)
            have hF81 : ∀ j i : Nat, j ≠ 1 → τ81 j i = σ j i := fun j i h_0 => by rw [e81]; exact (hpw_fr (by omega)).trans (hF75 j i h_0)
            have hg82 : τ81 1 1 = r3 := by rw [e81]; exact (hpw_fr (Or.inr (by decide))).trans hg77
            have hg83 : τ81 2 ((r2).toNat) = r72 := by rw [e81]; exact (hpw_fr (Or.inl (by omega))).trans hg78
            have hg84 : τ81 1 6 = r2 := by rw [e81]; exact (hpw_fr (Or.inr (by decide))).trans hg79
            have hg85 : τ81 1 4 = r2 + 1 := by rw [e81]; exact hpw_eq
            refine h_iload_n C dX7_nextToken_84 0 rfl rfl ?_
            refine h_callS (As := [.int (hpI r72)]) (rest := []) C Z yyX7_isLetter rfl wd_429 (tgX7_isLetter l D cy z _ r72 ⟨by omega, by omega⟩ hI81) rfl rfl ⟨rfl, rfl, Nat.le_of_ble_eq_true rfl, Nat.le_of_ble_eq_true rfl⟩ ⟨Nat.le_of_ble_eq_true rfl, Nat.le_of_ble_eq_true rfl⟩ (Nat.le_of_ble_eq_true rfl) dX7_nextToken_85 (fun r86 τ86 hp86 => ?_)
            obtain ⟨⟨x86, rfl, ⟨hx86a, hx86b⟩⟩, rfl⟩ := hp86
            show hpV _ _ _ _ _ _ _ _ _ _ _ _ _ _ _ _ _ _ _ _ _ (_ :: _)
            refine h_if_eq (tgt := 135) C dX7_nextToken_88 (by decide) ⟨by omega, by omega⟩ (fun h87 => ?_) (fun h87 => ?_)
            · refine h_iload_n C dX7_nextToken_135 0 rfl rfl ?_
              refine h_callS (As := [.int (hpI r72)]) (rest := []) C Z yyX7_isDigit rfl wd_432 (tgX7_isDigit l D cy z _ r72 ⟨by omega, by omega⟩ hI81) rfl rfl ⟨rfl, rfl, Nat.le_of_ble_eq_true rfl, Nat.le_of_ble_eq_true rfl⟩ ⟨Nat.le_of_ble_eq_true rfl, Nat.le_of_ble_eq_true rfl⟩ (Nat.le_of_ble_eq_true rfl) dX7_nextToken_136 (fun r88 τ88 hp88 => ?_)
              obtain ⟨⟨x88, rfl, ⟨hx88a, hx88b⟩⟩, rfl⟩ := hp88
              show hpV _ _ _ _ _ _ _ _ _ _ _ _ _ _ _ _ _ _ _ _ _ (_ :: _)
              refine h_if_eq (tgt := 186) C dX7_nextToken_139 (by decide) ⟨by omega, by omega⟩ (fun h89 => ?_) (fun h89 => ?_)
              · refine h_aload_n C dX7_nextToken_186 1 rfl rfl ?_
                refine h_iload_n C dX7_nextToken_187 0 rfl rfl ?_
                refine h_bipush C dX7_nextToken_188 (by decide) ?_
                refine h_icmp_ne (tgt := 197) C dX7_nextToken_190 (by decide) ⟨by omega, by omega⟩ ⟨by decide, by decide⟩ (fun h90 => ?_) (fun h90 => ?_)
                · refine h_iconst C dX7_nextToken_197 ?_
                  refine h_put C O7 5 kd_1 (by decide) rfl wd_40 dX7_nextToken_198 rfl rfl (hp_fvI (by rw [kd_1]; rfl) hpu_at) ?_
                  obtain ⟨τ91, e91⟩ : ∃ μ : hpMem, μ = hpw τ81 1 5 4 := ⟨_, rfl⟩
                  rw [← e91]
                  have hI91 : hpInv τ91 := by rw [e91]; exact hI81.w (bf_7_5 kd_1) (by omega) (by omega)
                  have hF91 : ∀ j i : Nat, j ≠ 1 → τ91 j i = σ j i := fun j i h_0 => by rw [e91]; exact (hpw_fr (by omega)).trans (hF81 j i h_0)
                  have hg92 : τ91 1 1 = r3 := by rw [e91]; exact (hpw_fr (Or.inr (by decide))).trans hg82
                  have hg93 : τ91 2 ((r2).toNat) = r72 := by rw [e91]; exact (hpw_fr (Or.inl (by omega))).trans hg83
                  have hg94 : τ91 1 6 = r2 := by rw [e91]; exact (hpw_fr (Or.inr (by decide))).trans hg84
                  have hg95 : τ91 1 4 = r2 + 1 := by rw [e91]; exact (hpw_fr (Or.inr (by decide))).trans hg85
                  have hg96 : τ91 1 5 = 4 := by rw [e91]; exact hpw_eq
                  refine h_return C hr hlk dX7_nextToken_201 ?_
                  exact ⟨rfl, hI91, hF91⟩
                · refine h_iconst C dX7_nextToken_193 ?_
                  refine h_goto (tgt := 198) C dX7_nextToken_194 (by decide) ?_
                  refine h_put C O7 5 kd_1 (by decide) rfl wd_40 dX7_nextToken_198 rfl rfl (hp_fvI (by rw [kd_1]; rfl) hpu_at) ?_
                  obtain ⟨τ97, e97⟩ : ∃ μ : hpMem, μ = hpw τ81 1 5 3 := ⟨_, rfl⟩
                  rw [← e97]
                  have hI97 : hpInv τ97 := by rw [e97]; exact hI81.w (bf_7_5 kd_1) (by omega) (by omega)
                  have hF97 : ∀ j i : Nat, j ≠ 1 → τ97 j i = σ j i := fun j i h_0 => by rw [e97]; exact (hpw_fr (by omega)).trans (hF81 j i h_0)
                  have hg98 : τ97 1 1 = r3 := by rw [e97]; exact (hpw_fr (Or.inr (by decide))).trans hg82
                  have hg99 : τ97 2 ((r2).toNat) = r72 := by rw [e97]; exact (hpw_fr (Or.inl (by omega))).trans hg83
                  have hg100 : τ97 1 6 = r2 := by rw [e97]; exact (hpw_fr (Or.inr (by decide))).trans hg84
                  have hg101 : τ97 1 4 = r2 + 1 := by rw [e97]; exact (hpw_fr (Or.inr (by decide))).trans hg85
                  have hg102 : τ97 1 5 = 3 := by rw [e97]; exact hpw_eq
                  refine h_return C hr hlk dX7_nextToken_201 ?_
                  exact ⟨rfl, hI97, hF97⟩
              · refine h_aload_n C dX7_nextToken_142 1 rfl rfl ?_
                refine h_iconst C dX7_nextToken_143 ?_
                refine h_put C O7 5 kd_1 (by decide) rfl wd_40 dX7_nextToken_144 rfl rfl (hp_fvI (by rw [kd_1]; rfl) hpu_at) ?_
                obtain ⟨τ103, e103⟩ : ∃ μ : hpMem, μ = hpw τ81 1 5 2 := ⟨_, rfl⟩
                rw [← e103]
                have hI103 : hpInv τ103 := by rw [e103]; exact hI81.w (bf_7_5 kd_1) (by omega) (by omega)
                have hF103 : ∀ j i : Nat, j ≠ 1 → τ103 j i = σ j i := fun j i h_0 => by rw [e103]; exact (hpw_fr (by omega)).trans (hF81 j i h_0)
                have hg104 : τ103 1 1 = r3 := by rw [e103]; exact (hpw_fr (Or.inr (by decide))).trans hg82
                have hg105 : τ103 2 ((r2).toNat) = r72 := by rw [e103]; exact (hpw_fr (Or.inl (by omega))).trans hg83
                have hg106 : τ103 1 6 = r2 := by rw [e103]; exact (hpw_fr (Or.inr (by decide))).trans hg84
                have hg107 : τ103 1 4 = r2 + 1 := by rw [e103]; exact (hpw_fr (Or.inr (by decide))).trans hg85
                have hg108 : τ103 1 5 = 2 := by rw [e103]; exact hpw_eq
                have L109 : ∀ (n109 : Nat) (τ109 : hpMem), hpInv τ109 → (∀ j i : Nat, j ≠ 1 → τ109 j i = σ j i) → (501 - τ109 1 4) < (n109 : Int) → hpF p l e rgX7_nextToken s m [.ref (z + 1)] below meth c 2 D cy z (pgX7_nextToken z σ) τ109 147 [(0, .ref (z + 1)), (1, .int (hpI r72))] [] := by
                  intro n109
                  induction n109 with
                  | zero => intro τ109 hI109 hF109 hm109; have hz109_0 := hI109.b (bf_7_4 kd_1); exfalso; omega
                  | succ n109 ih109 =>
                    intro τ109 hI109 hF109 hm109
                    have hz109_0 := hI109.b (bf_7_4 kd_1)
                    refine h_aload_n C dX7_nextToken_147 0 rfl rfl ?_
                    refine h_get C O7 4 kd_1 (by decide) wd_39 dX7_nextToken_148 (hp_fvI (by rw [kd_1]; rfl) rfl) ?_
                    obtain ⟨hr110a, hr110b⟩ := hI109.b (bf_7_4 kd_1)
                    generalize hg110 : τ109 1 4 = r110 at hr110a hr110b ⊢
                    refine h_aload_n C dX7_nextToken_151 0 rfl rfl ?_
                    refine h_get C O7 1 kd_1 (by decide) wd_34 dX7_nextToken_152 (hp_fvI (by rw [kd_1]; rfl) rfl) ?_
                    obtain ⟨hr111a, hr111b⟩ := hI109.b (bf_7_1 kd_1)
                    generalize hg111 : τ109 1 1 = r111 at hr111a hr111b ⊢
                    refine h_icmp_ge (tgt := 201) C dX7_nextToken_155 (by decide) ⟨by omega, by omega⟩ ⟨by omega, by omega⟩ (fun h112 => ?_) (fun h112 => ?_)
                    · refine h_return C hr hlk dX7_nextToken_201 ?_
                      exact ⟨rfl, hI109, hF109⟩
                    · refine h_aload_n C dX7_nextToken_158 0 rfl rfl ?_
                      refine h_get C O7 0 kd_1 (by decide) wd_32 dX7_nextToken_159 fr_1_0 ?_
                      refine h_aload_n C dX7_nextToken_162 0 rfl rfl ?_
                      refine h_get C O7 4 kd_1 (by decide) wd_39 dX7_nextToken_163 (hp_fvI (by rw [kd_1]; rfl) rfl) ?_
                      rw [hg110]
                      refine h_baload C dX7_nextToken_166 kd_2 (r110).toNat (Int.toNat_of_nonneg (by omega)) (by rw [ln_2]; omega) rfl ?_
                      obtain ⟨hr113a, hr113b⟩ := hI109.b (bo_2 _)
                      generalize hg113 : τ109 2 ((r110).toNat) = r113 at hr113a hr113b ⊢
                      refine h_callS (As := [.int (hpI r113)]) (rest := []) C Z yyX7_isDigit rfl wd_432 (tgX7_isDigit l D cy z _ r113 ⟨by omega, by omega⟩ hI109) rfl rfl ⟨rfl, rfl, Nat.le_of_ble_eq_true rfl, Nat.le_of_ble_eq_true rfl⟩ ⟨Nat.le_of_ble_eq_true rfl, Nat.le_of_ble_eq_true rfl⟩ (Nat.le_of_ble_eq_true rfl) dX7_nextToken_167 (fun r114 τ114 hp114 => ?_)
                      obtain ⟨⟨x114, rfl, ⟨hx114a, hx114b⟩⟩, rfl⟩ := hp114
                      show hpV _ _ _ _ _ _ _ _ _ _ _ _ _ _ _ _ _ _ _ _ _ (_ :: _)
                      refine h_if_eq (tgt := 201) C dX7_nextToken_170 (by decide) ⟨by omega, by omega⟩ (fun h115 => ?_) (fun h115 => ?_)
                      · refine h_return C hr hlk dX7_nextToken_201 ?_
                        exact ⟨rfl, hI109, hF109⟩
                      · refine h_aload_n C dX7_nextToken_173 0 rfl rfl ?_
                        refine h_dup C rfl dX7_nextToken_174 ?_
                        refine h_get C O7 4 kd_1 (by decide) wd_39 dX7_nextToken_175 (hp_fvI (by rw [kd_1]; rfl) rfl) ?_
                        rw [hg110]
                        refine h_iconst C dX7_nextToken_178 ?_
                        refine h_iadd C dX7_nextToken_179 rfl ?_
                        refine h_put C O7 4 kd_1 (by decide) rfl wd_39 dX7_nextToken_180 rfl rfl (hp_fvI (by rw [kd_1]; rfl) hpu_at) ?_
                        obtain ⟨τ116, e116⟩ : ∃ μ : hpMem, μ = hpw τ109 1 4 (r110 + 1) := ⟨_, rfl⟩
                        rw [← e116]
                        have hI116 : hpInv τ116 := by rw [e116]; exact hI109.w (bf_7_4 kd_1) (by omega) (by omega)
                        have hF116 : ∀ j i : Nat, j ≠ 1 → τ116 j i = σ j i := fun j i h_0 => by rw [e116]; exact (hpw_fr (by omega)).trans (hF109 j i h_0)
                        have hg117 : τ116 1 1 = r111 := by rw [e116]; exact (hpw_fr (Or.inr (by decide))).trans hg111
                        have hg118 : τ116 2 ((r110).toNat) = r113 := by rw [e116]; exact (hpw_fr (Or.inl (by omega))).trans hg113
                        have hg119 : τ116 1 4 = r110 + 1 := by rw [e116]; exact hpw_eq
                        refine h_goto (tgt := 147) C dX7_nextToken_183 (by decide) ?_
                        have hy109_0 := hI116.b (bf_7_4 kd_1)
                        exact hp_sub [0, 1] rfl (ih109 _ hI116 hF116 (by omega))
                have hz109_0 := hI103.b (bf_7_4 kd_1)
                exact hp_sub [1, 0] rfl (L109 8589934592 _ hI103 hF103 (by omega))
            · refine h_aload_n C dX7_nextToken_91 1 rfl rfl ?_
              refine h_iconst C dX7_nextToken_92 ?_
              refine h_put C O7 5 kd_1 (by decide) rfl wd_40 dX7_nextToken_93 rfl rfl (hp_fvI (by rw [kd_1]; rfl) hpu_at) ?_
              obtain ⟨τ120, e120⟩ : ∃ μ : hpMem, μ = hpw τ81 1 5 1 := ⟨_, rfl⟩
              rw [← e120]
              have hI120 : hpInv τ120 := by rw [e120]; exact hI81.w (bf_7_5 kd_1) (by omega) (by omega)
              have hF120 : ∀ j i : Nat, j ≠ 1 → τ120 j i = σ j i := fun j i h_0 => by rw [e120]; exact (hpw_fr (by omega)).trans (hF81 j i h_0)
              have hg121 : τ120 1 1 = r3 := by rw [e120]; exact (hpw_fr (Or.inr (by decide))).trans hg82
              have hg122 : τ120 2 ((r2).toNat) = r72 := by rw [e120]; exact (hpw_fr (Or.inl (by omega))).trans hg83
              have hg123 : τ120 1 6 = r2 := by rw [e120]; exact (hpw_fr (Or.inr (by decide))).trans hg84
              have hg124 : τ120 1 4 = r2 + 1 := by rw [e120]; exact (hpw_fr (Or.inr (by decide))).trans hg85
              have hg125 : τ120 1 5 = 1 := by rw [e120]; exact hpw_eq
              have L126 : ∀ (n126 : Nat) (τ126 : hpMem), hpInv τ126 → (∀ j i : Nat, j ≠ 1 → τ126 j i = σ j i) → (501 - τ126 1 4) < (n126 : Int) → hpF p l e rgX7_nextToken s m [.ref (z + 1)] below meth c 2 D cy z (pgX7_nextToken z σ) τ126 96 [(0, .ref (z + 1)), (1, .int (hpI r72))] [] := by
                intro n126
                induction n126 with
                | zero => intro τ126 hI126 hF126 hm126; have hz126_0 := hI126.b (bf_7_4 kd_1); exfalso; omega
                | succ n126 ih126 =>
                  intro τ126 hI126 hF126 hm126
                  have hz126_0 := hI126.b (bf_7_4 kd_1)
                  refine h_aload_n C dX7_nextToken_96 0 rfl rfl ?_
                  refine h_get C O7 4 kd_1 (by decide) wd_39 dX7_nextToken_97 (hp_fvI (by rw [kd_1]; rfl) rfl) ?_
                  obtain ⟨hr127a, hr127b⟩ := hI126.b (bf_7_4 kd_1)
                  generalize hg127 : τ126 1 4 = r127 at hr127a hr127b ⊢
                  refine h_aload_n C dX7_nextToken_100 0 rfl rfl ?_
                  refine h_get C O7 1 kd_1 (by decide) wd_34 dX7_nextToken_101 (hp_fvI (by rw [kd_1]; rfl) rfl) ?_
                  obtain ⟨hr128a, hr128b⟩ := hI126.b (bf_7_1 kd_1)
                  generalize hg128 : τ126 1 1 = r128 at hr128a hr128b ⊢
                  refine h_icmp_ge (tgt := 201) C dX7_nextToken_104 (by decide) ⟨by omega, by omega⟩ ⟨by omega, by omega⟩ (fun h129 => ?_) (fun h129 => ?_)
                  · refine h_return C hr hlk dX7_nextToken_201 ?_
                    exact ⟨rfl, hI126, hF126⟩
                  · refine h_aload_n C dX7_nextToken_107 0 rfl rfl ?_
                    refine h_get C O7 0 kd_1 (by decide) wd_32 dX7_nextToken_108 fr_1_0 ?_
                    refine h_aload_n C dX7_nextToken_111 0 rfl rfl ?_
                    refine h_get C O7 4 kd_1 (by decide) wd_39 dX7_nextToken_112 (hp_fvI (by rw [kd_1]; rfl) rfl) ?_
                    rw [hg127]
                    refine h_baload C dX7_nextToken_115 kd_2 (r127).toNat (Int.toNat_of_nonneg (by omega)) (by rw [ln_2]; omega) rfl ?_
                    obtain ⟨hr130a, hr130b⟩ := hI126.b (bo_2 _)
                    generalize hg130 : τ126 2 ((r127).toNat) = r130 at hr130a hr130b ⊢
                    refine h_callS (As := [.int (hpI r130)]) (rest := []) C Z yyX7_isLetter rfl wd_429 (tgX7_isLetter l D cy z _ r130 ⟨by omega, by omega⟩ hI126) rfl rfl ⟨rfl, rfl, Nat.le_of_ble_eq_true rfl, Nat.le_of_ble_eq_true rfl⟩ ⟨Nat.le_of_ble_eq_true rfl, Nat.le_of_ble_eq_true rfl⟩ (Nat.le_of_ble_eq_true rfl) dX7_nextToken_116 (fun r131 τ131 hp131 => ?_)
                    obtain ⟨⟨x131, rfl, ⟨hx131a, hx131b⟩⟩, rfl⟩ := hp131
                    show hpV _ _ _ _ _ _ _ _ _ _ _ _ _ _ _ _ _ _ _ _ _ (_ :: _)
                    refine h_if_eq (tgt := 201) C dX7_nextToken_119 (by decide) ⟨by omega, by omega⟩ (fun h132 => ?_) (fun h132 => ?_)
                    · refine h_return C hr hlk dX7_nextToken_201 ?_
                      exact ⟨rfl, hI126, hF126⟩
                    · refine h_aload_n C dX7_nextToken_122 0 rfl rfl ?_
                      refine h_dup C rfl dX7_nextToken_123 ?_
                      refine h_get C O7 4 kd_1 (by decide) wd_39 dX7_nextToken_124 (hp_fvI (by rw [kd_1]; rfl) rfl) ?_
                      rw [hg127]
                      refine h_iconst C dX7_nextToken_127 ?_
                      refine h_iadd C dX7_nextToken_128 rfl ?_
                      refine h_put C O7 4 kd_1 (by decide) rfl wd_39 dX7_nextToken_129 rfl rfl (hp_fvI (by rw [kd_1]; rfl) hpu_at) ?_
                      obtain ⟨τ133, e133⟩ : ∃ μ : hpMem, μ = hpw τ126 1 4 (r127 + 1) := ⟨_, rfl⟩
                      rw [← e133]
                      have hI133 : hpInv τ133 := by rw [e133]; exact hI126.w (bf_7_4 kd_1) (by omega) (by omega)
                      have hF133 : ∀ j i : Nat, j ≠ 1 → τ133 j i = σ j i := fun j i h_0 => by rw [e133]; exact (hpw_fr (by omega)).trans (hF126 j i h_0)
                      have hg134 : τ133 1 1 = r128 := by rw [e133]; exact (hpw_fr (Or.inr (by decide))).trans hg128
                      have hg135 : τ133 2 ((r127).toNat) = r130 := by rw [e133]; exact (hpw_fr (Or.inl (by omega))).trans hg130
                      have hg136 : τ133 1 4 = r127 + 1 := by rw [e133]; exact hpw_eq
                      refine h_goto (tgt := 96) C dX7_nextToken_132 (by decide) ?_
                      have hy126_0 := hI133.b (bf_7_4 kd_1)
                      exact hp_sub [0, 1] rfl (ih126 _ hI133 hF133 (by omega))
              have hz126_0 := hI120.b (bf_7_4 kd_1)
              exact hp_sub [1, 0] rfl (L126 8589934592 _ hI120 hF120 (by omega))
          · refine h_aload_n C dX7_nextToken_58 0 rfl rfl ?_
            refine h_iconst C dX7_nextToken_59 ?_
            refine h_put C O7 5 kd_1 (by decide) rfl wd_40 dX7_nextToken_60 rfl rfl (hp_fvI (by rw [kd_1]; rfl) hpu_at) ?_
            obtain ⟨τ137, e137⟩ : ∃ μ : hpMem, μ = hpw τ75 1 5 0 := ⟨_, rfl⟩
            rw [← e137]
            have hI137 : hpInv τ137 := by rw [e137]; exact hI75.w (bf_7_5 kd_1) (by omega) (by omega)
            have hF137 : ∀ j i : Nat, j ≠ 1 → τ137 j i = σ j i := fun j i h_0 => by rw [e137]; exact (hpw_fr (by omega)).trans (hF75 j i h_0)
            have hg138 : τ137 1 4 = r2 := by rw [e137]; exact (hpw_fr (Or.inr (by decide))).trans hg76
            have hg139 : τ137 1 1 = r3 := by rw [e137]; exact (hpw_fr (Or.inr (by decide))).trans hg77
            have hg140 : τ137 2 ((r2).toNat) = r72 := by rw [e137]; exact (hpw_fr (Or.inl (by omega))).trans hg78
            have hg141 : τ137 1 6 = r2 := by rw [e137]; exact (hpw_fr (Or.inr (by decide))).trans hg79
            have hg142 : τ137 1 5 = 0 := by rw [e137]; exact hpw_eq
            refine h_return C hr hlk dX7_nextToken_63 ?_
            exact ⟨rfl, hI137, hF137⟩
        · refine h_aload_n C dX7_nextToken_26 0 rfl rfl ?_
          refine h_dup C rfl dX7_nextToken_27 ?_
          refine h_get C O7 4 kd_1 (by decide) wd_39 dX7_nextToken_28 (hp_fvI (by rw [kd_1]; rfl) rfl) ?_
          rw [hg2]
          refine h_iconst C dX7_nextToken_31 ?_
          refine h_iadd C dX7_nextToken_32 rfl ?_
          refine h_put C O7 4 kd_1 (by decide) rfl wd_39 dX7_nextToken_33 rfl rfl (hp_fvI (by rw [kd_1]; rfl) hpu_at) ?_
          obtain ⟨τ143, e143⟩ : ∃ μ : hpMem, μ = hpw τ1 1 4 (r2 + 1) := ⟨_, rfl⟩
          rw [← e143]
          have hI143 : hpInv τ143 := by rw [e143]; exact hI1.w (bf_7_4 kd_1) (by omega) (by omega)
          have hF143 : ∀ j i : Nat, j ≠ 1 → τ143 j i = σ j i := fun j i h_0 => by rw [e143]; exact (hpw_fr (by omega)).trans (hF1 j i h_0)
          have hg144 : τ143 1 1 = r3 := by rw [e143]; exact (hpw_fr (Or.inr (by decide))).trans hg3
          have hg145 : τ143 2 ((r2).toNat) = r72 := by rw [e143]; exact (hpw_fr (Or.inl (by omega))).trans hg72
          have hg146 : τ143 1 4 = r2 + 1 := by rw [e143]; exact hpw_eq
          refine h_goto (tgt := 0) C dX7_nextToken_36 (by decide) ?_
          have hy1_0 := hI143.b (bf_7_4 kd_1)
          exact hp_sub [0] rfl (ih1 _ hI143 hF143 (by omega))
  have hz1_0 := hI.b (bf_7_4 kd_1)
  exact hp_sub [0] rfl (L1 8589934592 _ hI hF0 (by omega))
abbrev rgX7_number : Room := { frames := 1, cells := 0, slots := 0, locals := 29 }
abbrev pgX7_number (z : Nat) (σ : hpMem) : Option Value → hpMem → Prop := fun r τ => (∃ x : Int, r = some (.int (hpI x)) ∧ (hpR x)) ∧ σ = τ
set_option maxHeartbeats 4000000 in
set_option maxRecDepth 20000 in
theorem tgX7_number (l : Launch) (D : va_G) (cy : Nat → ClassId) (z : Nat) (σ : hpMem) (hI : hpInv σ) : hpM l D cy z yX7_number cX7_number 3 (some .int) rgX7_number [.ref (z + 1)] σ (pgX7_number z σ) := by
  refine hp_met rfl (Nat.le_of_ble_eq_true rfl) (fun p e s m below meth c C Z hr hlk => ?_)
  refine h_iconst C dX7_number_0 ?_
  refine h_istore_n (lv' := [(1, .int (hpI 0)), (0, .ref (z + 1))]) C dX7_number_1 rfl (by decide) rfl ?_
  refine h_aload_n C dX7_number_2 1 rfl rfl ?_
  refine h_get C O7 6 kd_1 (by decide) wd_41 dX7_number_3 (hp_fvI (by rw [kd_1]; rfl) rfl) ?_
  obtain ⟨hr1a, hr1b⟩ := hI.b (bf_7_6 kd_1)
  generalize hg1 : σ 1 6 = r1 at hr1a hr1b ⊢
  refine h_istore_n (lv' := [(2, .int (hpI r1)), (1, .int (hpI 0)), (0, .ref (z + 1))]) C dX7_number_6 rfl (by decide) rfl ?_
  have L2 : ∀ (n2 : Nat) (w2_1 : Int) (w2_2 : Int), -2147483648 ≤ w2_1 → w2_1 ≤ 2147483647 → 0 ≤ w2_2 → w2_2 ≤ 2147483647 → (4294967296 - w2_2) < (n2 : Int) → hpF p l e rgX7_number s m [.ref (z + 1)] below meth c 3 D cy z (pgX7_number z σ) σ 7 [(0, .ref (z + 1)), (1, .int (hpI w2_1)), (2, .int (hpI w2_2))] [] := by
    intro n2
    induction n2 with
    | zero => intro w2_1 w2_2 hv2_0 hv2_1 hv2_2 hv2_3 hm2; exfalso; omega
    | succ n2 ih2 =>
      intro w2_1 w2_2 hv2_0 hv2_1 hv2_2 hv2_3 hm2
      refine h_iload_n C dX7_number_7 2 rfl rfl ?_
      refine h_aload_n C dX7_number_8 0 rfl rfl ?_
      refine h_get C O7 4 kd_1 (by decide) wd_39 dX7_number_9 (hp_fvI (by rw [kd_1]; rfl) rfl) ?_
      obtain ⟨hr3a, hr3b⟩ := hI.b (bf_7_4 kd_1)
      generalize hg3 : σ 1 4 = r3 at hr3a hr3b ⊢
      refine h_icmp_ge (tgt := 42) C dX7_number_12 (by decide) ⟨by omega, by omega⟩ ⟨by omega, by omega⟩ (fun h4 => ?_) (fun h4 => ?_)
      · refine h_iload_n C dX7_number_42 1 rfl rfl ?_
        refine h_ireturn C hr hlk dX7_number_43 ?_
        exact ⟨⟨_, rfl, ⟨by omega, by omega⟩⟩, rfl⟩
      · refine h_sipush C dX7_number_15 (by decide) ?_
        refine h_bipush C dX7_number_18 (by decide) ?_
        refine h_iload_n C dX7_number_20 1 rfl rfl ?_
        refine h_imul C dX7_number_21 rfl ?_
        refine hp_anyI (fun r5 hr5 => ?_)
        obtain ⟨hr5a, hr5b⟩ := hr5
        refine h_aload_n C dX7_number_22 0 rfl rfl ?_
        refine h_get C O7 0 kd_1 (by decide) wd_32 dX7_number_23 fr_1_0 ?_
        refine h_iload_n C dX7_number_26 2 rfl rfl ?_
        refine h_baload C dX7_number_27 kd_2 (w2_2).toNat (Int.toNat_of_nonneg (by omega)) (by rw [ln_2]; omega) rfl ?_
        obtain ⟨hr6a, hr6b⟩ := hI.b (bo_2 _)
        generalize hg6 : σ 2 ((w2_2).toNat) = r6 at hr6a hr6b ⊢
        refine h_iadd C dX7_number_28 rfl ?_
        refine hp_anyI (fun r7 hr7 => ?_)
        obtain ⟨hr7a, hr7b⟩ := hr7
        refine h_bipush C dX7_number_29 (by decide) ?_
        refine h_isub C dX7_number_31 rfl ?_
        refine hp_anyI (fun r8 hr8 => ?_)
        obtain ⟨hr8a, hr8b⟩ := hr8
        refine h_mmin C wd_513 wd_514 wd_515 wd_15 dX7_number_32 ⟨by decide, by decide⟩ ⟨by omega, by omega⟩ (Nat.le_of_ble_eq_true rfl) (Nat.le_of_ble_eq_true rfl) ⟨Nat.le_of_ble_eq_true rfl, Nat.le_of_ble_eq_true rfl⟩ (fun r9 hr9a hr9b hr9c => ?_)
        refine h_istore_n (lv' := [(1, .int (hpI r9)), (0, .ref (z + 1)), (2, .int (hpI w2_2))]) C dX7_number_35 rfl (by decide) rfl ?_
        refine h_iinc (lv' := [(2, .int (hpI (w2_2 + 1))), (1, .int (hpI r9)), (0, .ref (z + 1))]) C dX7_number_36 2 rfl rfl (by decide) rfl ?_
        refine h_goto (tgt := 7) C dX7_number_39 (by decide) ?_
        exact hp_sub [2, 1, 0] rfl (ih2 r9 (w2_2 + 1) (by omega) (by omega) (by omega) (by omega) (by omega))
  exact hp_sub [2, 1, 0] rfl (L2 8589934592 0 r1 (by omega) (by omega) (by omega) (by omega) (by omega))
abbrev rgX7_fail : Room := { frames := 0, cells := 0, slots := 0, locals := 0 }
abbrev pgX7_fail (z : Nat) (σ : hpMem) (a0 : Int) : Option Value → hpMem → Prop := fun r τ => r = none ∧ hpInv τ ∧ (∀ j i : Nat, j ≠ 1 → τ j i = σ j i)
set_option maxHeartbeats 4000000 in
set_option maxRecDepth 20000 in
theorem tgX7_fail (l : Launch) (D : va_G) (cy : Nat → ClassId) (z : Nat) (σ : hpMem) (a0 : Int) (ha0 : hpR a0) (hI : hpInv σ) : hpM l D cy z yX7_fail cX7_fail 2 none rgX7_fail [.ref (z + 1), .int (hpI a0)] σ (pgX7_fail z σ a0) := by
  obtain ⟨ha01, ha02⟩ := ha0
  refine hp_met rfl (Nat.le_of_ble_eq_true rfl) (fun p e s m below meth c C Z hr hlk => ?_)
  have hF0 : ∀ j i : Nat, j ≠ 1 → σ j i = σ j i := fun j i _ => rfl
  refine h_aload_n C dX7_fail_0 0 rfl rfl ?_
  refine h_get C O7 2 kd_1 (by decide) wd_35 dX7_fail_1 (hp_fvI (by rw [kd_1]; rfl) rfl) ?_
  obtain ⟨hr1a, hr1b⟩ := hI.b (bf_7_2 kd_1)
  generalize hg1 : σ 1 2 = r1 at hr1a hr1b ⊢
  refine h_if_ne (tgt := 20) C dX7_fail_4 (by decide) ⟨by omega, by omega⟩ (fun h2 => ?_) (fun h2 => ?_)
  · refine h_return C hr hlk dX7_fail_20 ?_
    exact ⟨rfl, hI, hF0⟩
  · refine h_aload_n C dX7_fail_7 0 rfl rfl ?_
    refine h_iload_n C dX7_fail_8 1 rfl rfl ?_
    refine h_put C O7 2 kd_1 (by decide) rfl wd_35 dX7_fail_9 rfl rfl (hp_fvI (by rw [kd_1]; rfl) hpu_at) ?_
    obtain ⟨τ3, e3⟩ : ∃ μ : hpMem, μ = hpw σ 1 2 a0 := ⟨_, rfl⟩
    rw [← e3]
    have hI3 : hpInv τ3 := by rw [e3]; exact hI.w (bf_7_2 kd_1) (by omega) (by omega)
    have hF3 : ∀ j i : Nat, j ≠ 1 → τ3 j i = σ j i := fun j i h_0 => by rw [e3]; exact (hpw_fr (by omega)).trans (hF0 j i h_0)
    have hg4 : τ3 1 2 = a0 := by rw [e3]; exact hpw_eq
    refine h_aload_n C dX7_fail_12 0 rfl rfl ?_
    refine h_aload_n C dX7_fail_13 0 rfl rfl ?_
    refine h_get C O7 6 kd_1 (by decide) wd_41 dX7_fail_14 (hp_fvI (by rw [kd_1]; rfl) rfl) ?_
    obtain ⟨hr5a, hr5b⟩ := hI3.b (bf_7_6 kd_1)
    generalize hg5 : τ3 1 6 = r5 at hr5a hr5b ⊢
    refine h_put C O7 3 kd_1 (by decide) rfl wd_37 dX7_fail_17 rfl rfl (hp_fvI (by rw [kd_1]; rfl) hpu_at) ?_
    obtain ⟨τ6, e6⟩ : ∃ μ : hpMem, μ = hpw τ3 1 3 r5 := ⟨_, rfl⟩
    rw [← e6]
    have hI6 : hpInv τ6 := by rw [e6]; exact hI3.w (bf_7_3 kd_1) (by omega) (by omega)
    have hF6 : ∀ j i : Nat, j ≠ 1 → τ6 j i = σ j i := fun j i h_0 => by rw [e6]; exact (hpw_fr (by omega)).trans (hF3 j i h_0)
    have hg7 : τ6 1 2 = a0 := by rw [e6]; exact (hpw_fr (Or.inr (by decide))).trans hg4
    have hg8 : τ6 1 6 = r5 := by rw [e6]; exact (hpw_fr (Or.inr (by decide))).trans hg5
    have hg9 : τ6 1 3 = r5 := by rw [e6]; exact hpw_eq
    refine h_return C hr hlk dX7_fail_20 ?_
    exact ⟨rfl, hI6, hF6⟩
abbrev rgX7_expect : Room := { frames := 2, cells := 0, slots := 0, locals := 41 }
abbrev pgX7_expect (z : Nat) (σ : hpMem) (a0 : Int) : Option Value → hpMem → Prop := fun r τ => r = none ∧ hpInv τ ∧ (∀ j i : Nat, j ≠ 1 → τ j i = σ j i)
set_option maxHeartbeats 4000000 in
set_option maxRecDepth 20000 in
theorem tgX7_expect (l : Launch) (D : va_G) (cy : Nat → ClassId) (z : Nat) (σ : hpMem) (a0 : Int) (ha0 : 0 ≤ a0 ∧ a0 ≤ 1) (hI : hpInv σ) : hpM l D cy z yX7_expect cX7_expect 2 none rgX7_expect [.ref (z + 1), .int (hpI a0)] σ (pgX7_expect z σ a0) := by
  obtain ⟨ha01, ha02⟩ := ha0
  refine hp_met rfl (Nat.le_of_ble_eq_true rfl) (fun p e s m below meth c C Z hr hlk => ?_)
  have hF0 : ∀ j i : Nat, j ≠ 1 → σ j i = σ j i := fun j i _ => rfl
  refine h_aload_n C dX7_expect_0 0 rfl rfl ?_
  refine h_get C O7 2 kd_1 (by decide) wd_35 dX7_expect_1 (hp_fvI (by rw [kd_1]; rfl) rfl) ?_
  obtain ⟨hr1a, hr1b⟩ := hI.b (bf_7_2 kd_1)
  generalize hg1 : σ 1 2 = r1 at hr1a hr1b ⊢
  refine h_if_eq (tgt := 8) C dX7_expect_4 (by decide) ⟨by omega, by omega⟩ (fun h2 => ?_) (fun h2 => ?_)
  · refine h_iload_n C dX7_expect_8 1 rfl rfl ?_
    refine h_if_eq (tgt := 19) C dX7_expect_9 (by decide) ⟨by omega, by omega⟩ (fun h3 => ?_) (fun h3 => ?_)
    · refine h_aload_n C dX7_expect_19 0 rfl rfl ?_
      refine h_iconst C dX7_expect_20 ?_
      refine h_callV (As := [.int (hpI 1)]) (rest := []) C Z yyX7_fail wd_500 (tgX7_fail l D cy z _ 1 ⟨by decide, by decide⟩ hI) kd_1 rfl rfl ⟨rfl, rfl, Nat.le_of_ble_eq_true rfl, Nat.le_of_ble_eq_true rfl⟩ ⟨Nat.le_of_ble_eq_true rfl, Nat.le_of_ble_eq_true rfl⟩ (Nat.le_of_ble_eq_true rfl) dX7_expect_21 (fun r4 τ4 hp4 => ?_)
      obtain ⟨rfl, hI4, hG4⟩ := hp4
      have hF4 : ∀ j i : Nat, j ≠ 1 → τ4 j i = σ j i := fun j i h_0 => (hG4 j i (by omega)).trans (hF0 j i h_0)
      show hpV _ _ _ _ _ _ _ _ _ _ _ _ _ _ _ _ _ _ _ _ _ []
      refine h_return C hr hlk dX7_expect_24 ?_
      exact ⟨rfl, hI4, hF4⟩
    · refine h_aload_n C dX7_expect_12 0 rfl rfl ?_
      refine h_callV (As := []) (rest := []) C Z yyX7_nextToken wd_422 (tgX7_nextToken l D cy z _ hI) kd_1 rfl rfl ⟨rfl, rfl, Nat.le_of_ble_eq_true rfl, Nat.le_of_ble_eq_true rfl⟩ ⟨Nat.le_of_ble_eq_true rfl, Nat.le_of_ble_eq_true rfl⟩ (Nat.le_of_ble_eq_true rfl) dX7_expect_13 (fun r5 τ5 hp5 => ?_)
      obtain ⟨rfl, hI5, hG5⟩ := hp5
      have hF5 : ∀ j i : Nat, j ≠ 1 → τ5 j i = σ j i := fun j i h_0 => (hG5 j i (by omega)).trans (hF0 j i h_0)
      show hpV _ _ _ _ _ _ _ _ _ _ _ _ _ _ _ _ _ _ _ _ _ []
      refine h_goto (tgt := 24) C dX7_expect_16 (by decide) ?_
      refine h_return C hr hlk dX7_expect_24 ?_
      exact ⟨rfl, hI5, hF5⟩
  · refine h_return C hr hlk dX7_expect_7 ?_
    exact ⟨rfl, hI, hF0⟩
abbrev rgX7_expectNumber : Room := { frames := 2, cells := 0, slots := 0, locals := 51 }
abbrev pgX7_expectNumber (z : Nat) (σ : hpMem) (a0 : Int) (a1 : Int) : Option Value → hpMem → Prop := fun r τ => (∃ x : Int, r = some (.int (hpI x)) ∧ (hpR x) ∧ (a0 ≤ x ∧ x ≤ a1)) ∧ hpInv τ ∧ (∀ j i : Nat, j ≠ 1 → τ j i = σ j i)
set_option maxHeartbeats 4000000 in
set_option maxRecDepth 20000 in
theorem tgX7_expectNumber (l : Launch) (D : va_G) (cy : Nat → ClassId) (z : Nat) (σ : hpMem) (a0 : Int) (ha0 : hpR a0) (a1 : Int) (ha1 : hpR a1) (hI : hpInv σ) (hlh : a0 ≤ a1) : hpM l D cy z yX7_expectNumber cX7_expectNumber 4 (some .int) rgX7_expectNumber [.ref (z + 1), .int (hpI a0), .int (hpI a1)] σ (pgX7_expectNumber z σ a0 a1) := by
  obtain ⟨ha01, ha02⟩ := ha0
  obtain ⟨ha11, ha12⟩ := ha1
  refine hp_met rfl (Nat.le_of_ble_eq_true rfl) (fun p e s m below meth c C Z hr hlk => ?_)
  have hF0 : ∀ j i : Nat, j ≠ 1 → σ j i = σ j i := fun j i _ => rfl
  refine h_aload_n C dX7_expectNumber_0 0 rfl rfl ?_
  refine h_get C O7 2 kd_1 (by decide) wd_35 dX7_expectNumber_1 (hp_fvI (by rw [kd_1]; rfl) rfl) ?_
  obtain ⟨hr1a, hr1b⟩ := hI.b (bf_7_2 kd_1)
  generalize hg1 : σ 1 2 = r1 at hr1a hr1b ⊢
  refine h_if_eq (tgt := 9) C dX7_expectNumber_4 (by decide) ⟨by omega, by omega⟩ (fun h2 => ?_) (fun h2 => ?_)
  · refine h_aload_n C dX7_expectNumber_9 0 rfl rfl ?_
    refine h_get C O7 5 kd_1 (by decide) wd_40 dX7_expectNumber_10 (hp_fvI (by rw [kd_1]; rfl) rfl) ?_
    obtain ⟨hr3a, hr3b⟩ := hI.b (bf_7_5 kd_1)
    generalize hg3 : σ 1 5 = r3 at hr3a hr3b ⊢
    refine h_iconst C dX7_expectNumber_13 ?_
    refine h_icmp_eq (tgt := 24) C dX7_expectNumber_14 (by decide) ⟨by omega, by omega⟩ ⟨by decide, by decide⟩ (fun h4 => ?_) (fun h4 => ?_)
    · refine h_aload_n C dX7_expectNumber_24 0 rfl rfl ?_
      refine h_callV (As := []) (rest := []) C Z yyX7_number wd_509 (tgX7_number l D cy z _ hI) kd_1 rfl rfl ⟨rfl, rfl, Nat.le_of_ble_eq_true rfl, Nat.le_of_ble_eq_true rfl⟩ ⟨Nat.le_of_ble_eq_true rfl, Nat.le_of_ble_eq_true rfl⟩ (Nat.le_of_ble_eq_true rfl) dX7_expectNumber_25 (fun r5 τ5 hp5 => ?_)
      obtain ⟨⟨x5, rfl, ⟨hx5a, hx5b⟩⟩, rfl⟩ := hp5
      show hpV _ _ _ _ _ _ _ _ _ _ _ _ _ _ _ _ _ _ _ _ _ (_ :: _)
      refine h_istore_n (lv' := [(3, .int (hpI x5)), (0, .ref (z + 1)), (1, .int (hpI a0)), (2, .int (hpI a1))]) C dX7_expectNumber_28 rfl (by decide) rfl ?_
      refine h_iload_n C dX7_expectNumber_29 0 rfl rfl ?_
      refine h_iload_n C dX7_expectNumber_30 2 rfl rfl ?_
      refine h_icmp_lt (tgt := 39) C dX7_expectNumber_31 (by decide) ⟨by omega, by omega⟩ ⟨by omega, by omega⟩ (fun h6 => ?_) (fun h6 => ?_)
      · refine h_aload_n C dX7_expectNumber_39 1 rfl rfl ?_
        refine h_iconst C dX7_expectNumber_40 ?_
        refine h_callV (As := [.int (hpI 2)]) (rest := []) C Z yyX7_fail wd_500 (tgX7_fail l D cy z _ 2 ⟨by decide, by decide⟩ hI) kd_1 rfl rfl ⟨rfl, rfl, Nat.le_of_ble_eq_true rfl, Nat.le_of_ble_eq_true rfl⟩ ⟨Nat.le_of_ble_eq_true rfl, Nat.le_of_ble_eq_true rfl⟩ (Nat.le_of_ble_eq_true rfl) dX7_expectNumber_41 (fun r7 τ7 hp7 => ?_)
        obtain ⟨rfl, hI7, hG7⟩ := hp7
        have hF7 : ∀ j i : Nat, j ≠ 1 → τ7 j i = σ j i := fun j i h_0 => (hG7 j i (by omega)).trans (hF0 j i h_0)
        show hpV _ _ _ _ _ _ _ _ _ _ _ _ _ _ _ _ _ _ _ _ _ []
        refine h_iload_n C dX7_expectNumber_44 2 rfl rfl ?_
        refine h_ireturn C hr hlk dX7_expectNumber_45 ?_
        exact ⟨⟨_, rfl, ⟨by omega, by omega⟩, by omega⟩, hI7, hF7⟩
      · refine h_iload_n C dX7_expectNumber_34 0 rfl rfl ?_
        refine h_iload_n C dX7_expectNumber_35 3 rfl rfl ?_
        refine h_icmp_le (tgt := 46) C dX7_expectNumber_36 (by decide) ⟨by omega, by omega⟩ ⟨by omega, by omega⟩ (fun h8 => ?_) (fun h8 => ?_)
        · refine h_aload_n C dX7_expectNumber_46 1 rfl rfl ?_
          refine h_callV (As := []) (rest := []) C Z yyX7_nextToken wd_422 (tgX7_nextToken l D cy z _ hI) kd_1 rfl rfl ⟨rfl, rfl, Nat.le_of_ble_eq_true rfl, Nat.le_of_ble_eq_true rfl⟩ ⟨Nat.le_of_ble_eq_true rfl, Nat.le_of_ble_eq_true rfl⟩ (Nat.le_of_ble_eq_true rfl) dX7_expectNumber_47 (fun r9 τ9 hp9 => ?_)
          obtain ⟨rfl, hI9, hG9⟩ := hp9
          have hF9 : ∀ j i : Nat, j ≠ 1 → τ9 j i = σ j i := fun j i h_0 => (hG9 j i (by omega)).trans (hF0 j i h_0)
          show hpV _ _ _ _ _ _ _ _ _ _ _ _ _ _ _ _ _ _ _ _ _ []
          refine h_iload_n C dX7_expectNumber_50 0 rfl rfl ?_
          refine h_ireturn C hr hlk dX7_expectNumber_51 ?_
          exact ⟨⟨_, rfl, ⟨by omega, by omega⟩, by omega⟩, hI9, hF9⟩
        · refine h_aload_n C dX7_expectNumber_39 1 rfl rfl ?_
          refine h_iconst C dX7_expectNumber_40 ?_
          refine h_callV (As := [.int (hpI 2)]) (rest := []) C Z yyX7_fail wd_500 (tgX7_fail l D cy z _ 2 ⟨by decide, by decide⟩ hI) kd_1 rfl rfl ⟨rfl, rfl, Nat.le_of_ble_eq_true rfl, Nat.le_of_ble_eq_true rfl⟩ ⟨Nat.le_of_ble_eq_true rfl, Nat.le_of_ble_eq_true rfl⟩ (Nat.le_of_ble_eq_true rfl) dX7_expectNumber_41 (fun r10 τ10 hp10 => ?_)
          obtain ⟨rfl, hI10, hG10⟩ := hp10
          have hF10 : ∀ j i : Nat, j ≠ 1 → τ10 j i = σ j i := fun j i h_0 => (hG10 j i (by omega)).trans (hF0 j i h_0)
          show hpV _ _ _ _ _ _ _ _ _ _ _ _ _ _ _ _ _ _ _ _ _ []
          refine h_iload_n C dX7_expectNumber_44 2 rfl rfl ?_
          refine h_ireturn C hr hlk dX7_expectNumber_45 ?_
          exact ⟨⟨_, rfl, ⟨by omega, by omega⟩, by omega⟩, hI10, hF10⟩
    · refine h_aload_n C dX7_expectNumber_17 0 rfl rfl ?_
      refine h_iconst C dX7_expectNumber_18 ?_
      refine h_callV (As := [.int (hpI 1)]) (rest := []) C Z yyX7_fail wd_500 (tgX7_fail l D cy z _ 1 ⟨by decide, by decide⟩ hI) kd_1 rfl rfl ⟨rfl, rfl, Nat.le_of_ble_eq_true rfl, Nat.le_of_ble_eq_true rfl⟩ ⟨Nat.le_of_ble_eq_true rfl, Nat.le_of_ble_eq_true rfl⟩ (Nat.le_of_ble_eq_true rfl) dX7_expectNumber_19 (fun r11 τ11 hp11 => ?_)
      obtain ⟨rfl, hI11, hG11⟩ := hp11
      have hF11 : ∀ j i : Nat, j ≠ 1 → τ11 j i = σ j i := fun j i h_0 => (hG11 j i (by omega)).trans (hF0 j i h_0)
      show hpV _ _ _ _ _ _ _ _ _ _ _ _ _ _ _ _ _ _ _ _ _ []
      refine h_iload_n C dX7_expectNumber_22 1 rfl rfl ?_
      refine h_ireturn C hr hlk dX7_expectNumber_23 ?_
      exact ⟨⟨_, rfl, ⟨by omega, by omega⟩, by omega⟩, hI11, hF11⟩
  · refine h_iload_n C dX7_expectNumber_7 1 rfl rfl ?_
    refine h_ireturn C hr hlk dX7_expectNumber_8 ?_
    exact ⟨⟨_, rfl, ⟨by omega, by omega⟩, by omega⟩, hI, hF0⟩
abbrev rgX7_isWord : Room := { frames := 4, cells := 0, slots := 0, locals := 85 }
abbrev pgX7_isWord (z : Nat) (σ : hpMem) (a0 : Nat) : Option Value → hpMem → Prop := fun r τ => (∃ x : Int, r = some (.int (hpI x)) ∧ (0 ≤ x ∧ x ≤ 1)) ∧ σ = τ
set_option maxHeartbeats 4000000 in
set_option maxRecDepth 20000 in
theorem tgX7_isWord (l : Launch) (D : va_G) (cy : Nat → ClassId) (z : Nat) (σ : hpMem) (a0 : Nat) (ha0 : a0 < 16) (hI : hpInv σ) : hpM l D cy z yX7_isWord cX7_isWord 3 (some .boolean) rgX7_isWord [.ref (z + 1), .ref (cy (1000 + a0))] σ (pgX7_isWord z σ a0) := by
  have hl_a0 := hpsL_le ha0
  refine hp_met rfl (Nat.le_of_ble_eq_true rfl) (fun p e s m below meth c C Z hr hlk => ?_)
  refine h_aload_n C dX7_isWord_0 0 rfl rfl ?_
  refine h_get C O7 5 kd_1 (by decide) wd_40 dX7_isWord_1 (hp_fvI (by rw [kd_1]; rfl) rfl) ?_
  obtain ⟨hr1a, hr1b⟩ := hI.b (bf_7_5 kd_1)
  generalize hg1 : σ 1 5 = r1 at hr1a hr1b ⊢
  refine h_iconst C dX7_isWord_4 ?_
  refine h_icmp_ne (tgt := 24) C dX7_isWord_5 (by decide) ⟨by omega, by omega⟩ ⟨by decide, by decide⟩ (fun h2 => ?_) (fun h2 => ?_)
  · refine h_iconst C dX7_isWord_24 ?_
    refine h_zreturn C (by omega) hr hlk dX7_isWord_25 ?_
    exact ⟨⟨_, rfl, ⟨by decide, by decide⟩⟩, rfl⟩
  · refine h_aload_n C dX7_isWord_8 0 rfl rfl ?_
    refine h_get C O7 4 kd_1 (by decide) wd_39 dX7_isWord_9 (hp_fvI (by rw [kd_1]; rfl) rfl) ?_
    obtain ⟨hr3a, hr3b⟩ := hI.b (bf_7_4 kd_1)
    generalize hg3 : σ 1 4 = r3 at hr3a hr3b ⊢
    refine h_aload_n C dX7_isWord_12 0 rfl rfl ?_
    refine h_get C O7 6 kd_1 (by decide) wd_41 dX7_isWord_13 (hp_fvI (by rw [kd_1]; rfl) rfl) ?_
    obtain ⟨hr4a, hr4b⟩ := hI.b (bf_7_6 kd_1)
    generalize hg4 : σ 1 6 = r4 at hr4a hr4b ⊢
    refine h_isub C dX7_isWord_16 rfl ?_
    refine h_aload_n C dX7_isWord_17 1 rfl rfl ?_
    refine h_callO (As := []) (rest := [.int (hpI (r3 - r4))]) C Z yyJ0_length_8abf5 wd_448 (jdJ0_length_8abf5 l D cy z _ ha0) (Z.2.2 a0 ha0).2.1 rfl rfl ⟨rfl, rfl, Nat.le_of_ble_eq_true rfl, Nat.le_of_ble_eq_true rfl⟩ ⟨Nat.le_of_ble_eq_true rfl, Nat.le_of_ble_eq_true rfl⟩ (Nat.le_of_ble_eq_true rfl) dX7_isWord_18 (fun r5 τ5 hp5 => ?_)
    obtain ⟨rfl, rfl⟩ := hp5
    show hpV _ _ _ _ _ _ _ _ _ _ _ _ _ _ _ _ _ _ _ _ _ (_ :: _)
    refine h_icmp_eq (tgt := 26) C dX7_isWord_21 (by decide) ⟨by omega, by omega⟩ ⟨by omega, by omega⟩ (fun h6 => ?_) (fun h6 => ?_)
    · refine h_iconst C dX7_isWord_26 ?_
      refine h_istore_n (lv' := [(2, .int (hpI 0)), (0, .ref (z + 1)), (1, .ref (cy (1000 + a0)))]) C dX7_isWord_27 rfl (by decide) rfl ?_
      have L7 : ∀ (n7 : Nat) (w7_2 : Int), 0 ≤ w7_2 → w7_2 ≤ 2147483647 → (4294967296 - w7_2) < (n7 : Int) → hpF p l e rgX7_isWord s m [.ref (z + 1), .ref (cy (1000 + a0))] below meth c 3 D cy z (pgX7_isWord z σ a0) σ 28 [(0, .ref (z + 1)), (1, .ref (cy (1000 + a0))), (2, .int (hpI w7_2))] [] := by
        intro n7
        induction n7 with
        | zero => intro w7_2 hv7_0 hv7_1 hm7; exfalso; omega
        | succ n7 ih7 =>
          intro w7_2 hv7_0 hv7_1 hm7
          refine h_iload_n C dX7_isWord_28 2 rfl rfl ?_
          refine h_aload_n C dX7_isWord_29 1 rfl rfl ?_
          refine h_callO (As := []) (rest := [.int (hpI w7_2)]) C Z yyJ0_length_8abf5 wd_448 (jdJ0_length_8abf5 l D cy z _ ha0) (Z.2.2 a0 ha0).2.1 rfl rfl ⟨rfl, rfl, Nat.le_of_ble_eq_true rfl, Nat.le_of_ble_eq_true rfl⟩ ⟨Nat.le_of_ble_eq_true rfl, Nat.le_of_ble_eq_true rfl⟩ (Nat.le_of_ble_eq_true rfl) dX7_isWord_30 (fun r8 τ8 hp8 => ?_)
          obtain ⟨rfl, rfl⟩ := hp8
          show hpV _ _ _ _ _ _ _ _ _ _ _ _ _ _ _ _ _ _ _ _ _ (_ :: _)
          refine h_icmp_ge (tgt := 63) C dX7_isWord_33 (by decide) ⟨by omega, by omega⟩ ⟨by omega, by omega⟩ (fun h9 => ?_) (fun h9 => ?_)
          · refine h_iconst C dX7_isWord_63 ?_
            refine h_zreturn C (by omega) hr hlk dX7_isWord_64 ?_
            exact ⟨⟨_, rfl, ⟨by decide, by decide⟩⟩, rfl⟩
          · refine h_aload_n C dX7_isWord_36 0 rfl rfl ?_
            refine h_get C O7 0 kd_1 (by decide) wd_32 dX7_isWord_37 fr_1_0 ?_
            refine h_aload_n C dX7_isWord_40 0 rfl rfl ?_
            refine h_get C O7 6 kd_1 (by decide) wd_41 dX7_isWord_41 (hp_fvI (by rw [kd_1]; rfl) rfl) ?_
            rw [hg4]
            refine h_iload_n C dX7_isWord_44 2 rfl rfl ?_
            refine h_iadd C dX7_isWord_45 rfl ?_
            refine h_baload C dX7_isWord_46 kd_2 (r4 + w7_2).toNat (Int.toNat_of_nonneg (by omega)) (by rw [ln_2]; omega) rfl ?_
            obtain ⟨hr10a, hr10b⟩ := hI.b (bo_2 _)
            generalize hg10 : σ 2 ((r4 + w7_2).toNat) = r10 at hr10a hr10b ⊢
            refine h_aload_n C dX7_isWord_47 1 rfl rfl ?_
            refine h_iload_n C dX7_isWord_48 2 rfl rfl ?_
            refine h_callO (As := [.int (hpI w7_2)]) (rest := [.int (hpI r10)]) C Z yyJ0_charAt_5068e wd_458 (jdJ0_charAt_5068e l D cy z _ ha0 (by omega) (by omega) (by omega)) (Z.2.2 a0 ha0).2.1 rfl rfl ⟨rfl, rfl, Nat.le_of_ble_eq_true rfl, Nat.le_of_ble_eq_true rfl⟩ ⟨Nat.le_of_ble_eq_true rfl, Nat.le_of_ble_eq_true rfl⟩ (Nat.le_of_ble_eq_true rfl) dX7_isWord_49 (fun r11 τ11 hp11 => ?_)
            obtain ⟨rfl, rfl⟩ := hp11
            obtain ⟨hx11a, hx11b⟩ := hpsC_b a0 ((w7_2).toNat)
            show hpV _ _ _ _ _ _ _ _ _ _ _ _ _ _ _ _ _ _ _ _ _ (_ :: _)
            refine h_icmp_eq (tgt := 57) C dX7_isWord_52 (by decide) ⟨by omega, by omega⟩ ⟨by omega, by omega⟩ (fun h12 => ?_) (fun h12 => ?_)
            · refine h_iinc (lv' := [(2, .int (hpI (w7_2 + 1))), (0, .ref (z + 1)), (1, .ref (cy (1000 + a0)))]) C dX7_isWord_57 2 rfl rfl (by decide) rfl ?_
              refine h_goto (tgt := 28) C dX7_isWord_60 (by decide) ?_
              exact hp_sub [1, 2, 0] rfl (ih7 (w7_2 + 1) (by omega) (by omega) (by omega))
            · refine h_iconst C dX7_isWord_55 ?_
              refine h_zreturn C (by omega) hr hlk dX7_isWord_56 ?_
              exact ⟨⟨_, rfl, ⟨by decide, by decide⟩⟩, rfl⟩
      exact hp_sub [1, 2, 0] rfl (L7 8589934592 0 (by omega) (by omega) (by omega))
    · refine h_iconst C dX7_isWord_24 ?_
      refine h_zreturn C (by omega) hr hlk dX7_isWord_25 ?_
      exact ⟨⟨_, rfl, ⟨by decide, by decide⟩⟩, rfl⟩
abbrev rgX7_readFirst : Room := { frames := 5, cells := 0, slots := 0, locals := 107 }
abbrev pgX7_readFirst (z : Nat) (σ : hpMem) : Option Value → hpMem → Prop := fun r τ => r = none ∧ hpInv τ ∧ (∀ j i : Nat, j ≠ 1 → (j < 9 ∨ 14 < j) → τ j i = σ j i)
set_option maxHeartbeats 4000000 in
set_option maxRecDepth 20000 in
theorem tgX7_readFirst (l : Launch) (D : va_G) (cy : Nat → ClassId) (z : Nat) (σ : hpMem) (hI : hpInv σ) : hpM l D cy z yX7_readFirst cX7_readFirst 2 none rgX7_readFirst [.ref (z + 1), .ref (z + 9)] σ (pgX7_readFirst z σ) := by
  refine hp_met rfl (Nat.le_of_ble_eq_true rfl) (fun p e s m below meth c C Z hr hlk => ?_)
  have hF0 : ∀ j i : Nat, j ≠ 1 → (j < 9 ∨ 14 < j) → σ j i = σ j i := fun j i _ _ => rfl
  refine h_aload_n C dX7_readFirst_0 0 rfl rfl ?_
  refine h_aload_n C dX7_readFirst_1 0 rfl rfl ?_
  refine h_ldcS (i := 0) C Z (by decide) rfl dX7_readFirst_2 ?_
  refine h_callV (As := [.ref (cy (1000 + 0))]) (rest := [.ref (z + 1)]) C Z yyX7_isWord wd_444 (tgX7_isWord l D cy z _ 0 (by decide) hI) kd_1 rfl rfl ⟨rfl, rfl, Nat.le_of_ble_eq_true rfl, Nat.le_of_ble_eq_true rfl⟩ ⟨Nat.le_of_ble_eq_true rfl, Nat.le_of_ble_eq_true rfl⟩ (Nat.le_of_ble_eq_true rfl) dX7_readFirst_4 (fun r1 τ1 hp1 => ?_)
  obtain ⟨⟨x1, rfl, ⟨hx1a, hx1b⟩⟩, rfl⟩ := hp1
  show hpV _ _ _ _ _ _ _ _ _ _ _ _ _ _ _ _ _ _ _ _ _ (_ :: _)
  refine h_callV (As := [.int (hpI x1)]) (rest := []) C Z yyX7_expect wd_496 (tgX7_expect l D cy z _ x1 ⟨by omega, by omega⟩ hI) kd_1 rfl rfl ⟨rfl, rfl, Nat.le_of_ble_eq_true rfl, Nat.le_of_ble_eq_true rfl⟩ ⟨Nat.le_of_ble_eq_true rfl, Nat.le_of_ble_eq_true rfl⟩ (Nat.le_of_ble_eq_true rfl) dX7_readFirst_7 (fun r2 τ2 hp2 => ?_)
  obtain ⟨rfl, hI2, hG2⟩ := hp2
  have hF2 : ∀ j i : Nat, j ≠ 1 → (j < 9 ∨ 14 < j) → τ2 j i = σ j i := fun j i h_0 h_1 => (hG2 j i (by omega)).trans (hF0 j i h_0 h_1)
  show hpV _ _ _ _ _ _ _ _ _ _ _ _ _ _ _ _ _ _ _ _ _ []
  refine h_aload_n C dX7_readFirst_10 0 rfl rfl ?_
  refine h_aload_n C dX7_readFirst_11 0 rfl rfl ?_
  refine h_ldcS (i := 1) C Z (by decide) rfl dX7_readFirst_12 ?_
  refine h_callV (As := [.ref (cy (1000 + 1))]) (rest := [.ref (z + 1)]) C Z yyX7_isWord wd_444 (tgX7_isWord l D cy z _ 1 (by decide) hI2) kd_1 rfl rfl ⟨rfl, rfl, Nat.le_of_ble_eq_true rfl, Nat.le_of_ble_eq_true rfl⟩ ⟨Nat.le_of_ble_eq_true rfl, Nat.le_of_ble_eq_true rfl⟩ (Nat.le_of_ble_eq_true rfl) dX7_readFirst_14 (fun r3 τ3 hp3 => ?_)
  obtain ⟨⟨x3, rfl, ⟨hx3a, hx3b⟩⟩, rfl⟩ := hp3
  show hpV _ _ _ _ _ _ _ _ _ _ _ _ _ _ _ _ _ _ _ _ _ (_ :: _)
  refine h_callV (As := [.int (hpI x3)]) (rest := []) C Z yyX7_expect wd_496 (tgX7_expect l D cy z _ x3 ⟨by omega, by omega⟩ hI2) kd_1 rfl rfl ⟨rfl, rfl, Nat.le_of_ble_eq_true rfl, Nat.le_of_ble_eq_true rfl⟩ ⟨Nat.le_of_ble_eq_true rfl, Nat.le_of_ble_eq_true rfl⟩ (Nat.le_of_ble_eq_true rfl) dX7_readFirst_17 (fun r4 τ4 hp4 => ?_)
  obtain ⟨rfl, hI4, hG4⟩ := hp4
  have hF4 : ∀ j i : Nat, j ≠ 1 → (j < 9 ∨ 14 < j) → τ4 j i = σ j i := fun j i h_0 h_1 => (hG4 j i (by omega)).trans (hF2 j i h_0 h_1)
  show hpV _ _ _ _ _ _ _ _ _ _ _ _ _ _ _ _ _ _ _ _ _ []
  refine h_aload_n C dX7_readFirst_20 1 rfl rfl ?_
  refine h_aload_n C dX7_readFirst_21 0 rfl rfl ?_
  refine h_iconst C dX7_readFirst_22 ?_
  refine h_bipush C dX7_readFirst_23 (by decide) ?_
  refine h_callV (As := [.int (hpI 1), .int (hpI 16)]) (rest := [.ref (z + 9)]) C Z yyX7_expectNumber wd_505 (tgX7_expectNumber l D cy z _ 1 ⟨by decide, by decide⟩ 16 ⟨by decide, by decide⟩ hI4 (by omega)) kd_1 rfl rfl ⟨rfl, rfl, Nat.le_of_ble_eq_true rfl, Nat.le_of_ble_eq_true rfl⟩ ⟨Nat.le_of_ble_eq_true rfl, Nat.le_of_ble_eq_true rfl⟩ (Nat.le_of_ble_eq_true rfl) dX7_readFirst_25 (fun r5 τ5 hp5 => ?_)
  obtain ⟨⟨x5, rfl, ⟨hx5a, hx5b⟩, hx5⟩, hI5, hG5⟩ := hp5
  have hF5 : ∀ j i : Nat, j ≠ 1 → (j < 9 ∨ 14 < j) → τ5 j i = σ j i := fun j i h_0 h_1 => (hG5 j i (by omega)).trans (hF4 j i h_0 h_1)
  show hpV _ _ _ _ _ _ _ _ _ _ _ _ _ _ _ _ _ _ _ _ _ (_ :: _)
  refine h_putN C O1 5 kd_9 (by decide) rfl nw_84 dX7_readFirst_28 rfl rfl (hp_fvI (by rw [kd_9]; rfl) hpu_at) ?_
  obtain ⟨τ6, e6⟩ : ∃ μ : hpMem, μ = hpw τ5 9 5 x5 := ⟨_, rfl⟩
  rw [← e6]
  have hI6 : hpInv τ6 := by rw [e6]; exact hI5.w (bf_1_5 kd_9) (by omega) (by omega)
  have hF6 : ∀ j i : Nat, j ≠ 1 → (j < 9 ∨ 14 < j) → τ6 j i = σ j i := fun j i h_0 h_1 => by rw [e6]; exact (hpw_fr (by omega)).trans (hF5 j i h_0 h_1)
  have hg7 : τ6 9 5 = x5 := by rw [e6]; exact hpw_eq
  refine h_aload_n C dX7_readFirst_31 0 rfl rfl ?_
  refine h_aload_n C dX7_readFirst_32 0 rfl rfl ?_
  refine h_ldcS (i := 2) C Z (by decide) rfl dX7_readFirst_33 ?_
  refine h_callV (As := [.ref (cy (1000 + 2))]) (rest := [.ref (z + 1)]) C Z yyX7_isWord wd_444 (tgX7_isWord l D cy z _ 2 (by decide) hI6) kd_1 rfl rfl ⟨rfl, rfl, Nat.le_of_ble_eq_true rfl, Nat.le_of_ble_eq_true rfl⟩ ⟨Nat.le_of_ble_eq_true rfl, Nat.le_of_ble_eq_true rfl⟩ (Nat.le_of_ble_eq_true rfl) dX7_readFirst_35 (fun r8 τ8 hp8 => ?_)
  obtain ⟨⟨x8, rfl, ⟨hx8a, hx8b⟩⟩, rfl⟩ := hp8
  show hpV _ _ _ _ _ _ _ _ _ _ _ _ _ _ _ _ _ _ _ _ _ (_ :: _)
  refine h_callV (As := [.int (hpI x8)]) (rest := []) C Z yyX7_expect wd_496 (tgX7_expect l D cy z _ x8 ⟨by omega, by omega⟩ hI6) kd_1 rfl rfl ⟨rfl, rfl, Nat.le_of_ble_eq_true rfl, Nat.le_of_ble_eq_true rfl⟩ ⟨Nat.le_of_ble_eq_true rfl, Nat.le_of_ble_eq_true rfl⟩ (Nat.le_of_ble_eq_true rfl) dX7_readFirst_38 (fun r9 τ9 hp9 => ?_)
  obtain ⟨rfl, hI9, hG9⟩ := hp9
  have hF9 : ∀ j i : Nat, j ≠ 1 → (j < 9 ∨ 14 < j) → τ9 j i = σ j i := fun j i h_0 h_1 => (hG9 j i (by omega)).trans (hF6 j i h_0 h_1)
  have hg10 : τ9 9 5 = x5 := (hG9 9 5 (by omega)).trans hg7
  show hpV _ _ _ _ _ _ _ _ _ _ _ _ _ _ _ _ _ _ _ _ _ []
  refine h_aload_n C dX7_readFirst_41 1 rfl rfl ?_
  refine h_aload_n C dX7_readFirst_42 0 rfl rfl ?_
  refine h_iconst C dX7_readFirst_43 ?_
  refine h_iconst C dX7_readFirst_44 ?_
  refine h_callV (As := [.int (hpI 0), .int (hpI 3)]) (rest := [.ref (z + 9)]) C Z yyX7_expectNumber wd_505 (tgX7_expectNumber l D cy z _ 0 ⟨by decide, by decide⟩ 3 ⟨by decide, by decide⟩ hI9 (by omega)) kd_1 rfl rfl ⟨rfl, rfl, Nat.le_of_ble_eq_true rfl, Nat.le_of_ble_eq_true rfl⟩ ⟨Nat.le_of_ble_eq_true rfl, Nat.le_of_ble_eq_true rfl⟩ (Nat.le_of_ble_eq_true rfl) dX7_readFirst_45 (fun r11 τ11 hp11 => ?_)
  obtain ⟨⟨x11, rfl, ⟨hx11a, hx11b⟩, hx11⟩, hI11, hG11⟩ := hp11
  have hF11 : ∀ j i : Nat, j ≠ 1 → (j < 9 ∨ 14 < j) → τ11 j i = σ j i := fun j i h_0 h_1 => (hG11 j i (by omega)).trans (hF9 j i h_0 h_1)
  have hg12 : τ11 9 5 = x5 := (hG11 9 5 (by omega)).trans hg10
  show hpV _ _ _ _ _ _ _ _ _ _ _ _ _ _ _ _ _ _ _ _ _ (_ :: _)
  refine h_putN C O1 6 kd_9 (by decide) rfl nw_88 dX7_readFirst_48 rfl rfl (hp_fvI (by rw [kd_9]; rfl) hpu_at) ?_
  obtain ⟨τ13, e13⟩ : ∃ μ : hpMem, μ = hpw τ11 9 6 x11 := ⟨_, rfl⟩
  rw [← e13]
  have hI13 : hpInv τ13 := by rw [e13]; exact hI11.w (bf_1_6 kd_9) (by omega) (by omega)
  have hF13 : ∀ j i : Nat, j ≠ 1 → (j < 9 ∨ 14 < j) → τ13 j i = σ j i := fun j i h_0 h_1 => by rw [e13]; exact (hpw_fr (by omega)).trans (hF11 j i h_0 h_1)
  have hg14 : τ13 9 5 = x5 := by rw [e13]; exact (hpw_fr (Or.inr (by decide))).trans hg12
  have hg15 : τ13 9 6 = x11 := by rw [e13]; exact hpw_eq
  refine h_aload_n C dX7_readFirst_51 0 rfl rfl ?_
  refine h_aload_n C dX7_readFirst_52 0 rfl rfl ?_
  refine h_ldcS (i := 3) C Z (by decide) rfl dX7_readFirst_53 ?_
  refine h_callV (As := [.ref (cy (1000 + 3))]) (rest := [.ref (z + 1)]) C Z yyX7_isWord wd_444 (tgX7_isWord l D cy z _ 3 (by decide) hI13) kd_1 rfl rfl ⟨rfl, rfl, Nat.le_of_ble_eq_true rfl, Nat.le_of_ble_eq_true rfl⟩ ⟨Nat.le_of_ble_eq_true rfl, Nat.le_of_ble_eq_true rfl⟩ (Nat.le_of_ble_eq_true rfl) dX7_readFirst_55 (fun r16 τ16 hp16 => ?_)
  obtain ⟨⟨x16, rfl, ⟨hx16a, hx16b⟩⟩, rfl⟩ := hp16
  show hpV _ _ _ _ _ _ _ _ _ _ _ _ _ _ _ _ _ _ _ _ _ (_ :: _)
  refine h_callV (As := [.int (hpI x16)]) (rest := []) C Z yyX7_expect wd_496 (tgX7_expect l D cy z _ x16 ⟨by omega, by omega⟩ hI13) kd_1 rfl rfl ⟨rfl, rfl, Nat.le_of_ble_eq_true rfl, Nat.le_of_ble_eq_true rfl⟩ ⟨Nat.le_of_ble_eq_true rfl, Nat.le_of_ble_eq_true rfl⟩ (Nat.le_of_ble_eq_true rfl) dX7_readFirst_58 (fun r17 τ17 hp17 => ?_)
  obtain ⟨rfl, hI17, hG17⟩ := hp17
  have hF17 : ∀ j i : Nat, j ≠ 1 → (j < 9 ∨ 14 < j) → τ17 j i = σ j i := fun j i h_0 h_1 => (hG17 j i (by omega)).trans (hF13 j i h_0 h_1)
  have hg18 : τ17 9 5 = x5 := (hG17 9 5 (by omega)).trans hg14
  have hg19 : τ17 9 6 = x11 := (hG17 9 6 (by omega)).trans hg15
  show hpV _ _ _ _ _ _ _ _ _ _ _ _ _ _ _ _ _ _ _ _ _ []
  refine h_aload_n C dX7_readFirst_61 1 rfl rfl ?_
  refine h_aload_n C dX7_readFirst_62 0 rfl rfl ?_
  refine h_iconst C dX7_readFirst_63 ?_
  refine h_bipush C dX7_readFirst_64 (by decide) ?_
  refine h_callV (As := [.int (hpI 0), .int (hpI 10)]) (rest := [.ref (z + 9)]) C Z yyX7_expectNumber wd_505 (tgX7_expectNumber l D cy z _ 0 ⟨by decide, by decide⟩ 10 ⟨by decide, by decide⟩ hI17 (by omega)) kd_1 rfl rfl ⟨rfl, rfl, Nat.le_of_ble_eq_true rfl, Nat.le_of_ble_eq_true rfl⟩ ⟨Nat.le_of_ble_eq_true rfl, Nat.le_of_ble_eq_true rfl⟩ (Nat.le_of_ble_eq_true rfl) dX7_readFirst_66 (fun r20 τ20 hp20 => ?_)
  obtain ⟨⟨x20, rfl, ⟨hx20a, hx20b⟩, hx20⟩, hI20, hG20⟩ := hp20
  have hF20 : ∀ j i : Nat, j ≠ 1 → (j < 9 ∨ 14 < j) → τ20 j i = σ j i := fun j i h_0 h_1 => (hG20 j i (by omega)).trans (hF17 j i h_0 h_1)
  have hg21 : τ20 9 5 = x5 := (hG20 9 5 (by omega)).trans hg18
  have hg22 : τ20 9 6 = x11 := (hG20 9 6 (by omega)).trans hg19
  show hpV _ _ _ _ _ _ _ _ _ _ _ _ _ _ _ _ _ _ _ _ _ (_ :: _)
  refine h_putN C O1 7 kd_9 (by decide) rfl nw_91 dX7_readFirst_69 rfl rfl (hp_fvI (by rw [kd_9]; rfl) hpu_at) ?_
  obtain ⟨τ23, e23⟩ : ∃ μ : hpMem, μ = hpw τ20 9 7 x20 := ⟨_, rfl⟩
  rw [← e23]
  have hI23 : hpInv τ23 := by rw [e23]; exact hI20.w (bf_1_7 kd_9) (by omega) (by omega)
  have hF23 : ∀ j i : Nat, j ≠ 1 → (j < 9 ∨ 14 < j) → τ23 j i = σ j i := fun j i h_0 h_1 => by rw [e23]; exact (hpw_fr (by omega)).trans (hF20 j i h_0 h_1)
  have hg24 : τ23 9 5 = x5 := by rw [e23]; exact (hpw_fr (Or.inr (by decide))).trans hg21
  have hg25 : τ23 9 6 = x11 := by rw [e23]; exact (hpw_fr (Or.inr (by decide))).trans hg22
  have hg26 : τ23 9 7 = x20 := by rw [e23]; exact hpw_eq
  refine h_return C hr hlk dX7_readFirst_72 ?_
  exact ⟨rfl, hI23, hF23⟩
abbrev rgX7_readHeap : Room := { frames := 5, cells := 0, slots := 0, locals := 107 }
abbrev pgX7_readHeap (z : Nat) (σ : hpMem) : Option Value → hpMem → Prop := fun r τ => r = none ∧ hpInv τ ∧ (∀ j i : Nat, j ≠ 1 → (j < 9 ∨ 14 < j) → τ j i = σ j i)
set_option maxHeartbeats 4000000 in
set_option maxRecDepth 20000 in
theorem tgX7_readHeap (l : Launch) (D : va_G) (cy : Nat → ClassId) (z : Nat) (σ : hpMem) (hI : hpInv σ) : hpM l D cy z yX7_readHeap cX7_readHeap 2 none rgX7_readHeap [.ref (z + 1), .ref (z + 9)] σ (pgX7_readHeap z σ) := by
  refine hp_met rfl (Nat.le_of_ble_eq_true rfl) (fun p e s m below meth c C Z hr hlk => ?_)
  have hF0 : ∀ j i : Nat, j ≠ 1 → (j < 9 ∨ 14 < j) → σ j i = σ j i := fun j i _ _ => rfl
  refine h_aload_n C dX7_readHeap_0 1 rfl rfl ?_
  refine h_getN C O1 9 kd_9 (by decide) nw_98 dX7_readHeap_1 (hp_fvI (by rw [kd_9]; rfl) rfl) ?_
  obtain ⟨hr1a, hr1b⟩ := hI.b (bf_1_9 kd_9)
  generalize hg1 : σ 9 9 = r1 at hr1a hr1b ⊢
  refine h_bipush C dX7_readHeap_4 (by decide) ?_
  refine h_icmp_lt (tgt := 15) C dX7_readHeap_6 (by decide) ⟨by omega, by omega⟩ ⟨by decide, by decide⟩ (fun h2 => ?_) (fun h2 => ?_)
  · refine h_aload_n C dX7_readHeap_15 0 rfl rfl ?_
    refine h_callV (As := []) (rest := []) C Z yyX7_nextToken wd_422 (tgX7_nextToken l D cy z _ hI) kd_1 rfl rfl ⟨rfl, rfl, Nat.le_of_ble_eq_true rfl, Nat.le_of_ble_eq_true rfl⟩ ⟨Nat.le_of_ble_eq_true rfl, Nat.le_of_ble_eq_true rfl⟩ (Nat.le_of_ble_eq_true rfl) dX7_readHeap_16 (fun r3 τ3 hp3 => ?_)
    obtain ⟨rfl, hI3, hG3⟩ := hp3
    have hF3 : ∀ j i : Nat, j ≠ 1 → (j < 9 ∨ 14 < j) → τ3 j i = σ j i := fun j i h_0 h_1 => (hG3 j i (by omega)).trans (hF0 j i h_0 h_1)
    have hg4 : τ3 9 9 = r1 := (hG3 9 9 (by omega)).trans hg1
    show hpV _ _ _ _ _ _ _ _ _ _ _ _ _ _ _ _ _ _ _ _ _ []
    refine h_aload_n C dX7_readHeap_19 0 rfl rfl ?_
    refine h_aload_n C dX7_readHeap_20 0 rfl rfl ?_
    refine h_ldcS (i := 5) C Z (by decide) rfl dX7_readHeap_21 ?_
    refine h_callV (As := [.ref (cy (1000 + 5))]) (rest := [.ref (z + 1)]) C Z yyX7_isWord wd_444 (tgX7_isWord l D cy z _ 5 (by decide) hI3) kd_1 rfl rfl ⟨rfl, rfl, Nat.le_of_ble_eq_true rfl, Nat.le_of_ble_eq_true rfl⟩ ⟨Nat.le_of_ble_eq_true rfl, Nat.le_of_ble_eq_true rfl⟩ (Nat.le_of_ble_eq_true rfl) dX7_readHeap_23 (fun r5 τ5 hp5 => ?_)
    obtain ⟨⟨x5, rfl, ⟨hx5a, hx5b⟩⟩, rfl⟩ := hp5
    show hpV _ _ _ _ _ _ _ _ _ _ _ _ _ _ _ _ _ _ _ _ _ (_ :: _)
    refine h_callV (As := [.int (hpI x5)]) (rest := []) C Z yyX7_expect wd_496 (tgX7_expect l D cy z _ x5 ⟨by omega, by omega⟩ hI3) kd_1 rfl rfl ⟨rfl, rfl, Nat.le_of_ble_eq_true rfl, Nat.le_of_ble_eq_true rfl⟩ ⟨Nat.le_of_ble_eq_true rfl, Nat.le_of_ble_eq_true rfl⟩ (Nat.le_of_ble_eq_true rfl) dX7_readHeap_26 (fun r6 τ6 hp6 => ?_)
    obtain ⟨rfl, hI6, hG6⟩ := hp6
    have hF6 : ∀ j i : Nat, j ≠ 1 → (j < 9 ∨ 14 < j) → τ6 j i = σ j i := fun j i h_0 h_1 => (hG6 j i (by omega)).trans (hF3 j i h_0 h_1)
    have hg7 : τ6 9 9 = r1 := (hG6 9 9 (by omega)).trans hg4
    show hpV _ _ _ _ _ _ _ _ _ _ _ _ _ _ _ _ _ _ _ _ _ []
    refine h_aload_n C dX7_readHeap_29 1 rfl rfl ?_
    refine h_getN C O1 0 kd_9 (by decide) nw_67 dX7_readHeap_30 fr_9_0 ?_
    refine h_aload_n C dX7_readHeap_33 1 rfl rfl ?_
    refine h_getN C O1 9 kd_9 (by decide) nw_98 dX7_readHeap_34 (hp_fvI (by rw [kd_9]; rfl) rfl) ?_
    rw [hg7]
    refine h_aload_n C dX7_readHeap_37 0 rfl rfl ?_
    refine h_iconst C dX7_readHeap_38 ?_
    refine h_bipush C dX7_readHeap_39 (by decide) ?_
    refine h_callV (As := [.int (hpI 1), .int (hpI 20)]) (rest := [.int (hpI r1), .ref (z + 10)]) C Z yyX7_expectNumber wd_505 (tgX7_expectNumber l D cy z _ 1 ⟨by decide, by decide⟩ 20 ⟨by decide, by decide⟩ hI6 (by omega)) kd_1 rfl rfl ⟨rfl, rfl, Nat.le_of_ble_eq_true rfl, Nat.le_of_ble_eq_true rfl⟩ ⟨Nat.le_of_ble_eq_true rfl, Nat.le_of_ble_eq_true rfl⟩ (Nat.le_of_ble_eq_true rfl) dX7_readHeap_41 (fun r8 τ8 hp8 => ?_)
    obtain ⟨⟨x8, rfl, ⟨hx8a, hx8b⟩, hx8⟩, hI8, hG8⟩ := hp8
    have hF8 : ∀ j i : Nat, j ≠ 1 → (j < 9 ∨ 14 < j) → τ8 j i = σ j i := fun j i h_0 h_1 => (hG8 j i (by omega)).trans (hF6 j i h_0 h_1)
    have hg9 : τ8 9 9 = r1 := (hG8 9 9 (by omega)).trans hg7
    show hpV _ _ _ _ _ _ _ _ _ _ _ _ _ _ _ _ _ _ _ _ _ (_ :: _)
    refine h_iastore C dX7_readHeap_44 kd_10 (r1).toNat (Int.toNat_of_nonneg (by omega)) (by rw [ln_10]; omega) ?_
    obtain ⟨τ10, e10⟩ : ∃ μ : hpMem, μ = hpw τ8 10 ((r1).toNat) x8 := ⟨_, rfl⟩
    rw [← e10]
    have hI10 : hpInv τ10 := by rw [e10]; exact hI8.w (bo_10 _) (by omega) (by omega)
    have hF10 : ∀ j i : Nat, j ≠ 1 → (j < 9 ∨ 14 < j) → τ10 j i = σ j i := fun j i h_0 h_1 => by rw [e10]; exact (hpw_fr (by omega)).trans (hF8 j i h_0 h_1)
    have hg11 : τ10 9 9 = r1 := by rw [e10]; exact (hpw_fr (Or.inl (by omega))).trans hg9
    refine h_aload_n C dX7_readHeap_45 1 rfl rfl ?_
    refine h_dup C rfl dX7_readHeap_46 ?_
    refine h_getN C O1 9 kd_9 (by decide) nw_98 dX7_readHeap_47 (hp_fvI (by rw [kd_9]; rfl) rfl) ?_
    rw [hg11]
    refine h_iconst C dX7_readHeap_50 ?_
    refine h_iadd C dX7_readHeap_51 rfl ?_
    refine h_putN C O1 9 kd_9 (by decide) rfl nw_98 dX7_readHeap_52 rfl rfl (hp_fvI (by rw [kd_9]; rfl) hpu_at) ?_
    obtain ⟨τ12, e12⟩ : ∃ μ : hpMem, μ = hpw τ10 9 9 (r1 + 1) := ⟨_, rfl⟩
    rw [← e12]
    have hI12 : hpInv τ12 := by rw [e12]; exact hI10.w (bf_1_9 kd_9) (by omega) (by omega)
    have hF12 : ∀ j i : Nat, j ≠ 1 → (j < 9 ∨ 14 < j) → τ12 j i = σ j i := fun j i h_0 h_1 => by rw [e12]; exact (hpw_fr (by omega)).trans (hF10 j i h_0 h_1)
    have hg13 : τ12 9 9 = r1 + 1 := by rw [e12]; exact hpw_eq
    refine h_return C hr hlk dX7_readHeap_55 ?_
    exact ⟨rfl, hI12, hF12⟩
  · refine h_aload_n C dX7_readHeap_9 0 rfl rfl ?_
    refine h_iconst C dX7_readHeap_10 ?_
    refine h_callV (As := [.int (hpI 3)]) (rest := []) C Z yyX7_fail wd_500 (tgX7_fail l D cy z _ 3 ⟨by decide, by decide⟩ hI) kd_1 rfl rfl ⟨rfl, rfl, Nat.le_of_ble_eq_true rfl, Nat.le_of_ble_eq_true rfl⟩ ⟨Nat.le_of_ble_eq_true rfl, Nat.le_of_ble_eq_true rfl⟩ (Nat.le_of_ble_eq_true rfl) dX7_readHeap_11 (fun r14 τ14 hp14 => ?_)
    obtain ⟨rfl, hI14, hG14⟩ := hp14
    have hF14 : ∀ j i : Nat, j ≠ 1 → (j < 9 ∨ 14 < j) → τ14 j i = σ j i := fun j i h_0 h_1 => (hG14 j i (by omega)).trans (hF0 j i h_0 h_1)
    have hg15 : τ14 9 9 = r1 := (hG14 9 9 (by omega)).trans hg1
    show hpV _ _ _ _ _ _ _ _ _ _ _ _ _ _ _ _ _ _ _ _ _ []
    refine h_return C hr hlk dX7_readHeap_14 ?_
    exact ⟨rfl, hI14, hF14⟩
abbrev rgX7_readCart : Room := { frames := 5, cells := 0, slots := 0, locals := 107 }
abbrev pgX7_readCart (z : Nat) (σ : hpMem) : Option Value → hpMem → Prop := fun r τ => r = none ∧ hpInv τ ∧ (∀ j i : Nat, j ≠ 1 → (j < 9 ∨ 14 < j) → τ j i = σ j i)
set_option maxHeartbeats 4000000 in
set_option maxRecDepth 20000 in
theorem tgX7_readCart (l : Launch) (D : va_G) (cy : Nat → ClassId) (z : Nat) (σ : hpMem) (hI : hpInv σ) : hpM l D cy z yX7_readCart cX7_readCart 2 none rgX7_readCart [.ref (z + 1), .ref (z + 9)] σ (pgX7_readCart z σ) := by
  refine hp_met rfl (Nat.le_of_ble_eq_true rfl) (fun p e s m below meth c C Z hr hlk => ?_)
  have hF0 : ∀ j i : Nat, j ≠ 1 → (j < 9 ∨ 14 < j) → σ j i = σ j i := fun j i _ _ => rfl
  refine h_aload_n C dX7_readCart_0 1 rfl rfl ?_
  refine h_getN C O1 10 kd_9 (by decide) nw_101 dX7_readCart_1 (hp_fvI (by rw [kd_9]; rfl) rfl) ?_
  obtain ⟨hr1a, hr1b⟩ := hI.b (bf_1_10 kd_9)
  generalize hg1 : σ 9 10 = r1 at hr1a hr1b ⊢
  refine h_bipush C dX7_readCart_4 (by decide) ?_
  refine h_icmp_lt (tgt := 15) C dX7_readCart_6 (by decide) ⟨by omega, by omega⟩ ⟨by decide, by decide⟩ (fun h2 => ?_) (fun h2 => ?_)
  · refine h_aload_n C dX7_readCart_15 0 rfl rfl ?_
    refine h_callV (As := []) (rest := []) C Z yyX7_nextToken wd_422 (tgX7_nextToken l D cy z _ hI) kd_1 rfl rfl ⟨rfl, rfl, Nat.le_of_ble_eq_true rfl, Nat.le_of_ble_eq_true rfl⟩ ⟨Nat.le_of_ble_eq_true rfl, Nat.le_of_ble_eq_true rfl⟩ (Nat.le_of_ble_eq_true rfl) dX7_readCart_16 (fun r3 τ3 hp3 => ?_)
    obtain ⟨rfl, hI3, hG3⟩ := hp3
    have hF3 : ∀ j i : Nat, j ≠ 1 → (j < 9 ∨ 14 < j) → τ3 j i = σ j i := fun j i h_0 h_1 => (hG3 j i (by omega)).trans (hF0 j i h_0 h_1)
    have hg4 : τ3 9 10 = r1 := (hG3 9 10 (by omega)).trans hg1
    show hpV _ _ _ _ _ _ _ _ _ _ _ _ _ _ _ _ _ _ _ _ _ []
    refine h_aload_n C dX7_readCart_19 0 rfl rfl ?_
    refine h_aload_n C dX7_readCart_20 0 rfl rfl ?_
    refine h_ldcS (i := 5) C Z (by decide) rfl dX7_readCart_21 ?_
    refine h_callV (As := [.ref (cy (1000 + 5))]) (rest := [.ref (z + 1)]) C Z yyX7_isWord wd_444 (tgX7_isWord l D cy z _ 5 (by decide) hI3) kd_1 rfl rfl ⟨rfl, rfl, Nat.le_of_ble_eq_true rfl, Nat.le_of_ble_eq_true rfl⟩ ⟨Nat.le_of_ble_eq_true rfl, Nat.le_of_ble_eq_true rfl⟩ (Nat.le_of_ble_eq_true rfl) dX7_readCart_23 (fun r5 τ5 hp5 => ?_)
    obtain ⟨⟨x5, rfl, ⟨hx5a, hx5b⟩⟩, rfl⟩ := hp5
    show hpV _ _ _ _ _ _ _ _ _ _ _ _ _ _ _ _ _ _ _ _ _ (_ :: _)
    refine h_callV (As := [.int (hpI x5)]) (rest := []) C Z yyX7_expect wd_496 (tgX7_expect l D cy z _ x5 ⟨by omega, by omega⟩ hI3) kd_1 rfl rfl ⟨rfl, rfl, Nat.le_of_ble_eq_true rfl, Nat.le_of_ble_eq_true rfl⟩ ⟨Nat.le_of_ble_eq_true rfl, Nat.le_of_ble_eq_true rfl⟩ (Nat.le_of_ble_eq_true rfl) dX7_readCart_26 (fun r6 τ6 hp6 => ?_)
    obtain ⟨rfl, hI6, hG6⟩ := hp6
    have hF6 : ∀ j i : Nat, j ≠ 1 → (j < 9 ∨ 14 < j) → τ6 j i = σ j i := fun j i h_0 h_1 => (hG6 j i (by omega)).trans (hF3 j i h_0 h_1)
    have hg7 : τ6 9 10 = r1 := (hG6 9 10 (by omega)).trans hg4
    show hpV _ _ _ _ _ _ _ _ _ _ _ _ _ _ _ _ _ _ _ _ _ []
    refine h_aload_n C dX7_readCart_29 1 rfl rfl ?_
    refine h_getN C O1 1 kd_9 (by decide) nw_70 dX7_readCart_30 fr_9_1 ?_
    refine h_aload_n C dX7_readCart_33 1 rfl rfl ?_
    refine h_getN C O1 10 kd_9 (by decide) nw_101 dX7_readCart_34 (hp_fvI (by rw [kd_9]; rfl) rfl) ?_
    rw [hg7]
    refine h_aload_n C dX7_readCart_37 0 rfl rfl ?_
    refine h_iconst C dX7_readCart_38 ?_
    refine h_bipush C dX7_readCart_39 (by decide) ?_
    refine h_callV (As := [.int (hpI 1), .int (hpI 20)]) (rest := [.int (hpI r1), .ref (z + 11)]) C Z yyX7_expectNumber wd_505 (tgX7_expectNumber l D cy z _ 1 ⟨by decide, by decide⟩ 20 ⟨by decide, by decide⟩ hI6 (by omega)) kd_1 rfl rfl ⟨rfl, rfl, Nat.le_of_ble_eq_true rfl, Nat.le_of_ble_eq_true rfl⟩ ⟨Nat.le_of_ble_eq_true rfl, Nat.le_of_ble_eq_true rfl⟩ (Nat.le_of_ble_eq_true rfl) dX7_readCart_41 (fun r8 τ8 hp8 => ?_)
    obtain ⟨⟨x8, rfl, ⟨hx8a, hx8b⟩, hx8⟩, hI8, hG8⟩ := hp8
    have hF8 : ∀ j i : Nat, j ≠ 1 → (j < 9 ∨ 14 < j) → τ8 j i = σ j i := fun j i h_0 h_1 => (hG8 j i (by omega)).trans (hF6 j i h_0 h_1)
    have hg9 : τ8 9 10 = r1 := (hG8 9 10 (by omega)).trans hg7
    show hpV _ _ _ _ _ _ _ _ _ _ _ _ _ _ _ _ _ _ _ _ _ (_ :: _)
    refine h_iastore C dX7_readCart_44 kd_11 (r1).toNat (Int.toNat_of_nonneg (by omega)) (by rw [ln_11]; omega) ?_
    obtain ⟨τ10, e10⟩ : ∃ μ : hpMem, μ = hpw τ8 11 ((r1).toNat) x8 := ⟨_, rfl⟩
    rw [← e10]
    have hI10 : hpInv τ10 := by rw [e10]; exact hI8.w (bo_11 _) (by omega) (by omega)
    have hF10 : ∀ j i : Nat, j ≠ 1 → (j < 9 ∨ 14 < j) → τ10 j i = σ j i := fun j i h_0 h_1 => by rw [e10]; exact (hpw_fr (by omega)).trans (hF8 j i h_0 h_1)
    have hg11 : τ10 9 10 = r1 := by rw [e10]; exact (hpw_fr (Or.inl (by omega))).trans hg9
    refine h_aload_n C dX7_readCart_45 0 rfl rfl ?_
    refine h_aload_n C dX7_readCart_46 0 rfl rfl ?_
    refine h_ldcS (i := 7) C Z (by decide) rfl dX7_readCart_47 ?_
    refine h_callV (As := [.ref (cy (1000 + 7))]) (rest := [.ref (z + 1)]) C Z yyX7_isWord wd_444 (tgX7_isWord l D cy z _ 7 (by decide) hI10) kd_1 rfl rfl ⟨rfl, rfl, Nat.le_of_ble_eq_true rfl, Nat.le_of_ble_eq_true rfl⟩ ⟨Nat.le_of_ble_eq_true rfl, Nat.le_of_ble_eq_true rfl⟩ (Nat.le_of_ble_eq_true rfl) dX7_readCart_49 (fun r12 τ12 hp12 => ?_)
    obtain ⟨⟨x12, rfl, ⟨hx12a, hx12b⟩⟩, rfl⟩ := hp12
    show hpV _ _ _ _ _ _ _ _ _ _ _ _ _ _ _ _ _ _ _ _ _ (_ :: _)
    refine h_callV (As := [.int (hpI x12)]) (rest := []) C Z yyX7_expect wd_496 (tgX7_expect l D cy z _ x12 ⟨by omega, by omega⟩ hI10) kd_1 rfl rfl ⟨rfl, rfl, Nat.le_of_ble_eq_true rfl, Nat.le_of_ble_eq_true rfl⟩ ⟨Nat.le_of_ble_eq_true rfl, Nat.le_of_ble_eq_true rfl⟩ (Nat.le_of_ble_eq_true rfl) dX7_readCart_52 (fun r13 τ13 hp13 => ?_)
    obtain ⟨rfl, hI13, hG13⟩ := hp13
    have hF13 : ∀ j i : Nat, j ≠ 1 → (j < 9 ∨ 14 < j) → τ13 j i = σ j i := fun j i h_0 h_1 => (hG13 j i (by omega)).trans (hF10 j i h_0 h_1)
    have hg14 : τ13 9 10 = r1 := (hG13 9 10 (by omega)).trans hg11
    show hpV _ _ _ _ _ _ _ _ _ _ _ _ _ _ _ _ _ _ _ _ _ []
    refine h_aload_n C dX7_readCart_55 1 rfl rfl ?_
    refine h_getN C O1 2 kd_9 (by decide) nw_75 dX7_readCart_56 fr_9_2 ?_
    refine h_aload_n C dX7_readCart_59 1 rfl rfl ?_
    refine h_getN C O1 10 kd_9 (by decide) nw_101 dX7_readCart_60 (hp_fvI (by rw [kd_9]; rfl) rfl) ?_
    rw [hg14]
    refine h_aload_n C dX7_readCart_63 0 rfl rfl ?_
    refine h_iconst C dX7_readCart_64 ?_
    refine h_bipush C dX7_readCart_65 (by decide) ?_
    refine h_callV (As := [.int (hpI 0), .int (hpI 15)]) (rest := [.int (hpI r1), .ref (z + 12)]) C Z yyX7_expectNumber wd_505 (tgX7_expectNumber l D cy z _ 0 ⟨by decide, by decide⟩ 15 ⟨by decide, by decide⟩ hI13 (by omega)) kd_1 rfl rfl ⟨rfl, rfl, Nat.le_of_ble_eq_true rfl, Nat.le_of_ble_eq_true rfl⟩ ⟨Nat.le_of_ble_eq_true rfl, Nat.le_of_ble_eq_true rfl⟩ (Nat.le_of_ble_eq_true rfl) dX7_readCart_67 (fun r15 τ15 hp15 => ?_)
    obtain ⟨⟨x15, rfl, ⟨hx15a, hx15b⟩, hx15⟩, hI15, hG15⟩ := hp15
    have hF15 : ∀ j i : Nat, j ≠ 1 → (j < 9 ∨ 14 < j) → τ15 j i = σ j i := fun j i h_0 h_1 => (hG15 j i (by omega)).trans (hF13 j i h_0 h_1)
    have hg16 : τ15 9 10 = r1 := (hG15 9 10 (by omega)).trans hg14
    show hpV _ _ _ _ _ _ _ _ _ _ _ _ _ _ _ _ _ _ _ _ _ (_ :: _)
    refine h_iastore C dX7_readCart_70 kd_12 (r1).toNat (Int.toNat_of_nonneg (by omega)) (by rw [ln_12]; omega) ?_
    obtain ⟨τ17, e17⟩ : ∃ μ : hpMem, μ = hpw τ15 12 ((r1).toNat) x15 := ⟨_, rfl⟩
    rw [← e17]
    have hI17 : hpInv τ17 := by rw [e17]; exact hI15.w (bo_12 _) (by omega) (by omega)
    have hF17 : ∀ j i : Nat, j ≠ 1 → (j < 9 ∨ 14 < j) → τ17 j i = σ j i := fun j i h_0 h_1 => by rw [e17]; exact (hpw_fr (by omega)).trans (hF15 j i h_0 h_1)
    have hg18 : τ17 9 10 = r1 := by rw [e17]; exact (hpw_fr (Or.inl (by omega))).trans hg16
    refine h_aload_n C dX7_readCart_71 1 rfl rfl ?_
    refine h_dup C rfl dX7_readCart_72 ?_
    refine h_getN C O1 10 kd_9 (by decide) nw_101 dX7_readCart_73 (hp_fvI (by rw [kd_9]; rfl) rfl) ?_
    rw [hg18]
    refine h_iconst C dX7_readCart_76 ?_
    refine h_iadd C dX7_readCart_77 rfl ?_
    refine h_putN C O1 10 kd_9 (by decide) rfl nw_101 dX7_readCart_78 rfl rfl (hp_fvI (by rw [kd_9]; rfl) hpu_at) ?_
    obtain ⟨τ19, e19⟩ : ∃ μ : hpMem, μ = hpw τ17 9 10 (r1 + 1) := ⟨_, rfl⟩
    rw [← e19]
    have hI19 : hpInv τ19 := by rw [e19]; exact hI17.w (bf_1_10 kd_9) (by omega) (by omega)
    have hF19 : ∀ j i : Nat, j ≠ 1 → (j < 9 ∨ 14 < j) → τ19 j i = σ j i := fun j i h_0 h_1 => by rw [e19]; exact (hpw_fr (by omega)).trans (hF17 j i h_0 h_1)
    have hg20 : τ19 9 10 = r1 + 1 := by rw [e19]; exact hpw_eq
    refine h_return C hr hlk dX7_readCart_81 ?_
    exact ⟨rfl, hI19, hF19⟩
  · refine h_aload_n C dX7_readCart_9 0 rfl rfl ?_
    refine h_iconst C dX7_readCart_10 ?_
    refine h_callV (As := [.int (hpI 3)]) (rest := []) C Z yyX7_fail wd_500 (tgX7_fail l D cy z _ 3 ⟨by decide, by decide⟩ hI) kd_1 rfl rfl ⟨rfl, rfl, Nat.le_of_ble_eq_true rfl, Nat.le_of_ble_eq_true rfl⟩ ⟨Nat.le_of_ble_eq_true rfl, Nat.le_of_ble_eq_true rfl⟩ (Nat.le_of_ble_eq_true rfl) dX7_readCart_11 (fun r21 τ21 hp21 => ?_)
    obtain ⟨rfl, hI21, hG21⟩ := hp21
    have hF21 : ∀ j i : Nat, j ≠ 1 → (j < 9 ∨ 14 < j) → τ21 j i = σ j i := fun j i h_0 h_1 => (hG21 j i (by omega)).trans (hF0 j i h_0 h_1)
    have hg22 : τ21 9 10 = r1 := (hG21 9 10 (by omega)).trans hg1
    show hpV _ _ _ _ _ _ _ _ _ _ _ _ _ _ _ _ _ _ _ _ _ []
    refine h_return C hr hlk dX7_readCart_14 ?_
    exact ⟨rfl, hI21, hF21⟩
abbrev rgX7_readLine : Room := { frames := 6, cells := 0, slots := 0, locals := 128 }
abbrev pgX7_readLine (z : Nat) (σ : hpMem) : Option Value → hpMem → Prop := fun r τ => r = none ∧ hpInv τ ∧ (∀ j i : Nat, j ≠ 1 → (j < 9 ∨ 14 < j) → τ j i = σ j i)
set_option maxHeartbeats 4000000 in
set_option maxRecDepth 20000 in
theorem tgX7_readLine (l : Launch) (D : va_G) (cy : Nat → ClassId) (z : Nat) (σ : hpMem) (hI : hpInv σ) : hpM l D cy z yX7_readLine cX7_readLine 2 none rgX7_readLine [.ref (z + 1), .ref (z + 9)] σ (pgX7_readLine z σ) := by
  refine hp_met rfl (Nat.le_of_ble_eq_true rfl) (fun p e s m below meth c C Z hr hlk => ?_)
  have hF0 : ∀ j i : Nat, j ≠ 1 → (j < 9 ∨ 14 < j) → σ j i = σ j i := fun j i _ _ => rfl
  refine h_aload_n C dX7_readLine_0 1 rfl rfl ?_
  refine h_getN C O1 8 kd_9 (by decide) nw_94 dX7_readLine_1 (hp_fvI (by rw [kd_9]; rfl) rfl) ?_
  obtain ⟨hr1a, hr1b⟩ := hI.b (bf_1_8 kd_9)
  generalize hg1 : σ 9 8 = r1 at hr1a hr1b ⊢
  refine h_if_ne (tgt := 15) C dX7_readLine_4 (by decide) ⟨by omega, by omega⟩ (fun h2 => ?_) (fun h2 => ?_)
  · refine h_aload_n C dX7_readLine_15 0 rfl rfl ?_
    refine h_ldcS (i := 4) C Z (by decide) rfl dX7_readLine_16 ?_
    refine h_callV (As := [.ref (cy (1000 + 4))]) (rest := []) C Z yyX7_isWord wd_444 (tgX7_isWord l D cy z _ 4 (by decide) hI) kd_1 rfl rfl ⟨rfl, rfl, Nat.le_of_ble_eq_true rfl, Nat.le_of_ble_eq_true rfl⟩ ⟨Nat.le_of_ble_eq_true rfl, Nat.le_of_ble_eq_true rfl⟩ (Nat.le_of_ble_eq_true rfl) dX7_readLine_18 (fun r3 τ3 hp3 => ?_)
    obtain ⟨⟨x3, rfl, ⟨hx3a, hx3b⟩⟩, rfl⟩ := hp3
    show hpV _ _ _ _ _ _ _ _ _ _ _ _ _ _ _ _ _ _ _ _ _ (_ :: _)
    refine h_if_eq (tgt := 32) C dX7_readLine_21 (by decide) ⟨by omega, by omega⟩ (fun h4 => ?_) (fun h4 => ?_)
    · refine h_aload_n C dX7_readLine_32 0 rfl rfl ?_
      refine h_ldcS (i := 6) C Z (by decide) rfl dX7_readLine_33 ?_
      refine h_callV (As := [.ref (cy (1000 + 6))]) (rest := []) C Z yyX7_isWord wd_444 (tgX7_isWord l D cy z _ 6 (by decide) hI) kd_1 rfl rfl ⟨rfl, rfl, Nat.le_of_ble_eq_true rfl, Nat.le_of_ble_eq_true rfl⟩ ⟨Nat.le_of_ble_eq_true rfl, Nat.le_of_ble_eq_true rfl⟩ (Nat.le_of_ble_eq_true rfl) dX7_readLine_35 (fun r5 τ5 hp5 => ?_)
      obtain ⟨⟨x5, rfl, ⟨hx5a, hx5b⟩⟩, rfl⟩ := hp5
      show hpV _ _ _ _ _ _ _ _ _ _ _ _ _ _ _ _ _ _ _ _ _ (_ :: _)
      refine h_if_eq (tgt := 49) C dX7_readLine_38 (by decide) ⟨by omega, by omega⟩ (fun h6 => ?_) (fun h6 => ?_)
      · refine h_aload_n C dX7_readLine_49 0 rfl rfl ?_
        refine h_iconst C dX7_readLine_50 ?_
        refine h_callV (As := [.int (hpI 1)]) (rest := []) C Z yyX7_fail wd_500 (tgX7_fail l D cy z _ 1 ⟨by decide, by decide⟩ hI) kd_1 rfl rfl ⟨rfl, rfl, Nat.le_of_ble_eq_true rfl, Nat.le_of_ble_eq_true rfl⟩ ⟨Nat.le_of_ble_eq_true rfl, Nat.le_of_ble_eq_true rfl⟩ (Nat.le_of_ble_eq_true rfl) dX7_readLine_51 (fun r7 τ7 hp7 => ?_)
        obtain ⟨rfl, hI7, hG7⟩ := hp7
        have hF7 : ∀ j i : Nat, j ≠ 1 → (j < 9 ∨ 14 < j) → τ7 j i = σ j i := fun j i h_0 h_1 => (hG7 j i (by omega)).trans (hF0 j i h_0 h_1)
        have hg8 : τ7 9 8 = r1 := (hG7 9 8 (by omega)).trans hg1
        show hpV _ _ _ _ _ _ _ _ _ _ _ _ _ _ _ _ _ _ _ _ _ []
        refine h_aload_n C dX7_readLine_54 0 rfl rfl ?_
        refine h_aload_n C dX7_readLine_55 0 rfl rfl ?_
        refine h_get C O7 5 kd_1 (by decide) wd_40 dX7_readLine_56 (hp_fvI (by rw [kd_1]; rfl) rfl) ?_
        obtain ⟨hr9a, hr9b⟩ := hI7.b (bf_7_5 kd_1)
        generalize hg9 : τ7 1 5 = r9 at hr9a hr9b ⊢
        refine h_iconst C dX7_readLine_59 ?_
        refine h_icmp_ne (tgt := 67) C dX7_readLine_60 (by decide) ⟨by omega, by omega⟩ ⟨by decide, by decide⟩ (fun h10 => ?_) (fun h10 => ?_)
        · refine h_iconst C dX7_readLine_67 ?_
          refine h_callV (As := [.int (hpI 0)]) (rest := []) C Z yyX7_expect wd_496 (tgX7_expect l D cy z _ 0 ⟨by decide, by decide⟩ hI7) kd_1 rfl rfl ⟨rfl, rfl, Nat.le_of_ble_eq_true rfl, Nat.le_of_ble_eq_true rfl⟩ ⟨Nat.le_of_ble_eq_true rfl, Nat.le_of_ble_eq_true rfl⟩ (Nat.le_of_ble_eq_true rfl) dX7_readLine_68 (fun r11 τ11 hp11 => ?_)
          obtain ⟨rfl, hI11, hG11⟩ := hp11
          have hF11 : ∀ j i : Nat, j ≠ 1 → (j < 9 ∨ 14 < j) → τ11 j i = σ j i := fun j i h_0 h_1 => (hG11 j i (by omega)).trans (hF7 j i h_0 h_1)
          have hg12 : τ11 9 8 = r1 := (hG11 9 8 (by omega)).trans hg8
          show hpV _ _ _ _ _ _ _ _ _ _ _ _ _ _ _ _ _ _ _ _ _ []
          refine h_aload_n C dX7_readLine_71 1 rfl rfl ?_
          refine h_dup C rfl dX7_readLine_72 ?_
          refine h_getN C O1 8 kd_9 (by decide) nw_94 dX7_readLine_73 (hp_fvI (by rw [kd_9]; rfl) rfl) ?_
          rw [hg12]
          refine h_iconst C dX7_readLine_76 ?_
          refine h_iadd C dX7_readLine_77 rfl ?_
          refine hp_anyI (fun r13 hr13 => ?_)
          obtain ⟨hr13a, hr13b⟩ := hr13
          refine h_putN C O1 8 kd_9 (by decide) rfl nw_94 dX7_readLine_78 rfl rfl (hp_fvI (by rw [kd_9]; rfl) hpu_at) ?_
          obtain ⟨τ14, e14⟩ : ∃ μ : hpMem, μ = hpw τ11 9 8 r13 := ⟨_, rfl⟩
          rw [← e14]
          have hI14 : hpInv τ14 := by rw [e14]; exact hI11.w (bf_1_8 kd_9) (by omega) (by omega)
          have hF14 : ∀ j i : Nat, j ≠ 1 → (j < 9 ∨ 14 < j) → τ14 j i = σ j i := fun j i h_0 h_1 => by rw [e14]; exact (hpw_fr (by omega)).trans (hF11 j i h_0 h_1)
          have hg15 : τ14 9 8 = r13 := by rw [e14]; exact hpw_eq
          refine h_return C hr hlk dX7_readLine_81 ?_
          exact ⟨rfl, hI14, hF14⟩
        · refine h_iconst C dX7_readLine_63 ?_
          refine h_goto (tgt := 68) C dX7_readLine_64 (by decide) ?_
          refine h_callV (As := [.int (hpI 1)]) (rest := []) C Z yyX7_expect wd_496 (tgX7_expect l D cy z _ 1 ⟨by decide, by decide⟩ hI7) kd_1 rfl rfl ⟨rfl, rfl, Nat.le_of_ble_eq_true rfl, Nat.le_of_ble_eq_true rfl⟩ ⟨Nat.le_of_ble_eq_true rfl, Nat.le_of_ble_eq_true rfl⟩ (Nat.le_of_ble_eq_true rfl) dX7_readLine_68 (fun r16 τ16 hp16 => ?_)
          obtain ⟨rfl, hI16, hG16⟩ := hp16
          have hF16 : ∀ j i : Nat, j ≠ 1 → (j < 9 ∨ 14 < j) → τ16 j i = σ j i := fun j i h_0 h_1 => (hG16 j i (by omega)).trans (hF7 j i h_0 h_1)
          have hg17 : τ16 9 8 = r1 := (hG16 9 8 (by omega)).trans hg8
          show hpV _ _ _ _ _ _ _ _ _ _ _ _ _ _ _ _ _ _ _ _ _ []
          refine h_aload_n C dX7_readLine_71 1 rfl rfl ?_
          refine h_dup C rfl dX7_readLine_72 ?_
          refine h_getN C O1 8 kd_9 (by decide) nw_94 dX7_readLine_73 (hp_fvI (by rw [kd_9]; rfl) rfl) ?_
          rw [hg17]
          refine h_iconst C dX7_readLine_76 ?_
          refine h_iadd C dX7_readLine_77 rfl ?_
          refine hp_anyI (fun r18 hr18 => ?_)
          obtain ⟨hr18a, hr18b⟩ := hr18
          refine h_putN C O1 8 kd_9 (by decide) rfl nw_94 dX7_readLine_78 rfl rfl (hp_fvI (by rw [kd_9]; rfl) hpu_at) ?_
          obtain ⟨τ19, e19⟩ : ∃ μ : hpMem, μ = hpw τ16 9 8 r18 := ⟨_, rfl⟩
          rw [← e19]
          have hI19 : hpInv τ19 := by rw [e19]; exact hI16.w (bf_1_8 kd_9) (by omega) (by omega)
          have hF19 : ∀ j i : Nat, j ≠ 1 → (j < 9 ∨ 14 < j) → τ19 j i = σ j i := fun j i h_0 h_1 => by rw [e19]; exact (hpw_fr (by omega)).trans (hF16 j i h_0 h_1)
          have hg20 : τ19 9 8 = r18 := by rw [e19]; exact hpw_eq
          refine h_return C hr hlk dX7_readLine_81 ?_
          exact ⟨rfl, hI19, hF19⟩
      · refine h_aload_n C dX7_readLine_41 0 rfl rfl ?_
        refine h_aload_n C dX7_readLine_42 1 rfl rfl ?_
        refine h_callV (As := [.ref (z + 9)]) (rest := []) C Z yyX7_readCart wd_525 (tgX7_readCart l D cy z _ hI) kd_1 rfl rfl ⟨rfl, rfl, Nat.le_of_ble_eq_true rfl, Nat.le_of_ble_eq_true rfl⟩ ⟨Nat.le_of_ble_eq_true rfl, Nat.le_of_ble_eq_true rfl⟩ (Nat.le_of_ble_eq_true rfl) dX7_readLine_43 (fun r21 τ21 hp21 => ?_)
        obtain ⟨rfl, hI21, hG21⟩ := hp21
        have hF21 : ∀ j i : Nat, j ≠ 1 → (j < 9 ∨ 14 < j) → τ21 j i = σ j i := fun j i h_0 h_1 => (hG21 j i (by omega) (by omega)).trans (hF0 j i h_0 h_1)
        show hpV _ _ _ _ _ _ _ _ _ _ _ _ _ _ _ _ _ _ _ _ _ []
        refine h_goto (tgt := 54) C dX7_readLine_46 (by decide) ?_
        refine h_aload_n C dX7_readLine_54 0 rfl rfl ?_
        refine h_aload_n C dX7_readLine_55 0 rfl rfl ?_
        refine h_get C O7 5 kd_1 (by decide) wd_40 dX7_readLine_56 (hp_fvI (by rw [kd_1]; rfl) rfl) ?_
        obtain ⟨hr22a, hr22b⟩ := hI21.b (bf_7_5 kd_1)
        generalize hg22 : τ21 1 5 = r22 at hr22a hr22b ⊢
        refine h_iconst C dX7_readLine_59 ?_
        refine h_icmp_ne (tgt := 67) C dX7_readLine_60 (by decide) ⟨by omega, by omega⟩ ⟨by decide, by decide⟩ (fun h23 => ?_) (fun h23 => ?_)
        · refine h_iconst C dX7_readLine_67 ?_
          refine h_callV (As := [.int (hpI 0)]) (rest := []) C Z yyX7_expect wd_496 (tgX7_expect l D cy z _ 0 ⟨by decide, by decide⟩ hI21) kd_1 rfl rfl ⟨rfl, rfl, Nat.le_of_ble_eq_true rfl, Nat.le_of_ble_eq_true rfl⟩ ⟨Nat.le_of_ble_eq_true rfl, Nat.le_of_ble_eq_true rfl⟩ (Nat.le_of_ble_eq_true rfl) dX7_readLine_68 (fun r24 τ24 hp24 => ?_)
          obtain ⟨rfl, hI24, hG24⟩ := hp24
          have hF24 : ∀ j i : Nat, j ≠ 1 → (j < 9 ∨ 14 < j) → τ24 j i = σ j i := fun j i h_0 h_1 => (hG24 j i (by omega)).trans (hF21 j i h_0 h_1)
          show hpV _ _ _ _ _ _ _ _ _ _ _ _ _ _ _ _ _ _ _ _ _ []
          refine h_aload_n C dX7_readLine_71 1 rfl rfl ?_
          refine h_dup C rfl dX7_readLine_72 ?_
          refine h_getN C O1 8 kd_9 (by decide) nw_94 dX7_readLine_73 (hp_fvI (by rw [kd_9]; rfl) rfl) ?_
          obtain ⟨hr25a, hr25b⟩ := hI24.b (bf_1_8 kd_9)
          generalize hg25 : τ24 9 8 = r25 at hr25a hr25b ⊢
          refine h_iconst C dX7_readLine_76 ?_
          refine h_iadd C dX7_readLine_77 rfl ?_
          refine hp_anyI (fun r26 hr26 => ?_)
          obtain ⟨hr26a, hr26b⟩ := hr26
          refine h_putN C O1 8 kd_9 (by decide) rfl nw_94 dX7_readLine_78 rfl rfl (hp_fvI (by rw [kd_9]; rfl) hpu_at) ?_
          obtain ⟨τ27, e27⟩ : ∃ μ : hpMem, μ = hpw τ24 9 8 r26 := ⟨_, rfl⟩
          rw [← e27]
          have hI27 : hpInv τ27 := by rw [e27]; exact hI24.w (bf_1_8 kd_9) (by omega) (by omega)
          have hF27 : ∀ j i : Nat, j ≠ 1 → (j < 9 ∨ 14 < j) → τ27 j i = σ j i := fun j i h_0 h_1 => by rw [e27]; exact (hpw_fr (by omega)).trans (hF24 j i h_0 h_1)
          have hg28 : τ27 9 8 = r26 := by rw [e27]; exact hpw_eq
          refine h_return C hr hlk dX7_readLine_81 ?_
          exact ⟨rfl, hI27, hF27⟩
        · refine h_iconst C dX7_readLine_63 ?_
          refine h_goto (tgt := 68) C dX7_readLine_64 (by decide) ?_
          refine h_callV (As := [.int (hpI 1)]) (rest := []) C Z yyX7_expect wd_496 (tgX7_expect l D cy z _ 1 ⟨by decide, by decide⟩ hI21) kd_1 rfl rfl ⟨rfl, rfl, Nat.le_of_ble_eq_true rfl, Nat.le_of_ble_eq_true rfl⟩ ⟨Nat.le_of_ble_eq_true rfl, Nat.le_of_ble_eq_true rfl⟩ (Nat.le_of_ble_eq_true rfl) dX7_readLine_68 (fun r29 τ29 hp29 => ?_)
          obtain ⟨rfl, hI29, hG29⟩ := hp29
          have hF29 : ∀ j i : Nat, j ≠ 1 → (j < 9 ∨ 14 < j) → τ29 j i = σ j i := fun j i h_0 h_1 => (hG29 j i (by omega)).trans (hF21 j i h_0 h_1)
          show hpV _ _ _ _ _ _ _ _ _ _ _ _ _ _ _ _ _ _ _ _ _ []
          refine h_aload_n C dX7_readLine_71 1 rfl rfl ?_
          refine h_dup C rfl dX7_readLine_72 ?_
          refine h_getN C O1 8 kd_9 (by decide) nw_94 dX7_readLine_73 (hp_fvI (by rw [kd_9]; rfl) rfl) ?_
          obtain ⟨hr30a, hr30b⟩ := hI29.b (bf_1_8 kd_9)
          generalize hg30 : τ29 9 8 = r30 at hr30a hr30b ⊢
          refine h_iconst C dX7_readLine_76 ?_
          refine h_iadd C dX7_readLine_77 rfl ?_
          refine hp_anyI (fun r31 hr31 => ?_)
          obtain ⟨hr31a, hr31b⟩ := hr31
          refine h_putN C O1 8 kd_9 (by decide) rfl nw_94 dX7_readLine_78 rfl rfl (hp_fvI (by rw [kd_9]; rfl) hpu_at) ?_
          obtain ⟨τ32, e32⟩ : ∃ μ : hpMem, μ = hpw τ29 9 8 r31 := ⟨_, rfl⟩
          rw [← e32]
          have hI32 : hpInv τ32 := by rw [e32]; exact hI29.w (bf_1_8 kd_9) (by omega) (by omega)
          have hF32 : ∀ j i : Nat, j ≠ 1 → (j < 9 ∨ 14 < j) → τ32 j i = σ j i := fun j i h_0 h_1 => by rw [e32]; exact (hpw_fr (by omega)).trans (hF29 j i h_0 h_1)
          have hg33 : τ32 9 8 = r31 := by rw [e32]; exact hpw_eq
          refine h_return C hr hlk dX7_readLine_81 ?_
          exact ⟨rfl, hI32, hF32⟩
    · refine h_aload_n C dX7_readLine_24 0 rfl rfl ?_
      refine h_aload_n C dX7_readLine_25 1 rfl rfl ?_
      refine h_callV (As := [.ref (z + 9)]) (rest := []) C Z yyX7_readHeap wd_519 (tgX7_readHeap l D cy z _ hI) kd_1 rfl rfl ⟨rfl, rfl, Nat.le_of_ble_eq_true rfl, Nat.le_of_ble_eq_true rfl⟩ ⟨Nat.le_of_ble_eq_true rfl, Nat.le_of_ble_eq_true rfl⟩ (Nat.le_of_ble_eq_true rfl) dX7_readLine_26 (fun r34 τ34 hp34 => ?_)
      obtain ⟨rfl, hI34, hG34⟩ := hp34
      have hF34 : ∀ j i : Nat, j ≠ 1 → (j < 9 ∨ 14 < j) → τ34 j i = σ j i := fun j i h_0 h_1 => (hG34 j i (by omega) (by omega)).trans (hF0 j i h_0 h_1)
      show hpV _ _ _ _ _ _ _ _ _ _ _ _ _ _ _ _ _ _ _ _ _ []
      refine h_goto (tgt := 54) C dX7_readLine_29 (by decide) ?_
      refine h_aload_n C dX7_readLine_54 0 rfl rfl ?_
      refine h_aload_n C dX7_readLine_55 0 rfl rfl ?_
      refine h_get C O7 5 kd_1 (by decide) wd_40 dX7_readLine_56 (hp_fvI (by rw [kd_1]; rfl) rfl) ?_
      obtain ⟨hr35a, hr35b⟩ := hI34.b (bf_7_5 kd_1)
      generalize hg35 : τ34 1 5 = r35 at hr35a hr35b ⊢
      refine h_iconst C dX7_readLine_59 ?_
      refine h_icmp_ne (tgt := 67) C dX7_readLine_60 (by decide) ⟨by omega, by omega⟩ ⟨by decide, by decide⟩ (fun h36 => ?_) (fun h36 => ?_)
      · refine h_iconst C dX7_readLine_67 ?_
        refine h_callV (As := [.int (hpI 0)]) (rest := []) C Z yyX7_expect wd_496 (tgX7_expect l D cy z _ 0 ⟨by decide, by decide⟩ hI34) kd_1 rfl rfl ⟨rfl, rfl, Nat.le_of_ble_eq_true rfl, Nat.le_of_ble_eq_true rfl⟩ ⟨Nat.le_of_ble_eq_true rfl, Nat.le_of_ble_eq_true rfl⟩ (Nat.le_of_ble_eq_true rfl) dX7_readLine_68 (fun r37 τ37 hp37 => ?_)
        obtain ⟨rfl, hI37, hG37⟩ := hp37
        have hF37 : ∀ j i : Nat, j ≠ 1 → (j < 9 ∨ 14 < j) → τ37 j i = σ j i := fun j i h_0 h_1 => (hG37 j i (by omega)).trans (hF34 j i h_0 h_1)
        show hpV _ _ _ _ _ _ _ _ _ _ _ _ _ _ _ _ _ _ _ _ _ []
        refine h_aload_n C dX7_readLine_71 1 rfl rfl ?_
        refine h_dup C rfl dX7_readLine_72 ?_
        refine h_getN C O1 8 kd_9 (by decide) nw_94 dX7_readLine_73 (hp_fvI (by rw [kd_9]; rfl) rfl) ?_
        obtain ⟨hr38a, hr38b⟩ := hI37.b (bf_1_8 kd_9)
        generalize hg38 : τ37 9 8 = r38 at hr38a hr38b ⊢
        refine h_iconst C dX7_readLine_76 ?_
        refine h_iadd C dX7_readLine_77 rfl ?_
        refine hp_anyI (fun r39 hr39 => ?_)
        obtain ⟨hr39a, hr39b⟩ := hr39
        refine h_putN C O1 8 kd_9 (by decide) rfl nw_94 dX7_readLine_78 rfl rfl (hp_fvI (by rw [kd_9]; rfl) hpu_at) ?_
        obtain ⟨τ40, e40⟩ : ∃ μ : hpMem, μ = hpw τ37 9 8 r39 := ⟨_, rfl⟩
        rw [← e40]
        have hI40 : hpInv τ40 := by rw [e40]; exact hI37.w (bf_1_8 kd_9) (by omega) (by omega)
        have hF40 : ∀ j i : Nat, j ≠ 1 → (j < 9 ∨ 14 < j) → τ40 j i = σ j i := fun j i h_0 h_1 => by rw [e40]; exact (hpw_fr (by omega)).trans (hF37 j i h_0 h_1)
        have hg41 : τ40 9 8 = r39 := by rw [e40]; exact hpw_eq
        refine h_return C hr hlk dX7_readLine_81 ?_
        exact ⟨rfl, hI40, hF40⟩
      · refine h_iconst C dX7_readLine_63 ?_
        refine h_goto (tgt := 68) C dX7_readLine_64 (by decide) ?_
        refine h_callV (As := [.int (hpI 1)]) (rest := []) C Z yyX7_expect wd_496 (tgX7_expect l D cy z _ 1 ⟨by decide, by decide⟩ hI34) kd_1 rfl rfl ⟨rfl, rfl, Nat.le_of_ble_eq_true rfl, Nat.le_of_ble_eq_true rfl⟩ ⟨Nat.le_of_ble_eq_true rfl, Nat.le_of_ble_eq_true rfl⟩ (Nat.le_of_ble_eq_true rfl) dX7_readLine_68 (fun r42 τ42 hp42 => ?_)
        obtain ⟨rfl, hI42, hG42⟩ := hp42
        have hF42 : ∀ j i : Nat, j ≠ 1 → (j < 9 ∨ 14 < j) → τ42 j i = σ j i := fun j i h_0 h_1 => (hG42 j i (by omega)).trans (hF34 j i h_0 h_1)
        show hpV _ _ _ _ _ _ _ _ _ _ _ _ _ _ _ _ _ _ _ _ _ []
        refine h_aload_n C dX7_readLine_71 1 rfl rfl ?_
        refine h_dup C rfl dX7_readLine_72 ?_
        refine h_getN C O1 8 kd_9 (by decide) nw_94 dX7_readLine_73 (hp_fvI (by rw [kd_9]; rfl) rfl) ?_
        obtain ⟨hr43a, hr43b⟩ := hI42.b (bf_1_8 kd_9)
        generalize hg43 : τ42 9 8 = r43 at hr43a hr43b ⊢
        refine h_iconst C dX7_readLine_76 ?_
        refine h_iadd C dX7_readLine_77 rfl ?_
        refine hp_anyI (fun r44 hr44 => ?_)
        obtain ⟨hr44a, hr44b⟩ := hr44
        refine h_putN C O1 8 kd_9 (by decide) rfl nw_94 dX7_readLine_78 rfl rfl (hp_fvI (by rw [kd_9]; rfl) hpu_at) ?_
        obtain ⟨τ45, e45⟩ : ∃ μ : hpMem, μ = hpw τ42 9 8 r44 := ⟨_, rfl⟩
        rw [← e45]
        have hI45 : hpInv τ45 := by rw [e45]; exact hI42.w (bf_1_8 kd_9) (by omega) (by omega)
        have hF45 : ∀ j i : Nat, j ≠ 1 → (j < 9 ∨ 14 < j) → τ45 j i = σ j i := fun j i h_0 h_1 => by rw [e45]; exact (hpw_fr (by omega)).trans (hF42 j i h_0 h_1)
        have hg46 : τ45 9 8 = r44 := by rw [e45]; exact hpw_eq
        refine h_return C hr hlk dX7_readLine_81 ?_
        exact ⟨rfl, hI45, hF45⟩
  · refine h_aload_n C dX7_readLine_7 0 rfl rfl ?_
    refine h_aload_n C dX7_readLine_8 1 rfl rfl ?_
    refine h_callV (As := [.ref (z + 9)]) (rest := []) C Z yyX7_readFirst wd_439 (tgX7_readFirst l D cy z _ hI) kd_1 rfl rfl ⟨rfl, rfl, Nat.le_of_ble_eq_true rfl, Nat.le_of_ble_eq_true rfl⟩ ⟨Nat.le_of_ble_eq_true rfl, Nat.le_of_ble_eq_true rfl⟩ (Nat.le_of_ble_eq_true rfl) dX7_readLine_9 (fun r47 τ47 hp47 => ?_)
    obtain ⟨rfl, hI47, hG47⟩ := hp47
    have hF47 : ∀ j i : Nat, j ≠ 1 → (j < 9 ∨ 14 < j) → τ47 j i = σ j i := fun j i h_0 h_1 => (hG47 j i (by omega) (by omega)).trans (hF0 j i h_0 h_1)
    show hpV _ _ _ _ _ _ _ _ _ _ _ _ _ _ _ _ _ _ _ _ _ []
    refine h_goto (tgt := 54) C dX7_readLine_12 (by decide) ?_
    refine h_aload_n C dX7_readLine_54 0 rfl rfl ?_
    refine h_aload_n C dX7_readLine_55 0 rfl rfl ?_
    refine h_get C O7 5 kd_1 (by decide) wd_40 dX7_readLine_56 (hp_fvI (by rw [kd_1]; rfl) rfl) ?_
    obtain ⟨hr48a, hr48b⟩ := hI47.b (bf_7_5 kd_1)
    generalize hg48 : τ47 1 5 = r48 at hr48a hr48b ⊢
    refine h_iconst C dX7_readLine_59 ?_
    refine h_icmp_ne (tgt := 67) C dX7_readLine_60 (by decide) ⟨by omega, by omega⟩ ⟨by decide, by decide⟩ (fun h49 => ?_) (fun h49 => ?_)
    · refine h_iconst C dX7_readLine_67 ?_
      refine h_callV (As := [.int (hpI 0)]) (rest := []) C Z yyX7_expect wd_496 (tgX7_expect l D cy z _ 0 ⟨by decide, by decide⟩ hI47) kd_1 rfl rfl ⟨rfl, rfl, Nat.le_of_ble_eq_true rfl, Nat.le_of_ble_eq_true rfl⟩ ⟨Nat.le_of_ble_eq_true rfl, Nat.le_of_ble_eq_true rfl⟩ (Nat.le_of_ble_eq_true rfl) dX7_readLine_68 (fun r50 τ50 hp50 => ?_)
      obtain ⟨rfl, hI50, hG50⟩ := hp50
      have hF50 : ∀ j i : Nat, j ≠ 1 → (j < 9 ∨ 14 < j) → τ50 j i = σ j i := fun j i h_0 h_1 => (hG50 j i (by omega)).trans (hF47 j i h_0 h_1)
      show hpV _ _ _ _ _ _ _ _ _ _ _ _ _ _ _ _ _ _ _ _ _ []
      refine h_aload_n C dX7_readLine_71 1 rfl rfl ?_
      refine h_dup C rfl dX7_readLine_72 ?_
      refine h_getN C O1 8 kd_9 (by decide) nw_94 dX7_readLine_73 (hp_fvI (by rw [kd_9]; rfl) rfl) ?_
      obtain ⟨hr51a, hr51b⟩ := hI50.b (bf_1_8 kd_9)
      generalize hg51 : τ50 9 8 = r51 at hr51a hr51b ⊢
      refine h_iconst C dX7_readLine_76 ?_
      refine h_iadd C dX7_readLine_77 rfl ?_
      refine hp_anyI (fun r52 hr52 => ?_)
      obtain ⟨hr52a, hr52b⟩ := hr52
      refine h_putN C O1 8 kd_9 (by decide) rfl nw_94 dX7_readLine_78 rfl rfl (hp_fvI (by rw [kd_9]; rfl) hpu_at) ?_
      obtain ⟨τ53, e53⟩ : ∃ μ : hpMem, μ = hpw τ50 9 8 r52 := ⟨_, rfl⟩
      rw [← e53]
      have hI53 : hpInv τ53 := by rw [e53]; exact hI50.w (bf_1_8 kd_9) (by omega) (by omega)
      have hF53 : ∀ j i : Nat, j ≠ 1 → (j < 9 ∨ 14 < j) → τ53 j i = σ j i := fun j i h_0 h_1 => by rw [e53]; exact (hpw_fr (by omega)).trans (hF50 j i h_0 h_1)
      have hg54 : τ53 9 8 = r52 := by rw [e53]; exact hpw_eq
      refine h_return C hr hlk dX7_readLine_81 ?_
      exact ⟨rfl, hI53, hF53⟩
    · refine h_iconst C dX7_readLine_63 ?_
      refine h_goto (tgt := 68) C dX7_readLine_64 (by decide) ?_
      refine h_callV (As := [.int (hpI 1)]) (rest := []) C Z yyX7_expect wd_496 (tgX7_expect l D cy z _ 1 ⟨by decide, by decide⟩ hI47) kd_1 rfl rfl ⟨rfl, rfl, Nat.le_of_ble_eq_true rfl, Nat.le_of_ble_eq_true rfl⟩ ⟨Nat.le_of_ble_eq_true rfl, Nat.le_of_ble_eq_true rfl⟩ (Nat.le_of_ble_eq_true rfl) dX7_readLine_68 (fun r55 τ55 hp55 => ?_)
      obtain ⟨rfl, hI55, hG55⟩ := hp55
      have hF55 : ∀ j i : Nat, j ≠ 1 → (j < 9 ∨ 14 < j) → τ55 j i = σ j i := fun j i h_0 h_1 => (hG55 j i (by omega)).trans (hF47 j i h_0 h_1)
      show hpV _ _ _ _ _ _ _ _ _ _ _ _ _ _ _ _ _ _ _ _ _ []
      refine h_aload_n C dX7_readLine_71 1 rfl rfl ?_
      refine h_dup C rfl dX7_readLine_72 ?_
      refine h_getN C O1 8 kd_9 (by decide) nw_94 dX7_readLine_73 (hp_fvI (by rw [kd_9]; rfl) rfl) ?_
      obtain ⟨hr56a, hr56b⟩ := hI55.b (bf_1_8 kd_9)
      generalize hg56 : τ55 9 8 = r56 at hr56a hr56b ⊢
      refine h_iconst C dX7_readLine_76 ?_
      refine h_iadd C dX7_readLine_77 rfl ?_
      refine hp_anyI (fun r57 hr57 => ?_)
      obtain ⟨hr57a, hr57b⟩ := hr57
      refine h_putN C O1 8 kd_9 (by decide) rfl nw_94 dX7_readLine_78 rfl rfl (hp_fvI (by rw [kd_9]; rfl) hpu_at) ?_
      obtain ⟨τ58, e58⟩ : ∃ μ : hpMem, μ = hpw τ55 9 8 r57 := ⟨_, rfl⟩
      rw [← e58]
      have hI58 : hpInv τ58 := by rw [e58]; exact hI55.w (bf_1_8 kd_9) (by omega) (by omega)
      have hF58 : ∀ j i : Nat, j ≠ 1 → (j < 9 ∨ 14 < j) → τ58 j i = σ j i := fun j i h_0 h_1 => by rw [e58]; exact (hpw_fr (by omega)).trans (hF55 j i h_0 h_1)
      have hg59 : τ58 9 8 = r57 := by rw [e58]; exact hpw_eq
      refine h_return C hr hlk dX7_readLine_81 ?_
      exact ⟨rfl, hI58, hF58⟩
abbrev rgX7_readInto : Room := { frames := 7, cells := 0, slots := 0, locals := 149 }
abbrev pgX7_readInto (z : Nat) (σ : hpMem) : Option Value → hpMem → Prop := fun r τ => (∃ x : Int, r = some (.int (hpI x)) ∧ (0 ≤ x ∧ x ≤ 1)) ∧ hpInv τ ∧ (∀ j i : Nat, j ≠ 1 → (j < 9 ∨ 14 < j) → τ j i = σ j i)
set_option maxHeartbeats 4000000 in
set_option maxRecDepth 20000 in
theorem tgX7_readInto (l : Launch) (D : va_G) (cy : Nat → ClassId) (z : Nat) (σ : hpMem) (hI : hpInv σ) : hpM l D cy z yX7_readInto cX7_readInto 3 (some .boolean) rgX7_readInto [.ref (z + 1), .ref (z + 9)] σ (pgX7_readInto z σ) := by
  refine hp_met rfl (Nat.le_of_ble_eq_true rfl) (fun p e s m below meth c C Z hr hlk => ?_)
  have hF0 : ∀ j i : Nat, j ≠ 1 → (j < 9 ∨ 14 < j) → σ j i = σ j i := fun j i _ _ => rfl
  refine h_aload_n C dX7_readInto_0 1 rfl rfl ?_
  refine h_callVN (As := []) (rest := []) C Z yyX1_clear nw_418 (tgX1_clear l D cy z _ hI) kd_9 rfl rfl ⟨rfl, rfl, Nat.le_of_ble_eq_true rfl, Nat.le_of_ble_eq_true rfl⟩ ⟨Nat.le_of_ble_eq_true rfl, Nat.le_of_ble_eq_true rfl⟩ (Nat.le_of_ble_eq_true rfl) dX7_readInto_1 (fun r1 τ1 hp1 => ?_)
  obtain ⟨rfl, hI1, hG1⟩ := hp1
  have hF1 : ∀ j i : Nat, j ≠ 1 → (j < 9 ∨ 14 < j) → τ1 j i = σ j i := fun j i h_0 h_1 => (hG1 j i (by omega)).trans (hF0 j i h_0 h_1)
  show hpV _ _ _ _ _ _ _ _ _ _ _ _ _ _ _ _ _ _ _ _ _ []
  refine h_aload_n C dX7_readInto_4 0 rfl rfl ?_
  refine h_iconst C dX7_readInto_5 ?_
  refine h_put C O7 2 kd_1 (by decide) rfl wd_35 dX7_readInto_6 rfl rfl (hp_fvI (by rw [kd_1]; rfl) hpu_at) ?_
  obtain ⟨τ2, e2⟩ : ∃ μ : hpMem, μ = hpw τ1 1 2 0 := ⟨_, rfl⟩
  rw [← e2]
  have hI2 : hpInv τ2 := by rw [e2]; exact hI1.w (bf_7_2 kd_1) (by omega) (by omega)
  have hF2 : ∀ j i : Nat, j ≠ 1 → (j < 9 ∨ 14 < j) → τ2 j i = σ j i := fun j i h_0 h_1 => by rw [e2]; exact (hpw_fr (by omega)).trans (hF1 j i h_0 h_1)
  have hg3 : τ2 1 2 = 0 := by rw [e2]; exact hpw_eq
  refine h_aload_n C dX7_readInto_9 0 rfl rfl ?_
  refine h_iconst C dX7_readInto_10 ?_
  refine h_put C O7 3 kd_1 (by decide) rfl wd_37 dX7_readInto_11 rfl rfl (hp_fvI (by rw [kd_1]; rfl) hpu_at) ?_
  obtain ⟨τ4, e4⟩ : ∃ μ : hpMem, μ = hpw τ2 1 3 (-1) := ⟨_, rfl⟩
  rw [← e4]
  have hI4 : hpInv τ4 := by rw [e4]; exact hI2.w (bf_7_3 kd_1) (by omega) (by omega)
  have hF4 : ∀ j i : Nat, j ≠ 1 → (j < 9 ∨ 14 < j) → τ4 j i = σ j i := fun j i h_0 h_1 => by rw [e4]; exact (hpw_fr (by omega)).trans (hF2 j i h_0 h_1)
  have hg5 : τ4 1 2 = 0 := by rw [e4]; exact (hpw_fr (Or.inr (by decide))).trans hg3
  have hg6 : τ4 1 3 = (-1) := by rw [e4]; exact hpw_eq
  refine h_aload_n C dX7_readInto_14 0 rfl rfl ?_
  refine h_iconst C dX7_readInto_15 ?_
  refine h_put C O7 4 kd_1 (by decide) rfl wd_39 dX7_readInto_16 rfl rfl (hp_fvI (by rw [kd_1]; rfl) hpu_at) ?_
  obtain ⟨τ7, e7⟩ : ∃ μ : hpMem, μ = hpw τ4 1 4 0 := ⟨_, rfl⟩
  rw [← e7]
  have hI7 : hpInv τ7 := by rw [e7]; exact hI4.w (bf_7_4 kd_1) (by omega) (by omega)
  have hF7 : ∀ j i : Nat, j ≠ 1 → (j < 9 ∨ 14 < j) → τ7 j i = σ j i := fun j i h_0 h_1 => by rw [e7]; exact (hpw_fr (by omega)).trans (hF4 j i h_0 h_1)
  have hg8 : τ7 1 2 = 0 := by rw [e7]; exact (hpw_fr (Or.inr (by decide))).trans hg5
  have hg9 : τ7 1 3 = (-1) := by rw [e7]; exact (hpw_fr (Or.inr (by decide))).trans hg6
  have hg10 : τ7 1 4 = 0 := by rw [e7]; exact hpw_eq
  refine h_aload_n C dX7_readInto_19 0 rfl rfl ?_
  refine h_callV (As := []) (rest := []) C Z yyX7_nextToken wd_422 (tgX7_nextToken l D cy z _ hI7) kd_1 rfl rfl ⟨rfl, rfl, Nat.le_of_ble_eq_true rfl, Nat.le_of_ble_eq_true rfl⟩ ⟨Nat.le_of_ble_eq_true rfl, Nat.le_of_ble_eq_true rfl⟩ (Nat.le_of_ble_eq_true rfl) dX7_readInto_20 (fun r11 τ11 hp11 => ?_)
  obtain ⟨rfl, hI11, hG11⟩ := hp11
  have hF11 : ∀ j i : Nat, j ≠ 1 → (j < 9 ∨ 14 < j) → τ11 j i = σ j i := fun j i h_0 h_1 => (hG11 j i (by omega)).trans (hF7 j i h_0 h_1)
  show hpV _ _ _ _ _ _ _ _ _ _ _ _ _ _ _ _ _ _ _ _ _ []
  refine h_iconst C dX7_readInto_23 ?_
  refine h_istore_n (lv' := [(2, .int (hpI 0)), (0, .ref (z + 1)), (1, .ref (z + 9))]) C dX7_readInto_24 rfl (by decide) rfl ?_
  have L12 : ∀ (n12 : Nat) (τ12 : hpMem) (w12_2 : Int), 0 ≤ w12_2 → w12_2 ≤ 2147483647 → hpInv τ12 → (∀ j i : Nat, j ≠ 1 → (j < 9 ∨ 14 < j) → τ12 j i = σ j i) → (4294967296 - w12_2) < (n12 : Int) → hpF p l e rgX7_readInto s m [.ref (z + 1), .ref (z + 9)] below meth c 3 D cy z (pgX7_readInto z σ) τ12 25 [(0, .ref (z + 1)), (1, .ref (z + 9)), (2, .int (hpI w12_2))] [] := by
    intro n12
    induction n12 with
    | zero => intro τ12 w12_2 hv12_0 hv12_1 hI12 hF12 hm12; exfalso; omega
    | succ n12 ih12 =>
      intro τ12 w12_2 hv12_0 hv12_1 hI12 hF12 hm12
      refine h_iload_n C dX7_readInto_25 2 rfl rfl ?_
      refine h_sipush C dX7_readInto_26 (by decide) ?_
      refine h_icmp_ge (tgt := 57) C dX7_readInto_29 (by decide) ⟨by omega, by omega⟩ ⟨by decide, by decide⟩ (fun h13 => ?_) (fun h13 => ?_)
      · refine h_aload_n C dX7_readInto_57 0 rfl rfl ?_
        refine h_get C O7 2 kd_1 (by decide) wd_35 dX7_readInto_58 (hp_fvI (by rw [kd_1]; rfl) rfl) ?_
        obtain ⟨hr14a, hr14b⟩ := hI12.b (bf_7_2 kd_1)
        generalize hg14 : τ12 1 2 = r14 at hr14a hr14b ⊢
        refine h_if_ne (tgt := 68) C dX7_readInto_61 (by decide) ⟨by omega, by omega⟩ (fun h15 => ?_) (fun h15 => ?_)
        · refine h_iconst C dX7_readInto_68 ?_
          refine h_zreturn C (by omega) hr hlk dX7_readInto_69 ?_
          exact ⟨⟨_, rfl, ⟨by decide, by decide⟩⟩, hI12, hF12⟩
        · refine h_iconst C dX7_readInto_64 ?_
          refine h_goto (tgt := 69) C dX7_readInto_65 (by decide) ?_
          refine h_zreturn C (by omega) hr hlk dX7_readInto_69 ?_
          exact ⟨⟨_, rfl, ⟨by decide, by decide⟩⟩, hI12, hF12⟩
      · refine h_aload_n C dX7_readInto_32 0 rfl rfl ?_
        refine h_get C O7 5 kd_1 (by decide) wd_40 dX7_readInto_33 (hp_fvI (by rw [kd_1]; rfl) rfl) ?_
        obtain ⟨hr16a, hr16b⟩ := hI12.b (bf_7_5 kd_1)
        generalize hg16 : τ12 1 5 = r16 at hr16a hr16b ⊢
        refine h_if_eq (tgt := 57) C dX7_readInto_36 (by decide) ⟨by omega, by omega⟩ (fun h17 => ?_) (fun h17 => ?_)
        · refine h_aload_n C dX7_readInto_57 0 rfl rfl ?_
          refine h_get C O7 2 kd_1 (by decide) wd_35 dX7_readInto_58 (hp_fvI (by rw [kd_1]; rfl) rfl) ?_
          obtain ⟨hr18a, hr18b⟩ := hI12.b (bf_7_2 kd_1)
          generalize hg18 : τ12 1 2 = r18 at hr18a hr18b ⊢
          refine h_if_ne (tgt := 68) C dX7_readInto_61 (by decide) ⟨by omega, by omega⟩ (fun h19 => ?_) (fun h19 => ?_)
          · refine h_iconst C dX7_readInto_68 ?_
            refine h_zreturn C (by omega) hr hlk dX7_readInto_69 ?_
            exact ⟨⟨_, rfl, ⟨by decide, by decide⟩⟩, hI12, hF12⟩
          · refine h_iconst C dX7_readInto_64 ?_
            refine h_goto (tgt := 69) C dX7_readInto_65 (by decide) ?_
            refine h_zreturn C (by omega) hr hlk dX7_readInto_69 ?_
            exact ⟨⟨_, rfl, ⟨by decide, by decide⟩⟩, hI12, hF12⟩
        · refine h_aload_n C dX7_readInto_39 0 rfl rfl ?_
          refine h_get C O7 2 kd_1 (by decide) wd_35 dX7_readInto_40 (hp_fvI (by rw [kd_1]; rfl) rfl) ?_
          obtain ⟨hr20a, hr20b⟩ := hI12.b (bf_7_2 kd_1)
          generalize hg20 : τ12 1 2 = r20 at hr20a hr20b ⊢
          refine h_if_ne (tgt := 57) C dX7_readInto_43 (by decide) ⟨by omega, by omega⟩ (fun h21 => ?_) (fun h21 => ?_)
          · refine h_aload_n C dX7_readInto_57 0 rfl rfl ?_
            refine h_get C O7 2 kd_1 (by decide) wd_35 dX7_readInto_58 (hp_fvI (by rw [kd_1]; rfl) rfl) ?_
            rw [hg20]
            refine h_if_ne (tgt := 68) C dX7_readInto_61 (by decide) ⟨by omega, by omega⟩ (fun h22 => ?_) (fun h22 => ?_)
            · refine h_iconst C dX7_readInto_68 ?_
              refine h_zreturn C (by omega) hr hlk dX7_readInto_69 ?_
              exact ⟨⟨_, rfl, ⟨by decide, by decide⟩⟩, hI12, hF12⟩
            · refine h_iconst C dX7_readInto_64 ?_
              refine h_goto (tgt := 69) C dX7_readInto_65 (by decide) ?_
              refine h_zreturn C (by omega) hr hlk dX7_readInto_69 ?_
              exact ⟨⟨_, rfl, ⟨by decide, by decide⟩⟩, hI12, hF12⟩
          · refine h_aload_n C dX7_readInto_46 0 rfl rfl ?_
            refine h_aload_n C dX7_readInto_47 1 rfl rfl ?_
            refine h_callV (As := [.ref (z + 9)]) (rest := []) C Z yyX7_readLine wd_435 (tgX7_readLine l D cy z _ hI12) kd_1 rfl rfl ⟨rfl, rfl, Nat.le_of_ble_eq_true rfl, Nat.le_of_ble_eq_true rfl⟩ ⟨Nat.le_of_ble_eq_true rfl, Nat.le_of_ble_eq_true rfl⟩ (Nat.le_of_ble_eq_true rfl) dX7_readInto_48 (fun r23 τ23 hp23 => ?_)
            obtain ⟨rfl, hI23, hG23⟩ := hp23
            have hF23 : ∀ j i : Nat, j ≠ 1 → (j < 9 ∨ 14 < j) → τ23 j i = σ j i := fun j i h_0 h_1 => (hG23 j i (by omega) (by omega)).trans (hF12 j i h_0 h_1)
            show hpV _ _ _ _ _ _ _ _ _ _ _ _ _ _ _ _ _ _ _ _ _ []
            refine h_iinc (lv' := [(2, .int (hpI (w12_2 + 1))), (0, .ref (z + 1)), (1, .ref (z + 9))]) C dX7_readInto_51 2 rfl rfl (by decide) rfl ?_
            refine h_goto (tgt := 25) C dX7_readInto_54 (by decide) ?_
            exact hp_sub [1, 2, 0] rfl (ih12 _ (w12_2 + 1) (by omega) (by omega) hI23 hF23 (by omega))
  exact hp_sub [1, 2, 0] rfl (L12 8589934592 _ 0 (by omega) (by omega) hI11 hF11 (by omega))

abbrev rgX9_goesRound : Room := { frames := 3, cells := 0, slots := 0, locals := 69 }
abbrev pgX9_goesRound (z : Nat) (σ : hpMem) (a0 : Int) : Option Value → hpMem → Prop := fun r τ => (∃ x : Int, r = some (.int (hpI x)) ∧ (0 ≤ x ∧ x ≤ 1) ∧ hpInv τ ∧ (∀ j i : Nat, (j ≠ 202 ∨ (i : Int) < 701 * 18) → (j ≠ 195 ∨ (i ≠ 17 ∧ i ≠ 18 ∧ i ≠ 27 ∧ i ≠ 28)) → τ j i = σ j i) ∧ (hpLe (τ 202) 18 700))
set_option maxHeartbeats 4000000 in
set_option maxRecDepth 20000 in
theorem tgX9_goesRound (l : Launch) (D : va_G) (cy : Nat → ClassId) (z : Nat) (σ : hpMem) (a0 : Int) (ha0 : hpR a0) (hI : hpInv σ) (hr0 : 0 ≤ a0 ∧ a0 ≤ 16) (hR : hpLe (σ 202) a0 700) : hpM l D cy z yX9_goesRound cX9_goesRound 5 (some .boolean) rgX9_goesRound [.ref (z + 195), .int (hpI a0)] σ (pgX9_goesRound z σ a0) := by
  obtain ⟨ha01, ha02⟩ := ha0
  refine hp_met rfl (Nat.le_of_ble_eq_true rfl) (fun p e s m below meth c C Z hr hlk => ?_)
  have hF0 : ∀ j i : Nat, (j ≠ 202 ∨ (i : Int) < 701 * 18) → (j ≠ 195 ∨ (i ≠ 17 ∧ i ≠ 18 ∧ i ≠ 27 ∧ i ≠ 28)) → σ j i = σ j i := fun j i _ _ => rfl
  obtain ⟨L0, hL0, hK0⟩ := hR.ok
  have hLl := hK0.len
  obtain ⟨w, hw⟩ : ∃ w : Nat, w = (σ 195 16).toNat := ⟨_, rfl⟩
  refine h_aload_n C dX9_goesRound_0 0 rfl rfl ?_
  refine h_iload_n C dX9_goesRound_1 1 rfl rfl ?_
  refine h_bipush C dX9_goesRound_2 (by decide) ?_
  refine h_callV (As := [.int (hpI a0), .int (hpI 18)]) (rest := []) C Z yyX9_copyRow wd_1559 (tgX9_copyRow l D cy z _ a0 ⟨by omega, by omega⟩ 18 ⟨by decide, by decide⟩ hI (by omega) (by omega)) kd_195 rfl rfl ⟨rfl, rfl, Nat.le_of_ble_eq_true rfl, Nat.le_of_ble_eq_true rfl⟩ ⟨Nat.le_of_ble_eq_true rfl, Nat.le_of_ble_eq_true rfl⟩ (Nat.le_of_ble_eq_true rfl) dX9_goesRound_4 (fun r1 τ1 hp1 => ?_)
  obtain ⟨rfl, hI1, hG1, hq1_0⟩ := hp1
  have hF1 : ∀ j i : Nat, (j ≠ 202 ∨ (i : Int) < 701 * 18) → (j ≠ 195 ∨ (i ≠ 17 ∧ i ≠ 18 ∧ i ≠ 27 ∧ i ≠ 28)) → τ1 j i = σ j i := fun j i h_0 h_1 => (hG1 j i (by omega)).trans (hF0 j i h_0 h_1)
  show hpV _ _ _ _ _ _ _ _ _ _ _ _ _ _ _ _ _ _ _ _ _ []
  have s1 := hq1_0 L0 hL0
  refine h_aload_n C dX9_goesRound_7 0 rfl rfl ?_
  refine h_iload_n C dX9_goesRound_8 1 rfl rfl ?_
  refine h_bipush C dX9_goesRound_9 (by decide) ?_
  have hA11 : hpRw (τ1 202) a0 L0 := hL0.fr hLl (by omega) (fun i h1 h2 => hF1 202 i (by omega) (by omega))
  refine h_callV (As := [.int (hpI a0), .int (hpI 19)]) (rest := []) C Z yyX9_copyRow wd_1559 (tgX9_copyRow l D cy z _ a0 ⟨by omega, by omega⟩ 19 ⟨by decide, by decide⟩ hI1 (by omega) (by omega)) kd_195 rfl rfl ⟨rfl, rfl, Nat.le_of_ble_eq_true rfl, Nat.le_of_ble_eq_true rfl⟩ ⟨Nat.le_of_ble_eq_true rfl, Nat.le_of_ble_eq_true rfl⟩ (Nat.le_of_ble_eq_true rfl) dX9_goesRound_11 (fun r2 τ2 hp2 => ?_)
  obtain ⟨rfl, hI2, hG2, hq2_0⟩ := hp2
  have hF2 : ∀ j i : Nat, (j ≠ 202 ∨ (i : Int) < 701 * 18) → (j ≠ 195 ∨ (i ≠ 17 ∧ i ≠ 18 ∧ i ≠ 27 ∧ i ≠ 28)) → τ2 j i = σ j i := fun j i h_0 h_1 => (hG2 j i (by omega)).trans (hF1 j i h_0 h_1)
  show hpV _ _ _ _ _ _ _ _ _ _ _ _ _ _ _ _ _ _ _ _ _ []
  have s2 : hpRw (τ2 202) 18 L0 := s1.fr hLl (by decide) (fun i h1 h2 => hG2 202 i (by omega))
  have f2 := hq2_0 L0 hA11
  refine h_aload_n C dX9_goesRound_14 0 rfl rfl ?_
  refine h_bipush C dX9_goesRound_15 (by decide) ?_
  have l16 : τ2 195 16 = σ 195 16 := hF2 195 16 (by omega) (by omega)
  refine h_callV (As := [.int (hpI 19)]) (rest := []) C Z yyX9_step wd_1563 (tgX9_step l D cy z _ 19 ⟨by decide, by decide⟩ hI2 _ (by omega) f2 hK0) kd_195 rfl rfl ⟨rfl, rfl, Nat.le_of_ble_eq_true rfl, Nat.le_of_ble_eq_true rfl⟩ ⟨Nat.le_of_ble_eq_true rfl, Nat.le_of_ble_eq_true rfl⟩ (Nat.le_of_ble_eq_true rfl) dX9_goesRound_17 (fun r3 τ3 hp3 => ?_)
  obtain ⟨rfl, hI3, hG3, hq3_0⟩ := hp3
  have hF3 : ∀ j i : Nat, (j ≠ 202 ∨ (i : Int) < 701 * 18) → (j ≠ 195 ∨ (i ≠ 17 ∧ i ≠ 18 ∧ i ≠ 27 ∧ i ≠ 28)) → τ3 j i = σ j i := fun j i h_0 h_1 => (hG3 j i (by omega) (by omega)).trans (hF2 j i h_0 h_1)
  show hpV _ _ _ _ _ _ _ _ _ _ _ _ _ _ _ _ _ _ _ _ _ []
  have f3 := hq3_0
  rw [l16, ← hw] at f3
  have s3 : hpRw (τ3 202) 18 L0 := s2.fr hLl (by decide) (fun i h1 h2 => hG3 202 i (by omega) (by omega))
  refine h_iconst C dX9_goesRound_20 ?_
  refine h_istore_n (lv' := [(2, .int (hpI 1)), (0, .ref (z + 195)), (1, .int (hpI a0))]) C dX9_goesRound_21 rfl (by decide) rfl ?_
  refine h_aload_n C dX9_goesRound_22 1 rfl rfl ?_
  refine h_iconst C dX9_goesRound_23 ?_
  refine h_put C O9 28 kd_195 (by decide) rfl wd_1284 dX9_goesRound_24 rfl rfl (hp_fvI (by rw [kd_195]; rfl) hpu_at) ?_
  obtain ⟨τ4, e4⟩ : ∃ μ : hpMem, μ = hpw τ3 195 28 1 := ⟨_, rfl⟩
  rw [← e4]
  have hI4 : hpInv τ4 := by rw [e4]; exact hI3.w (bf_9_28 kd_195) (by omega) (by omega)
  have hF4 : ∀ j i : Nat, (j ≠ 202 ∨ (i : Int) < 701 * 18) → (j ≠ 195 ∨ (i ≠ 17 ∧ i ≠ 18 ∧ i ≠ 27 ∧ i ≠ 28)) → τ4 j i = σ j i := fun j i h_0 h_1 => by rw [e4]; exact (hpw_fr (by omega)).trans (hF3 j i h_0 h_1)
  have hg5 : τ4 195 28 = 1 := by rw [e4]; exact hpw_eq
  have f4 : hpRw (τ4 202) 19 (hpSt w L0) := f3.same (fun i => by rw [e4, hpw_fr (Or.inl (by decide))])
  have s4 : hpRw (τ4 202) 18 L0 := s3.same (fun i => by rw [e4, hpw_fr (Or.inl (by decide))])
  refine h_iconst C dX9_goesRound_27 ?_
  refine h_istore_n (lv' := [(3, .int (hpI 1)), (2, .int (hpI 1)), (0, .ref (z + 195)), (1, .int (hpI a0))]) C dX9_goesRound_28 rfl (by decide) rfl ?_
  have L6 : ∀ (n6 : Nat) (τ6 : hpMem) (w6_2 : Int) (w6_3 : Int) (pp : Nat), 1 ≤ w6_2 → w6_2 ≤ 16004 → 1 ≤ w6_3 → w6_3 ≤ 8002 → w6_2 ≤ 2 * w6_3 → hpInv τ6 → (∀ j i : Nat, (j ≠ 202 ∨ (i : Int) < 701 * 18) → (j ≠ 195 ∨ (i ≠ 17 ∧ i ≠ 18 ∧ i ≠ 27 ∧ i ≠ 28)) → τ6 j i = σ j i) → (0 ≤ τ6 195 28 ∧ 1 ≤ τ6 195 28 ∧ (pp : Int) + τ6 195 28 ≤ w6_3) → (hpRw (τ6 202) 18 (hpIt w L0 pp)) → (hpRw (τ6 202) 19 (hpIt w L0 (pp + (τ6 195 28).toNat))) → (4294967296 - w6_3) < (n6 : Int) → hpF p l e rgX9_goesRound s m [.ref (z + 195), .int (hpI a0)] below meth c 5 D cy z (pgX9_goesRound z σ a0) τ6 29 [(0, .ref (z + 195)), (1, .int (hpI a0)), (2, .int (hpI w6_2)), (3, .int (hpI w6_3))] [] := by
    intro n6
    induction n6 with
    | zero => intro τ6 w6_2 w6_3 pp hv6_0 hv6_1 hv6_2 hv6_3 hv6_4 hI6 hF6 hM6_0 hM6_1 hM6_2 hm6; exfalso; omega
    | succ n6 ih6 =>
      intro τ6 w6_2 w6_3 pp hv6_0 hv6_1 hv6_2 hv6_3 hv6_4 hI6 hF6 hM6_0 hM6_1 hM6_2 hm6
      refine h_aload_n C dX9_goesRound_29 0 rfl rfl ?_
      refine h_bipush C dX9_goesRound_30 (by decide) ?_
      refine h_bipush C dX9_goesRound_32 (by decide) ?_
      refine h_callV (As := [.int (hpI 18), .int (hpI 19)]) (rest := []) C Z yyX9_areSame wd_1641 (tgX9_areSame l D cy z _ 18 ⟨by decide, by decide⟩ 19 ⟨by decide, by decide⟩ hI6 (by omega) (by omega)) kd_195 rfl rfl ⟨rfl, rfl, Nat.le_of_ble_eq_true rfl, Nat.le_of_ble_eq_true rfl⟩ ⟨Nat.le_of_ble_eq_true rfl, Nat.le_of_ble_eq_true rfl⟩ (Nat.le_of_ble_eq_true rfl) dX9_goesRound_34 (fun r7 τ7 hp7 => ?_)
      obtain ⟨⟨x7, rfl, ⟨hx7a, hx7b⟩, hx7⟩, rfl⟩ := hp7
      show hpV _ _ _ _ _ _ _ _ _ _ _ _ _ _ _ _ _ _ _ _ _ (_ :: _)
      refine h_if_ne (tgt := 96) C dX9_goesRound_37 (by decide) ⟨by omega, by omega⟩ (fun h8 => ?_) (fun h8 => ?_)
      · have hE : hpIt w L0 pp = hpIt w L0 (pp + (τ6 195 28).toNat) := (hpEq_iff hM6_1 hM6_2).mp (hx7.1 (by omega))
        obtain ⟨n, hn⟩ : ∃ n : Nat, n = (τ6 195 28).toNat := ⟨_, rfl⟩
        rw [← hn] at hE
        have hA96 : hpRw (τ6 202) a0 L0 := hL0.fr hLl (by omega) (fun i h1 h2 => hF6 202 i (by omega) (by omega))
        refine h_aload_n C dX9_goesRound_96 0 rfl rfl ?_
        refine h_iload_n C dX9_goesRound_97 1 rfl rfl ?_
        refine h_bipush C dX9_goesRound_98 (by decide) ?_
        refine h_callV (As := [.int (hpI a0), .int (hpI 18)]) (rest := []) C Z yyX9_copyRow wd_1559 (tgX9_copyRow l D cy z _ a0 ⟨by omega, by omega⟩ 18 ⟨by decide, by decide⟩ hI6 (by omega) (by omega)) kd_195 rfl rfl ⟨rfl, rfl, Nat.le_of_ble_eq_true rfl, Nat.le_of_ble_eq_true rfl⟩ ⟨Nat.le_of_ble_eq_true rfl, Nat.le_of_ble_eq_true rfl⟩ (Nat.le_of_ble_eq_true rfl) dX9_goesRound_100 (fun r9 τ9 hp9 => ?_)
        obtain ⟨rfl, hI9, hG9, hq9_0⟩ := hp9
        have hF9 : ∀ j i : Nat, (j ≠ 202 ∨ (i : Int) < 701 * 18) → (j ≠ 195 ∨ (i ≠ 17 ∧ i ≠ 18 ∧ i ≠ 27 ∧ i ≠ 28)) → τ9 j i = σ j i := fun j i h_0 h_1 => (hG9 j i (by omega)).trans (hF6 j i h_0 h_1)
        show hpV _ _ _ _ _ _ _ _ _ _ _ _ _ _ _ _ _ _ _ _ _ []
        have s100 := hq9_0 L0 hA96
        refine h_aload_n C dX9_goesRound_103 0 rfl rfl ?_
        refine h_iload_n C dX9_goesRound_104 1 rfl rfl ?_
        refine h_bipush C dX9_goesRound_105 (by decide) ?_
        have hA107 : hpRw (τ9 202) a0 L0 := hL0.fr hLl (by omega) (fun i h1 h2 => hF9 202 i (by omega) (by omega))
        refine h_callV (As := [.int (hpI a0), .int (hpI 19)]) (rest := []) C Z yyX9_copyRow wd_1559 (tgX9_copyRow l D cy z _ a0 ⟨by omega, by omega⟩ 19 ⟨by decide, by decide⟩ hI9 (by omega) (by omega)) kd_195 rfl rfl ⟨rfl, rfl, Nat.le_of_ble_eq_true rfl, Nat.le_of_ble_eq_true rfl⟩ ⟨Nat.le_of_ble_eq_true rfl, Nat.le_of_ble_eq_true rfl⟩ (Nat.le_of_ble_eq_true rfl) dX9_goesRound_107 (fun r10 τ10 hp10 => ?_)
        obtain ⟨rfl, hI10, hG10, hq10_0⟩ := hp10
        have hF10 : ∀ j i : Nat, (j ≠ 202 ∨ (i : Int) < 701 * 18) → (j ≠ 195 ∨ (i ≠ 17 ∧ i ≠ 18 ∧ i ≠ 27 ∧ i ≠ 28)) → τ10 j i = σ j i := fun j i h_0 h_1 => (hG10 j i (by omega)).trans (hF9 j i h_0 h_1)
        show hpV _ _ _ _ _ _ _ _ _ _ _ _ _ _ _ _ _ _ _ _ _ []
        have s107 : hpRw (τ10 202) 18 L0 := s100.fr hLl (by decide) (fun i h1 h2 => hG10 202 i (by omega))
        have f107 := hq10_0 L0 hA107
        have e107 : τ10 195 28 = τ6 195 28 := (hG10 195 28 (by omega)).trans (hG9 195 28 (by omega))
        refine h_iconst C dX9_goesRound_110 ?_
        refine h_istore (lv' := [(4, .int (hpI 0)), (0, .ref (z + 195)), (1, .int (hpI a0)), (2, .int (hpI w6_2)), (3, .int (hpI w6_3))]) C dX9_goesRound_111 (by decide) rfl ?_
        have L11 : ∀ (n11 : Nat) (τ11 : hpMem) (w11_4 : Int), 0 ≤ w11_4 → w11_4 ≤ 8001 → w11_4 ≤ τ6 195 28 → hpInv τ11 → (∀ j i : Nat, (j ≠ 202 ∨ (i : Int) < 701 * 18) → (j ≠ 195 ∨ (i ≠ 17 ∧ i ≠ 18 ∧ i ≠ 27 ∧ i ≠ 28)) → τ11 j i = σ j i) → (hpRw (τ11 202) 18 L0) → (hpRw (τ11 202) 19 (hpIt w L0 w11_4.toNat)) → (τ11 195 28 = τ6 195 28) → (4294967296 - w11_4) < (n11 : Int) → hpF p l e rgX9_goesRound s m [.ref (z + 195), .int (hpI a0)] below meth c 5 D cy z (pgX9_goesRound z σ a0) τ11 113 [(0, .ref (z + 195)), (1, .int (hpI a0)), (2, .int (hpI w6_2)), (3, .int (hpI w6_3)), (4, .int (hpI w11_4))] [] := by
          intro n11
          induction n11 with
          | zero => intro τ11 w11_4 hv11_0 hv11_1 hv11_2 hI11 hF11 hM11_0 hM11_1 hM11_2 hm11; exfalso; omega
          | succ n11 ih11 =>
            intro τ11 w11_4 hv11_0 hv11_1 hv11_2 hI11 hF11 hM11_0 hM11_1 hM11_2 hm11
            refine h_iload C dX9_goesRound_113 4 rfl ?_
            refine h_aload_n C dX9_goesRound_115 0 rfl rfl ?_
            refine h_get C O9 28 kd_195 (by decide) wd_1284 dX9_goesRound_116 (hp_fvI (by rw [kd_195]; rfl) rfl) ?_
            obtain ⟨hr12a, hr12b⟩ := hI11.b (bf_9_28 kd_195)
            generalize hg12 : τ11 195 28 = r12 at hr12a hr12b ⊢
            refine h_icmp_ge (tgt := 134) C dX9_goesRound_119 (by decide) ⟨by omega, by omega⟩ ⟨by omega, by omega⟩ (fun h13 => ?_) (fun h13 => ?_)
            · refine h_aload_n C dX9_goesRound_134 0 rfl rfl ?_
              refine h_iconst C dX9_goesRound_135 ?_
              refine h_put C O9 27 kd_195 (by decide) rfl wd_1283 dX9_goesRound_136 rfl rfl (hp_fvI (by rw [kd_195]; rfl) hpu_at) ?_
              obtain ⟨τ14, e14⟩ : ∃ μ : hpMem, μ = hpw τ11 195 27 0 := ⟨_, rfl⟩
              rw [← e14]
              have hI14 : hpInv τ14 := by rw [e14]; exact hI11.w (bf_9_27 kd_195) (by omega) (by omega)
              have hF14 : ∀ j i : Nat, (j ≠ 202 ∨ (i : Int) < 701 * 18) → (j ≠ 195 ∨ (i ≠ 17 ∧ i ≠ 18 ∧ i ≠ 27 ∧ i ≠ 28)) → τ14 j i = σ j i := fun j i h_0 h_1 => by rw [e14]; exact (hpw_fr (by omega)).trans (hF11 j i h_0 h_1)
              have hg15 : τ14 195 28 = r12 := by rw [e14]; exact (hpw_fr (Or.inr (by decide))).trans hg12
              have hg16 : τ14 195 27 = 0 := by rw [e14]; exact hpw_eq
              have s136 : hpRw (τ14 202) 18 L0 := hM11_0.same (fun i => by rw [e14, hpw_fr (Or.inl (by decide))])
              have f136 : hpRw (τ14 202) 19 (hpIt w L0 (w11_4).toNat) := hM11_1.same (fun i => by rw [e14, hpw_fr (Or.inl (by decide))])
              have L17 : ∀ (n17 : Nat) (τ17 : hpMem) (ss : Nat), hpInv τ17 → (∀ j i : Nat, (j ≠ 202 ∨ (i : Int) < 701 * 18) → (j ≠ 195 ∨ (i ≠ 17 ∧ i ≠ 18 ∧ i ≠ 27 ∧ i ≠ 28)) → τ17 j i = σ j i) → (hpRw (τ17 202) 18 (hpIt w L0 ss)) → (hpRw (τ17 202) 19 (hpIt w L0 (ss + n))) → (τ17 195 27 = (ss : Int)) → (ss ≤ pp) → ((pp : Int) - (ss : Int)) < (n17 : Int) → hpF p l e rgX9_goesRound s m [.ref (z + 195), .int (hpI a0)] below meth c 5 D cy z (pgX9_goesRound z σ a0) τ17 139 [(0, .ref (z + 195)), (1, .int (hpI a0)), (2, .int (hpI w6_2)), (3, .int (hpI w6_3)), (4, .int (hpI w11_4))] [] := by
                intro n17
                induction n17 with
                | zero => intro τ17 ss hI17 hF17 hM17_0 hM17_1 hM17_2 hM17_3 hm17; exfalso; omega
                | succ n17 ih17 =>
                  intro τ17 ss hI17 hF17 hM17_0 hM17_1 hM17_2 hM17_3 hm17
                  refine h_aload_n C dX9_goesRound_139 0 rfl rfl ?_
                  refine h_bipush C dX9_goesRound_140 (by decide) ?_
                  refine h_bipush C dX9_goesRound_142 (by decide) ?_
                  refine h_callV (As := [.int (hpI 18), .int (hpI 19)]) (rest := []) C Z yyX9_areSame wd_1641 (tgX9_areSame l D cy z _ 18 ⟨by decide, by decide⟩ 19 ⟨by decide, by decide⟩ hI17 (by omega) (by omega)) kd_195 rfl rfl ⟨rfl, rfl, Nat.le_of_ble_eq_true rfl, Nat.le_of_ble_eq_true rfl⟩ ⟨Nat.le_of_ble_eq_true rfl, Nat.le_of_ble_eq_true rfl⟩ (Nat.le_of_ble_eq_true rfl) dX9_goesRound_144 (fun r18 τ18 hp18 => ?_)
                  obtain ⟨⟨x18, rfl, ⟨hx18a, hx18b⟩, hx18⟩, rfl⟩ := hp18
                  show hpV _ _ _ _ _ _ _ _ _ _ _ _ _ _ _ _ _ _ _ _ _ (_ :: _)
                  refine h_if_ne (tgt := 175) C dX9_goesRound_147 (by decide) ⟨by omega, by omega⟩ (fun h19 => ?_) (fun h19 => ?_)
                  · refine h_aload_n C dX9_goesRound_175 0 rfl rfl ?_
                    refine h_get C O9 27 kd_195 (by decide) wd_1283 dX9_goesRound_176 (hp_fvI (by rw [kd_195]; rfl) rfl) ?_
                    obtain ⟨hr20a, hr20b⟩ := hI17.b (bf_9_27 kd_195)
                    generalize hg20 : τ17 195 27 = r20 at hr20a hr20b ⊢
                    refine h_aload_n C dX9_goesRound_179 0 rfl rfl ?_
                    refine h_get C O9 28 kd_195 (by decide) wd_1284 dX9_goesRound_180 (hp_fvI (by rw [kd_195]; rfl) rfl) ?_
                    obtain ⟨hr21a, hr21b⟩ := hI17.b (bf_9_28 kd_195)
                    generalize hg21 : τ17 195 28 = r21 at hr21a hr21b ⊢
                    refine h_iadd C dX9_goesRound_183 rfl ?_
                    refine h_sipush C dX9_goesRound_184 (by decide) ?_
                    refine h_icmp_gt (tgt := 194) C dX9_goesRound_187 (by decide) ⟨by omega, by omega⟩ ⟨by decide, by decide⟩ (fun h22 => ?_) (fun h22 => ?_)
                    · refine h_iconst C dX9_goesRound_194 ?_
                      refine h_zreturn C (by omega) hr hlk dX9_goesRound_195 ?_
                      exact ⟨_, rfl, ⟨by decide, by decide⟩, hI17, hF17, (hpIt_ok hK0 ss).le hM17_0⟩
                    · refine h_iconst C dX9_goesRound_190 ?_
                      refine h_goto (tgt := 195) C dX9_goesRound_191 (by decide) ?_
                      refine h_zreturn C (by omega) hr hlk dX9_goesRound_195 ?_
                      exact ⟨_, rfl, ⟨by decide, by decide⟩, hI17, hF17, (hpIt_ok hK0 ss).le hM17_0⟩
                  · refine h_aload_n C dX9_goesRound_150 0 rfl rfl ?_
                    refine h_bipush C dX9_goesRound_151 (by decide) ?_
                    have hne : ss ≠ pp := fun e => (hx18.2 (by omega)) ((hpEq_iff hM17_0 hM17_1).mpr (by rw [e]; exact hE))
                    have l153 : τ17 195 16 = σ 195 16 := hF17 195 16 (by omega) (by omega)
                    refine h_callV (As := [.int (hpI 18)]) (rest := []) C Z yyX9_step wd_1563 (tgX9_step l D cy z _ 18 ⟨by decide, by decide⟩ hI17 _ (by omega) hM17_0 (hpIt_ok hK0 _)) kd_195 rfl rfl ⟨rfl, rfl, Nat.le_of_ble_eq_true rfl, Nat.le_of_ble_eq_true rfl⟩ ⟨Nat.le_of_ble_eq_true rfl, Nat.le_of_ble_eq_true rfl⟩ (Nat.le_of_ble_eq_true rfl) dX9_goesRound_153 (fun r23 τ23 hp23 => ?_)
                    obtain ⟨rfl, hI23, hG23, hq23_0⟩ := hp23
                    have hF23 : ∀ j i : Nat, (j ≠ 202 ∨ (i : Int) < 701 * 18) → (j ≠ 195 ∨ (i ≠ 17 ∧ i ≠ 18 ∧ i ≠ 27 ∧ i ≠ 28)) → τ23 j i = σ j i := fun j i h_0 h_1 => (hG23 j i (by omega) (by omega)).trans (hF17 j i h_0 h_1)
                    show hpV _ _ _ _ _ _ _ _ _ _ _ _ _ _ _ _ _ _ _ _ _ []
                    have f153 := hq23_0
                    rw [l153, ← hw] at f153
                    have g159 : hpRw (τ23 202) 19 (hpIt w L0 (ss + n)) := hM17_1.fr (hpIt_ok hK0 _).len (by decide) (fun i h1 h2 => hG23 202 i (by omega) (by omega))
                    have e153 : τ23 195 27 = τ17 195 27 := hG23 195 27 (by omega) (by omega)
                    refine h_aload_n C dX9_goesRound_156 0 rfl rfl ?_
                    refine h_bipush C dX9_goesRound_157 (by decide) ?_
                    have l159 : τ23 195 16 = σ 195 16 := hF23 195 16 (by omega) (by omega)
                    refine h_callV (As := [.int (hpI 19)]) (rest := []) C Z yyX9_step wd_1563 (tgX9_step l D cy z _ 19 ⟨by decide, by decide⟩ hI23 _ (by omega) g159 (hpIt_ok hK0 _)) kd_195 rfl rfl ⟨rfl, rfl, Nat.le_of_ble_eq_true rfl, Nat.le_of_ble_eq_true rfl⟩ ⟨Nat.le_of_ble_eq_true rfl, Nat.le_of_ble_eq_true rfl⟩ (Nat.le_of_ble_eq_true rfl) dX9_goesRound_159 (fun r24 τ24 hp24 => ?_)
                    obtain ⟨rfl, hI24, hG24, hq24_0⟩ := hp24
                    have hF24 : ∀ j i : Nat, (j ≠ 202 ∨ (i : Int) < 701 * 18) → (j ≠ 195 ∨ (i ≠ 17 ∧ i ≠ 18 ∧ i ≠ 27 ∧ i ≠ 28)) → τ24 j i = σ j i := fun j i h_0 h_1 => (hG24 j i (by omega) (by omega)).trans (hF23 j i h_0 h_1)
                    show hpV _ _ _ _ _ _ _ _ _ _ _ _ _ _ _ _ _ _ _ _ _ []
                    have f159 := hq24_0
                    rw [l159, ← hw] at f159
                    have s159 : hpRw (τ24 202) 18 (hpSt w (hpIt w L0 ss)) := f153.fr (hpIt_ok hK0 (ss + 1)).len (by decide) (fun i h1 h2 => hG24 202 i (by omega) (by omega))
                    have e159 : τ24 195 27 = τ17 195 27 := (hG24 195 27 (by omega) (by omega)).trans e153
                    refine h_aload_n C dX9_goesRound_162 0 rfl rfl ?_
                    refine h_dup C rfl dX9_goesRound_163 ?_
                    refine h_get C O9 27 kd_195 (by decide) wd_1283 dX9_goesRound_164 (hp_fvI (by rw [kd_195]; rfl) rfl) ?_
                    obtain ⟨hr25a, hr25b⟩ := hI24.b (bf_9_27 kd_195)
                    generalize hg25 : τ24 195 27 = r25 at hr25a hr25b ⊢
                    refine h_iconst C dX9_goesRound_167 ?_
                    refine h_iadd C dX9_goesRound_168 rfl ?_
                    refine h_put C O9 27 kd_195 (by decide) rfl wd_1283 dX9_goesRound_169 rfl rfl (hp_fvI (by rw [kd_195]; rfl) hpu_at) ?_
                    obtain ⟨τ26, e26⟩ : ∃ μ : hpMem, μ = hpw τ24 195 27 (r25 + 1) := ⟨_, rfl⟩
                    rw [← e26]
                    have hI26 : hpInv τ26 := by rw [e26]; exact hI24.w (bf_9_27 kd_195) (by omega) (by omega)
                    have hF26 : ∀ j i : Nat, (j ≠ 202 ∨ (i : Int) < 701 * 18) → (j ≠ 195 ∨ (i ≠ 17 ∧ i ≠ 18 ∧ i ≠ 27 ∧ i ≠ 28)) → τ26 j i = σ j i := fun j i h_0 h_1 => by rw [e26]; exact (hpw_fr (by omega)).trans (hF24 j i h_0 h_1)
                    have hg27 : τ26 195 27 = r25 + 1 := by rw [e26]; exact hpw_eq
                    refine h_goto (tgt := 139) C dX9_goesRound_172 (by decide) ?_
                    exact hp_sub [0, 1, 2, 3, 4] rfl (ih17 _ (ss + 1) hI26 hF26 (s159.same (fun i => by rw [e26, hpw_fr (Or.inl (by decide))])) (by rw [show ss + 1 + n = (ss + n) + 1 by omega]; exact f159.same (fun i => by rw [e26, hpw_fr (Or.inl (by decide))])) (by omega) (by omega) (by omega))
              exact hp_sub [0, 1, 2, 3, 4] rfl (L17 8589934592 _ 0 hI14 hF14 s136 (by rw [show 0 + n = (w11_4).toNat by omega]; exact f136) (by omega) (by omega) (by omega))
            · refine h_aload_n C dX9_goesRound_122 0 rfl rfl ?_
              refine h_bipush C dX9_goesRound_123 (by decide) ?_
              have l125 : τ11 195 16 = σ 195 16 := hF11 195 16 (by omega) (by omega)
              refine h_callV (As := [.int (hpI 19)]) (rest := []) C Z yyX9_step wd_1563 (tgX9_step l D cy z _ 19 ⟨by decide, by decide⟩ hI11 _ (by omega) hM11_1 (hpIt_ok hK0 _)) kd_195 rfl rfl ⟨rfl, rfl, Nat.le_of_ble_eq_true rfl, Nat.le_of_ble_eq_true rfl⟩ ⟨Nat.le_of_ble_eq_true rfl, Nat.le_of_ble_eq_true rfl⟩ (Nat.le_of_ble_eq_true rfl) dX9_goesRound_125 (fun r28 τ28 hp28 => ?_)
              obtain ⟨rfl, hI28, hG28, hq28_0⟩ := hp28
              have hF28 : ∀ j i : Nat, (j ≠ 202 ∨ (i : Int) < 701 * 18) → (j ≠ 195 ∨ (i ≠ 17 ∧ i ≠ 18 ∧ i ≠ 27 ∧ i ≠ 28)) → τ28 j i = σ j i := fun j i h_0 h_1 => (hG28 j i (by omega) (by omega)).trans (hF11 j i h_0 h_1)
              show hpV _ _ _ _ _ _ _ _ _ _ _ _ _ _ _ _ _ _ _ _ _ []
              have f125 := hq28_0
              rw [l125, ← hw] at f125
              refine h_iinc (lv' := [(4, .int (hpI (w11_4 + 1))), (0, .ref (z + 195)), (1, .int (hpI a0)), (2, .int (hpI w6_2)), (3, .int (hpI w6_3))]) C dX9_goesRound_128 4 rfl rfl (by decide) rfl ?_
              refine h_goto (tgt := 113) C dX9_goesRound_131 (by decide) ?_
              exact hp_sub [1, 2, 3, 4, 0] rfl (ih11 _ (w11_4 + 1) (by omega) (by omega) (by omega) hI28 hF28 (hM11_0.fr hLl (by decide) (fun i h1 h2 => hG28 202 i (by omega) (by omega))) (by rw [show (w11_4 + 1).toNat = (w11_4).toNat + 1 by omega]; exact f125) ((hG28 195 28 (by omega) (by omega)).trans hM11_2) (by omega))
        exact hp_sub [1, 2, 3, 4, 0] rfl (L11 8589934592 _ 0 (by omega) (by omega) (by omega) hI10 hF10 s107 f107 e107 (by omega))
      · refine h_iload_n C dX9_goesRound_40 3 rfl rfl ?_
        refine h_sipush C dX9_goesRound_41 (by decide) ?_
        refine h_icmp_le (tgt := 49) C dX9_goesRound_44 (by decide) ⟨by omega, by omega⟩ ⟨by decide, by decide⟩ (fun h29 => ?_) (fun h29 => ?_)
        · refine h_iload_n C dX9_goesRound_49 2 rfl rfl ?_
          refine h_aload_n C dX9_goesRound_50 0 rfl rfl ?_
          refine h_get C O9 28 kd_195 (by decide) wd_1284 dX9_goesRound_51 (hp_fvI (by rw [kd_195]; rfl) rfl) ?_
          obtain ⟨hr30a, hr30b⟩ := hI6.b (bf_9_28 kd_195)
          generalize hg30 : τ6 195 28 = r30 at hr30a hr30b ⊢
          refine h_icmp_ne (tgt := 74) C dX9_goesRound_54 (by decide) ⟨by omega, by omega⟩ ⟨by omega, by omega⟩ (fun h31 => ?_) (fun h31 => ?_)
          · obtain ⟨p1, q1, q2, q3⟩ : ∃ p1 : Nat, hpRw (τ6 202) 18 (hpIt w L0 p1) ∧ hpRw (τ6 202) 19 (hpIt w L0 (p1 + (τ6 195 28).toNat)) ∧ 0 ≤ τ6 195 28 ∧ (p1 : Int) + τ6 195 28 ≤ w6_3 := by first | exact ⟨pp + (τ6 195 28).toNat, (no_such _ hM6_2).same (fun i => by rw [no_such, hpw_fr (Or.inl (by decide))]), by rw [show (τ6 195 28).toNat = 0 by omega]; exact (hM6_2.fr (hpIt_ok hK0 _).len (by decide) (fun i h1 h2 => no_such 202 i (by omega))).same (fun i => by rw [no_such, hpw_fr (Or.inl (by decide))]), by omega, by omega⟩ | exact ⟨pp, hM6_1, hM6_2, by omega, by omega⟩
            refine h_aload_n C dX9_goesRound_74 0 rfl rfl ?_
            refine h_bipush C dX9_goesRound_75 (by decide) ?_
            have l77 : τ6 195 16 = σ 195 16 := hF6 195 16 (by omega) (by omega)
            refine h_callV (As := [.int (hpI 19)]) (rest := []) C Z yyX9_step wd_1563 (tgX9_step l D cy z _ 19 ⟨by decide, by decide⟩ hI6 _ (by omega) q2 (hpIt_ok hK0 _)) kd_195 rfl rfl ⟨rfl, rfl, Nat.le_of_ble_eq_true rfl, Nat.le_of_ble_eq_true rfl⟩ ⟨Nat.le_of_ble_eq_true rfl, Nat.le_of_ble_eq_true rfl⟩ (Nat.le_of_ble_eq_true rfl) dX9_goesRound_77 (fun r32 τ32 hp32 => ?_)
            obtain ⟨rfl, hI32, hG32, hq32_0⟩ := hp32
            have hF32 : ∀ j i : Nat, (j ≠ 202 ∨ (i : Int) < 701 * 18) → (j ≠ 195 ∨ (i ≠ 17 ∧ i ≠ 18 ∧ i ≠ 27 ∧ i ≠ 28)) → τ32 j i = σ j i := fun j i h_0 h_1 => (hG32 j i (by omega) (by omega)).trans (hF6 j i h_0 h_1)
            show hpV _ _ _ _ _ _ _ _ _ _ _ _ _ _ _ _ _ _ _ _ _ []
            have f77 := hq32_0
            rw [l77, ← hw] at f77
            have s77 : hpRw (τ32 202) 18 (hpIt w L0 p1) := q1.fr (hpIt_ok hK0 _).len (by decide) (fun i h1 h2 => hG32 202 i (by omega) (by omega))
            have e77 : τ32 195 28 = τ6 195 28 := hG32 195 28 (by omega) (by omega)
            refine h_aload_n C dX9_goesRound_80 0 rfl rfl ?_
            refine h_dup C rfl dX9_goesRound_81 ?_
            refine h_get C O9 28 kd_195 (by decide) wd_1284 dX9_goesRound_82 (hp_fvI (by rw [kd_195]; rfl) rfl) ?_
            obtain ⟨hr33a, hr33b⟩ := hI32.b (bf_9_28 kd_195)
            generalize hg33 : τ32 195 28 = r33 at hr33a hr33b ⊢
            refine h_iconst C dX9_goesRound_85 ?_
            refine h_iadd C dX9_goesRound_86 rfl ?_
            refine h_put C O9 28 kd_195 (by decide) rfl wd_1284 dX9_goesRound_87 rfl rfl (hp_fvI (by rw [kd_195]; rfl) hpu_at) ?_
            obtain ⟨τ34, e34⟩ : ∃ μ : hpMem, μ = hpw τ32 195 28 (r33 + 1) := ⟨_, rfl⟩
            rw [← e34]
            have hI34 : hpInv τ34 := by rw [e34]; exact hI32.w (bf_9_28 kd_195) (by omega) (by omega)
            have hF34 : ∀ j i : Nat, (j ≠ 202 ∨ (i : Int) < 701 * 18) → (j ≠ 195 ∨ (i ≠ 17 ∧ i ≠ 18 ∧ i ≠ 27 ∧ i ≠ 28)) → τ34 j i = σ j i := fun j i h_0 h_1 => by rw [e34]; exact (hpw_fr (by omega)).trans (hF32 j i h_0 h_1)
            have hg35 : τ34 195 28 = r33 + 1 := by rw [e34]; exact hpw_eq
            refine h_iinc (lv' := [(3, .int (hpI (w6_3 + 1))), (0, .ref (z + 195)), (1, .int (hpI a0)), (2, .int (hpI w6_2))]) C dX9_goesRound_90 3 rfl rfl (by decide) rfl ?_
            refine h_goto (tgt := 29) C dX9_goesRound_93 (by decide) ?_
            exact hp_sub [1, 2, 3, 0] rfl (ih6 _ w6_2 (w6_3 + 1) p1 (by omega) (by omega) (by omega) (by omega) (by omega) hI34 hF34 (by omega) (s77.same (fun i => by rw [e34, hpw_fr (Or.inl (by decide))])) (by rw [show p1 + (τ34 195 28).toNat = (p1 + (τ6 195 28).toNat) + 1 by omega]; exact f77.same (fun i => by rw [e34, hpw_fr (Or.inl (by decide))])) (by omega))
          · refine h_aload_n C dX9_goesRound_57 0 rfl rfl ?_
            refine h_bipush C dX9_goesRound_58 (by decide) ?_
            refine h_bipush C dX9_goesRound_60 (by decide) ?_
            refine h_callV (As := [.int (hpI 19), .int (hpI 18)]) (rest := []) C Z yyX9_copyRow wd_1559 (tgX9_copyRow l D cy z _ 19 ⟨by decide, by decide⟩ 18 ⟨by decide, by decide⟩ hI6 (by omega) (by omega)) kd_195 rfl rfl ⟨rfl, rfl, Nat.le_of_ble_eq_true rfl, Nat.le_of_ble_eq_true rfl⟩ ⟨Nat.le_of_ble_eq_true rfl, Nat.le_of_ble_eq_true rfl⟩ (Nat.le_of_ble_eq_true rfl) dX9_goesRound_62 (fun r36 τ36 hp36 => ?_)
            obtain ⟨rfl, hI36, hG36, hq36_0⟩ := hp36
            have hF36 : ∀ j i : Nat, (j ≠ 202 ∨ (i : Int) < 701 * 18) → (j ≠ 195 ∨ (i ≠ 17 ∧ i ≠ 18 ∧ i ≠ 27 ∧ i ≠ 28)) → τ36 j i = σ j i := fun j i h_0 h_1 => (hG36 j i (by omega)).trans (hF6 j i h_0 h_1)
            show hpV _ _ _ _ _ _ _ _ _ _ _ _ _ _ _ _ _ _ _ _ _ []
            refine h_iload_n C dX9_goesRound_65 2 rfl rfl ?_
            refine h_iconst C dX9_goesRound_66 ?_
            refine h_imul C dX9_goesRound_67 rfl ?_
            refine h_istore_n (lv' := [(2, .int (hpI (w6_2 * 2))), (0, .ref (z + 195)), (1, .int (hpI a0)), (3, .int (hpI w6_3))]) C dX9_goesRound_68 rfl (by decide) rfl ?_
            refine h_aload_n C dX9_goesRound_69 1 rfl rfl ?_
            refine h_iconst C dX9_goesRound_70 ?_
            refine h_put C O9 28 kd_195 (by decide) rfl wd_1284 dX9_goesRound_71 rfl rfl (hp_fvI (by rw [kd_195]; rfl) hpu_at) ?_
            obtain ⟨τ37, e37⟩ : ∃ μ : hpMem, μ = hpw τ36 195 28 0 := ⟨_, rfl⟩
            rw [← e37]
            have hI37 : hpInv τ37 := by rw [e37]; exact hI36.w (bf_9_28 kd_195) (by omega) (by omega)
            have hF37 : ∀ j i : Nat, (j ≠ 202 ∨ (i : Int) < 701 * 18) → (j ≠ 195 ∨ (i ≠ 17 ∧ i ≠ 18 ∧ i ≠ 27 ∧ i ≠ 28)) → τ37 j i = σ j i := fun j i h_0 h_1 => by rw [e37]; exact (hpw_fr (by omega)).trans (hF36 j i h_0 h_1)
            have hg38 : τ37 195 28 = 0 := by rw [e37]; exact hpw_eq
            obtain ⟨p1, q1, q2, q3⟩ : ∃ p1 : Nat, hpRw (τ37 202) 18 (hpIt w L0 p1) ∧ hpRw (τ37 202) 19 (hpIt w L0 (p1 + (τ37 195 28).toNat)) ∧ 0 ≤ τ37 195 28 ∧ (p1 : Int) + τ37 195 28 ≤ w6_3 := by first | exact ⟨pp + (τ6 195 28).toNat, (hq36_0 _ hM6_2).same (fun i => by rw [e37, hpw_fr (Or.inl (by decide))]), by rw [show (τ37 195 28).toNat = 0 by omega]; exact (hM6_2.fr (hpIt_ok hK0 _).len (by decide) (fun i h1 h2 => hG36 202 i (by omega))).same (fun i => by rw [e37, hpw_fr (Or.inl (by decide))]), by omega, by omega⟩ | exact ⟨pp, hM6_1, hM6_2, by omega, by omega⟩
            refine h_aload_n C dX9_goesRound_74 1 rfl rfl ?_
            refine h_bipush C dX9_goesRound_75 (by decide) ?_
            have l77 : τ37 195 16 = σ 195 16 := hF37 195 16 (by omega) (by omega)
            refine h_callV (As := [.int (hpI 19)]) (rest := []) C Z yyX9_step wd_1563 (tgX9_step l D cy z _ 19 ⟨by decide, by decide⟩ hI37 _ (by omega) q2 (hpIt_ok hK0 _)) kd_195 rfl rfl ⟨rfl, rfl, Nat.le_of_ble_eq_true rfl, Nat.le_of_ble_eq_true rfl⟩ ⟨Nat.le_of_ble_eq_true rfl, Nat.le_of_ble_eq_true rfl⟩ (Nat.le_of_ble_eq_true rfl) dX9_goesRound_77 (fun r39 τ39 hp39 => ?_)
            obtain ⟨rfl, hI39, hG39, hq39_0⟩ := hp39
            have hF39 : ∀ j i : Nat, (j ≠ 202 ∨ (i : Int) < 701 * 18) → (j ≠ 195 ∨ (i ≠ 17 ∧ i ≠ 18 ∧ i ≠ 27 ∧ i ≠ 28)) → τ39 j i = σ j i := fun j i h_0 h_1 => (hG39 j i (by omega) (by omega)).trans (hF37 j i h_0 h_1)
            show hpV _ _ _ _ _ _ _ _ _ _ _ _ _ _ _ _ _ _ _ _ _ []
            have f77 := hq39_0
            rw [l77, ← hw] at f77
            have s77 : hpRw (τ39 202) 18 (hpIt w L0 p1) := q1.fr (hpIt_ok hK0 _).len (by decide) (fun i h1 h2 => hG39 202 i (by omega) (by omega))
            have e77 : τ39 195 28 = τ37 195 28 := hG39 195 28 (by omega) (by omega)
            refine h_aload_n C dX9_goesRound_80 1 rfl rfl ?_
            refine h_dup C rfl dX9_goesRound_81 ?_
            refine h_get C O9 28 kd_195 (by decide) wd_1284 dX9_goesRound_82 (hp_fvI (by rw [kd_195]; rfl) rfl) ?_
            obtain ⟨hr40a, hr40b⟩ := hI39.b (bf_9_28 kd_195)
            generalize hg40 : τ39 195 28 = r40 at hr40a hr40b ⊢
            refine h_iconst C dX9_goesRound_85 ?_
            refine h_iadd C dX9_goesRound_86 rfl ?_
            refine h_put C O9 28 kd_195 (by decide) rfl wd_1284 dX9_goesRound_87 rfl rfl (hp_fvI (by rw [kd_195]; rfl) hpu_at) ?_
            obtain ⟨τ41, e41⟩ : ∃ μ : hpMem, μ = hpw τ39 195 28 (r40 + 1) := ⟨_, rfl⟩
            rw [← e41]
            have hI41 : hpInv τ41 := by rw [e41]; exact hI39.w (bf_9_28 kd_195) (by omega) (by omega)
            have hF41 : ∀ j i : Nat, (j ≠ 202 ∨ (i : Int) < 701 * 18) → (j ≠ 195 ∨ (i ≠ 17 ∧ i ≠ 18 ∧ i ≠ 27 ∧ i ≠ 28)) → τ41 j i = σ j i := fun j i h_0 h_1 => by rw [e41]; exact (hpw_fr (by omega)).trans (hF39 j i h_0 h_1)
            have hg42 : τ41 195 28 = r40 + 1 := by rw [e41]; exact hpw_eq
            refine h_iinc (lv' := [(3, .int (hpI (w6_3 + 1))), (2, .int (hpI (w6_2 * 2))), (0, .ref (z + 195)), (1, .int (hpI a0))]) C dX9_goesRound_90 3 rfl rfl (by decide) rfl ?_
            refine h_goto (tgt := 29) C dX9_goesRound_93 (by decide) ?_
            exact hp_sub [2, 3, 1, 0] rfl (ih6 _ (w6_2 * 2) (w6_3 + 1) p1 (by omega) (by omega) (by omega) (by omega) (by omega) hI41 hF41 (by omega) (s77.same (fun i => by rw [e41, hpw_fr (Or.inl (by decide))])) (by rw [show p1 + (τ41 195 28).toNat = (p1 + (τ37 195 28).toNat) + 1 by omega]; exact f77.same (fun i => by rw [e41, hpw_fr (Or.inl (by decide))])) (by omega))
        · refine h_iconst C dX9_goesRound_47 ?_
          refine h_zreturn C (by omega) hr hlk dX9_goesRound_48 ?_
          exact ⟨_, rfl, ⟨by decide, by decide⟩, hI6, hF6, (hpIt_ok hK0 pp).le hM6_1⟩
  exact hp_sub [2, 3, 1, 0] rfl (L6 8589934592 _ 1 1 0 (by omega) (by omega) (by omega) (by omega) (by omega) hI4 hF4 (by omega) s4 (by rw [show (τ4 195 28).toNat = 1 by omega]; exact f4) (by omega))
abbrev rgX9_tail : Room := { frames := 6, cells := 0, slots := 0, locals := 131 }
abbrev pgX9_tail (z : Nat) (σ : hpMem) (a0 : Int) : Option Value → hpMem → Prop := fun r τ => (∃ x : Int, r = some (.int (hpI x)) ∧ (hpR x)) ∧ hpInv τ ∧ (∀ j i : Nat, (j < 195 ∨ j = 198 ∨ 213 ≤ j) → τ j i = σ j i)
set_option maxHeartbeats 4000000 in
set_option maxRecDepth 20000 in
theorem tgX9_tail (l : Launch) (D : va_G) (cy : Nat → ClassId) (z : Nat) (σ : hpMem) (a0 : Int) (ha0 : hpR a0) (hI : hpInv σ) : hpM l D cy z yX9_tail cX9_tail 2 (some .int) rgX9_tail [.ref (z + 195), .int (hpI a0)] σ (pgX9_tail z σ a0) := by
  obtain ⟨ha01, ha02⟩ := ha0
  refine hp_met rfl (Nat.le_of_ble_eq_true rfl) (fun p e s m below meth c C Z hr hlk => ?_)
  have hF0 : ∀ j i : Nat, (j < 195 ∨ j = 198 ∨ 213 ≤ j) → σ j i = σ j i := fun j i _ => rfl
  refine h_aload_n C dX9_tail_0 0 rfl rfl ?_
  refine h_iload_n C dX9_tail_1 1 rfl rfl ?_
  refine h_callV (As := [.int (hpI a0)]) (rest := []) C Z yyX9_asksDay wd_1512 (tgX9_asksDay l D cy z _ a0 ⟨by omega, by omega⟩ hI) kd_195 rfl rfl ⟨rfl, rfl, Nat.le_of_ble_eq_true rfl, Nat.le_of_ble_eq_true rfl⟩ ⟨Nat.le_of_ble_eq_true rfl, Nat.le_of_ble_eq_true rfl⟩ (Nat.le_of_ble_eq_true rfl) dX9_tail_2 (fun r1 τ1 hp1 => ?_)
  obtain ⟨x1, rfl, ⟨hx1a, hx1b⟩, hx1, hI1, hG1, hq1_0⟩ := hp1
  have hF1 : ∀ j i : Nat, (j < 195 ∨ j = 198 ∨ 213 ≤ j) → τ1 j i = σ j i := fun j i h_0 => (hG1 j i (by omega) (by omega) (by omega) (by omega) (by omega) (by omega)).trans (hF0 j i h_0)
  show hpV _ _ _ _ _ _ _ _ _ _ _ _ _ _ _ _ _ _ _ _ _ (_ :: _)
  refine h_if_ne (tgt := 11) C dX9_tail_5 (by decide) ⟨by omega, by omega⟩ (fun h2 => ?_) (fun h2 => ?_)
  · refine h_aload_n C dX9_tail_11 0 rfl rfl ?_
    refine h_iload_n C dX9_tail_12 1 rfl rfl ?_
    refine h_callV (As := [.int (hpI a0)]) (rest := []) C Z yyX9_goesRound wd_1693 (tgX9_goesRound l D cy z _ a0 ⟨by omega, by omega⟩ hI1 (by omega) (hq1_0 a0 (by omega) (by omega))) kd_195 rfl rfl ⟨rfl, rfl, Nat.le_of_ble_eq_true rfl, Nat.le_of_ble_eq_true rfl⟩ ⟨Nat.le_of_ble_eq_true rfl, Nat.le_of_ble_eq_true rfl⟩ (Nat.le_of_ble_eq_true rfl) dX9_tail_13 (fun r3 τ3 hp3 => ?_)
    obtain ⟨x3, rfl, ⟨hx3a, hx3b⟩, hI3, hG3, hq3_0⟩ := hp3
    have hF3 : ∀ j i : Nat, (j < 195 ∨ j = 198 ∨ 213 ≤ j) → τ3 j i = σ j i := fun j i h_0 => (hG3 j i (by omega) (by omega)).trans (hF1 j i h_0)
    show hpV _ _ _ _ _ _ _ _ _ _ _ _ _ _ _ _ _ _ _ _ _ (_ :: _)
    refine h_if_eq (tgt := 26) C dX9_tail_16 (by decide) ⟨by omega, by omega⟩ (fun h4 => ?_) (fun h4 => ?_)
    · refine h_iconst C dX9_tail_26 ?_
      refine h_ireturn C hr hlk dX9_tail_27 ?_
      exact ⟨⟨_, rfl, ⟨by decide, by decide⟩⟩, hI3, hF3⟩
    · refine h_aload_n C dX9_tail_19 0 rfl rfl ?_
      refine h_get C O9 27 kd_195 (by decide) wd_1283 dX9_tail_20 (hp_fvI (by rw [kd_195]; rfl) rfl) ?_
      obtain ⟨hr5a, hr5b⟩ := hI3.b (bf_9_27 kd_195)
      generalize hg5 : τ3 195 27 = r5 at hr5a hr5b ⊢
      refine h_goto (tgt := 27) C dX9_tail_23 (by decide) ?_
      refine h_ireturn C hr hlk dX9_tail_27 ?_
      exact ⟨⟨_, rfl, ⟨by omega, by omega⟩⟩, hI3, hF3⟩
  · refine h_bipush C dX9_tail_8 (by decide) ?_
    refine h_ireturn C hr hlk dX9_tail_10 ?_
    exact ⟨⟨_, rfl, ⟨by decide, by decide⟩⟩, hI1, hF1⟩
abbrev rgX9_length : Room := { frames := 6, cells := 0, slots := 0, locals := 131 }
abbrev pgX9_length (z : Nat) (σ : hpMem) (a0 : Int) : Option Value → hpMem → Prop := fun r τ => (∃ x : Int, r = some (.int (hpI x)) ∧ (hpR x)) ∧ hpInv τ ∧ (∀ j i : Nat, (j < 195 ∨ j = 198 ∨ 213 ≤ j) → τ j i = σ j i)
set_option maxHeartbeats 4000000 in
set_option maxRecDepth 20000 in
theorem tgX9_length (l : Launch) (D : va_G) (cy : Nat → ClassId) (z : Nat) (σ : hpMem) (a0 : Int) (ha0 : hpR a0) (hI : hpInv σ) : hpM l D cy z yX9_length cX9_length 2 (some .int) rgX9_length [.ref (z + 195), .int (hpI a0)] σ (pgX9_length z σ a0) := by
  obtain ⟨ha01, ha02⟩ := ha0
  refine hp_met rfl (Nat.le_of_ble_eq_true rfl) (fun p e s m below meth c C Z hr hlk => ?_)
  have hF0 : ∀ j i : Nat, (j < 195 ∨ j = 198 ∨ 213 ≤ j) → σ j i = σ j i := fun j i _ => rfl
  refine h_aload_n C dX9_length_0 0 rfl rfl ?_
  refine h_iload_n C dX9_length_1 1 rfl rfl ?_
  refine h_callV (As := [.int (hpI a0)]) (rest := []) C Z yyX9_asksDay wd_1512 (tgX9_asksDay l D cy z _ a0 ⟨by omega, by omega⟩ hI) kd_195 rfl rfl ⟨rfl, rfl, Nat.le_of_ble_eq_true rfl, Nat.le_of_ble_eq_true rfl⟩ ⟨Nat.le_of_ble_eq_true rfl, Nat.le_of_ble_eq_true rfl⟩ (Nat.le_of_ble_eq_true rfl) dX9_length_2 (fun r1 τ1 hp1 => ?_)
  obtain ⟨x1, rfl, ⟨hx1a, hx1b⟩, hx1, hI1, hG1, hq1_0⟩ := hp1
  have hF1 : ∀ j i : Nat, (j < 195 ∨ j = 198 ∨ 213 ≤ j) → τ1 j i = σ j i := fun j i h_0 => (hG1 j i (by omega) (by omega) (by omega) (by omega) (by omega) (by omega)).trans (hF0 j i h_0)
  show hpV _ _ _ _ _ _ _ _ _ _ _ _ _ _ _ _ _ _ _ _ _ (_ :: _)
  refine h_if_ne (tgt := 11) C dX9_length_5 (by decide) ⟨by omega, by omega⟩ (fun h2 => ?_) (fun h2 => ?_)
  · refine h_aload_n C dX9_length_11 0 rfl rfl ?_
    refine h_iload_n C dX9_length_12 1 rfl rfl ?_
    refine h_callV (As := [.int (hpI a0)]) (rest := []) C Z yyX9_goesRound wd_1693 (tgX9_goesRound l D cy z _ a0 ⟨by omega, by omega⟩ hI1 (by omega) (hq1_0 a0 (by omega) (by omega))) kd_195 rfl rfl ⟨rfl, rfl, Nat.le_of_ble_eq_true rfl, Nat.le_of_ble_eq_true rfl⟩ ⟨Nat.le_of_ble_eq_true rfl, Nat.le_of_ble_eq_true rfl⟩ (Nat.le_of_ble_eq_true rfl) dX9_length_13 (fun r3 τ3 hp3 => ?_)
    obtain ⟨x3, rfl, ⟨hx3a, hx3b⟩, hI3, hG3, hq3_0⟩ := hp3
    have hF3 : ∀ j i : Nat, (j < 195 ∨ j = 198 ∨ 213 ≤ j) → τ3 j i = σ j i := fun j i h_0 => (hG3 j i (by omega) (by omega)).trans (hF1 j i h_0)
    show hpV _ _ _ _ _ _ _ _ _ _ _ _ _ _ _ _ _ _ _ _ _ (_ :: _)
    refine h_if_eq (tgt := 26) C dX9_length_16 (by decide) ⟨by omega, by omega⟩ (fun h4 => ?_) (fun h4 => ?_)
    · refine h_iconst C dX9_length_26 ?_
      refine h_ireturn C hr hlk dX9_length_27 ?_
      exact ⟨⟨_, rfl, ⟨by decide, by decide⟩⟩, hI3, hF3⟩
    · refine h_aload_n C dX9_length_19 0 rfl rfl ?_
      refine h_get C O9 28 kd_195 (by decide) wd_1284 dX9_length_20 (hp_fvI (by rw [kd_195]; rfl) rfl) ?_
      obtain ⟨hr5a, hr5b⟩ := hI3.b (bf_9_28 kd_195)
      generalize hg5 : τ3 195 28 = r5 at hr5a hr5b ⊢
      refine h_goto (tgt := 27) C dX9_length_23 (by decide) ?_
      refine h_ireturn C hr hlk dX9_length_27 ?_
      exact ⟨⟨_, rfl, ⟨by omega, by omega⟩⟩, hI3, hF3⟩
  · refine h_bipush C dX9_length_8 (by decide) ?_
    refine h_ireturn C hr hlk dX9_length_10 ?_
    exact ⟨⟨_, rfl, ⟨by decide, by decide⟩⟩, hI1, hF1⟩
abbrev rgX9_ring : Room := { frames := 6, cells := 0, slots := 0, locals := 131 }
abbrev pgX9_ring (z : Nat) (σ : hpMem) (a0 : Int) : Option Value → hpMem → Prop := fun r τ => (∃ x : Int, r = some (.int (hpI x)) ∧ (hpR x)) ∧ hpInv τ ∧ (∀ j i : Nat, (j < 195 ∨ j = 198 ∨ 213 ≤ j) → τ j i = σ j i)
set_option maxHeartbeats 4000000 in
set_option maxRecDepth 20000 in
theorem tgX9_ring (l : Launch) (D : va_G) (cy : Nat → ClassId) (z : Nat) (σ : hpMem) (a0 : Int) (ha0 : hpR a0) (hI : hpInv σ) : hpM l D cy z yX9_ring cX9_ring 4 (some .int) rgX9_ring [.ref (z + 195), .int (hpI a0)] σ (pgX9_ring z σ a0) := by
  obtain ⟨ha01, ha02⟩ := ha0
  refine hp_met rfl (Nat.le_of_ble_eq_true rfl) (fun p e s m below meth c C Z hr hlk => ?_)
  have hF0 : ∀ j i : Nat, (j < 195 ∨ j = 198 ∨ 213 ≤ j) → σ j i = σ j i := fun j i _ => rfl
  refine h_aload_n C dX9_ring_0 0 rfl rfl ?_
  refine h_iload_n C dX9_ring_1 1 rfl rfl ?_
  refine h_callV (As := [.int (hpI a0)]) (rest := []) C Z yyX9_asksDay wd_1512 (tgX9_asksDay l D cy z _ a0 ⟨by omega, by omega⟩ hI) kd_195 rfl rfl ⟨rfl, rfl, Nat.le_of_ble_eq_true rfl, Nat.le_of_ble_eq_true rfl⟩ ⟨Nat.le_of_ble_eq_true rfl, Nat.le_of_ble_eq_true rfl⟩ (Nat.le_of_ble_eq_true rfl) dX9_ring_2 (fun r1 τ1 hp1 => ?_)
  obtain ⟨x1, rfl, ⟨hx1a, hx1b⟩, hx1, hI1, hG1, hq1_0⟩ := hp1
  have hF1 : ∀ j i : Nat, (j < 195 ∨ j = 198 ∨ 213 ≤ j) → τ1 j i = σ j i := fun j i h_0 => (hG1 j i (by omega) (by omega) (by omega) (by omega) (by omega) (by omega)).trans (hF0 j i h_0)
  show hpV _ _ _ _ _ _ _ _ _ _ _ _ _ _ _ _ _ _ _ _ _ (_ :: _)
  refine h_if_ne (tgt := 11) C dX9_ring_5 (by decide) ⟨by omega, by omega⟩ (fun h2 => ?_) (fun h2 => ?_)
  · refine h_aload_n C dX9_ring_11 0 rfl rfl ?_
    refine h_iload_n C dX9_ring_12 1 rfl rfl ?_
    refine h_callV (As := [.int (hpI a0)]) (rest := []) C Z yyX9_goesRound wd_1693 (tgX9_goesRound l D cy z _ a0 ⟨by omega, by omega⟩ hI1 (by omega) (hq1_0 a0 (by omega) (by omega))) kd_195 rfl rfl ⟨rfl, rfl, Nat.le_of_ble_eq_true rfl, Nat.le_of_ble_eq_true rfl⟩ ⟨Nat.le_of_ble_eq_true rfl, Nat.le_of_ble_eq_true rfl⟩ (Nat.le_of_ble_eq_true rfl) dX9_ring_13 (fun r3 τ3 hp3 => ?_)
    obtain ⟨x3, rfl, ⟨hx3a, hx3b⟩, hI3, hG3, hq3_0⟩ := hp3
    have hF3 : ∀ j i : Nat, (j < 195 ∨ j = 198 ∨ 213 ≤ j) → τ3 j i = σ j i := fun j i h_0 => (hG3 j i (by omega) (by omega)).trans (hF1 j i h_0)
    show hpV _ _ _ _ _ _ _ _ _ _ _ _ _ _ _ _ _ _ _ _ _ (_ :: _)
    refine h_if_ne (tgt := 21) C dX9_ring_16 (by decide) ⟨by omega, by omega⟩ (fun h4 => ?_) (fun h4 => ?_)
    · refine h_iconst C dX9_ring_21 ?_
      refine h_istore_n (lv' := [(2, .int (hpI 0)), (0, .ref (z + 195)), (1, .int (hpI a0))]) C dX9_ring_22 rfl (by decide) rfl ?_
      refine h_iconst C dX9_ring_23 ?_
      refine h_istore_n (lv' := [(3, .int (hpI 0)), (2, .int (hpI 0)), (0, .ref (z + 195)), (1, .int (hpI a0))]) C dX9_ring_24 rfl (by decide) rfl ?_
      have L5 : ∀ (n5 : Nat) (τ5 : hpMem) (w5_2 : Int) (w5_3 : Int), -2147483648 ≤ w5_2 → w5_2 ≤ 2147483647 → 0 ≤ w5_3 → w5_3 ≤ 2147483647 → hpInv τ5 → (∀ j i : Nat, (j < 195 ∨ j = 198 ∨ 213 ≤ j) → τ5 j i = σ j i) → (hpLe (τ5 202) 18 700) → (4294967296 - w5_3) < (n5 : Int) → hpF p l e rgX9_ring s m [.ref (z + 195), .int (hpI a0)] below meth c 4 D cy z (pgX9_ring z σ a0) τ5 25 [(0, .ref (z + 195)), (1, .int (hpI a0)), (2, .int (hpI w5_2)), (3, .int (hpI w5_3))] [] := by
        intro n5
        induction n5 with
        | zero => intro τ5 w5_2 w5_3 hv5_0 hv5_1 hv5_2 hv5_3 hI5 hF5 hM5_0 hm5; exfalso; omega
        | succ n5 ih5 =>
          intro τ5 w5_2 w5_3 hv5_0 hv5_1 hv5_2 hv5_3 hI5 hF5 hM5_0 hm5
          refine h_iload_n C dX9_ring_25 3 rfl rfl ?_
          refine h_aload_n C dX9_ring_26 0 rfl rfl ?_
          refine h_get C O9 28 kd_195 (by decide) wd_1284 dX9_ring_27 (hp_fvI (by rw [kd_195]; rfl) rfl) ?_
          obtain ⟨hr6a, hr6b⟩ := hI5.b (bf_9_28 kd_195)
          generalize hg6 : τ5 195 28 = r6 at hr6a hr6b ⊢
          refine h_icmp_ge (tgt := 56) C dX9_ring_30 (by decide) ⟨by omega, by omega⟩ ⟨by omega, by omega⟩ (fun h7 => ?_) (fun h7 => ?_)
          · refine h_iload_n C dX9_ring_56 2 rfl rfl ?_
            refine h_ireturn C hr hlk dX9_ring_57 ?_
            exact ⟨⟨_, rfl, ⟨by omega, by omega⟩⟩, hI5, hF5⟩
          · refine h_iload_n C dX9_ring_33 2 rfl rfl ?_
            refine h_aload_n C dX9_ring_34 0 rfl rfl ?_
            refine h_bipush C dX9_ring_35 (by decide) ?_
            refine h_callV (As := [.int (hpI 18)]) (rest := [.int (hpI w5_2)]) C Z yyX9_manyOf wd_1536 (tgX9_manyOf l D cy z _ 18 ⟨by decide, by decide⟩ hI5 (by omega)) kd_195 rfl rfl ⟨rfl, rfl, Nat.le_of_ble_eq_true rfl, Nat.le_of_ble_eq_true rfl⟩ ⟨Nat.le_of_ble_eq_true rfl, Nat.le_of_ble_eq_true rfl⟩ (Nat.le_of_ble_eq_true rfl) dX9_ring_37 (fun r8 τ8 hp8 => ?_)
            obtain ⟨⟨x8, rfl, ⟨hx8a, hx8b⟩, hx8⟩, rfl⟩ := hp8
            show hpV _ _ _ _ _ _ _ _ _ _ _ _ _ _ _ _ _ _ _ _ _ (_ :: _)
            refine h_mmax C wd_1624 wd_708 wd_709 wd_15 dX9_ring_40 ⟨by omega, by omega⟩ ⟨by omega, by omega⟩ (Nat.le_of_ble_eq_true rfl) (Nat.le_of_ble_eq_true rfl) ⟨Nat.le_of_ble_eq_true rfl, Nat.le_of_ble_eq_true rfl⟩ (fun r9 hr9a hr9b hr9c => ?_)
            refine h_istore_n (lv' := [(2, .int (hpI r9)), (0, .ref (z + 195)), (1, .int (hpI a0)), (3, .int (hpI w5_3))]) C dX9_ring_43 rfl (by decide) rfl ?_
            refine h_aload_n C dX9_ring_44 1 rfl rfl ?_
            refine h_bipush C dX9_ring_45 (by decide) ?_
            obtain ⟨L0, hL0, hK0⟩ := hM5_0.ok
            refine h_callV (As := [.int (hpI 18)]) (rest := []) C Z yyX9_step wd_1563 (tgX9_step l D cy z _ 18 ⟨by decide, by decide⟩ hI5 _ (by omega) hL0 hK0) kd_195 rfl rfl ⟨rfl, rfl, Nat.le_of_ble_eq_true rfl, Nat.le_of_ble_eq_true rfl⟩ ⟨Nat.le_of_ble_eq_true rfl, Nat.le_of_ble_eq_true rfl⟩ (Nat.le_of_ble_eq_true rfl) dX9_ring_47 (fun r10 τ10 hp10 => ?_)
            obtain ⟨rfl, hI10, hG10, hq10_0⟩ := hp10
            have hF10 : ∀ j i : Nat, (j < 195 ∨ j = 198 ∨ 213 ≤ j) → τ10 j i = σ j i := fun j i h_0 => (hG10 j i (by omega) (by omega)).trans (hF5 j i h_0)
            show hpV _ _ _ _ _ _ _ _ _ _ _ _ _ _ _ _ _ _ _ _ _ []
            refine h_iinc (lv' := [(3, .int (hpI (w5_3 + 1))), (2, .int (hpI r9)), (0, .ref (z + 195)), (1, .int (hpI a0))]) C dX9_ring_50 3 rfl rfl (by decide) rfl ?_
            refine h_goto (tgt := 25) C dX9_ring_53 (by decide) ?_
            exact hp_sub [2, 3, 1, 0] rfl (ih5 _ r9 (w5_3 + 1) (by omega) (by omega) (by omega) (by omega) hI10 hF10 (hK0.st.le hq10_0) (by omega))
      exact hp_sub [2, 3, 1, 0] rfl (L5 8589934592 _ 0 0 (by omega) (by omega) (by omega) (by omega) hI3 hF3 hq3_0 (by omega))
    · refine h_iconst C dX9_ring_19 ?_
      refine h_ireturn C hr hlk dX9_ring_20 ?_
      exact ⟨⟨_, rfl, ⟨by decide, by decide⟩⟩, hI3, hF3⟩
  · refine h_bipush C dX9_ring_8 (by decide) ?_
    refine h_ireturn C hr hlk dX9_ring_10 ?_
    exact ⟨⟨_, rfl, ⟨by decide, by decide⟩⟩, hI1, hF1⟩
abbrev rgX9_later : Room := { frames := 6, cells := 0, slots := 0, locals := 131 }
abbrev pgX9_later (z : Nat) (σ : hpMem) (a0 : Int) (a1 : Int) (a2 : Int) : Option Value → hpMem → Prop := fun r τ => (∃ x : Int, r = some (.int (hpI x)) ∧ (hpR x)) ∧ hpInv τ ∧ (∀ j i : Nat, (j < 195 ∨ j = 198 ∨ 213 ≤ j) → τ j i = σ j i)
set_option maxHeartbeats 4000000 in
set_option maxRecDepth 20000 in
theorem tgX9_later (l : Launch) (D : va_G) (cy : Nat → ClassId) (z : Nat) (σ : hpMem) (a0 : Int) (ha0 : hpR a0) (a1 : Int) (ha1 : hpR a1) (a2 : Int) (ha2 : hpR a2) (hI : hpInv σ) : hpM l D cy z yX9_later cX9_later 5 (some .int) rgX9_later [.ref (z + 195), .int (hpI a0), .int (hpI a1), .int (hpI a2)] σ (pgX9_later z σ a0 a1 a2) := by
  obtain ⟨ha01, ha02⟩ := ha0
  obtain ⟨ha11, ha12⟩ := ha1
  obtain ⟨ha21, ha22⟩ := ha2
  refine hp_met rfl (Nat.le_of_ble_eq_true rfl) (fun p e s m below meth c C Z hr hlk => ?_)
  have hF0 : ∀ j i : Nat, (j < 195 ∨ j = 198 ∨ 213 ≤ j) → σ j i = σ j i := fun j i _ => rfl
  refine h_aload_n C dX9_later_0 0 rfl rfl ?_
  refine h_iload_n C dX9_later_1 1 rfl rfl ?_
  refine h_callV (As := [.int (hpI a0)]) (rest := []) C Z yyX9_asksDay wd_1512 (tgX9_asksDay l D cy z _ a0 ⟨by omega, by omega⟩ hI) kd_195 rfl rfl ⟨rfl, rfl, Nat.le_of_ble_eq_true rfl, Nat.le_of_ble_eq_true rfl⟩ ⟨Nat.le_of_ble_eq_true rfl, Nat.le_of_ble_eq_true rfl⟩ (Nat.le_of_ble_eq_true rfl) dX9_later_2 (fun r1 τ1 hp1 => ?_)
  obtain ⟨x1, rfl, ⟨hx1a, hx1b⟩, hx1, hI1, hG1, hq1_0⟩ := hp1
  have hF1 : ∀ j i : Nat, (j < 195 ∨ j = 198 ∨ 213 ≤ j) → τ1 j i = σ j i := fun j i h_0 => (hG1 j i (by omega) (by omega) (by omega) (by omega) (by omega) (by omega)).trans (hF0 j i h_0)
  show hpV _ _ _ _ _ _ _ _ _ _ _ _ _ _ _ _ _ _ _ _ _ (_ :: _)
  refine h_if_eq (tgt := 24) C dX9_later_5 (by decide) ⟨by omega, by omega⟩ (fun h2 => ?_) (fun h2 => ?_)
  · refine h_bipush C dX9_later_24 (by decide) ?_
    refine h_ireturn C hr hlk dX9_later_26 ?_
    exact ⟨⟨_, rfl, ⟨by decide, by decide⟩⟩, hI1, hF1⟩
  · refine h_iload_n C dX9_later_8 2 rfl rfl ?_
    refine h_i2l C dX9_later_9 ⟨by omega, by omega⟩ ?_
    refine h_lconst C 0 dX9_later_10 (by decide) ?_
    refine h_ldc2 C 500 wd_1709 (by decide) dX9_later_11 ?_
    refine h_callS (As := [.long (hpJ a1), .long (hpJ 0), .long (hpJ 500)]) (rest := []) C Z yyX9_in rfl wd_1401 (tgX9_in l D cy z _ a1 ⟨by omega, by omega⟩ 0 ⟨by decide, by decide⟩ 500 ⟨by decide, by decide⟩ hI1) rfl rfl ⟨rfl, rfl, Nat.le_of_ble_eq_true rfl, Nat.le_of_ble_eq_true rfl⟩ ⟨Nat.le_of_ble_eq_true rfl, Nat.le_of_ble_eq_true rfl⟩ (Nat.le_of_ble_eq_true rfl) dX9_later_14 (fun r3 τ3 hp3 => ?_)
    obtain ⟨⟨x3, rfl, ⟨hx3a, hx3b⟩, hx3⟩, rfl⟩ := hp3
    show hpV _ _ _ _ _ _ _ _ _ _ _ _ _ _ _ _ _ _ _ _ _ (_ :: _)
    refine h_if_eq (tgt := 24) C dX9_later_17 (by decide) ⟨by omega, by omega⟩ (fun h4 => ?_) (fun h4 => ?_)
    · refine h_bipush C dX9_later_24 (by decide) ?_
      refine h_ireturn C hr hlk dX9_later_26 ?_
      exact ⟨⟨_, rfl, ⟨by decide, by decide⟩⟩, hI1, hF1⟩
    · refine h_iload_n C dX9_later_20 3 rfl rfl ?_
      refine h_if_ge (tgt := 27) C dX9_later_21 (by decide) ⟨by omega, by omega⟩ (fun h5 => ?_) (fun h5 => ?_)
      · refine h_aload_n C dX9_later_27 0 rfl rfl ?_
        refine h_iload_n C dX9_later_28 1 rfl rfl ?_
        refine h_bipush C dX9_later_29 (by decide) ?_
        refine h_callV (As := [.int (hpI a0), .int (hpI 18)]) (rest := []) C Z yyX9_copyRow wd_1559 (tgX9_copyRow l D cy z _ a0 ⟨by omega, by omega⟩ 18 ⟨by decide, by decide⟩ hI1 (by omega) (by omega)) kd_195 rfl rfl ⟨rfl, rfl, Nat.le_of_ble_eq_true rfl, Nat.le_of_ble_eq_true rfl⟩ ⟨Nat.le_of_ble_eq_true rfl, Nat.le_of_ble_eq_true rfl⟩ (Nat.le_of_ble_eq_true rfl) dX9_later_31 (fun r6 τ6 hp6 => ?_)
        obtain ⟨rfl, hI6, hG6, hq6_0⟩ := hp6
        have hF6 : ∀ j i : Nat, (j < 195 ∨ j = 198 ∨ 213 ≤ j) → τ6 j i = σ j i := fun j i h_0 => (hG6 j i (by omega)).trans (hF1 j i h_0)
        show hpV _ _ _ _ _ _ _ _ _ _ _ _ _ _ _ _ _ _ _ _ _ []
        refine h_iconst C dX9_later_34 ?_
        refine h_istore (lv' := [(4, .int (hpI 0)), (0, .ref (z + 195)), (1, .int (hpI a0)), (2, .int (hpI a1)), (3, .int (hpI a2))]) C dX9_later_35 (by decide) rfl ?_
        have L7 : ∀ (n7 : Nat) (τ7 : hpMem) (w7_4 : Int), 0 ≤ w7_4 → w7_4 ≤ 2147483647 → hpInv τ7 → (∀ j i : Nat, (j < 195 ∨ j = 198 ∨ 213 ≤ j) → τ7 j i = σ j i) → (hpLe (τ7 202) 18 700) → (4294967296 - w7_4) < (n7 : Int) → hpF p l e rgX9_later s m [.ref (z + 195), .int (hpI a0), .int (hpI a1), .int (hpI a2)] below meth c 5 D cy z (pgX9_later z σ a0 a1 a2) τ7 37 [(0, .ref (z + 195)), (1, .int (hpI a0)), (2, .int (hpI a1)), (3, .int (hpI a2)), (4, .int (hpI w7_4))] [] := by
          intro n7
          induction n7 with
          | zero => intro τ7 w7_4 hv7_0 hv7_1 hI7 hF7 hM7_0 hm7; exfalso; omega
          | succ n7 ih7 =>
            intro τ7 w7_4 hv7_0 hv7_1 hI7 hF7 hM7_0 hm7
            refine h_iload C dX9_later_37 4 rfl ?_
            refine h_iload_n C dX9_later_39 2 rfl rfl ?_
            refine h_icmp_ge (tgt := 55) C dX9_later_40 (by decide) ⟨by omega, by omega⟩ ⟨by omega, by omega⟩ (fun h8 => ?_) (fun h8 => ?_)
            · refine h_iload_n C dX9_later_55 3 rfl rfl ?_
              refine h_aload_n C dX9_later_56 0 rfl rfl ?_
              refine h_bipush C dX9_later_57 (by decide) ?_
              refine h_callV (As := [.int (hpI 18)]) (rest := [.int (hpI a2)]) C Z yyX9_manyOf wd_1536 (tgX9_manyOf l D cy z _ 18 ⟨by decide, by decide⟩ hI7 (by omega)) kd_195 rfl rfl ⟨rfl, rfl, Nat.le_of_ble_eq_true rfl, Nat.le_of_ble_eq_true rfl⟩ ⟨Nat.le_of_ble_eq_true rfl, Nat.le_of_ble_eq_true rfl⟩ (Nat.le_of_ble_eq_true rfl) dX9_later_59 (fun r9 τ9 hp9 => ?_)
              obtain ⟨⟨x9, rfl, ⟨hx9a, hx9b⟩, hx9⟩, rfl⟩ := hp9
              show hpV _ _ _ _ _ _ _ _ _ _ _ _ _ _ _ _ _ _ _ _ _ (_ :: _)
              refine h_icmp_ge (tgt := 75) C dX9_later_62 (by decide) ⟨by omega, by omega⟩ ⟨by omega, by omega⟩ (fun h10 => ?_) (fun h10 => ?_)
              · refine h_iconst C dX9_later_75 ?_
                refine h_ireturn C hr hlk dX9_later_76 ?_
                exact ⟨⟨_, rfl, ⟨by decide, by decide⟩⟩, hI7, hF7⟩
              · refine h_aload_n C dX9_later_65 0 rfl rfl ?_
                refine h_bipush C dX9_later_66 (by decide) ?_
                refine h_iload_n C dX9_later_68 3 rfl rfl ?_
                refine h_callV (As := [.int (hpI 18), .int (hpI a2)]) (rest := []) C Z yyX9_heightOf wd_1540 (tgX9_heightOf l D cy z _ 18 ⟨by decide, by decide⟩ a2 ⟨by omega, by omega⟩ hI7 (by omega) (by omega)) kd_195 rfl rfl ⟨rfl, rfl, Nat.le_of_ble_eq_true rfl, Nat.le_of_ble_eq_true rfl⟩ ⟨Nat.le_of_ble_eq_true rfl, Nat.le_of_ble_eq_true rfl⟩ (Nat.le_of_ble_eq_true rfl) dX9_later_69 (fun r11 τ11 hp11 => ?_)
                obtain ⟨⟨x11, rfl, ⟨hx11a, hx11b⟩, hx11⟩, rfl⟩ := hp11
                show hpV _ _ _ _ _ _ _ _ _ _ _ _ _ _ _ _ _ _ _ _ _ (_ :: _)
                refine h_goto (tgt := 76) C dX9_later_72 (by decide) ?_
                refine h_ireturn C hr hlk dX9_later_76 ?_
                exact ⟨⟨_, rfl, ⟨by omega, by omega⟩⟩, hI7, hF7⟩
            · refine h_aload_n C dX9_later_43 0 rfl rfl ?_
              refine h_bipush C dX9_later_44 (by decide) ?_
              obtain ⟨L0, hL0, hK0⟩ := hM7_0.ok
              refine h_callV (As := [.int (hpI 18)]) (rest := []) C Z yyX9_step wd_1563 (tgX9_step l D cy z _ 18 ⟨by decide, by decide⟩ hI7 _ (by omega) hL0 hK0) kd_195 rfl rfl ⟨rfl, rfl, Nat.le_of_ble_eq_true rfl, Nat.le_of_ble_eq_true rfl⟩ ⟨Nat.le_of_ble_eq_true rfl, Nat.le_of_ble_eq_true rfl⟩ (Nat.le_of_ble_eq_true rfl) dX9_later_46 (fun r12 τ12 hp12 => ?_)
              obtain ⟨rfl, hI12, hG12, hq12_0⟩ := hp12
              have hF12 : ∀ j i : Nat, (j < 195 ∨ j = 198 ∨ 213 ≤ j) → τ12 j i = σ j i := fun j i h_0 => (hG12 j i (by omega) (by omega)).trans (hF7 j i h_0)
              show hpV _ _ _ _ _ _ _ _ _ _ _ _ _ _ _ _ _ _ _ _ _ []
              refine h_iinc (lv' := [(4, .int (hpI (w7_4 + 1))), (0, .ref (z + 195)), (1, .int (hpI a0)), (2, .int (hpI a1)), (3, .int (hpI a2))]) C dX9_later_49 4 rfl rfl (by decide) rfl ?_
              refine h_goto (tgt := 37) C dX9_later_52 (by decide) ?_
              exact hp_sub [1, 2, 3, 4, 0] rfl (ih7 _ (w7_4 + 1) (by omega) (by omega) hI12 hF12 (hK0.st.le hq12_0) (by omega))
        exact hp_sub [1, 2, 3, 4, 0] rfl (L7 8589934592 _ 0 (by omega) (by omega) hI6 hF6 ((hq1_0 a0 (by omega) (by omega)).copy hq6_0) (by omega))
      · refine h_bipush C dX9_later_24 (by decide) ?_
        refine h_ireturn C hr hlk dX9_later_26 ?_
        exact ⟨⟨_, rfl, ⟨by decide, by decide⟩⟩, hI1, hF1⟩
abbrev rgX9_soon : Room := { frames := 6, cells := 0, slots := 0, locals := 131 }
abbrev pgX9_soon (z : Nat) (σ : hpMem) (a0 : Int) : Option Value → hpMem → Prop := fun r τ => (∃ x : Int, r = some (.int (hpI x)) ∧ (hpR x)) ∧ hpInv τ ∧ (∀ j i : Nat, (j < 195 ∨ j = 198 ∨ 213 ≤ j) → τ j i = σ j i)
set_option maxHeartbeats 4000000 in
set_option maxRecDepth 20000 in
theorem tgX9_soon (l : Launch) (D : va_G) (cy : Nat → ClassId) (z : Nat) (σ : hpMem) (a0 : Int) (ha0 : hpR a0) (hI : hpInv σ) : hpM l D cy z yX9_soon cX9_soon 3 (some .int) rgX9_soon [.ref (z + 195), .int (hpI a0)] σ (pgX9_soon z σ a0) := by
  obtain ⟨ha01, ha02⟩ := ha0
  refine hp_met rfl (Nat.le_of_ble_eq_true rfl) (fun p e s m below meth c C Z hr hlk => ?_)
  have hF0 : ∀ j i : Nat, (j < 195 ∨ j = 198 ∨ 213 ≤ j) → σ j i = σ j i := fun j i _ => rfl
  refine h_aload_n C dX9_soon_0 0 rfl rfl ?_
  refine h_iload_n C dX9_soon_1 1 rfl rfl ?_
  refine h_callV (As := [.int (hpI a0)]) (rest := []) C Z yyX9_asksDay wd_1512 (tgX9_asksDay l D cy z _ a0 ⟨by omega, by omega⟩ hI) kd_195 rfl rfl ⟨rfl, rfl, Nat.le_of_ble_eq_true rfl, Nat.le_of_ble_eq_true rfl⟩ ⟨Nat.le_of_ble_eq_true rfl, Nat.le_of_ble_eq_true rfl⟩ (Nat.le_of_ble_eq_true rfl) dX9_soon_2 (fun r1 τ1 hp1 => ?_)
  obtain ⟨x1, rfl, ⟨hx1a, hx1b⟩, hx1, hI1, hG1, hq1_0⟩ := hp1
  have hF1 : ∀ j i : Nat, (j < 195 ∨ j = 198 ∨ 213 ≤ j) → τ1 j i = σ j i := fun j i h_0 => (hG1 j i (by omega) (by omega) (by omega) (by omega) (by omega) (by omega)).trans (hF0 j i h_0)
  show hpV _ _ _ _ _ _ _ _ _ _ _ _ _ _ _ _ _ _ _ _ _ (_ :: _)
  refine h_if_ne (tgt := 11) C dX9_soon_5 (by decide) ⟨by omega, by omega⟩ (fun h2 => ?_) (fun h2 => ?_)
  · refine h_aload_n C dX9_soon_11 0 rfl rfl ?_
    refine h_iload_n C dX9_soon_12 1 rfl rfl ?_
    refine h_callV (As := [.int (hpI a0)]) (rest := []) C Z yyX9_goesRound wd_1693 (tgX9_goesRound l D cy z _ a0 ⟨by omega, by omega⟩ hI1 (by omega) (hq1_0 a0 (by omega) (by omega))) kd_195 rfl rfl ⟨rfl, rfl, Nat.le_of_ble_eq_true rfl, Nat.le_of_ble_eq_true rfl⟩ ⟨Nat.le_of_ble_eq_true rfl, Nat.le_of_ble_eq_true rfl⟩ (Nat.le_of_ble_eq_true rfl) dX9_soon_13 (fun r3 τ3 hp3 => ?_)
    obtain ⟨x3, rfl, ⟨hx3a, hx3b⟩, hI3, hG3, hq3_0⟩ := hp3
    have hF3 : ∀ j i : Nat, (j < 195 ∨ j = 198 ∨ 213 ≤ j) → τ3 j i = σ j i := fun j i h_0 => (hG3 j i (by omega) (by omega)).trans (hF1 j i h_0)
    show hpV _ _ _ _ _ _ _ _ _ _ _ _ _ _ _ _ _ _ _ _ _ (_ :: _)
    refine h_if_ne (tgt := 21) C dX9_soon_16 (by decide) ⟨by omega, by omega⟩ (fun h4 => ?_) (fun h4 => ?_)
    · refine h_aload_n C dX9_soon_21 0 rfl rfl ?_
      refine h_iload_n C dX9_soon_22 1 rfl rfl ?_
      refine h_bipush C dX9_soon_23 (by decide) ?_
      refine h_callV (As := [.int (hpI a0), .int (hpI 18)]) (rest := []) C Z yyX9_copyRow wd_1559 (tgX9_copyRow l D cy z _ a0 ⟨by omega, by omega⟩ 18 ⟨by decide, by decide⟩ hI3 (by omega) (by omega)) kd_195 rfl rfl ⟨rfl, rfl, Nat.le_of_ble_eq_true rfl, Nat.le_of_ble_eq_true rfl⟩ ⟨Nat.le_of_ble_eq_true rfl, Nat.le_of_ble_eq_true rfl⟩ (Nat.le_of_ble_eq_true rfl) dX9_soon_25 (fun r5 τ5 hp5 => ?_)
      obtain ⟨rfl, hI5, hG5, hq5_0⟩ := hp5
      have hF5 : ∀ j i : Nat, (j < 195 ∨ j = 198 ∨ 213 ≤ j) → τ5 j i = σ j i := fun j i h_0 => (hG5 j i (by omega)).trans (hF3 j i h_0)
      show hpV _ _ _ _ _ _ _ _ _ _ _ _ _ _ _ _ _ _ _ _ _ []
      refine h_iconst C dX9_soon_28 ?_
      refine h_istore_n (lv' := [(2, .int (hpI 0)), (0, .ref (z + 195)), (1, .int (hpI a0))]) C dX9_soon_29 rfl (by decide) rfl ?_
      have L6 : ∀ (n6 : Nat) (τ6 : hpMem) (w6_2 : Int), 0 ≤ w6_2 → w6_2 ≤ 2147483647 → hpInv τ6 → (∀ j i : Nat, (j < 195 ∨ j = 198 ∨ 213 ≤ j) → τ6 j i = σ j i) → (hpLe (τ6 202) 18 700) → (4294967296 - w6_2) < (n6 : Int) → hpF p l e rgX9_soon s m [.ref (z + 195), .int (hpI a0)] below meth c 3 D cy z (pgX9_soon z σ a0) τ6 30 [(0, .ref (z + 195)), (1, .int (hpI a0)), (2, .int (hpI w6_2))] [] := by
        intro n6
        induction n6 with
        | zero => intro τ6 w6_2 hv6_0 hv6_1 hI6 hF6 hM6_0 hm6; exfalso; omega
        | succ n6 ih6 =>
          intro τ6 w6_2 hv6_0 hv6_1 hI6 hF6 hM6_0 hm6
          refine h_iload_n C dX9_soon_30 2 rfl rfl ?_
          refine h_aload_n C dX9_soon_31 0 rfl rfl ?_
          refine h_get C O9 27 kd_195 (by decide) wd_1283 dX9_soon_32 (hp_fvI (by rw [kd_195]; rfl) rfl) ?_
          obtain ⟨hr7a, hr7b⟩ := hI6.b (bf_9_27 kd_195)
          generalize hg7 : τ6 195 27 = r7 at hr7a hr7b ⊢
          refine h_aload_n C dX9_soon_35 0 rfl rfl ?_
          refine h_get C O9 28 kd_195 (by decide) wd_1284 dX9_soon_36 (hp_fvI (by rw [kd_195]; rfl) rfl) ?_
          obtain ⟨hr8a, hr8b⟩ := hI6.b (bf_9_28 kd_195)
          generalize hg8 : τ6 195 28 = r8 at hr8a hr8b ⊢
          refine h_iadd C dX9_soon_39 rfl ?_
          refine h_icmp_ge (tgt := 66) C dX9_soon_40 (by decide) ⟨by omega, by omega⟩ ⟨by omega, by omega⟩ (fun h9 => ?_) (fun h9 => ?_)
          · refine h_iconst C dX9_soon_66 ?_
            refine h_ireturn C hr hlk dX9_soon_67 ?_
            exact ⟨⟨_, rfl, ⟨by decide, by decide⟩⟩, hI6, hF6⟩
          · refine h_aload_n C dX9_soon_43 0 rfl rfl ?_
            refine h_bipush C dX9_soon_44 (by decide) ?_
            refine h_callV (As := [.int (hpI 18)]) (rest := []) C Z yyX9_isStair wd_1657 (tgX9_isStair l D cy z _ 18 ⟨by decide, by decide⟩ hI6 (by omega)) kd_195 rfl rfl ⟨rfl, rfl, Nat.le_of_ble_eq_true rfl, Nat.le_of_ble_eq_true rfl⟩ ⟨Nat.le_of_ble_eq_true rfl, Nat.le_of_ble_eq_true rfl⟩ (Nat.le_of_ble_eq_true rfl) dX9_soon_46 (fun r10 τ10 hp10 => ?_)
            obtain ⟨⟨x10, rfl, ⟨hx10a, hx10b⟩⟩, rfl⟩ := hp10
            show hpV _ _ _ _ _ _ _ _ _ _ _ _ _ _ _ _ _ _ _ _ _ (_ :: _)
            refine h_if_eq (tgt := 54) C dX9_soon_49 (by decide) ⟨by omega, by omega⟩ (fun h11 => ?_) (fun h11 => ?_)
            · refine h_aload_n C dX9_soon_54 0 rfl rfl ?_
              refine h_bipush C dX9_soon_55 (by decide) ?_
              obtain ⟨L0, hL0, hK0⟩ := hM6_0.ok
              refine h_callV (As := [.int (hpI 18)]) (rest := []) C Z yyX9_step wd_1563 (tgX9_step l D cy z _ 18 ⟨by decide, by decide⟩ hI6 _ (by omega) hL0 hK0) kd_195 rfl rfl ⟨rfl, rfl, Nat.le_of_ble_eq_true rfl, Nat.le_of_ble_eq_true rfl⟩ ⟨Nat.le_of_ble_eq_true rfl, Nat.le_of_ble_eq_true rfl⟩ (Nat.le_of_ble_eq_true rfl) dX9_soon_57 (fun r12 τ12 hp12 => ?_)
              obtain ⟨rfl, hI12, hG12, hq12_0⟩ := hp12
              have hF12 : ∀ j i : Nat, (j < 195 ∨ j = 198 ∨ 213 ≤ j) → τ12 j i = σ j i := fun j i h_0 => (hG12 j i (by omega) (by omega)).trans (hF6 j i h_0)
              show hpV _ _ _ _ _ _ _ _ _ _ _ _ _ _ _ _ _ _ _ _ _ []
              refine h_iinc (lv' := [(2, .int (hpI (w6_2 + 1))), (0, .ref (z + 195)), (1, .int (hpI a0))]) C dX9_soon_60 2 rfl rfl (by decide) rfl ?_
              refine h_goto (tgt := 30) C dX9_soon_63 (by decide) ?_
              exact hp_sub [1, 2, 0] rfl (ih6 _ (w6_2 + 1) (by omega) (by omega) hI12 hF12 (hK0.st.le hq12_0) (by omega))
            · refine h_iload_n C dX9_soon_52 2 rfl rfl ?_
              refine h_ireturn C hr hlk dX9_soon_53 ?_
              exact ⟨⟨_, rfl, ⟨by omega, by omega⟩⟩, hI6, hF6⟩
      exact hp_sub [1, 2, 0] rfl (L6 8589934592 _ 0 (by omega) (by omega) hI5 hF5 (((hq1_0 a0 (by omega) (by omega)).fr (by decide) (by omega) (fun i g1 g2 => hG3 202 i (by omega) (by omega))).copy hq5_0) (by omega))
    · refine h_iconst C dX9_soon_19 ?_
      refine h_ireturn C hr hlk dX9_soon_20 ?_
      exact ⟨⟨_, rfl, ⟨by decide, by decide⟩⟩, hI3, hF3⟩
  · refine h_bipush C dX9_soon_8 (by decide) ?_
    refine h_ireturn C hr hlk dX9_soon_10 ?_
    exact ⟨⟨_, rfl, ⟨by decide, by decide⟩⟩, hI1, hF1⟩

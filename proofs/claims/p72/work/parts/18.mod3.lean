abbrev rgX9_lastMany : Room := { frames := 1, cells := 0, slots := 0, locals := 21 }
abbrev pgX9_lastMany (z : Nat) (σ : hpMem) : Option Value → hpMem → Prop := fun r τ => (∃ x : Int, r = some (.int (hpI x)) ∧ (hpR x) ∧ (0 ≤ x ∧ x ≤ 700)) ∧ σ = τ
set_option maxHeartbeats 4000000 in
set_option maxRecDepth 20000 in
theorem tgX9_lastMany (l : Launch) (D : va_G) (cy : Nat → ClassId) (z : Nat) (σ : hpMem) (hI : hpInv σ) : hpM l D cy z yX9_lastMany cX9_lastMany 1 (some .int) rgX9_lastMany [.ref (z + 195)] σ (pgX9_lastMany z σ) := by
  refine hp_met rfl (Nat.le_of_ble_eq_true rfl) (fun p e s m below meth c C Z hr hlk => ?_)
  refine h_aload_n C dX9_lastMany_0 0 rfl rfl ?_
  refine h_aload_n C dX9_lastMany_1 0 rfl rfl ?_
  refine h_callV (As := []) (rest := [.ref (z + 195)]) C Z yyX9_days wd_1544 (tgX9_days l D cy z _ hI) kd_195 rfl rfl ⟨rfl, rfl, Nat.le_of_ble_eq_true rfl, Nat.le_of_ble_eq_true rfl⟩ ⟨Nat.le_of_ble_eq_true rfl, Nat.le_of_ble_eq_true rfl⟩ (Nat.le_of_ble_eq_true rfl) dX9_lastMany_2 (fun r1 τ1 hp1 => ?_)
  obtain ⟨⟨x1, rfl, ⟨hx1a, hx1b⟩, hx1⟩, rfl⟩ := hp1
  show hpV _ _ _ _ _ _ _ _ _ _ _ _ _ _ _ _ _ _ _ _ _ (_ :: _)
  refine h_callV (As := [.int (hpI x1)]) (rest := []) C Z yyX9_manyOf wd_1536 (tgX9_manyOf l D cy z _ x1 ⟨by omega, by omega⟩ hI (by omega)) kd_195 rfl rfl ⟨rfl, rfl, Nat.le_of_ble_eq_true rfl, Nat.le_of_ble_eq_true rfl⟩ ⟨Nat.le_of_ble_eq_true rfl, Nat.le_of_ble_eq_true rfl⟩ (Nat.le_of_ble_eq_true rfl) dX9_lastMany_5 (fun r2 τ2 hp2 => ?_)
  obtain ⟨⟨x2, rfl, ⟨hx2a, hx2b⟩, hx2⟩, rfl⟩ := hp2
  show hpV _ _ _ _ _ _ _ _ _ _ _ _ _ _ _ _ _ _ _ _ _ (_ :: _)
  refine h_ireturn C hr hlk dX9_lastMany_8 ?_
  exact ⟨⟨_, rfl, ⟨by omega, by omega⟩, by omega⟩, rfl⟩
abbrev rgX9_heaps : Room := { frames := 6, cells := 0, slots := 0, locals := 131 }
abbrev pgX9_heaps (z : Nat) (σ : hpMem) (a0 : Int) : Option Value → hpMem → Prop := fun r τ => (∃ x : Int, r = some (.int (hpI x)) ∧ (hpR x)) ∧ hpInv τ ∧ (∀ j i : Nat, (j < 195 ∨ j = 198 ∨ 213 ≤ j) → τ j i = σ j i)
set_option maxHeartbeats 4000000 in
set_option maxRecDepth 20000 in
theorem tgX9_heaps (l : Launch) (D : va_G) (cy : Nat → ClassId) (z : Nat) (σ : hpMem) (a0 : Int) (ha0 : hpR a0) (hI : hpInv σ) : hpM l D cy z yX9_heaps cX9_heaps 2 (some .int) rgX9_heaps [.ref (z + 195), .int (hpI a0)] σ (pgX9_heaps z σ a0) := by
  obtain ⟨ha01, ha02⟩ := ha0
  refine hp_met rfl (Nat.le_of_ble_eq_true rfl) (fun p e s m below meth c C Z hr hlk => ?_)
  have hF0 : ∀ j i : Nat, (j < 195 ∨ j = 198 ∨ 213 ≤ j) → σ j i = σ j i := fun j i _ => rfl
  refine h_aload_n C dX9_heaps_0 0 rfl rfl ?_
  refine h_iload_n C dX9_heaps_1 1 rfl rfl ?_
  refine h_callV (As := [.int (hpI a0)]) (rest := []) C Z yyX9_asksDay wd_1512 (tgX9_asksDay l D cy z _ a0 ⟨by omega, by omega⟩ hI) kd_195 rfl rfl ⟨rfl, rfl, Nat.le_of_ble_eq_true rfl, Nat.le_of_ble_eq_true rfl⟩ ⟨Nat.le_of_ble_eq_true rfl, Nat.le_of_ble_eq_true rfl⟩ (Nat.le_of_ble_eq_true rfl) dX9_heaps_2 (fun r1 τ1 hp1 => ?_)
  obtain ⟨x1, rfl, ⟨hx1a, hx1b⟩, hx1, hI1, hG1, hq1_0⟩ := hp1
  have hF1 : ∀ j i : Nat, (j < 195 ∨ j = 198 ∨ 213 ≤ j) → τ1 j i = σ j i := fun j i h_0 => (hG1 j i (by omega) (by omega) (by omega) (by omega) (by omega) (by omega)).trans (hF0 j i h_0)
  show hpV _ _ _ _ _ _ _ _ _ _ _ _ _ _ _ _ _ _ _ _ _ (_ :: _)
  refine h_if_eq (tgt := 16) C dX9_heaps_5 (by decide) ⟨by omega, by omega⟩ (fun h2 => ?_) (fun h2 => ?_)
  · refine h_bipush C dX9_heaps_16 (by decide) ?_
    refine h_ireturn C hr hlk dX9_heaps_18 ?_
    exact ⟨⟨_, rfl, ⟨by decide, by decide⟩⟩, hI1, hF1⟩
  · refine h_aload_n C dX9_heaps_8 0 rfl rfl ?_
    refine h_iload_n C dX9_heaps_9 1 rfl rfl ?_
    refine h_callV (As := [.int (hpI a0)]) (rest := []) C Z yyX9_manyOf wd_1536 (tgX9_manyOf l D cy z _ a0 ⟨by omega, by omega⟩ hI1 (by omega)) kd_195 rfl rfl ⟨rfl, rfl, Nat.le_of_ble_eq_true rfl, Nat.le_of_ble_eq_true rfl⟩ ⟨Nat.le_of_ble_eq_true rfl, Nat.le_of_ble_eq_true rfl⟩ (Nat.le_of_ble_eq_true rfl) dX9_heaps_10 (fun r3 τ3 hp3 => ?_)
    obtain ⟨⟨x3, rfl, ⟨hx3a, hx3b⟩, hx3⟩, rfl⟩ := hp3
    show hpV _ _ _ _ _ _ _ _ _ _ _ _ _ _ _ _ _ _ _ _ _ (_ :: _)
    refine h_goto (tgt := 18) C dX9_heaps_13 (by decide) ?_
    refine h_ireturn C hr hlk dX9_heaps_18 ?_
    exact ⟨⟨_, rfl, ⟨by omega, by omega⟩⟩, hI1, hF1⟩
abbrev rgX9_heap : Room := { frames := 6, cells := 0, slots := 0, locals := 131 }
abbrev pgX9_heap (z : Nat) (σ : hpMem) (a0 : Int) (a1 : Int) : Option Value → hpMem → Prop := fun r τ => (∃ x : Int, r = some (.int (hpI x)) ∧ (hpR x)) ∧ hpInv τ ∧ (∀ j i : Nat, (j < 195 ∨ j = 198 ∨ 213 ≤ j) → τ j i = σ j i)
set_option maxHeartbeats 4000000 in
set_option maxRecDepth 20000 in
theorem tgX9_heap (l : Launch) (D : va_G) (cy : Nat → ClassId) (z : Nat) (σ : hpMem) (a0 : Int) (ha0 : hpR a0) (a1 : Int) (ha1 : hpR a1) (hI : hpInv σ) : hpM l D cy z yX9_heap cX9_heap 3 (some .int) rgX9_heap [.ref (z + 195), .int (hpI a0), .int (hpI a1)] σ (pgX9_heap z σ a0 a1) := by
  obtain ⟨ha01, ha02⟩ := ha0
  obtain ⟨ha11, ha12⟩ := ha1
  refine hp_met rfl (Nat.le_of_ble_eq_true rfl) (fun p e s m below meth c C Z hr hlk => ?_)
  have hF0 : ∀ j i : Nat, (j < 195 ∨ j = 198 ∨ 213 ≤ j) → σ j i = σ j i := fun j i _ => rfl
  refine h_aload_n C dX9_heap_0 0 rfl rfl ?_
  refine h_iload_n C dX9_heap_1 1 rfl rfl ?_
  refine h_callV (As := [.int (hpI a0)]) (rest := []) C Z yyX9_asksDay wd_1512 (tgX9_asksDay l D cy z _ a0 ⟨by omega, by omega⟩ hI) kd_195 rfl rfl ⟨rfl, rfl, Nat.le_of_ble_eq_true rfl, Nat.le_of_ble_eq_true rfl⟩ ⟨Nat.le_of_ble_eq_true rfl, Nat.le_of_ble_eq_true rfl⟩ (Nat.le_of_ble_eq_true rfl) dX9_heap_2 (fun r1 τ1 hp1 => ?_)
  obtain ⟨x1, rfl, ⟨hx1a, hx1b⟩, hx1, hI1, hG1, hq1_0⟩ := hp1
  have hF1 : ∀ j i : Nat, (j < 195 ∨ j = 198 ∨ 213 ≤ j) → τ1 j i = σ j i := fun j i h_0 => (hG1 j i (by omega) (by omega) (by omega) (by omega) (by omega) (by omega)).trans (hF0 j i h_0)
  show hpV _ _ _ _ _ _ _ _ _ _ _ _ _ _ _ _ _ _ _ _ _ (_ :: _)
  refine h_if_eq (tgt := 12) C dX9_heap_5 (by decide) ⟨by omega, by omega⟩ (fun h2 => ?_) (fun h2 => ?_)
  · refine h_bipush C dX9_heap_12 (by decide) ?_
    refine h_ireturn C hr hlk dX9_heap_14 ?_
    exact ⟨⟨_, rfl, ⟨by decide, by decide⟩⟩, hI1, hF1⟩
  · refine h_iload_n C dX9_heap_8 2 rfl rfl ?_
    refine h_if_ge (tgt := 15) C dX9_heap_9 (by decide) ⟨by omega, by omega⟩ (fun h3 => ?_) (fun h3 => ?_)
    · refine h_iload_n C dX9_heap_15 2 rfl rfl ?_
      refine h_aload_n C dX9_heap_16 0 rfl rfl ?_
      refine h_iload_n C dX9_heap_17 1 rfl rfl ?_
      refine h_callV (As := [.int (hpI a0)]) (rest := [.int (hpI a1)]) C Z yyX9_manyOf wd_1536 (tgX9_manyOf l D cy z _ a0 ⟨by omega, by omega⟩ hI1 (by omega)) kd_195 rfl rfl ⟨rfl, rfl, Nat.le_of_ble_eq_true rfl, Nat.le_of_ble_eq_true rfl⟩ ⟨Nat.le_of_ble_eq_true rfl, Nat.le_of_ble_eq_true rfl⟩ (Nat.le_of_ble_eq_true rfl) dX9_heap_18 (fun r4 τ4 hp4 => ?_)
      obtain ⟨⟨x4, rfl, ⟨hx4a, hx4b⟩, hx4⟩, rfl⟩ := hp4
      show hpV _ _ _ _ _ _ _ _ _ _ _ _ _ _ _ _ _ _ _ _ _ (_ :: _)
      refine h_icmp_ge (tgt := 33) C dX9_heap_21 (by decide) ⟨by omega, by omega⟩ ⟨by omega, by omega⟩ (fun h5 => ?_) (fun h5 => ?_)
      · refine h_iconst C dX9_heap_33 ?_
        refine h_ireturn C hr hlk dX9_heap_34 ?_
        exact ⟨⟨_, rfl, ⟨by decide, by decide⟩⟩, hI1, hF1⟩
      · refine h_aload_n C dX9_heap_24 0 rfl rfl ?_
        refine h_iload_n C dX9_heap_25 1 rfl rfl ?_
        refine h_iload_n C dX9_heap_26 2 rfl rfl ?_
        refine h_callV (As := [.int (hpI a0), .int (hpI a1)]) (rest := []) C Z yyX9_heightOf wd_1540 (tgX9_heightOf l D cy z _ a0 ⟨by omega, by omega⟩ a1 ⟨by omega, by omega⟩ hI1 (by omega) (by omega)) kd_195 rfl rfl ⟨rfl, rfl, Nat.le_of_ble_eq_true rfl, Nat.le_of_ble_eq_true rfl⟩ ⟨Nat.le_of_ble_eq_true rfl, Nat.le_of_ble_eq_true rfl⟩ (Nat.le_of_ble_eq_true rfl) dX9_heap_27 (fun r6 τ6 hp6 => ?_)
        obtain ⟨⟨x6, rfl, ⟨hx6a, hx6b⟩, hx6⟩, rfl⟩ := hp6
        show hpV _ _ _ _ _ _ _ _ _ _ _ _ _ _ _ _ _ _ _ _ _ (_ :: _)
        refine h_goto (tgt := 34) C dX9_heap_30 (by decide) ?_
        refine h_ireturn C hr hlk dX9_heap_34 ?_
        exact ⟨⟨_, rfl, ⟨by omega, by omega⟩⟩, hI1, hF1⟩
    · refine h_bipush C dX9_heap_12 (by decide) ?_
      refine h_ireturn C hr hlk dX9_heap_14 ?_
      exact ⟨⟨_, rfl, ⟨by decide, by decide⟩⟩, hI1, hF1⟩
abbrev rgX9_all : Room := { frames := 6, cells := 0, slots := 0, locals := 131 }
abbrev pgX9_all (z : Nat) (σ : hpMem) (a0 : Int) : Option Value → hpMem → Prop := fun r τ => (∃ x : Int, r = some (.int (hpI x)) ∧ (hpR x)) ∧ hpInv τ ∧ (∀ j i : Nat, (j < 195 ∨ j = 198 ∨ 213 ≤ j) → τ j i = σ j i)
set_option maxHeartbeats 4000000 in
set_option maxRecDepth 20000 in
theorem tgX9_all (l : Launch) (D : va_G) (cy : Nat → ClassId) (z : Nat) (σ : hpMem) (a0 : Int) (ha0 : hpR a0) (hI : hpInv σ) : hpM l D cy z yX9_all cX9_all 2 (some .int) rgX9_all [.ref (z + 195), .int (hpI a0)] σ (pgX9_all z σ a0) := by
  obtain ⟨ha01, ha02⟩ := ha0
  refine hp_met rfl (Nat.le_of_ble_eq_true rfl) (fun p e s m below meth c C Z hr hlk => ?_)
  have hF0 : ∀ j i : Nat, (j < 195 ∨ j = 198 ∨ 213 ≤ j) → σ j i = σ j i := fun j i _ => rfl
  refine h_aload_n C dX9_all_0 0 rfl rfl ?_
  refine h_iload_n C dX9_all_1 1 rfl rfl ?_
  refine h_callV (As := [.int (hpI a0)]) (rest := []) C Z yyX9_asksDay wd_1512 (tgX9_asksDay l D cy z _ a0 ⟨by omega, by omega⟩ hI) kd_195 rfl rfl ⟨rfl, rfl, Nat.le_of_ble_eq_true rfl, Nat.le_of_ble_eq_true rfl⟩ ⟨Nat.le_of_ble_eq_true rfl, Nat.le_of_ble_eq_true rfl⟩ (Nat.le_of_ble_eq_true rfl) dX9_all_2 (fun r1 τ1 hp1 => ?_)
  obtain ⟨x1, rfl, ⟨hx1a, hx1b⟩, hx1, hI1, hG1, hq1_0⟩ := hp1
  have hF1 : ∀ j i : Nat, (j < 195 ∨ j = 198 ∨ 213 ≤ j) → τ1 j i = σ j i := fun j i h_0 => (hG1 j i (by omega) (by omega) (by omega) (by omega) (by omega) (by omega)).trans (hF0 j i h_0)
  show hpV _ _ _ _ _ _ _ _ _ _ _ _ _ _ _ _ _ _ _ _ _ (_ :: _)
  refine h_if_eq (tgt := 16) C dX9_all_5 (by decide) ⟨by omega, by omega⟩ (fun h2 => ?_) (fun h2 => ?_)
  · refine h_bipush C dX9_all_16 (by decide) ?_
    refine h_ireturn C hr hlk dX9_all_18 ?_
    exact ⟨⟨_, rfl, ⟨by decide, by decide⟩⟩, hI1, hF1⟩
  · refine h_aload_n C dX9_all_8 0 rfl rfl ?_
    refine h_iload_n C dX9_all_9 1 rfl rfl ?_
    refine h_callV (As := [.int (hpI a0)]) (rest := []) C Z yyX9_turfsOf wd_1587 (tgX9_turfsOf l D cy z _ a0 ⟨by omega, by omega⟩ hI1 (by omega)) kd_195 rfl rfl ⟨rfl, rfl, Nat.le_of_ble_eq_true rfl, Nat.le_of_ble_eq_true rfl⟩ ⟨Nat.le_of_ble_eq_true rfl, Nat.le_of_ble_eq_true rfl⟩ (Nat.le_of_ble_eq_true rfl) dX9_all_10 (fun r3 τ3 hp3 => ?_)
    obtain ⟨⟨x3, rfl, ⟨hx3a, hx3b⟩⟩, rfl⟩ := hp3
    show hpV _ _ _ _ _ _ _ _ _ _ _ _ _ _ _ _ _ _ _ _ _ (_ :: _)
    refine h_goto (tgt := 18) C dX9_all_13 (by decide) ?_
    refine h_ireturn C hr hlk dX9_all_18 ?_
    exact ⟨⟨_, rfl, ⟨by omega, by omega⟩⟩, hI1, hF1⟩
abbrev rgX9_many : Room := { frames := 6, cells := 0, slots := 0, locals := 131 }
abbrev pgX9_many (z : Nat) (σ : hpMem) (a0 : Int) (a1 : Int) : Option Value → hpMem → Prop := fun r τ => (∃ x : Int, r = some (.int (hpI x)) ∧ (hpR x)) ∧ hpInv τ ∧ (∀ j i : Nat, (j < 195 ∨ j = 198 ∨ 213 ≤ j) → τ j i = σ j i)
set_option maxHeartbeats 4000000 in
set_option maxRecDepth 20000 in
theorem tgX9_many (l : Launch) (D : va_G) (cy : Nat → ClassId) (z : Nat) (σ : hpMem) (a0 : Int) (ha0 : hpR a0) (a1 : Int) (ha1 : hpR a1) (hI : hpInv σ) : hpM l D cy z yX9_many cX9_many 5 (some .int) rgX9_many [.ref (z + 195), .int (hpI a0), .int (hpI a1)] σ (pgX9_many z σ a0 a1) := by
  obtain ⟨ha01, ha02⟩ := ha0
  obtain ⟨ha11, ha12⟩ := ha1
  refine hp_met rfl (Nat.le_of_ble_eq_true rfl) (fun p e s m below meth c C Z hr hlk => ?_)
  have hF0 : ∀ j i : Nat, (j < 195 ∨ j = 198 ∨ 213 ≤ j) → σ j i = σ j i := fun j i _ => rfl
  refine h_aload_n C dX9_many_0 0 rfl rfl ?_
  refine h_iload_n C dX9_many_1 1 rfl rfl ?_
  refine h_callV (As := [.int (hpI a0)]) (rest := []) C Z yyX9_asksDay wd_1512 (tgX9_asksDay l D cy z _ a0 ⟨by omega, by omega⟩ hI) kd_195 rfl rfl ⟨rfl, rfl, Nat.le_of_ble_eq_true rfl, Nat.le_of_ble_eq_true rfl⟩ ⟨Nat.le_of_ble_eq_true rfl, Nat.le_of_ble_eq_true rfl⟩ (Nat.le_of_ble_eq_true rfl) dX9_many_2 (fun r1 τ1 hp1 => ?_)
  obtain ⟨x1, rfl, ⟨hx1a, hx1b⟩, hx1, hI1, hG1, hq1_0⟩ := hp1
  have hF1 : ∀ j i : Nat, (j < 195 ∨ j = 198 ∨ 213 ≤ j) → τ1 j i = σ j i := fun j i h_0 => (hG1 j i (by omega) (by omega) (by omega) (by omega) (by omega) (by omega)).trans (hF0 j i h_0)
  show hpV _ _ _ _ _ _ _ _ _ _ _ _ _ _ _ _ _ _ _ _ _ (_ :: _)
  refine h_if_eq (tgt := 20) C dX9_many_5 (by decide) ⟨by omega, by omega⟩ (fun h2 => ?_) (fun h2 => ?_)
  · refine h_bipush C dX9_many_20 (by decide) ?_
    refine h_ireturn C hr hlk dX9_many_22 ?_
    exact ⟨⟨_, rfl, ⟨by decide, by decide⟩⟩, hI1, hF1⟩
  · refine h_iload_n C dX9_many_8 2 rfl rfl ?_
    refine h_i2l C dX9_many_9 ⟨by omega, by omega⟩ ?_
    refine h_lconst C 1 dX9_many_10 (by decide) ?_
    refine h_ldc2 C 700 wd_1595 (by decide) dX9_many_11 ?_
    refine h_callS (As := [.long (hpJ a1), .long (hpJ 1), .long (hpJ 700)]) (rest := []) C Z yyX9_in rfl wd_1401 (tgX9_in l D cy z _ a1 ⟨by omega, by omega⟩ 1 ⟨by decide, by decide⟩ 700 ⟨by decide, by decide⟩ hI1) rfl rfl ⟨rfl, rfl, Nat.le_of_ble_eq_true rfl, Nat.le_of_ble_eq_true rfl⟩ ⟨Nat.le_of_ble_eq_true rfl, Nat.le_of_ble_eq_true rfl⟩ (Nat.le_of_ble_eq_true rfl) dX9_many_14 (fun r3 τ3 hp3 => ?_)
    obtain ⟨⟨x3, rfl, ⟨hx3a, hx3b⟩, hx3⟩, rfl⟩ := hp3
    show hpV _ _ _ _ _ _ _ _ _ _ _ _ _ _ _ _ _ _ _ _ _ (_ :: _)
    refine h_if_ne (tgt := 23) C dX9_many_17 (by decide) ⟨by omega, by omega⟩ (fun h4 => ?_) (fun h4 => ?_)
    · refine h_iconst C dX9_many_23 ?_
      refine h_istore_n (lv' := [(3, .int (hpI 0)), (0, .ref (z + 195)), (1, .int (hpI a0)), (2, .int (hpI a1))]) C dX9_many_24 rfl (by decide) rfl ?_
      refine h_iconst C dX9_many_25 ?_
      refine h_istore (lv' := [(4, .int (hpI 0)), (3, .int (hpI 0)), (0, .ref (z + 195)), (1, .int (hpI a0)), (2, .int (hpI a1))]) C dX9_many_26 (by decide) rfl ?_
      have L5 : ∀ (n5 : Nat) (w5_3 : Int) (w5_4 : Int), -2147483648 ≤ w5_3 → w5_3 ≤ 2147483647 → 0 ≤ w5_4 → w5_4 ≤ 2147483647 → (4294967296 - w5_4) < (n5 : Int) → hpF p l e rgX9_many s m [.ref (z + 195), .int (hpI a0), .int (hpI a1)] below meth c 5 D cy z (pgX9_many z σ a0 a1) τ1 28 [(0, .ref (z + 195)), (1, .int (hpI a0)), (2, .int (hpI a1)), (3, .int (hpI w5_3)), (4, .int (hpI w5_4))] [] := by
        intro n5
        induction n5 with
        | zero => intro w5_3 w5_4 hv5_0 hv5_1 hv5_2 hv5_3 hm5; exfalso; omega
        | succ n5 ih5 =>
          intro w5_3 w5_4 hv5_0 hv5_1 hv5_2 hv5_3 hm5
          refine h_iload C dX9_many_28 4 rfl ?_
          refine h_aload_n C dX9_many_30 0 rfl rfl ?_
          refine h_iload_n C dX9_many_31 1 rfl rfl ?_
          refine h_callV (As := [.int (hpI a0)]) (rest := [.int (hpI w5_4)]) C Z yyX9_manyOf wd_1536 (tgX9_manyOf l D cy z _ a0 ⟨by omega, by omega⟩ hI1 (by omega)) kd_195 rfl rfl ⟨rfl, rfl, Nat.le_of_ble_eq_true rfl, Nat.le_of_ble_eq_true rfl⟩ ⟨Nat.le_of_ble_eq_true rfl, Nat.le_of_ble_eq_true rfl⟩ (Nat.le_of_ble_eq_true rfl) dX9_many_32 (fun r6 τ6 hp6 => ?_)
          obtain ⟨⟨x6, rfl, ⟨hx6a, hx6b⟩, hx6⟩, rfl⟩ := hp6
          show hpV _ _ _ _ _ _ _ _ _ _ _ _ _ _ _ _ _ _ _ _ _ (_ :: _)
          refine h_icmp_ge (tgt := 63) C dX9_many_35 (by decide) ⟨by omega, by omega⟩ ⟨by omega, by omega⟩ (fun h7 => ?_) (fun h7 => ?_)
          · refine h_iload_n C dX9_many_63 3 rfl rfl ?_
            refine h_ireturn C hr hlk dX9_many_64 ?_
            exact ⟨⟨_, rfl, ⟨by omega, by omega⟩⟩, hI1, hF1⟩
          · refine h_iload_n C dX9_many_38 3 rfl rfl ?_
            refine h_aload_n C dX9_many_39 0 rfl rfl ?_
            refine h_iload_n C dX9_many_40 1 rfl rfl ?_
            refine h_iload C dX9_many_41 4 rfl ?_
            refine h_callV (As := [.int (hpI a0), .int (hpI w5_4)]) (rest := [.int (hpI w5_3)]) C Z yyX9_heightOf wd_1540 (tgX9_heightOf l D cy z _ a0 ⟨by omega, by omega⟩ w5_4 ⟨by omega, by omega⟩ hI1 (by omega) (by omega)) kd_195 rfl rfl ⟨rfl, rfl, Nat.le_of_ble_eq_true rfl, Nat.le_of_ble_eq_true rfl⟩ ⟨Nat.le_of_ble_eq_true rfl, Nat.le_of_ble_eq_true rfl⟩ (Nat.le_of_ble_eq_true rfl) dX9_many_43 (fun r8 τ8 hp8 => ?_)
            obtain ⟨⟨x8, rfl, ⟨hx8a, hx8b⟩, hx8⟩, rfl⟩ := hp8
            show hpV _ _ _ _ _ _ _ _ _ _ _ _ _ _ _ _ _ _ _ _ _ (_ :: _)
            refine h_iload_n C dX9_many_46 2 rfl rfl ?_
            refine h_icmp_ne (tgt := 54) C dX9_many_47 (by decide) ⟨by omega, by omega⟩ ⟨by omega, by omega⟩ (fun h9 => ?_) (fun h9 => ?_)
            · refine h_iconst C dX9_many_54 ?_
              refine h_iadd C dX9_many_55 rfl ?_
              refine h_istore_n (lv' := [(3, .int (hpI (w5_3 + 0))), (0, .ref (z + 195)), (1, .int (hpI a0)), (2, .int (hpI a1)), (4, .int (hpI w5_4))]) C dX9_many_56 rfl (by decide) rfl ?_
              refine h_iinc (lv' := [(4, .int (hpI (w5_4 + 1))), (3, .int (hpI (w5_3 + 0))), (0, .ref (z + 195)), (1, .int (hpI a0)), (2, .int (hpI a1))]) C dX9_many_57 4 rfl rfl (by decide) rfl ?_
              refine h_goto (tgt := 28) C dX9_many_60 (by decide) ?_
              exact hp_sub [2, 3, 4, 1, 0] rfl (ih5 (w5_3 + 0) (w5_4 + 1) (by omega) (by omega) (by omega) (by omega) (by omega))
            · refine h_iconst C dX9_many_50 ?_
              refine h_goto (tgt := 55) C dX9_many_51 (by decide) ?_
              refine h_iadd C dX9_many_55 rfl ?_
              refine hp_anyI (fun r10 hr10 => ?_)
              obtain ⟨hr10a, hr10b⟩ := hr10
              refine h_istore_n (lv' := [(3, .int (hpI r10)), (0, .ref (z + 195)), (1, .int (hpI a0)), (2, .int (hpI a1)), (4, .int (hpI w5_4))]) C dX9_many_56 rfl (by decide) rfl ?_
              refine h_iinc (lv' := [(4, .int (hpI (w5_4 + 1))), (3, .int (hpI r10)), (0, .ref (z + 195)), (1, .int (hpI a0)), (2, .int (hpI a1))]) C dX9_many_57 4 rfl rfl (by decide) rfl ?_
              refine h_goto (tgt := 28) C dX9_many_60 (by decide) ?_
              exact hp_sub [2, 3, 4, 1, 0] rfl (ih5 r10 (w5_4 + 1) (by omega) (by omega) (by omega) (by omega) (by omega))
      exact hp_sub [2, 3, 4, 1, 0] rfl (L5 8589934592 0 0 (by omega) (by omega) (by omega) (by omega) (by omega))
    · refine h_bipush C dX9_many_20 (by decide) ?_
      refine h_ireturn C hr hlk dX9_many_22 ?_
      exact ⟨⟨_, rfl, ⟨by decide, by decide⟩⟩, hI1, hF1⟩
abbrev rgX9_odd : Room := { frames := 6, cells := 0, slots := 0, locals := 131 }
abbrev pgX9_odd (z : Nat) (σ : hpMem) (a0 : Int) : Option Value → hpMem → Prop := fun r τ => (∃ x : Int, r = some (.int (hpI x)) ∧ (hpR x)) ∧ hpInv τ ∧ (∀ j i : Nat, (j < 195 ∨ j = 198 ∨ 213 ≤ j) → τ j i = σ j i)
set_option maxHeartbeats 4000000 in
set_option maxRecDepth 20000 in
theorem tgX9_odd (l : Launch) (D : va_G) (cy : Nat → ClassId) (z : Nat) (σ : hpMem) (a0 : Int) (ha0 : hpR a0) (hI : hpInv σ) : hpM l D cy z yX9_odd cX9_odd 4 (some .int) rgX9_odd [.ref (z + 195), .int (hpI a0)] σ (pgX9_odd z σ a0) := by
  obtain ⟨ha01, ha02⟩ := ha0
  refine hp_met rfl (Nat.le_of_ble_eq_true rfl) (fun p e s m below meth c C Z hr hlk => ?_)
  have hF0 : ∀ j i : Nat, (j < 195 ∨ j = 198 ∨ 213 ≤ j) → σ j i = σ j i := fun j i _ => rfl
  refine h_aload_n C dX9_odd_0 0 rfl rfl ?_
  refine h_iload_n C dX9_odd_1 1 rfl rfl ?_
  refine h_callV (As := [.int (hpI a0)]) (rest := []) C Z yyX9_asksDay wd_1512 (tgX9_asksDay l D cy z _ a0 ⟨by omega, by omega⟩ hI) kd_195 rfl rfl ⟨rfl, rfl, Nat.le_of_ble_eq_true rfl, Nat.le_of_ble_eq_true rfl⟩ ⟨Nat.le_of_ble_eq_true rfl, Nat.le_of_ble_eq_true rfl⟩ (Nat.le_of_ble_eq_true rfl) dX9_odd_2 (fun r1 τ1 hp1 => ?_)
  obtain ⟨x1, rfl, ⟨hx1a, hx1b⟩, hx1, hI1, hG1, hq1_0⟩ := hp1
  have hF1 : ∀ j i : Nat, (j < 195 ∨ j = 198 ∨ 213 ≤ j) → τ1 j i = σ j i := fun j i h_0 => (hG1 j i (by omega) (by omega) (by omega) (by omega) (by omega) (by omega)).trans (hF0 j i h_0)
  show hpV _ _ _ _ _ _ _ _ _ _ _ _ _ _ _ _ _ _ _ _ _ (_ :: _)
  refine h_if_ne (tgt := 11) C dX9_odd_5 (by decide) ⟨by omega, by omega⟩ (fun h2 => ?_) (fun h2 => ?_)
  · refine h_iconst C dX9_odd_11 ?_
    refine h_istore_n (lv' := [(2, .int (hpI 0)), (0, .ref (z + 195)), (1, .int (hpI a0))]) C dX9_odd_12 rfl (by decide) rfl ?_
    refine h_iconst C dX9_odd_13 ?_
    refine h_istore_n (lv' := [(3, .int (hpI 0)), (2, .int (hpI 0)), (0, .ref (z + 195)), (1, .int (hpI a0))]) C dX9_odd_14 rfl (by decide) rfl ?_
    have L3 : ∀ (n3 : Nat) (w3_2 : Int) (w3_3 : Int), -2147483648 ≤ w3_2 → w3_2 ≤ 2147483647 → 0 ≤ w3_3 → w3_3 ≤ 2147483647 → (4294967296 - w3_3) < (n3 : Int) → hpF p l e rgX9_odd s m [.ref (z + 195), .int (hpI a0)] below meth c 4 D cy z (pgX9_odd z σ a0) τ1 15 [(0, .ref (z + 195)), (1, .int (hpI a0)), (2, .int (hpI w3_2)), (3, .int (hpI w3_3))] [] := by
      intro n3
      induction n3 with
      | zero => intro w3_2 w3_3 hv3_0 hv3_1 hv3_2 hv3_3 hm3; exfalso; omega
      | succ n3 ih3 =>
        intro w3_2 w3_3 hv3_0 hv3_1 hv3_2 hv3_3 hm3
        refine h_iload_n C dX9_odd_15 3 rfl rfl ?_
        refine h_aload_n C dX9_odd_16 0 rfl rfl ?_
        refine h_iload_n C dX9_odd_17 1 rfl rfl ?_
        refine h_callV (As := [.int (hpI a0)]) (rest := [.int (hpI w3_3)]) C Z yyX9_manyOf wd_1536 (tgX9_manyOf l D cy z _ a0 ⟨by omega, by omega⟩ hI1 (by omega)) kd_195 rfl rfl ⟨rfl, rfl, Nat.le_of_ble_eq_true rfl, Nat.le_of_ble_eq_true rfl⟩ ⟨Nat.le_of_ble_eq_true rfl, Nat.le_of_ble_eq_true rfl⟩ (Nat.le_of_ble_eq_true rfl) dX9_odd_18 (fun r4 τ4 hp4 => ?_)
        obtain ⟨⟨x4, rfl, ⟨hx4a, hx4b⟩, hx4⟩, rfl⟩ := hp4
        show hpV _ _ _ _ _ _ _ _ _ _ _ _ _ _ _ _ _ _ _ _ _ (_ :: _)
        refine h_icmp_ge (tgt := 41) C dX9_odd_21 (by decide) ⟨by omega, by omega⟩ ⟨by omega, by omega⟩ (fun h5 => ?_) (fun h5 => ?_)
        · refine h_iload_n C dX9_odd_41 2 rfl rfl ?_
          refine h_ireturn C hr hlk dX9_odd_42 ?_
          exact ⟨⟨_, rfl, ⟨by omega, by omega⟩⟩, hI1, hF1⟩
        · refine h_iload_n C dX9_odd_24 2 rfl rfl ?_
          refine h_aload_n C dX9_odd_25 0 rfl rfl ?_
          refine h_iload_n C dX9_odd_26 1 rfl rfl ?_
          refine h_iload_n C dX9_odd_27 3 rfl rfl ?_
          refine h_callV (As := [.int (hpI a0), .int (hpI w3_3)]) (rest := [.int (hpI w3_2)]) C Z yyX9_heightOf wd_1540 (tgX9_heightOf l D cy z _ a0 ⟨by omega, by omega⟩ w3_3 ⟨by omega, by omega⟩ hI1 (by omega) (by omega)) kd_195 rfl rfl ⟨rfl, rfl, Nat.le_of_ble_eq_true rfl, Nat.le_of_ble_eq_true rfl⟩ ⟨Nat.le_of_ble_eq_true rfl, Nat.le_of_ble_eq_true rfl⟩ (Nat.le_of_ble_eq_true rfl) dX9_odd_28 (fun r6 τ6 hp6 => ?_)
          obtain ⟨⟨x6, rfl, ⟨hx6a, hx6b⟩, hx6⟩, rfl⟩ := hp6
          show hpV _ _ _ _ _ _ _ _ _ _ _ _ _ _ _ _ _ _ _ _ _ (_ :: _)
          refine h_iconst C dX9_odd_31 ?_
          refine h_irem_any C dX9_odd_32 ⟨by omega, by omega⟩ (by omega) (fun _ => ?_)
          refine hp_anyI (fun r7 hr7 => ?_)
          obtain ⟨hr7a, hr7b⟩ := hr7
          refine h_iadd C dX9_odd_33 rfl ?_
          refine hp_anyI (fun r8 hr8 => ?_)
          obtain ⟨hr8a, hr8b⟩ := hr8
          refine h_istore_n (lv' := [(2, .int (hpI r8)), (0, .ref (z + 195)), (1, .int (hpI a0)), (3, .int (hpI w3_3))]) C dX9_odd_34 rfl (by decide) rfl ?_
          refine h_iinc (lv' := [(3, .int (hpI (w3_3 + 1))), (2, .int (hpI r8)), (0, .ref (z + 195)), (1, .int (hpI a0))]) C dX9_odd_35 3 rfl rfl (by decide) rfl ?_
          refine h_goto (tgt := 15) C dX9_odd_38 (by decide) ?_
          exact hp_sub [2, 3, 1, 0] rfl (ih3 r8 (w3_3 + 1) (by omega) (by omega) (by omega) (by omega) (by omega))
    exact hp_sub [2, 3, 1, 0] rfl (L3 8589934592 0 0 (by omega) (by omega) (by omega) (by omega) (by omega))
  · refine h_bipush C dX9_odd_8 (by decide) ?_
    refine h_ireturn C hr hlk dX9_odd_10 ?_
    exact ⟨⟨_, rfl, ⟨by decide, by decide⟩⟩, hI1, hF1⟩
abbrev rgX9_sorts : Room := { frames := 6, cells := 0, slots := 0, locals := 131 }
abbrev pgX9_sorts (z : Nat) (σ : hpMem) (a0 : Int) : Option Value → hpMem → Prop := fun r τ => (∃ x : Int, r = some (.int (hpI x)) ∧ (hpR x)) ∧ hpInv τ ∧ (∀ j i : Nat, (j < 195 ∨ j = 198 ∨ 213 ≤ j) → τ j i = σ j i)
set_option maxHeartbeats 4000000 in
set_option maxRecDepth 20000 in
theorem tgX9_sorts (l : Launch) (D : va_G) (cy : Nat → ClassId) (z : Nat) (σ : hpMem) (a0 : Int) (ha0 : hpR a0) (hI : hpInv σ) : hpM l D cy z yX9_sorts cX9_sorts 4 (some .int) rgX9_sorts [.ref (z + 195), .int (hpI a0)] σ (pgX9_sorts z σ a0) := by
  obtain ⟨ha01, ha02⟩ := ha0
  refine hp_met rfl (Nat.le_of_ble_eq_true rfl) (fun p e s m below meth c C Z hr hlk => ?_)
  have hF0 : ∀ j i : Nat, (j < 195 ∨ j = 198 ∨ 213 ≤ j) → σ j i = σ j i := fun j i _ => rfl
  refine h_aload_n C dX9_sorts_0 0 rfl rfl ?_
  refine h_iload_n C dX9_sorts_1 1 rfl rfl ?_
  refine h_callV (As := [.int (hpI a0)]) (rest := []) C Z yyX9_asksDay wd_1512 (tgX9_asksDay l D cy z _ a0 ⟨by omega, by omega⟩ hI) kd_195 rfl rfl ⟨rfl, rfl, Nat.le_of_ble_eq_true rfl, Nat.le_of_ble_eq_true rfl⟩ ⟨Nat.le_of_ble_eq_true rfl, Nat.le_of_ble_eq_true rfl⟩ (Nat.le_of_ble_eq_true rfl) dX9_sorts_2 (fun r1 τ1 hp1 => ?_)
  obtain ⟨x1, rfl, ⟨hx1a, hx1b⟩, hx1, hI1, hG1, hq1_0⟩ := hp1
  have hF1 : ∀ j i : Nat, (j < 195 ∨ j = 198 ∨ 213 ≤ j) → τ1 j i = σ j i := fun j i h_0 => (hG1 j i (by omega) (by omega) (by omega) (by omega) (by omega) (by omega)).trans (hF0 j i h_0)
  show hpV _ _ _ _ _ _ _ _ _ _ _ _ _ _ _ _ _ _ _ _ _ (_ :: _)
  refine h_if_ne (tgt := 11) C dX9_sorts_5 (by decide) ⟨by omega, by omega⟩ (fun h2 => ?_) (fun h2 => ?_)
  · refine h_iconst C dX9_sorts_11 ?_
    refine h_istore_n (lv' := [(2, .int (hpI 0)), (0, .ref (z + 195)), (1, .int (hpI a0))]) C dX9_sorts_12 rfl (by decide) rfl ?_
    refine h_iconst C dX9_sorts_13 ?_
    refine h_istore_n (lv' := [(3, .int (hpI 0)), (2, .int (hpI 0)), (0, .ref (z + 195)), (1, .int (hpI a0))]) C dX9_sorts_14 rfl (by decide) rfl ?_
    have L3 : ∀ (n3 : Nat) (w3_2 : Int) (w3_3 : Int), -2147483648 ≤ w3_2 → w3_2 ≤ 2147483647 → 0 ≤ w3_3 → w3_3 ≤ 2147483647 → (4294967296 - w3_3) < (n3 : Int) → hpF p l e rgX9_sorts s m [.ref (z + 195), .int (hpI a0)] below meth c 4 D cy z (pgX9_sorts z σ a0) τ1 15 [(0, .ref (z + 195)), (1, .int (hpI a0)), (2, .int (hpI w3_2)), (3, .int (hpI w3_3))] [] := by
      intro n3
      induction n3 with
      | zero => intro w3_2 w3_3 hv3_0 hv3_1 hv3_2 hv3_3 hm3; exfalso; omega
      | succ n3 ih3 =>
        intro w3_2 w3_3 hv3_0 hv3_1 hv3_2 hv3_3 hm3
        refine h_iload_n C dX9_sorts_15 3 rfl rfl ?_
        refine h_aload_n C dX9_sorts_16 0 rfl rfl ?_
        refine h_iload_n C dX9_sorts_17 1 rfl rfl ?_
        refine h_callV (As := [.int (hpI a0)]) (rest := [.int (hpI w3_3)]) C Z yyX9_manyOf wd_1536 (tgX9_manyOf l D cy z _ a0 ⟨by omega, by omega⟩ hI1 (by omega)) kd_195 rfl rfl ⟨rfl, rfl, Nat.le_of_ble_eq_true rfl, Nat.le_of_ble_eq_true rfl⟩ ⟨Nat.le_of_ble_eq_true rfl, Nat.le_of_ble_eq_true rfl⟩ (Nat.le_of_ble_eq_true rfl) dX9_sorts_18 (fun r4 τ4 hp4 => ?_)
        obtain ⟨⟨x4, rfl, ⟨hx4a, hx4b⟩, hx4⟩, rfl⟩ := hp4
        show hpV _ _ _ _ _ _ _ _ _ _ _ _ _ _ _ _ _ _ _ _ _ (_ :: _)
        refine h_icmp_ge (tgt := 59) C dX9_sorts_21 (by decide) ⟨by omega, by omega⟩ ⟨by omega, by omega⟩ (fun h5 => ?_) (fun h5 => ?_)
        · refine h_iload_n C dX9_sorts_59 2 rfl rfl ?_
          refine h_ireturn C hr hlk dX9_sorts_60 ?_
          exact ⟨⟨_, rfl, ⟨by omega, by omega⟩⟩, hI1, hF1⟩
        · refine h_iload_n C dX9_sorts_24 2 rfl rfl ?_
          refine h_iload_n C dX9_sorts_25 3 rfl rfl ?_
          refine h_if_eq (tgt := 46) C dX9_sorts_26 (by decide) ⟨by omega, by omega⟩ (fun h6 => ?_) (fun h6 => ?_)
          · refine h_iconst C dX9_sorts_46 ?_
            refine h_goto (tgt := 51) C dX9_sorts_47 (by decide) ?_
            refine h_iadd C dX9_sorts_51 rfl ?_
            refine hp_anyI (fun r7 hr7 => ?_)
            obtain ⟨hr7a, hr7b⟩ := hr7
            refine h_istore_n (lv' := [(2, .int (hpI r7)), (0, .ref (z + 195)), (1, .int (hpI a0)), (3, .int (hpI w3_3))]) C dX9_sorts_52 rfl (by decide) rfl ?_
            refine h_iinc (lv' := [(3, .int (hpI (w3_3 + 1))), (2, .int (hpI r7)), (0, .ref (z + 195)), (1, .int (hpI a0))]) C dX9_sorts_53 3 rfl rfl (by decide) rfl ?_
            refine h_goto (tgt := 15) C dX9_sorts_56 (by decide) ?_
            exact hp_sub [2, 3, 1, 0] rfl (ih3 r7 (w3_3 + 1) (by omega) (by omega) (by omega) (by omega) (by omega))
          · refine h_aload_n C dX9_sorts_29 0 rfl rfl ?_
            refine h_iload_n C dX9_sorts_30 1 rfl rfl ?_
            refine h_iload_n C dX9_sorts_31 3 rfl rfl ?_
            refine h_callV (As := [.int (hpI a0), .int (hpI w3_3)]) (rest := [.int (hpI w3_2)]) C Z yyX9_heightOf wd_1540 (tgX9_heightOf l D cy z _ a0 ⟨by omega, by omega⟩ w3_3 ⟨by omega, by omega⟩ hI1 (by omega) (by omega)) kd_195 rfl rfl ⟨rfl, rfl, Nat.le_of_ble_eq_true rfl, Nat.le_of_ble_eq_true rfl⟩ ⟨Nat.le_of_ble_eq_true rfl, Nat.le_of_ble_eq_true rfl⟩ (Nat.le_of_ble_eq_true rfl) dX9_sorts_32 (fun r8 τ8 hp8 => ?_)
            obtain ⟨⟨x8, rfl, ⟨hx8a, hx8b⟩, hx8⟩, rfl⟩ := hp8
            show hpV _ _ _ _ _ _ _ _ _ _ _ _ _ _ _ _ _ _ _ _ _ (_ :: _)
            refine h_aload_n C dX9_sorts_35 0 rfl rfl ?_
            refine h_iload_n C dX9_sorts_36 1 rfl rfl ?_
            refine h_iload_n C dX9_sorts_37 3 rfl rfl ?_
            refine h_iconst C dX9_sorts_38 ?_
            refine h_isub C dX9_sorts_39 rfl ?_
            refine h_callV (As := [.int (hpI a0), .int (hpI (w3_3 - 1))]) (rest := [.int (hpI x8), .int (hpI w3_2)]) C Z yyX9_heightOf wd_1540 (tgX9_heightOf l D cy z _ a0 ⟨by omega, by omega⟩ (w3_3 - 1) ⟨by omega, by omega⟩ hI1 (by omega) (by omega)) kd_195 rfl rfl ⟨rfl, rfl, Nat.le_of_ble_eq_true rfl, Nat.le_of_ble_eq_true rfl⟩ ⟨Nat.le_of_ble_eq_true rfl, Nat.le_of_ble_eq_true rfl⟩ (Nat.le_of_ble_eq_true rfl) dX9_sorts_40 (fun r9 τ9 hp9 => ?_)
            obtain ⟨⟨x9, rfl, ⟨hx9a, hx9b⟩, hx9⟩, rfl⟩ := hp9
            show hpV _ _ _ _ _ _ _ _ _ _ _ _ _ _ _ _ _ _ _ _ _ (_ :: _)
            refine h_icmp_eq (tgt := 50) C dX9_sorts_43 (by decide) ⟨by omega, by omega⟩ ⟨by omega, by omega⟩ (fun h10 => ?_) (fun h10 => ?_)
            · refine h_iconst C dX9_sorts_50 ?_
              refine h_iadd C dX9_sorts_51 rfl ?_
              refine h_istore_n (lv' := [(2, .int (hpI (w3_2 + 0))), (0, .ref (z + 195)), (1, .int (hpI a0)), (3, .int (hpI w3_3))]) C dX9_sorts_52 rfl (by decide) rfl ?_
              refine h_iinc (lv' := [(3, .int (hpI (w3_3 + 1))), (2, .int (hpI (w3_2 + 0))), (0, .ref (z + 195)), (1, .int (hpI a0))]) C dX9_sorts_53 3 rfl rfl (by decide) rfl ?_
              refine h_goto (tgt := 15) C dX9_sorts_56 (by decide) ?_
              exact hp_sub [2, 3, 1, 0] rfl (ih3 (w3_2 + 0) (w3_3 + 1) (by omega) (by omega) (by omega) (by omega) (by omega))
            · refine h_iconst C dX9_sorts_46 ?_
              refine h_goto (tgt := 51) C dX9_sorts_47 (by decide) ?_
              refine h_iadd C dX9_sorts_51 rfl ?_
              refine hp_anyI (fun r11 hr11 => ?_)
              obtain ⟨hr11a, hr11b⟩ := hr11
              refine h_istore_n (lv' := [(2, .int (hpI r11)), (0, .ref (z + 195)), (1, .int (hpI a0)), (3, .int (hpI w3_3))]) C dX9_sorts_52 rfl (by decide) rfl ?_
              refine h_iinc (lv' := [(3, .int (hpI (w3_3 + 1))), (2, .int (hpI r11)), (0, .ref (z + 195)), (1, .int (hpI a0))]) C dX9_sorts_53 3 rfl rfl (by decide) rfl ?_
              refine h_goto (tgt := 15) C dX9_sorts_56 (by decide) ?_
              exact hp_sub [2, 3, 1, 0] rfl (ih3 r11 (w3_3 + 1) (by omega) (by omega) (by omega) (by omega) (by omega))
    exact hp_sub [2, 3, 1, 0] rfl (L3 8589934592 0 0 (by omega) (by omega) (by omega) (by omega) (by omega))
  · refine h_bipush C dX9_sorts_8 (by decide) ?_
    refine h_ireturn C hr hlk dX9_sorts_10 ?_
    exact ⟨⟨_, rfl, ⟨by decide, by decide⟩⟩, hI1, hF1⟩
abbrev rgX9_spread : Room := { frames := 6, cells := 0, slots := 0, locals := 131 }
abbrev pgX9_spread (z : Nat) (σ : hpMem) (a0 : Int) : Option Value → hpMem → Prop := fun r τ => (∃ x : Int, r = some (.int (hpI x)) ∧ (hpR x)) ∧ hpInv τ ∧ (∀ j i : Nat, (j < 195 ∨ j = 198 ∨ 213 ≤ j) → τ j i = σ j i)
set_option maxHeartbeats 4000000 in
set_option maxRecDepth 20000 in
theorem tgX9_spread (l : Launch) (D : va_G) (cy : Nat → ClassId) (z : Nat) (σ : hpMem) (a0 : Int) (ha0 : hpR a0) (hI : hpInv σ) : hpM l D cy z yX9_spread cX9_spread 2 (some .int) rgX9_spread [.ref (z + 195), .int (hpI a0)] σ (pgX9_spread z σ a0) := by
  obtain ⟨ha01, ha02⟩ := ha0
  refine hp_met rfl (Nat.le_of_ble_eq_true rfl) (fun p e s m below meth c C Z hr hlk => ?_)
  have hF0 : ∀ j i : Nat, (j < 195 ∨ j = 198 ∨ 213 ≤ j) → σ j i = σ j i := fun j i _ => rfl
  refine h_aload_n C dX9_spread_0 0 rfl rfl ?_
  refine h_iload_n C dX9_spread_1 1 rfl rfl ?_
  refine h_callV (As := [.int (hpI a0)]) (rest := []) C Z yyX9_asksDay wd_1512 (tgX9_asksDay l D cy z _ a0 ⟨by omega, by omega⟩ hI) kd_195 rfl rfl ⟨rfl, rfl, Nat.le_of_ble_eq_true rfl, Nat.le_of_ble_eq_true rfl⟩ ⟨Nat.le_of_ble_eq_true rfl, Nat.le_of_ble_eq_true rfl⟩ (Nat.le_of_ble_eq_true rfl) dX9_spread_2 (fun r1 τ1 hp1 => ?_)
  obtain ⟨x1, rfl, ⟨hx1a, hx1b⟩, hx1, hI1, hG1, hq1_0⟩ := hp1
  have hF1 : ∀ j i : Nat, (j < 195 ∨ j = 198 ∨ 213 ≤ j) → τ1 j i = σ j i := fun j i h_0 => (hG1 j i (by omega) (by omega) (by omega) (by omega) (by omega) (by omega)).trans (hF0 j i h_0)
  show hpV _ _ _ _ _ _ _ _ _ _ _ _ _ _ _ _ _ _ _ _ _ (_ :: _)
  refine h_if_ne (tgt := 11) C dX9_spread_5 (by decide) ⟨by omega, by omega⟩ (fun h2 => ?_) (fun h2 => ?_)
  · refine h_aload_n C dX9_spread_11 0 rfl rfl ?_
    refine h_iload_n C dX9_spread_12 1 rfl rfl ?_
    refine h_callV (As := [.int (hpI a0)]) (rest := []) C Z yyX9_manyOf wd_1536 (tgX9_manyOf l D cy z _ a0 ⟨by omega, by omega⟩ hI1 (by omega)) kd_195 rfl rfl ⟨rfl, rfl, Nat.le_of_ble_eq_true rfl, Nat.le_of_ble_eq_true rfl⟩ ⟨Nat.le_of_ble_eq_true rfl, Nat.le_of_ble_eq_true rfl⟩ (Nat.le_of_ble_eq_true rfl) dX9_spread_13 (fun r3 τ3 hp3 => ?_)
    obtain ⟨⟨x3, rfl, ⟨hx3a, hx3b⟩, hx3⟩, rfl⟩ := hp3
    show hpV _ _ _ _ _ _ _ _ _ _ _ _ _ _ _ _ _ _ _ _ _ (_ :: _)
    refine h_if_ne (tgt := 23) C dX9_spread_16 (by decide) ⟨by omega, by omega⟩ (fun h4 => ?_) (fun h4 => ?_)
    · refine h_aload_n C dX9_spread_23 0 rfl rfl ?_
      refine h_iload_n C dX9_spread_24 1 rfl rfl ?_
      refine h_iconst C dX9_spread_25 ?_
      refine h_callV (As := [.int (hpI a0), .int (hpI 0)]) (rest := []) C Z yyX9_heightOf wd_1540 (tgX9_heightOf l D cy z _ a0 ⟨by omega, by omega⟩ 0 ⟨by decide, by decide⟩ hI1 (by omega) (by omega)) kd_195 rfl rfl ⟨rfl, rfl, Nat.le_of_ble_eq_true rfl, Nat.le_of_ble_eq_true rfl⟩ ⟨Nat.le_of_ble_eq_true rfl, Nat.le_of_ble_eq_true rfl⟩ (Nat.le_of_ble_eq_true rfl) dX9_spread_26 (fun r5 τ5 hp5 => ?_)
      obtain ⟨⟨x5, rfl, ⟨hx5a, hx5b⟩, hx5⟩, rfl⟩ := hp5
      show hpV _ _ _ _ _ _ _ _ _ _ _ _ _ _ _ _ _ _ _ _ _ (_ :: _)
      refine h_aload_n C dX9_spread_29 0 rfl rfl ?_
      refine h_iload_n C dX9_spread_30 1 rfl rfl ?_
      refine h_aload_n C dX9_spread_31 0 rfl rfl ?_
      refine h_iload_n C dX9_spread_32 1 rfl rfl ?_
      refine h_callV (As := [.int (hpI a0)]) (rest := [.int (hpI a0), .ref (z + 195), .int (hpI x5)]) C Z yyX9_manyOf wd_1536 (tgX9_manyOf l D cy z _ a0 ⟨by omega, by omega⟩ hI1 (by omega)) kd_195 rfl rfl ⟨rfl, rfl, Nat.le_of_ble_eq_true rfl, Nat.le_of_ble_eq_true rfl⟩ ⟨Nat.le_of_ble_eq_true rfl, Nat.le_of_ble_eq_true rfl⟩ (Nat.le_of_ble_eq_true rfl) dX9_spread_33 (fun r6 τ6 hp6 => ?_)
      obtain ⟨⟨x6, rfl, ⟨hx6a, hx6b⟩, hx6⟩, rfl⟩ := hp6
      show hpV _ _ _ _ _ _ _ _ _ _ _ _ _ _ _ _ _ _ _ _ _ (_ :: _)
      refine h_iconst C dX9_spread_36 ?_
      refine h_isub C dX9_spread_37 rfl ?_
      refine h_callV (As := [.int (hpI a0), .int (hpI (x6 - 1))]) (rest := [.int (hpI x5)]) C Z yyX9_heightOf wd_1540 (tgX9_heightOf l D cy z _ a0 ⟨by omega, by omega⟩ (x6 - 1) ⟨by omega, by omega⟩ hI1 (by omega) (by omega)) kd_195 rfl rfl ⟨rfl, rfl, Nat.le_of_ble_eq_true rfl, Nat.le_of_ble_eq_true rfl⟩ ⟨Nat.le_of_ble_eq_true rfl, Nat.le_of_ble_eq_true rfl⟩ (Nat.le_of_ble_eq_true rfl) dX9_spread_38 (fun r7 τ7 hp7 => ?_)
      obtain ⟨⟨x7, rfl, ⟨hx7a, hx7b⟩, hx7⟩, rfl⟩ := hp7
      show hpV _ _ _ _ _ _ _ _ _ _ _ _ _ _ _ _ _ _ _ _ _ (_ :: _)
      refine h_isub C dX9_spread_41 rfl ?_
      refine hp_anyI (fun r8 hr8 => ?_)
      obtain ⟨hr8a, hr8b⟩ := hr8
      refine h_ireturn C hr hlk dX9_spread_42 ?_
      exact ⟨⟨_, rfl, ⟨by omega, by omega⟩⟩, hI1, hF1⟩
    · refine h_iconst C dX9_spread_19 ?_
      refine h_goto (tgt := 42) C dX9_spread_20 (by decide) ?_
      refine h_ireturn C hr hlk dX9_spread_42 ?_
      exact ⟨⟨_, rfl, ⟨by decide, by decide⟩⟩, hI1, hF1⟩
  · refine h_bipush C dX9_spread_8 (by decide) ?_
    refine h_ireturn C hr hlk dX9_spread_10 ?_
    exact ⟨⟨_, rfl, ⟨by decide, by decide⟩⟩, hI1, hF1⟩
abbrev rgX9_taken : Room := { frames := 5, cells := 0, slots := 0, locals := 110 }
abbrev pgX9_taken (z : Nat) (σ : hpMem) (a0 : Int) : Option Value → hpMem → Prop := fun r τ => (∃ x : Int, r = some (.int (hpI x)) ∧ (hpR x)) ∧ hpInv τ ∧ (∀ j i : Nat, (j < 195 ∨ j = 198 ∨ 213 ≤ j) → τ j i = σ j i)
set_option maxHeartbeats 4000000 in
set_option maxRecDepth 20000 in
theorem tgX9_taken (l : Launch) (D : va_G) (cy : Nat → ClassId) (z : Nat) (σ : hpMem) (a0 : Int) (ha0 : hpR a0) (hI : hpInv σ) : hpM l D cy z yX9_taken cX9_taken 2 (some .int) rgX9_taken [.ref (z + 195), .int (hpI a0)] σ (pgX9_taken z σ a0) := by
  obtain ⟨ha01, ha02⟩ := ha0
  refine hp_met rfl (Nat.le_of_ble_eq_true rfl) (fun p e s m below meth c C Z hr hlk => ?_)
  have hF0 : ∀ j i : Nat, (j < 195 ∨ j = 198 ∨ 213 ≤ j) → σ j i = σ j i := fun j i _ => rfl
  refine h_aload_n C dX9_taken_0 0 rfl rfl ?_
  refine h_callV (As := []) (rest := []) C Z yyX9_asksMoor wd_1516 (tgX9_asksMoor l D cy z _ hI) kd_195 rfl rfl ⟨rfl, rfl, Nat.le_of_ble_eq_true rfl, Nat.le_of_ble_eq_true rfl⟩ ⟨Nat.le_of_ble_eq_true rfl, Nat.le_of_ble_eq_true rfl⟩ (Nat.le_of_ble_eq_true rfl) dX9_taken_1 (fun r1 τ1 hp1 => ?_)
  obtain ⟨x1, rfl, ⟨hx1a, hx1b⟩, hI1, hG1, hq1_0⟩ := hp1
  have hF1 : ∀ j i : Nat, (j < 195 ∨ j = 198 ∨ 213 ≤ j) → τ1 j i = σ j i := fun j i h_0 => (hG1 j i (by omega) (by omega) (by omega) (by omega) (by omega) (by omega)).trans (hF0 j i h_0)
  show hpV _ _ _ _ _ _ _ _ _ _ _ _ _ _ _ _ _ _ _ _ _ (_ :: _)
  refine h_pop C rfl dX9_taken_4 ?_
  refine h_aload_n C dX9_taken_5 0 rfl rfl ?_
  refine h_iload_n C dX9_taken_6 1 rfl rfl ?_
  refine h_i2l C dX9_taken_7 ⟨by omega, by omega⟩ ?_
  refine h_callV (As := [.long (hpJ a0)]) (rest := []) C Z yyX9_isAhead wd_1612 (tgX9_isAhead l D cy z _ a0 ⟨by omega, by omega⟩ hI1) kd_195 rfl rfl ⟨rfl, rfl, Nat.le_of_ble_eq_true rfl, Nat.le_of_ble_eq_true rfl⟩ ⟨Nat.le_of_ble_eq_true rfl, Nat.le_of_ble_eq_true rfl⟩ (Nat.le_of_ble_eq_true rfl) dX9_taken_8 (fun r2 τ2 hp2 => ?_)
  obtain ⟨⟨x2, rfl, ⟨hx2a, hx2b⟩, hx2⟩, rfl⟩ := hp2
  show hpV _ _ _ _ _ _ _ _ _ _ _ _ _ _ _ _ _ _ _ _ _ (_ :: _)
  refine h_if_eq (tgt := 23) C dX9_taken_11 (by decide) ⟨by omega, by omega⟩ (fun h3 => ?_) (fun h3 => ?_)
  · refine h_bipush C dX9_taken_23 (by decide) ?_
    refine h_ireturn C hr hlk dX9_taken_25 ?_
    exact ⟨⟨_, rfl, ⟨by decide, by decide⟩⟩, hI1, hF1⟩
  · refine h_aload_n C dX9_taken_14 0 rfl rfl ?_
    refine h_get C O9 25 kd_195 (by decide) wd_1281 dX9_taken_15 fr_195_25 ?_
    refine h_iload_n C dX9_taken_18 1 rfl rfl ?_
    refine h_iaload C dX9_taken_19 kd_205 (a0).toNat (Int.toNat_of_nonneg (by omega)) (by rw [ln_205]; omega) rfl ?_
    obtain ⟨hr4a, hr4b⟩ := hI1.b (bo_205 _)
    generalize hg4 : τ1 205 ((a0).toNat) = r4 at hr4a hr4b ⊢
    refine h_goto (tgt := 25) C dX9_taken_20 (by decide) ?_
    refine h_ireturn C hr hlk dX9_taken_25 ?_
    exact ⟨⟨_, rfl, ⟨by omega, by omega⟩⟩, hI1, hF1⟩
abbrev rgX9_gone : Room := { frames := 5, cells := 0, slots := 0, locals := 110 }
abbrev pgX9_gone (z : Nat) (σ : hpMem) (a0 : Int) : Option Value → hpMem → Prop := fun r τ => (∃ x : Int, r = some (.int (hpI x)) ∧ (hpR x)) ∧ hpInv τ ∧ (∀ j i : Nat, (j < 195 ∨ j = 198 ∨ 213 ≤ j) → τ j i = σ j i)
set_option maxHeartbeats 4000000 in
set_option maxRecDepth 20000 in
theorem tgX9_gone (l : Launch) (D : va_G) (cy : Nat → ClassId) (z : Nat) (σ : hpMem) (a0 : Int) (ha0 : hpR a0) (hI : hpInv σ) : hpM l D cy z yX9_gone cX9_gone 2 (some .int) rgX9_gone [.ref (z + 195), .int (hpI a0)] σ (pgX9_gone z σ a0) := by
  obtain ⟨ha01, ha02⟩ := ha0
  refine hp_met rfl (Nat.le_of_ble_eq_true rfl) (fun p e s m below meth c C Z hr hlk => ?_)
  have hF0 : ∀ j i : Nat, (j < 195 ∨ j = 198 ∨ 213 ≤ j) → σ j i = σ j i := fun j i _ => rfl
  refine h_aload_n C dX9_gone_0 0 rfl rfl ?_
  refine h_callV (As := []) (rest := []) C Z yyX9_asksMoor wd_1516 (tgX9_asksMoor l D cy z _ hI) kd_195 rfl rfl ⟨rfl, rfl, Nat.le_of_ble_eq_true rfl, Nat.le_of_ble_eq_true rfl⟩ ⟨Nat.le_of_ble_eq_true rfl, Nat.le_of_ble_eq_true rfl⟩ (Nat.le_of_ble_eq_true rfl) dX9_gone_1 (fun r1 τ1 hp1 => ?_)
  obtain ⟨x1, rfl, ⟨hx1a, hx1b⟩, hI1, hG1, hq1_0⟩ := hp1
  have hF1 : ∀ j i : Nat, (j < 195 ∨ j = 198 ∨ 213 ≤ j) → τ1 j i = σ j i := fun j i h_0 => (hG1 j i (by omega) (by omega) (by omega) (by omega) (by omega) (by omega)).trans (hF0 j i h_0)
  show hpV _ _ _ _ _ _ _ _ _ _ _ _ _ _ _ _ _ _ _ _ _ (_ :: _)
  refine h_pop C rfl dX9_gone_4 ?_
  refine h_aload_n C dX9_gone_5 0 rfl rfl ?_
  refine h_iload_n C dX9_gone_6 1 rfl rfl ?_
  refine h_i2l C dX9_gone_7 ⟨by omega, by omega⟩ ?_
  refine h_callV (As := [.long (hpJ a0)]) (rest := []) C Z yyX9_isAhead wd_1612 (tgX9_isAhead l D cy z _ a0 ⟨by omega, by omega⟩ hI1) kd_195 rfl rfl ⟨rfl, rfl, Nat.le_of_ble_eq_true rfl, Nat.le_of_ble_eq_true rfl⟩ ⟨Nat.le_of_ble_eq_true rfl, Nat.le_of_ble_eq_true rfl⟩ (Nat.le_of_ble_eq_true rfl) dX9_gone_8 (fun r2 τ2 hp2 => ?_)
  obtain ⟨⟨x2, rfl, ⟨hx2a, hx2b⟩, hx2⟩, rfl⟩ := hp2
  show hpV _ _ _ _ _ _ _ _ _ _ _ _ _ _ _ _ _ _ _ _ _ (_ :: _)
  refine h_if_eq (tgt := 23) C dX9_gone_11 (by decide) ⟨by omega, by omega⟩ (fun h3 => ?_) (fun h3 => ?_)
  · refine h_bipush C dX9_gone_23 (by decide) ?_
    refine h_ireturn C hr hlk dX9_gone_25 ?_
    exact ⟨⟨_, rfl, ⟨by decide, by decide⟩⟩, hI1, hF1⟩
  · refine h_aload_n C dX9_gone_14 0 rfl rfl ?_
    refine h_get C O9 26 kd_195 (by decide) wd_1282 dX9_gone_15 fr_195_26 ?_
    refine h_iload_n C dX9_gone_18 1 rfl rfl ?_
    refine h_iaload C dX9_gone_19 kd_206 (a0).toNat (Int.toNat_of_nonneg (by omega)) (by rw [ln_206]; omega) rfl ?_
    obtain ⟨hr4a, hr4b⟩ := hI1.b (bo_206 _)
    generalize hg4 : τ1 206 ((a0).toNat) = r4 at hr4a hr4b ⊢
    refine h_goto (tgt := 25) C dX9_gone_20 (by decide) ?_
    refine h_ireturn C hr hlk dX9_gone_25 ?_
    exact ⟨⟨_, rfl, ⟨by omega, by omega⟩⟩, hI1, hF1⟩
abbrev rgX9_most : Room := { frames := 5, cells := 0, slots := 0, locals := 110 }
abbrev pgX9_most (z : Nat) (σ : hpMem) : Option Value → hpMem → Prop := fun r τ => (∃ x : Int, r = some (.int (hpI x)) ∧ (hpR x)) ∧ hpInv τ ∧ (∀ j i : Nat, (j < 195 ∨ j = 198 ∨ 213 ≤ j) → τ j i = σ j i)
set_option maxHeartbeats 4000000 in
set_option maxRecDepth 20000 in
theorem tgX9_most (l : Launch) (D : va_G) (cy : Nat → ClassId) (z : Nat) (σ : hpMem) (hI : hpInv σ) : hpM l D cy z yX9_most cX9_most 3 (some .int) rgX9_most [.ref (z + 195)] σ (pgX9_most z σ) := by
  refine hp_met rfl (Nat.le_of_ble_eq_true rfl) (fun p e s m below meth c C Z hr hlk => ?_)
  have hF0 : ∀ j i : Nat, (j < 195 ∨ j = 198 ∨ 213 ≤ j) → σ j i = σ j i := fun j i _ => rfl
  refine h_aload_n C dX9_most_0 0 rfl rfl ?_
  refine h_callV (As := []) (rest := []) C Z yyX9_asksMoor wd_1516 (tgX9_asksMoor l D cy z _ hI) kd_195 rfl rfl ⟨rfl, rfl, Nat.le_of_ble_eq_true rfl, Nat.le_of_ble_eq_true rfl⟩ ⟨Nat.le_of_ble_eq_true rfl, Nat.le_of_ble_eq_true rfl⟩ (Nat.le_of_ble_eq_true rfl) dX9_most_1 (fun r1 τ1 hp1 => ?_)
  obtain ⟨x1, rfl, ⟨hx1a, hx1b⟩, hI1, hG1, hq1_0⟩ := hp1
  have hF1 : ∀ j i : Nat, (j < 195 ∨ j = 198 ∨ 213 ≤ j) → τ1 j i = σ j i := fun j i h_0 => (hG1 j i (by omega) (by omega) (by omega) (by omega) (by omega) (by omega)).trans (hF0 j i h_0)
  show hpV _ _ _ _ _ _ _ _ _ _ _ _ _ _ _ _ _ _ _ _ _ (_ :: _)
  refine h_if_ne (tgt := 10) C dX9_most_4 (by decide) ⟨by omega, by omega⟩ (fun h2 => ?_) (fun h2 => ?_)
  · refine h_iconst C dX9_most_10 ?_
    refine h_istore_n (lv' := [(1, .int (hpI 0)), (0, .ref (z + 195))]) C dX9_most_11 rfl (by decide) rfl ?_
    refine h_iconst C dX9_most_12 ?_
    refine h_istore_n (lv' := [(2, .int (hpI 0)), (1, .int (hpI 0)), (0, .ref (z + 195))]) C dX9_most_13 rfl (by decide) rfl ?_
    have L3 : ∀ (n3 : Nat) (w3_1 : Int) (w3_2 : Int), -2147483648 ≤ w3_1 → w3_1 ≤ 2147483647 → 0 ≤ w3_2 → w3_2 ≤ 2147483647 → (4294967296 - w3_2) < (n3 : Int) → hpF p l e rgX9_most s m [.ref (z + 195)] below meth c 3 D cy z (pgX9_most z σ) τ1 14 [(0, .ref (z + 195)), (1, .int (hpI w3_1)), (2, .int (hpI w3_2))] [] := by
      intro n3
      induction n3 with
      | zero => intro w3_1 w3_2 hv3_0 hv3_1 hv3_2 hv3_3 hm3; exfalso; omega
      | succ n3 ih3 =>
        intro w3_1 w3_2 hv3_0 hv3_1 hv3_2 hv3_3 hm3
        refine h_iload_n C dX9_most_14 2 rfl rfl ?_
        refine h_aload_n C dX9_most_15 0 rfl rfl ?_
        refine h_callV (As := []) (rest := [.int (hpI w3_2)]) C Z yyX9_days wd_1544 (tgX9_days l D cy z _ hI1) kd_195 rfl rfl ⟨rfl, rfl, Nat.le_of_ble_eq_true rfl, Nat.le_of_ble_eq_true rfl⟩ ⟨Nat.le_of_ble_eq_true rfl, Nat.le_of_ble_eq_true rfl⟩ (Nat.le_of_ble_eq_true rfl) dX9_most_16 (fun r4 τ4 hp4 => ?_)
        obtain ⟨⟨x4, rfl, ⟨hx4a, hx4b⟩, hx4⟩, rfl⟩ := hp4
        show hpV _ _ _ _ _ _ _ _ _ _ _ _ _ _ _ _ _ _ _ _ _ (_ :: _)
        refine h_icmp_gt (tgt := 38) C dX9_most_19 (by decide) ⟨by omega, by omega⟩ ⟨by omega, by omega⟩ (fun h5 => ?_) (fun h5 => ?_)
        · refine h_iload_n C dX9_most_38 1 rfl rfl ?_
          refine h_ireturn C hr hlk dX9_most_39 ?_
          exact ⟨⟨_, rfl, ⟨by omega, by omega⟩⟩, hI1, hF1⟩
        · refine h_iload_n C dX9_most_22 1 rfl rfl ?_
          refine h_aload_n C dX9_most_23 0 rfl rfl ?_
          refine h_iload_n C dX9_most_24 2 rfl rfl ?_
          refine h_callV (As := [.int (hpI w3_2)]) (rest := [.int (hpI w3_1)]) C Z yyX9_manyOf wd_1536 (tgX9_manyOf l D cy z _ w3_2 ⟨by omega, by omega⟩ hI1 (by omega)) kd_195 rfl rfl ⟨rfl, rfl, Nat.le_of_ble_eq_true rfl, Nat.le_of_ble_eq_true rfl⟩ ⟨Nat.le_of_ble_eq_true rfl, Nat.le_of_ble_eq_true rfl⟩ (Nat.le_of_ble_eq_true rfl) dX9_most_25 (fun r6 τ6 hp6 => ?_)
          obtain ⟨⟨x6, rfl, ⟨hx6a, hx6b⟩, hx6⟩, rfl⟩ := hp6
          show hpV _ _ _ _ _ _ _ _ _ _ _ _ _ _ _ _ _ _ _ _ _ (_ :: _)
          refine h_mmax C wd_1624 wd_708 wd_709 wd_15 dX9_most_28 ⟨by omega, by omega⟩ ⟨by omega, by omega⟩ (Nat.le_of_ble_eq_true rfl) (Nat.le_of_ble_eq_true rfl) ⟨Nat.le_of_ble_eq_true rfl, Nat.le_of_ble_eq_true rfl⟩ (fun r7 hr7a hr7b hr7c => ?_)
          refine h_istore_n (lv' := [(1, .int (hpI r7)), (0, .ref (z + 195)), (2, .int (hpI w3_2))]) C dX9_most_31 rfl (by decide) rfl ?_
          refine h_iinc (lv' := [(2, .int (hpI (w3_2 + 1))), (1, .int (hpI r7)), (0, .ref (z + 195))]) C dX9_most_32 2 rfl rfl (by decide) rfl ?_
          refine h_goto (tgt := 14) C dX9_most_35 (by decide) ?_
          exact hp_sub [2, 1, 0] rfl (ih3 r7 (w3_2 + 1) (by omega) (by omega) (by omega) (by omega) (by omega))
    exact hp_sub [2, 1, 0] rfl (L3 8589934592 0 0 (by omega) (by omega) (by omega) (by omega) (by omega))
  · refine h_bipush C dX9_most_7 (by decide) ?_
    refine h_ireturn C hr hlk dX9_most_9 ?_
    exact ⟨⟨_, rfl, ⟨by decide, by decide⟩⟩, hI1, hF1⟩
abbrev rgX9_peak : Room := { frames := 5, cells := 0, slots := 0, locals := 110 }
abbrev pgX9_peak (z : Nat) (σ : hpMem) : Option Value → hpMem → Prop := fun r τ => (∃ x : Int, r = some (.int (hpI x)) ∧ (hpR x)) ∧ hpInv τ ∧ (∀ j i : Nat, (j < 195 ∨ j = 198 ∨ 213 ≤ j) → τ j i = σ j i)
set_option maxHeartbeats 4000000 in
set_option maxRecDepth 20000 in
theorem tgX9_peak (l : Launch) (D : va_G) (cy : Nat → ClassId) (z : Nat) (σ : hpMem) (hI : hpInv σ) : hpM l D cy z yX9_peak cX9_peak 3 (some .int) rgX9_peak [.ref (z + 195)] σ (pgX9_peak z σ) := by
  refine hp_met rfl (Nat.le_of_ble_eq_true rfl) (fun p e s m below meth c C Z hr hlk => ?_)
  have hF0 : ∀ j i : Nat, (j < 195 ∨ j = 198 ∨ 213 ≤ j) → σ j i = σ j i := fun j i _ => rfl
  refine h_aload_n C dX9_peak_0 0 rfl rfl ?_
  refine h_callV (As := []) (rest := []) C Z yyX9_asksMoor wd_1516 (tgX9_asksMoor l D cy z _ hI) kd_195 rfl rfl ⟨rfl, rfl, Nat.le_of_ble_eq_true rfl, Nat.le_of_ble_eq_true rfl⟩ ⟨Nat.le_of_ble_eq_true rfl, Nat.le_of_ble_eq_true rfl⟩ (Nat.le_of_ble_eq_true rfl) dX9_peak_1 (fun r1 τ1 hp1 => ?_)
  obtain ⟨x1, rfl, ⟨hx1a, hx1b⟩, hI1, hG1, hq1_0⟩ := hp1
  have hF1 : ∀ j i : Nat, (j < 195 ∨ j = 198 ∨ 213 ≤ j) → τ1 j i = σ j i := fun j i h_0 => (hG1 j i (by omega) (by omega) (by omega) (by omega) (by omega) (by omega)).trans (hF0 j i h_0)
  show hpV _ _ _ _ _ _ _ _ _ _ _ _ _ _ _ _ _ _ _ _ _ (_ :: _)
  refine h_if_ne (tgt := 10) C dX9_peak_4 (by decide) ⟨by omega, by omega⟩ (fun h2 => ?_) (fun h2 => ?_)
  · refine h_iconst C dX9_peak_10 ?_
    refine h_istore_n (lv' := [(1, .int (hpI 0)), (0, .ref (z + 195))]) C dX9_peak_11 rfl (by decide) rfl ?_
    refine h_iconst C dX9_peak_12 ?_
    refine h_istore_n (lv' := [(2, .int (hpI 1)), (1, .int (hpI 0)), (0, .ref (z + 195))]) C dX9_peak_13 rfl (by decide) rfl ?_
    have L3 : ∀ (n3 : Nat) (w3_1 : Int) (w3_2 : Int), 0 ≤ w3_1 → w3_1 ≤ 16 → 1 ≤ w3_2 → w3_2 ≤ 17 → (4294967296 - w3_2) < (n3 : Int) → hpF p l e rgX9_peak s m [.ref (z + 195)] below meth c 3 D cy z (pgX9_peak z σ) τ1 14 [(0, .ref (z + 195)), (1, .int (hpI w3_1)), (2, .int (hpI w3_2))] [] := by
      intro n3
      induction n3 with
      | zero => intro w3_1 w3_2 hv3_0 hv3_1 hv3_2 hv3_3 hm3; exfalso; omega
      | succ n3 ih3 =>
        intro w3_1 w3_2 hv3_0 hv3_1 hv3_2 hv3_3 hm3
        refine h_iload_n C dX9_peak_14 2 rfl rfl ?_
        refine h_aload_n C dX9_peak_15 0 rfl rfl ?_
        refine h_callV (As := []) (rest := [.int (hpI w3_2)]) C Z yyX9_days wd_1544 (tgX9_days l D cy z _ hI1) kd_195 rfl rfl ⟨rfl, rfl, Nat.le_of_ble_eq_true rfl, Nat.le_of_ble_eq_true rfl⟩ ⟨Nat.le_of_ble_eq_true rfl, Nat.le_of_ble_eq_true rfl⟩ (Nat.le_of_ble_eq_true rfl) dX9_peak_16 (fun r4 τ4 hp4 => ?_)
        obtain ⟨⟨x4, rfl, ⟨hx4a, hx4b⟩, hx4⟩, rfl⟩ := hp4
        show hpV _ _ _ _ _ _ _ _ _ _ _ _ _ _ _ _ _ _ _ _ _ (_ :: _)
        refine h_icmp_gt (tgt := 47) C dX9_peak_19 (by decide) ⟨by omega, by omega⟩ ⟨by omega, by omega⟩ (fun h5 => ?_) (fun h5 => ?_)
        · refine h_iload_n C dX9_peak_47 1 rfl rfl ?_
          refine h_ireturn C hr hlk dX9_peak_48 ?_
          exact ⟨⟨_, rfl, ⟨by omega, by omega⟩⟩, hI1, hF1⟩
        · refine h_aload_n C dX9_peak_22 0 rfl rfl ?_
          refine h_iload_n C dX9_peak_23 2 rfl rfl ?_
          refine h_callV (As := [.int (hpI w3_2)]) (rest := []) C Z yyX9_highestOf wd_1629 (tgX9_highestOf l D cy z _ w3_2 ⟨by omega, by omega⟩ hI1 (by omega)) kd_195 rfl rfl ⟨rfl, rfl, Nat.le_of_ble_eq_true rfl, Nat.le_of_ble_eq_true rfl⟩ ⟨Nat.le_of_ble_eq_true rfl, Nat.le_of_ble_eq_true rfl⟩ (Nat.le_of_ble_eq_true rfl) dX9_peak_24 (fun r6 τ6 hp6 => ?_)
          obtain ⟨⟨x6, rfl, ⟨hx6a, hx6b⟩⟩, rfl⟩ := hp6
          show hpV _ _ _ _ _ _ _ _ _ _ _ _ _ _ _ _ _ _ _ _ _ (_ :: _)
          refine h_aload_n C dX9_peak_27 0 rfl rfl ?_
          refine h_iload_n C dX9_peak_28 1 rfl rfl ?_
          refine h_callV (As := [.int (hpI w3_1)]) (rest := [.int (hpI x6)]) C Z yyX9_highestOf wd_1629 (tgX9_highestOf l D cy z _ w3_1 ⟨by omega, by omega⟩ hI1 (by omega)) kd_195 rfl rfl ⟨rfl, rfl, Nat.le_of_ble_eq_true rfl, Nat.le_of_ble_eq_true rfl⟩ ⟨Nat.le_of_ble_eq_true rfl, Nat.le_of_ble_eq_true rfl⟩ (Nat.le_of_ble_eq_true rfl) dX9_peak_29 (fun r7 τ7 hp7 => ?_)
          obtain ⟨⟨x7, rfl, ⟨hx7a, hx7b⟩⟩, rfl⟩ := hp7
          show hpV _ _ _ _ _ _ _ _ _ _ _ _ _ _ _ _ _ _ _ _ _ (_ :: _)
          refine h_icmp_le (tgt := 39) C dX9_peak_32 (by decide) ⟨by omega, by omega⟩ ⟨by omega, by omega⟩ (fun h8 => ?_) (fun h8 => ?_)
          · refine h_iload_n C dX9_peak_39 1 rfl rfl ?_
            refine h_istore_n (lv' := [(1, .int (hpI w3_1)), (0, .ref (z + 195)), (2, .int (hpI w3_2))]) C dX9_peak_40 rfl (by decide) rfl ?_
            refine h_iinc (lv' := [(2, .int (hpI (w3_2 + 1))), (1, .int (hpI w3_1)), (0, .ref (z + 195))]) C dX9_peak_41 2 rfl rfl (by decide) rfl ?_
            refine h_goto (tgt := 14) C dX9_peak_44 (by decide) ?_
            exact hp_sub [2, 1, 0] rfl (ih3 w3_1 (w3_2 + 1) (by omega) (by omega) (by omega) (by omega) (by omega))
          · refine h_iload_n C dX9_peak_35 2 rfl rfl ?_
            refine h_goto (tgt := 40) C dX9_peak_36 (by decide) ?_
            refine h_istore_n (lv' := [(1, .int (hpI w3_2)), (0, .ref (z + 195)), (2, .int (hpI w3_2))]) C dX9_peak_40 rfl (by decide) rfl ?_
            refine h_iinc (lv' := [(2, .int (hpI (w3_2 + 1))), (1, .int (hpI w3_2)), (0, .ref (z + 195))]) C dX9_peak_41 2 rfl rfl (by decide) rfl ?_
            refine h_goto (tgt := 14) C dX9_peak_44 (by decide) ?_
            exact hp_sub [2, 1, 0] rfl (ih3 w3_2 (w3_2 + 1) (by omega) (by omega) (by omega) (by omega) (by omega))
    exact hp_sub [2, 1, 0] rfl (L3 8589934592 0 1 (by omega) (by omega) (by omega) (by omega) (by omega))
  · refine h_bipush C dX9_peak_7 (by decide) ?_
    refine h_ireturn C hr hlk dX9_peak_9 ?_
    exact ⟨⟨_, rfl, ⟨by decide, by decide⟩⟩, hI1, hF1⟩
abbrev rgX9_firstSame : Room := { frames := 2, cells := 0, slots := 0, locals := 46 }
abbrev pgX9_firstSame (z : Nat) (σ : hpMem) (a0 : Int) : Option Value → hpMem → Prop := fun r τ => (∃ x : Int, r = some (.int (hpI x)) ∧ (hpR x)) ∧ σ = τ
set_option maxHeartbeats 4000000 in
set_option maxRecDepth 20000 in
theorem tgX9_firstSame (l : Launch) (D : va_G) (cy : Nat → ClassId) (z : Nat) (σ : hpMem) (a0 : Int) (ha0 : hpR a0) (hI : hpInv σ) (hd0 : 0 ≤ a0 ∧ a0 ≤ 16) : hpM l D cy z yX9_firstSame cX9_firstSame 3 (some .int) rgX9_firstSame [.ref (z + 195), .int (hpI a0)] σ (pgX9_firstSame z σ a0) := by
  obtain ⟨ha01, ha02⟩ := ha0
  refine hp_met rfl (Nat.le_of_ble_eq_true rfl) (fun p e s m below meth c C Z hr hlk => ?_)
  refine h_iconst C dX9_firstSame_0 ?_
  refine h_istore_n (lv' := [(2, .int (hpI 0)), (0, .ref (z + 195)), (1, .int (hpI a0))]) C dX9_firstSame_1 rfl (by decide) rfl ?_
  have L1 : ∀ (n1 : Nat) (w1_2 : Int), 0 ≤ w1_2 → w1_2 ≤ 16 → w1_2 ≤ a0 → (4294967296 - w1_2) < (n1 : Int) → hpF p l e rgX9_firstSame s m [.ref (z + 195), .int (hpI a0)] below meth c 3 D cy z (pgX9_firstSame z σ a0) σ 2 [(0, .ref (z + 195)), (1, .int (hpI a0)), (2, .int (hpI w1_2))] [] := by
    intro n1
    induction n1 with
    | zero => intro w1_2 hv1_0 hv1_1 hv1_2 hm1; exfalso; omega
    | succ n1 ih1 =>
      intro w1_2 hv1_0 hv1_1 hv1_2 hm1
      refine h_aload_n C dX9_firstSame_2 0 rfl rfl ?_
      refine h_iload_n C dX9_firstSame_3 2 rfl rfl ?_
      refine h_iload_n C dX9_firstSame_4 1 rfl rfl ?_
      refine h_callV (As := [.int (hpI w1_2), .int (hpI a0)]) (rest := []) C Z yyX9_areSame wd_1641 (tgX9_areSame l D cy z _ w1_2 ⟨by omega, by omega⟩ a0 ⟨by omega, by omega⟩ hI (by omega) (by omega)) kd_195 rfl rfl ⟨rfl, rfl, Nat.le_of_ble_eq_true rfl, Nat.le_of_ble_eq_true rfl⟩ ⟨Nat.le_of_ble_eq_true rfl, Nat.le_of_ble_eq_true rfl⟩ (Nat.le_of_ble_eq_true rfl) dX9_firstSame_5 (fun r2 τ2 hp2 => ?_)
      obtain ⟨⟨x2, rfl, ⟨hx2a, hx2b⟩, hx2⟩, rfl⟩ := hp2
      show hpV _ _ _ _ _ _ _ _ _ _ _ _ _ _ _ _ _ _ _ _ _ (_ :: _)
      refine h_if_ne (tgt := 17) C dX9_firstSame_8 (by decide) ⟨by omega, by omega⟩ (fun h3 => ?_) (fun h3 => ?_)
      · refine h_iload_n C dX9_firstSame_17 2 rfl rfl ?_
        refine h_ireturn C hr hlk dX9_firstSame_18 ?_
        exact ⟨⟨_, rfl, ⟨by omega, by omega⟩⟩, rfl⟩
      · have hne : w1_2 ≠ a0 := fun e => (hx2.2 (by omega)) (by rw [e]; exact hpEq_rf)
        refine h_iinc (lv' := [(2, .int (hpI (w1_2 + 1))), (0, .ref (z + 195)), (1, .int (hpI a0))]) C dX9_firstSame_11 2 rfl rfl (by decide) rfl ?_
        refine h_goto (tgt := 2) C dX9_firstSame_14 (by decide) ?_
        exact hp_sub [1, 2, 0] rfl (ih1 (w1_2 + 1) (by omega) (by omega) (by omega) (by omega))
  exact hp_sub [1, 2, 0] rfl (L1 8589934592 0 (by omega) (by omega) (by omega) (by omega))
abbrev rgX9_same : Room := { frames := 6, cells := 0, slots := 0, locals := 131 }
abbrev pgX9_same (z : Nat) (σ : hpMem) (a0 : Int) : Option Value → hpMem → Prop := fun r τ => (∃ x : Int, r = some (.int (hpI x)) ∧ (hpR x)) ∧ hpInv τ ∧ (∀ j i : Nat, (j < 195 ∨ j = 198 ∨ 213 ≤ j) → τ j i = σ j i)
set_option maxHeartbeats 4000000 in
set_option maxRecDepth 20000 in
theorem tgX9_same (l : Launch) (D : va_G) (cy : Nat → ClassId) (z : Nat) (σ : hpMem) (a0 : Int) (ha0 : hpR a0) (hI : hpInv σ) : hpM l D cy z yX9_same cX9_same 2 (some .int) rgX9_same [.ref (z + 195), .int (hpI a0)] σ (pgX9_same z σ a0) := by
  obtain ⟨ha01, ha02⟩ := ha0
  refine hp_met rfl (Nat.le_of_ble_eq_true rfl) (fun p e s m below meth c C Z hr hlk => ?_)
  have hF0 : ∀ j i : Nat, (j < 195 ∨ j = 198 ∨ 213 ≤ j) → σ j i = σ j i := fun j i _ => rfl
  refine h_aload_n C dX9_same_0 0 rfl rfl ?_
  refine h_iload_n C dX9_same_1 1 rfl rfl ?_
  refine h_callV (As := [.int (hpI a0)]) (rest := []) C Z yyX9_asksDay wd_1512 (tgX9_asksDay l D cy z _ a0 ⟨by omega, by omega⟩ hI) kd_195 rfl rfl ⟨rfl, rfl, Nat.le_of_ble_eq_true rfl, Nat.le_of_ble_eq_true rfl⟩ ⟨Nat.le_of_ble_eq_true rfl, Nat.le_of_ble_eq_true rfl⟩ (Nat.le_of_ble_eq_true rfl) dX9_same_2 (fun r1 τ1 hp1 => ?_)
  obtain ⟨x1, rfl, ⟨hx1a, hx1b⟩, hx1, hI1, hG1, hq1_0⟩ := hp1
  have hF1 : ∀ j i : Nat, (j < 195 ∨ j = 198 ∨ 213 ≤ j) → τ1 j i = σ j i := fun j i h_0 => (hG1 j i (by omega) (by omega) (by omega) (by omega) (by omega) (by omega)).trans (hF0 j i h_0)
  show hpV _ _ _ _ _ _ _ _ _ _ _ _ _ _ _ _ _ _ _ _ _ (_ :: _)
  refine h_if_eq (tgt := 16) C dX9_same_5 (by decide) ⟨by omega, by omega⟩ (fun h2 => ?_) (fun h2 => ?_)
  · refine h_bipush C dX9_same_16 (by decide) ?_
    refine h_ireturn C hr hlk dX9_same_18 ?_
    exact ⟨⟨_, rfl, ⟨by decide, by decide⟩⟩, hI1, hF1⟩
  · refine h_aload_n C dX9_same_8 0 rfl rfl ?_
    refine h_iload_n C dX9_same_9 1 rfl rfl ?_
    refine h_callV (As := [.int (hpI a0)]) (rest := []) C Z yyX9_firstSame wd_1637 (tgX9_firstSame l D cy z _ a0 ⟨by omega, by omega⟩ hI1 (by omega)) kd_195 rfl rfl ⟨rfl, rfl, Nat.le_of_ble_eq_true rfl, Nat.le_of_ble_eq_true rfl⟩ ⟨Nat.le_of_ble_eq_true rfl, Nat.le_of_ble_eq_true rfl⟩ (Nat.le_of_ble_eq_true rfl) dX9_same_10 (fun r3 τ3 hp3 => ?_)
    obtain ⟨⟨x3, rfl, ⟨hx3a, hx3b⟩⟩, rfl⟩ := hp3
    show hpV _ _ _ _ _ _ _ _ _ _ _ _ _ _ _ _ _ _ _ _ _ (_ :: _)
    refine h_goto (tgt := 18) C dX9_same_13 (by decide) ?_
    refine h_ireturn C hr hlk dX9_same_18 ?_
    exact ⟨⟨_, rfl, ⟨by omega, by omega⟩⟩, hI1, hF1⟩
abbrev rgX9_still : Room := { frames := 5, cells := 0, slots := 0, locals := 110 }
abbrev pgX9_still (z : Nat) (σ : hpMem) : Option Value → hpMem → Prop := fun r τ => (∃ x : Int, r = some (.int (hpI x)) ∧ (hpR x)) ∧ hpInv τ ∧ (∀ j i : Nat, (j < 195 ∨ j = 198 ∨ 213 ≤ j) → τ j i = σ j i)
set_option maxHeartbeats 4000000 in
set_option maxRecDepth 20000 in
theorem tgX9_still (l : Launch) (D : va_G) (cy : Nat → ClassId) (z : Nat) (σ : hpMem) (hI : hpInv σ) : hpM l D cy z yX9_still cX9_still 2 (some .int) rgX9_still [.ref (z + 195)] σ (pgX9_still z σ) := by
  refine hp_met rfl (Nat.le_of_ble_eq_true rfl) (fun p e s m below meth c C Z hr hlk => ?_)
  have hF0 : ∀ j i : Nat, (j < 195 ∨ j = 198 ∨ 213 ≤ j) → σ j i = σ j i := fun j i _ => rfl
  refine h_aload_n C dX9_still_0 0 rfl rfl ?_
  refine h_callV (As := []) (rest := []) C Z yyX9_asksMoor wd_1516 (tgX9_asksMoor l D cy z _ hI) kd_195 rfl rfl ⟨rfl, rfl, Nat.le_of_ble_eq_true rfl, Nat.le_of_ble_eq_true rfl⟩ ⟨Nat.le_of_ble_eq_true rfl, Nat.le_of_ble_eq_true rfl⟩ (Nat.le_of_ble_eq_true rfl) dX9_still_1 (fun r1 τ1 hp1 => ?_)
  obtain ⟨x1, rfl, ⟨hx1a, hx1b⟩, hI1, hG1, hq1_0⟩ := hp1
  have hF1 : ∀ j i : Nat, (j < 195 ∨ j = 198 ∨ 213 ≤ j) → τ1 j i = σ j i := fun j i h_0 => (hG1 j i (by omega) (by omega) (by omega) (by omega) (by omega) (by omega)).trans (hF0 j i h_0)
  show hpV _ _ _ _ _ _ _ _ _ _ _ _ _ _ _ _ _ _ _ _ _ (_ :: _)
  refine h_if_ne (tgt := 10) C dX9_still_4 (by decide) ⟨by omega, by omega⟩ (fun h2 => ?_) (fun h2 => ?_)
  · refine h_aload_n C dX9_still_10 0 rfl rfl ?_
    refine h_callV (As := []) (rest := []) C Z yyX9_days wd_1544 (tgX9_days l D cy z _ hI1) kd_195 rfl rfl ⟨rfl, rfl, Nat.le_of_ble_eq_true rfl, Nat.le_of_ble_eq_true rfl⟩ ⟨Nat.le_of_ble_eq_true rfl, Nat.le_of_ble_eq_true rfl⟩ (Nat.le_of_ble_eq_true rfl) dX9_still_11 (fun r3 τ3 hp3 => ?_)
    obtain ⟨⟨x3, rfl, ⟨hx3a, hx3b⟩, hx3⟩, rfl⟩ := hp3
    show hpV _ _ _ _ _ _ _ _ _ _ _ _ _ _ _ _ _ _ _ _ _ (_ :: _)
    refine h_istore_n (lv' := [(1, .int (hpI x3)), (0, .ref (z + 195))]) C dX9_still_14 rfl (by decide) rfl ?_
    have L4 : ∀ (n4 : Nat) (w4_1 : Int), -2147483648 ≤ w4_1 → w4_1 ≤ 16 → (w4_1 + 4294967296) < (n4 : Int) → hpF p l e rgX9_still s m [.ref (z + 195)] below meth c 2 D cy z (pgX9_still z σ) τ1 15 [(0, .ref (z + 195)), (1, .int (hpI w4_1))] [] := by
      intro n4
      induction n4 with
      | zero => intro w4_1 hv4_0 hv4_1 hm4; exfalso; omega
      | succ n4 ih4 =>
        intro w4_1 hv4_0 hv4_1 hm4
        refine h_iload_n C dX9_still_15 1 rfl rfl ?_
        refine h_if_le (tgt := 36) C dX9_still_16 (by decide) ⟨by omega, by omega⟩ (fun h5 => ?_) (fun h5 => ?_)
        · refine h_iload_n C dX9_still_36 1 rfl rfl ?_
          refine h_ireturn C hr hlk dX9_still_37 ?_
          exact ⟨⟨_, rfl, ⟨by omega, by omega⟩⟩, hI1, hF1⟩
        · refine h_aload_n C dX9_still_19 0 rfl rfl ?_
          refine h_iload_n C dX9_still_20 1 rfl rfl ?_
          refine h_iconst C dX9_still_21 ?_
          refine h_isub C dX9_still_22 rfl ?_
          refine h_iload_n C dX9_still_23 1 rfl rfl ?_
          refine h_callV (As := [.int (hpI (w4_1 - 1)), .int (hpI w4_1)]) (rest := []) C Z yyX9_areSame wd_1641 (tgX9_areSame l D cy z _ (w4_1 - 1) ⟨by omega, by omega⟩ w4_1 ⟨by omega, by omega⟩ hI1 (by omega) (by omega)) kd_195 rfl rfl ⟨rfl, rfl, Nat.le_of_ble_eq_true rfl, Nat.le_of_ble_eq_true rfl⟩ ⟨Nat.le_of_ble_eq_true rfl, Nat.le_of_ble_eq_true rfl⟩ (Nat.le_of_ble_eq_true rfl) dX9_still_24 (fun r6 τ6 hp6 => ?_)
          obtain ⟨⟨x6, rfl, ⟨hx6a, hx6b⟩, hx6⟩, rfl⟩ := hp6
          show hpV _ _ _ _ _ _ _ _ _ _ _ _ _ _ _ _ _ _ _ _ _ (_ :: _)
          refine h_if_eq (tgt := 36) C dX9_still_27 (by decide) ⟨by omega, by omega⟩ (fun h7 => ?_) (fun h7 => ?_)
          · refine h_iload_n C dX9_still_36 1 rfl rfl ?_
            refine h_ireturn C hr hlk dX9_still_37 ?_
            exact ⟨⟨_, rfl, ⟨by omega, by omega⟩⟩, hI1, hF1⟩
          · refine h_iinc (lv' := [(1, .int (hpI (w4_1 + (-1)))), (0, .ref (z + 195))]) C dX9_still_30 1 rfl rfl (by decide) rfl ?_
            refine h_goto (tgt := 15) C dX9_still_33 (by decide) ?_
            exact hp_sub [1, 0] rfl (ih4 (w4_1 + (-1)) (by omega) (by omega) (by omega))
    exact hp_sub [1, 0] rfl (L4 8589934592 x3 (by omega) (by omega) (by omega))
  · refine h_bipush C dX9_still_7 (by decide) ?_
    refine h_ireturn C hr hlk dX9_still_9 ?_
    exact ⟨⟨_, rfl, ⟨by decide, by decide⟩⟩, hI1, hF1⟩
abbrev rgX9_rows : Room := { frames := 5, cells := 0, slots := 0, locals := 110 }
abbrev pgX9_rows (z : Nat) (σ : hpMem) : Option Value → hpMem → Prop := fun r τ => (∃ x : Int, r = some (.int (hpI x)) ∧ (hpR x)) ∧ hpInv τ ∧ (∀ j i : Nat, (j < 195 ∨ j = 198 ∨ 213 ≤ j) → τ j i = σ j i)
set_option maxHeartbeats 4000000 in
set_option maxRecDepth 20000 in
theorem tgX9_rows (l : Launch) (D : va_G) (cy : Nat → ClassId) (z : Nat) (σ : hpMem) (hI : hpInv σ) : hpM l D cy z yX9_rows cX9_rows 3 (some .int) rgX9_rows [.ref (z + 195)] σ (pgX9_rows z σ) := by
  refine hp_met rfl (Nat.le_of_ble_eq_true rfl) (fun p e s m below meth c C Z hr hlk => ?_)
  have hF0 : ∀ j i : Nat, (j < 195 ∨ j = 198 ∨ 213 ≤ j) → σ j i = σ j i := fun j i _ => rfl
  refine h_aload_n C dX9_rows_0 0 rfl rfl ?_
  refine h_callV (As := []) (rest := []) C Z yyX9_asksMoor wd_1516 (tgX9_asksMoor l D cy z _ hI) kd_195 rfl rfl ⟨rfl, rfl, Nat.le_of_ble_eq_true rfl, Nat.le_of_ble_eq_true rfl⟩ ⟨Nat.le_of_ble_eq_true rfl, Nat.le_of_ble_eq_true rfl⟩ (Nat.le_of_ble_eq_true rfl) dX9_rows_1 (fun r1 τ1 hp1 => ?_)
  obtain ⟨x1, rfl, ⟨hx1a, hx1b⟩, hI1, hG1, hq1_0⟩ := hp1
  have hF1 : ∀ j i : Nat, (j < 195 ∨ j = 198 ∨ 213 ≤ j) → τ1 j i = σ j i := fun j i h_0 => (hG1 j i (by omega) (by omega) (by omega) (by omega) (by omega) (by omega)).trans (hF0 j i h_0)
  show hpV _ _ _ _ _ _ _ _ _ _ _ _ _ _ _ _ _ _ _ _ _ (_ :: _)
  refine h_if_ne (tgt := 10) C dX9_rows_4 (by decide) ⟨by omega, by omega⟩ (fun h2 => ?_) (fun h2 => ?_)
  · refine h_iconst C dX9_rows_10 ?_
    refine h_istore_n (lv' := [(1, .int (hpI 0)), (0, .ref (z + 195))]) C dX9_rows_11 rfl (by decide) rfl ?_
    refine h_iconst C dX9_rows_12 ?_
    refine h_istore_n (lv' := [(2, .int (hpI 0)), (1, .int (hpI 0)), (0, .ref (z + 195))]) C dX9_rows_13 rfl (by decide) rfl ?_
    have L3 : ∀ (n3 : Nat) (w3_1 : Int) (w3_2 : Int), -2147483648 ≤ w3_1 → w3_1 ≤ 2147483647 → 0 ≤ w3_2 → w3_2 ≤ 2147483647 → (4294967296 - w3_2) < (n3 : Int) → hpF p l e rgX9_rows s m [.ref (z + 195)] below meth c 3 D cy z (pgX9_rows z σ) τ1 14 [(0, .ref (z + 195)), (1, .int (hpI w3_1)), (2, .int (hpI w3_2))] [] := by
      intro n3
      induction n3 with
      | zero => intro w3_1 w3_2 hv3_0 hv3_1 hv3_2 hv3_3 hm3; exfalso; omega
      | succ n3 ih3 =>
        intro w3_1 w3_2 hv3_0 hv3_1 hv3_2 hv3_3 hm3
        refine h_iload_n C dX9_rows_14 2 rfl rfl ?_
        refine h_aload_n C dX9_rows_15 0 rfl rfl ?_
        refine h_callV (As := []) (rest := [.int (hpI w3_2)]) C Z yyX9_days wd_1544 (tgX9_days l D cy z _ hI1) kd_195 rfl rfl ⟨rfl, rfl, Nat.le_of_ble_eq_true rfl, Nat.le_of_ble_eq_true rfl⟩ ⟨Nat.le_of_ble_eq_true rfl, Nat.le_of_ble_eq_true rfl⟩ (Nat.le_of_ble_eq_true rfl) dX9_rows_16 (fun r4 τ4 hp4 => ?_)
        obtain ⟨⟨x4, rfl, ⟨hx4a, hx4b⟩, hx4⟩, rfl⟩ := hp4
        show hpV _ _ _ _ _ _ _ _ _ _ _ _ _ _ _ _ _ _ _ _ _ (_ :: _)
        refine h_icmp_gt (tgt := 45) C dX9_rows_19 (by decide) ⟨by omega, by omega⟩ ⟨by omega, by omega⟩ (fun h5 => ?_) (fun h5 => ?_)
        · refine h_iload_n C dX9_rows_45 1 rfl rfl ?_
          refine h_ireturn C hr hlk dX9_rows_46 ?_
          exact ⟨⟨_, rfl, ⟨by omega, by omega⟩⟩, hI1, hF1⟩
        · refine h_iload_n C dX9_rows_22 1 rfl rfl ?_
          refine h_aload_n C dX9_rows_23 0 rfl rfl ?_
          refine h_iload_n C dX9_rows_24 2 rfl rfl ?_
          refine h_callV (As := [.int (hpI w3_2)]) (rest := [.int (hpI w3_1)]) C Z yyX9_firstSame wd_1637 (tgX9_firstSame l D cy z _ w3_2 ⟨by omega, by omega⟩ hI1 (by omega)) kd_195 rfl rfl ⟨rfl, rfl, Nat.le_of_ble_eq_true rfl, Nat.le_of_ble_eq_true rfl⟩ ⟨Nat.le_of_ble_eq_true rfl, Nat.le_of_ble_eq_true rfl⟩ (Nat.le_of_ble_eq_true rfl) dX9_rows_25 (fun r6 τ6 hp6 => ?_)
          obtain ⟨⟨x6, rfl, ⟨hx6a, hx6b⟩⟩, rfl⟩ := hp6
          show hpV _ _ _ _ _ _ _ _ _ _ _ _ _ _ _ _ _ _ _ _ _ (_ :: _)
          refine h_iload_n C dX9_rows_28 2 rfl rfl ?_
          refine h_icmp_ne (tgt := 36) C dX9_rows_29 (by decide) ⟨by omega, by omega⟩ ⟨by omega, by omega⟩ (fun h7 => ?_) (fun h7 => ?_)
          · refine h_iconst C dX9_rows_36 ?_
            refine h_iadd C dX9_rows_37 rfl ?_
            refine h_istore_n (lv' := [(1, .int (hpI (w3_1 + 0))), (0, .ref (z + 195)), (2, .int (hpI w3_2))]) C dX9_rows_38 rfl (by decide) rfl ?_
            refine h_iinc (lv' := [(2, .int (hpI (w3_2 + 1))), (1, .int (hpI (w3_1 + 0))), (0, .ref (z + 195))]) C dX9_rows_39 2 rfl rfl (by decide) rfl ?_
            refine h_goto (tgt := 14) C dX9_rows_42 (by decide) ?_
            exact hp_sub [2, 1, 0] rfl (ih3 (w3_1 + 0) (w3_2 + 1) (by omega) (by omega) (by omega) (by omega) (by omega))
          · refine h_iconst C dX9_rows_32 ?_
            refine h_goto (tgt := 37) C dX9_rows_33 (by decide) ?_
            refine h_iadd C dX9_rows_37 rfl ?_
            refine hp_anyI (fun r8 hr8 => ?_)
            obtain ⟨hr8a, hr8b⟩ := hr8
            refine h_istore_n (lv' := [(1, .int (hpI r8)), (0, .ref (z + 195)), (2, .int (hpI w3_2))]) C dX9_rows_38 rfl (by decide) rfl ?_
            refine h_iinc (lv' := [(2, .int (hpI (w3_2 + 1))), (1, .int (hpI r8)), (0, .ref (z + 195))]) C dX9_rows_39 2 rfl rfl (by decide) rfl ?_
            refine h_goto (tgt := 14) C dX9_rows_42 (by decide) ?_
            exact hp_sub [2, 1, 0] rfl (ih3 r8 (w3_2 + 1) (by omega) (by omega) (by omega) (by omega) (by omega))
    exact hp_sub [2, 1, 0] rfl (L3 8589934592 0 0 (by omega) (by omega) (by omega) (by omega) (by omega))
  · refine h_bipush C dX9_rows_7 (by decide) ?_
    refine h_ireturn C hr hlk dX9_rows_9 ?_
    exact ⟨⟨_, rfl, ⟨by decide, by decide⟩⟩, hI1, hF1⟩
abbrev rgX9_stair : Room := { frames := 6, cells := 0, slots := 0, locals := 131 }
abbrev pgX9_stair (z : Nat) (σ : hpMem) (a0 : Int) : Option Value → hpMem → Prop := fun r τ => (∃ x : Int, r = some (.int (hpI x)) ∧ (hpR x)) ∧ hpInv τ ∧ (∀ j i : Nat, (j < 195 ∨ j = 198 ∨ 213 ≤ j) → τ j i = σ j i)
set_option maxHeartbeats 4000000 in
set_option maxRecDepth 20000 in
theorem tgX9_stair (l : Launch) (D : va_G) (cy : Nat → ClassId) (z : Nat) (σ : hpMem) (a0 : Int) (ha0 : hpR a0) (hI : hpInv σ) : hpM l D cy z yX9_stair cX9_stair 2 (some .int) rgX9_stair [.ref (z + 195), .int (hpI a0)] σ (pgX9_stair z σ a0) := by
  obtain ⟨ha01, ha02⟩ := ha0
  refine hp_met rfl (Nat.le_of_ble_eq_true rfl) (fun p e s m below meth c C Z hr hlk => ?_)
  have hF0 : ∀ j i : Nat, (j < 195 ∨ j = 198 ∨ 213 ≤ j) → σ j i = σ j i := fun j i _ => rfl
  refine h_aload_n C dX9_stair_0 0 rfl rfl ?_
  refine h_iload_n C dX9_stair_1 1 rfl rfl ?_
  refine h_callV (As := [.int (hpI a0)]) (rest := []) C Z yyX9_asksDay wd_1512 (tgX9_asksDay l D cy z _ a0 ⟨by omega, by omega⟩ hI) kd_195 rfl rfl ⟨rfl, rfl, Nat.le_of_ble_eq_true rfl, Nat.le_of_ble_eq_true rfl⟩ ⟨Nat.le_of_ble_eq_true rfl, Nat.le_of_ble_eq_true rfl⟩ (Nat.le_of_ble_eq_true rfl) dX9_stair_2 (fun r1 τ1 hp1 => ?_)
  obtain ⟨x1, rfl, ⟨hx1a, hx1b⟩, hx1, hI1, hG1, hq1_0⟩ := hp1
  have hF1 : ∀ j i : Nat, (j < 195 ∨ j = 198 ∨ 213 ≤ j) → τ1 j i = σ j i := fun j i h_0 => (hG1 j i (by omega) (by omega) (by omega) (by omega) (by omega) (by omega)).trans (hF0 j i h_0)
  show hpV _ _ _ _ _ _ _ _ _ _ _ _ _ _ _ _ _ _ _ _ _ (_ :: _)
  refine h_if_ne (tgt := 11) C dX9_stair_5 (by decide) ⟨by omega, by omega⟩ (fun h2 => ?_) (fun h2 => ?_)
  · refine h_aload_n C dX9_stair_11 0 rfl rfl ?_
    refine h_iload_n C dX9_stair_12 1 rfl rfl ?_
    refine h_callV (As := [.int (hpI a0)]) (rest := []) C Z yyX9_isStair wd_1657 (tgX9_isStair l D cy z _ a0 ⟨by omega, by omega⟩ hI1 (by omega)) kd_195 rfl rfl ⟨rfl, rfl, Nat.le_of_ble_eq_true rfl, Nat.le_of_ble_eq_true rfl⟩ ⟨Nat.le_of_ble_eq_true rfl, Nat.le_of_ble_eq_true rfl⟩ (Nat.le_of_ble_eq_true rfl) dX9_stair_13 (fun r3 τ3 hp3 => ?_)
    obtain ⟨⟨x3, rfl, ⟨hx3a, hx3b⟩⟩, rfl⟩ := hp3
    show hpV _ _ _ _ _ _ _ _ _ _ _ _ _ _ _ _ _ _ _ _ _ (_ :: _)
    refine h_if_eq (tgt := 23) C dX9_stair_16 (by decide) ⟨by omega, by omega⟩ (fun h4 => ?_) (fun h4 => ?_)
    · refine h_iconst C dX9_stair_23 ?_
      refine h_ireturn C hr hlk dX9_stair_24 ?_
      exact ⟨⟨_, rfl, ⟨by decide, by decide⟩⟩, hI1, hF1⟩
    · refine h_iconst C dX9_stair_19 ?_
      refine h_goto (tgt := 24) C dX9_stair_20 (by decide) ?_
      refine h_ireturn C hr hlk dX9_stair_24 ?_
      exact ⟨⟨_, rfl, ⟨by decide, by decide⟩⟩, hI1, hF1⟩
  · refine h_bipush C dX9_stair_8 (by decide) ?_
    refine h_ireturn C hr hlk dX9_stair_10 ?_
    exact ⟨⟨_, rfl, ⟨by decide, by decide⟩⟩, hI1, hF1⟩
abbrev rgX9_stairs : Room := { frames := 5, cells := 0, slots := 0, locals := 110 }
abbrev pgX9_stairs (z : Nat) (σ : hpMem) : Option Value → hpMem → Prop := fun r τ => (∃ x : Int, r = some (.int (hpI x)) ∧ (hpR x)) ∧ hpInv τ ∧ (∀ j i : Nat, (j < 195 ∨ j = 198 ∨ 213 ≤ j) → τ j i = σ j i)
set_option maxHeartbeats 4000000 in
set_option maxRecDepth 20000 in
theorem tgX9_stairs (l : Launch) (D : va_G) (cy : Nat → ClassId) (z : Nat) (σ : hpMem) (hI : hpInv σ) : hpM l D cy z yX9_stairs cX9_stairs 2 (some .int) rgX9_stairs [.ref (z + 195)] σ (pgX9_stairs z σ) := by
  refine hp_met rfl (Nat.le_of_ble_eq_true rfl) (fun p e s m below meth c C Z hr hlk => ?_)
  have hF0 : ∀ j i : Nat, (j < 195 ∨ j = 198 ∨ 213 ≤ j) → σ j i = σ j i := fun j i _ => rfl
  refine h_aload_n C dX9_stairs_0 0 rfl rfl ?_
  refine h_callV (As := []) (rest := []) C Z yyX9_asksMoor wd_1516 (tgX9_asksMoor l D cy z _ hI) kd_195 rfl rfl ⟨rfl, rfl, Nat.le_of_ble_eq_true rfl, Nat.le_of_ble_eq_true rfl⟩ ⟨Nat.le_of_ble_eq_true rfl, Nat.le_of_ble_eq_true rfl⟩ (Nat.le_of_ble_eq_true rfl) dX9_stairs_1 (fun r1 τ1 hp1 => ?_)
  obtain ⟨x1, rfl, ⟨hx1a, hx1b⟩, hI1, hG1, hq1_0⟩ := hp1
  have hF1 : ∀ j i : Nat, (j < 195 ∨ j = 198 ∨ 213 ≤ j) → τ1 j i = σ j i := fun j i h_0 => (hG1 j i (by omega) (by omega) (by omega) (by omega) (by omega) (by omega)).trans (hF0 j i h_0)
  show hpV _ _ _ _ _ _ _ _ _ _ _ _ _ _ _ _ _ _ _ _ _ (_ :: _)
  refine h_if_ne (tgt := 10) C dX9_stairs_4 (by decide) ⟨by omega, by omega⟩ (fun h2 => ?_) (fun h2 => ?_)
  · refine h_iconst C dX9_stairs_10 ?_
    refine h_istore_n (lv' := [(1, .int (hpI 0)), (0, .ref (z + 195))]) C dX9_stairs_11 rfl (by decide) rfl ?_
    have L3 : ∀ (n3 : Nat) (w3_1 : Int), 0 ≤ w3_1 → w3_1 ≤ 2147483647 → (4294967296 - w3_1) < (n3 : Int) → hpF p l e rgX9_stairs s m [.ref (z + 195)] below meth c 2 D cy z (pgX9_stairs z σ) τ1 12 [(0, .ref (z + 195)), (1, .int (hpI w3_1))] [] := by
      intro n3
      induction n3 with
      | zero => intro w3_1 hv3_0 hv3_1 hm3; exfalso; omega
      | succ n3 ih3 =>
        intro w3_1 hv3_0 hv3_1 hm3
        refine h_iload_n C dX9_stairs_12 1 rfl rfl ?_
        refine h_aload_n C dX9_stairs_13 0 rfl rfl ?_
        refine h_callV (As := []) (rest := [.int (hpI w3_1)]) C Z yyX9_days wd_1544 (tgX9_days l D cy z _ hI1) kd_195 rfl rfl ⟨rfl, rfl, Nat.le_of_ble_eq_true rfl, Nat.le_of_ble_eq_true rfl⟩ ⟨Nat.le_of_ble_eq_true rfl, Nat.le_of_ble_eq_true rfl⟩ (Nat.le_of_ble_eq_true rfl) dX9_stairs_14 (fun r4 τ4 hp4 => ?_)
        obtain ⟨⟨x4, rfl, ⟨hx4a, hx4b⟩, hx4⟩, rfl⟩ := hp4
        show hpV _ _ _ _ _ _ _ _ _ _ _ _ _ _ _ _ _ _ _ _ _ (_ :: _)
        refine h_icmp_gt (tgt := 36) C dX9_stairs_17 (by decide) ⟨by omega, by omega⟩ ⟨by omega, by omega⟩ (fun h5 => ?_) (fun h5 => ?_)
        · refine h_iconst C dX9_stairs_36 ?_
          refine h_ireturn C hr hlk dX9_stairs_37 ?_
          exact ⟨⟨_, rfl, ⟨by decide, by decide⟩⟩, hI1, hF1⟩
        · refine h_aload_n C dX9_stairs_20 0 rfl rfl ?_
          refine h_iload_n C dX9_stairs_21 1 rfl rfl ?_
          refine h_callV (As := [.int (hpI w3_1)]) (rest := []) C Z yyX9_isStair wd_1657 (tgX9_isStair l D cy z _ w3_1 ⟨by omega, by omega⟩ hI1 (by omega)) kd_195 rfl rfl ⟨rfl, rfl, Nat.le_of_ble_eq_true rfl, Nat.le_of_ble_eq_true rfl⟩ ⟨Nat.le_of_ble_eq_true rfl, Nat.le_of_ble_eq_true rfl⟩ (Nat.le_of_ble_eq_true rfl) dX9_stairs_22 (fun r6 τ6 hp6 => ?_)
          obtain ⟨⟨x6, rfl, ⟨hx6a, hx6b⟩⟩, rfl⟩ := hp6
          show hpV _ _ _ _ _ _ _ _ _ _ _ _ _ _ _ _ _ _ _ _ _ (_ :: _)
          refine h_if_eq (tgt := 30) C dX9_stairs_25 (by decide) ⟨by omega, by omega⟩ (fun h7 => ?_) (fun h7 => ?_)
          · refine h_iinc (lv' := [(1, .int (hpI (w3_1 + 1))), (0, .ref (z + 195))]) C dX9_stairs_30 1 rfl rfl (by decide) rfl ?_
            refine h_goto (tgt := 12) C dX9_stairs_33 (by decide) ?_
            exact hp_sub [1, 0] rfl (ih3 (w3_1 + 1) (by omega) (by omega) (by omega))
          · refine h_iload_n C dX9_stairs_28 1 rfl rfl ?_
            refine h_ireturn C hr hlk dX9_stairs_29 ?_
            exact ⟨⟨_, rfl, ⟨by omega, by omega⟩⟩, hI1, hF1⟩
    exact hp_sub [1, 0] rfl (L3 8589934592 0 (by omega) (by omega) (by omega))
  · refine h_bipush C dX9_stairs_7 (by decide) ?_
    refine h_ireturn C hr hlk dX9_stairs_9 ?_
    exact ⟨⟨_, rfl, ⟨by decide, by decide⟩⟩, hI1, hF1⟩
abbrev rgX9_square : Room := { frames := 6, cells := 0, slots := 0, locals := 131 }
abbrev pgX9_square (z : Nat) (σ : hpMem) (a0 : Int) : Option Value → hpMem → Prop := fun r τ => (∃ x : Int, r = some (.int (hpI x)) ∧ (hpR x)) ∧ hpInv τ ∧ (∀ j i : Nat, (j < 195 ∨ j = 198 ∨ 213 ≤ j) → τ j i = σ j i)
set_option maxHeartbeats 4000000 in
set_option maxRecDepth 20000 in
theorem tgX9_square (l : Launch) (D : va_G) (cy : Nat → ClassId) (z : Nat) (σ : hpMem) (a0 : Int) (ha0 : hpR a0) (hI : hpInv σ) : hpM l D cy z yX9_square cX9_square 3 (some .int) rgX9_square [.ref (z + 195), .int (hpI a0)] σ (pgX9_square z σ a0) := by
  obtain ⟨ha01, ha02⟩ := ha0
  refine hp_met rfl (Nat.le_of_ble_eq_true rfl) (fun p e s m below meth c C Z hr hlk => ?_)
  have hF0 : ∀ j i : Nat, (j < 195 ∨ j = 198 ∨ 213 ≤ j) → σ j i = σ j i := fun j i _ => rfl
  refine h_aload_n C dX9_square_0 0 rfl rfl ?_
  refine h_iload_n C dX9_square_1 1 rfl rfl ?_
  refine h_callV (As := [.int (hpI a0)]) (rest := []) C Z yyX9_asksDay wd_1512 (tgX9_asksDay l D cy z _ a0 ⟨by omega, by omega⟩ hI) kd_195 rfl rfl ⟨rfl, rfl, Nat.le_of_ble_eq_true rfl, Nat.le_of_ble_eq_true rfl⟩ ⟨Nat.le_of_ble_eq_true rfl, Nat.le_of_ble_eq_true rfl⟩ (Nat.le_of_ble_eq_true rfl) dX9_square_2 (fun r1 τ1 hp1 => ?_)
  obtain ⟨x1, rfl, ⟨hx1a, hx1b⟩, hx1, hI1, hG1, hq1_0⟩ := hp1
  have hF1 : ∀ j i : Nat, (j < 195 ∨ j = 198 ∨ 213 ≤ j) → τ1 j i = σ j i := fun j i h_0 => (hG1 j i (by omega) (by omega) (by omega) (by omega) (by omega) (by omega)).trans (hF0 j i h_0)
  show hpV _ _ _ _ _ _ _ _ _ _ _ _ _ _ _ _ _ _ _ _ _ (_ :: _)
  refine h_if_ne (tgt := 11) C dX9_square_5 (by decide) ⟨by omega, by omega⟩ (fun h2 => ?_) (fun h2 => ?_)
  · refine h_iconst C dX9_square_11 ?_
    refine h_istore_n (lv' := [(2, .int (hpI 0)), (0, .ref (z + 195)), (1, .int (hpI a0))]) C dX9_square_12 rfl (by decide) rfl ?_
    have L3 : ∀ (n3 : Nat) (w3_2 : Int), 0 ≤ w3_2 → w3_2 ≤ 2147483647 → (4294967296 - w3_2) < (n3 : Int) → hpF p l e rgX9_square s m [.ref (z + 195), .int (hpI a0)] below meth c 3 D cy z (pgX9_square z σ a0) τ1 13 [(0, .ref (z + 195)), (1, .int (hpI a0)), (2, .int (hpI w3_2))] [] := by
      intro n3
      induction n3 with
      | zero => intro w3_2 hv3_0 hv3_1 hm3; exfalso; omega
      | succ n3 ih3 =>
        intro w3_2 hv3_0 hv3_1 hm3
        refine h_iload_n C dX9_square_13 2 rfl rfl ?_
        refine h_aload_n C dX9_square_14 0 rfl rfl ?_
        refine h_iload_n C dX9_square_15 1 rfl rfl ?_
        refine h_callV (As := [.int (hpI a0)]) (rest := [.int (hpI w3_2)]) C Z yyX9_manyOf wd_1536 (tgX9_manyOf l D cy z _ a0 ⟨by omega, by omega⟩ hI1 (by omega)) kd_195 rfl rfl ⟨rfl, rfl, Nat.le_of_ble_eq_true rfl, Nat.le_of_ble_eq_true rfl⟩ ⟨Nat.le_of_ble_eq_true rfl, Nat.le_of_ble_eq_true rfl⟩ (Nat.le_of_ble_eq_true rfl) dX9_square_16 (fun r4 τ4 hp4 => ?_)
        obtain ⟨⟨x4, rfl, ⟨hx4a, hx4b⟩, hx4⟩, rfl⟩ := hp4
        show hpV _ _ _ _ _ _ _ _ _ _ _ _ _ _ _ _ _ _ _ _ _ (_ :: _)
        refine h_icmp_ge (tgt := 38) C dX9_square_19 (by decide) ⟨by omega, by omega⟩ ⟨by omega, by omega⟩ (fun h5 => ?_) (fun h5 => ?_)
        · refine h_iload_n C dX9_square_38 2 rfl rfl ?_
          refine h_ireturn C hr hlk dX9_square_39 ?_
          exact ⟨⟨_, rfl, ⟨by omega, by omega⟩⟩, hI1, hF1⟩
        · refine h_aload_n C dX9_square_22 0 rfl rfl ?_
          refine h_iload_n C dX9_square_23 1 rfl rfl ?_
          refine h_iload_n C dX9_square_24 2 rfl rfl ?_
          refine h_callV (As := [.int (hpI a0), .int (hpI w3_2)]) (rest := []) C Z yyX9_heightOf wd_1540 (tgX9_heightOf l D cy z _ a0 ⟨by omega, by omega⟩ w3_2 ⟨by omega, by omega⟩ hI1 (by omega) (by omega)) kd_195 rfl rfl ⟨rfl, rfl, Nat.le_of_ble_eq_true rfl, Nat.le_of_ble_eq_true rfl⟩ ⟨Nat.le_of_ble_eq_true rfl, Nat.le_of_ble_eq_true rfl⟩ (Nat.le_of_ble_eq_true rfl) dX9_square_25 (fun r6 τ6 hp6 => ?_)
          obtain ⟨⟨x6, rfl, ⟨hx6a, hx6b⟩, hx6⟩, rfl⟩ := hp6
          show hpV _ _ _ _ _ _ _ _ _ _ _ _ _ _ _ _ _ _ _ _ _ (_ :: _)
          refine h_iload_n C dX9_square_28 2 rfl rfl ?_
          refine h_icmp_le (tgt := 38) C dX9_square_29 (by decide) ⟨by omega, by omega⟩ ⟨by omega, by omega⟩ (fun h7 => ?_) (fun h7 => ?_)
          · refine h_iload_n C dX9_square_38 2 rfl rfl ?_
            refine h_ireturn C hr hlk dX9_square_39 ?_
            exact ⟨⟨_, rfl, ⟨by omega, by omega⟩⟩, hI1, hF1⟩
          · refine h_iinc (lv' := [(2, .int (hpI (w3_2 + 1))), (0, .ref (z + 195)), (1, .int (hpI a0))]) C dX9_square_32 2 rfl rfl (by decide) rfl ?_
            refine h_goto (tgt := 13) C dX9_square_35 (by decide) ?_
            exact hp_sub [1, 2, 0] rfl (ih3 (w3_2 + 1) (by omega) (by omega) (by omega))
    exact hp_sub [1, 2, 0] rfl (L3 8589934592 0 (by omega) (by omega) (by omega))
  · refine h_bipush C dX9_square_8 (by decide) ?_
    refine h_ireturn C hr hlk dX9_square_10 ?_
    exact ⟨⟨_, rfl, ⟨by decide, by decide⟩⟩, hI1, hF1⟩
abbrev rgX9_turnedHeap : Room := { frames := 1, cells := 0, slots := 0, locals := 22 }
abbrev pgX9_turnedHeap (z : Nat) (σ : hpMem) (a0 : Int) (a1 : Int) : Option Value → hpMem → Prop := fun r τ => (∃ x : Int, r = some (.int (hpI x)) ∧ (hpR x)) ∧ σ = τ
set_option maxHeartbeats 4000000 in
set_option maxRecDepth 20000 in
theorem tgX9_turnedHeap (l : Launch) (D : va_G) (cy : Nat → ClassId) (z : Nat) (σ : hpMem) (a0 : Int) (ha0 : hpR a0) (a1 : Int) (ha1 : hpR a1) (hI : hpInv σ) (hr0 : 0 ≤ a0 ∧ a0 ≤ 20) : hpM l D cy z yX9_turnedHeap cX9_turnedHeap 4 (some .int) rgX9_turnedHeap [.ref (z + 195), .int (hpI a0), .int (hpI a1)] σ (pgX9_turnedHeap z σ a0 a1) := by
  obtain ⟨ha01, ha02⟩ := ha0
  obtain ⟨ha11, ha12⟩ := ha1
  refine hp_met rfl (Nat.le_of_ble_eq_true rfl) (fun p e s m below meth c C Z hr hlk => ?_)
  refine h_iconst C dX9_turnedHeap_0 ?_
  refine h_istore_n (lv' := [(3, .int (hpI 0)), (0, .ref (z + 195)), (1, .int (hpI a0)), (2, .int (hpI a1))]) C dX9_turnedHeap_1 rfl (by decide) rfl ?_
  have L1 : ∀ (n1 : Nat) (w1_3 : Int), 0 ≤ w1_3 → w1_3 ≤ 2147483647 → (4294967296 - w1_3) < (n1 : Int) → hpF p l e rgX9_turnedHeap s m [.ref (z + 195), .int (hpI a0), .int (hpI a1)] below meth c 4 D cy z (pgX9_turnedHeap z σ a0 a1) σ 2 [(0, .ref (z + 195)), (1, .int (hpI a0)), (2, .int (hpI a1)), (3, .int (hpI w1_3))] [] := by
    intro n1
    induction n1 with
    | zero => intro w1_3 hv1_0 hv1_1 hm1; exfalso; omega
    | succ n1 ih1 =>
      intro w1_3 hv1_0 hv1_1 hm1
      refine h_iload_n C dX9_turnedHeap_2 3 rfl rfl ?_
      refine h_aload_n C dX9_turnedHeap_3 0 rfl rfl ?_
      refine h_iload_n C dX9_turnedHeap_4 1 rfl rfl ?_
      refine h_callV (As := [.int (hpI a0)]) (rest := [.int (hpI w1_3)]) C Z yyX9_manyOf wd_1536 (tgX9_manyOf l D cy z _ a0 ⟨by omega, by omega⟩ hI (by omega)) kd_195 rfl rfl ⟨rfl, rfl, Nat.le_of_ble_eq_true rfl, Nat.le_of_ble_eq_true rfl⟩ ⟨Nat.le_of_ble_eq_true rfl, Nat.le_of_ble_eq_true rfl⟩ (Nat.le_of_ble_eq_true rfl) dX9_turnedHeap_5 (fun r2 τ2 hp2 => ?_)
      obtain ⟨⟨x2, rfl, ⟨hx2a, hx2b⟩, hx2⟩, rfl⟩ := hp2
      show hpV _ _ _ _ _ _ _ _ _ _ _ _ _ _ _ _ _ _ _ _ _ (_ :: _)
      refine h_icmp_ge (tgt := 27) C dX9_turnedHeap_8 (by decide) ⟨by omega, by omega⟩ ⟨by omega, by omega⟩ (fun h3 => ?_) (fun h3 => ?_)
      · refine h_iload_n C dX9_turnedHeap_27 3 rfl rfl ?_
        refine h_ireturn C hr hlk dX9_turnedHeap_28 ?_
        exact ⟨⟨_, rfl, ⟨by omega, by omega⟩⟩, rfl⟩
      · refine h_aload_n C dX9_turnedHeap_11 0 rfl rfl ?_
        refine h_iload_n C dX9_turnedHeap_12 1 rfl rfl ?_
        refine h_iload_n C dX9_turnedHeap_13 3 rfl rfl ?_
        refine h_callV (As := [.int (hpI a0), .int (hpI w1_3)]) (rest := []) C Z yyX9_heightOf wd_1540 (tgX9_heightOf l D cy z _ a0 ⟨by omega, by omega⟩ w1_3 ⟨by omega, by omega⟩ hI (by omega) (by omega)) kd_195 rfl rfl ⟨rfl, rfl, Nat.le_of_ble_eq_true rfl, Nat.le_of_ble_eq_true rfl⟩ ⟨Nat.le_of_ble_eq_true rfl, Nat.le_of_ble_eq_true rfl⟩ (Nat.le_of_ble_eq_true rfl) dX9_turnedHeap_14 (fun r4 τ4 hp4 => ?_)
        obtain ⟨⟨x4, rfl, ⟨hx4a, hx4b⟩, hx4⟩, rfl⟩ := hp4
        show hpV _ _ _ _ _ _ _ _ _ _ _ _ _ _ _ _ _ _ _ _ _ (_ :: _)
        refine h_iload_n C dX9_turnedHeap_17 2 rfl rfl ?_
        refine h_icmp_le (tgt := 27) C dX9_turnedHeap_18 (by decide) ⟨by omega, by omega⟩ ⟨by omega, by omega⟩ (fun h5 => ?_) (fun h5 => ?_)
        · refine h_iload_n C dX9_turnedHeap_27 3 rfl rfl ?_
          refine h_ireturn C hr hlk dX9_turnedHeap_28 ?_
          exact ⟨⟨_, rfl, ⟨by omega, by omega⟩⟩, rfl⟩
        · refine h_iinc (lv' := [(3, .int (hpI (w1_3 + 1))), (0, .ref (z + 195)), (1, .int (hpI a0)), (2, .int (hpI a1))]) C dX9_turnedHeap_21 3 rfl rfl (by decide) rfl ?_
          refine h_goto (tgt := 2) C dX9_turnedHeap_24 (by decide) ?_
          exact hp_sub [1, 2, 3, 0] rfl (ih1 (w1_3 + 1) (by omega) (by omega) (by omega))
  exact hp_sub [1, 2, 3, 0] rfl (L1 8589934592 0 (by omega) (by omega) (by omega))
abbrev rgX9_flip : Room := { frames := 6, cells := 0, slots := 0, locals := 131 }
abbrev pgX9_flip (z : Nat) (σ : hpMem) (a0 : Int) (a1 : Int) : Option Value → hpMem → Prop := fun r τ => (∃ x : Int, r = some (.int (hpI x)) ∧ (hpR x)) ∧ hpInv τ ∧ (∀ j i : Nat, (j < 195 ∨ j = 198 ∨ 213 ≤ j) → τ j i = σ j i)
set_option maxHeartbeats 4000000 in
set_option maxRecDepth 20000 in
theorem tgX9_flip (l : Launch) (D : va_G) (cy : Nat → ClassId) (z : Nat) (σ : hpMem) (a0 : Int) (ha0 : hpR a0) (a1 : Int) (ha1 : hpR a1) (hI : hpInv σ) : hpM l D cy z yX9_flip cX9_flip 3 (some .int) rgX9_flip [.ref (z + 195), .int (hpI a0), .int (hpI a1)] σ (pgX9_flip z σ a0 a1) := by
  obtain ⟨ha01, ha02⟩ := ha0
  obtain ⟨ha11, ha12⟩ := ha1
  refine hp_met rfl (Nat.le_of_ble_eq_true rfl) (fun p e s m below meth c C Z hr hlk => ?_)
  have hF0 : ∀ j i : Nat, (j < 195 ∨ j = 198 ∨ 213 ≤ j) → σ j i = σ j i := fun j i _ => rfl
  refine h_aload_n C dX9_flip_0 0 rfl rfl ?_
  refine h_iload_n C dX9_flip_1 1 rfl rfl ?_
  refine h_callV (As := [.int (hpI a0)]) (rest := []) C Z yyX9_asksDay wd_1512 (tgX9_asksDay l D cy z _ a0 ⟨by omega, by omega⟩ hI) kd_195 rfl rfl ⟨rfl, rfl, Nat.le_of_ble_eq_true rfl, Nat.le_of_ble_eq_true rfl⟩ ⟨Nat.le_of_ble_eq_true rfl, Nat.le_of_ble_eq_true rfl⟩ (Nat.le_of_ble_eq_true rfl) dX9_flip_2 (fun r1 τ1 hp1 => ?_)
  obtain ⟨x1, rfl, ⟨hx1a, hx1b⟩, hx1, hI1, hG1, hq1_0⟩ := hp1
  have hF1 : ∀ j i : Nat, (j < 195 ∨ j = 198 ∨ 213 ≤ j) → τ1 j i = σ j i := fun j i h_0 => (hG1 j i (by omega) (by omega) (by omega) (by omega) (by omega) (by omega)).trans (hF0 j i h_0)
  show hpV _ _ _ _ _ _ _ _ _ _ _ _ _ _ _ _ _ _ _ _ _ (_ :: _)
  refine h_if_eq (tgt := 12) C dX9_flip_5 (by decide) ⟨by omega, by omega⟩ (fun h2 => ?_) (fun h2 => ?_)
  · refine h_bipush C dX9_flip_12 (by decide) ?_
    refine h_ireturn C hr hlk dX9_flip_14 ?_
    exact ⟨⟨_, rfl, ⟨by decide, by decide⟩⟩, hI1, hF1⟩
  · refine h_iload_n C dX9_flip_8 2 rfl rfl ?_
    refine h_if_ge (tgt := 15) C dX9_flip_9 (by decide) ⟨by omega, by omega⟩ (fun h3 => ?_) (fun h3 => ?_)
    · refine h_iload_n C dX9_flip_15 2 rfl rfl ?_
      refine h_aload_n C dX9_flip_16 0 rfl rfl ?_
      refine h_iload_n C dX9_flip_17 1 rfl rfl ?_
      refine h_callV (As := [.int (hpI a0)]) (rest := [.int (hpI a1)]) C Z yyX9_highestOf wd_1629 (tgX9_highestOf l D cy z _ a0 ⟨by omega, by omega⟩ hI1 (by omega)) kd_195 rfl rfl ⟨rfl, rfl, Nat.le_of_ble_eq_true rfl, Nat.le_of_ble_eq_true rfl⟩ ⟨Nat.le_of_ble_eq_true rfl, Nat.le_of_ble_eq_true rfl⟩ (Nat.le_of_ble_eq_true rfl) dX9_flip_18 (fun r4 τ4 hp4 => ?_)
      obtain ⟨⟨x4, rfl, ⟨hx4a, hx4b⟩⟩, rfl⟩ := hp4
      show hpV _ _ _ _ _ _ _ _ _ _ _ _ _ _ _ _ _ _ _ _ _ (_ :: _)
      refine h_icmp_ge (tgt := 33) C dX9_flip_21 (by decide) ⟨by omega, by omega⟩ ⟨by omega, by omega⟩ (fun h5 => ?_) (fun h5 => ?_)
      · refine h_iconst C dX9_flip_33 ?_
        refine h_ireturn C hr hlk dX9_flip_34 ?_
        exact ⟨⟨_, rfl, ⟨by decide, by decide⟩⟩, hI1, hF1⟩
      · refine h_aload_n C dX9_flip_24 0 rfl rfl ?_
        refine h_iload_n C dX9_flip_25 1 rfl rfl ?_
        refine h_iload_n C dX9_flip_26 2 rfl rfl ?_
        refine h_callV (As := [.int (hpI a0), .int (hpI a1)]) (rest := []) C Z yyX9_turnedHeap wd_1673 (tgX9_turnedHeap l D cy z _ a0 ⟨by omega, by omega⟩ a1 ⟨by omega, by omega⟩ hI1 (by omega)) kd_195 rfl rfl ⟨rfl, rfl, Nat.le_of_ble_eq_true rfl, Nat.le_of_ble_eq_true rfl⟩ ⟨Nat.le_of_ble_eq_true rfl, Nat.le_of_ble_eq_true rfl⟩ (Nat.le_of_ble_eq_true rfl) dX9_flip_27 (fun r6 τ6 hp6 => ?_)
        obtain ⟨⟨x6, rfl, ⟨hx6a, hx6b⟩⟩, rfl⟩ := hp6
        show hpV _ _ _ _ _ _ _ _ _ _ _ _ _ _ _ _ _ _ _ _ _ (_ :: _)
        refine h_goto (tgt := 34) C dX9_flip_30 (by decide) ?_
        refine h_ireturn C hr hlk dX9_flip_34 ?_
        exact ⟨⟨_, rfl, ⟨by omega, by omega⟩⟩, hI1, hF1⟩
    · refine h_bipush C dX9_flip_12 (by decide) ?_
      refine h_ireturn C hr hlk dX9_flip_14 ?_
      exact ⟨⟨_, rfl, ⟨by decide, by decide⟩⟩, hI1, hF1⟩
abbrev rgX9_even : Room := { frames := 6, cells := 0, slots := 0, locals := 131 }
abbrev pgX9_even (z : Nat) (σ : hpMem) (a0 : Int) : Option Value → hpMem → Prop := fun r τ => (∃ x : Int, r = some (.int (hpI x)) ∧ (hpR x)) ∧ hpInv τ ∧ (∀ j i : Nat, (j < 195 ∨ j = 198 ∨ 213 ≤ j) → τ j i = σ j i)
set_option maxHeartbeats 4000000 in
set_option maxRecDepth 20000 in
theorem tgX9_even (l : Launch) (D : va_G) (cy : Nat → ClassId) (z : Nat) (σ : hpMem) (a0 : Int) (ha0 : hpR a0) (hI : hpInv σ) : hpM l D cy z yX9_even cX9_even 4 (some .int) rgX9_even [.ref (z + 195), .int (hpI a0)] σ (pgX9_even z σ a0) := by
  obtain ⟨ha01, ha02⟩ := ha0
  refine hp_met rfl (Nat.le_of_ble_eq_true rfl) (fun p e s m below meth c C Z hr hlk => ?_)
  have hF0 : ∀ j i : Nat, (j < 195 ∨ j = 198 ∨ 213 ≤ j) → σ j i = σ j i := fun j i _ => rfl
  refine h_aload_n C dX9_even_0 0 rfl rfl ?_
  refine h_iload_n C dX9_even_1 1 rfl rfl ?_
  refine h_callV (As := [.int (hpI a0)]) (rest := []) C Z yyX9_asksDay wd_1512 (tgX9_asksDay l D cy z _ a0 ⟨by omega, by omega⟩ hI) kd_195 rfl rfl ⟨rfl, rfl, Nat.le_of_ble_eq_true rfl, Nat.le_of_ble_eq_true rfl⟩ ⟨Nat.le_of_ble_eq_true rfl, Nat.le_of_ble_eq_true rfl⟩ (Nat.le_of_ble_eq_true rfl) dX9_even_2 (fun r1 τ1 hp1 => ?_)
  obtain ⟨x1, rfl, ⟨hx1a, hx1b⟩, hx1, hI1, hG1, hq1_0⟩ := hp1
  have hF1 : ∀ j i : Nat, (j < 195 ∨ j = 198 ∨ 213 ≤ j) → τ1 j i = σ j i := fun j i h_0 => (hG1 j i (by omega) (by omega) (by omega) (by omega) (by omega) (by omega)).trans (hF0 j i h_0)
  show hpV _ _ _ _ _ _ _ _ _ _ _ _ _ _ _ _ _ _ _ _ _ (_ :: _)
  refine h_if_ne (tgt := 11) C dX9_even_5 (by decide) ⟨by omega, by omega⟩ (fun h2 => ?_) (fun h2 => ?_)
  · refine h_aload_n C dX9_even_11 0 rfl rfl ?_
    refine h_iload_n C dX9_even_12 1 rfl rfl ?_
    refine h_callV (As := [.int (hpI a0)]) (rest := []) C Z yyX9_highestOf wd_1629 (tgX9_highestOf l D cy z _ a0 ⟨by omega, by omega⟩ hI1 (by omega)) kd_195 rfl rfl ⟨rfl, rfl, Nat.le_of_ble_eq_true rfl, Nat.le_of_ble_eq_true rfl⟩ ⟨Nat.le_of_ble_eq_true rfl, Nat.le_of_ble_eq_true rfl⟩ (Nat.le_of_ble_eq_true rfl) dX9_even_13 (fun r3 τ3 hp3 => ?_)
    obtain ⟨⟨x3, rfl, ⟨hx3a, hx3b⟩⟩, rfl⟩ := hp3
    show hpV _ _ _ _ _ _ _ _ _ _ _ _ _ _ _ _ _ _ _ _ _ (_ :: _)
    refine h_aload_n C dX9_even_16 0 rfl rfl ?_
    refine h_iload_n C dX9_even_17 1 rfl rfl ?_
    refine h_callV (As := [.int (hpI a0)]) (rest := [.int (hpI x3)]) C Z yyX9_manyOf wd_1536 (tgX9_manyOf l D cy z _ a0 ⟨by omega, by omega⟩ hI1 (by omega)) kd_195 rfl rfl ⟨rfl, rfl, Nat.le_of_ble_eq_true rfl, Nat.le_of_ble_eq_true rfl⟩ ⟨Nat.le_of_ble_eq_true rfl, Nat.le_of_ble_eq_true rfl⟩ (Nat.le_of_ble_eq_true rfl) dX9_even_18 (fun r4 τ4 hp4 => ?_)
    obtain ⟨⟨x4, rfl, ⟨hx4a, hx4b⟩, hx4⟩, rfl⟩ := hp4
    show hpV _ _ _ _ _ _ _ _ _ _ _ _ _ _ _ _ _ _ _ _ _ (_ :: _)
    refine h_icmp_ne (tgt := 28) C dX9_even_21 (by decide) ⟨by omega, by omega⟩ ⟨by omega, by omega⟩ (fun h5 => ?_) (fun h5 => ?_)
    · refine h_iconst C dX9_even_28 ?_
      refine h_istore_n (lv' := [(2, .int (hpI 0)), (0, .ref (z + 195)), (1, .int (hpI a0))]) C dX9_even_29 rfl (by decide) rfl ?_
      refine h_iconst C dX9_even_30 ?_
      refine h_istore_n (lv' := [(3, .int (hpI 0)), (2, .int (hpI 0)), (0, .ref (z + 195)), (1, .int (hpI a0))]) C dX9_even_31 rfl (by decide) rfl ?_
      have L6 : ∀ (n6 : Nat) (w6_2 : Int) (w6_3 : Int), 0 ≤ w6_2 → w6_2 ≤ 1 → 0 ≤ w6_3 → w6_3 ≤ 700 → (4294967296 - w6_3) < (n6 : Int) → hpF p l e rgX9_even s m [.ref (z + 195), .int (hpI a0)] below meth c 4 D cy z (pgX9_even z σ a0) τ1 32 [(0, .ref (z + 195)), (1, .int (hpI a0)), (2, .int (hpI w6_2)), (3, .int (hpI w6_3))] [] := by
        intro n6
        induction n6 with
        | zero => intro w6_2 w6_3 hv6_0 hv6_1 hv6_2 hv6_3 hm6; exfalso; omega
        | succ n6 ih6 =>
          intro w6_2 w6_3 hv6_0 hv6_1 hv6_2 hv6_3 hm6
          refine h_iload_n C dX9_even_32 3 rfl rfl ?_
          refine h_aload_n C dX9_even_33 0 rfl rfl ?_
          refine h_iload_n C dX9_even_34 1 rfl rfl ?_
          refine h_callV (As := [.int (hpI a0)]) (rest := [.int (hpI w6_3)]) C Z yyX9_manyOf wd_1536 (tgX9_manyOf l D cy z _ a0 ⟨by omega, by omega⟩ hI1 (by omega)) kd_195 rfl rfl ⟨rfl, rfl, Nat.le_of_ble_eq_true rfl, Nat.le_of_ble_eq_true rfl⟩ ⟨Nat.le_of_ble_eq_true rfl, Nat.le_of_ble_eq_true rfl⟩ (Nat.le_of_ble_eq_true rfl) dX9_even_35 (fun r7 τ7 hp7 => ?_)
          obtain ⟨⟨x7, rfl, ⟨hx7a, hx7b⟩, hx7⟩, rfl⟩ := hp7
          show hpV _ _ _ _ _ _ _ _ _ _ _ _ _ _ _ _ _ _ _ _ _ (_ :: _)
          refine h_icmp_ge (tgt := 72) C dX9_even_38 (by decide) ⟨by omega, by omega⟩ ⟨by omega, by omega⟩ (fun h8 => ?_) (fun h8 => ?_)
          · refine h_iload_n C dX9_even_72 2 rfl rfl ?_
            refine h_if_eq (tgt := 80) C dX9_even_73 (by decide) ⟨by omega, by omega⟩ (fun h9 => ?_) (fun h9 => ?_)
            · refine h_iconst C dX9_even_80 ?_
              refine h_ireturn C hr hlk dX9_even_81 ?_
              exact ⟨⟨_, rfl, ⟨by decide, by decide⟩⟩, hI1, hF1⟩
            · refine h_iconst C dX9_even_76 ?_
              refine h_goto (tgt := 81) C dX9_even_77 (by decide) ?_
              refine h_ireturn C hr hlk dX9_even_81 ?_
              exact ⟨⟨_, rfl, ⟨by decide, by decide⟩⟩, hI1, hF1⟩
          · refine h_iload_n C dX9_even_41 2 rfl rfl ?_
            refine h_if_eq (tgt := 72) C dX9_even_42 (by decide) ⟨by omega, by omega⟩ (fun h10 => ?_) (fun h10 => ?_)
            · refine h_iload_n C dX9_even_72 2 rfl rfl ?_
              refine h_if_eq (tgt := 80) C dX9_even_73 (by decide) ⟨by omega, by omega⟩ (fun h11 => ?_) (fun h11 => ?_)
              · refine h_iconst C dX9_even_80 ?_
                refine h_ireturn C hr hlk dX9_even_81 ?_
                exact ⟨⟨_, rfl, ⟨by decide, by decide⟩⟩, hI1, hF1⟩
              · exfalso; omega
            · refine h_aload_n C dX9_even_45 0 rfl rfl ?_
              refine h_iload_n C dX9_even_46 1 rfl rfl ?_
              refine h_iload_n C dX9_even_47 3 rfl rfl ?_
              refine h_callV (As := [.int (hpI a0), .int (hpI w6_3)]) (rest := []) C Z yyX9_turnedHeap wd_1673 (tgX9_turnedHeap l D cy z _ a0 ⟨by omega, by omega⟩ w6_3 ⟨by omega, by omega⟩ hI1 (by omega)) kd_195 rfl rfl ⟨rfl, rfl, Nat.le_of_ble_eq_true rfl, Nat.le_of_ble_eq_true rfl⟩ ⟨Nat.le_of_ble_eq_true rfl, Nat.le_of_ble_eq_true rfl⟩ (Nat.le_of_ble_eq_true rfl) dX9_even_48 (fun r12 τ12 hp12 => ?_)
              obtain ⟨⟨x12, rfl, ⟨hx12a, hx12b⟩⟩, rfl⟩ := hp12
              show hpV _ _ _ _ _ _ _ _ _ _ _ _ _ _ _ _ _ _ _ _ _ (_ :: _)
              refine h_aload_n C dX9_even_51 0 rfl rfl ?_
              refine h_iload_n C dX9_even_52 1 rfl rfl ?_
              refine h_iload_n C dX9_even_53 3 rfl rfl ?_
              refine h_callV (As := [.int (hpI a0), .int (hpI w6_3)]) (rest := [.int (hpI x12)]) C Z yyX9_heightOf wd_1540 (tgX9_heightOf l D cy z _ a0 ⟨by omega, by omega⟩ w6_3 ⟨by omega, by omega⟩ hI1 (by omega) (by omega)) kd_195 rfl rfl ⟨rfl, rfl, Nat.le_of_ble_eq_true rfl, Nat.le_of_ble_eq_true rfl⟩ ⟨Nat.le_of_ble_eq_true rfl, Nat.le_of_ble_eq_true rfl⟩ (Nat.le_of_ble_eq_true rfl) dX9_even_54 (fun r13 τ13 hp13 => ?_)
              obtain ⟨⟨x13, rfl, ⟨hx13a, hx13b⟩, hx13⟩, rfl⟩ := hp13
              show hpV _ _ _ _ _ _ _ _ _ _ _ _ _ _ _ _ _ _ _ _ _ (_ :: _)
              refine h_icmp_ne (tgt := 64) C dX9_even_57 (by decide) ⟨by omega, by omega⟩ ⟨by omega, by omega⟩ (fun h14 => ?_) (fun h14 => ?_)
              · refine h_iconst C dX9_even_64 ?_
                refine h_istore_n (lv' := [(2, .int (hpI 0)), (0, .ref (z + 195)), (1, .int (hpI a0)), (3, .int (hpI w6_3))]) C dX9_even_65 rfl (by decide) rfl ?_
                refine h_iinc (lv' := [(3, .int (hpI (w6_3 + 1))), (2, .int (hpI 0)), (0, .ref (z + 195)), (1, .int (hpI a0))]) C dX9_even_66 3 rfl rfl (by decide) rfl ?_
                refine h_goto (tgt := 32) C dX9_even_69 (by decide) ?_
                exact hp_sub [2, 3, 1, 0] rfl (ih6 0 (w6_3 + 1) (by omega) (by omega) (by omega) (by omega) (by omega))
              · refine h_iconst C dX9_even_60 ?_
                refine h_goto (tgt := 65) C dX9_even_61 (by decide) ?_
                refine h_istore_n (lv' := [(2, .int (hpI 1)), (0, .ref (z + 195)), (1, .int (hpI a0)), (3, .int (hpI w6_3))]) C dX9_even_65 rfl (by decide) rfl ?_
                refine h_iinc (lv' := [(3, .int (hpI (w6_3 + 1))), (2, .int (hpI 1)), (0, .ref (z + 195)), (1, .int (hpI a0))]) C dX9_even_66 3 rfl rfl (by decide) rfl ?_
                refine h_goto (tgt := 32) C dX9_even_69 (by decide) ?_
                exact hp_sub [2, 3, 1, 0] rfl (ih6 1 (w6_3 + 1) (by omega) (by omega) (by omega) (by omega) (by omega))
      exact hp_sub [2, 3, 1, 0] rfl (L6 8589934592 0 0 (by omega) (by omega) (by omega) (by omega) (by omega))
    · refine h_iconst C dX9_even_24 ?_
      refine h_goto (tgt := 29) C dX9_even_25 (by decide) ?_
      refine h_istore_n (lv' := [(2, .int (hpI 1)), (0, .ref (z + 195)), (1, .int (hpI a0))]) C dX9_even_29 rfl (by decide) rfl ?_
      refine h_iconst C dX9_even_30 ?_
      refine h_istore_n (lv' := [(3, .int (hpI 0)), (2, .int (hpI 1)), (0, .ref (z + 195)), (1, .int (hpI a0))]) C dX9_even_31 rfl (by decide) rfl ?_
      have L15 : ∀ (n15 : Nat) (w15_2 : Int) (w15_3 : Int), 0 ≤ w15_2 → w15_2 ≤ 1 → 0 ≤ w15_3 → w15_3 ≤ 700 → (4294967296 - w15_3) < (n15 : Int) → hpF p l e rgX9_even s m [.ref (z + 195), .int (hpI a0)] below meth c 4 D cy z (pgX9_even z σ a0) τ1 32 [(0, .ref (z + 195)), (1, .int (hpI a0)), (2, .int (hpI w15_2)), (3, .int (hpI w15_3))] [] := by
        intro n15
        induction n15 with
        | zero => intro w15_2 w15_3 hv15_0 hv15_1 hv15_2 hv15_3 hm15; exfalso; omega
        | succ n15 ih15 =>
          intro w15_2 w15_3 hv15_0 hv15_1 hv15_2 hv15_3 hm15
          refine h_iload_n C dX9_even_32 3 rfl rfl ?_
          refine h_aload_n C dX9_even_33 0 rfl rfl ?_
          refine h_iload_n C dX9_even_34 1 rfl rfl ?_
          refine h_callV (As := [.int (hpI a0)]) (rest := [.int (hpI w15_3)]) C Z yyX9_manyOf wd_1536 (tgX9_manyOf l D cy z _ a0 ⟨by omega, by omega⟩ hI1 (by omega)) kd_195 rfl rfl ⟨rfl, rfl, Nat.le_of_ble_eq_true rfl, Nat.le_of_ble_eq_true rfl⟩ ⟨Nat.le_of_ble_eq_true rfl, Nat.le_of_ble_eq_true rfl⟩ (Nat.le_of_ble_eq_true rfl) dX9_even_35 (fun r16 τ16 hp16 => ?_)
          obtain ⟨⟨x16, rfl, ⟨hx16a, hx16b⟩, hx16⟩, rfl⟩ := hp16
          show hpV _ _ _ _ _ _ _ _ _ _ _ _ _ _ _ _ _ _ _ _ _ (_ :: _)
          refine h_icmp_ge (tgt := 72) C dX9_even_38 (by decide) ⟨by omega, by omega⟩ ⟨by omega, by omega⟩ (fun h17 => ?_) (fun h17 => ?_)
          · refine h_iload_n C dX9_even_72 2 rfl rfl ?_
            refine h_if_eq (tgt := 80) C dX9_even_73 (by decide) ⟨by omega, by omega⟩ (fun h18 => ?_) (fun h18 => ?_)
            · refine h_iconst C dX9_even_80 ?_
              refine h_ireturn C hr hlk dX9_even_81 ?_
              exact ⟨⟨_, rfl, ⟨by decide, by decide⟩⟩, hI1, hF1⟩
            · refine h_iconst C dX9_even_76 ?_
              refine h_goto (tgt := 81) C dX9_even_77 (by decide) ?_
              refine h_ireturn C hr hlk dX9_even_81 ?_
              exact ⟨⟨_, rfl, ⟨by decide, by decide⟩⟩, hI1, hF1⟩
          · refine h_iload_n C dX9_even_41 2 rfl rfl ?_
            refine h_if_eq (tgt := 72) C dX9_even_42 (by decide) ⟨by omega, by omega⟩ (fun h19 => ?_) (fun h19 => ?_)
            · refine h_iload_n C dX9_even_72 2 rfl rfl ?_
              refine h_if_eq (tgt := 80) C dX9_even_73 (by decide) ⟨by omega, by omega⟩ (fun h20 => ?_) (fun h20 => ?_)
              · refine h_iconst C dX9_even_80 ?_
                refine h_ireturn C hr hlk dX9_even_81 ?_
                exact ⟨⟨_, rfl, ⟨by decide, by decide⟩⟩, hI1, hF1⟩
              · exfalso; omega
            · refine h_aload_n C dX9_even_45 0 rfl rfl ?_
              refine h_iload_n C dX9_even_46 1 rfl rfl ?_
              refine h_iload_n C dX9_even_47 3 rfl rfl ?_
              refine h_callV (As := [.int (hpI a0), .int (hpI w15_3)]) (rest := []) C Z yyX9_turnedHeap wd_1673 (tgX9_turnedHeap l D cy z _ a0 ⟨by omega, by omega⟩ w15_3 ⟨by omega, by omega⟩ hI1 (by omega)) kd_195 rfl rfl ⟨rfl, rfl, Nat.le_of_ble_eq_true rfl, Nat.le_of_ble_eq_true rfl⟩ ⟨Nat.le_of_ble_eq_true rfl, Nat.le_of_ble_eq_true rfl⟩ (Nat.le_of_ble_eq_true rfl) dX9_even_48 (fun r21 τ21 hp21 => ?_)
              obtain ⟨⟨x21, rfl, ⟨hx21a, hx21b⟩⟩, rfl⟩ := hp21
              show hpV _ _ _ _ _ _ _ _ _ _ _ _ _ _ _ _ _ _ _ _ _ (_ :: _)
              refine h_aload_n C dX9_even_51 0 rfl rfl ?_
              refine h_iload_n C dX9_even_52 1 rfl rfl ?_
              refine h_iload_n C dX9_even_53 3 rfl rfl ?_
              refine h_callV (As := [.int (hpI a0), .int (hpI w15_3)]) (rest := [.int (hpI x21)]) C Z yyX9_heightOf wd_1540 (tgX9_heightOf l D cy z _ a0 ⟨by omega, by omega⟩ w15_3 ⟨by omega, by omega⟩ hI1 (by omega) (by omega)) kd_195 rfl rfl ⟨rfl, rfl, Nat.le_of_ble_eq_true rfl, Nat.le_of_ble_eq_true rfl⟩ ⟨Nat.le_of_ble_eq_true rfl, Nat.le_of_ble_eq_true rfl⟩ (Nat.le_of_ble_eq_true rfl) dX9_even_54 (fun r22 τ22 hp22 => ?_)
              obtain ⟨⟨x22, rfl, ⟨hx22a, hx22b⟩, hx22⟩, rfl⟩ := hp22
              show hpV _ _ _ _ _ _ _ _ _ _ _ _ _ _ _ _ _ _ _ _ _ (_ :: _)
              refine h_icmp_ne (tgt := 64) C dX9_even_57 (by decide) ⟨by omega, by omega⟩ ⟨by omega, by omega⟩ (fun h23 => ?_) (fun h23 => ?_)
              · refine h_iconst C dX9_even_64 ?_
                refine h_istore_n (lv' := [(2, .int (hpI 0)), (0, .ref (z + 195)), (1, .int (hpI a0)), (3, .int (hpI w15_3))]) C dX9_even_65 rfl (by decide) rfl ?_
                refine h_iinc (lv' := [(3, .int (hpI (w15_3 + 1))), (2, .int (hpI 0)), (0, .ref (z + 195)), (1, .int (hpI a0))]) C dX9_even_66 3 rfl rfl (by decide) rfl ?_
                refine h_goto (tgt := 32) C dX9_even_69 (by decide) ?_
                exact hp_sub [2, 3, 1, 0] rfl (ih15 0 (w15_3 + 1) (by omega) (by omega) (by omega) (by omega) (by omega))
              · refine h_iconst C dX9_even_60 ?_
                refine h_goto (tgt := 65) C dX9_even_61 (by decide) ?_
                refine h_istore_n (lv' := [(2, .int (hpI 1)), (0, .ref (z + 195)), (1, .int (hpI a0)), (3, .int (hpI w15_3))]) C dX9_even_65 rfl (by decide) rfl ?_
                refine h_iinc (lv' := [(3, .int (hpI (w15_3 + 1))), (2, .int (hpI 1)), (0, .ref (z + 195)), (1, .int (hpI a0))]) C dX9_even_66 3 rfl rfl (by decide) rfl ?_
                refine h_goto (tgt := 32) C dX9_even_69 (by decide) ?_
                exact hp_sub [2, 3, 1, 0] rfl (ih15 1 (w15_3 + 1) (by omega) (by omega) (by omega) (by omega) (by omega))
      exact hp_sub [2, 3, 1, 0] rfl (L15 8589934592 1 0 (by omega) (by omega) (by omega) (by omega) (by omega))
  · refine h_bipush C dX9_even_8 (by decide) ?_
    refine h_ireturn C hr hlk dX9_even_10 ?_
    exact ⟨⟨_, rfl, ⟨by decide, by decide⟩⟩, hI1, hF1⟩
abbrev rgX9_isAbove : Room := { frames := 1, cells := 0, slots := 0, locals := 29 }
abbrev pgX9_isAbove (z : Nat) (σ : hpMem) (a0 : Int) (a1 : Int) : Option Value → hpMem → Prop := fun r τ => (∃ x : Int, r = some (.int (hpI x)) ∧ (0 ≤ x ∧ x ≤ 1)) ∧ σ = τ
set_option maxHeartbeats 4000000 in
set_option maxRecDepth 20000 in
theorem tgX9_isAbove (l : Launch) (D : va_G) (cy : Nat → ClassId) (z : Nat) (σ : hpMem) (a0 : Int) (ha0 : hpR a0) (a1 : Int) (ha1 : hpR a1) (hI : hpInv σ) (hr0 : 0 ≤ a0 ∧ a0 ≤ 20) (hr1 : 0 ≤ a1 ∧ a1 ≤ 20) : hpM l D cy z yX9_isAbove cX9_isAbove 6 (some .boolean) rgX9_isAbove [.ref (z + 195), .int (hpI a0), .int (hpI a1)] σ (pgX9_isAbove z σ a0 a1) := by
  obtain ⟨ha01, ha02⟩ := ha0
  obtain ⟨ha11, ha12⟩ := ha1
  refine hp_met rfl (Nat.le_of_ble_eq_true rfl) (fun p e s m below meth c C Z hr hlk => ?_)
  refine h_iconst C dX9_isAbove_0 ?_
  refine h_istore_n (lv' := [(3, .int (hpI 0)), (0, .ref (z + 195)), (1, .int (hpI a0)), (2, .int (hpI a1))]) C dX9_isAbove_1 rfl (by decide) rfl ?_
  refine h_iconst C dX9_isAbove_2 ?_
  refine h_istore (lv' := [(4, .int (hpI 1)), (3, .int (hpI 0)), (0, .ref (z + 195)), (1, .int (hpI a0)), (2, .int (hpI a1))]) C dX9_isAbove_3 (by decide) rfl ?_
  refine h_iconst C dX9_isAbove_5 ?_
  refine h_istore (lv' := [(5, .int (hpI 0)), (4, .int (hpI 1)), (3, .int (hpI 0)), (0, .ref (z + 195)), (1, .int (hpI a0)), (2, .int (hpI a1))]) C dX9_isAbove_6 (by decide) rfl ?_
  have L1 : ∀ (n1 : Nat) (w1_3 : Int) (w1_4 : Int) (w1_5 : Int), -2147483648 ≤ w1_3 → w1_3 ≤ 2147483647 → 0 ≤ w1_4 → w1_4 ≤ 1 → 0 ≤ w1_5 → w1_5 ≤ 700 → (4294967296 - w1_5) < (n1 : Int) → hpF p l e rgX9_isAbove s m [.ref (z + 195), .int (hpI a0), .int (hpI a1)] below meth c 6 D cy z (pgX9_isAbove z σ a0 a1) σ 8 [(0, .ref (z + 195)), (1, .int (hpI a0)), (2, .int (hpI a1)), (3, .int (hpI w1_3)), (4, .int (hpI w1_4)), (5, .int (hpI w1_5))] [] := by
    intro n1
    induction n1 with
    | zero => intro w1_3 w1_4 w1_5 hv1_0 hv1_1 hv1_2 hv1_3 hv1_4 hv1_5 hm1; exfalso; omega
    | succ n1 ih1 =>
      intro w1_3 w1_4 w1_5 hv1_0 hv1_1 hv1_2 hv1_3 hv1_4 hv1_5 hm1
      refine h_iload C dX9_isAbove_8 5 rfl ?_
      refine h_aload_n C dX9_isAbove_10 0 rfl rfl ?_
      refine h_iload_n C dX9_isAbove_11 1 rfl rfl ?_
      refine h_callV (As := [.int (hpI a0)]) (rest := [.int (hpI w1_5)]) C Z yyX9_manyOf wd_1536 (tgX9_manyOf l D cy z _ a0 ⟨by omega, by omega⟩ hI (by omega)) kd_195 rfl rfl ⟨rfl, rfl, Nat.le_of_ble_eq_true rfl, Nat.le_of_ble_eq_true rfl⟩ ⟨Nat.le_of_ble_eq_true rfl, Nat.le_of_ble_eq_true rfl⟩ (Nat.le_of_ble_eq_true rfl) dX9_isAbove_12 (fun r2 τ2 hp2 => ?_)
      obtain ⟨⟨x2, rfl, ⟨hx2a, hx2b⟩, hx2⟩, rfl⟩ := hp2
      show hpV _ _ _ _ _ _ _ _ _ _ _ _ _ _ _ _ _ _ _ _ _ (_ :: _)
      refine h_aload_n C dX9_isAbove_15 0 rfl rfl ?_
      refine h_iload_n C dX9_isAbove_16 2 rfl rfl ?_
      refine h_callV (As := [.int (hpI a1)]) (rest := [.int (hpI x2), .int (hpI w1_5)]) C Z yyX9_manyOf wd_1536 (tgX9_manyOf l D cy z _ a1 ⟨by omega, by omega⟩ hI (by omega)) kd_195 rfl rfl ⟨rfl, rfl, Nat.le_of_ble_eq_true rfl, Nat.le_of_ble_eq_true rfl⟩ ⟨Nat.le_of_ble_eq_true rfl, Nat.le_of_ble_eq_true rfl⟩ (Nat.le_of_ble_eq_true rfl) dX9_isAbove_17 (fun r3 τ3 hp3 => ?_)
      obtain ⟨⟨x3, rfl, ⟨hx3a, hx3b⟩, hx3⟩, rfl⟩ := hp3
      show hpV _ _ _ _ _ _ _ _ _ _ _ _ _ _ _ _ _ _ _ _ _ (_ :: _)
      refine h_mmax C wd_1624 wd_708 wd_709 wd_15 dX9_isAbove_20 ⟨by omega, by omega⟩ ⟨by omega, by omega⟩ (Nat.le_of_ble_eq_true rfl) (Nat.le_of_ble_eq_true rfl) ⟨Nat.le_of_ble_eq_true rfl, Nat.le_of_ble_eq_true rfl⟩ (fun r4 hr4a hr4b hr4c => ?_)
      refine h_icmp_ge (tgt := 96) C dX9_isAbove_23 (by decide) ⟨by omega, by omega⟩ ⟨by omega, by omega⟩ (fun h5 => ?_) (fun h5 => ?_)
      · refine h_iload C dX9_isAbove_96 4 rfl ?_
        refine h_zreturn C (by omega) hr hlk dX9_isAbove_98 ?_
        exact ⟨⟨_, rfl, ⟨by omega, by omega⟩⟩, rfl⟩
      · refine h_iload_n C dX9_isAbove_26 3 rfl rfl ?_
        refine h_iload C dX9_isAbove_27 5 rfl ?_
        refine h_aload_n C dX9_isAbove_29 0 rfl rfl ?_
        refine h_iload_n C dX9_isAbove_30 1 rfl rfl ?_
        refine h_callV (As := [.int (hpI a0)]) (rest := [.int (hpI w1_5), .int (hpI w1_3)]) C Z yyX9_manyOf wd_1536 (tgX9_manyOf l D cy z _ a0 ⟨by omega, by omega⟩ hI (by omega)) kd_195 rfl rfl ⟨rfl, rfl, Nat.le_of_ble_eq_true rfl, Nat.le_of_ble_eq_true rfl⟩ ⟨Nat.le_of_ble_eq_true rfl, Nat.le_of_ble_eq_true rfl⟩ (Nat.le_of_ble_eq_true rfl) dX9_isAbove_31 (fun r6 τ6 hp6 => ?_)
        obtain ⟨⟨x6, rfl, ⟨hx6a, hx6b⟩, hx6⟩, rfl⟩ := hp6
        show hpV _ _ _ _ _ _ _ _ _ _ _ _ _ _ _ _ _ _ _ _ _ (_ :: _)
        refine h_icmp_ge (tgt := 47) C dX9_isAbove_34 (by decide) ⟨by omega, by omega⟩ ⟨by omega, by omega⟩ (fun h7 => ?_) (fun h7 => ?_)
        · refine h_iconst C dX9_isAbove_47 ?_
          refine h_iadd C dX9_isAbove_48 rfl ?_
          refine h_istore_n (lv' := [(3, .int (hpI (w1_3 + 0))), (0, .ref (z + 195)), (1, .int (hpI a0)), (2, .int (hpI a1)), (4, .int (hpI w1_4)), (5, .int (hpI w1_5))]) C dX9_isAbove_49 rfl (by decide) rfl ?_
          refine h_iload_n C dX9_isAbove_50 0 rfl rfl ?_
          refine h_iload C dX9_isAbove_51 5 rfl ?_
          refine h_aload_n C dX9_isAbove_53 1 rfl rfl ?_
          refine h_iload_n C dX9_isAbove_54 3 rfl rfl ?_
          refine h_callV (As := [.int (hpI a1)]) (rest := [.int (hpI w1_5), .int (hpI (w1_3 + 0))]) C Z yyX9_manyOf wd_1536 (tgX9_manyOf l D cy z _ a1 ⟨by omega, by omega⟩ hI (by omega)) kd_195 rfl rfl ⟨rfl, rfl, Nat.le_of_ble_eq_true rfl, Nat.le_of_ble_eq_true rfl⟩ ⟨Nat.le_of_ble_eq_true rfl, Nat.le_of_ble_eq_true rfl⟩ (Nat.le_of_ble_eq_true rfl) dX9_isAbove_55 (fun r8 τ8 hp8 => ?_)
          obtain ⟨⟨x8, rfl, ⟨hx8a, hx8b⟩, hx8⟩, rfl⟩ := hp8
          show hpV _ _ _ _ _ _ _ _ _ _ _ _ _ _ _ _ _ _ _ _ _ (_ :: _)
          refine h_icmp_ge (tgt := 71) C dX9_isAbove_58 (by decide) ⟨by omega, by omega⟩ ⟨by omega, by omega⟩ (fun h9 => ?_) (fun h9 => ?_)
          · refine h_iconst C dX9_isAbove_71 ?_
            refine h_isub C dX9_isAbove_72 rfl ?_
            refine h_istore_n (lv' := [(3, .int (hpI ((w1_3 + 0) - 0))), (0, .ref (z + 195)), (1, .int (hpI a0)), (2, .int (hpI a1)), (4, .int (hpI w1_4)), (5, .int (hpI w1_5))]) C dX9_isAbove_73 rfl (by decide) rfl ?_
            refine h_iload C dX9_isAbove_74 4 rfl ?_
            refine h_if_eq (tgt := 87) C dX9_isAbove_76 (by decide) ⟨by omega, by omega⟩ (fun h10 => ?_) (fun h10 => ?_)
            · refine h_iconst C dX9_isAbove_87 ?_
              refine h_istore (lv' := [(4, .int (hpI 0)), (3, .int (hpI ((w1_3 + 0) - 0))), (0, .ref (z + 195)), (1, .int (hpI a0)), (2, .int (hpI a1)), (5, .int (hpI w1_5))]) C dX9_isAbove_88 (by decide) rfl ?_
              refine h_iinc (lv' := [(5, .int (hpI (w1_5 + 1))), (4, .int (hpI 0)), (3, .int (hpI ((w1_3 + 0) - 0))), (0, .ref (z + 195)), (1, .int (hpI a0)), (2, .int (hpI a1))]) C dX9_isAbove_90 5 rfl rfl (by decide) rfl ?_
              refine h_goto (tgt := 8) C dX9_isAbove_93 (by decide) ?_
              exact hp_sub [3, 4, 5, 2, 1, 0] rfl (ih1 ((w1_3 + 0) - 0) 0 (w1_5 + 1) (by omega) (by omega) (by omega) (by omega) (by omega) (by omega) (by omega))
            · refine h_iload_n C dX9_isAbove_79 0 rfl rfl ?_
              refine h_if_lt (tgt := 87) C dX9_isAbove_80 (by decide) ⟨by omega, by omega⟩ (fun h11 => ?_) (fun h11 => ?_)
              · refine h_iconst C dX9_isAbove_87 ?_
                refine h_istore (lv' := [(4, .int (hpI 0)), (3, .int (hpI ((w1_3 + 0) - 0))), (0, .ref (z + 195)), (1, .int (hpI a0)), (2, .int (hpI a1)), (5, .int (hpI w1_5))]) C dX9_isAbove_88 (by decide) rfl ?_
                refine h_iinc (lv' := [(5, .int (hpI (w1_5 + 1))), (4, .int (hpI 0)), (3, .int (hpI ((w1_3 + 0) - 0))), (0, .ref (z + 195)), (1, .int (hpI a0)), (2, .int (hpI a1))]) C dX9_isAbove_90 5 rfl rfl (by decide) rfl ?_
                refine h_goto (tgt := 8) C dX9_isAbove_93 (by decide) ?_
                exact hp_sub [3, 4, 5, 2, 1, 0] rfl (ih1 ((w1_3 + 0) - 0) 0 (w1_5 + 1) (by omega) (by omega) (by omega) (by omega) (by omega) (by omega) (by omega))
              · refine h_iconst C dX9_isAbove_83 ?_
                refine h_goto (tgt := 88) C dX9_isAbove_84 (by decide) ?_
                refine h_istore (lv' := [(4, .int (hpI 1)), (3, .int (hpI ((w1_3 + 0) - 0))), (0, .ref (z + 195)), (1, .int (hpI a0)), (2, .int (hpI a1)), (5, .int (hpI w1_5))]) C dX9_isAbove_88 (by decide) rfl ?_
                refine h_iinc (lv' := [(5, .int (hpI (w1_5 + 1))), (4, .int (hpI 1)), (3, .int (hpI ((w1_3 + 0) - 0))), (0, .ref (z + 195)), (1, .int (hpI a0)), (2, .int (hpI a1))]) C dX9_isAbove_90 5 rfl rfl (by decide) rfl ?_
                refine h_goto (tgt := 8) C dX9_isAbove_93 (by decide) ?_
                exact hp_sub [3, 4, 5, 2, 1, 0] rfl (ih1 ((w1_3 + 0) - 0) 1 (w1_5 + 1) (by omega) (by omega) (by omega) (by omega) (by omega) (by omega) (by omega))
          · refine h_aload_n C dX9_isAbove_61 1 rfl rfl ?_
            refine h_iload_n C dX9_isAbove_62 3 rfl rfl ?_
            refine h_iload C dX9_isAbove_63 5 rfl ?_
            refine h_callV (As := [.int (hpI a1), .int (hpI w1_5)]) (rest := [.int (hpI (w1_3 + 0))]) C Z yyX9_heightOf wd_1540 (tgX9_heightOf l D cy z _ a1 ⟨by omega, by omega⟩ w1_5 ⟨by omega, by omega⟩ hI (by omega) (by omega)) kd_195 rfl rfl ⟨rfl, rfl, Nat.le_of_ble_eq_true rfl, Nat.le_of_ble_eq_true rfl⟩ ⟨Nat.le_of_ble_eq_true rfl, Nat.le_of_ble_eq_true rfl⟩ (Nat.le_of_ble_eq_true rfl) dX9_isAbove_65 (fun r12 τ12 hp12 => ?_)
            obtain ⟨⟨x12, rfl, ⟨hx12a, hx12b⟩, hx12⟩, rfl⟩ := hp12
            show hpV _ _ _ _ _ _ _ _ _ _ _ _ _ _ _ _ _ _ _ _ _ (_ :: _)
            refine h_goto (tgt := 72) C dX9_isAbove_68 (by decide) ?_
            refine h_isub C dX9_isAbove_72 rfl ?_
            refine hp_anyI (fun r13 hr13 => ?_)
            obtain ⟨hr13a, hr13b⟩ := hr13
            refine h_istore_n (lv' := [(3, .int (hpI r13)), (0, .ref (z + 195)), (1, .int (hpI a0)), (2, .int (hpI a1)), (4, .int (hpI w1_4)), (5, .int (hpI w1_5))]) C dX9_isAbove_73 rfl (by decide) rfl ?_
            refine h_iload C dX9_isAbove_74 4 rfl ?_
            refine h_if_eq (tgt := 87) C dX9_isAbove_76 (by decide) ⟨by omega, by omega⟩ (fun h14 => ?_) (fun h14 => ?_)
            · refine h_iconst C dX9_isAbove_87 ?_
              refine h_istore (lv' := [(4, .int (hpI 0)), (3, .int (hpI r13)), (0, .ref (z + 195)), (1, .int (hpI a0)), (2, .int (hpI a1)), (5, .int (hpI w1_5))]) C dX9_isAbove_88 (by decide) rfl ?_
              refine h_iinc (lv' := [(5, .int (hpI (w1_5 + 1))), (4, .int (hpI 0)), (3, .int (hpI r13)), (0, .ref (z + 195)), (1, .int (hpI a0)), (2, .int (hpI a1))]) C dX9_isAbove_90 5 rfl rfl (by decide) rfl ?_
              refine h_goto (tgt := 8) C dX9_isAbove_93 (by decide) ?_
              exact hp_sub [3, 4, 5, 2, 1, 0] rfl (ih1 r13 0 (w1_5 + 1) (by omega) (by omega) (by omega) (by omega) (by omega) (by omega) (by omega))
            · refine h_iload_n C dX9_isAbove_79 0 rfl rfl ?_
              refine h_if_lt (tgt := 87) C dX9_isAbove_80 (by decide) ⟨by omega, by omega⟩ (fun h15 => ?_) (fun h15 => ?_)
              · refine h_iconst C dX9_isAbove_87 ?_
                refine h_istore (lv' := [(4, .int (hpI 0)), (3, .int (hpI r13)), (0, .ref (z + 195)), (1, .int (hpI a0)), (2, .int (hpI a1)), (5, .int (hpI w1_5))]) C dX9_isAbove_88 (by decide) rfl ?_
                refine h_iinc (lv' := [(5, .int (hpI (w1_5 + 1))), (4, .int (hpI 0)), (3, .int (hpI r13)), (0, .ref (z + 195)), (1, .int (hpI a0)), (2, .int (hpI a1))]) C dX9_isAbove_90 5 rfl rfl (by decide) rfl ?_
                refine h_goto (tgt := 8) C dX9_isAbove_93 (by decide) ?_
                exact hp_sub [3, 4, 5, 2, 1, 0] rfl (ih1 r13 0 (w1_5 + 1) (by omega) (by omega) (by omega) (by omega) (by omega) (by omega) (by omega))
              · refine h_iconst C dX9_isAbove_83 ?_
                refine h_goto (tgt := 88) C dX9_isAbove_84 (by decide) ?_
                refine h_istore (lv' := [(4, .int (hpI 1)), (3, .int (hpI r13)), (0, .ref (z + 195)), (1, .int (hpI a0)), (2, .int (hpI a1)), (5, .int (hpI w1_5))]) C dX9_isAbove_88 (by decide) rfl ?_
                refine h_iinc (lv' := [(5, .int (hpI (w1_5 + 1))), (4, .int (hpI 1)), (3, .int (hpI r13)), (0, .ref (z + 195)), (1, .int (hpI a0)), (2, .int (hpI a1))]) C dX9_isAbove_90 5 rfl rfl (by decide) rfl ?_
                refine h_goto (tgt := 8) C dX9_isAbove_93 (by decide) ?_
                exact hp_sub [3, 4, 5, 2, 1, 0] rfl (ih1 r13 1 (w1_5 + 1) (by omega) (by omega) (by omega) (by omega) (by omega) (by omega) (by omega))
        · refine h_aload_n C dX9_isAbove_37 0 rfl rfl ?_
          refine h_iload_n C dX9_isAbove_38 1 rfl rfl ?_
          refine h_iload C dX9_isAbove_39 5 rfl ?_
          refine h_callV (As := [.int (hpI a0), .int (hpI w1_5)]) (rest := [.int (hpI w1_3)]) C Z yyX9_heightOf wd_1540 (tgX9_heightOf l D cy z _ a0 ⟨by omega, by omega⟩ w1_5 ⟨by omega, by omega⟩ hI (by omega) (by omega)) kd_195 rfl rfl ⟨rfl, rfl, Nat.le_of_ble_eq_true rfl, Nat.le_of_ble_eq_true rfl⟩ ⟨Nat.le_of_ble_eq_true rfl, Nat.le_of_ble_eq_true rfl⟩ (Nat.le_of_ble_eq_true rfl) dX9_isAbove_41 (fun r16 τ16 hp16 => ?_)
          obtain ⟨⟨x16, rfl, ⟨hx16a, hx16b⟩, hx16⟩, rfl⟩ := hp16
          show hpV _ _ _ _ _ _ _ _ _ _ _ _ _ _ _ _ _ _ _ _ _ (_ :: _)
          refine h_goto (tgt := 48) C dX9_isAbove_44 (by decide) ?_
          refine h_iadd C dX9_isAbove_48 rfl ?_
          refine hp_anyI (fun r17 hr17 => ?_)
          obtain ⟨hr17a, hr17b⟩ := hr17
          refine h_istore_n (lv' := [(3, .int (hpI r17)), (0, .ref (z + 195)), (1, .int (hpI a0)), (2, .int (hpI a1)), (4, .int (hpI w1_4)), (5, .int (hpI w1_5))]) C dX9_isAbove_49 rfl (by decide) rfl ?_
          refine h_iload_n C dX9_isAbove_50 0 rfl rfl ?_
          refine h_iload C dX9_isAbove_51 5 rfl ?_
          refine h_aload_n C dX9_isAbove_53 1 rfl rfl ?_
          refine h_iload_n C dX9_isAbove_54 3 rfl rfl ?_
          refine h_callV (As := [.int (hpI a1)]) (rest := [.int (hpI w1_5), .int (hpI r17)]) C Z yyX9_manyOf wd_1536 (tgX9_manyOf l D cy z _ a1 ⟨by omega, by omega⟩ hI (by omega)) kd_195 rfl rfl ⟨rfl, rfl, Nat.le_of_ble_eq_true rfl, Nat.le_of_ble_eq_true rfl⟩ ⟨Nat.le_of_ble_eq_true rfl, Nat.le_of_ble_eq_true rfl⟩ (Nat.le_of_ble_eq_true rfl) dX9_isAbove_55 (fun r18 τ18 hp18 => ?_)
          obtain ⟨⟨x18, rfl, ⟨hx18a, hx18b⟩, hx18⟩, rfl⟩ := hp18
          show hpV _ _ _ _ _ _ _ _ _ _ _ _ _ _ _ _ _ _ _ _ _ (_ :: _)
          refine h_icmp_ge (tgt := 71) C dX9_isAbove_58 (by decide) ⟨by omega, by omega⟩ ⟨by omega, by omega⟩ (fun h19 => ?_) (fun h19 => ?_)
          · refine h_iconst C dX9_isAbove_71 ?_
            refine h_isub C dX9_isAbove_72 rfl ?_
            refine h_istore_n (lv' := [(3, .int (hpI (r17 - 0))), (0, .ref (z + 195)), (1, .int (hpI a0)), (2, .int (hpI a1)), (4, .int (hpI w1_4)), (5, .int (hpI w1_5))]) C dX9_isAbove_73 rfl (by decide) rfl ?_
            refine h_iload C dX9_isAbove_74 4 rfl ?_
            refine h_if_eq (tgt := 87) C dX9_isAbove_76 (by decide) ⟨by omega, by omega⟩ (fun h20 => ?_) (fun h20 => ?_)
            · refine h_iconst C dX9_isAbove_87 ?_
              refine h_istore (lv' := [(4, .int (hpI 0)), (3, .int (hpI (r17 - 0))), (0, .ref (z + 195)), (1, .int (hpI a0)), (2, .int (hpI a1)), (5, .int (hpI w1_5))]) C dX9_isAbove_88 (by decide) rfl ?_
              refine h_iinc (lv' := [(5, .int (hpI (w1_5 + 1))), (4, .int (hpI 0)), (3, .int (hpI (r17 - 0))), (0, .ref (z + 195)), (1, .int (hpI a0)), (2, .int (hpI a1))]) C dX9_isAbove_90 5 rfl rfl (by decide) rfl ?_
              refine h_goto (tgt := 8) C dX9_isAbove_93 (by decide) ?_
              exact hp_sub [3, 4, 5, 2, 1, 0] rfl (ih1 (r17 - 0) 0 (w1_5 + 1) (by omega) (by omega) (by omega) (by omega) (by omega) (by omega) (by omega))
            · refine h_iload_n C dX9_isAbove_79 0 rfl rfl ?_
              refine h_if_lt (tgt := 87) C dX9_isAbove_80 (by decide) ⟨by omega, by omega⟩ (fun h21 => ?_) (fun h21 => ?_)
              · refine h_iconst C dX9_isAbove_87 ?_
                refine h_istore (lv' := [(4, .int (hpI 0)), (3, .int (hpI (r17 - 0))), (0, .ref (z + 195)), (1, .int (hpI a0)), (2, .int (hpI a1)), (5, .int (hpI w1_5))]) C dX9_isAbove_88 (by decide) rfl ?_
                refine h_iinc (lv' := [(5, .int (hpI (w1_5 + 1))), (4, .int (hpI 0)), (3, .int (hpI (r17 - 0))), (0, .ref (z + 195)), (1, .int (hpI a0)), (2, .int (hpI a1))]) C dX9_isAbove_90 5 rfl rfl (by decide) rfl ?_
                refine h_goto (tgt := 8) C dX9_isAbove_93 (by decide) ?_
                exact hp_sub [3, 4, 5, 2, 1, 0] rfl (ih1 (r17 - 0) 0 (w1_5 + 1) (by omega) (by omega) (by omega) (by omega) (by omega) (by omega) (by omega))
              · refine h_iconst C dX9_isAbove_83 ?_
                refine h_goto (tgt := 88) C dX9_isAbove_84 (by decide) ?_
                refine h_istore (lv' := [(4, .int (hpI 1)), (3, .int (hpI (r17 - 0))), (0, .ref (z + 195)), (1, .int (hpI a0)), (2, .int (hpI a1)), (5, .int (hpI w1_5))]) C dX9_isAbove_88 (by decide) rfl ?_
                refine h_iinc (lv' := [(5, .int (hpI (w1_5 + 1))), (4, .int (hpI 1)), (3, .int (hpI (r17 - 0))), (0, .ref (z + 195)), (1, .int (hpI a0)), (2, .int (hpI a1))]) C dX9_isAbove_90 5 rfl rfl (by decide) rfl ?_
                refine h_goto (tgt := 8) C dX9_isAbove_93 (by decide) ?_
                exact hp_sub [3, 4, 5, 2, 1, 0] rfl (ih1 (r17 - 0) 1 (w1_5 + 1) (by omega) (by omega) (by omega) (by omega) (by omega) (by omega) (by omega))
          · refine h_aload_n C dX9_isAbove_61 1 rfl rfl ?_
            refine h_iload_n C dX9_isAbove_62 3 rfl rfl ?_
            refine h_iload C dX9_isAbove_63 5 rfl ?_
            refine h_callV (As := [.int (hpI a1), .int (hpI w1_5)]) (rest := [.int (hpI r17)]) C Z yyX9_heightOf wd_1540 (tgX9_heightOf l D cy z _ a1 ⟨by omega, by omega⟩ w1_5 ⟨by omega, by omega⟩ hI (by omega) (by omega)) kd_195 rfl rfl ⟨rfl, rfl, Nat.le_of_ble_eq_true rfl, Nat.le_of_ble_eq_true rfl⟩ ⟨Nat.le_of_ble_eq_true rfl, Nat.le_of_ble_eq_true rfl⟩ (Nat.le_of_ble_eq_true rfl) dX9_isAbove_65 (fun r22 τ22 hp22 => ?_)
            obtain ⟨⟨x22, rfl, ⟨hx22a, hx22b⟩, hx22⟩, rfl⟩ := hp22
            show hpV _ _ _ _ _ _ _ _ _ _ _ _ _ _ _ _ _ _ _ _ _ (_ :: _)
            refine h_goto (tgt := 72) C dX9_isAbove_68 (by decide) ?_
            refine h_isub C dX9_isAbove_72 rfl ?_
            refine hp_anyI (fun r23 hr23 => ?_)
            obtain ⟨hr23a, hr23b⟩ := hr23
            refine h_istore_n (lv' := [(3, .int (hpI r23)), (0, .ref (z + 195)), (1, .int (hpI a0)), (2, .int (hpI a1)), (4, .int (hpI w1_4)), (5, .int (hpI w1_5))]) C dX9_isAbove_73 rfl (by decide) rfl ?_
            refine h_iload C dX9_isAbove_74 4 rfl ?_
            refine h_if_eq (tgt := 87) C dX9_isAbove_76 (by decide) ⟨by omega, by omega⟩ (fun h24 => ?_) (fun h24 => ?_)
            · refine h_iconst C dX9_isAbove_87 ?_
              refine h_istore (lv' := [(4, .int (hpI 0)), (3, .int (hpI r23)), (0, .ref (z + 195)), (1, .int (hpI a0)), (2, .int (hpI a1)), (5, .int (hpI w1_5))]) C dX9_isAbove_88 (by decide) rfl ?_
              refine h_iinc (lv' := [(5, .int (hpI (w1_5 + 1))), (4, .int (hpI 0)), (3, .int (hpI r23)), (0, .ref (z + 195)), (1, .int (hpI a0)), (2, .int (hpI a1))]) C dX9_isAbove_90 5 rfl rfl (by decide) rfl ?_
              refine h_goto (tgt := 8) C dX9_isAbove_93 (by decide) ?_
              exact hp_sub [3, 4, 5, 2, 1, 0] rfl (ih1 r23 0 (w1_5 + 1) (by omega) (by omega) (by omega) (by omega) (by omega) (by omega) (by omega))
            · refine h_iload_n C dX9_isAbove_79 0 rfl rfl ?_
              refine h_if_lt (tgt := 87) C dX9_isAbove_80 (by decide) ⟨by omega, by omega⟩ (fun h25 => ?_) (fun h25 => ?_)
              · refine h_iconst C dX9_isAbove_87 ?_
                refine h_istore (lv' := [(4, .int (hpI 0)), (3, .int (hpI r23)), (0, .ref (z + 195)), (1, .int (hpI a0)), (2, .int (hpI a1)), (5, .int (hpI w1_5))]) C dX9_isAbove_88 (by decide) rfl ?_
                refine h_iinc (lv' := [(5, .int (hpI (w1_5 + 1))), (4, .int (hpI 0)), (3, .int (hpI r23)), (0, .ref (z + 195)), (1, .int (hpI a0)), (2, .int (hpI a1))]) C dX9_isAbove_90 5 rfl rfl (by decide) rfl ?_
                refine h_goto (tgt := 8) C dX9_isAbove_93 (by decide) ?_
                exact hp_sub [3, 4, 5, 2, 1, 0] rfl (ih1 r23 0 (w1_5 + 1) (by omega) (by omega) (by omega) (by omega) (by omega) (by omega) (by omega))
              · refine h_iconst C dX9_isAbove_83 ?_
                refine h_goto (tgt := 88) C dX9_isAbove_84 (by decide) ?_
                refine h_istore (lv' := [(4, .int (hpI 1)), (3, .int (hpI r23)), (0, .ref (z + 195)), (1, .int (hpI a0)), (2, .int (hpI a1)), (5, .int (hpI w1_5))]) C dX9_isAbove_88 (by decide) rfl ?_
                refine h_iinc (lv' := [(5, .int (hpI (w1_5 + 1))), (4, .int (hpI 1)), (3, .int (hpI r23)), (0, .ref (z + 195)), (1, .int (hpI a0)), (2, .int (hpI a1))]) C dX9_isAbove_90 5 rfl rfl (by decide) rfl ?_
                refine h_goto (tgt := 8) C dX9_isAbove_93 (by decide) ?_
                exact hp_sub [3, 4, 5, 2, 1, 0] rfl (ih1 r23 1 (w1_5 + 1) (by omega) (by omega) (by omega) (by omega) (by omega) (by omega) (by omega))
  exact hp_sub [3, 4, 5, 2, 1, 0] rfl (L1 8589934592 0 1 0 (by omega) (by omega) (by omega) (by omega) (by omega) (by omega) (by omega))
abbrev rgX9_above : Room := { frames := 5, cells := 0, slots := 0, locals := 110 }
abbrev pgX9_above (z : Nat) (σ : hpMem) (a0 : Int) (a1 : Int) : Option Value → hpMem → Prop := fun r τ => (∃ x : Int, r = some (.int (hpI x)) ∧ (hpR x)) ∧ hpInv τ ∧ (∀ j i : Nat, (j < 195 ∨ j = 198 ∨ 213 ≤ j) → τ j i = σ j i)
set_option maxHeartbeats 4000000 in
set_option maxRecDepth 20000 in
theorem tgX9_above (l : Launch) (D : va_G) (cy : Nat → ClassId) (z : Nat) (σ : hpMem) (a0 : Int) (ha0 : hpR a0) (a1 : Int) (ha1 : hpR a1) (hI : hpInv σ) : hpM l D cy z yX9_above cX9_above 3 (some .int) rgX9_above [.ref (z + 195), .int (hpI a0), .int (hpI a1)] σ (pgX9_above z σ a0 a1) := by
  obtain ⟨ha01, ha02⟩ := ha0
  obtain ⟨ha11, ha12⟩ := ha1
  refine hp_met rfl (Nat.le_of_ble_eq_true rfl) (fun p e s m below meth c C Z hr hlk => ?_)
  have hF0 : ∀ j i : Nat, (j < 195 ∨ j = 198 ∨ 213 ≤ j) → σ j i = σ j i := fun j i _ => rfl
  refine h_aload_n C dX9_above_0 0 rfl rfl ?_
  refine h_callV (As := []) (rest := []) C Z yyX9_asksMoor wd_1516 (tgX9_asksMoor l D cy z _ hI) kd_195 rfl rfl ⟨rfl, rfl, Nat.le_of_ble_eq_true rfl, Nat.le_of_ble_eq_true rfl⟩ ⟨Nat.le_of_ble_eq_true rfl, Nat.le_of_ble_eq_true rfl⟩ (Nat.le_of_ble_eq_true rfl) dX9_above_1 (fun r1 τ1 hp1 => ?_)
  obtain ⟨x1, rfl, ⟨hx1a, hx1b⟩, hI1, hG1, hq1_0⟩ := hp1
  have hF1 : ∀ j i : Nat, (j < 195 ∨ j = 198 ∨ 213 ≤ j) → τ1 j i = σ j i := fun j i h_0 => (hG1 j i (by omega) (by omega) (by omega) (by omega) (by omega) (by omega)).trans (hF0 j i h_0)
  show hpV _ _ _ _ _ _ _ _ _ _ _ _ _ _ _ _ _ _ _ _ _ (_ :: _)
  refine h_pop C rfl dX9_above_4 ?_
  refine h_aload_n C dX9_above_5 0 rfl rfl ?_
  refine h_iload_n C dX9_above_6 1 rfl rfl ?_
  refine h_i2l C dX9_above_7 ⟨by omega, by omega⟩ ?_
  refine h_callV (As := [.long (hpJ a0)]) (rest := []) C Z yyX9_isDay wd_1575 (tgX9_isDay l D cy z _ a0 ⟨by omega, by omega⟩ hI1) kd_195 rfl rfl ⟨rfl, rfl, Nat.le_of_ble_eq_true rfl, Nat.le_of_ble_eq_true rfl⟩ ⟨Nat.le_of_ble_eq_true rfl, Nat.le_of_ble_eq_true rfl⟩ (Nat.le_of_ble_eq_true rfl) dX9_above_8 (fun r2 τ2 hp2 => ?_)
  obtain ⟨⟨x2, rfl, ⟨hx2a, hx2b⟩, hx2⟩, rfl⟩ := hp2
  show hpV _ _ _ _ _ _ _ _ _ _ _ _ _ _ _ _ _ _ _ _ _ (_ :: _)
  refine h_if_eq (tgt := 23) C dX9_above_11 (by decide) ⟨by omega, by omega⟩ (fun h3 => ?_) (fun h3 => ?_)
  · refine h_bipush C dX9_above_23 (by decide) ?_
    refine h_ireturn C hr hlk dX9_above_25 ?_
    exact ⟨⟨_, rfl, ⟨by decide, by decide⟩⟩, hI1, hF1⟩
  · refine h_aload_n C dX9_above_14 0 rfl rfl ?_
    refine h_iload_n C dX9_above_15 2 rfl rfl ?_
    refine h_i2l C dX9_above_16 ⟨by omega, by omega⟩ ?_
    refine h_callV (As := [.long (hpJ a1)]) (rest := []) C Z yyX9_isDay wd_1575 (tgX9_isDay l D cy z _ a1 ⟨by omega, by omega⟩ hI1) kd_195 rfl rfl ⟨rfl, rfl, Nat.le_of_ble_eq_true rfl, Nat.le_of_ble_eq_true rfl⟩ ⟨Nat.le_of_ble_eq_true rfl, Nat.le_of_ble_eq_true rfl⟩ (Nat.le_of_ble_eq_true rfl) dX9_above_17 (fun r4 τ4 hp4 => ?_)
    obtain ⟨⟨x4, rfl, ⟨hx4a, hx4b⟩, hx4⟩, rfl⟩ := hp4
    show hpV _ _ _ _ _ _ _ _ _ _ _ _ _ _ _ _ _ _ _ _ _ (_ :: _)
    refine h_if_ne (tgt := 26) C dX9_above_20 (by decide) ⟨by omega, by omega⟩ (fun h5 => ?_) (fun h5 => ?_)
    · refine h_aload_n C dX9_above_26 0 rfl rfl ?_
      refine h_iload_n C dX9_above_27 1 rfl rfl ?_
      refine h_callV (As := [.int (hpI a0)]) (rest := []) C Z yyX9_turfsOf wd_1587 (tgX9_turfsOf l D cy z _ a0 ⟨by omega, by omega⟩ hI1 (by omega)) kd_195 rfl rfl ⟨rfl, rfl, Nat.le_of_ble_eq_true rfl, Nat.le_of_ble_eq_true rfl⟩ ⟨Nat.le_of_ble_eq_true rfl, Nat.le_of_ble_eq_true rfl⟩ (Nat.le_of_ble_eq_true rfl) dX9_above_28 (fun r6 τ6 hp6 => ?_)
      obtain ⟨⟨x6, rfl, ⟨hx6a, hx6b⟩⟩, rfl⟩ := hp6
      show hpV _ _ _ _ _ _ _ _ _ _ _ _ _ _ _ _ _ _ _ _ _ (_ :: _)
      refine h_aload_n C dX9_above_31 0 rfl rfl ?_
      refine h_iload_n C dX9_above_32 2 rfl rfl ?_
      refine h_callV (As := [.int (hpI a1)]) (rest := [.int (hpI x6)]) C Z yyX9_turfsOf wd_1587 (tgX9_turfsOf l D cy z _ a1 ⟨by omega, by omega⟩ hI1 (by omega)) kd_195 rfl rfl ⟨rfl, rfl, Nat.le_of_ble_eq_true rfl, Nat.le_of_ble_eq_true rfl⟩ ⟨Nat.le_of_ble_eq_true rfl, Nat.le_of_ble_eq_true rfl⟩ (Nat.le_of_ble_eq_true rfl) dX9_above_33 (fun r7 τ7 hp7 => ?_)
      obtain ⟨⟨x7, rfl, ⟨hx7a, hx7b⟩⟩, rfl⟩ := hp7
      show hpV _ _ _ _ _ _ _ _ _ _ _ _ _ _ _ _ _ _ _ _ _ (_ :: _)
      refine h_icmp_eq (tgt := 41) C dX9_above_36 (by decide) ⟨by omega, by omega⟩ ⟨by omega, by omega⟩ (fun h8 => ?_) (fun h8 => ?_)
      · refine h_aload_n C dX9_above_41 0 rfl rfl ?_
        refine h_iload_n C dX9_above_42 1 rfl rfl ?_
        refine h_iload_n C dX9_above_43 2 rfl rfl ?_
        refine h_callV (As := [.int (hpI a0), .int (hpI a1)]) (rest := []) C Z yyX9_areSame wd_1641 (tgX9_areSame l D cy z _ a0 ⟨by omega, by omega⟩ a1 ⟨by omega, by omega⟩ hI1 (by omega) (by omega)) kd_195 rfl rfl ⟨rfl, rfl, Nat.le_of_ble_eq_true rfl, Nat.le_of_ble_eq_true rfl⟩ ⟨Nat.le_of_ble_eq_true rfl, Nat.le_of_ble_eq_true rfl⟩ (Nat.le_of_ble_eq_true rfl) dX9_above_44 (fun r9 τ9 hp9 => ?_)
        obtain ⟨⟨x9, rfl, ⟨hx9a, hx9b⟩, hx9⟩, rfl⟩ := hp9
        show hpV _ _ _ _ _ _ _ _ _ _ _ _ _ _ _ _ _ _ _ _ _ (_ :: _)
        refine h_if_eq (tgt := 52) C dX9_above_47 (by decide) ⟨by omega, by omega⟩ (fun h10 => ?_) (fun h10 => ?_)
        · refine h_aload_n C dX9_above_52 0 rfl rfl ?_
          refine h_iload_n C dX9_above_53 1 rfl rfl ?_
          refine h_iload_n C dX9_above_54 2 rfl rfl ?_
          refine h_callV (As := [.int (hpI a0), .int (hpI a1)]) (rest := []) C Z yyX9_isAbove wd_1685 (tgX9_isAbove l D cy z _ a0 ⟨by omega, by omega⟩ a1 ⟨by omega, by omega⟩ hI1 (by omega) (by omega)) kd_195 rfl rfl ⟨rfl, rfl, Nat.le_of_ble_eq_true rfl, Nat.le_of_ble_eq_true rfl⟩ ⟨Nat.le_of_ble_eq_true rfl, Nat.le_of_ble_eq_true rfl⟩ (Nat.le_of_ble_eq_true rfl) dX9_above_55 (fun r11 τ11 hp11 => ?_)
          obtain ⟨⟨x11, rfl, ⟨hx11a, hx11b⟩⟩, rfl⟩ := hp11
          show hpV _ _ _ _ _ _ _ _ _ _ _ _ _ _ _ _ _ _ _ _ _ (_ :: _)
          refine h_if_eq (tgt := 65) C dX9_above_58 (by decide) ⟨by omega, by omega⟩ (fun h12 => ?_) (fun h12 => ?_)
          · refine h_aload_n C dX9_above_65 0 rfl rfl ?_
            refine h_iload_n C dX9_above_66 2 rfl rfl ?_
            refine h_iload_n C dX9_above_67 1 rfl rfl ?_
            refine h_callV (As := [.int (hpI a1), .int (hpI a0)]) (rest := []) C Z yyX9_isAbove wd_1685 (tgX9_isAbove l D cy z _ a1 ⟨by omega, by omega⟩ a0 ⟨by omega, by omega⟩ hI1 (by omega) (by omega)) kd_195 rfl rfl ⟨rfl, rfl, Nat.le_of_ble_eq_true rfl, Nat.le_of_ble_eq_true rfl⟩ ⟨Nat.le_of_ble_eq_true rfl, Nat.le_of_ble_eq_true rfl⟩ (Nat.le_of_ble_eq_true rfl) dX9_above_68 (fun r13 τ13 hp13 => ?_)
            obtain ⟨⟨x13, rfl, ⟨hx13a, hx13b⟩⟩, rfl⟩ := hp13
            show hpV _ _ _ _ _ _ _ _ _ _ _ _ _ _ _ _ _ _ _ _ _ (_ :: _)
            refine h_if_eq (tgt := 78) C dX9_above_71 (by decide) ⟨by omega, by omega⟩ (fun h14 => ?_) (fun h14 => ?_)
            · refine h_iconst C dX9_above_78 ?_
              refine h_ireturn C hr hlk dX9_above_79 ?_
              exact ⟨⟨_, rfl, ⟨by decide, by decide⟩⟩, hI1, hF1⟩
            · refine h_iconst C dX9_above_74 ?_
              refine h_goto (tgt := 79) C dX9_above_75 (by decide) ?_
              refine h_ireturn C hr hlk dX9_above_79 ?_
              exact ⟨⟨_, rfl, ⟨by decide, by decide⟩⟩, hI1, hF1⟩
          · refine h_iconst C dX9_above_61 ?_
            refine h_goto (tgt := 79) C dX9_above_62 (by decide) ?_
            refine h_ireturn C hr hlk dX9_above_79 ?_
            exact ⟨⟨_, rfl, ⟨by decide, by decide⟩⟩, hI1, hF1⟩
        · refine h_iconst C dX9_above_50 ?_
          refine h_ireturn C hr hlk dX9_above_51 ?_
          exact ⟨⟨_, rfl, ⟨by decide, by decide⟩⟩, hI1, hF1⟩
      · refine h_iconst C dX9_above_39 ?_
        refine h_ireturn C hr hlk dX9_above_40 ?_
        exact ⟨⟨_, rfl, ⟨by decide, by decide⟩⟩, hI1, hF1⟩
    · refine h_bipush C dX9_above_23 (by decide) ?_
      refine h_ireturn C hr hlk dX9_above_25 ?_
      exact ⟨⟨_, rfl, ⟨by decide, by decide⟩⟩, hI1, hF1⟩
abbrev rgX9_lastBy : Room := { frames := 4, cells := 0, slots := 0, locals := 90 }
abbrev pgX9_lastBy (z : Nat) (σ : hpMem) (a0 : Int) (a1 : Int) : Option Value → hpMem → Prop := fun r τ => (∃ x : Int, r = some (.int (hpI x)) ∧ (hpR x)) ∧ hpInv τ ∧ (∀ j i : Nat, (j < 195 ∨ j = 198 ∨ 213 ≤ j) → τ j i = σ j i)
set_option maxHeartbeats 4000000 in
set_option maxRecDepth 20000 in
theorem tgX9_lastBy (l : Launch) (D : va_G) (cy : Nat → ClassId) (z : Nat) (σ : hpMem) (a0 : Int) (ha0 : hpR a0) (a1 : Int) (ha1 : hpR a1) (hI : hpInv σ) (ht0 : 0 ≤ a1 ∧ a1 ≤ 20) : hpM l D cy z yX9_lastBy cX9_lastBy 3 (some .int) rgX9_lastBy [.ref (z + 195), .int (hpI a0), .int (hpI a1)] σ (pgX9_lastBy z σ a0 a1) := by
  obtain ⟨ha01, ha02⟩ := ha0
  obtain ⟨ha11, ha12⟩ := ha1
  refine hp_met rfl (Nat.le_of_ble_eq_true rfl) (fun p e s m below meth c C Z hr hlk => ?_)
  have hF0 : ∀ j i : Nat, (j < 195 ∨ j = 198 ∨ 213 ≤ j) → σ j i = σ j i := fun j i _ => rfl
  refine h_aload_n C dX9_lastBy_0 0 rfl rfl ?_
  refine h_iload_n C dX9_lastBy_1 1 rfl rfl ?_
  refine h_put C O9 23 kd_195 (by decide) rfl wd_1279 dX9_lastBy_2 rfl rfl (hp_fvI (by rw [kd_195]; rfl) hpu_at) ?_
  obtain ⟨τ1, e1⟩ : ∃ μ : hpMem, μ = hpw σ 195 23 a0 := ⟨_, rfl⟩
  rw [← e1]
  have hI1 : hpInv τ1 := by rw [e1]; exact hI.w (bf_9_23 kd_195) (by omega) (by omega)
  have hF1 : ∀ j i : Nat, (j < 195 ∨ j = 198 ∨ 213 ≤ j) → τ1 j i = σ j i := fun j i h_0 => by rw [e1]; exact (hpw_fr (by omega)).trans (hF0 j i h_0)
  have hg2 : τ1 195 23 = a0 := by rw [e1]; exact hpw_eq
  refine h_aload_n C dX9_lastBy_5 0 rfl rfl ?_
  refine h_iload_n C dX9_lastBy_6 2 rfl rfl ?_
  refine h_put C O9 24 kd_195 (by decide) rfl wd_1280 dX9_lastBy_7 rfl rfl (hp_fvI (by rw [kd_195]; rfl) hpu_at) ?_
  obtain ⟨τ3, e3⟩ : ∃ μ : hpMem, μ = hpw τ1 195 24 a1 := ⟨_, rfl⟩
  rw [← e3]
  have hI3 : hpInv τ3 := by rw [e3]; exact hI1.w (bf_9_24 kd_195) (by omega) (by omega)
  have hF3 : ∀ j i : Nat, (j < 195 ∨ j = 198 ∨ 213 ≤ j) → τ3 j i = σ j i := fun j i h_0 => by rw [e3]; exact (hpw_fr (by omega)).trans (hF1 j i h_0)
  have hg4 : τ3 195 23 = a0 := by rw [e3]; exact (hpw_fr (Or.inr (by decide))).trans hg2
  have hg5 : τ3 195 24 = a1 := by rw [e3]; exact hpw_eq
  refine h_aload_n C dX9_lastBy_10 0 rfl rfl ?_
  refine h_callV (As := []) (rest := []) C Z yyX9_goAll wd_1524 (tgX9_goAll l D cy z _ hI3) kd_195 rfl rfl ⟨rfl, rfl, Nat.le_of_ble_eq_true rfl, Nat.le_of_ble_eq_true rfl⟩ ⟨Nat.le_of_ble_eq_true rfl, Nat.le_of_ble_eq_true rfl⟩ (Nat.le_of_ble_eq_true rfl) dX9_lastBy_11 (fun r6 τ6 hp6 => ?_)
  obtain ⟨rfl, hI6, hG6, hq6_0⟩ := hp6
  have hF6 : ∀ j i : Nat, (j < 195 ∨ j = 198 ∨ 213 ≤ j) → τ6 j i = σ j i := fun j i h_0 => (hG6 j i (by omega) (by omega) (by omega) (by omega)).trans (hF3 j i h_0)
  have hg7 : τ6 195 23 = a0 := (hG6 195 23 (by omega) (by omega) (by omega) (by omega)).trans hg4
  have hg8 : τ6 195 24 = a1 := (hG6 195 24 (by omega) (by omega) (by omega) (by omega)).trans hg5
  show hpV _ _ _ _ _ _ _ _ _ _ _ _ _ _ _ _ _ _ _ _ _ []
  refine h_aload_n C dX9_lastBy_14 0 rfl rfl ?_
  refine h_callV (As := []) (rest := []) C Z yyX9_lastMany wd_1804 (tgX9_lastMany l D cy z _ hI6) kd_195 rfl rfl ⟨rfl, rfl, Nat.le_of_ble_eq_true rfl, Nat.le_of_ble_eq_true rfl⟩ ⟨Nat.le_of_ble_eq_true rfl, Nat.le_of_ble_eq_true rfl⟩ (Nat.le_of_ble_eq_true rfl) dX9_lastBy_15 (fun r9 τ9 hp9 => ?_)
  obtain ⟨⟨x9, rfl, ⟨hx9a, hx9b⟩, hx9⟩, rfl⟩ := hp9
  show hpV _ _ _ _ _ _ _ _ _ _ _ _ _ _ _ _ _ _ _ _ _ (_ :: _)
  refine h_ireturn C hr hlk dX9_lastBy_18 ?_
  exact ⟨⟨_, rfl, ⟨by omega, by omega⟩⟩, hI6, hF6⟩
abbrev rgX9_bring : Room := { frames := 5, cells := 0, slots := 0, locals := 112 }
abbrev pgX9_bring (z : Nat) (σ : hpMem) (a0 : Int) (a1 : Int) : Option Value → hpMem → Prop := fun r τ => (∃ x : Int, r = some (.int (hpI x)) ∧ (hpR x)) ∧ hpInv τ ∧ (∀ j i : Nat, (j < 195 ∨ j = 198 ∨ 213 ≤ j) → τ j i = σ j i)
set_option maxHeartbeats 4000000 in
set_option maxRecDepth 20000 in
theorem tgX9_bring (l : Launch) (D : va_G) (cy : Nat → ClassId) (z : Nat) (σ : hpMem) (a0 : Int) (ha0 : hpR a0) (a1 : Int) (ha1 : hpR a1) (hI : hpInv σ) : hpM l D cy z yX9_bring cX9_bring 4 (some .int) rgX9_bring [.ref (z + 195), .int (hpI a0), .int (hpI a1)] σ (pgX9_bring z σ a0 a1) := by
  obtain ⟨ha01, ha02⟩ := ha0
  obtain ⟨ha11, ha12⟩ := ha1
  refine hp_met rfl (Nat.le_of_ble_eq_true rfl) (fun p e s m below meth c C Z hr hlk => ?_)
  have hF0 : ∀ j i : Nat, (j < 195 ∨ j = 198 ∨ 213 ≤ j) → σ j i = σ j i := fun j i _ => rfl
  refine h_aload_n C dX9_bring_0 0 rfl rfl ?_
  refine h_callV (As := []) (rest := []) C Z yyX9_asksMoor wd_1516 (tgX9_asksMoor l D cy z _ hI) kd_195 rfl rfl ⟨rfl, rfl, Nat.le_of_ble_eq_true rfl, Nat.le_of_ble_eq_true rfl⟩ ⟨Nat.le_of_ble_eq_true rfl, Nat.le_of_ble_eq_true rfl⟩ (Nat.le_of_ble_eq_true rfl) dX9_bring_1 (fun r1 τ1 hp1 => ?_)
  obtain ⟨x1, rfl, ⟨hx1a, hx1b⟩, hI1, hG1, hq1_0⟩ := hp1
  have hF1 : ∀ j i : Nat, (j < 195 ∨ j = 198 ∨ 213 ≤ j) → τ1 j i = σ j i := fun j i h_0 => (hG1 j i (by omega) (by omega) (by omega) (by omega) (by omega) (by omega)).trans (hF0 j i h_0)
  show hpV _ _ _ _ _ _ _ _ _ _ _ _ _ _ _ _ _ _ _ _ _ (_ :: _)
  refine h_if_eq (tgt := 28) C dX9_bring_4 (by decide) ⟨by omega, by omega⟩ (fun h2 => ?_) (fun h2 => ?_)
  · refine h_bipush C dX9_bring_28 (by decide) ?_
    refine h_ireturn C hr hlk dX9_bring_30 ?_
    exact ⟨⟨_, rfl, ⟨by decide, by decide⟩⟩, hI1, hF1⟩
  · refine h_aload_n C dX9_bring_7 0 rfl rfl ?_
    refine h_iload_n C dX9_bring_8 1 rfl rfl ?_
    refine h_i2l C dX9_bring_9 ⟨by omega, by omega⟩ ?_
    refine h_callV (As := [.long (hpJ a0)]) (rest := []) C Z yyX9_isAhead wd_1612 (tgX9_isAhead l D cy z _ a0 ⟨by omega, by omega⟩ hI1) kd_195 rfl rfl ⟨rfl, rfl, Nat.le_of_ble_eq_true rfl, Nat.le_of_ble_eq_true rfl⟩ ⟨Nat.le_of_ble_eq_true rfl, Nat.le_of_ble_eq_true rfl⟩ (Nat.le_of_ble_eq_true rfl) dX9_bring_10 (fun r3 τ3 hp3 => ?_)
    obtain ⟨⟨x3, rfl, ⟨hx3a, hx3b⟩, hx3⟩, rfl⟩ := hp3
    show hpV _ _ _ _ _ _ _ _ _ _ _ _ _ _ _ _ _ _ _ _ _ (_ :: _)
    refine h_if_eq (tgt := 28) C dX9_bring_13 (by decide) ⟨by omega, by omega⟩ (fun h4 => ?_) (fun h4 => ?_)
    · refine h_bipush C dX9_bring_28 (by decide) ?_
      refine h_ireturn C hr hlk dX9_bring_30 ?_
      exact ⟨⟨_, rfl, ⟨by decide, by decide⟩⟩, hI1, hF1⟩
    · refine h_iload_n C dX9_bring_16 2 rfl rfl ?_
      refine h_i2l C dX9_bring_17 ⟨by omega, by omega⟩ ?_
      refine h_lconst C 0 dX9_bring_18 (by decide) ?_
      refine h_ldc2 C 30 wd_1799 (by decide) dX9_bring_19 ?_
      refine h_callS (As := [.long (hpJ a1), .long (hpJ 0), .long (hpJ 30)]) (rest := []) C Z yyX9_in rfl wd_1401 (tgX9_in l D cy z _ a1 ⟨by omega, by omega⟩ 0 ⟨by decide, by decide⟩ 30 ⟨by decide, by decide⟩ hI1) rfl rfl ⟨rfl, rfl, Nat.le_of_ble_eq_true rfl, Nat.le_of_ble_eq_true rfl⟩ ⟨Nat.le_of_ble_eq_true rfl, Nat.le_of_ble_eq_true rfl⟩ (Nat.le_of_ble_eq_true rfl) dX9_bring_22 (fun r5 τ5 hp5 => ?_)
      obtain ⟨⟨x5, rfl, ⟨hx5a, hx5b⟩, hx5⟩, rfl⟩ := hp5
      show hpV _ _ _ _ _ _ _ _ _ _ _ _ _ _ _ _ _ _ _ _ _ (_ :: _)
      refine h_if_ne (tgt := 31) C dX9_bring_25 (by decide) ⟨by omega, by omega⟩ (fun h6 => ?_) (fun h6 => ?_)
      · refine h_iconst C dX9_bring_31 ?_
        refine h_istore_n (lv' := [(3, .int (hpI 0)), (0, .ref (z + 195)), (1, .int (hpI a0)), (2, .int (hpI a1))]) C dX9_bring_32 rfl (by decide) rfl ?_
        have L7 : ∀ (n7 : Nat) (τ7 : hpMem) (w7_3 : Int), 0 ≤ w7_3 → w7_3 ≤ 2147483647 → hpInv τ7 → (∀ j i : Nat, (j < 195 ∨ j = 198 ∨ 213 ≤ j) → τ7 j i = σ j i) → (4294967296 - w7_3) < (n7 : Int) → hpF p l e rgX9_bring s m [.ref (z + 195), .int (hpI a0), .int (hpI a1)] below meth c 4 D cy z (pgX9_bring z σ a0 a1) τ7 33 [(0, .ref (z + 195)), (1, .int (hpI a0)), (2, .int (hpI a1)), (3, .int (hpI w7_3))] [] := by
          intro n7
          induction n7 with
          | zero => intro τ7 w7_3 hv7_0 hv7_1 hI7 hF7 hm7; exfalso; omega
          | succ n7 ih7 =>
            intro τ7 w7_3 hv7_0 hv7_1 hI7 hF7 hm7
            refine h_iload_n C dX9_bring_33 3 rfl rfl ?_
            refine h_bipush C dX9_bring_34 (by decide) ?_
            refine h_icmp_gt (tgt := 57) C dX9_bring_36 (by decide) ⟨by omega, by omega⟩ ⟨by decide, by decide⟩ (fun h8 => ?_) (fun h8 => ?_)
            · refine h_iconst C dX9_bring_57 ?_
              refine h_ireturn C hr hlk dX9_bring_58 ?_
              exact ⟨⟨_, rfl, ⟨by decide, by decide⟩⟩, hI7, hF7⟩
            · refine h_aload_n C dX9_bring_39 0 rfl rfl ?_
              refine h_iload_n C dX9_bring_40 1 rfl rfl ?_
              refine h_iload_n C dX9_bring_41 3 rfl rfl ?_
              refine h_callV (As := [.int (hpI a0), .int (hpI w7_3)]) (rest := []) C Z yyX9_lastBy wd_1800 (tgX9_lastBy l D cy z _ a0 ⟨by omega, by omega⟩ w7_3 ⟨by omega, by omega⟩ hI7 (by omega)) kd_195 rfl rfl ⟨rfl, rfl, Nat.le_of_ble_eq_true rfl, Nat.le_of_ble_eq_true rfl⟩ ⟨Nat.le_of_ble_eq_true rfl, Nat.le_of_ble_eq_true rfl⟩ (Nat.le_of_ble_eq_true rfl) dX9_bring_42 (fun r9 τ9 hp9 => ?_)
              obtain ⟨⟨x9, rfl, ⟨hx9a, hx9b⟩⟩, hI9, hG9⟩ := hp9
              have hF9 : ∀ j i : Nat, (j < 195 ∨ j = 198 ∨ 213 ≤ j) → τ9 j i = σ j i := fun j i h_0 => (hG9 j i (by omega)).trans (hF7 j i h_0)
              show hpV _ _ _ _ _ _ _ _ _ _ _ _ _ _ _ _ _ _ _ _ _ (_ :: _)
              refine h_iload_n C dX9_bring_45 2 rfl rfl ?_
              refine h_icmp_lt (tgt := 51) C dX9_bring_46 (by decide) ⟨by omega, by omega⟩ ⟨by omega, by omega⟩ (fun h10 => ?_) (fun h10 => ?_)
              · refine h_iinc (lv' := [(3, .int (hpI (w7_3 + 1))), (0, .ref (z + 195)), (1, .int (hpI a0)), (2, .int (hpI a1))]) C dX9_bring_51 3 rfl rfl (by decide) rfl ?_
                refine h_goto (tgt := 33) C dX9_bring_54 (by decide) ?_
                exact hp_sub [1, 2, 3, 0] rfl (ih7 _ (w7_3 + 1) (by omega) (by omega) hI9 hF9 (by omega))
              · refine h_iload_n C dX9_bring_49 3 rfl rfl ?_
                refine h_ireturn C hr hlk dX9_bring_50 ?_
                exact ⟨⟨_, rfl, ⟨by omega, by omega⟩⟩, hI9, hF9⟩
        exact hp_sub [1, 2, 3, 0] rfl (L7 8589934592 _ 0 (by omega) (by omega) hI1 hF1 (by omega))
      · refine h_bipush C dX9_bring_28 (by decide) ?_
        refine h_ireturn C hr hlk dX9_bring_30 ?_
        exact ⟨⟨_, rfl, ⟨by decide, by decide⟩⟩, hI1, hF1⟩
abbrev rgX9_latest : Room := { frames := 5, cells := 0, slots := 0, locals := 112 }
abbrev pgX9_latest (z : Nat) (σ : hpMem) (a0 : Int) : Option Value → hpMem → Prop := fun r τ => (∃ x : Int, r = some (.int (hpI x)) ∧ (hpR x)) ∧ hpInv τ ∧ (∀ j i : Nat, (j < 195 ∨ j = 198 ∨ 213 ≤ j) → τ j i = σ j i)
set_option maxHeartbeats 4000000 in
set_option maxRecDepth 20000 in
theorem tgX9_latest (l : Launch) (D : va_G) (cy : Nat → ClassId) (z : Nat) (σ : hpMem) (a0 : Int) (ha0 : hpR a0) (hI : hpInv σ) : hpM l D cy z yX9_latest cX9_latest 3 (some .int) rgX9_latest [.ref (z + 195), .int (hpI a0)] σ (pgX9_latest z σ a0) := by
  obtain ⟨ha01, ha02⟩ := ha0
  refine hp_met rfl (Nat.le_of_ble_eq_true rfl) (fun p e s m below meth c C Z hr hlk => ?_)
  have hF0 : ∀ j i : Nat, (j < 195 ∨ j = 198 ∨ 213 ≤ j) → σ j i = σ j i := fun j i _ => rfl
  refine h_aload_n C dX9_latest_0 0 rfl rfl ?_
  refine h_callV (As := []) (rest := []) C Z yyX9_asksMoor wd_1516 (tgX9_asksMoor l D cy z _ hI) kd_195 rfl rfl ⟨rfl, rfl, Nat.le_of_ble_eq_true rfl, Nat.le_of_ble_eq_true rfl⟩ ⟨Nat.le_of_ble_eq_true rfl, Nat.le_of_ble_eq_true rfl⟩ (Nat.le_of_ble_eq_true rfl) dX9_latest_1 (fun r1 τ1 hp1 => ?_)
  obtain ⟨x1, rfl, ⟨hx1a, hx1b⟩, hI1, hG1, hq1_0⟩ := hp1
  have hF1 : ∀ j i : Nat, (j < 195 ∨ j = 198 ∨ 213 ≤ j) → τ1 j i = σ j i := fun j i h_0 => (hG1 j i (by omega) (by omega) (by omega) (by omega) (by omega) (by omega)).trans (hF0 j i h_0)
  show hpV _ _ _ _ _ _ _ _ _ _ _ _ _ _ _ _ _ _ _ _ _ (_ :: _)
  refine h_if_eq (tgt := 19) C dX9_latest_4 (by decide) ⟨by omega, by omega⟩ (fun h2 => ?_) (fun h2 => ?_)
  · refine h_bipush C dX9_latest_19 (by decide) ?_
    refine h_ireturn C hr hlk dX9_latest_21 ?_
    exact ⟨⟨_, rfl, ⟨by decide, by decide⟩⟩, hI1, hF1⟩
  · refine h_iload_n C dX9_latest_7 1 rfl rfl ?_
    refine h_i2l C dX9_latest_8 ⟨by omega, by omega⟩ ?_
    refine h_lconst C 0 dX9_latest_9 (by decide) ?_
    refine h_ldc2 C 30 wd_1799 (by decide) dX9_latest_10 ?_
    refine h_callS (As := [.long (hpJ a0), .long (hpJ 0), .long (hpJ 30)]) (rest := []) C Z yyX9_in rfl wd_1401 (tgX9_in l D cy z _ a0 ⟨by omega, by omega⟩ 0 ⟨by decide, by decide⟩ 30 ⟨by decide, by decide⟩ hI1) rfl rfl ⟨rfl, rfl, Nat.le_of_ble_eq_true rfl, Nat.le_of_ble_eq_true rfl⟩ ⟨Nat.le_of_ble_eq_true rfl, Nat.le_of_ble_eq_true rfl⟩ (Nat.le_of_ble_eq_true rfl) dX9_latest_13 (fun r3 τ3 hp3 => ?_)
    obtain ⟨⟨x3, rfl, ⟨hx3a, hx3b⟩, hx3⟩, rfl⟩ := hp3
    show hpV _ _ _ _ _ _ _ _ _ _ _ _ _ _ _ _ _ _ _ _ _ (_ :: _)
    refine h_if_ne (tgt := 22) C dX9_latest_16 (by decide) ⟨by omega, by omega⟩ (fun h4 => ?_) (fun h4 => ?_)
    · refine h_aload_n C dX9_latest_22 0 rfl rfl ?_
      refine h_callV (As := []) (rest := []) C Z yyX9_lastMany wd_1804 (tgX9_lastMany l D cy z _ hI1) kd_195 rfl rfl ⟨rfl, rfl, Nat.le_of_ble_eq_true rfl, Nat.le_of_ble_eq_true rfl⟩ ⟨Nat.le_of_ble_eq_true rfl, Nat.le_of_ble_eq_true rfl⟩ (Nat.le_of_ble_eq_true rfl) dX9_latest_23 (fun r5 τ5 hp5 => ?_)
      obtain ⟨⟨x5, rfl, ⟨hx5a, hx5b⟩, hx5⟩, rfl⟩ := hp5
      show hpV _ _ _ _ _ _ _ _ _ _ _ _ _ _ _ _ _ _ _ _ _ (_ :: _)
      refine h_iload_n C dX9_latest_26 1 rfl rfl ?_
      refine h_icmp_lt (tgt := 32) C dX9_latest_27 (by decide) ⟨by omega, by omega⟩ ⟨by omega, by omega⟩ (fun h6 => ?_) (fun h6 => ?_)
      · refine h_aload_n C dX9_latest_32 0 rfl rfl ?_
        refine h_callV (As := []) (rest := []) C Z yyX9_days wd_1544 (tgX9_days l D cy z _ hI1) kd_195 rfl rfl ⟨rfl, rfl, Nat.le_of_ble_eq_true rfl, Nat.le_of_ble_eq_true rfl⟩ ⟨Nat.le_of_ble_eq_true rfl, Nat.le_of_ble_eq_true rfl⟩ (Nat.le_of_ble_eq_true rfl) dX9_latest_33 (fun r7 τ7 hp7 => ?_)
        obtain ⟨⟨x7, rfl, ⟨hx7a, hx7b⟩, hx7⟩, rfl⟩ := hp7
        show hpV _ _ _ _ _ _ _ _ _ _ _ _ _ _ _ _ _ _ _ _ _ (_ :: _)
        refine h_iconst C dX9_latest_36 ?_
        refine h_isub C dX9_latest_37 rfl ?_
        refine h_istore_n (lv' := [(2, .int (hpI (x7 - 1))), (0, .ref (z + 195)), (1, .int (hpI a0))]) C dX9_latest_38 rfl (by decide) rfl ?_
        have L8 : ∀ (n8 : Nat) (τ8 : hpMem) (w8_2 : Int), -2147483648 ≤ w8_2 → w8_2 ≤ 15 → hpInv τ8 → (∀ j i : Nat, (j < 195 ∨ j = 198 ∨ 213 ≤ j) → τ8 j i = σ j i) → (w8_2 + 4294967296) < (n8 : Int) → hpF p l e rgX9_latest s m [.ref (z + 195), .int (hpI a0)] below meth c 3 D cy z (pgX9_latest z σ a0) τ8 39 [(0, .ref (z + 195)), (1, .int (hpI a0)), (2, .int (hpI w8_2))] [] := by
          intro n8
          induction n8 with
          | zero => intro τ8 w8_2 hv8_0 hv8_1 hI8 hF8 hm8; exfalso; omega
          | succ n8 ih8 =>
            intro τ8 w8_2 hv8_0 hv8_1 hI8 hF8 hm8
            refine h_iload_n C dX9_latest_39 2 rfl rfl ?_
            refine h_if_lt (tgt := 60) C dX9_latest_40 (by decide) ⟨by omega, by omega⟩ (fun h9 => ?_) (fun h9 => ?_)
            · refine h_iload_n C dX9_latest_60 2 rfl rfl ?_
              refine h_ireturn C hr hlk dX9_latest_61 ?_
              exact ⟨⟨_, rfl, ⟨by omega, by omega⟩⟩, hI8, hF8⟩
            · refine h_aload_n C dX9_latest_43 0 rfl rfl ?_
              refine h_iload_n C dX9_latest_44 2 rfl rfl ?_
              refine h_bipush C dX9_latest_45 (by decide) ?_
              refine h_callV (As := [.int (hpI w8_2), .int (hpI 20)]) (rest := []) C Z yyX9_lastBy wd_1800 (tgX9_lastBy l D cy z _ w8_2 ⟨by omega, by omega⟩ 20 ⟨by decide, by decide⟩ hI8 (by omega)) kd_195 rfl rfl ⟨rfl, rfl, Nat.le_of_ble_eq_true rfl, Nat.le_of_ble_eq_true rfl⟩ ⟨Nat.le_of_ble_eq_true rfl, Nat.le_of_ble_eq_true rfl⟩ (Nat.le_of_ble_eq_true rfl) dX9_latest_47 (fun r10 τ10 hp10 => ?_)
              obtain ⟨⟨x10, rfl, ⟨hx10a, hx10b⟩⟩, hI10, hG10⟩ := hp10
              have hF10 : ∀ j i : Nat, (j < 195 ∨ j = 198 ∨ 213 ≤ j) → τ10 j i = σ j i := fun j i h_0 => (hG10 j i (by omega)).trans (hF8 j i h_0)
              show hpV _ _ _ _ _ _ _ _ _ _ _ _ _ _ _ _ _ _ _ _ _ (_ :: _)
              refine h_iload_n C dX9_latest_50 1 rfl rfl ?_
              refine h_icmp_ge (tgt := 60) C dX9_latest_51 (by decide) ⟨by omega, by omega⟩ ⟨by omega, by omega⟩ (fun h11 => ?_) (fun h11 => ?_)
              · refine h_iload_n C dX9_latest_60 2 rfl rfl ?_
                refine h_ireturn C hr hlk dX9_latest_61 ?_
                exact ⟨⟨_, rfl, ⟨by omega, by omega⟩⟩, hI10, hF10⟩
              · refine h_iinc (lv' := [(2, .int (hpI (w8_2 + (-1)))), (0, .ref (z + 195)), (1, .int (hpI a0))]) C dX9_latest_54 2 rfl rfl (by decide) rfl ?_
                refine h_goto (tgt := 39) C dX9_latest_57 (by decide) ?_
                exact hp_sub [1, 2, 0] rfl (ih8 _ (w8_2 + (-1)) (by omega) (by omega) hI10 hF10 (by omega))
        exact hp_sub [1, 2, 0] rfl (L8 8589934592 _ (x7 - 1) (by omega) (by omega) hI1 hF1 (by omega))
      · refine h_iconst C dX9_latest_30 ?_
        refine h_ireturn C hr hlk dX9_latest_31 ?_
        exact ⟨⟨_, rfl, ⟨by decide, by decide⟩⟩, hI1, hF1⟩
    · refine h_bipush C dX9_latest_19 (by decide) ?_
      refine h_ireturn C hr hlk dX9_latest_21 ?_
      exact ⟨⟨_, rfl, ⟨by decide, by decide⟩⟩, hI1, hF1⟩
abbrev rgX9_spare : Room := { frames := 5, cells := 0, slots := 0, locals := 110 }
abbrev pgX9_spare (z : Nat) (σ : hpMem) : Option Value → hpMem → Prop := fun r τ => (∃ x : Int, r = some (.int (hpI x)) ∧ (hpR x)) ∧ hpInv τ ∧ (∀ j i : Nat, (j < 195 ∨ j = 198 ∨ 213 ≤ j) → τ j i = σ j i)
set_option maxHeartbeats 4000000 in
set_option maxRecDepth 20000 in
theorem tgX9_spare (l : Launch) (D : va_G) (cy : Nat → ClassId) (z : Nat) (σ : hpMem) (hI : hpInv σ) : hpM l D cy z yX9_spare cX9_spare 4 (some .int) rgX9_spare [.ref (z + 195)] σ (pgX9_spare z σ) := by
  refine hp_met rfl (Nat.le_of_ble_eq_true rfl) (fun p e s m below meth c C Z hr hlk => ?_)
  have hF0 : ∀ j i : Nat, (j < 195 ∨ j = 198 ∨ 213 ≤ j) → σ j i = σ j i := fun j i _ => rfl
  refine h_aload_n C dX9_spare_0 0 rfl rfl ?_
  refine h_callV (As := []) (rest := []) C Z yyX9_asksMoor wd_1516 (tgX9_asksMoor l D cy z _ hI) kd_195 rfl rfl ⟨rfl, rfl, Nat.le_of_ble_eq_true rfl, Nat.le_of_ble_eq_true rfl⟩ ⟨Nat.le_of_ble_eq_true rfl, Nat.le_of_ble_eq_true rfl⟩ (Nat.le_of_ble_eq_true rfl) dX9_spare_1 (fun r1 τ1 hp1 => ?_)
  obtain ⟨x1, rfl, ⟨hx1a, hx1b⟩, hI1, hG1, hq1_0⟩ := hp1
  have hF1 : ∀ j i : Nat, (j < 195 ∨ j = 198 ∨ 213 ≤ j) → τ1 j i = σ j i := fun j i h_0 => (hG1 j i (by omega) (by omega) (by omega) (by omega) (by omega) (by omega)).trans (hF0 j i h_0)
  show hpV _ _ _ _ _ _ _ _ _ _ _ _ _ _ _ _ _ _ _ _ _ (_ :: _)
  refine h_if_ne (tgt := 10) C dX9_spare_4 (by decide) ⟨by omega, by omega⟩ (fun h2 => ?_) (fun h2 => ?_)
  · refine h_aload_n C dX9_spare_10 0 rfl rfl ?_
    refine h_callV (As := []) (rest := []) C Z yyX9_lastMany wd_1804 (tgX9_lastMany l D cy z _ hI1) kd_195 rfl rfl ⟨rfl, rfl, Nat.le_of_ble_eq_true rfl, Nat.le_of_ble_eq_true rfl⟩ ⟨Nat.le_of_ble_eq_true rfl, Nat.le_of_ble_eq_true rfl⟩ (Nat.le_of_ble_eq_true rfl) dX9_spare_11 (fun r3 τ3 hp3 => ?_)
    obtain ⟨⟨x3, rfl, ⟨hx3a, hx3b⟩, hx3⟩, rfl⟩ := hp3
    show hpV _ _ _ _ _ _ _ _ _ _ _ _ _ _ _ _ _ _ _ _ _ (_ :: _)
    refine h_istore_n (lv' := [(1, .int (hpI x3)), (0, .ref (z + 195))]) C dX9_spare_14 rfl (by decide) rfl ?_
    refine h_iconst C dX9_spare_15 ?_
    refine h_istore_n (lv' := [(2, .int (hpI (-1))), (1, .int (hpI x3)), (0, .ref (z + 195))]) C dX9_spare_16 rfl (by decide) rfl ?_
    refine h_iconst C dX9_spare_17 ?_
    refine h_istore_n (lv' := [(3, .int (hpI 0)), (2, .int (hpI (-1))), (1, .int (hpI x3)), (0, .ref (z + 195))]) C dX9_spare_18 rfl (by decide) rfl ?_
    have L4 : ∀ (n4 : Nat) (τ4 : hpMem) (w4_1 : Int) (w4_2 : Int) (w4_3 : Int), -2147483648 ≤ w4_1 → w4_1 ≤ 2147483647 → -2147483648 ≤ w4_2 → w4_2 ≤ 2147483647 → 0 ≤ w4_3 → w4_3 ≤ 2147483647 → hpInv τ4 → (∀ j i : Nat, (j < 195 ∨ j = 198 ∨ 213 ≤ j) → τ4 j i = σ j i) → (4294967296 - w4_3) < (n4 : Int) → hpF p l e rgX9_spare s m [.ref (z + 195)] below meth c 4 D cy z (pgX9_spare z σ) τ4 19 [(0, .ref (z + 195)), (1, .int (hpI w4_1)), (2, .int (hpI w4_2)), (3, .int (hpI w4_3))] [] := by
      intro n4
      induction n4 with
      | zero => intro τ4 w4_1 w4_2 w4_3 hv4_0 hv4_1 hv4_2 hv4_3 hv4_4 hv4_5 hI4 hF4 hm4; exfalso; omega
      | succ n4 ih4 =>
        intro τ4 w4_1 w4_2 w4_3 hv4_0 hv4_1 hv4_2 hv4_3 hv4_4 hv4_5 hI4 hF4 hm4
        refine h_iload_n C dX9_spare_19 3 rfl rfl ?_
        refine h_aload_n C dX9_spare_20 0 rfl rfl ?_
        refine h_callV (As := []) (rest := [.int (hpI w4_3)]) C Z yyX9_cartMany wd_1504 (tgX9_cartMany l D cy z _ hI4) kd_195 rfl rfl ⟨rfl, rfl, Nat.le_of_ble_eq_true rfl, Nat.le_of_ble_eq_true rfl⟩ ⟨Nat.le_of_ble_eq_true rfl, Nat.le_of_ble_eq_true rfl⟩ (Nat.le_of_ble_eq_true rfl) dX9_spare_21 (fun r5 τ5 hp5 => ?_)
        obtain ⟨⟨x5, rfl, ⟨hx5a, hx5b⟩, hx5⟩, rfl⟩ := hp5
        show hpV _ _ _ _ _ _ _ _ _ _ _ _ _ _ _ _ _ _ _ _ _ (_ :: _)
        refine h_icmp_ge (tgt := 67) C dX9_spare_24 (by decide) ⟨by omega, by omega⟩ ⟨by omega, by omega⟩ (fun h6 => ?_) (fun h6 => ?_)
        · refine h_iload_n C dX9_spare_67 2 rfl rfl ?_
          refine h_ireturn C hr hlk dX9_spare_68 ?_
          exact ⟨⟨_, rfl, ⟨by omega, by omega⟩⟩, hI4, hF4⟩
        · refine h_aload_n C dX9_spare_27 0 rfl rfl ?_
          refine h_bipush C dX9_spare_28 (by decide) ?_
          refine h_iconst C dX9_spare_30 ?_
          refine h_iload_n C dX9_spare_31 3 rfl rfl ?_
          refine h_ishl_b (mm := 5) (M := 32) C dX9_spare_32 (by omega) (by omega) (by decide +kernel) (fun r7 hr7a hr7b => ?_)
          refine h_iconst C dX9_spare_33 ?_
          refine h_ixor_any C dX9_spare_34 (fun r8 hr8 => ?_)
          obtain ⟨hr8a, hr8b⟩ := hr8
          refine h_iand_l C dX9_spare_35 ⟨by decide, by decide⟩ (by omega) (fun r9 hr9a hr9b => ?_)
          refine h_put C O9 22 kd_195 (by decide) rfl wd_1278 dX9_spare_36 rfl rfl (hp_fvI (by rw [kd_195]; rfl) hpu_at) ?_
          obtain ⟨τ10, e10⟩ : ∃ μ : hpMem, μ = hpw τ4 195 22 r9 := ⟨_, rfl⟩
          rw [← e10]
          have hI10 : hpInv τ10 := by rw [e10]; exact hI4.w (bf_9_22 kd_195) (by omega) (by omega)
          have hF10 : ∀ j i : Nat, (j < 195 ∨ j = 198 ∨ 213 ≤ j) → τ10 j i = σ j i := fun j i h_0 => by rw [e10]; exact (hpw_fr (by omega)).trans (hF4 j i h_0)
          have hg11 : τ10 195 22 = r9 := by rw [e10]; exact hpw_eq
          refine h_aload_n C dX9_spare_39 0 rfl rfl ?_
          refine h_callV (As := []) (rest := []) C Z yyX9_goAll wd_1524 (tgX9_goAll l D cy z _ hI10) kd_195 rfl rfl ⟨rfl, rfl, Nat.le_of_ble_eq_true rfl, Nat.le_of_ble_eq_true rfl⟩ ⟨Nat.le_of_ble_eq_true rfl, Nat.le_of_ble_eq_true rfl⟩ (Nat.le_of_ble_eq_true rfl) dX9_spare_40 (fun r12 τ12 hp12 => ?_)
          obtain ⟨rfl, hI12, hG12, hq12_0⟩ := hp12
          have hF12 : ∀ j i : Nat, (j < 195 ∨ j = 198 ∨ 213 ≤ j) → τ12 j i = σ j i := fun j i h_0 => (hG12 j i (by omega) (by omega) (by omega) (by omega)).trans (hF10 j i h_0)
          have hg13 : τ12 195 22 = r9 := (hG12 195 22 (by omega) (by omega) (by omega) (by omega)).trans hg11
          show hpV _ _ _ _ _ _ _ _ _ _ _ _ _ _ _ _ _ _ _ _ _ []
          refine h_aload_n C dX9_spare_43 0 rfl rfl ?_
          refine h_callV (As := []) (rest := []) C Z yyX9_lastMany wd_1804 (tgX9_lastMany l D cy z _ hI12) kd_195 rfl rfl ⟨rfl, rfl, Nat.le_of_ble_eq_true rfl, Nat.le_of_ble_eq_true rfl⟩ ⟨Nat.le_of_ble_eq_true rfl, Nat.le_of_ble_eq_true rfl⟩ (Nat.le_of_ble_eq_true rfl) dX9_spare_44 (fun r14 τ14 hp14 => ?_)
          obtain ⟨⟨x14, rfl, ⟨hx14a, hx14b⟩, hx14⟩, rfl⟩ := hp14
          show hpV _ _ _ _ _ _ _ _ _ _ _ _ _ _ _ _ _ _ _ _ _ (_ :: _)
          refine h_iload_n C dX9_spare_47 1 rfl rfl ?_
          refine h_icmp_gt (tgt := 54) C dX9_spare_48 (by decide) ⟨by omega, by omega⟩ ⟨by omega, by omega⟩ (fun h15 => ?_) (fun h15 => ?_)
          · refine h_aload_n C dX9_spare_54 0 rfl rfl ?_
            refine h_callV (As := []) (rest := []) C Z yyX9_lastMany wd_1804 (tgX9_lastMany l D cy z _ hI12) kd_195 rfl rfl ⟨rfl, rfl, Nat.le_of_ble_eq_true rfl, Nat.le_of_ble_eq_true rfl⟩ ⟨Nat.le_of_ble_eq_true rfl, Nat.le_of_ble_eq_true rfl⟩ (Nat.le_of_ble_eq_true rfl) dX9_spare_55 (fun r16 τ16 hp16 => ?_)
            obtain ⟨⟨x16, rfl, ⟨hx16a, hx16b⟩, hx16⟩, rfl⟩ := hp16
            show hpV _ _ _ _ _ _ _ _ _ _ _ _ _ _ _ _ _ _ _ _ _ (_ :: _)
            refine h_istore_n (lv' := [(1, .int (hpI x16)), (0, .ref (z + 195)), (2, .int (hpI w4_2)), (3, .int (hpI w4_3))]) C dX9_spare_58 rfl (by decide) rfl ?_
            refine h_iload_n C dX9_spare_59 3 rfl rfl ?_
            refine h_istore_n (lv' := [(2, .int (hpI w4_3)), (1, .int (hpI x16)), (0, .ref (z + 195)), (3, .int (hpI w4_3))]) C dX9_spare_60 rfl (by decide) rfl ?_
            refine h_iinc (lv' := [(3, .int (hpI (w4_3 + 1))), (2, .int (hpI w4_3)), (1, .int (hpI x16)), (0, .ref (z + 195))]) C dX9_spare_61 3 rfl rfl (by decide) rfl ?_
            refine h_goto (tgt := 19) C dX9_spare_64 (by decide) ?_
            exact hp_sub [3, 2, 1, 0] rfl (ih4 _ x16 w4_3 (w4_3 + 1) (by omega) (by omega) (by omega) (by omega) (by omega) (by omega) hI12 hF12 (by omega))
          · refine h_goto (tgt := 61) C dX9_spare_51 (by decide) ?_
            refine h_iinc (lv' := [(3, .int (hpI (w4_3 + 1))), (0, .ref (z + 195)), (1, .int (hpI w4_1)), (2, .int (hpI w4_2))]) C dX9_spare_61 3 rfl rfl (by decide) rfl ?_
            refine h_goto (tgt := 19) C dX9_spare_64 (by decide) ?_
            exact hp_sub [1, 2, 3, 0] rfl (ih4 _ w4_1 w4_2 (w4_3 + 1) (by omega) (by omega) (by omega) (by omega) (by omega) (by omega) hI12 hF12 (by omega))
    exact hp_sub [3, 2, 1, 0] rfl (L4 8589934592 _ x3 (-1) 0 (by omega) (by omega) (by omega) (by omega) (by omega) (by omega) hI1 hF1 (by omega))
  · refine h_bipush C dX9_spare_7 (by decide) ?_
    refine h_ireturn C hr hlk dX9_spare_9 ?_
    exact ⟨⟨_, rfl, ⟨by decide, by decide⟩⟩, hI1, hF1⟩
abbrev rgX9_lastByLaw : Room := { frames := 4, cells := 0, slots := 0, locals := 90 }
abbrev pgX9_lastByLaw (z : Nat) (σ : hpMem) (a0 : Int) : Option Value → hpMem → Prop := fun r τ => (∃ x : Int, r = some (.int (hpI x)) ∧ (hpR x)) ∧ hpInv τ ∧ (∀ j i : Nat, (j < 195 ∨ j = 198 ∨ 213 ≤ j) → τ j i = σ j i)
set_option maxHeartbeats 4000000 in
set_option maxRecDepth 20000 in
theorem tgX9_lastByLaw (l : Launch) (D : va_G) (cy : Nat → ClassId) (z : Nat) (σ : hpMem) (a0 : Int) (ha0 : hpR a0) (hI : hpInv σ) (hl0 : 0 ≤ a0 ∧ a0 ≤ 3) : hpM l D cy z yX9_lastByLaw cX9_lastByLaw 2 (some .int) rgX9_lastByLaw [.ref (z + 195), .int (hpI a0)] σ (pgX9_lastByLaw z σ a0) := by
  obtain ⟨ha01, ha02⟩ := ha0
  refine hp_met rfl (Nat.le_of_ble_eq_true rfl) (fun p e s m below meth c C Z hr hlk => ?_)
  have hF0 : ∀ j i : Nat, (j < 195 ∨ j = 198 ∨ 213 ≤ j) → σ j i = σ j i := fun j i _ => rfl
  refine h_aload_n C dX9_lastByLaw_0 0 rfl rfl ?_
  refine h_iload_n C dX9_lastByLaw_1 1 rfl rfl ?_
  refine h_put C O9 16 kd_195 (by decide) rfl wd_1272 dX9_lastByLaw_2 rfl rfl (hp_fvI (by rw [kd_195]; rfl) hpu_at) ?_
  obtain ⟨τ1, e1⟩ : ∃ μ : hpMem, μ = hpw σ 195 16 a0 := ⟨_, rfl⟩
  rw [← e1]
  have hI1 : hpInv τ1 := by rw [e1]; exact hI.w (bf_9_16 kd_195) (by omega) (by omega)
  have hF1 : ∀ j i : Nat, (j < 195 ∨ j = 198 ∨ 213 ≤ j) → τ1 j i = σ j i := fun j i h_0 => by rw [e1]; exact (hpw_fr (by omega)).trans (hF0 j i h_0)
  have hg2 : τ1 195 16 = a0 := by rw [e1]; exact hpw_eq
  refine h_aload_n C dX9_lastByLaw_5 0 rfl rfl ?_
  refine h_callV (As := []) (rest := []) C Z yyX9_goAll wd_1524 (tgX9_goAll l D cy z _ hI1) kd_195 rfl rfl ⟨rfl, rfl, Nat.le_of_ble_eq_true rfl, Nat.le_of_ble_eq_true rfl⟩ ⟨Nat.le_of_ble_eq_true rfl, Nat.le_of_ble_eq_true rfl⟩ (Nat.le_of_ble_eq_true rfl) dX9_lastByLaw_6 (fun r3 τ3 hp3 => ?_)
  obtain ⟨rfl, hI3, hG3, hq3_0⟩ := hp3
  have hF3 : ∀ j i : Nat, (j < 195 ∨ j = 198 ∨ 213 ≤ j) → τ3 j i = σ j i := fun j i h_0 => (hG3 j i (by omega) (by omega) (by omega) (by omega)).trans (hF1 j i h_0)
  have hg4 : τ3 195 16 = a0 := (hG3 195 16 (by omega) (by omega) (by omega) (by omega)).trans hg2
  show hpV _ _ _ _ _ _ _ _ _ _ _ _ _ _ _ _ _ _ _ _ _ []
  refine h_aload_n C dX9_lastByLaw_9 0 rfl rfl ?_
  refine h_callV (As := []) (rest := []) C Z yyX9_lastMany wd_1804 (tgX9_lastMany l D cy z _ hI3) kd_195 rfl rfl ⟨rfl, rfl, Nat.le_of_ble_eq_true rfl, Nat.le_of_ble_eq_true rfl⟩ ⟨Nat.le_of_ble_eq_true rfl, Nat.le_of_ble_eq_true rfl⟩ (Nat.le_of_ble_eq_true rfl) dX9_lastByLaw_10 (fun r5 τ5 hp5 => ?_)
  obtain ⟨⟨x5, rfl, ⟨hx5a, hx5b⟩, hx5⟩, rfl⟩ := hp5
  show hpV _ _ _ _ _ _ _ _ _ _ _ _ _ _ _ _ _ _ _ _ _ (_ :: _)
  refine h_ireturn C hr hlk dX9_lastByLaw_13 ?_
  exact ⟨⟨_, rfl, ⟨by omega, by omega⟩⟩, hI3, hF3⟩
abbrev rgX9_by : Room := { frames := 5, cells := 0, slots := 0, locals := 111 }
abbrev pgX9_by (z : Nat) (σ : hpMem) (a0 : Int) : Option Value → hpMem → Prop := fun r τ => (∃ x : Int, r = some (.int (hpI x)) ∧ (hpR x)) ∧ hpInv τ ∧ (∀ j i : Nat, (j < 195 ∨ j = 198 ∨ 213 ≤ j) → τ j i = σ j i)
set_option maxHeartbeats 4000000 in
set_option maxRecDepth 20000 in
theorem tgX9_by (l : Launch) (D : va_G) (cy : Nat → ClassId) (z : Nat) (σ : hpMem) (a0 : Int) (ha0 : hpR a0) (hI : hpInv σ) : hpM l D cy z yX9_by cX9_by 2 (some .int) rgX9_by [.ref (z + 195), .int (hpI a0)] σ (pgX9_by z σ a0) := by
  obtain ⟨ha01, ha02⟩ := ha0
  refine hp_met rfl (Nat.le_of_ble_eq_true rfl) (fun p e s m below meth c C Z hr hlk => ?_)
  have hF0 : ∀ j i : Nat, (j < 195 ∨ j = 198 ∨ 213 ≤ j) → σ j i = σ j i := fun j i _ => rfl
  refine h_aload_n C dX9_by_0 0 rfl rfl ?_
  refine h_callV (As := []) (rest := []) C Z yyX9_asksMoor wd_1516 (tgX9_asksMoor l D cy z _ hI) kd_195 rfl rfl ⟨rfl, rfl, Nat.le_of_ble_eq_true rfl, Nat.le_of_ble_eq_true rfl⟩ ⟨Nat.le_of_ble_eq_true rfl, Nat.le_of_ble_eq_true rfl⟩ (Nat.le_of_ble_eq_true rfl) dX9_by_1 (fun r1 τ1 hp1 => ?_)
  obtain ⟨x1, rfl, ⟨hx1a, hx1b⟩, hI1, hG1, hq1_0⟩ := hp1
  have hF1 : ∀ j i : Nat, (j < 195 ∨ j = 198 ∨ 213 ≤ j) → τ1 j i = σ j i := fun j i h_0 => (hG1 j i (by omega) (by omega) (by omega) (by omega) (by omega) (by omega)).trans (hF0 j i h_0)
  show hpV _ _ _ _ _ _ _ _ _ _ _ _ _ _ _ _ _ _ _ _ _ (_ :: _)
  refine h_if_eq (tgt := 27) C dX9_by_4 (by decide) ⟨by omega, by omega⟩ (fun h2 => ?_) (fun h2 => ?_)
  · refine h_bipush C dX9_by_27 (by decide) ?_
    refine h_ireturn C hr hlk dX9_by_29 ?_
    exact ⟨⟨_, rfl, ⟨by decide, by decide⟩⟩, hI1, hF1⟩
  · refine h_iload_n C dX9_by_7 1 rfl rfl ?_
    refine h_i2l C dX9_by_8 ⟨by omega, by omega⟩ ?_
    refine h_lconst C 0 dX9_by_9 (by decide) ?_
    refine h_ldc2 C 3 wd_1782 (by decide) dX9_by_10 ?_
    refine h_callS (As := [.long (hpJ a0), .long (hpJ 0), .long (hpJ 3)]) (rest := []) C Z yyX9_in rfl wd_1401 (tgX9_in l D cy z _ a0 ⟨by omega, by omega⟩ 0 ⟨by decide, by decide⟩ 3 ⟨by decide, by decide⟩ hI1) rfl rfl ⟨rfl, rfl, Nat.le_of_ble_eq_true rfl, Nat.le_of_ble_eq_true rfl⟩ ⟨Nat.le_of_ble_eq_true rfl, Nat.le_of_ble_eq_true rfl⟩ (Nat.le_of_ble_eq_true rfl) dX9_by_13 (fun r3 τ3 hp3 => ?_)
    obtain ⟨⟨x3, rfl, ⟨hx3a, hx3b⟩, hx3⟩, rfl⟩ := hp3
    show hpV _ _ _ _ _ _ _ _ _ _ _ _ _ _ _ _ _ _ _ _ _ (_ :: _)
    refine h_if_eq (tgt := 27) C dX9_by_16 (by decide) ⟨by omega, by omega⟩ (fun h4 => ?_) (fun h4 => ?_)
    · refine h_bipush C dX9_by_27 (by decide) ?_
      refine h_ireturn C hr hlk dX9_by_29 ?_
      exact ⟨⟨_, rfl, ⟨by decide, by decide⟩⟩, hI1, hF1⟩
    · refine h_aload_n C dX9_by_19 0 rfl rfl ?_
      refine h_iload_n C dX9_by_20 1 rfl rfl ?_
      refine h_callV (As := [.int (hpI a0)]) (rest := []) C Z yyX9_lastByLaw wd_1864 (tgX9_lastByLaw l D cy z _ a0 ⟨by omega, by omega⟩ hI1 (by omega)) kd_195 rfl rfl ⟨rfl, rfl, Nat.le_of_ble_eq_true rfl, Nat.le_of_ble_eq_true rfl⟩ ⟨Nat.le_of_ble_eq_true rfl, Nat.le_of_ble_eq_true rfl⟩ (Nat.le_of_ble_eq_true rfl) dX9_by_21 (fun r5 τ5 hp5 => ?_)
      obtain ⟨⟨x5, rfl, ⟨hx5a, hx5b⟩⟩, hI5, hG5⟩ := hp5
      have hF5 : ∀ j i : Nat, (j < 195 ∨ j = 198 ∨ 213 ≤ j) → τ5 j i = σ j i := fun j i h_0 => (hG5 j i (by omega)).trans (hF1 j i h_0)
      show hpV _ _ _ _ _ _ _ _ _ _ _ _ _ _ _ _ _ _ _ _ _ (_ :: _)
      refine h_goto (tgt := 29) C dX9_by_24 (by decide) ?_
      refine h_ireturn C hr hlk dX9_by_29 ?_
      exact ⟨⟨_, rfl, ⟨by omega, by omega⟩⟩, hI5, hF5⟩
abbrev rgX9_law : Room := { frames := 5, cells := 0, slots := 0, locals := 111 }
abbrev pgX9_law (z : Nat) (σ : hpMem) : Option Value → hpMem → Prop := fun r τ => (∃ x : Int, r = some (.int (hpI x)) ∧ (hpR x)) ∧ hpInv τ ∧ (∀ j i : Nat, (j < 195 ∨ j = 198 ∨ 213 ≤ j) → τ j i = σ j i)
set_option maxHeartbeats 4000000 in
set_option maxRecDepth 20000 in
theorem tgX9_law (l : Launch) (D : va_G) (cy : Nat → ClassId) (z : Nat) (σ : hpMem) (hI : hpInv σ) : hpM l D cy z yX9_law cX9_law 3 (some .int) rgX9_law [.ref (z + 195)] σ (pgX9_law z σ) := by
  refine hp_met rfl (Nat.le_of_ble_eq_true rfl) (fun p e s m below meth c C Z hr hlk => ?_)
  have hF0 : ∀ j i : Nat, (j < 195 ∨ j = 198 ∨ 213 ≤ j) → σ j i = σ j i := fun j i _ => rfl
  refine h_aload_n C dX9_law_0 0 rfl rfl ?_
  refine h_callV (As := []) (rest := []) C Z yyX9_asksMoor wd_1516 (tgX9_asksMoor l D cy z _ hI) kd_195 rfl rfl ⟨rfl, rfl, Nat.le_of_ble_eq_true rfl, Nat.le_of_ble_eq_true rfl⟩ ⟨Nat.le_of_ble_eq_true rfl, Nat.le_of_ble_eq_true rfl⟩ (Nat.le_of_ble_eq_true rfl) dX9_law_1 (fun r1 τ1 hp1 => ?_)
  obtain ⟨x1, rfl, ⟨hx1a, hx1b⟩, hI1, hG1, hq1_0⟩ := hp1
  have hF1 : ∀ j i : Nat, (j < 195 ∨ j = 198 ∨ 213 ≤ j) → τ1 j i = σ j i := fun j i h_0 => (hG1 j i (by omega) (by omega) (by omega) (by omega) (by omega) (by omega)).trans (hF0 j i h_0)
  show hpV _ _ _ _ _ _ _ _ _ _ _ _ _ _ _ _ _ _ _ _ _ (_ :: _)
  refine h_if_ne (tgt := 10) C dX9_law_4 (by decide) ⟨by omega, by omega⟩ (fun h2 => ?_) (fun h2 => ?_)
  · refine h_iconst C dX9_law_10 ?_
    refine h_istore_n (lv' := [(1, .int (hpI 0)), (0, .ref (z + 195))]) C dX9_law_11 rfl (by decide) rfl ?_
    refine h_iconst C dX9_law_12 ?_
    refine h_istore_n (lv' := [(2, .int (hpI 1)), (1, .int (hpI 0)), (0, .ref (z + 195))]) C dX9_law_13 rfl (by decide) rfl ?_
    have L3 : ∀ (n3 : Nat) (τ3 : hpMem) (w3_1 : Int) (w3_2 : Int), 0 ≤ w3_1 → w3_1 ≤ 3 → 1 ≤ w3_2 → w3_2 ≤ 4 → hpInv τ3 → (∀ j i : Nat, (j < 195 ∨ j = 198 ∨ 213 ≤ j) → τ3 j i = σ j i) → (4294967296 - w3_2) < (n3 : Int) → hpF p l e rgX9_law s m [.ref (z + 195)] below meth c 3 D cy z (pgX9_law z σ) τ3 14 [(0, .ref (z + 195)), (1, .int (hpI w3_1)), (2, .int (hpI w3_2))] [] := by
      intro n3
      induction n3 with
      | zero => intro τ3 w3_1 w3_2 hv3_0 hv3_1 hv3_2 hv3_3 hI3 hF3 hm3; exfalso; omega
      | succ n3 ih3 =>
        intro τ3 w3_1 w3_2 hv3_0 hv3_1 hv3_2 hv3_3 hI3 hF3 hm3
        refine h_iload_n C dX9_law_14 2 rfl rfl ?_
        refine h_iconst C dX9_law_15 ?_
        refine h_icmp_ge (tgt := 44) C dX9_law_16 (by decide) ⟨by omega, by omega⟩ ⟨by decide, by decide⟩ (fun h4 => ?_) (fun h4 => ?_)
        · refine h_iload_n C dX9_law_44 1 rfl rfl ?_
          refine h_ireturn C hr hlk dX9_law_45 ?_
          exact ⟨⟨_, rfl, ⟨by omega, by omega⟩⟩, hI3, hF3⟩
        · refine h_aload_n C dX9_law_19 0 rfl rfl ?_
          refine h_iload_n C dX9_law_20 2 rfl rfl ?_
          refine h_callV (As := [.int (hpI w3_2)]) (rest := []) C Z yyX9_lastByLaw wd_1864 (tgX9_lastByLaw l D cy z _ w3_2 ⟨by omega, by omega⟩ hI3 (by omega)) kd_195 rfl rfl ⟨rfl, rfl, Nat.le_of_ble_eq_true rfl, Nat.le_of_ble_eq_true rfl⟩ ⟨Nat.le_of_ble_eq_true rfl, Nat.le_of_ble_eq_true rfl⟩ (Nat.le_of_ble_eq_true rfl) dX9_law_21 (fun r5 τ5 hp5 => ?_)
          obtain ⟨⟨x5, rfl, ⟨hx5a, hx5b⟩⟩, hI5, hG5⟩ := hp5
          have hF5 : ∀ j i : Nat, (j < 195 ∨ j = 198 ∨ 213 ≤ j) → τ5 j i = σ j i := fun j i h_0 => (hG5 j i (by omega)).trans (hF3 j i h_0)
          show hpV _ _ _ _ _ _ _ _ _ _ _ _ _ _ _ _ _ _ _ _ _ (_ :: _)
          refine h_aload_n C dX9_law_24 0 rfl rfl ?_
          refine h_iload_n C dX9_law_25 1 rfl rfl ?_
          refine h_callV (As := [.int (hpI w3_1)]) (rest := [.int (hpI x5)]) C Z yyX9_lastByLaw wd_1864 (tgX9_lastByLaw l D cy z _ w3_1 ⟨by omega, by omega⟩ hI5 (by omega)) kd_195 rfl rfl ⟨rfl, rfl, Nat.le_of_ble_eq_true rfl, Nat.le_of_ble_eq_true rfl⟩ ⟨Nat.le_of_ble_eq_true rfl, Nat.le_of_ble_eq_true rfl⟩ (Nat.le_of_ble_eq_true rfl) dX9_law_26 (fun r6 τ6 hp6 => ?_)
          obtain ⟨⟨x6, rfl, ⟨hx6a, hx6b⟩⟩, hI6, hG6⟩ := hp6
          have hF6 : ∀ j i : Nat, (j < 195 ∨ j = 198 ∨ 213 ≤ j) → τ6 j i = σ j i := fun j i h_0 => (hG6 j i (by omega)).trans (hF5 j i h_0)
          show hpV _ _ _ _ _ _ _ _ _ _ _ _ _ _ _ _ _ _ _ _ _ (_ :: _)
          refine h_icmp_le (tgt := 36) C dX9_law_29 (by decide) ⟨by omega, by omega⟩ ⟨by omega, by omega⟩ (fun h7 => ?_) (fun h7 => ?_)
          · refine h_iload_n C dX9_law_36 1 rfl rfl ?_
            refine h_istore_n (lv' := [(1, .int (hpI w3_1)), (0, .ref (z + 195)), (2, .int (hpI w3_2))]) C dX9_law_37 rfl (by decide) rfl ?_
            refine h_iinc (lv' := [(2, .int (hpI (w3_2 + 1))), (1, .int (hpI w3_1)), (0, .ref (z + 195))]) C dX9_law_38 2 rfl rfl (by decide) rfl ?_
            refine h_goto (tgt := 14) C dX9_law_41 (by decide) ?_
            exact hp_sub [2, 1, 0] rfl (ih3 _ w3_1 (w3_2 + 1) (by omega) (by omega) (by omega) (by omega) hI6 hF6 (by omega))
          · refine h_iload_n C dX9_law_32 2 rfl rfl ?_
            refine h_goto (tgt := 37) C dX9_law_33 (by decide) ?_
            refine h_istore_n (lv' := [(1, .int (hpI w3_2)), (0, .ref (z + 195)), (2, .int (hpI w3_2))]) C dX9_law_37 rfl (by decide) rfl ?_
            refine h_iinc (lv' := [(2, .int (hpI (w3_2 + 1))), (1, .int (hpI w3_2)), (0, .ref (z + 195))]) C dX9_law_38 2 rfl rfl (by decide) rfl ?_
            refine h_goto (tgt := 14) C dX9_law_41 (by decide) ?_
            exact hp_sub [2, 1, 0] rfl (ih3 _ w3_2 (w3_2 + 1) (by omega) (by omega) (by omega) (by omega) hI6 hF6 (by omega))
    exact hp_sub [2, 1, 0] rfl (L3 8589934592 _ 0 1 (by omega) (by omega) (by omega) (by omega) hI1 hF1 (by omega))
  · refine h_bipush C dX9_law_7 (by decide) ?_
    refine h_ireturn C hr hlk dX9_law_9 ?_
    exact ⟨⟨_, rfl, ⟨by decide, by decide⟩⟩, hI1, hF1⟩
abbrev rgX9_worthOf : Room := { frames := 4, cells := 0, slots := 0, locals := 90 }
abbrev pgX9_worthOf (z : Nat) (σ : hpMem) (a0 : Int) : Option Value → hpMem → Prop := fun r τ => (∃ x : Int, r = some (.int (hpI x)) ∧ (hpR x)) ∧ hpInv τ ∧ (∀ j i : Nat, (j < 195 ∨ j = 198 ∨ 213 ≤ j) → τ j i = σ j i)
set_option maxHeartbeats 4000000 in
set_option maxRecDepth 20000 in
theorem tgX9_worthOf (l : Launch) (D : va_G) (cy : Nat → ClassId) (z : Nat) (σ : hpMem) (a0 : Int) (ha0 : hpR a0) (hI : hpInv σ) : hpM l D cy z yX9_worthOf cX9_worthOf 2 (some .int) rgX9_worthOf [.ref (z + 195), .int (hpI a0)] σ (pgX9_worthOf z σ a0) := by
  obtain ⟨ha01, ha02⟩ := ha0
  refine hp_met rfl (Nat.le_of_ble_eq_true rfl) (fun p e s m below meth c C Z hr hlk => ?_)
  have hF0 : ∀ j i : Nat, (j < 195 ∨ j = 198 ∨ 213 ≤ j) → σ j i = σ j i := fun j i _ => rfl
  refine h_aload_n C dX9_worthOf_0 0 rfl rfl ?_
  refine h_iload_n C dX9_worthOf_1 1 rfl rfl ?_
  refine h_put C O9 22 kd_195 (by decide) rfl wd_1278 dX9_worthOf_2 rfl rfl (hp_fvI (by rw [kd_195]; rfl) hpu_at) ?_
  obtain ⟨τ1, e1⟩ : ∃ μ : hpMem, μ = hpw σ 195 22 a0 := ⟨_, rfl⟩
  rw [← e1]
  have hI1 : hpInv τ1 := by rw [e1]; exact hI.w (bf_9_22 kd_195) (by omega) (by omega)
  have hF1 : ∀ j i : Nat, (j < 195 ∨ j = 198 ∨ 213 ≤ j) → τ1 j i = σ j i := fun j i h_0 => by rw [e1]; exact (hpw_fr (by omega)).trans (hF0 j i h_0)
  have hg2 : τ1 195 22 = a0 := by rw [e1]; exact hpw_eq
  refine h_aload_n C dX9_worthOf_5 0 rfl rfl ?_
  refine h_callV (As := []) (rest := []) C Z yyX9_goAll wd_1524 (tgX9_goAll l D cy z _ hI1) kd_195 rfl rfl ⟨rfl, rfl, Nat.le_of_ble_eq_true rfl, Nat.le_of_ble_eq_true rfl⟩ ⟨Nat.le_of_ble_eq_true rfl, Nat.le_of_ble_eq_true rfl⟩ (Nat.le_of_ble_eq_true rfl) dX9_worthOf_6 (fun r3 τ3 hp3 => ?_)
  obtain ⟨rfl, hI3, hG3, hq3_0⟩ := hp3
  have hF3 : ∀ j i : Nat, (j < 195 ∨ j = 198 ∨ 213 ≤ j) → τ3 j i = σ j i := fun j i h_0 => (hG3 j i (by omega) (by omega) (by omega) (by omega)).trans (hF1 j i h_0)
  have hg4 : τ3 195 22 = a0 := (hG3 195 22 (by omega) (by omega) (by omega) (by omega)).trans hg2
  show hpV _ _ _ _ _ _ _ _ _ _ _ _ _ _ _ _ _ _ _ _ _ []
  refine h_aload_n C dX9_worthOf_9 0 rfl rfl ?_
  refine h_callV (As := []) (rest := []) C Z yyX9_lastMany wd_1804 (tgX9_lastMany l D cy z _ hI3) kd_195 rfl rfl ⟨rfl, rfl, Nat.le_of_ble_eq_true rfl, Nat.le_of_ble_eq_true rfl⟩ ⟨Nat.le_of_ble_eq_true rfl, Nat.le_of_ble_eq_true rfl⟩ (Nat.le_of_ble_eq_true rfl) dX9_worthOf_10 (fun r5 τ5 hp5 => ?_)
  obtain ⟨⟨x5, rfl, ⟨hx5a, hx5b⟩, hx5⟩, rfl⟩ := hp5
  show hpV _ _ _ _ _ _ _ _ _ _ _ _ _ _ _ _ _ _ _ _ _ (_ :: _)
  refine h_ireturn C hr hlk dX9_worthOf_13 ?_
  exact ⟨⟨_, rfl, ⟨by omega, by omega⟩⟩, hI3, hF3⟩
abbrev rgX9_worth : Room := { frames := 5, cells := 0, slots := 0, locals := 111 }
abbrev pgX9_worth (z : Nat) (σ : hpMem) (a0 : Int) : Option Value → hpMem → Prop := fun r τ => (∃ x : Int, r = some (.int (hpI x)) ∧ (hpR x)) ∧ hpInv τ ∧ (∀ j i : Nat, (j < 195 ∨ j = 198 ∨ 213 ≤ j) → τ j i = σ j i)
set_option maxHeartbeats 4000000 in
set_option maxRecDepth 20000 in
theorem tgX9_worth (l : Launch) (D : va_G) (cy : Nat → ClassId) (z : Nat) (σ : hpMem) (a0 : Int) (ha0 : hpR a0) (hI : hpInv σ) : hpM l D cy z yX9_worth cX9_worth 2 (some .int) rgX9_worth [.ref (z + 195), .int (hpI a0)] σ (pgX9_worth z σ a0) := by
  obtain ⟨ha01, ha02⟩ := ha0
  refine hp_met rfl (Nat.le_of_ble_eq_true rfl) (fun p e s m below meth c C Z hr hlk => ?_)
  have hF0 : ∀ j i : Nat, (j < 195 ∨ j = 198 ∨ 213 ≤ j) → σ j i = σ j i := fun j i _ => rfl
  refine h_aload_n C dX9_worth_0 0 rfl rfl ?_
  refine h_callV (As := []) (rest := []) C Z yyX9_asItIs wd_1520 (tgX9_asItIs l D cy z _ hI) kd_195 rfl rfl ⟨rfl, rfl, Nat.le_of_ble_eq_true rfl, Nat.le_of_ble_eq_true rfl⟩ ⟨Nat.le_of_ble_eq_true rfl, Nat.le_of_ble_eq_true rfl⟩ (Nat.le_of_ble_eq_true rfl) dX9_worth_1 (fun r1 τ1 hp1 => ?_)
  obtain ⟨rfl, hI1, hG1⟩ := hp1
  have hF1 : ∀ j i : Nat, (j < 195 ∨ j = 198 ∨ 213 ≤ j) → τ1 j i = σ j i := fun j i h_0 => (hG1 j i (by omega) (by omega) (by omega)).trans (hF0 j i h_0)
  show hpV _ _ _ _ _ _ _ _ _ _ _ _ _ _ _ _ _ _ _ _ _ []
  refine h_aload_n C dX9_worth_4 0 rfl rfl ?_
  refine h_callV (As := []) (rest := []) C Z yyX9_isMoor wd_1571 (tgX9_isMoor l D cy z _ hI1) kd_195 rfl rfl ⟨rfl, rfl, Nat.le_of_ble_eq_true rfl, Nat.le_of_ble_eq_true rfl⟩ ⟨Nat.le_of_ble_eq_true rfl, Nat.le_of_ble_eq_true rfl⟩ (Nat.le_of_ble_eq_true rfl) dX9_worth_5 (fun r2 τ2 hp2 => ?_)
  obtain ⟨⟨x2, rfl, ⟨hx2a, hx2b⟩, hx2⟩, rfl⟩ := hp2
  show hpV _ _ _ _ _ _ _ _ _ _ _ _ _ _ _ _ _ _ _ _ _ (_ :: _)
  refine h_if_eq (tgt := 37) C dX9_worth_8 (by decide) ⟨by omega, by omega⟩ (fun h3 => ?_) (fun h3 => ?_)
  · refine h_bipush C dX9_worth_37 (by decide) ?_
    refine h_ireturn C hr hlk dX9_worth_39 ?_
    exact ⟨⟨_, rfl, ⟨by decide, by decide⟩⟩, hI1, hF1⟩
  · refine h_iload_n C dX9_worth_11 1 rfl rfl ?_
    refine h_i2l C dX9_worth_12 ⟨by omega, by omega⟩ ?_
    refine h_lconst C 0 dX9_worth_13 (by decide) ?_
    refine h_iconst C dX9_worth_14 ?_
    refine h_aload_n C dX9_worth_15 0 rfl rfl ?_
    refine h_callV (As := []) (rest := [.int (hpI 1), .long (hpJ 0), .long (hpJ a0)]) C Z yyX9_cartMany wd_1504 (tgX9_cartMany l D cy z _ hI1) kd_195 rfl rfl ⟨rfl, rfl, Nat.le_of_ble_eq_true rfl, Nat.le_of_ble_eq_true rfl⟩ ⟨Nat.le_of_ble_eq_true rfl, Nat.le_of_ble_eq_true rfl⟩ (Nat.le_of_ble_eq_true rfl) dX9_worth_16 (fun r4 τ4 hp4 => ?_)
    obtain ⟨⟨x4, rfl, ⟨hx4a, hx4b⟩, hx4⟩, rfl⟩ := hp4
    show hpV _ _ _ _ _ _ _ _ _ _ _ _ _ _ _ _ _ _ _ _ _ (_ :: _)
    refine h_ishl_b (mm := 6) (M := 64) C dX9_worth_19 (by omega) (by omega) (by decide +kernel) (fun r5 hr5a hr5b => ?_)
    refine h_iconst C dX9_worth_20 ?_
    refine h_isub C dX9_worth_21 rfl ?_
    refine h_i2l C dX9_worth_22 ⟨by omega, by omega⟩ ?_
    refine h_callS (As := [.long (hpJ a0), .long (hpJ 0), .long (hpJ (r5 - 1))]) (rest := []) C Z yyX9_in rfl wd_1401 (tgX9_in l D cy z _ a0 ⟨by omega, by omega⟩ 0 ⟨by decide, by decide⟩ (r5 - 1) ⟨by omega, by omega⟩ hI1) rfl rfl ⟨rfl, rfl, Nat.le_of_ble_eq_true rfl, Nat.le_of_ble_eq_true rfl⟩ ⟨Nat.le_of_ble_eq_true rfl, Nat.le_of_ble_eq_true rfl⟩ (Nat.le_of_ble_eq_true rfl) dX9_worth_23 (fun r6 τ6 hp6 => ?_)
    obtain ⟨⟨x6, rfl, ⟨hx6a, hx6b⟩, hx6⟩, rfl⟩ := hp6
    show hpV _ _ _ _ _ _ _ _ _ _ _ _ _ _ _ _ _ _ _ _ _ (_ :: _)
    refine h_if_eq (tgt := 37) C dX9_worth_26 (by decide) ⟨by omega, by omega⟩ (fun h7 => ?_) (fun h7 => ?_)
    · refine h_bipush C dX9_worth_37 (by decide) ?_
      refine h_ireturn C hr hlk dX9_worth_39 ?_
      exact ⟨⟨_, rfl, ⟨by decide, by decide⟩⟩, hI1, hF1⟩
    · refine h_aload_n C dX9_worth_29 0 rfl rfl ?_
      refine h_iload_n C dX9_worth_30 1 rfl rfl ?_
      refine h_callV (As := [.int (hpI a0)]) (rest := []) C Z yyX9_worthOf wd_1876 (tgX9_worthOf l D cy z _ a0 ⟨by omega, by omega⟩ hI1) kd_195 rfl rfl ⟨rfl, rfl, Nat.le_of_ble_eq_true rfl, Nat.le_of_ble_eq_true rfl⟩ ⟨Nat.le_of_ble_eq_true rfl, Nat.le_of_ble_eq_true rfl⟩ (Nat.le_of_ble_eq_true rfl) dX9_worth_31 (fun r8 τ8 hp8 => ?_)
      obtain ⟨⟨x8, rfl, ⟨hx8a, hx8b⟩⟩, hI8, hG8⟩ := hp8
      have hF8 : ∀ j i : Nat, (j < 195 ∨ j = 198 ∨ 213 ≤ j) → τ8 j i = σ j i := fun j i h_0 => (hG8 j i (by omega)).trans (hF1 j i h_0)
      show hpV _ _ _ _ _ _ _ _ _ _ _ _ _ _ _ _ _ _ _ _ _ (_ :: _)
      refine h_goto (tgt := 39) C dX9_worth_34 (by decide) ?_
      refine h_ireturn C hr hlk dX9_worth_39 ?_
      exact ⟨⟨_, rfl, ⟨by omega, by omega⟩⟩, hI8, hF8⟩
abbrev rgX9_taking : Room := { frames := 1, cells := 0, slots := 0, locals := 22 }
abbrev pgX9_taking (z : Nat) (σ : hpMem) (a0 : Int) (a1 : Int) : Option Value → hpMem → Prop := fun r τ => (∃ x : Int, r = some (.int (hpI x)) ∧ (hpR x)) ∧ σ = τ
set_option maxHeartbeats 4000000 in
set_option maxRecDepth 20000 in
theorem tgX9_taking (l : Launch) (D : va_G) (cy : Nat → ClassId) (z : Nat) (σ : hpMem) (a0 : Int) (ha0 : hpR a0) (a1 : Int) (ha1 : hpR a1) (hI : hpInv σ) (hr0 : 0 ≤ a0 ∧ a0 ≤ 20) (hk0 : 1 ≤ a1 ∧ a1 ≤ 700) : hpM l D cy z yX9_taking cX9_taking 5 (some .int) rgX9_taking [.ref (z + 195), .int (hpI a0), .int (hpI a1)] σ (pgX9_taking z σ a0 a1) := by
  obtain ⟨ha01, ha02⟩ := ha0
  obtain ⟨ha11, ha12⟩ := ha1
  refine hp_met rfl (Nat.le_of_ble_eq_true rfl) (fun p e s m below meth c C Z hr hlk => ?_)
  refine h_iconst C dX9_taking_0 ?_
  refine h_istore_n (lv' := [(3, .int (hpI 0)), (0, .ref (z + 195)), (1, .int (hpI a0)), (2, .int (hpI a1))]) C dX9_taking_1 rfl (by decide) rfl ?_
  refine h_iconst C dX9_taking_2 ?_
  refine h_istore (lv' := [(4, .int (hpI 0)), (3, .int (hpI 0)), (0, .ref (z + 195)), (1, .int (hpI a0)), (2, .int (hpI a1))]) C dX9_taking_3 (by decide) rfl ?_
  have L1 : ∀ (n1 : Nat) (w1_3 : Int) (w1_4 : Int), -2147483648 ≤ w1_3 → w1_3 ≤ 2147483647 → 0 ≤ w1_4 → w1_4 ≤ 2147483647 → (4294967296 - w1_4) < (n1 : Int) → hpF p l e rgX9_taking s m [.ref (z + 195), .int (hpI a0), .int (hpI a1)] below meth c 5 D cy z (pgX9_taking z σ a0 a1) σ 5 [(0, .ref (z + 195)), (1, .int (hpI a0)), (2, .int (hpI a1)), (3, .int (hpI w1_3)), (4, .int (hpI w1_4))] [] := by
    intro n1
    induction n1 with
    | zero => intro w1_3 w1_4 hv1_0 hv1_1 hv1_2 hv1_3 hm1; exfalso; omega
    | succ n1 ih1 =>
      intro w1_3 w1_4 hv1_0 hv1_1 hv1_2 hv1_3 hm1
      refine h_iload C dX9_taking_5 4 rfl ?_
      refine h_aload_n C dX9_taking_7 0 rfl rfl ?_
      refine h_iload_n C dX9_taking_8 1 rfl rfl ?_
      refine h_callV (As := [.int (hpI a0)]) (rest := [.int (hpI w1_4)]) C Z yyX9_manyOf wd_1536 (tgX9_manyOf l D cy z _ a0 ⟨by omega, by omega⟩ hI (by omega)) kd_195 rfl rfl ⟨rfl, rfl, Nat.le_of_ble_eq_true rfl, Nat.le_of_ble_eq_true rfl⟩ ⟨Nat.le_of_ble_eq_true rfl, Nat.le_of_ble_eq_true rfl⟩ (Nat.le_of_ble_eq_true rfl) dX9_taking_9 (fun r2 τ2 hp2 => ?_)
      obtain ⟨⟨x2, rfl, ⟨hx2a, hx2b⟩, hx2⟩, rfl⟩ := hp2
      show hpV _ _ _ _ _ _ _ _ _ _ _ _ _ _ _ _ _ _ _ _ _ (_ :: _)
      refine h_icmp_ge (tgt := 35) C dX9_taking_12 (by decide) ⟨by omega, by omega⟩ ⟨by omega, by omega⟩ (fun h3 => ?_) (fun h3 => ?_)
      · refine h_iload_n C dX9_taking_35 3 rfl rfl ?_
        refine h_ireturn C hr hlk dX9_taking_36 ?_
        exact ⟨⟨_, rfl, ⟨by omega, by omega⟩⟩, rfl⟩
      · refine h_iload_n C dX9_taking_15 3 rfl rfl ?_
        refine h_aload_n C dX9_taking_16 0 rfl rfl ?_
        refine h_iload_n C dX9_taking_17 1 rfl rfl ?_
        refine h_iload C dX9_taking_18 4 rfl ?_
        refine h_callV (As := [.int (hpI a0), .int (hpI w1_4)]) (rest := [.int (hpI w1_3)]) C Z yyX9_heightOf wd_1540 (tgX9_heightOf l D cy z _ a0 ⟨by omega, by omega⟩ w1_4 ⟨by omega, by omega⟩ hI (by omega) (by omega)) kd_195 rfl rfl ⟨rfl, rfl, Nat.le_of_ble_eq_true rfl, Nat.le_of_ble_eq_true rfl⟩ ⟨Nat.le_of_ble_eq_true rfl, Nat.le_of_ble_eq_true rfl⟩ (Nat.le_of_ble_eq_true rfl) dX9_taking_20 (fun r4 τ4 hp4 => ?_)
        obtain ⟨⟨x4, rfl, ⟨hx4a, hx4b⟩, hx4⟩, rfl⟩ := hp4
        show hpV _ _ _ _ _ _ _ _ _ _ _ _ _ _ _ _ _ _ _ _ _ (_ :: _)
        refine h_iload_n C dX9_taking_23 2 rfl rfl ?_
        refine h_iconst C dX9_taking_24 ?_
        refine h_iadd C dX9_taking_25 rfl ?_
        refine h_irem_any C dX9_taking_26 ⟨by omega, by omega⟩ (by omega) (fun _ => ?_)
        refine hp_anyI (fun r5 hr5 => ?_)
        obtain ⟨hr5a, hr5b⟩ := hr5
        refine h_ixor_any C dX9_taking_27 (fun r6 hr6 => ?_)
        obtain ⟨hr6a, hr6b⟩ := hr6
        refine h_istore_n (lv' := [(3, .int (hpI r6)), (0, .ref (z + 195)), (1, .int (hpI a0)), (2, .int (hpI a1)), (4, .int (hpI w1_4))]) C dX9_taking_28 rfl (by decide) rfl ?_
        refine h_iinc (lv' := [(4, .int (hpI (w1_4 + 1))), (3, .int (hpI r6)), (0, .ref (z + 195)), (1, .int (hpI a0)), (2, .int (hpI a1))]) C dX9_taking_29 4 rfl rfl (by decide) rfl ?_
        refine h_goto (tgt := 5) C dX9_taking_32 (by decide) ?_
        exact hp_sub [2, 3, 4, 1, 0] rfl (ih1 r6 (w1_4 + 1) (by omega) (by omega) (by omega) (by omega) (by omega))
  exact hp_sub [2, 3, 4, 1, 0] rfl (L1 8589934592 0 0 (by omega) (by omega) (by omega) (by omega) (by omega))
abbrev rgX9_asksTaking : Room := { frames := 6, cells := 0, slots := 0, locals := 131 }
abbrev pgX9_asksTaking (z : Nat) (σ : hpMem) (a0 : Int) (a1 : Int) : Option Value → hpMem → Prop := fun r τ => (∃ x : Int, r = some (.int (hpI x)) ∧ (0 ≤ x ∧ x ≤ 1) ∧ (x = 1 → (0 ≤ a0 ∧ a0 ≤ 16 ∧ 1 ≤ a1 ∧ a1 ≤ 700))) ∧ hpInv τ ∧ (∀ j i : Nat, (j < 195 ∨ j = 198 ∨ 213 ≤ j) → τ j i = σ j i)
set_option maxHeartbeats 4000000 in
set_option maxRecDepth 20000 in
theorem tgX9_asksTaking (l : Launch) (D : va_G) (cy : Nat → ClassId) (z : Nat) (σ : hpMem) (a0 : Int) (ha0 : hpR a0) (a1 : Int) (ha1 : hpR a1) (hI : hpInv σ) : hpM l D cy z yX9_asksTaking cX9_asksTaking 3 (some .boolean) rgX9_asksTaking [.ref (z + 195), .int (hpI a0), .int (hpI a1)] σ (pgX9_asksTaking z σ a0 a1) := by
  obtain ⟨ha01, ha02⟩ := ha0
  obtain ⟨ha11, ha12⟩ := ha1
  refine hp_met rfl (Nat.le_of_ble_eq_true rfl) (fun p e s m below meth c C Z hr hlk => ?_)
  have hF0 : ∀ j i : Nat, (j < 195 ∨ j = 198 ∨ 213 ≤ j) → σ j i = σ j i := fun j i _ => rfl
  refine h_aload_n C dX9_asksTaking_0 0 rfl rfl ?_
  refine h_iload_n C dX9_asksTaking_1 1 rfl rfl ?_
  refine h_callV (As := [.int (hpI a0)]) (rest := []) C Z yyX9_asksDay wd_1512 (tgX9_asksDay l D cy z _ a0 ⟨by omega, by omega⟩ hI) kd_195 rfl rfl ⟨rfl, rfl, Nat.le_of_ble_eq_true rfl, Nat.le_of_ble_eq_true rfl⟩ ⟨Nat.le_of_ble_eq_true rfl, Nat.le_of_ble_eq_true rfl⟩ (Nat.le_of_ble_eq_true rfl) dX9_asksTaking_2 (fun r1 τ1 hp1 => ?_)
  obtain ⟨x1, rfl, ⟨hx1a, hx1b⟩, hx1, hI1, hG1, hq1_0⟩ := hp1
  have hF1 : ∀ j i : Nat, (j < 195 ∨ j = 198 ∨ 213 ≤ j) → τ1 j i = σ j i := fun j i h_0 => (hG1 j i (by omega) (by omega) (by omega) (by omega) (by omega) (by omega)).trans (hF0 j i h_0)
  show hpV _ _ _ _ _ _ _ _ _ _ _ _ _ _ _ _ _ _ _ _ _ (_ :: _)
  refine h_if_eq (tgt := 24) C dX9_asksTaking_5 (by decide) ⟨by omega, by omega⟩ (fun h2 => ?_) (fun h2 => ?_)
  · refine h_iconst C dX9_asksTaking_24 ?_
    refine h_zreturn C (by omega) hr hlk dX9_asksTaking_25 ?_
    exact ⟨⟨_, rfl, ⟨by decide, by decide⟩, by omega⟩, hI1, hF1⟩
  · refine h_iload_n C dX9_asksTaking_8 2 rfl rfl ?_
    refine h_i2l C dX9_asksTaking_9 ⟨by omega, by omega⟩ ?_
    refine h_lconst C 1 dX9_asksTaking_10 (by decide) ?_
    refine h_ldc2 C 700 wd_1595 (by decide) dX9_asksTaking_11 ?_
    refine h_callS (As := [.long (hpJ a1), .long (hpJ 1), .long (hpJ 700)]) (rest := []) C Z yyX9_in rfl wd_1401 (tgX9_in l D cy z _ a1 ⟨by omega, by omega⟩ 1 ⟨by decide, by decide⟩ 700 ⟨by decide, by decide⟩ hI1) rfl rfl ⟨rfl, rfl, Nat.le_of_ble_eq_true rfl, Nat.le_of_ble_eq_true rfl⟩ ⟨Nat.le_of_ble_eq_true rfl, Nat.le_of_ble_eq_true rfl⟩ (Nat.le_of_ble_eq_true rfl) dX9_asksTaking_14 (fun r3 τ3 hp3 => ?_)
    obtain ⟨⟨x3, rfl, ⟨hx3a, hx3b⟩, hx3⟩, rfl⟩ := hp3
    show hpV _ _ _ _ _ _ _ _ _ _ _ _ _ _ _ _ _ _ _ _ _ (_ :: _)
    refine h_if_eq (tgt := 24) C dX9_asksTaking_17 (by decide) ⟨by omega, by omega⟩ (fun h4 => ?_) (fun h4 => ?_)
    · refine h_iconst C dX9_asksTaking_24 ?_
      refine h_zreturn C (by omega) hr hlk dX9_asksTaking_25 ?_
      exact ⟨⟨_, rfl, ⟨by decide, by decide⟩, by omega⟩, hI1, hF1⟩
    · refine h_iconst C dX9_asksTaking_20 ?_
      refine h_goto (tgt := 25) C dX9_asksTaking_21 (by decide) ?_
      refine h_zreturn C (by omega) hr hlk dX9_asksTaking_25 ?_
      exact ⟨⟨_, rfl, ⟨by decide, by decide⟩, by omega⟩, hI1, hF1⟩
abbrev rgX9_wins : Room := { frames := 7, cells := 0, slots := 0, locals := 153 }
abbrev pgX9_wins (z : Nat) (σ : hpMem) (a0 : Int) (a1 : Int) : Option Value → hpMem → Prop := fun r τ => (∃ x : Int, r = some (.int (hpI x)) ∧ (hpR x)) ∧ hpInv τ ∧ (∀ j i : Nat, (j < 195 ∨ j = 198 ∨ 213 ≤ j) → τ j i = σ j i)
set_option maxHeartbeats 4000000 in
set_option maxRecDepth 20000 in
theorem tgX9_wins (l : Launch) (D : va_G) (cy : Nat → ClassId) (z : Nat) (σ : hpMem) (a0 : Int) (ha0 : hpR a0) (a1 : Int) (ha1 : hpR a1) (hI : hpInv σ) : hpM l D cy z yX9_wins cX9_wins 3 (some .int) rgX9_wins [.ref (z + 195), .int (hpI a0), .int (hpI a1)] σ (pgX9_wins z σ a0 a1) := by
  obtain ⟨ha01, ha02⟩ := ha0
  obtain ⟨ha11, ha12⟩ := ha1
  refine hp_met rfl (Nat.le_of_ble_eq_true rfl) (fun p e s m below meth c C Z hr hlk => ?_)
  have hF0 : ∀ j i : Nat, (j < 195 ∨ j = 198 ∨ 213 ≤ j) → σ j i = σ j i := fun j i _ => rfl
  refine h_aload_n C dX9_wins_0 0 rfl rfl ?_
  refine h_iload_n C dX9_wins_1 1 rfl rfl ?_
  refine h_iload_n C dX9_wins_2 2 rfl rfl ?_
  refine h_callV (As := [.int (hpI a0), .int (hpI a1)]) (rest := []) C Z yyX9_asksTaking wd_1901 (tgX9_asksTaking l D cy z _ a0 ⟨by omega, by omega⟩ a1 ⟨by omega, by omega⟩ hI) kd_195 rfl rfl ⟨rfl, rfl, Nat.le_of_ble_eq_true rfl, Nat.le_of_ble_eq_true rfl⟩ ⟨Nat.le_of_ble_eq_true rfl, Nat.le_of_ble_eq_true rfl⟩ (Nat.le_of_ble_eq_true rfl) dX9_wins_3 (fun r1 τ1 hp1 => ?_)
  obtain ⟨⟨x1, rfl, ⟨hx1a, hx1b⟩, hx1⟩, hI1, hG1⟩ := hp1
  have hF1 : ∀ j i : Nat, (j < 195 ∨ j = 198 ∨ 213 ≤ j) → τ1 j i = σ j i := fun j i h_0 => (hG1 j i (by omega)).trans (hF0 j i h_0)
  show hpV _ _ _ _ _ _ _ _ _ _ _ _ _ _ _ _ _ _ _ _ _ (_ :: _)
  refine h_if_ne (tgt := 12) C dX9_wins_6 (by decide) ⟨by omega, by omega⟩ (fun h2 => ?_) (fun h2 => ?_)
  · refine h_aload_n C dX9_wins_12 0 rfl rfl ?_
    refine h_iload_n C dX9_wins_13 1 rfl rfl ?_
    refine h_iload_n C dX9_wins_14 2 rfl rfl ?_
    refine h_callV (As := [.int (hpI a0), .int (hpI a1)]) (rest := []) C Z yyX9_taking wd_1905 (tgX9_taking l D cy z _ a0 ⟨by omega, by omega⟩ a1 ⟨by omega, by omega⟩ hI1 (by omega) (by omega)) kd_195 rfl rfl ⟨rfl, rfl, Nat.le_of_ble_eq_true rfl, Nat.le_of_ble_eq_true rfl⟩ ⟨Nat.le_of_ble_eq_true rfl, Nat.le_of_ble_eq_true rfl⟩ (Nat.le_of_ble_eq_true rfl) dX9_wins_15 (fun r3 τ3 hp3 => ?_)
    obtain ⟨⟨x3, rfl, ⟨hx3a, hx3b⟩⟩, rfl⟩ := hp3
    show hpV _ _ _ _ _ _ _ _ _ _ _ _ _ _ _ _ _ _ _ _ _ (_ :: _)
    refine h_if_ne (tgt := 25) C dX9_wins_18 (by decide) ⟨by omega, by omega⟩ (fun h4 => ?_) (fun h4 => ?_)
    · refine h_iconst C dX9_wins_25 ?_
      refine h_ireturn C hr hlk dX9_wins_26 ?_
      exact ⟨⟨_, rfl, ⟨by decide, by decide⟩⟩, hI1, hF1⟩
    · refine h_iconst C dX9_wins_21 ?_
      refine h_goto (tgt := 26) C dX9_wins_22 (by decide) ?_
      refine h_ireturn C hr hlk dX9_wins_26 ?_
      exact ⟨⟨_, rfl, ⟨by decide, by decide⟩⟩, hI1, hF1⟩
  · refine h_bipush C dX9_wins_9 (by decide) ?_
    refine h_ireturn C hr hlk dX9_wins_11 ?_
    exact ⟨⟨_, rfl, ⟨by decide, by decide⟩⟩, hI1, hF1⟩
abbrev rgX9_isMove : Room := { frames := 2, cells := 0, slots := 0, locals := 46 }
abbrev pgX9_isMove (z : Nat) (σ : hpMem) (a0 : Int) (a1 : Int) (a2 : Int) (a3 : Int) : Option Value → hpMem → Prop := fun r τ => (∃ x : Int, r = some (.int (hpI x)) ∧ (0 ≤ x ∧ x ≤ 1)) ∧ σ = τ
set_option maxHeartbeats 4000000 in
set_option maxRecDepth 20000 in
theorem tgX9_isMove (l : Launch) (D : va_G) (cy : Nat → ClassId) (z : Nat) (σ : hpMem) (a0 : Int) (ha0 : hpR a0) (a1 : Int) (ha1 : hpR a1) (a2 : Int) (ha2 : hpR a2) (a3 : Int) (ha3 : hpR a3) (hI : hpInv σ) (hr0 : 0 ≤ a0 ∧ a0 ≤ 20) (hk0 : 1 ≤ a1 ∧ a1 ≤ 700) (hi0 : 0 ≤ a2 ∧ a2 ≤ 699) : hpM l D cy z yX9_isMove cX9_isMove 6 (some .boolean) rgX9_isMove [.ref (z + 195), .int (hpI a0), .int (hpI a1), .int (hpI a2), .int (hpI a3)] σ (pgX9_isMove z σ a0 a1 a2 a3) := by
  obtain ⟨ha01, ha02⟩ := ha0
  obtain ⟨ha11, ha12⟩ := ha1
  obtain ⟨ha21, ha22⟩ := ha2
  obtain ⟨ha31, ha32⟩ := ha3
  refine hp_met rfl (Nat.le_of_ble_eq_true rfl) (fun p e s m below meth c C Z hr hlk => ?_)
  refine h_aload_n C dX9_isMove_0 0 rfl rfl ?_
  refine h_iload_n C dX9_isMove_1 1 rfl rfl ?_
  refine h_iload_n C dX9_isMove_2 3 rfl rfl ?_
  refine h_callV (As := [.int (hpI a0), .int (hpI a2)]) (rest := []) C Z yyX9_heightOf wd_1540 (tgX9_heightOf l D cy z _ a0 ⟨by omega, by omega⟩ a2 ⟨by omega, by omega⟩ hI (by omega) (by omega)) kd_195 rfl rfl ⟨rfl, rfl, Nat.le_of_ble_eq_true rfl, Nat.le_of_ble_eq_true rfl⟩ ⟨Nat.le_of_ble_eq_true rfl, Nat.le_of_ble_eq_true rfl⟩ (Nat.le_of_ble_eq_true rfl) dX9_isMove_3 (fun r1 τ1 hp1 => ?_)
  obtain ⟨⟨x1, rfl, ⟨hx1a, hx1b⟩, hx1⟩, rfl⟩ := hp1
  show hpV _ _ _ _ _ _ _ _ _ _ _ _ _ _ _ _ _ _ _ _ _ (_ :: _)
  refine h_istore (lv' := [(5, .int (hpI x1)), (0, .ref (z + 195)), (1, .int (hpI a0)), (2, .int (hpI a1)), (3, .int (hpI a2)), (4, .int (hpI a3))]) C dX9_isMove_6 (by decide) rfl ?_
  refine h_aload_n C dX9_isMove_8 1 rfl rfl ?_
  refine h_iload_n C dX9_isMove_9 2 rfl rfl ?_
  refine h_iload_n C dX9_isMove_10 3 rfl rfl ?_
  refine h_callV (As := [.int (hpI a0), .int (hpI a1)]) (rest := []) C Z yyX9_taking wd_1905 (tgX9_taking l D cy z _ a0 ⟨by omega, by omega⟩ a1 ⟨by omega, by omega⟩ hI (by omega) (by omega)) kd_195 rfl rfl ⟨rfl, rfl, Nat.le_of_ble_eq_true rfl, Nat.le_of_ble_eq_true rfl⟩ ⟨Nat.le_of_ble_eq_true rfl, Nat.le_of_ble_eq_true rfl⟩ (Nat.le_of_ble_eq_true rfl) dX9_isMove_11 (fun r2 τ2 hp2 => ?_)
  obtain ⟨⟨x2, rfl, ⟨hx2a, hx2b⟩⟩, rfl⟩ := hp2
  show hpV _ _ _ _ _ _ _ _ _ _ _ _ _ _ _ _ _ _ _ _ _ (_ :: _)
  refine h_iload C dX9_isMove_14 0 rfl ?_
  refine h_iload_n C dX9_isMove_16 3 rfl rfl ?_
  refine h_iconst C dX9_isMove_17 ?_
  refine h_iadd C dX9_isMove_18 rfl ?_
  refine h_irem_any C dX9_isMove_19 ⟨by omega, by omega⟩ (by omega) (fun _ => ?_)
  refine hp_anyI (fun r3 hr3 => ?_)
  obtain ⟨hr3a, hr3b⟩ := hr3
  refine h_ixor_any C dX9_isMove_20 (fun r4 hr4 => ?_)
  obtain ⟨hr4a, hr4b⟩ := hr4
  refine h_iload C dX9_isMove_21 0 rfl ?_
  refine h_iload C dX9_isMove_23 5 rfl ?_
  refine h_isub C dX9_isMove_25 rfl ?_
  refine hp_anyI (fun r5 hr5 => ?_)
  obtain ⟨hr5a, hr5b⟩ := hr5
  refine h_iload_n C dX9_isMove_26 3 rfl rfl ?_
  refine h_iconst C dX9_isMove_27 ?_
  refine h_iadd C dX9_isMove_28 rfl ?_
  refine h_irem_any C dX9_isMove_29 ⟨by omega, by omega⟩ (by omega) (fun _ => ?_)
  refine hp_anyI (fun r6 hr6 => ?_)
  obtain ⟨hr6a, hr6b⟩ := hr6
  refine h_ixor_any C dX9_isMove_30 (fun r7 hr7 => ?_)
  obtain ⟨hr7a, hr7b⟩ := hr7
  refine h_if_ne (tgt := 38) C dX9_isMove_31 (by decide) ⟨by omega, by omega⟩ (fun h8 => ?_) (fun h8 => ?_)
  · refine h_iconst C dX9_isMove_38 ?_
    refine h_zreturn C (by omega) hr hlk dX9_isMove_39 ?_
    exact ⟨⟨_, rfl, ⟨by decide, by decide⟩⟩, rfl⟩
  · refine h_iconst C dX9_isMove_34 ?_
    refine h_goto (tgt := 39) C dX9_isMove_35 (by decide) ?_
    refine h_zreturn C (by omega) hr hlk dX9_isMove_39 ?_
    exact ⟨⟨_, rfl, ⟨by decide, by decide⟩⟩, rfl⟩
abbrev rgX9_isFirstHigh : Room := { frames := 1, cells := 0, slots := 0, locals := 22 }
abbrev pgX9_isFirstHigh (z : Nat) (σ : hpMem) (a0 : Int) (a1 : Int) : Option Value → hpMem → Prop := fun r τ => (∃ x : Int, r = some (.int (hpI x)) ∧ (0 ≤ x ∧ x ≤ 1)) ∧ σ = τ
set_option maxHeartbeats 4000000 in
set_option maxRecDepth 20000 in
theorem tgX9_isFirstHigh (l : Launch) (D : va_G) (cy : Nat → ClassId) (z : Nat) (σ : hpMem) (a0 : Int) (ha0 : hpR a0) (a1 : Int) (ha1 : hpR a1) (hI : hpInv σ) (hr0 : 0 ≤ a0 ∧ a0 ≤ 20) (hi0 : 0 ≤ a1 ∧ a1 ≤ 699) : hpM l D cy z yX9_isFirstHigh cX9_isFirstHigh 3 (some .boolean) rgX9_isFirstHigh [.ref (z + 195), .int (hpI a0), .int (hpI a1)] σ (pgX9_isFirstHigh z σ a0 a1) := by
  obtain ⟨ha01, ha02⟩ := ha0
  obtain ⟨ha11, ha12⟩ := ha1
  refine hp_met rfl (Nat.le_of_ble_eq_true rfl) (fun p e s m below meth c C Z hr hlk => ?_)
  refine h_iload_n C dX9_isFirstHigh_0 2 rfl rfl ?_
  refine h_if_eq (tgt := 21) C dX9_isFirstHigh_1 (by decide) ⟨by omega, by omega⟩ (fun h1 => ?_) (fun h1 => ?_)
  · refine h_iconst C dX9_isFirstHigh_21 ?_
    refine h_goto (tgt := 26) C dX9_isFirstHigh_22 (by decide) ?_
    refine h_zreturn C (by omega) hr hlk dX9_isFirstHigh_26 ?_
    exact ⟨⟨_, rfl, ⟨by decide, by decide⟩⟩, rfl⟩
  · refine h_aload_n C dX9_isFirstHigh_4 0 rfl rfl ?_
    refine h_iload_n C dX9_isFirstHigh_5 1 rfl rfl ?_
    refine h_iload_n C dX9_isFirstHigh_6 2 rfl rfl ?_
    refine h_callV (As := [.int (hpI a0), .int (hpI a1)]) (rest := []) C Z yyX9_heightOf wd_1540 (tgX9_heightOf l D cy z _ a0 ⟨by omega, by omega⟩ a1 ⟨by omega, by omega⟩ hI (by omega) (by omega)) kd_195 rfl rfl ⟨rfl, rfl, Nat.le_of_ble_eq_true rfl, Nat.le_of_ble_eq_true rfl⟩ ⟨Nat.le_of_ble_eq_true rfl, Nat.le_of_ble_eq_true rfl⟩ (Nat.le_of_ble_eq_true rfl) dX9_isFirstHigh_7 (fun r2 τ2 hp2 => ?_)
    obtain ⟨⟨x2, rfl, ⟨hx2a, hx2b⟩, hx2⟩, rfl⟩ := hp2
    show hpV _ _ _ _ _ _ _ _ _ _ _ _ _ _ _ _ _ _ _ _ _ (_ :: _)
    refine h_aload_n C dX9_isFirstHigh_10 0 rfl rfl ?_
    refine h_iload_n C dX9_isFirstHigh_11 1 rfl rfl ?_
    refine h_iload_n C dX9_isFirstHigh_12 2 rfl rfl ?_
    refine h_iconst C dX9_isFirstHigh_13 ?_
    refine h_isub C dX9_isFirstHigh_14 rfl ?_
    refine h_callV (As := [.int (hpI a0), .int (hpI (a1 - 1))]) (rest := [.int (hpI x2)]) C Z yyX9_heightOf wd_1540 (tgX9_heightOf l D cy z _ a0 ⟨by omega, by omega⟩ (a1 - 1) ⟨by omega, by omega⟩ hI (by omega) (by omega)) kd_195 rfl rfl ⟨rfl, rfl, Nat.le_of_ble_eq_true rfl, Nat.le_of_ble_eq_true rfl⟩ ⟨Nat.le_of_ble_eq_true rfl, Nat.le_of_ble_eq_true rfl⟩ (Nat.le_of_ble_eq_true rfl) dX9_isFirstHigh_15 (fun r3 τ3 hp3 => ?_)
    obtain ⟨⟨x3, rfl, ⟨hx3a, hx3b⟩, hx3⟩, rfl⟩ := hp3
    show hpV _ _ _ _ _ _ _ _ _ _ _ _ _ _ _ _ _ _ _ _ _ (_ :: _)
    refine h_icmp_eq (tgt := 25) C dX9_isFirstHigh_18 (by decide) ⟨by omega, by omega⟩ ⟨by omega, by omega⟩ (fun h4 => ?_) (fun h4 => ?_)
    · refine h_iconst C dX9_isFirstHigh_25 ?_
      refine h_zreturn C (by omega) hr hlk dX9_isFirstHigh_26 ?_
      exact ⟨⟨_, rfl, ⟨by decide, by decide⟩⟩, rfl⟩
    · refine h_iconst C dX9_isFirstHigh_21 ?_
      refine h_goto (tgt := 26) C dX9_isFirstHigh_22 (by decide) ?_
      refine h_zreturn C (by omega) hr hlk dX9_isFirstHigh_26 ?_
      exact ⟨⟨_, rfl, ⟨by decide, by decide⟩⟩, rfl⟩
abbrev rgX9_moves : Room := { frames := 7, cells := 0, slots := 0, locals := 153 }
abbrev pgX9_moves (z : Nat) (σ : hpMem) (a0 : Int) (a1 : Int) : Option Value → hpMem → Prop := fun r τ => (∃ x : Int, r = some (.int (hpI x)) ∧ (hpR x)) ∧ hpInv τ ∧ (∀ j i : Nat, (j < 195 ∨ j = 198 ∨ 213 ≤ j) → τ j i = σ j i)
set_option maxHeartbeats 4000000 in
set_option maxRecDepth 20000 in
theorem tgX9_moves (l : Launch) (D : va_G) (cy : Nat → ClassId) (z : Nat) (σ : hpMem) (a0 : Int) (ha0 : hpR a0) (a1 : Int) (ha1 : hpR a1) (hI : hpInv σ) : hpM l D cy z yX9_moves cX9_moves 6 (some .int) rgX9_moves [.ref (z + 195), .int (hpI a0), .int (hpI a1)] σ (pgX9_moves z σ a0 a1) := by
  obtain ⟨ha01, ha02⟩ := ha0
  obtain ⟨ha11, ha12⟩ := ha1
  refine hp_met rfl (Nat.le_of_ble_eq_true rfl) (fun p e s m below meth c C Z hr hlk => ?_)
  have hF0 : ∀ j i : Nat, (j < 195 ∨ j = 198 ∨ 213 ≤ j) → σ j i = σ j i := fun j i _ => rfl
  refine h_aload_n C dX9_moves_0 0 rfl rfl ?_
  refine h_iload_n C dX9_moves_1 1 rfl rfl ?_
  refine h_iload_n C dX9_moves_2 2 rfl rfl ?_
  refine h_callV (As := [.int (hpI a0), .int (hpI a1)]) (rest := []) C Z yyX9_asksTaking wd_1901 (tgX9_asksTaking l D cy z _ a0 ⟨by omega, by omega⟩ a1 ⟨by omega, by omega⟩ hI) kd_195 rfl rfl ⟨rfl, rfl, Nat.le_of_ble_eq_true rfl, Nat.le_of_ble_eq_true rfl⟩ ⟨Nat.le_of_ble_eq_true rfl, Nat.le_of_ble_eq_true rfl⟩ (Nat.le_of_ble_eq_true rfl) dX9_moves_3 (fun r1 τ1 hp1 => ?_)
  obtain ⟨⟨x1, rfl, ⟨hx1a, hx1b⟩, hx1⟩, hI1, hG1⟩ := hp1
  have hF1 : ∀ j i : Nat, (j < 195 ∨ j = 198 ∨ 213 ≤ j) → τ1 j i = σ j i := fun j i h_0 => (hG1 j i (by omega)).trans (hF0 j i h_0)
  show hpV _ _ _ _ _ _ _ _ _ _ _ _ _ _ _ _ _ _ _ _ _ (_ :: _)
  refine h_if_ne (tgt := 12) C dX9_moves_6 (by decide) ⟨by omega, by omega⟩ (fun h2 => ?_) (fun h2 => ?_)
  · refine h_iconst C dX9_moves_12 ?_
    refine h_istore_n (lv' := [(3, .int (hpI 0)), (0, .ref (z + 195)), (1, .int (hpI a0)), (2, .int (hpI a1))]) C dX9_moves_13 rfl (by decide) rfl ?_
    refine h_iconst C dX9_moves_14 ?_
    refine h_istore (lv' := [(4, .int (hpI 0)), (3, .int (hpI 0)), (0, .ref (z + 195)), (1, .int (hpI a0)), (2, .int (hpI a1))]) C dX9_moves_15 (by decide) rfl ?_
    have L3 : ∀ (n3 : Nat) (w3_3 : Int) (w3_4 : Int), -2147483648 ≤ w3_3 → w3_3 ≤ 2147483647 → 0 ≤ w3_4 → w3_4 ≤ 2147483647 → (4294967296 - w3_4) < (n3 : Int) → hpF p l e rgX9_moves s m [.ref (z + 195), .int (hpI a0), .int (hpI a1)] below meth c 6 D cy z (pgX9_moves z σ a0 a1) τ1 17 [(0, .ref (z + 195)), (1, .int (hpI a0)), (2, .int (hpI a1)), (3, .int (hpI w3_3)), (4, .int (hpI w3_4))] [] := by
      intro n3
      induction n3 with
      | zero => intro w3_3 w3_4 hv3_0 hv3_1 hv3_2 hv3_3 hm3; exfalso; omega
      | succ n3 ih3 =>
        intro w3_3 w3_4 hv3_0 hv3_1 hv3_2 hv3_3 hm3
        refine h_iload C dX9_moves_17 4 rfl ?_
        refine h_aload_n C dX9_moves_19 0 rfl rfl ?_
        refine h_iload_n C dX9_moves_20 1 rfl rfl ?_
        refine h_callV (As := [.int (hpI a0)]) (rest := [.int (hpI w3_4)]) C Z yyX9_manyOf wd_1536 (tgX9_manyOf l D cy z _ a0 ⟨by omega, by omega⟩ hI1 (by omega)) kd_195 rfl rfl ⟨rfl, rfl, Nat.le_of_ble_eq_true rfl, Nat.le_of_ble_eq_true rfl⟩ ⟨Nat.le_of_ble_eq_true rfl, Nat.le_of_ble_eq_true rfl⟩ (Nat.le_of_ble_eq_true rfl) dX9_moves_21 (fun r4 τ4 hp4 => ?_)
        obtain ⟨⟨x4, rfl, ⟨hx4a, hx4b⟩, hx4⟩, rfl⟩ := hp4
        show hpV _ _ _ _ _ _ _ _ _ _ _ _ _ _ _ _ _ _ _ _ _ (_ :: _)
        refine h_icmp_ge (tgt := 92) C dX9_moves_24 (by decide) ⟨by omega, by omega⟩ ⟨by omega, by omega⟩ (fun h5 => ?_) (fun h5 => ?_)
        · refine h_iload_n C dX9_moves_92 3 rfl rfl ?_
          refine h_ireturn C hr hlk dX9_moves_93 ?_
          exact ⟨⟨_, rfl, ⟨by omega, by omega⟩⟩, hI1, hF1⟩
        · refine h_aload_n C dX9_moves_27 0 rfl rfl ?_
          refine h_iload_n C dX9_moves_28 1 rfl rfl ?_
          refine h_iload C dX9_moves_29 4 rfl ?_
          refine h_callV (As := [.int (hpI a0), .int (hpI w3_4)]) (rest := []) C Z yyX9_isFirstHigh wd_1913 (tgX9_isFirstHigh l D cy z _ a0 ⟨by omega, by omega⟩ w3_4 ⟨by omega, by omega⟩ hI1 (by omega) (by omega)) kd_195 rfl rfl ⟨rfl, rfl, Nat.le_of_ble_eq_true rfl, Nat.le_of_ble_eq_true rfl⟩ ⟨Nat.le_of_ble_eq_true rfl, Nat.le_of_ble_eq_true rfl⟩ (Nat.le_of_ble_eq_true rfl) dX9_moves_31 (fun r6 τ6 hp6 => ?_)
          obtain ⟨⟨x6, rfl, ⟨hx6a, hx6b⟩⟩, rfl⟩ := hp6
          show hpV _ _ _ _ _ _ _ _ _ _ _ _ _ _ _ _ _ _ _ _ _ (_ :: _)
          refine h_if_ne (tgt := 40) C dX9_moves_34 (by decide) ⟨by omega, by omega⟩ (fun h7 => ?_) (fun h7 => ?_)
          · refine h_iconst C dX9_moves_40 ?_
            refine h_istore (lv' := [(5, .int (hpI 1)), (0, .ref (z + 195)), (1, .int (hpI a0)), (2, .int (hpI a1)), (3, .int (hpI w3_3)), (4, .int (hpI w3_4))]) C dX9_moves_41 (by decide) rfl ?_
            have L8 : ∀ (n8 : Nat) (w8_3 : Int) (w8_5 : Int), -2147483648 ≤ w8_3 → w8_3 ≤ 2147483647 → 1 ≤ w8_5 → w8_5 ≤ 2147483647 → (4294967296 - w8_5) < (n8 : Int) → hpF p l e rgX9_moves s m [.ref (z + 195), .int (hpI a0), .int (hpI a1)] below meth c 6 D cy z (pgX9_moves z σ a0 a1) τ1 43 [(0, .ref (z + 195)), (1, .int (hpI a0)), (2, .int (hpI a1)), (3, .int (hpI w8_3)), (4, .int (hpI w3_4)), (5, .int (hpI w8_5))] [] := by
              intro n8
              induction n8 with
              | zero => intro w8_3 w8_5 hv8_0 hv8_1 hv8_2 hv8_3 hm8; exfalso; omega
              | succ n8 ih8 =>
                intro w8_3 w8_5 hv8_0 hv8_1 hv8_2 hv8_3 hm8
                refine h_iload C dX9_moves_43 5 rfl ?_
                refine h_iload_n C dX9_moves_45 2 rfl rfl ?_
                refine h_aload_n C dX9_moves_46 0 rfl rfl ?_
                refine h_iload_n C dX9_moves_47 1 rfl rfl ?_
                refine h_iload C dX9_moves_48 4 rfl ?_
                refine h_callV (As := [.int (hpI a0), .int (hpI w3_4)]) (rest := [.int (hpI a1), .int (hpI w8_5)]) C Z yyX9_heightOf wd_1540 (tgX9_heightOf l D cy z _ a0 ⟨by omega, by omega⟩ w3_4 ⟨by omega, by omega⟩ hI1 (by omega) (by omega)) kd_195 rfl rfl ⟨rfl, rfl, Nat.le_of_ble_eq_true rfl, Nat.le_of_ble_eq_true rfl⟩ ⟨Nat.le_of_ble_eq_true rfl, Nat.le_of_ble_eq_true rfl⟩ (Nat.le_of_ble_eq_true rfl) dX9_moves_50 (fun r9 τ9 hp9 => ?_)
                obtain ⟨⟨x9, rfl, ⟨hx9a, hx9b⟩, hx9⟩, rfl⟩ := hp9
                show hpV _ _ _ _ _ _ _ _ _ _ _ _ _ _ _ _ _ _ _ _ _ (_ :: _)
                refine h_mmin C wd_1437 wd_514 wd_515 wd_15 dX9_moves_53 ⟨by omega, by omega⟩ ⟨by omega, by omega⟩ (Nat.le_of_ble_eq_true rfl) (Nat.le_of_ble_eq_true rfl) ⟨Nat.le_of_ble_eq_true rfl, Nat.le_of_ble_eq_true rfl⟩ (fun r10 hr10a hr10b hr10c => ?_)
                refine h_icmp_gt (tgt := 86) C dX9_moves_56 (by decide) ⟨by omega, by omega⟩ ⟨by omega, by omega⟩ (fun h11 => ?_) (fun h11 => ?_)
                · refine h_iinc (lv' := [(4, .int (hpI (w3_4 + 1))), (0, .ref (z + 195)), (1, .int (hpI a0)), (2, .int (hpI a1)), (3, .int (hpI w8_3)), (5, .int (hpI w8_5))]) C dX9_moves_86 4 rfl rfl (by decide) rfl ?_
                  refine h_goto (tgt := 17) C dX9_moves_89 (by decide) ?_
                  exact hp_sub [1, 2, 3, 4, 0] rfl (ih3 w8_3 (w3_4 + 1) (by omega) (by omega) (by omega) (by omega) (by omega))
                · refine h_iload_n C dX9_moves_59 3 rfl rfl ?_
                  refine h_aload_n C dX9_moves_60 0 rfl rfl ?_
                  refine h_iload_n C dX9_moves_61 1 rfl rfl ?_
                  refine h_iload_n C dX9_moves_62 2 rfl rfl ?_
                  refine h_iload C dX9_moves_63 4 rfl ?_
                  refine h_iload C dX9_moves_65 5 rfl ?_
                  refine h_callV (As := [.int (hpI a0), .int (hpI a1), .int (hpI w3_4), .int (hpI w8_5)]) (rest := [.int (hpI w8_3)]) C Z yyX9_isMove wd_1917 (tgX9_isMove l D cy z _ a0 ⟨by omega, by omega⟩ a1 ⟨by omega, by omega⟩ w3_4 ⟨by omega, by omega⟩ w8_5 ⟨by omega, by omega⟩ hI1 (by omega) (by omega) (by omega)) kd_195 rfl rfl ⟨rfl, rfl, Nat.le_of_ble_eq_true rfl, Nat.le_of_ble_eq_true rfl⟩ ⟨Nat.le_of_ble_eq_true rfl, Nat.le_of_ble_eq_true rfl⟩ (Nat.le_of_ble_eq_true rfl) dX9_moves_67 (fun r12 τ12 hp12 => ?_)
                  obtain ⟨⟨x12, rfl, ⟨hx12a, hx12b⟩⟩, rfl⟩ := hp12
                  show hpV _ _ _ _ _ _ _ _ _ _ _ _ _ _ _ _ _ _ _ _ _ (_ :: _)
                  refine h_if_eq (tgt := 77) C dX9_moves_70 (by decide) ⟨by omega, by omega⟩ (fun h13 => ?_) (fun h13 => ?_)
                  · refine h_iconst C dX9_moves_77 ?_
                    refine h_iadd C dX9_moves_78 rfl ?_
                    refine h_istore_n (lv' := [(3, .int (hpI (w8_3 + 0))), (0, .ref (z + 195)), (1, .int (hpI a0)), (2, .int (hpI a1)), (4, .int (hpI w3_4)), (5, .int (hpI w8_5))]) C dX9_moves_79 rfl (by decide) rfl ?_
                    refine h_iinc (lv' := [(5, .int (hpI (w8_5 + 1))), (3, .int (hpI (w8_3 + 0))), (0, .ref (z + 195)), (1, .int (hpI a0)), (2, .int (hpI a1)), (4, .int (hpI w3_4))]) C dX9_moves_80 5 rfl rfl (by decide) rfl ?_
                    refine h_goto (tgt := 43) C dX9_moves_83 (by decide) ?_
                    exact hp_sub [2, 3, 4, 1, 5, 0] rfl (ih8 (w8_3 + 0) (w8_5 + 1) (by omega) (by omega) (by omega) (by omega) (by omega))
                  · refine h_iconst C dX9_moves_73 ?_
                    refine h_goto (tgt := 78) C dX9_moves_74 (by decide) ?_
                    refine h_iadd C dX9_moves_78 rfl ?_
                    refine hp_anyI (fun r14 hr14 => ?_)
                    obtain ⟨hr14a, hr14b⟩ := hr14
                    refine h_istore_n (lv' := [(3, .int (hpI r14)), (0, .ref (z + 195)), (1, .int (hpI a0)), (2, .int (hpI a1)), (4, .int (hpI w3_4)), (5, .int (hpI w8_5))]) C dX9_moves_79 rfl (by decide) rfl ?_
                    refine h_iinc (lv' := [(5, .int (hpI (w8_5 + 1))), (3, .int (hpI r14)), (0, .ref (z + 195)), (1, .int (hpI a0)), (2, .int (hpI a1)), (4, .int (hpI w3_4))]) C dX9_moves_80 5 rfl rfl (by decide) rfl ?_
                    refine h_goto (tgt := 43) C dX9_moves_83 (by decide) ?_
                    exact hp_sub [2, 3, 4, 1, 5, 0] rfl (ih8 r14 (w8_5 + 1) (by omega) (by omega) (by omega) (by omega) (by omega))
            exact hp_sub [1, 2, 3, 4, 5, 0] rfl (L8 8589934592 w3_3 1 (by omega) (by omega) (by omega) (by omega) (by omega))
          · refine h_goto (tgt := 86) C dX9_moves_37 (by decide) ?_
            refine h_iinc (lv' := [(4, .int (hpI (w3_4 + 1))), (0, .ref (z + 195)), (1, .int (hpI a0)), (2, .int (hpI a1)), (3, .int (hpI w3_3))]) C dX9_moves_86 4 rfl rfl (by decide) rfl ?_
            refine h_goto (tgt := 17) C dX9_moves_89 (by decide) ?_
            exact hp_sub [1, 2, 3, 4, 0] rfl (ih3 w3_3 (w3_4 + 1) (by omega) (by omega) (by omega) (by omega) (by omega))
    exact hp_sub [2, 3, 4, 1, 0] rfl (L3 8589934592 0 0 (by omega) (by omega) (by omega) (by omega) (by omega))
  · refine h_bipush C dX9_moves_9 (by decide) ?_
    refine h_ireturn C hr hlk dX9_moves_11 ?_
    exact ⟨⟨_, rfl, ⟨by decide, by decide⟩⟩, hI1, hF1⟩
abbrev rgX9_move : Room := { frames := 7, cells := 0, slots := 0, locals := 153 }
abbrev pgX9_move (z : Nat) (σ : hpMem) (a0 : Int) (a1 : Int) : Option Value → hpMem → Prop := fun r τ => (∃ x : Int, r = some (.int (hpI x)) ∧ (hpR x)) ∧ hpInv τ ∧ (∀ j i : Nat, (j < 195 ∨ j = 198 ∨ 213 ≤ j) → τ j i = σ j i)
set_option maxHeartbeats 4000000 in
set_option maxRecDepth 20000 in
theorem tgX9_move (l : Launch) (D : va_G) (cy : Nat → ClassId) (z : Nat) (σ : hpMem) (a0 : Int) (ha0 : hpR a0) (a1 : Int) (ha1 : hpR a1) (hI : hpInv σ) : hpM l D cy z yX9_move cX9_move 5 (some .int) rgX9_move [.ref (z + 195), .int (hpI a0), .int (hpI a1)] σ (pgX9_move z σ a0 a1) := by
  obtain ⟨ha01, ha02⟩ := ha0
  obtain ⟨ha11, ha12⟩ := ha1
  refine hp_met rfl (Nat.le_of_ble_eq_true rfl) (fun p e s m below meth c C Z hr hlk => ?_)
  have hF0 : ∀ j i : Nat, (j < 195 ∨ j = 198 ∨ 213 ≤ j) → σ j i = σ j i := fun j i _ => rfl
  refine h_aload_n C dX9_move_0 0 rfl rfl ?_
  refine h_iload_n C dX9_move_1 1 rfl rfl ?_
  refine h_iload_n C dX9_move_2 2 rfl rfl ?_
  refine h_callV (As := [.int (hpI a0), .int (hpI a1)]) (rest := []) C Z yyX9_asksTaking wd_1901 (tgX9_asksTaking l D cy z _ a0 ⟨by omega, by omega⟩ a1 ⟨by omega, by omega⟩ hI) kd_195 rfl rfl ⟨rfl, rfl, Nat.le_of_ble_eq_true rfl, Nat.le_of_ble_eq_true rfl⟩ ⟨Nat.le_of_ble_eq_true rfl, Nat.le_of_ble_eq_true rfl⟩ (Nat.le_of_ble_eq_true rfl) dX9_move_3 (fun r1 τ1 hp1 => ?_)
  obtain ⟨⟨x1, rfl, ⟨hx1a, hx1b⟩, hx1⟩, hI1, hG1⟩ := hp1
  have hF1 : ∀ j i : Nat, (j < 195 ∨ j = 198 ∨ 213 ≤ j) → τ1 j i = σ j i := fun j i h_0 => (hG1 j i (by omega)).trans (hF0 j i h_0)
  show hpV _ _ _ _ _ _ _ _ _ _ _ _ _ _ _ _ _ _ _ _ _ (_ :: _)
  refine h_if_ne (tgt := 12) C dX9_move_6 (by decide) ⟨by omega, by omega⟩ (fun h2 => ?_) (fun h2 => ?_)
  · refine h_iconst C dX9_move_12 ?_
    refine h_istore_n (lv' := [(3, .int (hpI 0)), (0, .ref (z + 195)), (1, .int (hpI a0)), (2, .int (hpI a1))]) C dX9_move_13 rfl (by decide) rfl ?_
    have L3 : ∀ (n3 : Nat) (w3_3 : Int), 0 ≤ w3_3 → w3_3 ≤ 2147483647 → (4294967296 - w3_3) < (n3 : Int) → hpF p l e rgX9_move s m [.ref (z + 195), .int (hpI a0), .int (hpI a1)] below meth c 5 D cy z (pgX9_move z σ a0 a1) τ1 14 [(0, .ref (z + 195)), (1, .int (hpI a0)), (2, .int (hpI a1)), (3, .int (hpI w3_3))] [] := by
      intro n3
      induction n3 with
      | zero => intro w3_3 hv3_0 hv3_1 hm3; exfalso; omega
      | succ n3 ih3 =>
        intro w3_3 hv3_0 hv3_1 hm3
        refine h_iload_n C dX9_move_14 3 rfl rfl ?_
        refine h_aload_n C dX9_move_15 0 rfl rfl ?_
        refine h_iload_n C dX9_move_16 1 rfl rfl ?_
        refine h_callV (As := [.int (hpI a0)]) (rest := [.int (hpI w3_3)]) C Z yyX9_manyOf wd_1536 (tgX9_manyOf l D cy z _ a0 ⟨by omega, by omega⟩ hI1 (by omega)) kd_195 rfl rfl ⟨rfl, rfl, Nat.le_of_ble_eq_true rfl, Nat.le_of_ble_eq_true rfl⟩ ⟨Nat.le_of_ble_eq_true rfl, Nat.le_of_ble_eq_true rfl⟩ (Nat.le_of_ble_eq_true rfl) dX9_move_17 (fun r4 τ4 hp4 => ?_)
        obtain ⟨⟨x4, rfl, ⟨hx4a, hx4b⟩, hx4⟩, rfl⟩ := hp4
        show hpV _ _ _ _ _ _ _ _ _ _ _ _ _ _ _ _ _ _ _ _ _ (_ :: _)
        refine h_icmp_ge (tgt := 91) C dX9_move_20 (by decide) ⟨by omega, by omega⟩ ⟨by omega, by omega⟩ (fun h5 => ?_) (fun h5 => ?_)
        · refine h_iconst C dX9_move_91 ?_
          refine h_ireturn C hr hlk dX9_move_92 ?_
          exact ⟨⟨_, rfl, ⟨by decide, by decide⟩⟩, hI1, hF1⟩
        · refine h_aload_n C dX9_move_23 0 rfl rfl ?_
          refine h_iload_n C dX9_move_24 1 rfl rfl ?_
          refine h_iload_n C dX9_move_25 3 rfl rfl ?_
          refine h_callV (As := [.int (hpI a0), .int (hpI w3_3)]) (rest := []) C Z yyX9_isFirstHigh wd_1913 (tgX9_isFirstHigh l D cy z _ a0 ⟨by omega, by omega⟩ w3_3 ⟨by omega, by omega⟩ hI1 (by omega) (by omega)) kd_195 rfl rfl ⟨rfl, rfl, Nat.le_of_ble_eq_true rfl, Nat.le_of_ble_eq_true rfl⟩ ⟨Nat.le_of_ble_eq_true rfl, Nat.le_of_ble_eq_true rfl⟩ (Nat.le_of_ble_eq_true rfl) dX9_move_26 (fun r6 τ6 hp6 => ?_)
          obtain ⟨⟨x6, rfl, ⟨hx6a, hx6b⟩⟩, rfl⟩ := hp6
          show hpV _ _ _ _ _ _ _ _ _ _ _ _ _ _ _ _ _ _ _ _ _ (_ :: _)
          refine h_if_ne (tgt := 35) C dX9_move_29 (by decide) ⟨by omega, by omega⟩ (fun h7 => ?_) (fun h7 => ?_)
          · refine h_iconst C dX9_move_35 ?_
            refine h_istore (lv' := [(4, .int (hpI 1)), (0, .ref (z + 195)), (1, .int (hpI a0)), (2, .int (hpI a1)), (3, .int (hpI w3_3))]) C dX9_move_36 (by decide) rfl ?_
            have L8 : ∀ (n8 : Nat) (w8_4 : Int), 1 ≤ w8_4 → w8_4 ≤ 2147483647 → (4294967296 - w8_4) < (n8 : Int) → hpF p l e rgX9_move s m [.ref (z + 195), .int (hpI a0), .int (hpI a1)] below meth c 5 D cy z (pgX9_move z σ a0 a1) τ1 38 [(0, .ref (z + 195)), (1, .int (hpI a0)), (2, .int (hpI a1)), (3, .int (hpI w3_3)), (4, .int (hpI w8_4))] [] := by
              intro n8
              induction n8 with
              | zero => intro w8_4 hv8_0 hv8_1 hm8; exfalso; omega
              | succ n8 ih8 =>
                intro w8_4 hv8_0 hv8_1 hm8
                refine h_iload C dX9_move_38 4 rfl ?_
                refine h_iload_n C dX9_move_40 2 rfl rfl ?_
                refine h_aload_n C dX9_move_41 0 rfl rfl ?_
                refine h_iload_n C dX9_move_42 1 rfl rfl ?_
                refine h_iload_n C dX9_move_43 3 rfl rfl ?_
                refine h_callV (As := [.int (hpI a0), .int (hpI w3_3)]) (rest := [.int (hpI a1), .int (hpI w8_4)]) C Z yyX9_heightOf wd_1540 (tgX9_heightOf l D cy z _ a0 ⟨by omega, by omega⟩ w3_3 ⟨by omega, by omega⟩ hI1 (by omega) (by omega)) kd_195 rfl rfl ⟨rfl, rfl, Nat.le_of_ble_eq_true rfl, Nat.le_of_ble_eq_true rfl⟩ ⟨Nat.le_of_ble_eq_true rfl, Nat.le_of_ble_eq_true rfl⟩ (Nat.le_of_ble_eq_true rfl) dX9_move_44 (fun r9 τ9 hp9 => ?_)
                obtain ⟨⟨x9, rfl, ⟨hx9a, hx9b⟩, hx9⟩, rfl⟩ := hp9
                show hpV _ _ _ _ _ _ _ _ _ _ _ _ _ _ _ _ _ _ _ _ _ (_ :: _)
                refine h_mmin C wd_1437 wd_514 wd_515 wd_15 dX9_move_47 ⟨by omega, by omega⟩ ⟨by omega, by omega⟩ (Nat.le_of_ble_eq_true rfl) (Nat.le_of_ble_eq_true rfl) ⟨Nat.le_of_ble_eq_true rfl, Nat.le_of_ble_eq_true rfl⟩ (fun r10 hr10a hr10b hr10c => ?_)
                refine h_icmp_gt (tgt := 85) C dX9_move_50 (by decide) ⟨by omega, by omega⟩ ⟨by omega, by omega⟩ (fun h11 => ?_) (fun h11 => ?_)
                · refine h_iinc (lv' := [(3, .int (hpI (w3_3 + 1))), (0, .ref (z + 195)), (1, .int (hpI a0)), (2, .int (hpI a1)), (4, .int (hpI w8_4))]) C dX9_move_85 3 rfl rfl (by decide) rfl ?_
                  refine h_goto (tgt := 14) C dX9_move_88 (by decide) ?_
                  exact hp_sub [1, 2, 3, 0] rfl (ih3 (w3_3 + 1) (by omega) (by omega) (by omega))
                · refine h_aload_n C dX9_move_53 0 rfl rfl ?_
                  refine h_iload_n C dX9_move_54 1 rfl rfl ?_
                  refine h_iload_n C dX9_move_55 2 rfl rfl ?_
                  refine h_iload_n C dX9_move_56 3 rfl rfl ?_
                  refine h_iload C dX9_move_57 4 rfl ?_
                  refine h_callV (As := [.int (hpI a0), .int (hpI a1), .int (hpI w3_3), .int (hpI w8_4)]) (rest := []) C Z yyX9_isMove wd_1917 (tgX9_isMove l D cy z _ a0 ⟨by omega, by omega⟩ a1 ⟨by omega, by omega⟩ w3_3 ⟨by omega, by omega⟩ w8_4 ⟨by omega, by omega⟩ hI1 (by omega) (by omega) (by omega)) kd_195 rfl rfl ⟨rfl, rfl, Nat.le_of_ble_eq_true rfl, Nat.le_of_ble_eq_true rfl⟩ ⟨Nat.le_of_ble_eq_true rfl, Nat.le_of_ble_eq_true rfl⟩ (Nat.le_of_ble_eq_true rfl) dX9_move_59 (fun r12 τ12 hp12 => ?_)
                  obtain ⟨⟨x12, rfl, ⟨hx12a, hx12b⟩⟩, rfl⟩ := hp12
                  show hpV _ _ _ _ _ _ _ _ _ _ _ _ _ _ _ _ _ _ _ _ _ (_ :: _)
                  refine h_if_eq (tgt := 79) C dX9_move_62 (by decide) ⟨by omega, by omega⟩ (fun h13 => ?_) (fun h13 => ?_)
                  · refine h_iinc (lv' := [(4, .int (hpI (w8_4 + 1))), (0, .ref (z + 195)), (1, .int (hpI a0)), (2, .int (hpI a1)), (3, .int (hpI w3_3))]) C dX9_move_79 4 rfl rfl (by decide) rfl ?_
                    refine h_goto (tgt := 38) C dX9_move_82 (by decide) ?_
                    exact hp_sub [1, 2, 3, 4, 0] rfl (ih8 (w8_4 + 1) (by omega) (by omega) (by omega))
                  · refine h_sipush C dX9_move_65 (by decide) ?_
                    refine h_aload_n C dX9_move_68 0 rfl rfl ?_
                    refine h_iload_n C dX9_move_69 1 rfl rfl ?_
                    refine h_iload_n C dX9_move_70 3 rfl rfl ?_
                    refine h_callV (As := [.int (hpI a0), .int (hpI w3_3)]) (rest := [.int (hpI 1000)]) C Z yyX9_heightOf wd_1540 (tgX9_heightOf l D cy z _ a0 ⟨by omega, by omega⟩ w3_3 ⟨by omega, by omega⟩ hI1 (by omega) (by omega)) kd_195 rfl rfl ⟨rfl, rfl, Nat.le_of_ble_eq_true rfl, Nat.le_of_ble_eq_true rfl⟩ ⟨Nat.le_of_ble_eq_true rfl, Nat.le_of_ble_eq_true rfl⟩ (Nat.le_of_ble_eq_true rfl) dX9_move_71 (fun r14 τ14 hp14 => ?_)
                    obtain ⟨⟨x14, rfl, ⟨hx14a, hx14b⟩, hx14⟩, rfl⟩ := hp14
                    show hpV _ _ _ _ _ _ _ _ _ _ _ _ _ _ _ _ _ _ _ _ _ (_ :: _)
                    refine h_imul C dX9_move_74 rfl ?_
                    refine hp_anyI (fun r15 hr15 => ?_)
                    obtain ⟨hr15a, hr15b⟩ := hr15
                    refine h_iload C dX9_move_75 4 rfl ?_
                    refine h_iadd C dX9_move_77 rfl ?_
                    refine hp_anyI (fun r16 hr16 => ?_)
                    obtain ⟨hr16a, hr16b⟩ := hr16
                    refine h_ireturn C hr hlk dX9_move_78 ?_
                    exact ⟨⟨_, rfl, ⟨by omega, by omega⟩⟩, hI1, hF1⟩
            exact hp_sub [1, 2, 3, 4, 0] rfl (L8 8589934592 1 (by omega) (by omega) (by omega))
          · refine h_goto (tgt := 85) C dX9_move_32 (by decide) ?_
            refine h_iinc (lv' := [(3, .int (hpI (w3_3 + 1))), (0, .ref (z + 195)), (1, .int (hpI a0)), (2, .int (hpI a1))]) C dX9_move_85 3 rfl rfl (by decide) rfl ?_
            refine h_goto (tgt := 14) C dX9_move_88 (by decide) ?_
            exact hp_sub [1, 2, 3, 0] rfl (ih3 (w3_3 + 1) (by omega) (by omega) (by omega))
    exact hp_sub [1, 2, 3, 0] rfl (L3 8589934592 0 (by omega) (by omega) (by omega))
  · refine h_bipush C dX9_move_9 (by decide) ?_
    refine h_ireturn C hr hlk dX9_move_11 ?_
    exact ⟨⟨_, rfl, ⟨by decide, by decide⟩⟩, hI1, hF1⟩
abbrev rgX9_getsBy : Room := { frames := 4, cells := 0, slots := 0, locals := 90 }
abbrev pgX9_getsBy (z : Nat) (σ : hpMem) (a0 : Int) (a1 : Int) (a2 : Int) (a3 : Int) (a4 : Int) : Option Value → hpMem → Prop := fun r τ => (∃ x : Int, r = some (.int (hpI x)) ∧ (hpR x)) ∧ hpInv τ ∧ (∀ j i : Nat, (j < 195 ∨ j = 198 ∨ 213 ≤ j) → τ j i = σ j i)
set_option maxHeartbeats 4000000 in
set_option maxRecDepth 20000 in
theorem tgX9_getsBy (l : Launch) (D : va_G) (cy : Nat → ClassId) (z : Nat) (σ : hpMem) (a0 : Int) (ha0 : hpR a0) (a1 : Int) (ha1 : hpR a1) (a2 : Int) (ha2 : hpR a2) (a3 : Int) (ha3 : hpR a3) (a4 : Int) (ha4 : hpR a4) (hI : hpInv σ) (ha_ : 0 ≤ a0 ∧ a0 ≤ 5) (hb_ : 0 ≤ a1 ∧ a1 ≤ 5) : hpM l D cy z yX9_getsBy cX9_getsBy 7 (some .int) rgX9_getsBy [.ref (z + 195), .int (hpI a0), .int (hpI a1), .int (hpI a2), .int (hpI a3), .int (hpI a4)] σ (pgX9_getsBy z σ a0 a1 a2 a3 a4) := by
  obtain ⟨ha01, ha02⟩ := ha0
  obtain ⟨ha11, ha12⟩ := ha1
  obtain ⟨ha21, ha22⟩ := ha2
  obtain ⟨ha31, ha32⟩ := ha3
  obtain ⟨ha41, ha42⟩ := ha4
  refine hp_met rfl (Nat.le_of_ble_eq_true rfl) (fun p e s m below meth c C Z hr hlk => ?_)
  have hF0 : ∀ j i : Nat, (j < 195 ∨ j = 198 ∨ 213 ≤ j) → σ j i = σ j i := fun j i _ => rfl
  refine h_aload_n C dX9_getsBy_0 0 rfl rfl ?_
  refine h_callV (As := []) (rest := []) C Z yyX9_asItIs wd_1520 (tgX9_asItIs l D cy z _ hI) kd_195 rfl rfl ⟨rfl, rfl, Nat.le_of_ble_eq_true rfl, Nat.le_of_ble_eq_true rfl⟩ ⟨Nat.le_of_ble_eq_true rfl, Nat.le_of_ble_eq_true rfl⟩ (Nat.le_of_ble_eq_true rfl) dX9_getsBy_1 (fun r1 τ1 hp1 => ?_)
  obtain ⟨rfl, hI1, hG1⟩ := hp1
  have hF1 : ∀ j i : Nat, (j < 195 ∨ j = 198 ∨ 213 ≤ j) → τ1 j i = σ j i := fun j i h_0 => (hG1 j i (by omega) (by omega) (by omega)).trans (hF0 j i h_0)
  show hpV _ _ _ _ _ _ _ _ _ _ _ _ _ _ _ _ _ _ _ _ _ []
  refine h_aload_n C dX9_getsBy_4 0 rfl rfl ?_
  refine h_get C O9 20 kd_195 (by decide) wd_1276 dX9_getsBy_5 fr_195_20 ?_
  refine h_iload_n C dX9_getsBy_8 1 rfl rfl ?_
  refine h_dup2 C rfl rfl dX9_getsBy_9 ?_
  refine h_iaload C dX9_getsBy_10 kd_204 (a0).toNat (Int.toNat_of_nonneg (by omega)) (by rw [ln_204]; omega) rfl ?_
  obtain ⟨hr2a, hr2b⟩ := hI1.b (bo_204 _)
  generalize hg2 : τ1 204 ((a0).toNat) = r2 at hr2a hr2b ⊢
  refine h_iload_n C dX9_getsBy_11 3 rfl rfl ?_
  refine h_iadd C dX9_getsBy_12 rfl ?_
  refine hp_anyI (fun r3 hr3 => ?_)
  obtain ⟨hr3a, hr3b⟩ := hr3
  refine h_iastore C dX9_getsBy_13 kd_204 (a0).toNat (Int.toNat_of_nonneg (by omega)) (by rw [ln_204]; omega) ?_
  obtain ⟨τ4, e4⟩ : ∃ μ : hpMem, μ = hpw τ1 204 ((a0).toNat) r3 := ⟨_, rfl⟩
  rw [← e4]
  have hI4 : hpInv τ4 := by rw [e4]; exact hI1.w (bo_204 _) (by omega) (by omega)
  have hF4 : ∀ j i : Nat, (j < 195 ∨ j = 198 ∨ 213 ≤ j) → τ4 j i = σ j i := fun j i h_0 => by rw [e4]; exact (hpw_fr (by omega)).trans (hF1 j i h_0)
  refine h_aload_n C dX9_getsBy_14 0 rfl rfl ?_
  refine h_get C O9 20 kd_195 (by decide) wd_1276 dX9_getsBy_15 fr_195_20 ?_
  refine h_iload_n C dX9_getsBy_18 2 rfl rfl ?_
  refine h_dup2 C rfl rfl dX9_getsBy_19 ?_
  refine h_iaload C dX9_getsBy_20 kd_204 (a1).toNat (Int.toNat_of_nonneg (by omega)) (by rw [ln_204]; omega) rfl ?_
  obtain ⟨hr5a, hr5b⟩ := hI4.b (bo_204 _)
  generalize hg5 : τ4 204 ((a1).toNat) = r5 at hr5a hr5b ⊢
  refine h_iload C dX9_getsBy_21 4 rfl ?_
  refine h_iadd C dX9_getsBy_23 rfl ?_
  refine hp_anyI (fun r6 hr6 => ?_)
  obtain ⟨hr6a, hr6b⟩ := hr6
  refine h_iastore C dX9_getsBy_24 kd_204 (a1).toNat (Int.toNat_of_nonneg (by omega)) (by rw [ln_204]; omega) ?_
  obtain ⟨τ7, e7⟩ : ∃ μ : hpMem, μ = hpw τ4 204 ((a1).toNat) r6 := ⟨_, rfl⟩
  rw [← e7]
  have hI7 : hpInv τ7 := by rw [e7]; exact hI4.w (bo_204 _) (by omega) (by omega)
  have hF7 : ∀ j i : Nat, (j < 195 ∨ j = 198 ∨ 213 ≤ j) → τ7 j i = σ j i := fun j i h_0 => by rw [e7]; exact (hpw_fr (by omega)).trans (hF4 j i h_0)
  refine h_aload_n C dX9_getsBy_25 0 rfl rfl ?_
  refine h_callV (As := []) (rest := []) C Z yyX9_goAll wd_1524 (tgX9_goAll l D cy z _ hI7) kd_195 rfl rfl ⟨rfl, rfl, Nat.le_of_ble_eq_true rfl, Nat.le_of_ble_eq_true rfl⟩ ⟨Nat.le_of_ble_eq_true rfl, Nat.le_of_ble_eq_true rfl⟩ (Nat.le_of_ble_eq_true rfl) dX9_getsBy_26 (fun r8 τ8 hp8 => ?_)
  obtain ⟨rfl, hI8, hG8, hq8_0⟩ := hp8
  have hF8 : ∀ j i : Nat, (j < 195 ∨ j = 198 ∨ 213 ≤ j) → τ8 j i = σ j i := fun j i h_0 => (hG8 j i (by omega) (by omega) (by omega) (by omega)).trans (hF7 j i h_0)
  show hpV _ _ _ _ _ _ _ _ _ _ _ _ _ _ _ _ _ _ _ _ _ []
  refine h_aload_n C dX9_getsBy_29 0 rfl rfl ?_
  refine h_aload_n C dX9_getsBy_30 0 rfl rfl ?_
  refine h_callV (As := []) (rest := [.ref (z + 195)]) C Z yyX9_days wd_1544 (tgX9_days l D cy z _ hI8) kd_195 rfl rfl ⟨rfl, rfl, Nat.le_of_ble_eq_true rfl, Nat.le_of_ble_eq_true rfl⟩ ⟨Nat.le_of_ble_eq_true rfl, Nat.le_of_ble_eq_true rfl⟩ (Nat.le_of_ble_eq_true rfl) dX9_getsBy_31 (fun r9 τ9 hp9 => ?_)
  obtain ⟨⟨x9, rfl, ⟨hx9a, hx9b⟩, hx9⟩, rfl⟩ := hp9
  show hpV _ _ _ _ _ _ _ _ _ _ _ _ _ _ _ _ _ _ _ _ _ (_ :: _)
  refine h_callV (As := [.int (hpI x9)]) (rest := []) C Z yyX9_highestOf wd_1629 (tgX9_highestOf l D cy z _ x9 ⟨by omega, by omega⟩ hI8 (by omega)) kd_195 rfl rfl ⟨rfl, rfl, Nat.le_of_ble_eq_true rfl, Nat.le_of_ble_eq_true rfl⟩ ⟨Nat.le_of_ble_eq_true rfl, Nat.le_of_ble_eq_true rfl⟩ (Nat.le_of_ble_eq_true rfl) dX9_getsBy_34 (fun r10 τ10 hp10 => ?_)
  obtain ⟨⟨x10, rfl, ⟨hx10a, hx10b⟩⟩, rfl⟩ := hp10
  show hpV _ _ _ _ _ _ _ _ _ _ _ _ _ _ _ _ _ _ _ _ _ (_ :: _)
  refine h_istore (lv' := [(6, .int (hpI x10)), (0, .ref (z + 195)), (1, .int (hpI a0)), (2, .int (hpI a1)), (3, .int (hpI a2)), (4, .int (hpI a3)), (5, .int (hpI a4))]) C dX9_getsBy_37 (by decide) rfl ?_
  refine h_iload C dX9_getsBy_39 6 rfl ?_
  refine h_if_ne (tgt := 58) C dX9_getsBy_41 (by decide) ⟨by omega, by omega⟩ (fun h11 => ?_) (fun h11 => ?_)
  · refine h_aload_n C dX9_getsBy_58 1 rfl rfl ?_
    refine h_callV (As := []) (rest := []) C Z yyX9_lastMany wd_1804 (tgX9_lastMany l D cy z _ hI8) kd_195 rfl rfl ⟨rfl, rfl, Nat.le_of_ble_eq_true rfl, Nat.le_of_ble_eq_true rfl⟩ ⟨Nat.le_of_ble_eq_true rfl, Nat.le_of_ble_eq_true rfl⟩ (Nat.le_of_ble_eq_true rfl) dX9_getsBy_59 (fun r12 τ12 hp12 => ?_)
    obtain ⟨⟨x12, rfl, ⟨hx12a, hx12b⟩, hx12⟩, rfl⟩ := hp12
    show hpV _ _ _ _ _ _ _ _ _ _ _ _ _ _ _ _ _ _ _ _ _ (_ :: _)
    refine h_iconst C dX9_getsBy_62 ?_
    refine h_iload C dX9_getsBy_63 0 rfl ?_
    refine h_imul C dX9_getsBy_65 rfl ?_
    refine hp_anyI (fun r13 hr13 => ?_)
    obtain ⟨hr13a, hr13b⟩ := hr13
    refine h_iadd C dX9_getsBy_66 rfl ?_
    refine hp_anyI (fun r14 hr14 => ?_)
    obtain ⟨hr14a, hr14b⟩ := hr14
    refine h_iload C dX9_getsBy_67 5 rfl ?_
    refine h_isub C dX9_getsBy_69 rfl ?_
    refine hp_anyI (fun r15 hr15 => ?_)
    obtain ⟨hr15a, hr15b⟩ := hr15
    refine h_ireturn C hr hlk dX9_getsBy_70 ?_
    exact ⟨⟨_, rfl, ⟨by omega, by omega⟩⟩, hI8, hF8⟩
  · refine h_iconst C dX9_getsBy_44 ?_
    refine h_aload_n C dX9_getsBy_45 1 rfl rfl ?_
    refine h_callV (As := []) (rest := [.int (hpI 2)]) C Z yyX9_lastMany wd_1804 (tgX9_lastMany l D cy z _ hI8) kd_195 rfl rfl ⟨rfl, rfl, Nat.le_of_ble_eq_true rfl, Nat.le_of_ble_eq_true rfl⟩ ⟨Nat.le_of_ble_eq_true rfl, Nat.le_of_ble_eq_true rfl⟩ (Nat.le_of_ble_eq_true rfl) dX9_getsBy_46 (fun r16 τ16 hp16 => ?_)
    obtain ⟨⟨x16, rfl, ⟨hx16a, hx16b⟩, hx16⟩, rfl⟩ := hp16
    show hpV _ _ _ _ _ _ _ _ _ _ _ _ _ _ _ _ _ _ _ _ _ (_ :: _)
    refine h_imul C dX9_getsBy_49 rfl ?_
    refine h_iload C dX9_getsBy_50 0 rfl ?_
    refine h_iadd C dX9_getsBy_52 rfl ?_
    refine hp_anyI (fun r17 hr17 => ?_)
    obtain ⟨hr17a, hr17b⟩ := hr17
    refine h_iload_n C dX9_getsBy_53 4 rfl rfl ?_
    refine h_isub C dX9_getsBy_54 rfl ?_
    refine hp_anyI (fun r18 hr18 => ?_)
    obtain ⟨hr18a, hr18b⟩ := hr18
    refine h_goto (tgt := 70) C dX9_getsBy_55 (by decide) ?_
    refine h_ireturn C hr hlk dX9_getsBy_70 ?_
    exact ⟨⟨_, rfl, ⟨by omega, by omega⟩⟩, hI8, hF8⟩
abbrev rgX9_areTwo : Room := { frames := 2, cells := 0, slots := 0, locals := 46 }
abbrev pgX9_areTwo (z : Nat) (σ : hpMem) (a0 : Int) (a1 : Int) : Option Value → hpMem → Prop := fun r τ => (∃ x : Int, r = some (.int (hpI x)) ∧ (0 ≤ x ∧ x ≤ 1) ∧ (x = 1 → (0 ≤ a0 ∧ a0 ≤ 5 ∧ 0 ≤ a1 ∧ a1 ≤ 5))) ∧ σ = τ
set_option maxHeartbeats 4000000 in
set_option maxRecDepth 20000 in
theorem tgX9_areTwo (l : Launch) (D : va_G) (cy : Nat → ClassId) (z : Nat) (σ : hpMem) (a0 : Int) (ha0 : hpR a0) (a1 : Int) (ha1 : hpR a1) (hI : hpInv σ) : hpM l D cy z yX9_areTwo cX9_areTwo 3 (some .boolean) rgX9_areTwo [.ref (z + 195), .int (hpI a0), .int (hpI a1)] σ (pgX9_areTwo z σ a0 a1) := by
  obtain ⟨ha01, ha02⟩ := ha0
  obtain ⟨ha11, ha12⟩ := ha1
  refine hp_met rfl (Nat.le_of_ble_eq_true rfl) (fun p e s m below meth c C Z hr hlk => ?_)
  refine h_aload_n C dX9_areTwo_0 0 rfl rfl ?_
  refine h_iload_n C dX9_areTwo_1 1 rfl rfl ?_
  refine h_callV (As := [.int (hpI a0)]) (rest := []) C Z yyX9_isCart wd_1500 (tgX9_isCart l D cy z _ a0 ⟨by omega, by omega⟩ hI) kd_195 rfl rfl ⟨rfl, rfl, Nat.le_of_ble_eq_true rfl, Nat.le_of_ble_eq_true rfl⟩ ⟨Nat.le_of_ble_eq_true rfl, Nat.le_of_ble_eq_true rfl⟩ (Nat.le_of_ble_eq_true rfl) dX9_areTwo_2 (fun r1 τ1 hp1 => ?_)
  obtain ⟨⟨x1, rfl, ⟨hx1a, hx1b⟩, hx1⟩, rfl⟩ := hp1
  show hpV _ _ _ _ _ _ _ _ _ _ _ _ _ _ _ _ _ _ _ _ _ (_ :: _)
  refine h_if_eq (tgt := 25) C dX9_areTwo_5 (by decide) ⟨by omega, by omega⟩ (fun h2 => ?_) (fun h2 => ?_)
  · refine h_iconst C dX9_areTwo_25 ?_
    refine h_zreturn C (by omega) hr hlk dX9_areTwo_26 ?_
    exact ⟨⟨_, rfl, ⟨by decide, by decide⟩, by omega⟩, rfl⟩
  · refine h_aload_n C dX9_areTwo_8 0 rfl rfl ?_
    refine h_iload_n C dX9_areTwo_9 2 rfl rfl ?_
    refine h_callV (As := [.int (hpI a1)]) (rest := []) C Z yyX9_isCart wd_1500 (tgX9_isCart l D cy z _ a1 ⟨by omega, by omega⟩ hI) kd_195 rfl rfl ⟨rfl, rfl, Nat.le_of_ble_eq_true rfl, Nat.le_of_ble_eq_true rfl⟩ ⟨Nat.le_of_ble_eq_true rfl, Nat.le_of_ble_eq_true rfl⟩ (Nat.le_of_ble_eq_true rfl) dX9_areTwo_10 (fun r3 τ3 hp3 => ?_)
    obtain ⟨⟨x3, rfl, ⟨hx3a, hx3b⟩, hx3⟩, rfl⟩ := hp3
    show hpV _ _ _ _ _ _ _ _ _ _ _ _ _ _ _ _ _ _ _ _ _ (_ :: _)
    refine h_if_eq (tgt := 25) C dX9_areTwo_13 (by decide) ⟨by omega, by omega⟩ (fun h4 => ?_) (fun h4 => ?_)
    · refine h_iconst C dX9_areTwo_25 ?_
      refine h_zreturn C (by omega) hr hlk dX9_areTwo_26 ?_
      exact ⟨⟨_, rfl, ⟨by decide, by decide⟩, by omega⟩, rfl⟩
    · refine h_iload_n C dX9_areTwo_16 1 rfl rfl ?_
      refine h_iload_n C dX9_areTwo_17 2 rfl rfl ?_
      refine h_icmp_eq (tgt := 25) C dX9_areTwo_18 (by decide) ⟨by omega, by omega⟩ ⟨by omega, by omega⟩ (fun h5 => ?_) (fun h5 => ?_)
      · refine h_iconst C dX9_areTwo_25 ?_
        refine h_zreturn C (by omega) hr hlk dX9_areTwo_26 ?_
        exact ⟨⟨_, rfl, ⟨by decide, by decide⟩, by omega⟩, rfl⟩
      · refine h_iconst C dX9_areTwo_21 ?_
        refine h_goto (tgt := 26) C dX9_areTwo_22 (by decide) ?_
        refine h_zreturn C (by omega) hr hlk dX9_areTwo_26 ?_
        exact ⟨⟨_, rfl, ⟨by decide, by decide⟩, by omega⟩, rfl⟩
abbrev rgX9_rests : Room := { frames := 5, cells := 0, slots := 0, locals := 116 }
abbrev pgX9_rests (z : Nat) (σ : hpMem) (a0 : Int) (a1 : Int) : Option Value → hpMem → Prop := fun r τ => (∃ x : Int, r = some (.int (hpI x)) ∧ (hpR x)) ∧ hpInv τ ∧ (∀ j i : Nat, (j < 195 ∨ j = 198 ∨ 213 ≤ j) → τ j i = σ j i)
set_option maxHeartbeats 4000000 in
set_option maxRecDepth 20000 in
theorem tgX9_rests (l : Launch) (D : va_G) (cy : Nat → ClassId) (z : Nat) (σ : hpMem) (a0 : Int) (ha0 : hpR a0) (a1 : Int) (ha1 : hpR a1) (hI : hpInv σ) : hpM l D cy z yX9_rests cX9_rests 8 (some .int) rgX9_rests [.ref (z + 195), .int (hpI a0), .int (hpI a1)] σ (pgX9_rests z σ a0 a1) := by
  obtain ⟨ha01, ha02⟩ := ha0
  obtain ⟨ha11, ha12⟩ := ha1
  refine hp_met rfl (Nat.le_of_ble_eq_true rfl) (fun p e s m below meth c C Z hr hlk => ?_)
  have hF0 : ∀ j i : Nat, (j < 195 ∨ j = 198 ∨ 213 ≤ j) → σ j i = σ j i := fun j i _ => rfl
  refine h_aload_n C dX9_rests_0 0 rfl rfl ?_
  refine h_iload_n C dX9_rests_1 1 rfl rfl ?_
  refine h_iload_n C dX9_rests_2 2 rfl rfl ?_
  refine h_callV (As := [.int (hpI a0), .int (hpI a1)]) (rest := []) C Z yyX9_areTwo wd_1929 (tgX9_areTwo l D cy z _ a0 ⟨by omega, by omega⟩ a1 ⟨by omega, by omega⟩ hI) kd_195 rfl rfl ⟨rfl, rfl, Nat.le_of_ble_eq_true rfl, Nat.le_of_ble_eq_true rfl⟩ ⟨Nat.le_of_ble_eq_true rfl, Nat.le_of_ble_eq_true rfl⟩ (Nat.le_of_ble_eq_true rfl) dX9_rests_3 (fun r1 τ1 hp1 => ?_)
  obtain ⟨⟨x1, rfl, ⟨hx1a, hx1b⟩, hx1⟩, rfl⟩ := hp1
  show hpV _ _ _ _ _ _ _ _ _ _ _ _ _ _ _ _ _ _ _ _ _ (_ :: _)
  refine h_if_ne (tgt := 12) C dX9_rests_6 (by decide) ⟨by omega, by omega⟩ (fun h2 => ?_) (fun h2 => ?_)
  · refine h_iconst C dX9_rests_12 ?_
    refine h_istore_n (lv' := [(3, .int (hpI 0)), (0, .ref (z + 195)), (1, .int (hpI a0)), (2, .int (hpI a1))]) C dX9_rests_13 rfl (by decide) rfl ?_
    refine h_iconst C dX9_rests_14 ?_
    refine h_istore (lv' := [(4, .int (hpI 0)), (3, .int (hpI 0)), (0, .ref (z + 195)), (1, .int (hpI a0)), (2, .int (hpI a1))]) C dX9_rests_15 (by decide) rfl ?_
    have L3 : ∀ (n3 : Nat) (τ3 : hpMem) (w3_3 : Int) (w3_4 : Int), -2147483648 ≤ w3_3 → w3_3 ≤ 2147483647 → 0 ≤ w3_4 → w3_4 ≤ 2147483647 → hpInv τ3 → (∀ j i : Nat, (j < 195 ∨ j = 198 ∨ 213 ≤ j) → τ3 j i = σ j i) → (4294967296 - w3_4) < (n3 : Int) → hpF p l e rgX9_rests s m [.ref (z + 195), .int (hpI a0), .int (hpI a1)] below meth c 8 D cy z (pgX9_rests z σ a0 a1) τ3 17 [(0, .ref (z + 195)), (1, .int (hpI a0)), (2, .int (hpI a1)), (3, .int (hpI w3_3)), (4, .int (hpI w3_4))] [] := by
      intro n3
      induction n3 with
      | zero => intro τ3 w3_3 w3_4 hv3_0 hv3_1 hv3_2 hv3_3 hI3 hF3 hm3; exfalso; omega
      | succ n3 ih3 =>
        intro τ3 w3_3 w3_4 hv3_0 hv3_1 hv3_2 hv3_3 hI3 hF3 hm3
        refine h_iload C dX9_rests_17 4 rfl ?_
        refine h_iconst C dX9_rests_19 ?_
        refine h_icmp_ge (tgt := 118) C dX9_rests_20 (by decide) ⟨by omega, by omega⟩ ⟨by decide, by decide⟩ (fun h4 => ?_) (fun h4 => ?_)
        · refine h_iload_n C dX9_rests_118 3 rfl rfl ?_
          refine h_ireturn C hr hlk dX9_rests_119 ?_
          exact ⟨⟨_, rfl, ⟨by omega, by omega⟩⟩, hI3, hF3⟩
        · refine h_iload C dX9_rests_23 4 rfl ?_
          refine h_iconst C dX9_rests_25 ?_
          refine h_iand_r C dX9_rests_26 ⟨by decide, by decide⟩ (by omega) (fun r5 hr5a hr5b => ?_)
          refine h_istore (lv' := [(5, .int (hpI r5)), (0, .ref (z + 195)), (1, .int (hpI a0)), (2, .int (hpI a1)), (3, .int (hpI w3_3)), (4, .int (hpI w3_4))]) C dX9_rests_27 (by decide) rfl ?_
          refine h_iload C dX9_rests_29 5 rfl ?_
          refine h_iconst C dX9_rests_31 ?_
          refine h_ishr_any C dX9_rests_32 (fun r6 hr6 => ?_)
          obtain ⟨hr6a, hr6b⟩ := hr6
          refine h_istore (lv' := [(6, .int (hpI r6)), (5, .int (hpI r5)), (0, .ref (z + 195)), (1, .int (hpI a0)), (2, .int (hpI a1)), (3, .int (hpI w3_3)), (4, .int (hpI w3_4))]) C dX9_rests_33 (by decide) rfl ?_
          refine h_aload_n C dX9_rests_35 2 rfl rfl ?_
          refine h_iload_n C dX9_rests_36 3 rfl rfl ?_
          refine h_iload_n C dX9_rests_37 4 rfl rfl ?_
          refine h_iload C dX9_rests_38 1 rfl ?_
          refine h_iload C dX9_rests_40 0 rfl ?_
          refine h_iconst C dX9_rests_42 ?_
          refine h_callV (As := [.int (hpI a0), .int (hpI a1), .int (hpI r5), .int (hpI r6), .int (hpI 0)]) (rest := []) C Z yyX9_getsBy wd_1933 (tgX9_getsBy l D cy z _ a0 ⟨by omega, by omega⟩ a1 ⟨by omega, by omega⟩ r5 ⟨by omega, by omega⟩ r6 ⟨by omega, by omega⟩ 0 ⟨by decide, by decide⟩ hI3 (by omega) (by omega)) kd_195 rfl rfl ⟨rfl, rfl, Nat.le_of_ble_eq_true rfl, Nat.le_of_ble_eq_true rfl⟩ ⟨Nat.le_of_ble_eq_true rfl, Nat.le_of_ble_eq_true rfl⟩ (Nat.le_of_ble_eq_true rfl) dX9_rests_43 (fun r7 τ7 hp7 => ?_)
          obtain ⟨⟨x7, rfl, ⟨hx7a, hx7b⟩⟩, hI7, hG7⟩ := hp7
          have hF7 : ∀ j i : Nat, (j < 195 ∨ j = 198 ∨ 213 ≤ j) → τ7 j i = σ j i := fun j i h_0 => (hG7 j i (by omega)).trans (hF3 j i h_0)
          show hpV _ _ _ _ _ _ _ _ _ _ _ _ _ _ _ _ _ _ _ _ _ (_ :: _)
          refine h_aload_n C dX9_rests_46 2 rfl rfl ?_
          refine h_iload_n C dX9_rests_47 3 rfl rfl ?_
          refine h_iload_n C dX9_rests_48 4 rfl rfl ?_
          refine h_iconst C dX9_rests_49 ?_
          refine h_iload C dX9_rests_50 1 rfl ?_
          refine h_isub C dX9_rests_52 rfl ?_
          refine h_iload C dX9_rests_53 0 rfl ?_
          refine h_iconst C dX9_rests_55 ?_
          refine h_callV (As := [.int (hpI a0), .int (hpI a1), .int (hpI (1 - r5)), .int (hpI r6), .int (hpI 0)]) (rest := [.int (hpI x7)]) C Z yyX9_getsBy wd_1933 (tgX9_getsBy l D cy z _ a0 ⟨by omega, by omega⟩ a1 ⟨by omega, by omega⟩ (1 - r5) ⟨by omega, by omega⟩ r6 ⟨by omega, by omega⟩ 0 ⟨by decide, by decide⟩ hI7 (by omega) (by omega)) kd_195 rfl rfl ⟨rfl, rfl, Nat.le_of_ble_eq_true rfl, Nat.le_of_ble_eq_true rfl⟩ ⟨Nat.le_of_ble_eq_true rfl, Nat.le_of_ble_eq_true rfl⟩ (Nat.le_of_ble_eq_true rfl) dX9_rests_56 (fun r8 τ8 hp8 => ?_)
          obtain ⟨⟨x8, rfl, ⟨hx8a, hx8b⟩⟩, hI8, hG8⟩ := hp8
          have hF8 : ∀ j i : Nat, (j < 195 ∨ j = 198 ∨ 213 ≤ j) → τ8 j i = σ j i := fun j i h_0 => (hG8 j i (by omega)).trans (hF7 j i h_0)
          show hpV _ _ _ _ _ _ _ _ _ _ _ _ _ _ _ _ _ _ _ _ _ (_ :: _)
          refine h_icmp_lt (tgt := 93) C dX9_rests_59 (by decide) ⟨by omega, by omega⟩ ⟨by omega, by omega⟩ (fun h9 => ?_) (fun h9 => ?_)
          · refine h_iconst C dX9_rests_93 ?_
            refine h_istore (lv' := [(7, .int (hpI 0)), (6, .int (hpI r6)), (5, .int (hpI r5)), (0, .ref (z + 195)), (1, .int (hpI a0)), (2, .int (hpI a1)), (3, .int (hpI w3_3)), (4, .int (hpI w3_4))]) C dX9_rests_94 (by decide) rfl ?_
            refine h_iload_n C dX9_rests_96 6 rfl rfl ?_
            refine h_iload C dX9_rests_97 0 rfl ?_
            refine h_if_eq (tgt := 109) C dX9_rests_99 (by decide) ⟨by decide, by decide⟩ (fun h10 => ?_) (fun h10 => ?_)
            · refine h_iconst C dX9_rests_109 ?_
              refine h_ior_any C dX9_rests_110 (fun r11 hr11 => ?_)
              obtain ⟨hr11a, hr11b⟩ := hr11
              refine h_istore_n (lv' := [(3, .int (hpI r11)), (7, .int (hpI 0)), (6, .int (hpI r6)), (5, .int (hpI r5)), (0, .ref (z + 195)), (1, .int (hpI a0)), (2, .int (hpI a1)), (4, .int (hpI w3_4))]) C dX9_rests_111 rfl (by decide) rfl ?_
              refine h_iinc (lv' := [(4, .int (hpI (w3_4 + 1))), (3, .int (hpI r11)), (7, .int (hpI 0)), (6, .int (hpI r6)), (5, .int (hpI r5)), (0, .ref (z + 195)), (1, .int (hpI a0)), (2, .int (hpI a1))]) C dX9_rests_112 7 rfl rfl (by decide) rfl ?_
              refine h_goto (tgt := 17) C dX9_rests_115 (by decide) ?_
              exact hp_sub [5, 6, 7, 1, 0] rfl (ih3 _ r11 (w3_4 + 1) (by omega) (by omega) (by omega) (by omega) hI8 hF8 (by omega))
            · exfalso; omega
          · refine h_aload_n C dX9_rests_62 2 rfl rfl ?_
            refine h_iload_n C dX9_rests_63 3 rfl rfl ?_
            refine h_iload_n C dX9_rests_64 4 rfl rfl ?_
            refine h_iload C dX9_rests_65 1 rfl ?_
            refine h_iload C dX9_rests_67 0 rfl ?_
            refine h_iconst C dX9_rests_69 ?_
            refine h_callV (As := [.int (hpI a0), .int (hpI a1), .int (hpI r5), .int (hpI r6), .int (hpI 1)]) (rest := []) C Z yyX9_getsBy wd_1933 (tgX9_getsBy l D cy z _ a0 ⟨by omega, by omega⟩ a1 ⟨by omega, by omega⟩ r5 ⟨by omega, by omega⟩ r6 ⟨by omega, by omega⟩ 1 ⟨by decide, by decide⟩ hI8 (by omega) (by omega)) kd_195 rfl rfl ⟨rfl, rfl, Nat.le_of_ble_eq_true rfl, Nat.le_of_ble_eq_true rfl⟩ ⟨Nat.le_of_ble_eq_true rfl, Nat.le_of_ble_eq_true rfl⟩ (Nat.le_of_ble_eq_true rfl) dX9_rests_70 (fun r12 τ12 hp12 => ?_)
            obtain ⟨⟨x12, rfl, ⟨hx12a, hx12b⟩⟩, hI12, hG12⟩ := hp12
            have hF12 : ∀ j i : Nat, (j < 195 ∨ j = 198 ∨ 213 ≤ j) → τ12 j i = σ j i := fun j i h_0 => (hG12 j i (by omega)).trans (hF8 j i h_0)
            show hpV _ _ _ _ _ _ _ _ _ _ _ _ _ _ _ _ _ _ _ _ _ (_ :: _)
            refine h_aload_n C dX9_rests_73 2 rfl rfl ?_
            refine h_iload_n C dX9_rests_74 3 rfl rfl ?_
            refine h_iload_n C dX9_rests_75 4 rfl rfl ?_
            refine h_iload C dX9_rests_76 1 rfl ?_
            refine h_iconst C dX9_rests_78 ?_
            refine h_iload C dX9_rests_79 0 rfl ?_
            refine h_isub C dX9_rests_81 rfl ?_
            refine hp_anyI (fun r13 hr13 => ?_)
            obtain ⟨hr13a, hr13b⟩ := hr13
            refine h_iconst C dX9_rests_82 ?_
            refine h_callV (As := [.int (hpI a0), .int (hpI a1), .int (hpI r5), .int (hpI r13), .int (hpI 1)]) (rest := [.int (hpI x12)]) C Z yyX9_getsBy wd_1933 (tgX9_getsBy l D cy z _ a0 ⟨by omega, by omega⟩ a1 ⟨by omega, by omega⟩ r5 ⟨by omega, by omega⟩ r13 ⟨by omega, by omega⟩ 1 ⟨by decide, by decide⟩ hI12 (by omega) (by omega)) kd_195 rfl rfl ⟨rfl, rfl, Nat.le_of_ble_eq_true rfl, Nat.le_of_ble_eq_true rfl⟩ ⟨Nat.le_of_ble_eq_true rfl, Nat.le_of_ble_eq_true rfl⟩ (Nat.le_of_ble_eq_true rfl) dX9_rests_83 (fun r14 τ14 hp14 => ?_)
            obtain ⟨⟨x14, rfl, ⟨hx14a, hx14b⟩⟩, hI14, hG14⟩ := hp14
            have hF14 : ∀ j i : Nat, (j < 195 ∨ j = 198 ∨ 213 ≤ j) → τ14 j i = σ j i := fun j i h_0 => (hG14 j i (by omega)).trans (hF12 j i h_0)
            show hpV _ _ _ _ _ _ _ _ _ _ _ _ _ _ _ _ _ _ _ _ _ (_ :: _)
            refine h_icmp_lt (tgt := 93) C dX9_rests_86 (by decide) ⟨by omega, by omega⟩ ⟨by omega, by omega⟩ (fun h15 => ?_) (fun h15 => ?_)
            · refine h_iconst C dX9_rests_93 ?_
              refine h_istore (lv' := [(7, .int (hpI 0)), (6, .int (hpI r6)), (5, .int (hpI r5)), (0, .ref (z + 195)), (1, .int (hpI a0)), (2, .int (hpI a1)), (3, .int (hpI w3_3)), (4, .int (hpI w3_4))]) C dX9_rests_94 (by decide) rfl ?_
              refine h_iload_n C dX9_rests_96 6 rfl rfl ?_
              refine h_iload C dX9_rests_97 0 rfl ?_
              refine h_if_eq (tgt := 109) C dX9_rests_99 (by decide) ⟨by decide, by decide⟩ (fun h16 => ?_) (fun h16 => ?_)
              · refine h_iconst C dX9_rests_109 ?_
                refine h_ior_any C dX9_rests_110 (fun r17 hr17 => ?_)
                obtain ⟨hr17a, hr17b⟩ := hr17
                refine h_istore_n (lv' := [(3, .int (hpI r17)), (7, .int (hpI 0)), (6, .int (hpI r6)), (5, .int (hpI r5)), (0, .ref (z + 195)), (1, .int (hpI a0)), (2, .int (hpI a1)), (4, .int (hpI w3_4))]) C dX9_rests_111 rfl (by decide) rfl ?_
                refine h_iinc (lv' := [(4, .int (hpI (w3_4 + 1))), (3, .int (hpI r17)), (7, .int (hpI 0)), (6, .int (hpI r6)), (5, .int (hpI r5)), (0, .ref (z + 195)), (1, .int (hpI a0)), (2, .int (hpI a1))]) C dX9_rests_112 7 rfl rfl (by decide) rfl ?_
                refine h_goto (tgt := 17) C dX9_rests_115 (by decide) ?_
                exact hp_sub [5, 6, 7, 1, 0] rfl (ih3 _ r17 (w3_4 + 1) (by omega) (by omega) (by omega) (by omega) hI14 hF14 (by omega))
              · exfalso; omega
            · refine h_iconst C dX9_rests_89 ?_
              refine h_goto (tgt := 94) C dX9_rests_90 (by decide) ?_
              refine h_istore (lv' := [(7, .int (hpI 1)), (6, .int (hpI r6)), (5, .int (hpI r5)), (0, .ref (z + 195)), (1, .int (hpI a0)), (2, .int (hpI a1)), (3, .int (hpI w3_3)), (4, .int (hpI w3_4))]) C dX9_rests_94 (by decide) rfl ?_
              refine h_iload_n C dX9_rests_96 6 rfl rfl ?_
              refine h_iload C dX9_rests_97 0 rfl ?_
              refine h_if_eq (tgt := 109) C dX9_rests_99 (by decide) ⟨by decide, by decide⟩ (fun h18 => ?_) (fun h18 => ?_)
              · exfalso; omega
              · refine h_iconst C dX9_rests_102 ?_
                refine h_iload C dX9_rests_103 7 rfl ?_
                refine h_ishl_b (mm := 3) (M := 8) C dX9_rests_105 (by omega) (by omega) (by decide +kernel) (fun r19 hr19a hr19b => ?_)
                refine h_goto (tgt := 110) C dX9_rests_106 (by decide) ?_
                refine h_ior_any C dX9_rests_110 (fun r20 hr20 => ?_)
                obtain ⟨hr20a, hr20b⟩ := hr20
                refine h_istore_n (lv' := [(3, .int (hpI r20)), (7, .int (hpI 1)), (6, .int (hpI r6)), (5, .int (hpI r5)), (0, .ref (z + 195)), (1, .int (hpI a0)), (2, .int (hpI a1)), (4, .int (hpI w3_4))]) C dX9_rests_111 rfl (by decide) rfl ?_
                refine h_iinc (lv' := [(4, .int (hpI (w3_4 + 1))), (3, .int (hpI r20)), (7, .int (hpI 1)), (6, .int (hpI r6)), (5, .int (hpI r5)), (0, .ref (z + 195)), (1, .int (hpI a0)), (2, .int (hpI a1))]) C dX9_rests_112 7 rfl rfl (by decide) rfl ?_
                refine h_goto (tgt := 17) C dX9_rests_115 (by decide) ?_
                exact hp_sub [5, 6, 7, 1, 0] rfl (ih3 _ r20 (w3_4 + 1) (by omega) (by omega) (by omega) (by omega) hI14 hF14 (by omega))
    exact hp_sub [2, 3, 4, 1, 0] rfl (L3 8589934592 _ 0 0 (by omega) (by omega) (by omega) (by omega) hI hF0 (by omega))
  · refine h_bipush C dX9_rests_9 (by decide) ?_
    refine h_ireturn C hr hlk dX9_rests_11 ?_
    exact ⟨⟨_, rfl, ⟨by decide, by decide⟩⟩, hI, hF0⟩
abbrev rgX9_gets : Room := { frames := 5, cells := 0, slots := 0, locals := 116 }
abbrev pgX9_gets (z : Nat) (σ : hpMem) (a0 : Int) (a1 : Int) (a2 : Int) (a3 : Int) (a4 : Int) : Option Value → hpMem → Prop := fun r τ => (∃ x : Int, r = some (.int (hpI x)) ∧ (hpR x)) ∧ hpInv τ ∧ (∀ j i : Nat, (j < 195 ∨ j = 198 ∨ 213 ≤ j) → τ j i = σ j i)
set_option maxHeartbeats 4000000 in
set_option maxRecDepth 20000 in
theorem tgX9_gets (l : Launch) (D : va_G) (cy : Nat → ClassId) (z : Nat) (σ : hpMem) (a0 : Int) (ha0 : hpR a0) (a1 : Int) (ha1 : hpR a1) (a2 : Int) (ha2 : hpR a2) (a3 : Int) (ha3 : hpR a3) (a4 : Int) (ha4 : hpR a4) (hI : hpInv σ) : hpM l D cy z yX9_gets cX9_gets 6 (some .int) rgX9_gets [.ref (z + 195), .int (hpI a0), .int (hpI a1), .int (hpI a2), .int (hpI a3), .int (hpI a4)] σ (pgX9_gets z σ a0 a1 a2 a3 a4) := by
  obtain ⟨ha01, ha02⟩ := ha0
  obtain ⟨ha11, ha12⟩ := ha1
  obtain ⟨ha21, ha22⟩ := ha2
  obtain ⟨ha31, ha32⟩ := ha3
  obtain ⟨ha41, ha42⟩ := ha4
  refine hp_met rfl (Nat.le_of_ble_eq_true rfl) (fun p e s m below meth c C Z hr hlk => ?_)
  have hF0 : ∀ j i : Nat, (j < 195 ∨ j = 198 ∨ 213 ≤ j) → σ j i = σ j i := fun j i _ => rfl
  refine h_aload_n C dX9_gets_0 0 rfl rfl ?_
  refine h_iload_n C dX9_gets_1 1 rfl rfl ?_
  refine h_iload_n C dX9_gets_2 2 rfl rfl ?_
  refine h_callV (As := [.int (hpI a0), .int (hpI a1)]) (rest := []) C Z yyX9_areTwo wd_1929 (tgX9_areTwo l D cy z _ a0 ⟨by omega, by omega⟩ a1 ⟨by omega, by omega⟩ hI) kd_195 rfl rfl ⟨rfl, rfl, Nat.le_of_ble_eq_true rfl, Nat.le_of_ble_eq_true rfl⟩ ⟨Nat.le_of_ble_eq_true rfl, Nat.le_of_ble_eq_true rfl⟩ (Nat.le_of_ble_eq_true rfl) dX9_gets_3 (fun r1 τ1 hp1 => ?_)
  obtain ⟨⟨x1, rfl, ⟨hx1a, hx1b⟩, hx1⟩, rfl⟩ := hp1
  show hpV _ _ _ _ _ _ _ _ _ _ _ _ _ _ _ _ _ _ _ _ _ (_ :: _)
  refine h_if_eq (tgt := 55) C dX9_gets_6 (by decide) ⟨by omega, by omega⟩ (fun h2 => ?_) (fun h2 => ?_)
  · refine h_sipush C dX9_gets_55 (by decide) ?_
    refine h_ireturn C hr hlk dX9_gets_58 ?_
    exact ⟨⟨_, rfl, ⟨by decide, by decide⟩⟩, hI, hF0⟩
  · refine h_iload_n C dX9_gets_9 3 rfl rfl ?_
    refine h_i2l C dX9_gets_10 ⟨by omega, by omega⟩ ?_
    refine h_lconst C 0 dX9_gets_11 (by decide) ?_
    refine h_lconst C 1 dX9_gets_12 (by decide) ?_
    refine h_callS (As := [.long (hpJ a2), .long (hpJ 0), .long (hpJ 1)]) (rest := []) C Z yyX9_in rfl wd_1401 (tgX9_in l D cy z _ a2 ⟨by omega, by omega⟩ 0 ⟨by decide, by decide⟩ 1 ⟨by decide, by decide⟩ hI) rfl rfl ⟨rfl, rfl, Nat.le_of_ble_eq_true rfl, Nat.le_of_ble_eq_true rfl⟩ ⟨Nat.le_of_ble_eq_true rfl, Nat.le_of_ble_eq_true rfl⟩ (Nat.le_of_ble_eq_true rfl) dX9_gets_13 (fun r3 τ3 hp3 => ?_)
    obtain ⟨⟨x3, rfl, ⟨hx3a, hx3b⟩, hx3⟩, rfl⟩ := hp3
    show hpV _ _ _ _ _ _ _ _ _ _ _ _ _ _ _ _ _ _ _ _ _ (_ :: _)
    refine h_if_eq (tgt := 55) C dX9_gets_16 (by decide) ⟨by omega, by omega⟩ (fun h4 => ?_) (fun h4 => ?_)
    · refine h_sipush C dX9_gets_55 (by decide) ?_
      refine h_ireturn C hr hlk dX9_gets_58 ?_
      exact ⟨⟨_, rfl, ⟨by decide, by decide⟩⟩, hI, hF0⟩
    · refine h_iload C dX9_gets_19 4 rfl ?_
      refine h_i2l C dX9_gets_21 ⟨by omega, by omega⟩ ?_
      refine h_lconst C 0 dX9_gets_22 (by decide) ?_
      refine h_lconst C 1 dX9_gets_23 (by decide) ?_
      refine h_callS (As := [.long (hpJ a3), .long (hpJ 0), .long (hpJ 1)]) (rest := []) C Z yyX9_in rfl wd_1401 (tgX9_in l D cy z _ a3 ⟨by omega, by omega⟩ 0 ⟨by decide, by decide⟩ 1 ⟨by decide, by decide⟩ hI) rfl rfl ⟨rfl, rfl, Nat.le_of_ble_eq_true rfl, Nat.le_of_ble_eq_true rfl⟩ ⟨Nat.le_of_ble_eq_true rfl, Nat.le_of_ble_eq_true rfl⟩ (Nat.le_of_ble_eq_true rfl) dX9_gets_24 (fun r5 τ5 hp5 => ?_)
      obtain ⟨⟨x5, rfl, ⟨hx5a, hx5b⟩, hx5⟩, rfl⟩ := hp5
      show hpV _ _ _ _ _ _ _ _ _ _ _ _ _ _ _ _ _ _ _ _ _ (_ :: _)
      refine h_if_eq (tgt := 55) C dX9_gets_27 (by decide) ⟨by omega, by omega⟩ (fun h6 => ?_) (fun h6 => ?_)
      · refine h_sipush C dX9_gets_55 (by decide) ?_
        refine h_ireturn C hr hlk dX9_gets_58 ?_
        exact ⟨⟨_, rfl, ⟨by decide, by decide⟩⟩, hI, hF0⟩
      · refine h_iload C dX9_gets_30 5 rfl ?_
        refine h_i2l C dX9_gets_32 ⟨by omega, by omega⟩ ?_
        refine h_lconst C 0 dX9_gets_33 (by decide) ?_
        refine h_lconst C 1 dX9_gets_34 (by decide) ?_
        refine h_callS (As := [.long (hpJ a4), .long (hpJ 0), .long (hpJ 1)]) (rest := []) C Z yyX9_in rfl wd_1401 (tgX9_in l D cy z _ a4 ⟨by omega, by omega⟩ 0 ⟨by decide, by decide⟩ 1 ⟨by decide, by decide⟩ hI) rfl rfl ⟨rfl, rfl, Nat.le_of_ble_eq_true rfl, Nat.le_of_ble_eq_true rfl⟩ ⟨Nat.le_of_ble_eq_true rfl, Nat.le_of_ble_eq_true rfl⟩ (Nat.le_of_ble_eq_true rfl) dX9_gets_35 (fun r7 τ7 hp7 => ?_)
        obtain ⟨⟨x7, rfl, ⟨hx7a, hx7b⟩, hx7⟩, rfl⟩ := hp7
        show hpV _ _ _ _ _ _ _ _ _ _ _ _ _ _ _ _ _ _ _ _ _ (_ :: _)
        refine h_if_eq (tgt := 55) C dX9_gets_38 (by decide) ⟨by omega, by omega⟩ (fun h8 => ?_) (fun h8 => ?_)
        · refine h_sipush C dX9_gets_55 (by decide) ?_
          refine h_ireturn C hr hlk dX9_gets_58 ?_
          exact ⟨⟨_, rfl, ⟨by decide, by decide⟩⟩, hI, hF0⟩
        · refine h_aload_n C dX9_gets_41 0 rfl rfl ?_
          refine h_iload_n C dX9_gets_42 1 rfl rfl ?_
          refine h_iload_n C dX9_gets_43 2 rfl rfl ?_
          refine h_iload_n C dX9_gets_44 3 rfl rfl ?_
          refine h_iload C dX9_gets_45 4 rfl ?_
          refine h_iload C dX9_gets_47 5 rfl ?_
          refine h_callV (As := [.int (hpI a0), .int (hpI a1), .int (hpI a2), .int (hpI a3), .int (hpI a4)]) (rest := []) C Z yyX9_getsBy wd_1933 (tgX9_getsBy l D cy z _ a0 ⟨by omega, by omega⟩ a1 ⟨by omega, by omega⟩ a2 ⟨by omega, by omega⟩ a3 ⟨by omega, by omega⟩ a4 ⟨by omega, by omega⟩ hI (by omega) (by omega)) kd_195 rfl rfl ⟨rfl, rfl, Nat.le_of_ble_eq_true rfl, Nat.le_of_ble_eq_true rfl⟩ ⟨Nat.le_of_ble_eq_true rfl, Nat.le_of_ble_eq_true rfl⟩ (Nat.le_of_ble_eq_true rfl) dX9_gets_49 (fun r9 τ9 hp9 => ?_)
          obtain ⟨⟨x9, rfl, ⟨hx9a, hx9b⟩⟩, hI9, hG9⟩ := hp9
          have hF9 : ∀ j i : Nat, (j < 195 ∨ j = 198 ∨ 213 ≤ j) → τ9 j i = σ j i := fun j i h_0 => (hG9 j i (by omega)).trans (hF0 j i h_0)
          show hpV _ _ _ _ _ _ _ _ _ _ _ _ _ _ _ _ _ _ _ _ _ (_ :: _)
          refine h_goto (tgt := 58) C dX9_gets_52 (by decide) ?_
          refine h_ireturn C hr hlk dX9_gets_58 ?_
          exact ⟨⟨_, rfl, ⟨by omega, by omega⟩⟩, hI9, hF9⟩
abbrev rgX9_keepAct : Room := { frames := 5, cells := 0, slots := 0, locals := 110 }
abbrev pgX9_keepAct (z : Nat) (σ : hpMem) (a0 : Int) : Option Value → hpMem → Prop := fun r τ => (∃ x : Int, r = some (.int (hpI x)) ∧ (hpR x)) ∧ hpInv τ ∧ (∀ j i : Nat, (j < 195 ∨ j = 198 ∨ 213 ≤ j) → τ j i = σ j i)
set_option maxHeartbeats 4000000 in
set_option maxRecDepth 20000 in
theorem tgX9_keepAct (l : Launch) (D : va_G) (cy : Nat → ClassId) (z : Nat) (σ : hpMem) (a0 : Int) (ha0 : hpR a0) (hI : hpInv σ) (ha_ : 0 ≤ a0 ∧ a0 ≤ 2016) : hpM l D cy z yX9_keepAct cX9_keepAct 2 (some .int) rgX9_keepAct [.ref (z + 195), .int (hpI a0)] σ (pgX9_keepAct z σ a0) := by
  obtain ⟨ha01, ha02⟩ := ha0
  refine hp_met rfl (Nat.le_of_ble_eq_true rfl) (fun p e s m below meth c C Z hr hlk => ?_)
  have hF0 : ∀ j i : Nat, (j < 195 ∨ j = 198 ∨ 213 ≤ j) → σ j i = σ j i := fun j i _ => rfl
  refine h_aload_n C dX9_keepAct_0 0 rfl rfl ?_
  refine h_get C O9 1 kd_195 (by decide) wd_1257 dX9_keepAct_1 fr_195_1 ?_
  refine h_iconst C dX9_keepAct_4 ?_
  refine h_iaload C dX9_keepAct_5 kd_196 5 rfl (by rw [ln_196]; decide) rfl ?_
  obtain ⟨hr1a, hr1b⟩ := hI.b ((bw_196 5).trans (show hpwb 5 = (0, 20) by decide))
  generalize hg1 : σ 196 5 = r1 at hr1a hr1b ⊢
  refine h_bipush C dX9_keepAct_6 (by decide) ?_
  refine h_icmp_ne (tgt := 14) C dX9_keepAct_8 (by decide) ⟨by omega, by omega⟩ ⟨by decide, by decide⟩ (fun h2 => ?_) (fun h2 => ?_)
  · refine h_aload_n C dX9_keepAct_14 0 rfl rfl ?_
    refine h_get C O9 1 kd_195 (by decide) wd_1257 dX9_keepAct_15 fr_195_1 ?_
    refine h_bipush C dX9_keepAct_18 (by decide) ?_
    refine h_aload_n C dX9_keepAct_20 0 rfl rfl ?_
    refine h_get C O9 1 kd_195 (by decide) wd_1257 dX9_keepAct_21 fr_195_1 ?_
    refine h_iconst C dX9_keepAct_24 ?_
    refine h_iaload C dX9_keepAct_25 kd_196 5 rfl (by rw [ln_196]; decide) rfl ?_
    rw [hg1]
    refine h_iadd C dX9_keepAct_26 rfl ?_
    refine h_iload_n C dX9_keepAct_27 1 rfl rfl ?_
    refine h_iastore C dX9_keepAct_28 kd_196 (27 + r1).toNat (Int.toNat_of_nonneg (by omega)) (by rw [ln_196]; omega) ?_
    obtain ⟨τ3, e3⟩ : ∃ μ : hpMem, μ = hpw σ 196 ((27 + r1).toNat) a0 := ⟨_, rfl⟩
    rw [← e3]
    have hI3 : hpInv τ3 := by rw [e3]; exact hpInv.w196 hI ((27 + r1).toNat) 27 46 (0) 2016 (by omega) (by omega) (by decide) (by omega) (by omega)
    have hF3 : ∀ j i : Nat, (j < 195 ∨ j = 198 ∨ 213 ≤ j) → τ3 j i = σ j i := fun j i h_0 => by rw [e3]; exact (hpw_fr (by omega)).trans (hF0 j i h_0)
    have hg4 : τ3 196 5 = r1 := by rw [e3]; exact (hpw_fr (Or.inr (by omega))).trans hg1
    refine h_aload_n C dX9_keepAct_29 0 rfl rfl ?_
    refine h_get C O9 1 kd_195 (by decide) wd_1257 dX9_keepAct_30 fr_195_1 ?_
    refine h_iconst C dX9_keepAct_33 ?_
    refine h_dup2 C rfl rfl dX9_keepAct_34 ?_
    refine h_iaload C dX9_keepAct_35 kd_196 5 rfl (by rw [ln_196]; decide) rfl ?_
    rw [hg4]
    refine h_iconst C dX9_keepAct_36 ?_
    refine h_iadd C dX9_keepAct_37 rfl ?_
    refine h_iastore C dX9_keepAct_38 kd_196 5 rfl (by rw [ln_196]; decide) ?_
    obtain ⟨τ5, e5⟩ : ∃ μ : hpMem, μ = hpw τ3 196 5 (r1 + 1) := ⟨_, rfl⟩
    rw [← e5]
    have hI5 : hpInv τ5 := by rw [e5]; exact hI3.w ((bw_196 5).trans (show hpwb 5 = (0, 20) by decide)) (by omega) (by omega)
    have hF5 : ∀ j i : Nat, (j < 195 ∨ j = 198 ∨ 213 ≤ j) → τ5 j i = σ j i := fun j i h_0 => by rw [e5]; exact (hpw_fr (by omega)).trans (hF3 j i h_0)
    have hg6 : τ5 196 5 = r1 + 1 := by rw [e5]; exact hpw_eq
    refine h_aload_n C dX9_keepAct_39 0 rfl rfl ?_
    refine h_callV (As := []) (rest := []) C Z yyX9_asksMoor wd_1516 (tgX9_asksMoor l D cy z _ hI5) kd_195 rfl rfl ⟨rfl, rfl, Nat.le_of_ble_eq_true rfl, Nat.le_of_ble_eq_true rfl⟩ ⟨Nat.le_of_ble_eq_true rfl, Nat.le_of_ble_eq_true rfl⟩ (Nat.le_of_ble_eq_true rfl) dX9_keepAct_40 (fun r7 τ7 hp7 => ?_)
    obtain ⟨x7, rfl, ⟨hx7a, hx7b⟩, hI7, hG7, hq7_0⟩ := hp7
    have hF7 : ∀ j i : Nat, (j < 195 ∨ j = 198 ∨ 213 ≤ j) → τ7 j i = σ j i := fun j i h_0 => (hG7 j i (by omega) (by omega) (by omega) (by omega) (by omega) (by omega)).trans (hF5 j i h_0)
    have hg8 : τ7 196 5 = r1 + 1 := (hG7 196 5 (by omega) (by omega) (by omega) (by omega) (by omega) (by omega)).trans hg6
    show hpV _ _ _ _ _ _ _ _ _ _ _ _ _ _ _ _ _ _ _ _ _ (_ :: _)
    refine h_pop C rfl dX9_keepAct_43 ?_
    refine h_aload_n C dX9_keepAct_44 0 rfl rfl ?_
    refine h_callV (As := []) (rest := []) C Z yyX9_lastMany wd_1804 (tgX9_lastMany l D cy z _ hI7) kd_195 rfl rfl ⟨rfl, rfl, Nat.le_of_ble_eq_true rfl, Nat.le_of_ble_eq_true rfl⟩ ⟨Nat.le_of_ble_eq_true rfl, Nat.le_of_ble_eq_true rfl⟩ (Nat.le_of_ble_eq_true rfl) dX9_keepAct_45 (fun r9 τ9 hp9 => ?_)
    obtain ⟨⟨x9, rfl, ⟨hx9a, hx9b⟩, hx9⟩, rfl⟩ := hp9
    show hpV _ _ _ _ _ _ _ _ _ _ _ _ _ _ _ _ _ _ _ _ _ (_ :: _)
    refine h_ireturn C hr hlk dX9_keepAct_48 ?_
    exact ⟨⟨_, rfl, ⟨by omega, by omega⟩⟩, hI7, hF7⟩
  · refine h_bipush C dX9_keepAct_11 (by decide) ?_
    refine h_ireturn C hr hlk dX9_keepAct_13 ?_
    exact ⟨⟨_, rfl, ⟨by decide, by decide⟩⟩, hI, hF0⟩
abbrev rgX9_brings : Room := { frames := 6, cells := 0, slots := 0, locals := 131 }
abbrev pgX9_brings (z : Nat) (σ : hpMem) (a0 : Int) (a1 : Int) : Option Value → hpMem → Prop := fun r τ => (∃ x : Int, r = some (.int (hpI x)) ∧ (hpR x)) ∧ hpInv τ ∧ (∀ j i : Nat, (j < 195 ∨ j = 198 ∨ 213 ≤ j) → τ j i = σ j i)
set_option maxHeartbeats 4000000 in
set_option maxRecDepth 20000 in
theorem tgX9_brings (l : Launch) (D : va_G) (cy : Nat → ClassId) (z : Nat) (σ : hpMem) (a0 : Int) (ha0 : hpR a0) (a1 : Int) (ha1 : hpR a1) (hI : hpInv σ) : hpM l D cy z yX9_brings cX9_brings 3 (some .int) rgX9_brings [.ref (z + 195), .int (hpI a0), .int (hpI a1)] σ (pgX9_brings z σ a0 a1) := by
  obtain ⟨ha01, ha02⟩ := ha0
  obtain ⟨ha11, ha12⟩ := ha1
  refine hp_met rfl (Nat.le_of_ble_eq_true rfl) (fun p e s m below meth c C Z hr hlk => ?_)
  have hF0 : ∀ j i : Nat, (j < 195 ∨ j = 198 ∨ 213 ≤ j) → σ j i = σ j i := fun j i _ => rfl
  refine h_iload_n C dX9_brings_0 1 rfl rfl ?_
  refine h_i2l C dX9_brings_1 ⟨by omega, by omega⟩ ?_
  refine h_lconst C 1 dX9_brings_2 (by decide) ?_
  refine h_ldc2 C 20 wd_1962 (by decide) dX9_brings_3 ?_
  refine h_callS (As := [.long (hpJ a0), .long (hpJ 1), .long (hpJ 20)]) (rest := []) C Z yyX9_in rfl wd_1401 (tgX9_in l D cy z _ a0 ⟨by omega, by omega⟩ 1 ⟨by decide, by decide⟩ 20 ⟨by decide, by decide⟩ hI) rfl rfl ⟨rfl, rfl, Nat.le_of_ble_eq_true rfl, Nat.le_of_ble_eq_true rfl⟩ ⟨Nat.le_of_ble_eq_true rfl, Nat.le_of_ble_eq_true rfl⟩ (Nat.le_of_ble_eq_true rfl) dX9_brings_6 (fun r1 τ1 hp1 => ?_)
  obtain ⟨⟨x1, rfl, ⟨hx1a, hx1b⟩, hx1⟩, rfl⟩ := hp1
  show hpV _ _ _ _ _ _ _ _ _ _ _ _ _ _ _ _ _ _ _ _ _ (_ :: _)
  refine h_if_eq (tgt := 34) C dX9_brings_9 (by decide) ⟨by omega, by omega⟩ (fun h2 => ?_) (fun h2 => ?_)
  · refine h_bipush C dX9_brings_34 (by decide) ?_
    refine h_ireturn C hr hlk dX9_brings_36 ?_
    exact ⟨⟨_, rfl, ⟨by decide, by decide⟩⟩, hI, hF0⟩
  · refine h_aload_n C dX9_brings_12 0 rfl rfl ?_
    refine h_iload_n C dX9_brings_13 2 rfl rfl ?_
    refine h_i2l C dX9_brings_14 ⟨by omega, by omega⟩ ?_
    refine h_callV (As := [.long (hpJ a1)]) (rest := []) C Z yyX9_isDay wd_1575 (tgX9_isDay l D cy z _ a1 ⟨by omega, by omega⟩ hI) kd_195 rfl rfl ⟨rfl, rfl, Nat.le_of_ble_eq_true rfl, Nat.le_of_ble_eq_true rfl⟩ ⟨Nat.le_of_ble_eq_true rfl, Nat.le_of_ble_eq_true rfl⟩ (Nat.le_of_ble_eq_true rfl) dX9_brings_15 (fun r3 τ3 hp3 => ?_)
    obtain ⟨⟨x3, rfl, ⟨hx3a, hx3b⟩, hx3⟩, rfl⟩ := hp3
    show hpV _ _ _ _ _ _ _ _ _ _ _ _ _ _ _ _ _ _ _ _ _ (_ :: _)
    refine h_if_eq (tgt := 34) C dX9_brings_18 (by decide) ⟨by omega, by omega⟩ (fun h4 => ?_) (fun h4 => ?_)
    · refine h_bipush C dX9_brings_34 (by decide) ?_
      refine h_ireturn C hr hlk dX9_brings_36 ?_
      exact ⟨⟨_, rfl, ⟨by decide, by decide⟩⟩, hI, hF0⟩
    · refine h_aload_n C dX9_brings_21 0 rfl rfl ?_
      refine h_bipush C dX9_brings_22 (by decide) ?_
      refine h_iload_n C dX9_brings_24 1 rfl rfl ?_
      refine h_imul C dX9_brings_25 rfl ?_
      refine h_iload_n C dX9_brings_26 2 rfl rfl ?_
      refine h_iadd C dX9_brings_27 rfl ?_
      refine h_callV (As := [.int (hpI ((100 * a0) + a1))]) (rest := []) C Z yyX9_keepAct wd_1963 (tgX9_keepAct l D cy z _ ((100 * a0) + a1) ⟨by omega, by omega⟩ hI (by omega)) kd_195 rfl rfl ⟨rfl, rfl, Nat.le_of_ble_eq_true rfl, Nat.le_of_ble_eq_true rfl⟩ ⟨Nat.le_of_ble_eq_true rfl, Nat.le_of_ble_eq_true rfl⟩ (Nat.le_of_ble_eq_true rfl) dX9_brings_28 (fun r5 τ5 hp5 => ?_)
      obtain ⟨⟨x5, rfl, ⟨hx5a, hx5b⟩⟩, hI5, hG5⟩ := hp5
      have hF5 : ∀ j i : Nat, (j < 195 ∨ j = 198 ∨ 213 ≤ j) → τ5 j i = σ j i := fun j i h_0 => (hG5 j i (by omega)).trans (hF0 j i h_0)
      show hpV _ _ _ _ _ _ _ _ _ _ _ _ _ _ _ _ _ _ _ _ _ (_ :: _)
      refine h_goto (tgt := 36) C dX9_brings_31 (by decide) ?_
      refine h_ireturn C hr hlk dX9_brings_36 ?_
      exact ⟨⟨_, rfl, ⟨by omega, by omega⟩⟩, hI5, hF5⟩
abbrev rgX9_away : Room := { frames := 6, cells := 0, slots := 0, locals := 131 }
abbrev pgX9_away (z : Nat) (σ : hpMem) (a0 : Int) : Option Value → hpMem → Prop := fun r τ => (∃ x : Int, r = some (.int (hpI x)) ∧ (hpR x)) ∧ hpInv τ ∧ (∀ j i : Nat, (j < 195 ∨ j = 198 ∨ 213 ≤ j) → τ j i = σ j i)
set_option maxHeartbeats 4000000 in
set_option maxRecDepth 20000 in
theorem tgX9_away (l : Launch) (D : va_G) (cy : Nat → ClassId) (z : Nat) (σ : hpMem) (a0 : Int) (ha0 : hpR a0) (hI : hpInv σ) : hpM l D cy z yX9_away cX9_away 2 (some .int) rgX9_away [.ref (z + 195), .int (hpI a0)] σ (pgX9_away z σ a0) := by
  obtain ⟨ha01, ha02⟩ := ha0
  refine hp_met rfl (Nat.le_of_ble_eq_true rfl) (fun p e s m below meth c C Z hr hlk => ?_)
  have hF0 : ∀ j i : Nat, (j < 195 ∨ j = 198 ∨ 213 ≤ j) → σ j i = σ j i := fun j i _ => rfl
  refine h_aload_n C dX9_away_0 0 rfl rfl ?_
  refine h_iload_n C dX9_away_1 1 rfl rfl ?_
  refine h_i2l C dX9_away_2 ⟨by omega, by omega⟩ ?_
  refine h_callV (As := [.long (hpJ a0)]) (rest := []) C Z yyX9_isDay wd_1575 (tgX9_isDay l D cy z _ a0 ⟨by omega, by omega⟩ hI) kd_195 rfl rfl ⟨rfl, rfl, Nat.le_of_ble_eq_true rfl, Nat.le_of_ble_eq_true rfl⟩ ⟨Nat.le_of_ble_eq_true rfl, Nat.le_of_ble_eq_true rfl⟩ (Nat.le_of_ble_eq_true rfl) dX9_away_3 (fun r1 τ1 hp1 => ?_)
  obtain ⟨⟨x1, rfl, ⟨hx1a, hx1b⟩, hx1⟩, rfl⟩ := hp1
  show hpV _ _ _ _ _ _ _ _ _ _ _ _ _ _ _ _ _ _ _ _ _ (_ :: _)
  refine h_if_eq (tgt := 17) C dX9_away_6 (by decide) ⟨by omega, by omega⟩ (fun h2 => ?_) (fun h2 => ?_)
  · refine h_bipush C dX9_away_17 (by decide) ?_
    refine h_ireturn C hr hlk dX9_away_19 ?_
    exact ⟨⟨_, rfl, ⟨by decide, by decide⟩⟩, hI, hF0⟩
  · refine h_aload_n C dX9_away_9 0 rfl rfl ?_
    refine h_iload_n C dX9_away_10 1 rfl rfl ?_
    refine h_callV (As := [.int (hpI a0)]) (rest := []) C Z yyX9_keepAct wd_1963 (tgX9_keepAct l D cy z _ a0 ⟨by omega, by omega⟩ hI (by omega)) kd_195 rfl rfl ⟨rfl, rfl, Nat.le_of_ble_eq_true rfl, Nat.le_of_ble_eq_true rfl⟩ ⟨Nat.le_of_ble_eq_true rfl, Nat.le_of_ble_eq_true rfl⟩ (Nat.le_of_ble_eq_true rfl) dX9_away_11 (fun r3 τ3 hp3 => ?_)
    obtain ⟨⟨x3, rfl, ⟨hx3a, hx3b⟩⟩, hI3, hG3⟩ := hp3
    have hF3 : ∀ j i : Nat, (j < 195 ∨ j = 198 ∨ 213 ≤ j) → τ3 j i = σ j i := fun j i h_0 => (hG3 j i (by omega)).trans (hF0 j i h_0)
    show hpV _ _ _ _ _ _ _ _ _ _ _ _ _ _ _ _ _ _ _ _ _ (_ :: _)
    refine h_goto (tgt := 19) C dX9_away_14 (by decide) ?_
    refine h_ireturn C hr hlk dX9_away_19 ?_
    exact ⟨⟨_, rfl, ⟨by omega, by omega⟩⟩, hI3, hF3⟩
abbrev rgX9_undo : Room := { frames := 1, cells := 0, slots := 0, locals := 20 }
abbrev pgX9_undo (z : Nat) (σ : hpMem) : Option Value → hpMem → Prop := fun r τ => (∃ x : Int, r = some (.int (hpI x)) ∧ (hpR x)) ∧ hpInv τ ∧ (∀ j i : Nat, (j < 195 ∨ j = 198 ∨ 213 ≤ j) → τ j i = σ j i)
set_option maxHeartbeats 4000000 in
set_option maxRecDepth 20000 in
theorem tgX9_undo (l : Launch) (D : va_G) (cy : Nat → ClassId) (z : Nat) (σ : hpMem) (hI : hpInv σ) : hpM l D cy z yX9_undo cX9_undo 1 (some .int) rgX9_undo [.ref (z + 195)] σ (pgX9_undo z σ) := by
  refine hp_met rfl (Nat.le_of_ble_eq_true rfl) (fun p e s m below meth c C Z hr hlk => ?_)
  have hF0 : ∀ j i : Nat, (j < 195 ∨ j = 198 ∨ 213 ≤ j) → σ j i = σ j i := fun j i _ => rfl
  refine h_aload_n C dX9_undo_0 0 rfl rfl ?_
  refine h_callV (As := []) (rest := []) C Z yyX9_isMoor wd_1571 (tgX9_isMoor l D cy z _ hI) kd_195 rfl rfl ⟨rfl, rfl, Nat.le_of_ble_eq_true rfl, Nat.le_of_ble_eq_true rfl⟩ ⟨Nat.le_of_ble_eq_true rfl, Nat.le_of_ble_eq_true rfl⟩ (Nat.le_of_ble_eq_true rfl) dX9_undo_1 (fun r1 τ1 hp1 => ?_)
  obtain ⟨⟨x1, rfl, ⟨hx1a, hx1b⟩, hx1⟩, rfl⟩ := hp1
  show hpV _ _ _ _ _ _ _ _ _ _ _ _ _ _ _ _ _ _ _ _ _ (_ :: _)
  refine h_if_ne (tgt := 10) C dX9_undo_4 (by decide) ⟨by omega, by omega⟩ (fun h2 => ?_) (fun h2 => ?_)
  · refine h_aload_n C dX9_undo_10 0 rfl rfl ?_
    refine h_get C O9 1 kd_195 (by decide) wd_1257 dX9_undo_11 fr_195_1 ?_
    refine h_iconst C dX9_undo_14 ?_
    refine h_iaload C dX9_undo_15 kd_196 5 rfl (by rw [ln_196]; decide) rfl ?_
    obtain ⟨hr3a, hr3b⟩ := hI.b ((bw_196 5).trans (show hpwb 5 = (0, 20) by decide))
    generalize hg3 : σ 196 5 = r3 at hr3a hr3b ⊢
    refine h_if_ne (tgt := 22) C dX9_undo_16 (by decide) ⟨by omega, by omega⟩ (fun h4 => ?_) (fun h4 => ?_)
    · refine h_aload_n C dX9_undo_22 0 rfl rfl ?_
      refine h_get C O9 1 kd_195 (by decide) wd_1257 dX9_undo_23 fr_195_1 ?_
      refine h_iconst C dX9_undo_26 ?_
      refine h_dup2 C rfl rfl dX9_undo_27 ?_
      refine h_iaload C dX9_undo_28 kd_196 5 rfl (by rw [ln_196]; decide) rfl ?_
      rw [hg3]
      refine h_iconst C dX9_undo_29 ?_
      refine h_isub C dX9_undo_30 rfl ?_
      refine h_iastore C dX9_undo_31 kd_196 5 rfl (by rw [ln_196]; decide) ?_
      obtain ⟨τ5, e5⟩ : ∃ μ : hpMem, μ = hpw σ 196 5 (r3 - 1) := ⟨_, rfl⟩
      rw [← e5]
      have hI5 : hpInv τ5 := by rw [e5]; exact hI.w ((bw_196 5).trans (show hpwb 5 = (0, 20) by decide)) (by omega) (by omega)
      have hF5 : ∀ j i : Nat, (j < 195 ∨ j = 198 ∨ 213 ≤ j) → τ5 j i = σ j i := fun j i h_0 => by rw [e5]; exact (hpw_fr (by omega)).trans (hF0 j i h_0)
      have hg6 : τ5 196 5 = r3 - 1 := by rw [e5]; exact hpw_eq
      refine h_aload_n C dX9_undo_32 0 rfl rfl ?_
      refine h_get C O9 1 kd_195 (by decide) wd_1257 dX9_undo_33 fr_195_1 ?_
      refine h_iconst C dX9_undo_36 ?_
      refine h_iaload C dX9_undo_37 kd_196 5 rfl (by rw [ln_196]; decide) rfl ?_
      rw [hg6]
      refine h_ireturn C hr hlk dX9_undo_38 ?_
      exact ⟨⟨_, rfl, ⟨by omega, by omega⟩⟩, hI5, hF5⟩
    · refine h_bipush C dX9_undo_19 (by decide) ?_
      refine h_ireturn C hr hlk dX9_undo_21 ?_
      exact ⟨⟨_, rfl, ⟨by decide, by decide⟩⟩, hI, hF0⟩
  · refine h_bipush C dX9_undo_7 (by decide) ?_
    refine h_ireturn C hr hlk dX9_undo_9 ?_
    exact ⟨⟨_, rfl, ⟨by decide, by decide⟩⟩, hI, hF0⟩
abbrev rgX9_anew : Room := { frames := 1, cells := 0, slots := 0, locals := 20 }
abbrev pgX9_anew (z : Nat) (σ : hpMem) : Option Value → hpMem → Prop := fun r τ => (∃ x : Int, r = some (.int (hpI x)) ∧ (hpR x)) ∧ hpInv τ ∧ (∀ j i : Nat, (j < 195 ∨ j = 198 ∨ 213 ≤ j) → τ j i = σ j i)
set_option maxHeartbeats 4000000 in
set_option maxRecDepth 20000 in
theorem tgX9_anew (l : Launch) (D : va_G) (cy : Nat → ClassId) (z : Nat) (σ : hpMem) (hI : hpInv σ) : hpM l D cy z yX9_anew cX9_anew 2 (some .int) rgX9_anew [.ref (z + 195)] σ (pgX9_anew z σ) := by
  refine hp_met rfl (Nat.le_of_ble_eq_true rfl) (fun p e s m below meth c C Z hr hlk => ?_)
  have hF0 : ∀ j i : Nat, (j < 195 ∨ j = 198 ∨ 213 ≤ j) → σ j i = σ j i := fun j i _ => rfl
  refine h_aload_n C dX9_anew_0 0 rfl rfl ?_
  refine h_callV (As := []) (rest := []) C Z yyX9_isMoor wd_1571 (tgX9_isMoor l D cy z _ hI) kd_195 rfl rfl ⟨rfl, rfl, Nat.le_of_ble_eq_true rfl, Nat.le_of_ble_eq_true rfl⟩ ⟨Nat.le_of_ble_eq_true rfl, Nat.le_of_ble_eq_true rfl⟩ (Nat.le_of_ble_eq_true rfl) dX9_anew_1 (fun r1 τ1 hp1 => ?_)
  obtain ⟨⟨x1, rfl, ⟨hx1a, hx1b⟩, hx1⟩, rfl⟩ := hp1
  show hpV _ _ _ _ _ _ _ _ _ _ _ _ _ _ _ _ _ _ _ _ _ (_ :: _)
  refine h_if_ne (tgt := 10) C dX9_anew_4 (by decide) ⟨by omega, by omega⟩ (fun h2 => ?_) (fun h2 => ?_)
  · refine h_aload_n C dX9_anew_10 0 rfl rfl ?_
    refine h_get C O9 1 kd_195 (by decide) wd_1257 dX9_anew_11 fr_195_1 ?_
    refine h_iconst C dX9_anew_14 ?_
    refine h_iaload C dX9_anew_15 kd_196 5 rfl (by rw [ln_196]; decide) rfl ?_
    obtain ⟨hr3a, hr3b⟩ := hI.b ((bw_196 5).trans (show hpwb 5 = (0, 20) by decide))
    generalize hg3 : σ 196 5 = r3 at hr3a hr3b ⊢
    refine h_istore_n (lv' := [(1, .int (hpI r3)), (0, .ref (z + 195))]) C dX9_anew_16 rfl (by decide) rfl ?_
    refine h_aload_n C dX9_anew_17 1 rfl rfl ?_
    refine h_get C O9 1 kd_195 (by decide) wd_1257 dX9_anew_18 fr_195_1 ?_
    refine h_iconst C dX9_anew_21 ?_
    refine h_iconst C dX9_anew_22 ?_
    refine h_iastore C dX9_anew_23 kd_196 5 rfl (by rw [ln_196]; decide) ?_
    obtain ⟨τ4, e4⟩ : ∃ μ : hpMem, μ = hpw σ 196 5 0 := ⟨_, rfl⟩
    rw [← e4]
    have hI4 : hpInv τ4 := by rw [e4]; exact hI.w ((bw_196 5).trans (show hpwb 5 = (0, 20) by decide)) (by omega) (by omega)
    have hF4 : ∀ j i : Nat, (j < 195 ∨ j = 198 ∨ 213 ≤ j) → τ4 j i = σ j i := fun j i h_0 => by rw [e4]; exact (hpw_fr (by omega)).trans (hF0 j i h_0)
    have hg5 : τ4 196 5 = 0 := by rw [e4]; exact hpw_eq
    refine h_iload_n C dX9_anew_24 0 rfl rfl ?_
    refine h_ireturn C hr hlk dX9_anew_25 ?_
    exact ⟨⟨_, rfl, ⟨by omega, by omega⟩⟩, hI4, hF4⟩
  · refine h_bipush C dX9_anew_7 (by decide) ?_
    refine h_ireturn C hr hlk dX9_anew_9 ?_
    exact ⟨⟨_, rfl, ⟨by decide, by decide⟩⟩, hI, hF0⟩
abbrev rgX9_goDrawn : Room := { frames := 4, cells := 0, slots := 0, locals := 90 }
abbrev pgX9_goDrawn (z : Nat) (σ : hpMem) (a0 : Int) : Option Value → hpMem → Prop := fun r τ => r = none ∧ hpInv τ ∧ (∀ j i : Nat, (j < 195 ∨ j = 198 ∨ 213 ≤ j) → τ j i = σ j i)
set_option maxHeartbeats 4000000 in
set_option maxRecDepth 20000 in
theorem tgX9_goDrawn (l : Launch) (D : va_G) (cy : Nat → ClassId) (z : Nat) (σ : hpMem) (a0 : Int) (ha0 : hpRL a0) (hI : hpInv σ) : hpM l D cy z yX9_goDrawn cX9_goDrawn 6 none rgX9_goDrawn [.ref (z + 195), .long (hpJ a0)] σ (pgX9_goDrawn z σ a0) := by
  obtain ⟨ha01, ha02⟩ := ha0
  refine hp_met rfl (Nat.le_of_ble_eq_true rfl) (fun p e s m below meth c C Z hr hlk => ?_)
  have hF0 : ∀ j i : Nat, (j < 195 ∨ j = 198 ∨ 213 ≤ j) → σ j i = σ j i := fun j i _ => rfl
  refine h_aload_n C dX9_goDrawn_0 0 rfl rfl ?_
  refine h_callV (As := []) (rest := []) C Z yyX9_asItIs wd_1520 (tgX9_asItIs l D cy z _ hI) kd_195 rfl rfl ⟨rfl, rfl, Nat.le_of_ble_eq_true rfl, Nat.le_of_ble_eq_true rfl⟩ ⟨Nat.le_of_ble_eq_true rfl, Nat.le_of_ble_eq_true rfl⟩ (Nat.le_of_ble_eq_true rfl) dX9_goDrawn_1 (fun r1 τ1 hp1 => ?_)
  obtain ⟨rfl, hI1, hG1⟩ := hp1
  have hF1 : ∀ j i : Nat, (j < 195 ∨ j = 198 ∨ 213 ≤ j) → τ1 j i = σ j i := fun j i h_0 => (hG1 j i (by omega) (by omega) (by omega)).trans (hF0 j i h_0)
  show hpV _ _ _ _ _ _ _ _ _ _ _ _ _ _ _ _ _ _ _ _ _ []
  refine h_lload_n C dX9_goDrawn_4 1 rfl rfl ?_
  refine h_lstore_n (lv' := [(3, .long (hpJ a0)), (0, .ref (z + 195)), (1, .long (hpJ a0))]) C dX9_goDrawn_5 rfl (by decide) rfl ?_
  refine h_iconst C dX9_goDrawn_6 ?_
  refine h_istore (lv' := [(5, .int (hpI 0)), (3, .long (hpJ a0)), (0, .ref (z + 195)), (1, .long (hpJ a0))]) C dX9_goDrawn_7 (by decide) rfl ?_
  have L2 : ∀ (n2 : Nat) (τ2 : hpMem) (w2_3 : Int) (w2_5 : Int), -9223372036854775808 ≤ w2_3 → w2_3 ≤ 9223372036854775807 → 0 ≤ w2_5 → w2_5 ≤ 2147483647 → hpInv τ2 → (∀ j i : Nat, (j < 195 ∨ j = 198 ∨ 213 ≤ j) → τ2 j i = σ j i) → (4294967296 - w2_5) < (n2 : Int) → hpF p l e rgX9_goDrawn s m [.ref (z + 195), .long (hpJ a0)] below meth c 6 D cy z (pgX9_goDrawn z σ a0) τ2 9 [(0, .ref (z + 195)), (1, .long (hpJ a0)), (3, .long (hpJ w2_3)), (5, .int (hpI w2_5))] [] := by
    intro n2
    induction n2 with
    | zero => intro τ2 w2_3 w2_5 hv2_0 hv2_1 hv2_2 hv2_3 hI2 hF2 hm2; exfalso; omega
    | succ n2 ih2 =>
      intro τ2 w2_3 w2_5 hv2_0 hv2_1 hv2_2 hv2_3 hI2 hF2 hm2
      refine h_iload C dX9_goDrawn_9 3 rfl ?_
      refine h_aload_n C dX9_goDrawn_11 0 rfl rfl ?_
      refine h_callV (As := []) (rest := [.int (hpI w2_5)]) C Z yyX9_days wd_1544 (tgX9_days l D cy z _ hI2) kd_195 rfl rfl ⟨rfl, rfl, Nat.le_of_ble_eq_true rfl, Nat.le_of_ble_eq_true rfl⟩ ⟨Nat.le_of_ble_eq_true rfl, Nat.le_of_ble_eq_true rfl⟩ (Nat.le_of_ble_eq_true rfl) dX9_goDrawn_12 (fun r3 τ3 hp3 => ?_)
      obtain ⟨⟨x3, rfl, ⟨hx3a, hx3b⟩, hx3⟩, rfl⟩ := hp3
      show hpV _ _ _ _ _ _ _ _ _ _ _ _ _ _ _ _ _ _ _ _ _ (_ :: _)
      refine h_icmp_ge (tgt := 75) C dX9_goDrawn_15 (by decide) ⟨by omega, by omega⟩ ⟨by omega, by omega⟩ (fun h4 => ?_) (fun h4 => ?_)
      · refine h_aload_n C dX9_goDrawn_75 0 rfl rfl ?_
        refine h_callV (As := []) (rest := []) C Z yyX9_goAll wd_1524 (tgX9_goAll l D cy z _ hI2) kd_195 rfl rfl ⟨rfl, rfl, Nat.le_of_ble_eq_true rfl, Nat.le_of_ble_eq_true rfl⟩ ⟨Nat.le_of_ble_eq_true rfl, Nat.le_of_ble_eq_true rfl⟩ (Nat.le_of_ble_eq_true rfl) dX9_goDrawn_76 (fun r5 τ5 hp5 => ?_)
        obtain ⟨rfl, hI5, hG5, hq5_0⟩ := hp5
        have hF5 : ∀ j i : Nat, (j < 195 ∨ j = 198 ∨ 213 ≤ j) → τ5 j i = σ j i := fun j i h_0 => (hG5 j i (by omega) (by omega) (by omega) (by omega)).trans (hF2 j i h_0)
        show hpV _ _ _ _ _ _ _ _ _ _ _ _ _ _ _ _ _ _ _ _ _ []
        refine h_return C hr hlk dX9_goDrawn_79 ?_
        exact ⟨rfl, hI5, hF5⟩
      · refine h_ldc2 C 1103515245 wd_1991 (by decide) dX9_goDrawn_18 ?_
        refine h_lload_n C dX9_goDrawn_21 2 rfl rfl ?_
        refine h_lmul C dX9_goDrawn_22 rfl ?_
        refine hp_anyL (fun r6 hr6 => ?_)
        obtain ⟨hr6a, hr6b⟩ := hr6
        refine h_ldc2 C 12345 wd_1992 (by decide) dX9_goDrawn_23 ?_
        refine h_ladd C dX9_goDrawn_26 rfl ?_
        refine hp_anyL (fun r7 hr7 => ?_)
        obtain ⟨hr7a, hr7b⟩ := hr7
        refine h_ldc2 C 2147483648 wd_1993 (by decide) dX9_goDrawn_27 ?_
        refine h_lrem_any C dX9_goDrawn_30 ⟨by omega, by omega⟩ (by omega) (fun _ => ?_)
        refine hp_anyL (fun r8 hr8 => ?_)
        obtain ⟨hr8a, hr8b⟩ := hr8
        refine h_lstore_n (lv' := [(3, .long (hpJ r8)), (0, .ref (z + 195)), (1, .long (hpJ a0)), (5, .int (hpI w2_5))]) C dX9_goDrawn_31 rfl (by decide) rfl ?_
        refine h_aload_n C dX9_goDrawn_32 1 rfl rfl ?_
        refine h_dup C rfl dX9_goDrawn_33 ?_
        refine h_get C O9 21 kd_195 (by decide) wd_1277 dX9_goDrawn_34 (hp_fvI (by rw [kd_195]; rfl) rfl) ?_
        obtain ⟨hr9a, hr9b⟩ := hI2.b (bf_9_21 kd_195)
        generalize hg9 : τ2 195 21 = r9 at hr9a hr9b ⊢
        refine h_lload_n C dX9_goDrawn_37 0 rfl rfl ?_
        refine h_ldc2 C 65536 wd_1994 (by decide) dX9_goDrawn_38 ?_
        refine h_ldiv_any C dX9_goDrawn_41 ⟨by omega, by omega⟩ (by omega) (fun _ => ?_)
        refine hp_anyL (fun r10 hr10 => ?_)
        obtain ⟨hr10a, hr10b⟩ := hr10
        refine h_ldc2 C 10 wd_1995 (by decide) dX9_goDrawn_42 ?_
        refine h_lrem_any C dX9_goDrawn_45 ⟨by omega, by omega⟩ (by omega) (fun _ => ?_)
        refine hp_anyL (fun r11 hr11 => ?_)
        obtain ⟨hr11a, hr11b⟩ := hr11
        refine h_aload_n C dX9_goDrawn_46 1 rfl rfl ?_
        refine h_get C O9 1 kd_195 (by decide) wd_1257 dX9_goDrawn_47 fr_195_1 ?_
        refine h_iconst C dX9_goDrawn_50 ?_
        refine h_iaload C dX9_goDrawn_51 kd_196 2 rfl (by rw [ln_196]; decide) rfl ?_
        obtain ⟨hr12a, hr12b⟩ := hI2.b ((bw_196 2).trans (show hpwb 2 = (0, 10) by decide))
        generalize hg12 : τ2 196 2 = r12 at hr12a hr12b ⊢
        refine h_i2l C dX9_goDrawn_52 ⟨by omega, by omega⟩ ?_
        refine h_lcmp C dX9_goDrawn_53 ⟨by omega, by omega⟩ ⟨by omega, by omega⟩ (fun r13 hr13 => ?_)
        refine h_if_ge (tgt := 64) C dX9_goDrawn_54 (by decide) ⟨by omega, by omega⟩ (fun h14 => ?_) (fun h14 => ?_)
        · refine h_iconst C dX9_goDrawn_64 ?_
          refine h_ior_any C dX9_goDrawn_65 (fun r15 hr15 => ?_)
          obtain ⟨hr15a, hr15b⟩ := hr15
          refine h_put C O9 21 kd_195 (by decide) rfl wd_1277 dX9_goDrawn_66 rfl rfl (hp_fvI (by rw [kd_195]; rfl) hpu_at) ?_
          obtain ⟨τ16, e16⟩ : ∃ μ : hpMem, μ = hpw τ2 195 21 r15 := ⟨_, rfl⟩
          rw [← e16]
          have hI16 : hpInv τ16 := by rw [e16]; exact hI2.w (bf_9_21 kd_195) (by omega) (by omega)
          have hF16 : ∀ j i : Nat, (j < 195 ∨ j = 198 ∨ 213 ≤ j) → τ16 j i = σ j i := fun j i h_0 => by rw [e16]; exact (hpw_fr (by omega)).trans (hF2 j i h_0)
          have hg17 : τ16 196 2 = r12 := by rw [e16]; exact (hpw_fr (Or.inl (by omega))).trans hg12
          have hg18 : τ16 195 21 = r15 := by rw [e16]; exact hpw_eq
          refine h_iinc (lv' := [(5, .int (hpI (w2_5 + 1))), (3, .long (hpJ r8)), (0, .ref (z + 195)), (1, .long (hpJ a0))]) C dX9_goDrawn_69 3 rfl rfl (by decide) rfl ?_
          refine h_goto (tgt := 9) C dX9_goDrawn_72 (by decide) ?_
          exact hp_sub [2, 3, 1, 0] rfl (ih2 _ r8 (w2_5 + 1) (by omega) (by omega) (by omega) (by omega) hI16 hF16 (by omega))
        · refine h_iconst C dX9_goDrawn_57 ?_
          refine h_iload C dX9_goDrawn_58 3 rfl ?_
          refine h_ishl_b (mm := 15) (M := 32768) C dX9_goDrawn_60 (by omega) (by omega) (by decide +kernel) (fun r19 hr19a hr19b => ?_)
          refine h_goto (tgt := 65) C dX9_goDrawn_61 (by decide) ?_
          refine h_ior_any C dX9_goDrawn_65 (fun r20 hr20 => ?_)
          obtain ⟨hr20a, hr20b⟩ := hr20
          refine h_put C O9 21 kd_195 (by decide) rfl wd_1277 dX9_goDrawn_66 rfl rfl (hp_fvI (by rw [kd_195]; rfl) hpu_at) ?_
          obtain ⟨τ21, e21⟩ : ∃ μ : hpMem, μ = hpw τ2 195 21 r20 := ⟨_, rfl⟩
          rw [← e21]
          have hI21 : hpInv τ21 := by rw [e21]; exact hI2.w (bf_9_21 kd_195) (by omega) (by omega)
          have hF21 : ∀ j i : Nat, (j < 195 ∨ j = 198 ∨ 213 ≤ j) → τ21 j i = σ j i := fun j i h_0 => by rw [e21]; exact (hpw_fr (by omega)).trans (hF2 j i h_0)
          have hg22 : τ21 196 2 = r12 := by rw [e21]; exact (hpw_fr (Or.inl (by omega))).trans hg12
          have hg23 : τ21 195 21 = r20 := by rw [e21]; exact hpw_eq
          refine h_iinc (lv' := [(5, .int (hpI (w2_5 + 1))), (3, .long (hpJ r8)), (0, .ref (z + 195)), (1, .long (hpJ a0))]) C dX9_goDrawn_69 3 rfl rfl (by decide) rfl ?_
          refine h_goto (tgt := 9) C dX9_goDrawn_72 (by decide) ?_
          exact hp_sub [2, 3, 1, 0] rfl (ih2 _ r8 (w2_5 + 1) (by omega) (by omega) (by omega) (by omega) hI21 hF21 (by omega))
  exact hp_sub [2, 3, 1, 0] rfl (L2 8589934592 _ a0 0 (by omega) (by omega) (by omega) (by omega) hI1 hF1 (by omega))
abbrev rgX9_isSeed : Room := { frames := 1, cells := 0, slots := 0, locals := 25 }
abbrev pgX9_isSeed (z : Nat) (σ : hpMem) (a0 : Int) : Option Value → hpMem → Prop := fun r τ => (∃ x : Int, r = some (.int (hpI x)) ∧ (0 ≤ x ∧ x ≤ 1)) ∧ σ = τ
set_option maxHeartbeats 4000000 in
set_option maxRecDepth 20000 in
theorem tgX9_isSeed (l : Launch) (D : va_G) (cy : Nat → ClassId) (z : Nat) (σ : hpMem) (a0 : Int) (ha0 : hpR a0) (hI : hpInv σ) : hpM l D cy z yX9_isSeed cX9_isSeed 1 (some .boolean) rgX9_isSeed [.int (hpI a0)] σ (pgX9_isSeed z σ a0) := by
  obtain ⟨ha01, ha02⟩ := ha0
  refine hp_met rfl (Nat.le_of_ble_eq_true rfl) (fun p e s m below meth c C Z hr hlk => ?_)
  refine h_iload_n C dX9_isSeed_0 0 rfl rfl ?_
  refine h_i2l C dX9_isSeed_1 ⟨by omega, by omega⟩ ?_
  refine h_lconst C 0 dX9_isSeed_2 (by decide) ?_
  refine h_ldc2 C 2000000000 wd_1986 (by decide) dX9_isSeed_3 ?_
  refine h_callS (As := [.long (hpJ a0), .long (hpJ 0), .long (hpJ 2000000000)]) (rest := []) C Z yyX9_in rfl wd_1401 (tgX9_in l D cy z _ a0 ⟨by omega, by omega⟩ 0 ⟨by decide, by decide⟩ 2000000000 ⟨by decide, by decide⟩ hI) rfl rfl ⟨rfl, rfl, Nat.le_of_ble_eq_true rfl, Nat.le_of_ble_eq_true rfl⟩ ⟨Nat.le_of_ble_eq_true rfl, Nat.le_of_ble_eq_true rfl⟩ (Nat.le_of_ble_eq_true rfl) dX9_isSeed_6 (fun r1 τ1 hp1 => ?_)
  obtain ⟨⟨x1, rfl, ⟨hx1a, hx1b⟩, hx1⟩, rfl⟩ := hp1
  show hpV _ _ _ _ _ _ _ _ _ _ _ _ _ _ _ _ _ _ _ _ _ (_ :: _)
  refine h_zreturn C (by omega) hr hlk dX9_isSeed_9 ?_
  exact ⟨⟨_, rfl, ⟨by omega, by omega⟩⟩, rfl⟩
abbrev rgX9_drawn : Room := { frames := 5, cells := 0, slots := 0, locals := 115 }
abbrev pgX9_drawn (z : Nat) (σ : hpMem) (a0 : Int) (a1 : Int) : Option Value → hpMem → Prop := fun r τ => (∃ x : Int, r = some (.int (hpI x)) ∧ (hpR x)) ∧ hpInv τ ∧ (∀ j i : Nat, (j < 195 ∨ j = 198 ∨ 213 ≤ j) → τ j i = σ j i)
set_option maxHeartbeats 4000000 in
set_option maxRecDepth 20000 in
theorem tgX9_drawn (l : Launch) (D : va_G) (cy : Nat → ClassId) (z : Nat) (σ : hpMem) (a0 : Int) (ha0 : hpR a0) (a1 : Int) (ha1 : hpR a1) (hI : hpInv σ) : hpM l D cy z yX9_drawn cX9_drawn 3 (some .int) rgX9_drawn [.ref (z + 195), .int (hpI a0), .int (hpI a1)] σ (pgX9_drawn z σ a0 a1) := by
  obtain ⟨ha01, ha02⟩ := ha0
  obtain ⟨ha11, ha12⟩ := ha1
  refine hp_met rfl (Nat.le_of_ble_eq_true rfl) (fun p e s m below meth c C Z hr hlk => ?_)
  have hF0 : ∀ j i : Nat, (j < 195 ∨ j = 198 ∨ 213 ≤ j) → σ j i = σ j i := fun j i _ => rfl
  refine h_aload_n C dX9_drawn_0 0 rfl rfl ?_
  refine h_callV (As := []) (rest := []) C Z yyX9_isMoor wd_1571 (tgX9_isMoor l D cy z _ hI) kd_195 rfl rfl ⟨rfl, rfl, Nat.le_of_ble_eq_true rfl, Nat.le_of_ble_eq_true rfl⟩ ⟨Nat.le_of_ble_eq_true rfl, Nat.le_of_ble_eq_true rfl⟩ (Nat.le_of_ble_eq_true rfl) dX9_drawn_1 (fun r1 τ1 hp1 => ?_)
  obtain ⟨⟨x1, rfl, ⟨hx1a, hx1b⟩, hx1⟩, rfl⟩ := hp1
  show hpV _ _ _ _ _ _ _ _ _ _ _ _ _ _ _ _ _ _ _ _ _ (_ :: _)
  refine h_if_eq (tgt := 24) C dX9_drawn_4 (by decide) ⟨by omega, by omega⟩ (fun h2 => ?_) (fun h2 => ?_)
  · refine h_bipush C dX9_drawn_24 (by decide) ?_
    refine h_ireturn C hr hlk dX9_drawn_26 ?_
    exact ⟨⟨_, rfl, ⟨by decide, by decide⟩⟩, hI, hF0⟩
  · refine h_iload_n C dX9_drawn_7 1 rfl rfl ?_
    refine h_callS (As := [.int (hpI a0)]) (rest := []) C Z yyX9_isSeed rfl wd_1983 (tgX9_isSeed l D cy z _ a0 ⟨by omega, by omega⟩ hI) rfl rfl ⟨rfl, rfl, Nat.le_of_ble_eq_true rfl, Nat.le_of_ble_eq_true rfl⟩ ⟨Nat.le_of_ble_eq_true rfl, Nat.le_of_ble_eq_true rfl⟩ (Nat.le_of_ble_eq_true rfl) dX9_drawn_8 (fun r3 τ3 hp3 => ?_)
    obtain ⟨⟨x3, rfl, ⟨hx3a, hx3b⟩⟩, rfl⟩ := hp3
    show hpV _ _ _ _ _ _ _ _ _ _ _ _ _ _ _ _ _ _ _ _ _ (_ :: _)
    refine h_if_eq (tgt := 24) C dX9_drawn_11 (by decide) ⟨by omega, by omega⟩ (fun h4 => ?_) (fun h4 => ?_)
    · refine h_bipush C dX9_drawn_24 (by decide) ?_
      refine h_ireturn C hr hlk dX9_drawn_26 ?_
      exact ⟨⟨_, rfl, ⟨by decide, by decide⟩⟩, hI, hF0⟩
    · refine h_iload_n C dX9_drawn_14 2 rfl rfl ?_
      refine h_i2l C dX9_drawn_15 ⟨by omega, by omega⟩ ?_
      refine h_lconst C 0 dX9_drawn_16 (by decide) ?_
      refine h_lconst C 1 dX9_drawn_17 (by decide) ?_
      refine h_callS (As := [.long (hpJ a1), .long (hpJ 0), .long (hpJ 1)]) (rest := []) C Z yyX9_in rfl wd_1401 (tgX9_in l D cy z _ a1 ⟨by omega, by omega⟩ 0 ⟨by decide, by decide⟩ 1 ⟨by decide, by decide⟩ hI) rfl rfl ⟨rfl, rfl, Nat.le_of_ble_eq_true rfl, Nat.le_of_ble_eq_true rfl⟩ ⟨Nat.le_of_ble_eq_true rfl, Nat.le_of_ble_eq_true rfl⟩ (Nat.le_of_ble_eq_true rfl) dX9_drawn_18 (fun r5 τ5 hp5 => ?_)
      obtain ⟨⟨x5, rfl, ⟨hx5a, hx5b⟩, hx5⟩, rfl⟩ := hp5
      show hpV _ _ _ _ _ _ _ _ _ _ _ _ _ _ _ _ _ _ _ _ _ (_ :: _)
      refine h_if_ne (tgt := 27) C dX9_drawn_21 (by decide) ⟨by omega, by omega⟩ (fun h6 => ?_) (fun h6 => ?_)
      · refine h_aload_n C dX9_drawn_27 0 rfl rfl ?_
        refine h_iload_n C dX9_drawn_28 1 rfl rfl ?_
        refine h_i2l C dX9_drawn_29 ⟨by omega, by omega⟩ ?_
        refine h_callV (As := [.long (hpJ a0)]) (rest := []) C Z yyX9_goDrawn wd_1987 (tgX9_goDrawn l D cy z _ a0 ⟨by omega, by omega⟩ hI) kd_195 rfl rfl ⟨rfl, rfl, Nat.le_of_ble_eq_true rfl, Nat.le_of_ble_eq_true rfl⟩ ⟨Nat.le_of_ble_eq_true rfl, Nat.le_of_ble_eq_true rfl⟩ (Nat.le_of_ble_eq_true rfl) dX9_drawn_30 (fun r7 τ7 hp7 => ?_)
        obtain ⟨rfl, hI7, hG7⟩ := hp7
        have hF7 : ∀ j i : Nat, (j < 195 ∨ j = 198 ∨ 213 ≤ j) → τ7 j i = σ j i := fun j i h_0 => (hG7 j i (by omega)).trans (hF0 j i h_0)
        show hpV _ _ _ _ _ _ _ _ _ _ _ _ _ _ _ _ _ _ _ _ _ []
        refine h_iload_n C dX9_drawn_33 2 rfl rfl ?_
        refine h_if_ne (tgt := 44) C dX9_drawn_34 (by decide) ⟨by omega, by omega⟩ (fun h8 => ?_) (fun h8 => ?_)
        · refine h_aload_n C dX9_drawn_44 0 rfl rfl ?_
          refine h_callV (As := []) (rest := []) C Z yyX9_lastMany wd_1804 (tgX9_lastMany l D cy z _ hI7) kd_195 rfl rfl ⟨rfl, rfl, Nat.le_of_ble_eq_true rfl, Nat.le_of_ble_eq_true rfl⟩ ⟨Nat.le_of_ble_eq_true rfl, Nat.le_of_ble_eq_true rfl⟩ (Nat.le_of_ble_eq_true rfl) dX9_drawn_45 (fun r9 τ9 hp9 => ?_)
          obtain ⟨⟨x9, rfl, ⟨hx9a, hx9b⟩, hx9⟩, rfl⟩ := hp9
          show hpV _ _ _ _ _ _ _ _ _ _ _ _ _ _ _ _ _ _ _ _ _ (_ :: _)
          refine h_ireturn C hr hlk dX9_drawn_48 ?_
          exact ⟨⟨_, rfl, ⟨by omega, by omega⟩⟩, hI7, hF7⟩
        · refine h_aload_n C dX9_drawn_37 0 rfl rfl ?_
          refine h_get C O9 21 kd_195 (by decide) wd_1277 dX9_drawn_38 (hp_fvI (by rw [kd_195]; rfl) rfl) ?_
          obtain ⟨hr10a, hr10b⟩ := hI7.b (bf_9_21 kd_195)
          generalize hg10 : τ7 195 21 = r10 at hr10a hr10b ⊢
          refine h_goto (tgt := 48) C dX9_drawn_41 (by decide) ?_
          refine h_ireturn C hr hlk dX9_drawn_48 ?_
          exact ⟨⟨_, rfl, ⟨by omega, by omega⟩⟩, hI7, hF7⟩
      · refine h_bipush C dX9_drawn_24 (by decide) ?_
        refine h_ireturn C hr hlk dX9_drawn_26 ?_
        exact ⟨⟨_, rfl, ⟨by decide, by decide⟩⟩, hI, hF0⟩
abbrev rgX9_luck : Room := { frames := 5, cells := 0, slots := 0, locals := 115 }
abbrev pgX9_luck (z : Nat) (σ : hpMem) (a0 : Int) (a1 : Int) (a2 : Int) : Option Value → hpMem → Prop := fun r τ => (∃ x : Int, r = some (.int (hpI x)) ∧ (hpR x)) ∧ hpInv τ ∧ (∀ j i : Nat, (j < 195 ∨ j = 198 ∨ 213 ≤ j) → τ j i = σ j i)
set_option maxHeartbeats 4000000 in
set_option maxRecDepth 20000 in
theorem tgX9_luck (l : Launch) (D : va_G) (cy : Nat → ClassId) (z : Nat) (σ : hpMem) (a0 : Int) (ha0 : hpR a0) (a1 : Int) (ha1 : hpR a1) (a2 : Int) (ha2 : hpR a2) (hI : hpInv σ) : hpM l D cy z yX9_luck cX9_luck 6 (some .int) rgX9_luck [.ref (z + 195), .int (hpI a0), .int (hpI a1), .int (hpI a2)] σ (pgX9_luck z σ a0 a1 a2) := by
  obtain ⟨ha01, ha02⟩ := ha0
  obtain ⟨ha11, ha12⟩ := ha1
  obtain ⟨ha21, ha22⟩ := ha2
  refine hp_met rfl (Nat.le_of_ble_eq_true rfl) (fun p e s m below meth c C Z hr hlk => ?_)
  have hF0 : ∀ j i : Nat, (j < 195 ∨ j = 198 ∨ 213 ≤ j) → σ j i = σ j i := fun j i _ => rfl
  refine h_aload_n C dX9_luck_0 0 rfl rfl ?_
  refine h_callV (As := []) (rest := []) C Z yyX9_isMoor wd_1571 (tgX9_isMoor l D cy z _ hI) kd_195 rfl rfl ⟨rfl, rfl, Nat.le_of_ble_eq_true rfl, Nat.le_of_ble_eq_true rfl⟩ ⟨Nat.le_of_ble_eq_true rfl, Nat.le_of_ble_eq_true rfl⟩ (Nat.le_of_ble_eq_true rfl) dX9_luck_1 (fun r1 τ1 hp1 => ?_)
  obtain ⟨⟨x1, rfl, ⟨hx1a, hx1b⟩, hx1⟩, rfl⟩ := hp1
  show hpV _ _ _ _ _ _ _ _ _ _ _ _ _ _ _ _ _ _ _ _ _ (_ :: _)
  refine h_if_eq (tgt := 38) C dX9_luck_4 (by decide) ⟨by omega, by omega⟩ (fun h2 => ?_) (fun h2 => ?_)
  · refine h_bipush C dX9_luck_38 (by decide) ?_
    refine h_ireturn C hr hlk dX9_luck_40 ?_
    exact ⟨⟨_, rfl, ⟨by decide, by decide⟩⟩, hI, hF0⟩
  · refine h_iload_n C dX9_luck_7 1 rfl rfl ?_
    refine h_callS (As := [.int (hpI a0)]) (rest := []) C Z yyX9_isSeed rfl wd_1983 (tgX9_isSeed l D cy z _ a0 ⟨by omega, by omega⟩ hI) rfl rfl ⟨rfl, rfl, Nat.le_of_ble_eq_true rfl, Nat.le_of_ble_eq_true rfl⟩ ⟨Nat.le_of_ble_eq_true rfl, Nat.le_of_ble_eq_true rfl⟩ (Nat.le_of_ble_eq_true rfl) dX9_luck_8 (fun r3 τ3 hp3 => ?_)
    obtain ⟨⟨x3, rfl, ⟨hx3a, hx3b⟩⟩, rfl⟩ := hp3
    show hpV _ _ _ _ _ _ _ _ _ _ _ _ _ _ _ _ _ _ _ _ _ (_ :: _)
    refine h_if_eq (tgt := 38) C dX9_luck_11 (by decide) ⟨by omega, by omega⟩ (fun h4 => ?_) (fun h4 => ?_)
    · refine h_bipush C dX9_luck_38 (by decide) ?_
      refine h_ireturn C hr hlk dX9_luck_40 ?_
      exact ⟨⟨_, rfl, ⟨by decide, by decide⟩⟩, hI, hF0⟩
    · refine h_iload_n C dX9_luck_14 2 rfl rfl ?_
      refine h_i2l C dX9_luck_15 ⟨by omega, by omega⟩ ?_
      refine h_lconst C 1 dX9_luck_16 (by decide) ?_
      refine h_ldc2 C 20 wd_1962 (by decide) dX9_luck_17 ?_
      refine h_callS (As := [.long (hpJ a1), .long (hpJ 1), .long (hpJ 20)]) (rest := []) C Z yyX9_in rfl wd_1401 (tgX9_in l D cy z _ a1 ⟨by omega, by omega⟩ 1 ⟨by decide, by decide⟩ 20 ⟨by decide, by decide⟩ hI) rfl rfl ⟨rfl, rfl, Nat.le_of_ble_eq_true rfl, Nat.le_of_ble_eq_true rfl⟩ ⟨Nat.le_of_ble_eq_true rfl, Nat.le_of_ble_eq_true rfl⟩ (Nat.le_of_ble_eq_true rfl) dX9_luck_20 (fun r5 τ5 hp5 => ?_)
      obtain ⟨⟨x5, rfl, ⟨hx5a, hx5b⟩, hx5⟩, rfl⟩ := hp5
      show hpV _ _ _ _ _ _ _ _ _ _ _ _ _ _ _ _ _ _ _ _ _ (_ :: _)
      refine h_if_eq (tgt := 38) C dX9_luck_23 (by decide) ⟨by omega, by omega⟩ (fun h6 => ?_) (fun h6 => ?_)
      · refine h_bipush C dX9_luck_38 (by decide) ?_
        refine h_ireturn C hr hlk dX9_luck_40 ?_
        exact ⟨⟨_, rfl, ⟨by decide, by decide⟩⟩, hI, hF0⟩
      · refine h_iload_n C dX9_luck_26 3 rfl rfl ?_
        refine h_i2l C dX9_luck_27 ⟨by omega, by omega⟩ ?_
        refine h_lconst C 0 dX9_luck_28 (by decide) ?_
        refine h_ldc2 C 700 wd_1595 (by decide) dX9_luck_29 ?_
        refine h_callS (As := [.long (hpJ a2), .long (hpJ 0), .long (hpJ 700)]) (rest := []) C Z yyX9_in rfl wd_1401 (tgX9_in l D cy z _ a2 ⟨by omega, by omega⟩ 0 ⟨by decide, by decide⟩ 700 ⟨by decide, by decide⟩ hI) rfl rfl ⟨rfl, rfl, Nat.le_of_ble_eq_true rfl, Nat.le_of_ble_eq_true rfl⟩ ⟨Nat.le_of_ble_eq_true rfl, Nat.le_of_ble_eq_true rfl⟩ (Nat.le_of_ble_eq_true rfl) dX9_luck_32 (fun r7 τ7 hp7 => ?_)
        obtain ⟨⟨x7, rfl, ⟨hx7a, hx7b⟩, hx7⟩, rfl⟩ := hp7
        show hpV _ _ _ _ _ _ _ _ _ _ _ _ _ _ _ _ _ _ _ _ _ (_ :: _)
        refine h_if_ne (tgt := 41) C dX9_luck_35 (by decide) ⟨by omega, by omega⟩ (fun h8 => ?_) (fun h8 => ?_)
        · refine h_iconst C dX9_luck_41 ?_
          refine h_istore (lv' := [(4, .int (hpI 0)), (0, .ref (z + 195)), (1, .int (hpI a0)), (2, .int (hpI a1)), (3, .int (hpI a2))]) C dX9_luck_42 (by decide) rfl ?_
          refine h_iconst C dX9_luck_44 ?_
          refine h_istore (lv' := [(5, .int (hpI 0)), (4, .int (hpI 0)), (0, .ref (z + 195)), (1, .int (hpI a0)), (2, .int (hpI a1)), (3, .int (hpI a2))]) C dX9_luck_45 (by decide) rfl ?_
          have L9 : ∀ (n9 : Nat) (τ9 : hpMem) (w9_4 : Int) (w9_5 : Int), -2147483648 ≤ w9_4 → w9_4 ≤ 2147483647 → 0 ≤ w9_5 → w9_5 ≤ 2147483647 → hpInv τ9 → (∀ j i : Nat, (j < 195 ∨ j = 198 ∨ 213 ≤ j) → τ9 j i = σ j i) → (4294967296 - w9_5) < (n9 : Int) → hpF p l e rgX9_luck s m [.ref (z + 195), .int (hpI a0), .int (hpI a1), .int (hpI a2)] below meth c 6 D cy z (pgX9_luck z σ a0 a1 a2) τ9 47 [(0, .ref (z + 195)), (1, .int (hpI a0)), (2, .int (hpI a1)), (3, .int (hpI a2)), (4, .int (hpI w9_4)), (5, .int (hpI w9_5))] [] := by
            intro n9
            induction n9 with
            | zero => intro τ9 w9_4 w9_5 hv9_0 hv9_1 hv9_2 hv9_3 hI9 hF9 hm9; exfalso; omega
            | succ n9 ih9 =>
              intro τ9 w9_4 w9_5 hv9_0 hv9_1 hv9_2 hv9_3 hI9 hF9 hm9
              refine h_iload C dX9_luck_47 5 rfl ?_
              refine h_iload_n C dX9_luck_49 2 rfl rfl ?_
              refine h_icmp_ge (tgt := 87) C dX9_luck_50 (by decide) ⟨by omega, by omega⟩ ⟨by omega, by omega⟩ (fun h10 => ?_) (fun h10 => ?_)
              · refine h_iload C dX9_luck_87 4 rfl ?_
                refine h_ireturn C hr hlk dX9_luck_89 ?_
                exact ⟨⟨_, rfl, ⟨by omega, by omega⟩⟩, hI9, hF9⟩
              · refine h_aload_n C dX9_luck_53 0 rfl rfl ?_
                refine h_iload_n C dX9_luck_54 1 rfl rfl ?_
                refine h_i2l C dX9_luck_55 ⟨by omega, by omega⟩ ?_
                refine h_iload C dX9_luck_56 5 rfl ?_
                refine h_i2l C dX9_luck_58 ⟨by omega, by omega⟩ ?_
                refine h_ladd C dX9_luck_59 rfl ?_
                refine h_callV (As := [.long (hpJ (a0 + w9_5))]) (rest := []) C Z yyX9_goDrawn wd_1987 (tgX9_goDrawn l D cy z _ (a0 + w9_5) ⟨by omega, by omega⟩ hI9) kd_195 rfl rfl ⟨rfl, rfl, Nat.le_of_ble_eq_true rfl, Nat.le_of_ble_eq_true rfl⟩ ⟨Nat.le_of_ble_eq_true rfl, Nat.le_of_ble_eq_true rfl⟩ (Nat.le_of_ble_eq_true rfl) dX9_luck_60 (fun r11 τ11 hp11 => ?_)
                obtain ⟨rfl, hI11, hG11⟩ := hp11
                have hF11 : ∀ j i : Nat, (j < 195 ∨ j = 198 ∨ 213 ≤ j) → τ11 j i = σ j i := fun j i h_0 => (hG11 j i (by omega)).trans (hF9 j i h_0)
                show hpV _ _ _ _ _ _ _ _ _ _ _ _ _ _ _ _ _ _ _ _ _ []
                refine h_iload C dX9_luck_63 4 rfl ?_
                refine h_aload_n C dX9_luck_65 0 rfl rfl ?_
                refine h_callV (As := []) (rest := [.int (hpI w9_4)]) C Z yyX9_lastMany wd_1804 (tgX9_lastMany l D cy z _ hI11) kd_195 rfl rfl ⟨rfl, rfl, Nat.le_of_ble_eq_true rfl, Nat.le_of_ble_eq_true rfl⟩ ⟨Nat.le_of_ble_eq_true rfl, Nat.le_of_ble_eq_true rfl⟩ (Nat.le_of_ble_eq_true rfl) dX9_luck_66 (fun r12 τ12 hp12 => ?_)
                obtain ⟨⟨x12, rfl, ⟨hx12a, hx12b⟩, hx12⟩, rfl⟩ := hp12
                show hpV _ _ _ _ _ _ _ _ _ _ _ _ _ _ _ _ _ _ _ _ _ (_ :: _)
                refine h_iload_n C dX9_luck_69 3 rfl rfl ?_
                refine h_icmp_lt (tgt := 77) C dX9_luck_70 (by decide) ⟨by omega, by omega⟩ ⟨by omega, by omega⟩ (fun h13 => ?_) (fun h13 => ?_)
                · refine h_iconst C dX9_luck_77 ?_
                  refine h_iadd C dX9_luck_78 rfl ?_
                  refine h_istore (lv' := [(4, .int (hpI (w9_4 + 0))), (0, .ref (z + 195)), (1, .int (hpI a0)), (2, .int (hpI a1)), (3, .int (hpI a2)), (5, .int (hpI w9_5))]) C dX9_luck_79 (by decide) rfl ?_
                  refine h_iinc (lv' := [(5, .int (hpI (w9_5 + 1))), (4, .int (hpI (w9_4 + 0))), (0, .ref (z + 195)), (1, .int (hpI a0)), (2, .int (hpI a1)), (3, .int (hpI a2))]) C dX9_luck_81 5 rfl rfl (by decide) rfl ?_
                  refine h_goto (tgt := 47) C dX9_luck_84 (by decide) ?_
                  exact hp_sub [2, 3, 4, 5, 1, 0] rfl (ih9 _ (w9_4 + 0) (w9_5 + 1) (by omega) (by omega) (by omega) (by omega) hI11 hF11 (by omega))
                · refine h_iconst C dX9_luck_73 ?_
                  refine h_goto (tgt := 78) C dX9_luck_74 (by decide) ?_
                  refine h_iadd C dX9_luck_78 rfl ?_
                  refine hp_anyI (fun r14 hr14 => ?_)
                  obtain ⟨hr14a, hr14b⟩ := hr14
                  refine h_istore (lv' := [(4, .int (hpI r14)), (0, .ref (z + 195)), (1, .int (hpI a0)), (2, .int (hpI a1)), (3, .int (hpI a2)), (5, .int (hpI w9_5))]) C dX9_luck_79 (by decide) rfl ?_
                  refine h_iinc (lv' := [(5, .int (hpI (w9_5 + 1))), (4, .int (hpI r14)), (0, .ref (z + 195)), (1, .int (hpI a0)), (2, .int (hpI a1)), (3, .int (hpI a2))]) C dX9_luck_81 5 rfl rfl (by decide) rfl ?_
                  refine h_goto (tgt := 47) C dX9_luck_84 (by decide) ?_
                  exact hp_sub [2, 3, 4, 5, 1, 0] rfl (ih9 _ r14 (w9_5 + 1) (by omega) (by omega) (by omega) (by omega) hI11 hF11 (by omega))
          exact hp_sub [2, 3, 4, 5, 1, 0] rfl (L9 8589934592 _ 0 0 (by omega) (by omega) (by omega) (by omega) hI hF0 (by omega))
        · refine h_bipush C dX9_luck_38 (by decide) ?_
          refine h_ireturn C hr hlk dX9_luck_40 ?_
          exact ⟨⟨_, rfl, ⟨by decide, by decide⟩⟩, hI, hF0⟩
abbrev rgX9_rate : Room := { frames := 2, cells := 0, slots := 0, locals := 46 }
abbrev pgX9_rate (z : Nat) (σ : hpMem) (a0 : Int) (a1 : Int) : Option Value → hpMem → Prop := fun r τ => (∃ x : Int, r = some (.int (hpI x)) ∧ (hpR x)) ∧ hpInv τ ∧ (∀ j i : Nat, (j < 195 ∨ j = 198 ∨ 213 ≤ j) → τ j i = σ j i)
set_option maxHeartbeats 4000000 in
set_option maxRecDepth 20000 in
theorem tgX9_rate (l : Launch) (D : va_G) (cy : Nat → ClassId) (z : Nat) (σ : hpMem) (a0 : Int) (ha0 : hpR a0) (a1 : Int) (ha1 : hpR a1) (hI : hpInv σ) : hpM l D cy z yX9_rate cX9_rate 4 (some .int) rgX9_rate [.ref (z + 195), .int (hpI a0), .int (hpI a1)] σ (pgX9_rate z σ a0 a1) := by
  obtain ⟨ha01, ha02⟩ := ha0
  obtain ⟨ha11, ha12⟩ := ha1
  refine hp_met rfl (Nat.le_of_ble_eq_true rfl) (fun p e s m below meth c C Z hr hlk => ?_)
  have hF0 : ∀ j i : Nat, (j < 195 ∨ j = 198 ∨ 213 ≤ j) → σ j i = σ j i := fun j i _ => rfl
  refine h_aload_n C dX9_rate_0 0 rfl rfl ?_
  refine h_iload_n C dX9_rate_1 1 rfl rfl ?_
  refine h_callV (As := [.int (hpI a0)]) (rest := []) C Z yyX9_isHeap wd_1492 (tgX9_isHeap l D cy z _ a0 ⟨by omega, by omega⟩ hI) kd_195 rfl rfl ⟨rfl, rfl, Nat.le_of_ble_eq_true rfl, Nat.le_of_ble_eq_true rfl⟩ ⟨Nat.le_of_ble_eq_true rfl, Nat.le_of_ble_eq_true rfl⟩ (Nat.le_of_ble_eq_true rfl) dX9_rate_2 (fun r1 τ1 hp1 => ?_)
  obtain ⟨⟨x1, rfl, ⟨hx1a, hx1b⟩, hx1⟩, rfl⟩ := hp1
  show hpV _ _ _ _ _ _ _ _ _ _ _ _ _ _ _ _ _ _ _ _ _ (_ :: _)
  refine h_if_eq (tgt := 20) C dX9_rate_5 (by decide) ⟨by omega, by omega⟩ (fun h2 => ?_) (fun h2 => ?_)
  · refine h_bipush C dX9_rate_20 (by decide) ?_
    refine h_ireturn C hr hlk dX9_rate_22 ?_
    exact ⟨⟨_, rfl, ⟨by decide, by decide⟩⟩, hI, hF0⟩
  · refine h_iload_n C dX9_rate_8 2 rfl rfl ?_
    refine h_i2l C dX9_rate_9 ⟨by omega, by omega⟩ ?_
    refine h_lconst C 1 dX9_rate_10 (by decide) ?_
    refine h_ldc2 C 20 wd_1962 (by decide) dX9_rate_11 ?_
    refine h_callS (As := [.long (hpJ a1), .long (hpJ 1), .long (hpJ 20)]) (rest := []) C Z yyX9_in rfl wd_1401 (tgX9_in l D cy z _ a1 ⟨by omega, by omega⟩ 1 ⟨by decide, by decide⟩ 20 ⟨by decide, by decide⟩ hI) rfl rfl ⟨rfl, rfl, Nat.le_of_ble_eq_true rfl, Nat.le_of_ble_eq_true rfl⟩ ⟨Nat.le_of_ble_eq_true rfl, Nat.le_of_ble_eq_true rfl⟩ (Nat.le_of_ble_eq_true rfl) dX9_rate_14 (fun r3 τ3 hp3 => ?_)
    obtain ⟨⟨x3, rfl, ⟨hx3a, hx3b⟩, hx3⟩, rfl⟩ := hp3
    show hpV _ _ _ _ _ _ _ _ _ _ _ _ _ _ _ _ _ _ _ _ _ (_ :: _)
    refine h_if_ne (tgt := 23) C dX9_rate_17 (by decide) ⟨by omega, by omega⟩ (fun h4 => ?_) (fun h4 => ?_)
    · refine h_aload_n C dX9_rate_23 0 rfl rfl ?_
      refine h_get C O9 1 kd_195 (by decide) wd_1257 dX9_rate_24 fr_195_1 ?_
      refine h_iconst C dX9_rate_27 ?_
      refine h_iaload C dX9_rate_28 kd_196 5 rfl (by rw [ln_196]; decide) rfl ?_
      obtain ⟨hr5a, hr5b⟩ := hI.b ((bw_196 5).trans (show hpwb 5 = (0, 20) by decide))
      generalize hg5 : σ 196 5 = r5 at hr5a hr5b ⊢
      refine h_if_le (tgt := 35) C dX9_rate_29 (by decide) ⟨by omega, by omega⟩ (fun h6 => ?_) (fun h6 => ?_)
      · refine h_aload_n C dX9_rate_35 0 rfl rfl ?_
        refine h_get C O9 1 kd_195 (by decide) wd_1257 dX9_rate_36 fr_195_1 ?_
        refine h_bipush C dX9_rate_39 (by decide) ?_
        refine h_iload_n C dX9_rate_41 1 rfl rfl ?_
        refine h_iadd C dX9_rate_42 rfl ?_
        refine h_iaload C dX9_rate_43 kd_196 (7 + a0).toNat (Int.toNat_of_nonneg (by omega)) (by rw [ln_196]; omega) rfl ?_
        obtain ⟨hr7a, hr7b⟩ := hpInv.r196 hI ((7 + a0).toNat) 7 14 (0) 20 (by omega) (by omega) (by decide)
        generalize hg7 : σ 196 ((7 + a0).toNat) = r7 at hr7a hr7b ⊢
        refine h_istore_n (lv' := [(3, .int (hpI r7)), (0, .ref (z + 195)), (1, .int (hpI a0)), (2, .int (hpI a1))]) C dX9_rate_44 rfl (by decide) rfl ?_
        refine h_aload_n C dX9_rate_45 1 rfl rfl ?_
        refine h_get C O9 1 kd_195 (by decide) wd_1257 dX9_rate_46 fr_195_1 ?_
        refine h_bipush C dX9_rate_49 (by decide) ?_
        refine h_iload_n C dX9_rate_51 2 rfl rfl ?_
        refine h_iadd C dX9_rate_52 rfl ?_
        refine h_iload_n C dX9_rate_53 3 rfl rfl ?_
        refine h_iastore C dX9_rate_54 kd_196 (7 + a0).toNat (Int.toNat_of_nonneg (by omega)) (by rw [ln_196]; omega) ?_
        obtain ⟨τ8, e8⟩ : ∃ μ : hpMem, μ = hpw σ 196 ((7 + a0).toNat) a1 := ⟨_, rfl⟩
        rw [← e8]
        have hI8 : hpInv τ8 := by rw [e8]; exact hpInv.w196 hI ((7 + a0).toNat) 7 14 (0) 20 (by omega) (by omega) (by decide) (by omega) (by omega)
        have hF8 : ∀ j i : Nat, (j < 195 ∨ j = 198 ∨ 213 ≤ j) → τ8 j i = σ j i := fun j i h_0 => by rw [e8]; exact (hpw_fr (by omega)).trans (hF0 j i h_0)
        have hg9 : τ8 196 5 = r5 := by rw [e8]; exact (hpw_fr (Or.inr (by omega))).trans hg5
        refine h_iload_n C dX9_rate_55 0 rfl rfl ?_
        refine h_ireturn C hr hlk dX9_rate_56 ?_
        exact ⟨⟨_, rfl, ⟨by omega, by omega⟩⟩, hI8, hF8⟩
      · refine h_bipush C dX9_rate_32 (by decide) ?_
        refine h_ireturn C hr hlk dX9_rate_34 ?_
        exact ⟨⟨_, rfl, ⟨by decide, by decide⟩⟩, hI, hF0⟩
    · refine h_bipush C dX9_rate_20 (by decide) ?_
      refine h_ireturn C hr hlk dX9_rate_22 ?_
      exact ⟨⟨_, rfl, ⟨by decide, by decide⟩⟩, hI, hF0⟩
abbrev rgX9_clipped : Room := { frames := 0, cells := 0, slots := 0, locals := 0 }
abbrev pgX9_clipped (z : Nat) (σ : hpMem) (a0 : Int) (a1 : Int) : Option Value → hpMem → Prop := fun r τ => (∃ x : Int, r = some (.long (hpJ x)) ∧ (hpRL x)) ∧ σ = τ
set_option maxHeartbeats 4000000 in
set_option maxRecDepth 20000 in
theorem tgX9_clipped (l : Launch) (D : va_G) (cy : Nat → ClassId) (z : Nat) (σ : hpMem) (a0 : Int) (ha0 : hpRL a0) (a1 : Int) (ha1 : hpR a1) (hI : hpInv σ) : hpM l D cy z yX9_clipped cX9_clipped 4 (some .long) rgX9_clipped [.long (hpJ a0), .int (hpI a1)] σ (pgX9_clipped z σ a0 a1) := by
  obtain ⟨ha01, ha02⟩ := ha0
  obtain ⟨ha11, ha12⟩ := ha1
  refine hp_met rfl (Nat.le_of_ble_eq_true rfl) (fun p e s m below meth c C Z hr hlk => ?_)
  refine h_bipush C dX9_clipped_0 (by decide) ?_
  refine h_bipush C dX9_clipped_2 (by decide) ?_
  refine h_iload_n C dX9_clipped_4 1 rfl rfl ?_
  refine h_ishl_any C dX9_clipped_5 (fun r1 hr1 => ?_)
  obtain ⟨hr1a, hr1b⟩ := hr1
  refine h_isub C dX9_clipped_6 rfl ?_
  refine hp_anyI (fun r2 hr2 => ?_)
  obtain ⟨hr2a, hr2b⟩ := hr2
  refine h_istore_n (lv' := [(3, .int (hpI r2)), (0, .long (hpJ a0)), (2, .int (hpI a1))]) C dX9_clipped_7 rfl (by decide) rfl ?_
  refine h_lload_n C dX9_clipped_8 1 rfl rfl ?_
  refine h_iload_n C dX9_clipped_9 0 rfl rfl ?_
  refine h_lshl_any C dX9_clipped_10 (fun r3 hr3 => ?_)
  obtain ⟨hr3a, hr3b⟩ := hr3
  refine h_iload_n C dX9_clipped_11 0 rfl rfl ?_
  refine h_lshr_any C dX9_clipped_12 (fun r4 hr4 => ?_)
  obtain ⟨hr4a, hr4b⟩ := hr4
  refine h_lreturn C hr hlk dX9_clipped_13 ?_
  exact ⟨⟨_, rfl, ⟨by omega, by omega⟩⟩, rfl⟩
abbrev rgX9_row : Room := { frames := 2, cells := 0, slots := 0, locals := 45 }
abbrev pgX9_row (z : Nat) (σ : hpMem) (a0 : Int) (a1 : Int) (a2 : Int) : Option Value → hpMem → Prop := fun r τ => (∃ x : Int, r = some (.int (hpI x)) ∧ (hpR x) ∧ (((a0 < 0 ∨ 3 < a0 ∨ a1 < 0 ∨ 3 < a1 ∨ 60 < a2) ∧ x = -2) ∨ ((0 ≤ a0 ∧ a0 ≤ 3 ∧ 0 ≤ a1 ∧ a1 ≤ 3 ∧ a2 ≤ 60) ∧ ((a2 < 0 ∧ x = -3) ∨ (0 ≤ a2 ∧ x = 0)))) ∧ hpInv τ ∧ (∀ j i : Nat, j ≠ 213 → j ≠ 214 → j ≠ 215 → τ j i = σ j i) ∧ (∀ s : Nat, s < 4 → (((s : Int) = a0 ∧ x = 0 ∧ τ 213 s = a2 ∧ τ 214 s = a1) ∨ (((s : Int) ≠ a0 ∨ x ≠ 0) ∧ τ 213 s = σ 213 s ∧ τ 214 s = σ 214 s))))
set_option maxHeartbeats 4000000 in
set_option maxRecDepth 20000 in
theorem tgX9_row (l : Launch) (D : va_G) (cy : Nat → ClassId) (z : Nat) (σ : hpMem) (a0 : Int) (ha0 : hpR a0) (a1 : Int) (ha1 : hpR a1) (a2 : Int) (ha2 : hpR a2) (hI : hpInv σ) : hpM l D cy z yX9_row cX9_row 5 (some .int) rgX9_row [.ref (z + 195), .int (hpI a0), .int (hpI a1), .int (hpI a2)] σ (pgX9_row z σ a0 a1 a2) := by
  obtain ⟨ha01, ha02⟩ := ha0
  obtain ⟨ha11, ha12⟩ := ha1
  obtain ⟨ha21, ha22⟩ := ha2
  refine hp_met rfl (Nat.le_of_ble_eq_true rfl) (fun p e s m below meth c C Z hr hlk => ?_)
  have hF0 : ∀ j i : Nat, j ≠ 213 → j ≠ 214 → j ≠ 215 → σ j i = σ j i := fun j i _ _ _ => rfl
  refine h_iload_n C dX9_row_0 1 rfl rfl ?_
  refine h_callS (As := [.int (hpI a0)]) (rest := []) C Z yyX9_isSlot rfl wd_1779 (tgX9_isSlot l D cy z _ a0 ⟨by omega, by omega⟩ hI) rfl rfl ⟨rfl, rfl, Nat.le_of_ble_eq_true rfl, Nat.le_of_ble_eq_true rfl⟩ ⟨Nat.le_of_ble_eq_true rfl, Nat.le_of_ble_eq_true rfl⟩ (Nat.le_of_ble_eq_true rfl) dX9_row_1 (fun r1 τ1 hp1 => ?_)
  obtain ⟨⟨x1, rfl, ⟨hx1a, hx1b⟩, hx1⟩, rfl⟩ := hp1
  show hpV _ _ _ _ _ _ _ _ _ _ _ _ _ _ _ _ _ _ _ _ _ (_ :: _)
  refine h_if_eq (tgt := 25) C dX9_row_4 (by decide) ⟨by omega, by omega⟩ (fun h2 => ?_) (fun h2 => ?_)
  · refine h_bipush C dX9_row_25 (by decide) ?_
    refine h_ireturn C hr hlk dX9_row_27 ?_
    exact ⟨_, rfl, ⟨by decide, by decide⟩, by omega, hI, hF0, fun s hs => Or.inr ⟨Or.inr (by decide), rfl, rfl⟩⟩
  · refine h_iload_n C dX9_row_7 2 rfl rfl ?_
    refine h_i2l C dX9_row_8 ⟨by omega, by omega⟩ ?_
    refine h_lconst C 0 dX9_row_9 (by decide) ?_
    refine h_ldc2 C 3 wd_1782 (by decide) dX9_row_10 ?_
    refine h_callS (As := [.long (hpJ a1), .long (hpJ 0), .long (hpJ 3)]) (rest := []) C Z yyX9_in rfl wd_1401 (tgX9_in l D cy z _ a1 ⟨by omega, by omega⟩ 0 ⟨by decide, by decide⟩ 3 ⟨by decide, by decide⟩ hI) rfl rfl ⟨rfl, rfl, Nat.le_of_ble_eq_true rfl, Nat.le_of_ble_eq_true rfl⟩ ⟨Nat.le_of_ble_eq_true rfl, Nat.le_of_ble_eq_true rfl⟩ (Nat.le_of_ble_eq_true rfl) dX9_row_13 (fun r3 τ3 hp3 => ?_)
    obtain ⟨⟨x3, rfl, ⟨hx3a, hx3b⟩, hx3⟩, rfl⟩ := hp3
    show hpV _ _ _ _ _ _ _ _ _ _ _ _ _ _ _ _ _ _ _ _ _ (_ :: _)
    refine h_if_eq (tgt := 25) C dX9_row_16 (by decide) ⟨by omega, by omega⟩ (fun h4 => ?_) (fun h4 => ?_)
    · refine h_bipush C dX9_row_25 (by decide) ?_
      refine h_ireturn C hr hlk dX9_row_27 ?_
      exact ⟨_, rfl, ⟨by decide, by decide⟩, by omega, hI, hF0, fun s hs => Or.inr ⟨Or.inr (by decide), rfl, rfl⟩⟩
    · refine h_iload_n C dX9_row_19 3 rfl rfl ?_
      refine h_bipush C dX9_row_20 (by decide) ?_
      refine h_icmp_le (tgt := 28) C dX9_row_22 (by decide) ⟨by omega, by omega⟩ ⟨by decide, by decide⟩ (fun h5 => ?_) (fun h5 => ?_)
      · refine h_iload_n C dX9_row_28 3 rfl rfl ?_
        refine h_if_ge (tgt := 35) C dX9_row_29 (by decide) ⟨by omega, by omega⟩ (fun h6 => ?_) (fun h6 => ?_)
        · refine h_aload_n C dX9_row_35 0 rfl rfl ?_
          refine h_get C O9 42 kd_195 (by decide) wd_1298 dX9_row_36 fr_195_42 ?_
          refine h_iload_n C dX9_row_39 1 rfl rfl ?_
          refine h_iload_n C dX9_row_40 3 rfl rfl ?_
          refine h_iastore C dX9_row_41 kd_213 (a0).toNat (Int.toNat_of_nonneg (by omega)) (by rw [ln_213]; omega) ?_
          obtain ⟨τ7, e7⟩ : ∃ μ : hpMem, μ = hpw σ 213 ((a0).toNat) a2 := ⟨_, rfl⟩
          rw [← e7]
          have hI7 : hpInv τ7 := by rw [e7]; exact hI.w (bo_213 _) (by omega) (by omega)
          have hF7 : ∀ j i : Nat, j ≠ 213 → j ≠ 214 → j ≠ 215 → τ7 j i = σ j i := fun j i h_0 h_1 h_2 => by rw [e7]; exact (hpw_fr (by omega)).trans (hF0 j i h_0 h_1 h_2)
          refine h_aload_n C dX9_row_42 0 rfl rfl ?_
          refine h_get C O9 43 kd_195 (by decide) wd_1299 dX9_row_43 fr_195_43 ?_
          refine h_iload_n C dX9_row_46 1 rfl rfl ?_
          refine h_iload_n C dX9_row_47 2 rfl rfl ?_
          refine h_iastore C dX9_row_48 kd_214 (a0).toNat (Int.toNat_of_nonneg (by omega)) (by rw [ln_214]; omega) ?_
          obtain ⟨τ8, e8⟩ : ∃ μ : hpMem, μ = hpw τ7 214 ((a0).toNat) a1 := ⟨_, rfl⟩
          rw [← e8]
          have hI8 : hpInv τ8 := by rw [e8]; exact hI7.w (bo_214 _) (by omega) (by omega)
          have hF8 : ∀ j i : Nat, j ≠ 213 → j ≠ 214 → j ≠ 215 → τ8 j i = σ j i := fun j i h_0 h_1 h_2 => by rw [e8]; exact (hpw_fr (by omega)).trans (hF7 j i h_0 h_1 h_2)
          refine h_iconst C dX9_row_49 ?_
          refine h_istore (lv' := [(4, .int (hpI 0)), (0, .ref (z + 195)), (1, .int (hpI a0)), (2, .int (hpI a1)), (3, .int (hpI a2))]) C dX9_row_50 (by decide) rfl ?_
          have L9 : ∀ (n9 : Nat) (τ9 : hpMem) (w9_4 : Int), 0 ≤ w9_4 → w9_4 ≤ 60 → hpInv τ9 → (∀ j i : Nat, j ≠ 213 → j ≠ 214 → j ≠ 215 → τ9 j i = σ j i) → (∀ q : Nat, τ9 213 q = τ8 213 q) → (∀ q : Nat, τ9 214 q = τ8 214 q) → (4294967296 - w9_4) < (n9 : Int) → hpF p l e rgX9_row s m [.ref (z + 195), .int (hpI a0), .int (hpI a1), .int (hpI a2)] below meth c 5 D cy z (pgX9_row z σ a0 a1 a2) τ9 52 [(0, .ref (z + 195)), (1, .int (hpI a0)), (2, .int (hpI a1)), (3, .int (hpI a2)), (4, .int (hpI w9_4))] [] := by
            intro n9
            induction n9 with
            | zero => intro τ9 w9_4 hv9_0 hv9_1 hI9 hF9 hM9_0 hM9_1 hm9; exfalso; omega
            | succ n9 ih9 =>
              intro τ9 w9_4 hv9_0 hv9_1 hI9 hF9 hM9_0 hM9_1 hm9
              refine h_iload C dX9_row_52 4 rfl ?_
              refine h_bipush C dX9_row_54 (by decide) ?_
              refine h_icmp_ge (tgt := 78) C dX9_row_56 (by decide) ⟨by omega, by omega⟩ ⟨by decide, by decide⟩ (fun h10 => ?_) (fun h10 => ?_)
              · refine h_iconst C dX9_row_78 ?_
                refine h_ireturn C hr hlk dX9_row_79 ?_
                exact ⟨_, rfl, ⟨by decide, by decide⟩, by omega, hI9, hF9, fun s hs => by rw [hM9_0, hM9_1, e8]; by_cases e : (s : Int) = a0; (exact Or.inl ⟨e, rfl, (by rw [hpw_fr (Or.inl (by decide)), e7, show s = (a0).toNat by omega]; exact hpw_eq), (by rw [show s = (a0).toNat by omega]; exact hpw_eq)⟩); (exact Or.inr ⟨Or.inl e, (by rw [hpw_fr (Or.inl (by decide)), e7]; exact hpw_fr (Or.inr (by omega))), (by rw [hpw_fr (Or.inr (by omega)), e7]; exact hpw_fr (Or.inl (by decide)))⟩)⟩
              · refine h_aload_n C dX9_row_59 0 rfl rfl ?_
                refine h_get C O9 44 kd_195 (by decide) wd_1300 dX9_row_60 fr_195_44 ?_
                refine h_bipush C dX9_row_63 (by decide) ?_
                refine h_iload_n C dX9_row_65 1 rfl rfl ?_
                refine h_imul C dX9_row_66 rfl ?_
                refine h_iload C dX9_row_67 4 rfl ?_
                refine h_iadd C dX9_row_69 rfl ?_
                refine h_lconst C 0 dX9_row_70 (by decide) ?_
                refine h_lastore C dX9_row_71 kd_215 ((60 * a0) + w9_4).toNat (Int.toNat_of_nonneg (by omega)) (by rw [ln_215]; omega) ?_
                obtain ⟨τ11, e11⟩ : ∃ μ : hpMem, μ = hpw τ9 215 (((60 * a0) + w9_4).toNat) 0 := ⟨_, rfl⟩
                rw [← e11]
                have hI11 : hpInv τ11 := by rw [e11]; exact hI9.w (bo_215 _) (by omega) (by omega)
                have hF11 : ∀ j i : Nat, j ≠ 213 → j ≠ 214 → j ≠ 215 → τ11 j i = σ j i := fun j i h_0 h_1 h_2 => by rw [e11]; exact (hpw_fr (by omega)).trans (hF9 j i h_0 h_1 h_2)
                refine h_iinc (lv' := [(4, .int (hpI (w9_4 + 1))), (0, .ref (z + 195)), (1, .int (hpI a0)), (2, .int (hpI a1)), (3, .int (hpI a2))]) C dX9_row_72 4 rfl rfl (by decide) rfl ?_
                refine h_goto (tgt := 52) C dX9_row_75 (by decide) ?_
                exact hp_sub [1, 2, 3, 4, 0] rfl (ih9 _ (w9_4 + 1) (by omega) (by omega) hI11 hF11 (fun q => by rw [e11, hpw_fr (Or.inl (by decide))]; exact hM9_0 q) (fun q => by rw [e11, hpw_fr (Or.inl (by decide))]; exact hM9_1 q) (by omega))
          exact hp_sub [1, 2, 3, 4, 0] rfl (L9 8589934592 _ 0 (by omega) (by omega) hI8 hF8 (fun q => rfl) (fun q => rfl) (by omega))
        · refine h_bipush C dX9_row_32 (by decide) ?_
          refine h_ireturn C hr hlk dX9_row_34 ?_
          exact ⟨_, rfl, ⟨by decide, by decide⟩, by omega, hI, hF0, fun s hs => Or.inr ⟨Or.inr (by decide), rfl, rfl⟩⟩
      · refine h_bipush C dX9_row_25 (by decide) ?_
        refine h_ireturn C hr hlk dX9_row_27 ?_
        exact ⟨_, rfl, ⟨by decide, by decide⟩, by omega, hI, hF0, fun s hs => Or.inr ⟨Or.inr (by decide), rfl, rfl⟩⟩
abbrev rgX9_write : Room := { frames := 2, cells := 0, slots := 0, locals := 45 }
abbrev pgX9_write (z : Nat) (σ : hpMem) (a0 : Int) (a1 : Int) (a2 : Int) : Option Value → hpMem → Prop := fun r τ => (∃ x : Int, r = some (.int (hpI x)) ∧ (hpR x) ∧ (((a0 < 0 ∨ 3 < a0) ∧ x = -2) ∨ ((0 ≤ a0 ∧ a0 ≤ 3) ∧ ((σ 213 a0.toNat = -1 ∧ x = -6) ∨ ((¬ σ 213 a0.toNat = -1) ∧ (((a1 < 0 ∨ σ 213 a0.toNat ≤ a1) ∧ x = -7) ∨ (0 ≤ a1 ∧ a1 < σ 213 a0.toNat ∧ x = 0))))))) ∧ hpInv τ ∧ (∀ j i : Nat, j ≠ 215 → τ j i = σ j i)
set_option maxHeartbeats 4000000 in
set_option maxRecDepth 20000 in
theorem tgX9_write (l : Launch) (D : va_G) (cy : Nat → ClassId) (z : Nat) (σ : hpMem) (a0 : Int) (ha0 : hpR a0) (a1 : Int) (ha1 : hpR a1) (a2 : Int) (ha2 : hpRL a2) (hI : hpInv σ) : hpM l D cy z yX9_write cX9_write 5 (some .int) rgX9_write [.ref (z + 195), .int (hpI a0), .int (hpI a1), .long (hpJ a2)] σ (pgX9_write z σ a0 a1 a2) := by
  obtain ⟨ha01, ha02⟩ := ha0
  obtain ⟨ha11, ha12⟩ := ha1
  obtain ⟨ha21, ha22⟩ := ha2
  refine hp_met rfl (Nat.le_of_ble_eq_true rfl) (fun p e s m below meth c C Z hr hlk => ?_)
  have hF0 : ∀ j i : Nat, j ≠ 215 → σ j i = σ j i := fun j i _ => rfl
  refine h_iload_n C dX9_write_0 1 rfl rfl ?_
  refine h_callS (As := [.int (hpI a0)]) (rest := []) C Z yyX9_isSlot rfl wd_1779 (tgX9_isSlot l D cy z _ a0 ⟨by omega, by omega⟩ hI) rfl rfl ⟨rfl, rfl, Nat.le_of_ble_eq_true rfl, Nat.le_of_ble_eq_true rfl⟩ ⟨Nat.le_of_ble_eq_true rfl, Nat.le_of_ble_eq_true rfl⟩ (Nat.le_of_ble_eq_true rfl) dX9_write_1 (fun r1 τ1 hp1 => ?_)
  obtain ⟨⟨x1, rfl, ⟨hx1a, hx1b⟩, hx1⟩, rfl⟩ := hp1
  show hpV _ _ _ _ _ _ _ _ _ _ _ _ _ _ _ _ _ _ _ _ _ (_ :: _)
  refine h_if_ne (tgt := 10) C dX9_write_4 (by decide) ⟨by omega, by omega⟩ (fun h2 => ?_) (fun h2 => ?_)
  · refine h_aload_n C dX9_write_10 0 rfl rfl ?_
    refine h_get C O9 42 kd_195 (by decide) wd_1298 dX9_write_11 fr_195_42 ?_
    refine h_iload_n C dX9_write_14 1 rfl rfl ?_
    refine h_iaload C dX9_write_15 kd_213 (a0).toNat (Int.toNat_of_nonneg (by omega)) (by rw [ln_213]; omega) rfl ?_
    obtain ⟨hr3a, hr3b⟩ := hI.b (bo_213 _)
    generalize hg3 : σ 213 ((a0).toNat) = r3 at hr3a hr3b ⊢
    refine h_iconst C dX9_write_16 ?_
    refine h_icmp_ne (tgt := 23) C dX9_write_17 (by decide) ⟨by omega, by omega⟩ ⟨by decide, by decide⟩ (fun h4 => ?_) (fun h4 => ?_)
    · refine h_iload_n C dX9_write_23 2 rfl rfl ?_
      refine h_i2l C dX9_write_24 ⟨by omega, by omega⟩ ?_
      refine h_lconst C 0 dX9_write_25 (by decide) ?_
      refine h_aload_n C dX9_write_26 0 rfl rfl ?_
      refine h_get C O9 42 kd_195 (by decide) wd_1298 dX9_write_27 fr_195_42 ?_
      refine h_iload_n C dX9_write_30 1 rfl rfl ?_
      refine h_iaload C dX9_write_31 kd_213 (a0).toNat (Int.toNat_of_nonneg (by omega)) (by rw [ln_213]; omega) rfl ?_
      rw [hg3]
      refine h_iconst C dX9_write_32 ?_
      refine h_isub C dX9_write_33 rfl ?_
      refine h_i2l C dX9_write_34 ⟨by omega, by omega⟩ ?_
      refine h_callS (As := [.long (hpJ a1), .long (hpJ 0), .long (hpJ (r3 - 1))]) (rest := []) C Z yyX9_in rfl wd_1401 (tgX9_in l D cy z _ a1 ⟨by omega, by omega⟩ 0 ⟨by decide, by decide⟩ (r3 - 1) ⟨by omega, by omega⟩ hI) rfl rfl ⟨rfl, rfl, Nat.le_of_ble_eq_true rfl, Nat.le_of_ble_eq_true rfl⟩ ⟨Nat.le_of_ble_eq_true rfl, Nat.le_of_ble_eq_true rfl⟩ (Nat.le_of_ble_eq_true rfl) dX9_write_35 (fun r5 τ5 hp5 => ?_)
      obtain ⟨⟨x5, rfl, ⟨hx5a, hx5b⟩, hx5⟩, rfl⟩ := hp5
      show hpV _ _ _ _ _ _ _ _ _ _ _ _ _ _ _ _ _ _ _ _ _ (_ :: _)
      refine h_if_ne (tgt := 44) C dX9_write_38 (by decide) ⟨by omega, by omega⟩ (fun h6 => ?_) (fun h6 => ?_)
      · refine h_aload_n C dX9_write_44 0 rfl rfl ?_
        refine h_get C O9 44 kd_195 (by decide) wd_1300 dX9_write_45 fr_195_44 ?_
        refine h_bipush C dX9_write_48 (by decide) ?_
        refine h_iload_n C dX9_write_50 1 rfl rfl ?_
        refine h_imul C dX9_write_51 rfl ?_
        refine h_iload_n C dX9_write_52 2 rfl rfl ?_
        refine h_iadd C dX9_write_53 rfl ?_
        refine h_lload_n C dX9_write_54 3 rfl rfl ?_
        refine h_aload_n C dX9_write_55 0 rfl rfl ?_
        refine h_get C O9 43 kd_195 (by decide) wd_1299 dX9_write_56 fr_195_43 ?_
        refine h_iload_n C dX9_write_59 1 rfl rfl ?_
        refine h_iaload C dX9_write_60 kd_214 (a0).toNat (Int.toNat_of_nonneg (by omega)) (by rw [ln_214]; omega) rfl ?_
        obtain ⟨hr7a, hr7b⟩ := hI.b (bo_214 _)
        generalize hg7 : σ 214 ((a0).toNat) = r7 at hr7a hr7b ⊢
        refine h_callS (As := [.long (hpJ a2), .int (hpI r7)]) (rest := [.int (hpI ((60 * a0) + a1)), .ref (z + 215)]) C Z yyX9_clipped rfl wd_2017 (tgX9_clipped l D cy z _ a2 ⟨by omega, by omega⟩ r7 ⟨by omega, by omega⟩ hI) rfl rfl ⟨rfl, rfl, Nat.le_of_ble_eq_true rfl, Nat.le_of_ble_eq_true rfl⟩ ⟨Nat.le_of_ble_eq_true rfl, Nat.le_of_ble_eq_true rfl⟩ (Nat.le_of_ble_eq_true rfl) dX9_write_61 (fun r8 τ8 hp8 => ?_)
        obtain ⟨⟨x8, rfl, ⟨hx8a, hx8b⟩⟩, rfl⟩ := hp8
        show hpV _ _ _ _ _ _ _ _ _ _ _ _ _ _ _ _ _ _ _ _ _ (_ :: _)
        refine h_lastore C dX9_write_64 kd_215 ((60 * a0) + a1).toNat (Int.toNat_of_nonneg (by omega)) (by rw [ln_215]; omega) ?_
        obtain ⟨τ9, e9⟩ : ∃ μ : hpMem, μ = hpw σ 215 (((60 * a0) + a1).toNat) x8 := ⟨_, rfl⟩
        rw [← e9]
        have hI9 : hpInv τ9 := by rw [e9]; exact hI.w (bo_215 _) (by omega) (by omega)
        have hF9 : ∀ j i : Nat, j ≠ 215 → τ9 j i = σ j i := fun j i h_0 => by rw [e9]; exact (hpw_fr (by omega)).trans (hF0 j i h_0)
        have hg10 : τ9 213 ((a0).toNat) = r3 := by rw [e9]; exact (hpw_fr (Or.inl (by omega))).trans hg3
        have hg11 : τ9 214 ((a0).toNat) = r7 := by rw [e9]; exact (hpw_fr (Or.inl (by omega))).trans hg7
        refine h_iconst C dX9_write_65 ?_
        refine h_ireturn C hr hlk dX9_write_66 ?_
        exact ⟨⟨_, rfl, ⟨by decide, by decide⟩, by omega⟩, hI9, hF9⟩
      · refine h_bipush C dX9_write_41 (by decide) ?_
        refine h_ireturn C hr hlk dX9_write_43 ?_
        exact ⟨⟨_, rfl, ⟨by decide, by decide⟩, by omega⟩, hI, hF0⟩
    · refine h_bipush C dX9_write_20 (by decide) ?_
      refine h_ireturn C hr hlk dX9_write_22 ?_
      exact ⟨⟨_, rfl, ⟨by decide, by decide⟩, by omega⟩, hI, hF0⟩
  · refine h_bipush C dX9_write_7 (by decide) ?_
    refine h_ireturn C hr hlk dX9_write_9 ?_
    exact ⟨⟨_, rfl, ⟨by decide, by decide⟩, by omega⟩, hI, hF0⟩
abbrev rgX9_paste : Room := { frames := 2, cells := 0, slots := 0, locals := 45 }
abbrev pgX9_paste (z : Nat) (σ : hpMem) (a0 : Int) (a1 : Int) (a2 : Int) (a3 : Int) (a4 : Int) : Option Value → hpMem → Prop := fun r τ => (∃ x : Int, r = some (.int (hpI x)) ∧ (hpR x) ∧ (((a0 < 0 ∨ 3 < a0 ∨ a2 < 0 ∨ 3 < a2) ∧ x = -2) ∨ ((0 ≤ a0 ∧ a0 ≤ 3 ∧ 0 ≤ a2 ∧ a2 ≤ 3) ∧ (((σ 213 a0.toNat = -1 ∨ σ 213 a2.toNat = -1) ∧ x = -6) ∨ ((¬ σ 213 a0.toNat = -1) ∧ (¬ σ 213 a2.toNat = -1) ∧ (((σ 214 a0.toNat ≠ σ 214 a2.toNat) ∧ x = -8) ∨ ((σ 214 a0.toNat = σ 214 a2.toNat) ∧ (((a1 < 0 ∨ a3 < 0 ∨ a4 < 0 ∨ σ 213 a0.toNat < a1 + a4 ∨ σ 213 a2.toNat < a3 + a4) ∧ x = -7) ∨ (0 ≤ a1 ∧ 0 ≤ a3 ∧ 0 ≤ a4 ∧ a1 + a4 ≤ σ 213 a0.toNat ∧ a3 + a4 ≤ σ 213 a2.toNat ∧ x = 0))))))))) ∧ hpInv τ ∧ (∀ j i : Nat, j ≠ 215 → j ≠ 216 → τ j i = σ j i)
set_option maxHeartbeats 4000000 in
set_option maxRecDepth 20000 in
theorem tgX9_paste (l : Launch) (D : va_G) (cy : Nat → ClassId) (z : Nat) (σ : hpMem) (a0 : Int) (ha0 : hpR a0) (a1 : Int) (ha1 : hpR a1) (a2 : Int) (ha2 : hpR a2) (a3 : Int) (ha3 : hpR a3) (a4 : Int) (ha4 : hpR a4) (hI : hpInv σ) : hpM l D cy z yX9_paste cX9_paste 7 (some .int) rgX9_paste [.ref (z + 195), .int (hpI a0), .int (hpI a1), .int (hpI a2), .int (hpI a3), .int (hpI a4)] σ (pgX9_paste z σ a0 a1 a2 a3 a4) := by
  obtain ⟨ha01, ha02⟩ := ha0
  obtain ⟨ha11, ha12⟩ := ha1
  obtain ⟨ha21, ha22⟩ := ha2
  obtain ⟨ha31, ha32⟩ := ha3
  obtain ⟨ha41, ha42⟩ := ha4
  refine hp_met rfl (Nat.le_of_ble_eq_true rfl) (fun p e s m below meth c C Z hr hlk => ?_)
  have hF0 : ∀ j i : Nat, j ≠ 215 → j ≠ 216 → σ j i = σ j i := fun j i _ _ => rfl
  refine h_iload_n C dX9_paste_0 1 rfl rfl ?_
  refine h_callS (As := [.int (hpI a0)]) (rest := []) C Z yyX9_isSlot rfl wd_1779 (tgX9_isSlot l D cy z _ a0 ⟨by omega, by omega⟩ hI) rfl rfl ⟨rfl, rfl, Nat.le_of_ble_eq_true rfl, Nat.le_of_ble_eq_true rfl⟩ ⟨Nat.le_of_ble_eq_true rfl, Nat.le_of_ble_eq_true rfl⟩ (Nat.le_of_ble_eq_true rfl) dX9_paste_1 (fun r1 τ1 hp1 => ?_)
  obtain ⟨⟨x1, rfl, ⟨hx1a, hx1b⟩, hx1⟩, rfl⟩ := hp1
  show hpV _ _ _ _ _ _ _ _ _ _ _ _ _ _ _ _ _ _ _ _ _ (_ :: _)
  refine h_if_eq (tgt := 14) C dX9_paste_4 (by decide) ⟨by omega, by omega⟩ (fun h2 => ?_) (fun h2 => ?_)
  · refine h_bipush C dX9_paste_14 (by decide) ?_
    refine h_ireturn C hr hlk dX9_paste_16 ?_
    exact ⟨⟨_, rfl, ⟨by decide, by decide⟩, by omega⟩, hI, hF0⟩
  · refine h_iload_n C dX9_paste_7 3 rfl rfl ?_
    refine h_callS (As := [.int (hpI a2)]) (rest := []) C Z yyX9_isSlot rfl wd_1779 (tgX9_isSlot l D cy z _ a2 ⟨by omega, by omega⟩ hI) rfl rfl ⟨rfl, rfl, Nat.le_of_ble_eq_true rfl, Nat.le_of_ble_eq_true rfl⟩ ⟨Nat.le_of_ble_eq_true rfl, Nat.le_of_ble_eq_true rfl⟩ (Nat.le_of_ble_eq_true rfl) dX9_paste_8 (fun r3 τ3 hp3 => ?_)
    obtain ⟨⟨x3, rfl, ⟨hx3a, hx3b⟩, hx3⟩, rfl⟩ := hp3
    show hpV _ _ _ _ _ _ _ _ _ _ _ _ _ _ _ _ _ _ _ _ _ (_ :: _)
    refine h_if_ne (tgt := 17) C dX9_paste_11 (by decide) ⟨by omega, by omega⟩ (fun h4 => ?_) (fun h4 => ?_)
    · refine h_aload_n C dX9_paste_17 0 rfl rfl ?_
      refine h_get C O9 42 kd_195 (by decide) wd_1298 dX9_paste_18 fr_195_42 ?_
      refine h_iload_n C dX9_paste_21 1 rfl rfl ?_
      refine h_iaload C dX9_paste_22 kd_213 (a0).toNat (Int.toNat_of_nonneg (by omega)) (by rw [ln_213]; omega) rfl ?_
      obtain ⟨hr5a, hr5b⟩ := hI.b (bo_213 _)
      generalize hg5 : σ 213 ((a0).toNat) = r5 at hr5a hr5b ⊢
      refine h_iconst C dX9_paste_23 ?_
      refine h_icmp_eq (tgt := 37) C dX9_paste_24 (by decide) ⟨by omega, by omega⟩ ⟨by decide, by decide⟩ (fun h6 => ?_) (fun h6 => ?_)
      · refine h_bipush C dX9_paste_37 (by decide) ?_
        refine h_ireturn C hr hlk dX9_paste_39 ?_
        exact ⟨⟨_, rfl, ⟨by decide, by decide⟩, by omega⟩, hI, hF0⟩
      · refine h_aload_n C dX9_paste_27 0 rfl rfl ?_
        refine h_get C O9 42 kd_195 (by decide) wd_1298 dX9_paste_28 fr_195_42 ?_
        refine h_iload_n C dX9_paste_31 3 rfl rfl ?_
        refine h_iaload C dX9_paste_32 kd_213 (a2).toNat (Int.toNat_of_nonneg (by omega)) (by rw [ln_213]; omega) rfl ?_
        obtain ⟨hr7a, hr7b⟩ := hI.b (bo_213 _)
        generalize hg7 : σ 213 ((a2).toNat) = r7 at hr7a hr7b ⊢
        refine h_iconst C dX9_paste_33 ?_
        refine h_icmp_ne (tgt := 40) C dX9_paste_34 (by decide) ⟨by omega, by omega⟩ ⟨by decide, by decide⟩ (fun h8 => ?_) (fun h8 => ?_)
        · refine h_aload_n C dX9_paste_40 0 rfl rfl ?_
          refine h_get C O9 43 kd_195 (by decide) wd_1299 dX9_paste_41 fr_195_43 ?_
          refine h_iload_n C dX9_paste_44 1 rfl rfl ?_
          refine h_iaload C dX9_paste_45 kd_214 (a0).toNat (Int.toNat_of_nonneg (by omega)) (by rw [ln_214]; omega) rfl ?_
          obtain ⟨hr9a, hr9b⟩ := hI.b (bo_214 _)
          generalize hg9 : σ 214 ((a0).toNat) = r9 at hr9a hr9b ⊢
          refine h_aload_n C dX9_paste_46 0 rfl rfl ?_
          refine h_get C O9 43 kd_195 (by decide) wd_1299 dX9_paste_47 fr_195_43 ?_
          refine h_iload_n C dX9_paste_50 3 rfl rfl ?_
          refine h_iaload C dX9_paste_51 kd_214 (a2).toNat (Int.toNat_of_nonneg (by omega)) (by rw [ln_214]; omega) rfl ?_
          obtain ⟨hr10a, hr10b⟩ := hI.b (bo_214 _)
          generalize hg10 : σ 214 ((a2).toNat) = r10 at hr10a hr10b ⊢
          refine h_icmp_eq (tgt := 58) C dX9_paste_52 (by decide) ⟨by omega, by omega⟩ ⟨by omega, by omega⟩ (fun h11 => ?_) (fun h11 => ?_)
          · refine h_iload_n C dX9_paste_58 2 rfl rfl ?_
            refine h_if_lt (tgt := 107) C dX9_paste_59 (by decide) ⟨by omega, by omega⟩ (fun h12 => ?_) (fun h12 => ?_)
            · refine h_bipush C dX9_paste_107 (by decide) ?_
              refine h_ireturn C hr hlk dX9_paste_109 ?_
              exact ⟨⟨_, rfl, ⟨by decide, by decide⟩, by omega⟩, hI, hF0⟩
            · refine h_iload C dX9_paste_62 4 rfl ?_
              refine h_if_lt (tgt := 107) C dX9_paste_64 (by decide) ⟨by omega, by omega⟩ (fun h13 => ?_) (fun h13 => ?_)
              · refine h_bipush C dX9_paste_107 (by decide) ?_
                refine h_ireturn C hr hlk dX9_paste_109 ?_
                exact ⟨⟨_, rfl, ⟨by decide, by decide⟩, by omega⟩, hI, hF0⟩
              · refine h_iload C dX9_paste_67 5 rfl ?_
                refine h_if_lt (tgt := 107) C dX9_paste_69 (by decide) ⟨by omega, by omega⟩ (fun h14 => ?_) (fun h14 => ?_)
                · refine h_bipush C dX9_paste_107 (by decide) ?_
                  refine h_ireturn C hr hlk dX9_paste_109 ?_
                  exact ⟨⟨_, rfl, ⟨by decide, by decide⟩, by omega⟩, hI, hF0⟩
                · refine h_iload_n C dX9_paste_72 2 rfl rfl ?_
                  refine h_i2l C dX9_paste_73 ⟨by omega, by omega⟩ ?_
                  refine h_iload C dX9_paste_74 5 rfl ?_
                  refine h_i2l C dX9_paste_76 ⟨by omega, by omega⟩ ?_
                  refine h_ladd C dX9_paste_77 rfl ?_
                  refine h_aload_n C dX9_paste_78 0 rfl rfl ?_
                  refine h_get C O9 42 kd_195 (by decide) wd_1298 dX9_paste_79 fr_195_42 ?_
                  refine h_iload_n C dX9_paste_82 1 rfl rfl ?_
                  refine h_iaload C dX9_paste_83 kd_213 (a0).toNat (Int.toNat_of_nonneg (by omega)) (by rw [ln_213]; omega) rfl ?_
                  rw [hg5]
                  refine h_i2l C dX9_paste_84 ⟨by omega, by omega⟩ ?_
                  refine h_lcmp C dX9_paste_85 ⟨by omega, by omega⟩ ⟨by omega, by omega⟩ (fun r15 hr15 => ?_)
                  refine h_if_gt (tgt := 107) C dX9_paste_86 (by decide) ⟨by omega, by omega⟩ (fun h16 => ?_) (fun h16 => ?_)
                  · refine h_bipush C dX9_paste_107 (by decide) ?_
                    refine h_ireturn C hr hlk dX9_paste_109 ?_
                    exact ⟨⟨_, rfl, ⟨by decide, by decide⟩, by omega⟩, hI, hF0⟩
                  · refine h_iload C dX9_paste_89 4 rfl ?_
                    refine h_i2l C dX9_paste_91 ⟨by omega, by omega⟩ ?_
                    refine h_iload C dX9_paste_92 5 rfl ?_
                    refine h_i2l C dX9_paste_94 ⟨by omega, by omega⟩ ?_
                    refine h_ladd C dX9_paste_95 rfl ?_
                    refine h_aload_n C dX9_paste_96 0 rfl rfl ?_
                    refine h_get C O9 42 kd_195 (by decide) wd_1298 dX9_paste_97 fr_195_42 ?_
                    refine h_iload_n C dX9_paste_100 3 rfl rfl ?_
                    refine h_iaload C dX9_paste_101 kd_213 (a2).toNat (Int.toNat_of_nonneg (by omega)) (by rw [ln_213]; omega) rfl ?_
                    rw [hg7]
                    refine h_i2l C dX9_paste_102 ⟨by omega, by omega⟩ ?_
                    refine h_lcmp C dX9_paste_103 ⟨by omega, by omega⟩ ⟨by omega, by omega⟩ (fun r17 hr17 => ?_)
                    refine h_if_le (tgt := 110) C dX9_paste_104 (by decide) ⟨by omega, by omega⟩ (fun h18 => ?_) (fun h18 => ?_)
                    · refine h_iconst C dX9_paste_110 ?_
                      refine h_istore (lv' := [(6, .int (hpI 0)), (0, .ref (z + 195)), (1, .int (hpI a0)), (2, .int (hpI a1)), (3, .int (hpI a2)), (4, .int (hpI a3)), (5, .int (hpI a4))]) C dX9_paste_111 (by decide) rfl ?_
                      have L19 : ∀ (n19 : Nat) (τ19 : hpMem) (w19_6 : Int), 0 ≤ w19_6 → w19_6 ≤ 60 → hpInv τ19 → (∀ j i : Nat, j ≠ 215 → j ≠ 216 → τ19 j i = σ j i) → (4294967296 - w19_6) < (n19 : Int) → hpF p l e rgX9_paste s m [.ref (z + 195), .int (hpI a0), .int (hpI a1), .int (hpI a2), .int (hpI a3), .int (hpI a4)] below meth c 7 D cy z (pgX9_paste z σ a0 a1 a2 a3 a4) τ19 113 [(0, .ref (z + 195)), (1, .int (hpI a0)), (2, .int (hpI a1)), (3, .int (hpI a2)), (4, .int (hpI a3)), (5, .int (hpI a4)), (6, .int (hpI w19_6))] [] := by
                        intro n19
                        induction n19 with
                        | zero => intro τ19 w19_6 hv19_0 hv19_1 hI19 hF19 hm19; exfalso; omega
                        | succ n19 ih19 =>
                          intro τ19 w19_6 hv19_0 hv19_1 hI19 hF19 hm19
                          refine h_iload C dX9_paste_113 6 rfl ?_
                          refine h_iload C dX9_paste_115 5 rfl ?_
                          refine h_icmp_ge (tgt := 147) C dX9_paste_117 (by decide) ⟨by omega, by omega⟩ ⟨by omega, by omega⟩ (fun h20 => ?_) (fun h20 => ?_)
                          · refine h_iconst C dX9_paste_147 ?_
                            refine h_istore (lv' := [(6, .int (hpI 0)), (0, .ref (z + 195)), (1, .int (hpI a0)), (2, .int (hpI a1)), (3, .int (hpI a2)), (4, .int (hpI a3)), (5, .int (hpI a4))]) C dX9_paste_148 (by decide) rfl ?_
                            have L21 : ∀ (n21 : Nat) (τ21 : hpMem) (w21_6 : Int), 0 ≤ w21_6 → w21_6 ≤ 60 → hpInv τ21 → (∀ j i : Nat, j ≠ 215 → j ≠ 216 → τ21 j i = σ j i) → (4294967296 - w21_6) < (n21 : Int) → hpF p l e rgX9_paste s m [.ref (z + 195), .int (hpI a0), .int (hpI a1), .int (hpI a2), .int (hpI a3), .int (hpI a4)] below meth c 7 D cy z (pgX9_paste z σ a0 a1 a2 a3 a4) τ21 150 [(0, .ref (z + 195)), (1, .int (hpI a0)), (2, .int (hpI a1)), (3, .int (hpI a2)), (4, .int (hpI a3)), (5, .int (hpI a4)), (6, .int (hpI w21_6))] [] := by
                              intro n21
                              induction n21 with
                              | zero => intro τ21 w21_6 hv21_0 hv21_1 hI21 hF21 hm21; exfalso; omega
                              | succ n21 ih21 =>
                                intro τ21 w21_6 hv21_0 hv21_1 hI21 hF21 hm21
                                refine h_iload C dX9_paste_150 6 rfl ?_
                                refine h_iload C dX9_paste_152 5 rfl ?_
                                refine h_icmp_ge (tgt := 185) C dX9_paste_154 (by decide) ⟨by omega, by omega⟩ ⟨by omega, by omega⟩ (fun h22 => ?_) (fun h22 => ?_)
                                · refine h_iconst C dX9_paste_185 ?_
                                  refine h_ireturn C hr hlk dX9_paste_186 ?_
                                  exact ⟨⟨_, rfl, ⟨by decide, by decide⟩, by omega⟩, hI21, hF21⟩
                                · refine h_aload_n C dX9_paste_157 0 rfl rfl ?_
                                  refine h_get C O9 44 kd_195 (by decide) wd_1300 dX9_paste_158 fr_195_44 ?_
                                  refine h_bipush C dX9_paste_161 (by decide) ?_
                                  refine h_iload_n C dX9_paste_163 3 rfl rfl ?_
                                  refine h_imul C dX9_paste_164 rfl ?_
                                  refine h_iload C dX9_paste_165 4 rfl ?_
                                  refine h_iadd C dX9_paste_167 rfl ?_
                                  refine h_iload C dX9_paste_168 6 rfl ?_
                                  refine h_iadd C dX9_paste_170 rfl ?_
                                  refine h_aload_n C dX9_paste_171 0 rfl rfl ?_
                                  refine h_get C O9 45 kd_195 (by decide) wd_1301 dX9_paste_172 fr_195_45 ?_
                                  refine h_iload C dX9_paste_175 6 rfl ?_
                                  refine h_laload C dX9_paste_177 kd_216 (w21_6).toNat (Int.toNat_of_nonneg (by omega)) (by rw [ln_216]; omega) rfl ?_
                                  obtain ⟨hr23a, hr23b⟩ := hI21.b (bo_216 _)
                                  generalize hg23 : τ21 216 ((w21_6).toNat) = r23 at hr23a hr23b ⊢
                                  refine h_lastore C dX9_paste_178 kd_215 (((60 * a2) + a3) + w21_6).toNat (Int.toNat_of_nonneg (by omega)) (by rw [ln_215]; omega) ?_
                                  obtain ⟨τ24, e24⟩ : ∃ μ : hpMem, μ = hpw τ21 215 ((((60 * a2) + a3) + w21_6).toNat) r23 := ⟨_, rfl⟩
                                  rw [← e24]
                                  have hI24 : hpInv τ24 := by rw [e24]; exact hI21.w (bo_215 _) (by omega) (by omega)
                                  have hF24 : ∀ j i : Nat, j ≠ 215 → j ≠ 216 → τ24 j i = σ j i := fun j i h_0 h_1 => by rw [e24]; exact (hpw_fr (by omega)).trans (hF21 j i h_0 h_1)
                                  have hg25 : τ24 216 ((w21_6).toNat) = r23 := by rw [e24]; exact (hpw_fr (Or.inl (by omega))).trans hg23
                                  refine h_iinc (lv' := [(6, .int (hpI (w21_6 + 1))), (0, .ref (z + 195)), (1, .int (hpI a0)), (2, .int (hpI a1)), (3, .int (hpI a2)), (4, .int (hpI a3)), (5, .int (hpI a4))]) C dX9_paste_179 6 rfl rfl (by decide) rfl ?_
                                  refine h_goto (tgt := 150) C dX9_paste_182 (by decide) ?_
                                  exact hp_sub [1, 2, 3, 4, 5, 6, 0] rfl (ih21 _ (w21_6 + 1) (by omega) (by omega) hI24 hF24 (by omega))
                            exact hp_sub [1, 2, 3, 4, 5, 6, 0] rfl (L21 8589934592 _ 0 (by omega) (by omega) hI19 hF19 (by omega))
                          · refine h_aload_n C dX9_paste_120 0 rfl rfl ?_
                            refine h_get C O9 45 kd_195 (by decide) wd_1301 dX9_paste_121 fr_195_45 ?_
                            refine h_iload C dX9_paste_124 6 rfl ?_
                            refine h_aload_n C dX9_paste_126 0 rfl rfl ?_
                            refine h_get C O9 44 kd_195 (by decide) wd_1300 dX9_paste_127 fr_195_44 ?_
                            refine h_bipush C dX9_paste_130 (by decide) ?_
                            refine h_iload_n C dX9_paste_132 1 rfl rfl ?_
                            refine h_imul C dX9_paste_133 rfl ?_
                            refine h_iload_n C dX9_paste_134 2 rfl rfl ?_
                            refine h_iadd C dX9_paste_135 rfl ?_
                            refine h_iload C dX9_paste_136 6 rfl ?_
                            refine h_iadd C dX9_paste_138 rfl ?_
                            refine h_laload C dX9_paste_139 kd_215 (((60 * a0) + a1) + w19_6).toNat (Int.toNat_of_nonneg (by omega)) (by rw [ln_215]; omega) rfl ?_
                            obtain ⟨hr26a, hr26b⟩ := hI19.b (bo_215 _)
                            generalize hg26 : τ19 215 ((((60 * a0) + a1) + w19_6).toNat) = r26 at hr26a hr26b ⊢
                            refine h_lastore C dX9_paste_140 kd_216 (w19_6).toNat (Int.toNat_of_nonneg (by omega)) (by rw [ln_216]; omega) ?_
                            obtain ⟨τ27, e27⟩ : ∃ μ : hpMem, μ = hpw τ19 216 ((w19_6).toNat) r26 := ⟨_, rfl⟩
                            rw [← e27]
                            have hI27 : hpInv τ27 := by rw [e27]; exact hI19.w (bo_216 _) (by omega) (by omega)
                            have hF27 : ∀ j i : Nat, j ≠ 215 → j ≠ 216 → τ27 j i = σ j i := fun j i h_0 h_1 => by rw [e27]; exact (hpw_fr (by omega)).trans (hF19 j i h_0 h_1)
                            have hg28 : τ27 215 ((((60 * a0) + a1) + w19_6).toNat) = r26 := by rw [e27]; exact (hpw_fr (Or.inl (by omega))).trans hg26
                            refine h_iinc (lv' := [(6, .int (hpI (w19_6 + 1))), (0, .ref (z + 195)), (1, .int (hpI a0)), (2, .int (hpI a1)), (3, .int (hpI a2)), (4, .int (hpI a3)), (5, .int (hpI a4))]) C dX9_paste_141 6 rfl rfl (by decide) rfl ?_
                            refine h_goto (tgt := 113) C dX9_paste_144 (by decide) ?_
                            exact hp_sub [1, 2, 3, 4, 5, 6, 0] rfl (ih19 _ (w19_6 + 1) (by omega) (by omega) hI27 hF27 (by omega))
                      exact hp_sub [1, 2, 3, 4, 5, 6, 0] rfl (L19 8589934592 _ 0 (by omega) (by omega) hI hF0 (by omega))
                    · refine h_bipush C dX9_paste_107 (by decide) ?_
                      refine h_ireturn C hr hlk dX9_paste_109 ?_
                      exact ⟨⟨_, rfl, ⟨by decide, by decide⟩, by omega⟩, hI, hF0⟩
          · refine h_bipush C dX9_paste_55 (by decide) ?_
            refine h_ireturn C hr hlk dX9_paste_57 ?_
            exact ⟨⟨_, rfl, ⟨by decide, by decide⟩, by omega⟩, hI, hF0⟩
        · refine h_bipush C dX9_paste_37 (by decide) ?_
          refine h_ireturn C hr hlk dX9_paste_39 ?_
          exact ⟨⟨_, rfl, ⟨by decide, by decide⟩, by omega⟩, hI, hF0⟩
    · refine h_bipush C dX9_paste_14 (by decide) ?_
      refine h_ireturn C hr hlk dX9_paste_16 ?_
      exact ⟨⟨_, rfl, ⟨by decide, by decide⟩, by omega⟩, hI, hF0⟩
abbrev rgX9_numberAt : Room := { frames := 0, cells := 0, slots := 0, locals := 0 }
abbrev pgX9_numberAt (z : Nat) (σ : hpMem) (a0 : Int) (a1 : Int) : Option Value → hpMem → Prop := fun r τ => (∃ x : Int, r = some (.long (hpJ x)) ∧ (hpRL x) ∧ (x = σ 215 (60 * a0 + a1).toNat)) ∧ σ = τ
set_option maxHeartbeats 4000000 in
set_option maxRecDepth 20000 in
theorem tgX9_numberAt (l : Launch) (D : va_G) (cy : Nat → ClassId) (z : Nat) (σ : hpMem) (a0 : Int) (ha0 : hpR a0) (a1 : Int) (ha1 : hpR a1) (hI : hpInv σ) (hs0 : 0 ≤ a0 ∧ a0 ≤ 3) (hi0 : 0 ≤ a1 ∧ a1 ≤ 59) : hpM l D cy z yX9_numberAt cX9_numberAt 3 (some .long) rgX9_numberAt [.ref (z + 195), .int (hpI a0), .int (hpI a1)] σ (pgX9_numberAt z σ a0 a1) := by
  obtain ⟨ha01, ha02⟩ := ha0
  obtain ⟨ha11, ha12⟩ := ha1
  refine hp_met rfl (Nat.le_of_ble_eq_true rfl) (fun p e s m below meth c C Z hr hlk => ?_)
  refine h_aload_n C dX9_numberAt_0 0 rfl rfl ?_
  refine h_get C O9 44 kd_195 (by decide) wd_1300 dX9_numberAt_1 fr_195_44 ?_
  refine h_bipush C dX9_numberAt_4 (by decide) ?_
  refine h_iload_n C dX9_numberAt_6 1 rfl rfl ?_
  refine h_imul C dX9_numberAt_7 rfl ?_
  refine h_iload_n C dX9_numberAt_8 2 rfl rfl ?_
  refine h_iadd C dX9_numberAt_9 rfl ?_
  refine h_laload C dX9_numberAt_10 kd_215 ((60 * a0) + a1).toNat (Int.toNat_of_nonneg (by omega)) (by rw [ln_215]; omega) rfl ?_
  obtain ⟨hr1a, hr1b⟩ := hI.b (bo_215 _)
  generalize hg1 : σ 215 (((60 * a0) + a1).toNat) = r1 at hr1a hr1b ⊢
  refine h_lreturn C hr hlk dX9_numberAt_11 ?_
  exact ⟨⟨_, rfl, ⟨by omega, by omega⟩, by omega⟩, rfl⟩

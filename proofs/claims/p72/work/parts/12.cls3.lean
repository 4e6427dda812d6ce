abbrev rgX8_noMoor : Room := { frames := 0, cells := 0, slots := 0, locals := 0 }
abbrev pgX8_noMoor (z : Nat) (σ : hpMem) : Option Value → hpMem → Prop := fun r τ => (∃ x : Int, r = some (.int (hpI x)) ∧ (0 ≤ x ∧ x ≤ 1)) ∧ σ = τ
set_option maxHeartbeats 4000000 in
set_option maxRecDepth 20000 in
theorem tgX8_noMoor (l : Launch) (D : va_G) (cy : Nat → ClassId) (z : Nat) (σ : hpMem) (hI : hpInv σ) : hpM l D cy z yX8_noMoor cX8_noMoor 1 (some .boolean) rgX8_noMoor [.ref (z + 0)] σ (pgX8_noMoor z σ) := by
  refine hp_met rfl (Nat.le_of_ble_eq_true rfl) (fun p e s m below meth c C Z hr hlk => ?_)
  refine h_aload_n C dX8_noMoor_0 0 rfl rfl ?_
  refine h_get C O8 1 kd_0 (by decide) wd_350 dX8_noMoor_1 fr_0_1 ?_
  refine h_getN C O1 8 kd_3 (by decide) nw_95 dX8_noMoor_4 (hp_fvI (by rw [kd_3]; rfl) rfl) ?_
  obtain ⟨hr1a, hr1b⟩ := hI.b (bf_1_8 kd_3)
  generalize hg1 : σ 3 8 = r1 at hr1a hr1b ⊢
  refine h_if_ne (tgt := 14) C dX8_noMoor_7 (by decide) ⟨by omega, by omega⟩ (fun h2 => ?_) (fun h2 => ?_)
  · refine h_iconst C dX8_noMoor_14 ?_
    refine h_zreturn C (by omega) hr hlk dX8_noMoor_15 ?_
    exact ⟨⟨_, rfl, ⟨by decide, by decide⟩⟩, rfl⟩
  · refine h_iconst C dX8_noMoor_10 ?_
    refine h_goto (tgt := 15) C dX8_noMoor_11 (by decide) ?_
    refine h_zreturn C (by omega) hr hlk dX8_noMoor_15 ?_
    exact ⟨⟨_, rfl, ⟨by decide, by decide⟩⟩, rfl⟩
abbrev rgX8_isDay : Room := { frames := 1, cells := 0, slots := 0, locals := 20 }
abbrev pgX8_isDay (z : Nat) (σ : hpMem) (a0 : Int) : Option Value → hpMem → Prop := fun r τ => (∃ x : Int, r = some (.int (hpI x)) ∧ (0 ≤ x ∧ x ≤ 1) ∧ (x = 1 → (0 ≤ a0 ∧ a0 ≤ σ 3 5 ∧ a0 ≤ 16))) ∧ σ = τ
set_option maxHeartbeats 4000000 in
set_option maxRecDepth 20000 in
theorem tgX8_isDay (l : Launch) (D : va_G) (cy : Nat → ClassId) (z : Nat) (σ : hpMem) (a0 : Int) (ha0 : hpR a0) (hI : hpInv σ) : hpM l D cy z yX8_isDay cX8_isDay 2 (some .boolean) rgX8_isDay [.ref (z + 0), .int (hpI a0)] σ (pgX8_isDay z σ a0) := by
  obtain ⟨ha01, ha02⟩ := ha0
  refine hp_met rfl (Nat.le_of_ble_eq_true rfl) (fun p e s m below meth c C Z hr hlk => ?_)
  refine h_aload_n C dX8_isDay_0 0 rfl rfl ?_
  refine h_callV (As := []) (rest := []) C Z yyX8_noMoor wd_572 (tgX8_noMoor l D cy z _ hI) kd_0 rfl rfl ⟨rfl, rfl, Nat.le_of_ble_eq_true rfl, Nat.le_of_ble_eq_true rfl⟩ ⟨Nat.le_of_ble_eq_true rfl, Nat.le_of_ble_eq_true rfl⟩ (Nat.le_of_ble_eq_true rfl) dX8_isDay_1 (fun r1 τ1 hp1 => ?_)
  obtain ⟨⟨x1, rfl, ⟨hx1a, hx1b⟩⟩, rfl⟩ := hp1
  show hpV _ _ _ _ _ _ _ _ _ _ _ _ _ _ _ _ _ _ _ _ _ (_ :: _)
  refine h_if_ne (tgt := 26) C dX8_isDay_4 (by decide) ⟨by omega, by omega⟩ (fun h2 => ?_) (fun h2 => ?_)
  · refine h_iconst C dX8_isDay_26 ?_
    refine h_zreturn C (by omega) hr hlk dX8_isDay_27 ?_
    exact ⟨⟨_, rfl, ⟨by decide, by decide⟩, by omega⟩, rfl⟩
  · refine h_iload_n C dX8_isDay_7 1 rfl rfl ?_
    refine h_if_lt (tgt := 26) C dX8_isDay_8 (by decide) ⟨by omega, by omega⟩ (fun h3 => ?_) (fun h3 => ?_)
    · refine h_iconst C dX8_isDay_26 ?_
      refine h_zreturn C (by omega) hr hlk dX8_isDay_27 ?_
      exact ⟨⟨_, rfl, ⟨by decide, by decide⟩, by omega⟩, rfl⟩
    · refine h_iload_n C dX8_isDay_11 1 rfl rfl ?_
      refine h_aload_n C dX8_isDay_12 0 rfl rfl ?_
      refine h_get C O8 1 kd_0 (by decide) wd_350 dX8_isDay_13 fr_0_1 ?_
      refine h_getN C O1 5 kd_3 (by decide) nw_85 dX8_isDay_16 (hp_fvI (by rw [kd_3]; rfl) rfl) ?_
      obtain ⟨hr4a, hr4b⟩ := hI.b (bf_1_5 kd_3)
      generalize hg4 : σ 3 5 = r4 at hr4a hr4b ⊢
      refine h_icmp_gt (tgt := 26) C dX8_isDay_19 (by decide) ⟨by omega, by omega⟩ ⟨by omega, by omega⟩ (fun h5 => ?_) (fun h5 => ?_)
      · refine h_iconst C dX8_isDay_26 ?_
        refine h_zreturn C (by omega) hr hlk dX8_isDay_27 ?_
        exact ⟨⟨_, rfl, ⟨by decide, by decide⟩, by omega⟩, rfl⟩
      · refine h_iconst C dX8_isDay_22 ?_
        refine h_goto (tgt := 27) C dX8_isDay_23 (by decide) ?_
        refine h_zreturn C (by omega) hr hlk dX8_isDay_27 ?_
        exact ⟨⟨_, rfl, ⟨by decide, by decide⟩, by omega⟩, rfl⟩
abbrev rgX8_isDayAheadOfLast : Room := { frames := 2, cells := 0, slots := 0, locals := 41 }
abbrev pgX8_isDayAheadOfLast (z : Nat) (σ : hpMem) (a0 : Int) : Option Value → hpMem → Prop := fun r τ => (∃ x : Int, r = some (.int (hpI x)) ∧ (0 ≤ x ∧ x ≤ 1) ∧ (x = 1 → (0 ≤ a0 ∧ a0 < σ 3 5 ∧ a0 ≤ 15))) ∧ σ = τ
set_option maxHeartbeats 4000000 in
set_option maxRecDepth 20000 in
theorem tgX8_isDayAheadOfLast (l : Launch) (D : va_G) (cy : Nat → ClassId) (z : Nat) (σ : hpMem) (a0 : Int) (ha0 : hpR a0) (hI : hpInv σ) : hpM l D cy z yX8_isDayAheadOfLast cX8_isDayAheadOfLast 2 (some .boolean) rgX8_isDayAheadOfLast [.ref (z + 0), .int (hpI a0)] σ (pgX8_isDayAheadOfLast z σ a0) := by
  obtain ⟨ha01, ha02⟩ := ha0
  refine hp_met rfl (Nat.le_of_ble_eq_true rfl) (fun p e s m below meth c C Z hr hlk => ?_)
  refine h_aload_n C dX8_isDayAheadOfLast_0 0 rfl rfl ?_
  refine h_iload_n C dX8_isDayAheadOfLast_1 1 rfl rfl ?_
  refine h_callV (As := [.int (hpI a0)]) (rest := []) C Z yyX8_isDay wd_568 (tgX8_isDay l D cy z _ a0 ⟨by omega, by omega⟩ hI) kd_0 rfl rfl ⟨rfl, rfl, Nat.le_of_ble_eq_true rfl, Nat.le_of_ble_eq_true rfl⟩ ⟨Nat.le_of_ble_eq_true rfl, Nat.le_of_ble_eq_true rfl⟩ (Nat.le_of_ble_eq_true rfl) dX8_isDayAheadOfLast_2 (fun r1 τ1 hp1 => ?_)
  obtain ⟨⟨x1, rfl, ⟨hx1a, hx1b⟩, hx1⟩, rfl⟩ := hp1
  show hpV _ _ _ _ _ _ _ _ _ _ _ _ _ _ _ _ _ _ _ _ _ (_ :: _)
  refine h_if_eq (tgt := 23) C dX8_isDayAheadOfLast_5 (by decide) ⟨by omega, by omega⟩ (fun h2 => ?_) (fun h2 => ?_)
  · refine h_iconst C dX8_isDayAheadOfLast_23 ?_
    refine h_zreturn C (by omega) hr hlk dX8_isDayAheadOfLast_24 ?_
    exact ⟨⟨_, rfl, ⟨by decide, by decide⟩, by omega⟩, rfl⟩
  · refine h_iload_n C dX8_isDayAheadOfLast_8 1 rfl rfl ?_
    refine h_aload_n C dX8_isDayAheadOfLast_9 0 rfl rfl ?_
    refine h_get C O8 1 kd_0 (by decide) wd_350 dX8_isDayAheadOfLast_10 fr_0_1 ?_
    refine h_getN C O1 5 kd_3 (by decide) nw_85 dX8_isDayAheadOfLast_13 (hp_fvI (by rw [kd_3]; rfl) rfl) ?_
    obtain ⟨hr3a, hr3b⟩ := hI.b (bf_1_5 kd_3)
    generalize hg3 : σ 3 5 = r3 at hr3a hr3b ⊢
    refine h_icmp_ge (tgt := 23) C dX8_isDayAheadOfLast_16 (by decide) ⟨by omega, by omega⟩ ⟨by omega, by omega⟩ (fun h4 => ?_) (fun h4 => ?_)
    · refine h_iconst C dX8_isDayAheadOfLast_23 ?_
      refine h_zreturn C (by omega) hr hlk dX8_isDayAheadOfLast_24 ?_
      exact ⟨⟨_, rfl, ⟨by decide, by decide⟩, by omega⟩, rfl⟩
    · refine h_iconst C dX8_isDayAheadOfLast_19 ?_
      refine h_goto (tgt := 24) C dX8_isDayAheadOfLast_20 (by decide) ?_
      refine h_zreturn C (by omega) hr hlk dX8_isDayAheadOfLast_24 ?_
      exact ⟨⟨_, rfl, ⟨by decide, by decide⟩, by omega⟩, rfl⟩
abbrev rgX8_isChanceDay : Room := { frames := 3, cells := 0, slots := 0, locals := 62 }
abbrev pgX8_isChanceDay (z : Nat) (σ : hpMem) (a0 : Int) : Option Value → hpMem → Prop := fun r τ => (∃ x : Int, r = some (.int (hpI x)) ∧ (0 ≤ x ∧ x ≤ 1) ∧ (x = 1 → (0 ≤ a0 ∧ a0 ≤ 7 ∧ a0 < σ 3 5))) ∧ σ = τ
set_option maxHeartbeats 4000000 in
set_option maxRecDepth 20000 in
theorem tgX8_isChanceDay (l : Launch) (D : va_G) (cy : Nat → ClassId) (z : Nat) (σ : hpMem) (a0 : Int) (ha0 : hpR a0) (hI : hpInv σ) : hpM l D cy z yX8_isChanceDay cX8_isChanceDay 2 (some .boolean) rgX8_isChanceDay [.ref (z + 0), .int (hpI a0)] σ (pgX8_isChanceDay z σ a0) := by
  obtain ⟨ha01, ha02⟩ := ha0
  refine hp_met rfl (Nat.le_of_ble_eq_true rfl) (fun p e s m below meth c C Z hr hlk => ?_)
  refine h_aload_n C dX8_isChanceDay_0 0 rfl rfl ?_
  refine h_iload_n C dX8_isChanceDay_1 1 rfl rfl ?_
  refine h_callV (As := [.int (hpI a0)]) (rest := []) C Z yyX8_isDayAheadOfLast wd_683 (tgX8_isDayAheadOfLast l D cy z _ a0 ⟨by omega, by omega⟩ hI) kd_0 rfl rfl ⟨rfl, rfl, Nat.le_of_ble_eq_true rfl, Nat.le_of_ble_eq_true rfl⟩ ⟨Nat.le_of_ble_eq_true rfl, Nat.le_of_ble_eq_true rfl⟩ (Nat.le_of_ble_eq_true rfl) dX8_isChanceDay_2 (fun r1 τ1 hp1 => ?_)
  obtain ⟨⟨x1, rfl, ⟨hx1a, hx1b⟩, hx1⟩, rfl⟩ := hp1
  show hpV _ _ _ _ _ _ _ _ _ _ _ _ _ _ _ _ _ _ _ _ _ (_ :: _)
  refine h_if_eq (tgt := 18) C dX8_isChanceDay_5 (by decide) ⟨by omega, by omega⟩ (fun h2 => ?_) (fun h2 => ?_)
  · refine h_iconst C dX8_isChanceDay_18 ?_
    refine h_zreturn C (by omega) hr hlk dX8_isChanceDay_19 ?_
    exact ⟨⟨_, rfl, ⟨by decide, by decide⟩, by omega⟩, rfl⟩
  · refine h_iload_n C dX8_isChanceDay_8 1 rfl rfl ?_
    refine h_bipush C dX8_isChanceDay_9 (by decide) ?_
    refine h_icmp_gt (tgt := 18) C dX8_isChanceDay_11 (by decide) ⟨by omega, by omega⟩ ⟨by decide, by decide⟩ (fun h3 => ?_) (fun h3 => ?_)
    · refine h_iconst C dX8_isChanceDay_18 ?_
      refine h_zreturn C (by omega) hr hlk dX8_isChanceDay_19 ?_
      exact ⟨⟨_, rfl, ⟨by decide, by decide⟩, by omega⟩, rfl⟩
    · refine h_iconst C dX8_isChanceDay_14 ?_
      refine h_goto (tgt := 19) C dX8_isChanceDay_15 (by decide) ?_
      refine h_zreturn C (by omega) hr hlk dX8_isChanceDay_19 ?_
      exact ⟨⟨_, rfl, ⟨by decide, by decide⟩, by omega⟩, rfl⟩
abbrev rgX8_isTold : Room := { frames := 0, cells := 0, slots := 0, locals := 0 }
abbrev pgX8_isTold (z : Nat) (σ : hpMem) (a0 : Int) : Option Value → hpMem → Prop := fun r τ => (∃ x : Int, r = some (.int (hpI x)) ∧ (0 ≤ x ∧ x ≤ 1) ∧ (x = 1 → (0 ≤ a0 ∧ a0 < σ 3 9 ∧ a0 ≤ 7))) ∧ σ = τ
set_option maxHeartbeats 4000000 in
set_option maxRecDepth 20000 in
theorem tgX8_isTold (l : Launch) (D : va_G) (cy : Nat → ClassId) (z : Nat) (σ : hpMem) (a0 : Int) (ha0 : hpR a0) (hI : hpInv σ) : hpM l D cy z yX8_isTold cX8_isTold 2 (some .boolean) rgX8_isTold [.ref (z + 0), .int (hpI a0)] σ (pgX8_isTold z σ a0) := by
  obtain ⟨ha01, ha02⟩ := ha0
  refine hp_met rfl (Nat.le_of_ble_eq_true rfl) (fun p e s m below meth c C Z hr hlk => ?_)
  refine h_iload_n C dX8_isTold_0 1 rfl rfl ?_
  refine h_if_lt (tgt := 19) C dX8_isTold_1 (by decide) ⟨by omega, by omega⟩ (fun h1 => ?_) (fun h1 => ?_)
  · refine h_iconst C dX8_isTold_19 ?_
    refine h_zreturn C (by omega) hr hlk dX8_isTold_20 ?_
    exact ⟨⟨_, rfl, ⟨by decide, by decide⟩, by omega⟩, rfl⟩
  · refine h_iload_n C dX8_isTold_4 1 rfl rfl ?_
    refine h_aload_n C dX8_isTold_5 0 rfl rfl ?_
    refine h_get C O8 1 kd_0 (by decide) wd_350 dX8_isTold_6 fr_0_1 ?_
    refine h_getN C O1 9 kd_3 (by decide) nw_99 dX8_isTold_9 (hp_fvI (by rw [kd_3]; rfl) rfl) ?_
    obtain ⟨hr2a, hr2b⟩ := hI.b (bf_1_9 kd_3)
    generalize hg2 : σ 3 9 = r2 at hr2a hr2b ⊢
    refine h_icmp_ge (tgt := 19) C dX8_isTold_12 (by decide) ⟨by omega, by omega⟩ ⟨by omega, by omega⟩ (fun h3 => ?_) (fun h3 => ?_)
    · refine h_iconst C dX8_isTold_19 ?_
      refine h_zreturn C (by omega) hr hlk dX8_isTold_20 ?_
      exact ⟨⟨_, rfl, ⟨by decide, by decide⟩, by omega⟩, rfl⟩
    · refine h_iconst C dX8_isTold_15 ?_
      refine h_goto (tgt := 20) C dX8_isTold_16 (by decide) ?_
      refine h_zreturn C (by omega) hr hlk dX8_isTold_20 ?_
      exact ⟨⟨_, rfl, ⟨by decide, by decide⟩, by omega⟩, rfl⟩
abbrev rgX8_isCart : Room := { frames := 0, cells := 0, slots := 0, locals := 0 }
abbrev pgX8_isCart (z : Nat) (σ : hpMem) (a0 : Int) : Option Value → hpMem → Prop := fun r τ => (∃ x : Int, r = some (.int (hpI x)) ∧ (0 ≤ x ∧ x ≤ 1) ∧ (x = 1 → (0 ≤ a0 ∧ a0 < σ 3 10 ∧ a0 ≤ 5))) ∧ σ = τ
set_option maxHeartbeats 4000000 in
set_option maxRecDepth 20000 in
theorem tgX8_isCart (l : Launch) (D : va_G) (cy : Nat → ClassId) (z : Nat) (σ : hpMem) (a0 : Int) (ha0 : hpR a0) (hI : hpInv σ) : hpM l D cy z yX8_isCart cX8_isCart 2 (some .boolean) rgX8_isCart [.ref (z + 0), .int (hpI a0)] σ (pgX8_isCart z σ a0) := by
  obtain ⟨ha01, ha02⟩ := ha0
  refine hp_met rfl (Nat.le_of_ble_eq_true rfl) (fun p e s m below meth c C Z hr hlk => ?_)
  refine h_iload_n C dX8_isCart_0 1 rfl rfl ?_
  refine h_if_lt (tgt := 19) C dX8_isCart_1 (by decide) ⟨by omega, by omega⟩ (fun h1 => ?_) (fun h1 => ?_)
  · refine h_iconst C dX8_isCart_19 ?_
    refine h_zreturn C (by omega) hr hlk dX8_isCart_20 ?_
    exact ⟨⟨_, rfl, ⟨by decide, by decide⟩, by omega⟩, rfl⟩
  · refine h_iload_n C dX8_isCart_4 1 rfl rfl ?_
    refine h_aload_n C dX8_isCart_5 0 rfl rfl ?_
    refine h_get C O8 1 kd_0 (by decide) wd_350 dX8_isCart_6 fr_0_1 ?_
    refine h_getN C O1 10 kd_3 (by decide) nw_103 dX8_isCart_9 (hp_fvI (by rw [kd_3]; rfl) rfl) ?_
    obtain ⟨hr2a, hr2b⟩ := hI.b (bf_1_10 kd_3)
    generalize hg2 : σ 3 10 = r2 at hr2a hr2b ⊢
    refine h_icmp_ge (tgt := 19) C dX8_isCart_12 (by decide) ⟨by omega, by omega⟩ ⟨by omega, by omega⟩ (fun h3 => ?_) (fun h3 => ?_)
    · refine h_iconst C dX8_isCart_19 ?_
      refine h_zreturn C (by omega) hr hlk dX8_isCart_20 ?_
      exact ⟨⟨_, rfl, ⟨by decide, by decide⟩, by omega⟩, rfl⟩
    · refine h_iconst C dX8_isCart_15 ?_
      refine h_goto (tgt := 20) C dX8_isCart_16 (by decide) ?_
      refine h_zreturn C (by omega) hr hlk dX8_isCart_20 ?_
      exact ⟨⟨_, rfl, ⟨by decide, by decide⟩, by omega⟩, rfl⟩
abbrev rgX8_isOfAll : Room := { frames := 1, cells := 0, slots := 0, locals := 20 }
abbrev pgX8_isOfAll (z : Nat) (σ : hpMem) (a0 : Int) : Option Value → hpMem → Prop := fun r τ => (∃ x : Int, r = some (.int (hpI x)) ∧ (0 ≤ x ∧ x ≤ 1) ∧ (x = 1 → (1 ≤ a0 ∧ a0 ≤ 14))) ∧ σ = τ
set_option maxHeartbeats 4000000 in
set_option maxRecDepth 20000 in
theorem tgX8_isOfAll (l : Launch) (D : va_G) (cy : Nat → ClassId) (z : Nat) (σ : hpMem) (a0 : Int) (ha0 : hpR a0) (hI : hpInv σ) : hpM l D cy z yX8_isOfAll cX8_isOfAll 2 (some .boolean) rgX8_isOfAll [.ref (z + 0), .int (hpI a0)] σ (pgX8_isOfAll z σ a0) := by
  obtain ⟨ha01, ha02⟩ := ha0
  refine hp_met rfl (Nat.le_of_ble_eq_true rfl) (fun p e s m below meth c C Z hr hlk => ?_)
  refine h_aload_n C dX8_isOfAll_0 0 rfl rfl ?_
  refine h_callV (As := []) (rest := []) C Z yyX8_noMoor wd_572 (tgX8_noMoor l D cy z _ hI) kd_0 rfl rfl ⟨rfl, rfl, Nat.le_of_ble_eq_true rfl, Nat.le_of_ble_eq_true rfl⟩ ⟨Nat.le_of_ble_eq_true rfl, Nat.le_of_ble_eq_true rfl⟩ (Nat.le_of_ble_eq_true rfl) dX8_isOfAll_1 (fun r1 τ1 hp1 => ?_)
  obtain ⟨⟨x1, rfl, ⟨hx1a, hx1b⟩⟩, rfl⟩ := hp1
  show hpV _ _ _ _ _ _ _ _ _ _ _ _ _ _ _ _ _ _ _ _ _ (_ :: _)
  refine h_if_ne (tgt := 22) C dX8_isOfAll_4 (by decide) ⟨by omega, by omega⟩ (fun h2 => ?_) (fun h2 => ?_)
  · refine h_iconst C dX8_isOfAll_22 ?_
    refine h_zreturn C (by omega) hr hlk dX8_isOfAll_23 ?_
    exact ⟨⟨_, rfl, ⟨by decide, by decide⟩, by omega⟩, rfl⟩
  · refine h_iload_n C dX8_isOfAll_7 1 rfl rfl ?_
    refine h_iconst C dX8_isOfAll_8 ?_
    refine h_icmp_lt (tgt := 22) C dX8_isOfAll_9 (by decide) ⟨by omega, by omega⟩ ⟨by decide, by decide⟩ (fun h3 => ?_) (fun h3 => ?_)
    · refine h_iconst C dX8_isOfAll_22 ?_
      refine h_zreturn C (by omega) hr hlk dX8_isOfAll_23 ?_
      exact ⟨⟨_, rfl, ⟨by decide, by decide⟩, by omega⟩, rfl⟩
    · refine h_iload_n C dX8_isOfAll_12 1 rfl rfl ?_
      refine h_bipush C dX8_isOfAll_13 (by decide) ?_
      refine h_icmp_gt (tgt := 22) C dX8_isOfAll_15 (by decide) ⟨by omega, by omega⟩ ⟨by decide, by decide⟩ (fun h4 => ?_) (fun h4 => ?_)
      · refine h_iconst C dX8_isOfAll_22 ?_
        refine h_zreturn C (by omega) hr hlk dX8_isOfAll_23 ?_
        exact ⟨⟨_, rfl, ⟨by decide, by decide⟩, by omega⟩, rfl⟩
      · refine h_iconst C dX8_isOfAll_18 ?_
        refine h_goto (tgt := 23) C dX8_isOfAll_19 (by decide) ?_
        refine h_zreturn C (by omega) hr hlk dX8_isOfAll_23 ?_
        exact ⟨⟨_, rfl, ⟨by decide, by decide⟩, by omega⟩, rfl⟩
abbrev rgX8_isSlot : Room := { frames := 0, cells := 0, slots := 0, locals := 0 }
abbrev pgX8_isSlot (z : Nat) (σ : hpMem) (a0 : Int) : Option Value → hpMem → Prop := fun r τ => (∃ x : Int, r = some (.int (hpI x)) ∧ (0 ≤ x ∧ x ≤ 1) ∧ ((x = 1 ∧ 0 ≤ a0 ∧ a0 ≤ 3) ∨ (x = 0 ∧ (a0 < 0 ∨ 3 < a0)))) ∧ σ = τ
set_option maxHeartbeats 4000000 in
set_option maxRecDepth 20000 in
theorem tgX8_isSlot (l : Launch) (D : va_G) (cy : Nat → ClassId) (z : Nat) (σ : hpMem) (a0 : Int) (ha0 : hpR a0) (hI : hpInv σ) : hpM l D cy z yX8_isSlot cX8_isSlot 1 (some .boolean) rgX8_isSlot [.int (hpI a0)] σ (pgX8_isSlot z σ a0) := by
  obtain ⟨ha01, ha02⟩ := ha0
  refine hp_met rfl (Nat.le_of_ble_eq_true rfl) (fun p e s m below meth c C Z hr hlk => ?_)
  refine h_iload_n C dX8_isSlot_0 0 rfl rfl ?_
  refine h_if_lt (tgt := 13) C dX8_isSlot_1 (by decide) ⟨by omega, by omega⟩ (fun h1 => ?_) (fun h1 => ?_)
  · refine h_iconst C dX8_isSlot_13 ?_
    refine h_zreturn C (by omega) hr hlk dX8_isSlot_14 ?_
    exact ⟨⟨_, rfl, ⟨by decide, by decide⟩, by omega⟩, rfl⟩
  · refine h_iload_n C dX8_isSlot_4 0 rfl rfl ?_
    refine h_iconst C dX8_isSlot_5 ?_
    refine h_icmp_ge (tgt := 13) C dX8_isSlot_6 (by decide) ⟨by omega, by omega⟩ ⟨by decide, by decide⟩ (fun h2 => ?_) (fun h2 => ?_)
    · refine h_iconst C dX8_isSlot_13 ?_
      refine h_zreturn C (by omega) hr hlk dX8_isSlot_14 ?_
      exact ⟨⟨_, rfl, ⟨by decide, by decide⟩, by omega⟩, rfl⟩
    · refine h_iconst C dX8_isSlot_9 ?_
      refine h_goto (tgt := 14) C dX8_isSlot_10 (by decide) ?_
      refine h_zreturn C (by omega) hr hlk dX8_isSlot_14 ?_
      exact ⟨⟨_, rfl, ⟨by decide, by decide⟩, by omega⟩, rfl⟩
abbrev rgX8_isWhat : Room := { frames := 0, cells := 0, slots := 0, locals := 0 }
abbrev pgX8_isWhat (z : Nat) (σ : hpMem) (a0 : Int) : Option Value → hpMem → Prop := fun r τ => (∃ x : Int, r = some (.int (hpI x)) ∧ (0 ≤ x ∧ x ≤ 1)) ∧ σ = τ
set_option maxHeartbeats 4000000 in
set_option maxRecDepth 20000 in
theorem tgX8_isWhat (l : Launch) (D : va_G) (cy : Nat → ClassId) (z : Nat) (σ : hpMem) (a0 : Int) (ha0 : hpR a0) (hI : hpInv σ) : hpM l D cy z yX8_isWhat cX8_isWhat 1 (some .boolean) rgX8_isWhat [.int (hpI a0)] σ (pgX8_isWhat z σ a0) := by
  obtain ⟨ha01, ha02⟩ := ha0
  refine hp_met rfl (Nat.le_of_ble_eq_true rfl) (fun p e s m below meth c C Z hr hlk => ?_)
  refine h_iload_n C dX8_isWhat_0 0 rfl rfl ?_
  refine h_if_eq (tgt := 9) C dX8_isWhat_1 (by decide) ⟨by omega, by omega⟩ (fun h1 => ?_) (fun h1 => ?_)
  · refine h_iconst C dX8_isWhat_9 ?_
    refine h_goto (tgt := 14) C dX8_isWhat_10 (by decide) ?_
    refine h_zreturn C (by omega) hr hlk dX8_isWhat_14 ?_
    exact ⟨⟨_, rfl, ⟨by decide, by decide⟩⟩, rfl⟩
  · refine h_iload_n C dX8_isWhat_4 0 rfl rfl ?_
    refine h_iconst C dX8_isWhat_5 ?_
    refine h_icmp_ne (tgt := 13) C dX8_isWhat_6 (by decide) ⟨by omega, by omega⟩ ⟨by decide, by decide⟩ (fun h2 => ?_) (fun h2 => ?_)
    · refine h_iconst C dX8_isWhat_13 ?_
      refine h_zreturn C (by omega) hr hlk dX8_isWhat_14 ?_
      exact ⟨⟨_, rfl, ⟨by decide, by decide⟩⟩, rfl⟩
    · refine h_iconst C dX8_isWhat_9 ?_
      refine h_goto (tgt := 14) C dX8_isWhat_10 (by decide) ?_
      refine h_zreturn C (by omega) hr hlk dX8_isWhat_14 ?_
      exact ⟨⟨_, rfl, ⟨by decide, by decide⟩⟩, rfl⟩
abbrev rgX8_asNumber : Room := { frames := 0, cells := 0, slots := 0, locals := 0 }
abbrev pgX8_asNumber (z : Nat) (σ : hpMem) (a0 : Int) : Option Value → hpMem → Prop := fun r τ => (∃ x : Int, r = some (.int (hpI x)) ∧ (hpR x) ∧ (0 ≤ x ∧ x ≤ 1)) ∧ σ = τ
set_option maxHeartbeats 4000000 in
set_option maxRecDepth 20000 in
theorem tgX8_asNumber (l : Launch) (D : va_G) (cy : Nat → ClassId) (z : Nat) (σ : hpMem) (a0 : Int) (ha0 : 0 ≤ a0 ∧ a0 ≤ 1) (hI : hpInv σ) : hpM l D cy z yX8_asNumber cX8_asNumber 1 (some .int) rgX8_asNumber [.int (hpI a0)] σ (pgX8_asNumber z σ a0) := by
  obtain ⟨ha01, ha02⟩ := ha0
  refine hp_met rfl (Nat.le_of_ble_eq_true rfl) (fun p e s m below meth c C Z hr hlk => ?_)
  refine h_iload_n C dX8_asNumber_0 0 rfl rfl ?_
  refine h_if_eq (tgt := 8) C dX8_asNumber_1 (by decide) ⟨by omega, by omega⟩ (fun h1 => ?_) (fun h1 => ?_)
  · refine h_iconst C dX8_asNumber_8 ?_
    refine h_ireturn C hr hlk dX8_asNumber_9 ?_
    exact ⟨⟨_, rfl, ⟨by decide, by decide⟩, by omega⟩, rfl⟩
  · refine h_iconst C dX8_asNumber_4 ?_
    refine h_goto (tgt := 9) C dX8_asNumber_5 (by decide) ?_
    refine h_ireturn C hr hlk dX8_asNumber_9 ?_
    exact ⟨⟨_, rfl, ⟨by decide, by decide⟩, by omega⟩, rfl⟩
abbrev rgX8_forget : Room := { frames := 0, cells := 0, slots := 0, locals := 0 }
abbrev pgX8_forget (z : Nat) (σ : hpMem) : Option Value → hpMem → Prop := fun r τ => r = none ∧ hpInv τ ∧ (∀ j i : Nat, 169 ≤ j → τ j i = σ j i)
set_option maxHeartbeats 4000000 in
set_option maxRecDepth 20000 in
theorem tgX8_forget (l : Launch) (D : va_G) (cy : Nat → ClassId) (z : Nat) (σ : hpMem) (hI : hpInv σ) : hpM l D cy z yX8_forget cX8_forget 1 none rgX8_forget [.ref (z + 0)] σ (pgX8_forget z σ) := by
  refine hp_met rfl (Nat.le_of_ble_eq_true rfl) (fun p e s m below meth c C Z hr hlk => ?_)
  have hF0 : ∀ j i : Nat, 169 ≤ j → σ j i = σ j i := fun j i _ => rfl
  refine h_aload_n C dX8_forget_0 0 rfl rfl ?_
  refine h_iconst C dX8_forget_1 ?_
  refine h_put C O8 13 kd_0 (by decide) rfl wd_362 dX8_forget_2 (hp_nz (by omega)) rfl (hp_fvI (by rw [kd_0]; rfl) hpu_at) ?_
  obtain ⟨τ1, e1⟩ : ∃ μ : hpMem, μ = hpw σ 0 13 0 := ⟨_, rfl⟩
  rw [← e1]
  have hI1 : hpInv τ1 := by rw [e1]; exact hI.w (bf_8_13 kd_0) (by omega) (by omega)
  have hF1 : ∀ j i : Nat, 169 ≤ j → τ1 j i = σ j i := fun j i h_0 => by rw [e1]; exact (hpw_fr (by omega)).trans (hF0 j i h_0)
  have hg2 : τ1 0 13 = 0 := by rw [e1]; exact hpw_eq
  refine h_aload_n C dX8_forget_5 0 rfl rfl ?_
  refine h_iconst C dX8_forget_6 ?_
  refine h_put C O8 14 kd_0 (by decide) rfl wd_363 dX8_forget_7 (hp_nz (by omega)) rfl (hp_fvI (by rw [kd_0]; rfl) hpu_at) ?_
  obtain ⟨τ3, e3⟩ : ∃ μ : hpMem, μ = hpw τ1 0 14 0 := ⟨_, rfl⟩
  rw [← e3]
  have hI3 : hpInv τ3 := by rw [e3]; exact hI1.w (bf_8_14 kd_0) (by omega) (by omega)
  have hF3 : ∀ j i : Nat, 169 ≤ j → τ3 j i = σ j i := fun j i h_0 => by rw [e3]; exact (hpw_fr (by omega)).trans (hF1 j i h_0)
  have hg4 : τ3 0 13 = 0 := by rw [e3]; exact (hpw_fr (Or.inr (by decide))).trans hg2
  have hg5 : τ3 0 14 = 0 := by rw [e3]; exact hpw_eq
  refine h_aload_n C dX8_forget_10 0 rfl rfl ?_
  refine h_iconst C dX8_forget_11 ?_
  refine h_put C O8 15 kd_0 (by decide) rfl wd_364 dX8_forget_12 rfl rfl (hp_fvI (by rw [kd_0]; rfl) hpu_at) ?_
  obtain ⟨τ6, e6⟩ : ∃ μ : hpMem, μ = hpw τ3 0 15 (-1) := ⟨_, rfl⟩
  rw [← e6]
  have hI6 : hpInv τ6 := by rw [e6]; exact hI3.w (bf_8_15 kd_0) (by omega) (by omega)
  have hF6 : ∀ j i : Nat, 169 ≤ j → τ6 j i = σ j i := fun j i h_0 => by rw [e6]; exact (hpw_fr (by omega)).trans (hF3 j i h_0)
  have hg7 : τ6 0 13 = 0 := by rw [e6]; exact (hpw_fr (Or.inr (by decide))).trans hg4
  have hg8 : τ6 0 14 = 0 := by rw [e6]; exact (hpw_fr (Or.inr (by decide))).trans hg5
  have hg9 : τ6 0 15 = (-1) := by rw [e6]; exact hpw_eq
  refine h_return C hr hlk dX8_forget_15 ?_
  exact ⟨rfl, hI6, hF6⟩
abbrev rgX8_rowOfDay : Room := { frames := 5, cells := 0, slots := 0, locals := 152 }
abbrev pgX8_rowOfDay (z : Nat) (σ : hpMem) (a0 : Int) : Option Value → hpMem → Prop := fun r τ => (∃ x : Nat, r = some (.ref (z + x)) ∧ hpkd x = 3) ∧ hpInv τ ∧ (∀ j i : Nat, 169 ≤ j → τ j i = σ j i)
set_option maxHeartbeats 4000000 in
set_option maxRecDepth 20000 in
theorem tgX8_rowOfDay (l : Launch) (D : va_G) (cy : Nat → ClassId) (z : Nat) (σ : hpMem) (a0 : Int) (ha0 : hpR a0) (hI : hpInv σ) : hpM l D cy z yX8_rowOfDay cX8_rowOfDay 2 (some (.object "TurfHeaps$Row")) rgX8_rowOfDay [.ref (z + 0), .int (hpI a0)] σ (pgX8_rowOfDay z σ a0) := by
  obtain ⟨ha01, ha02⟩ := ha0
  refine hp_met rfl (Nat.le_of_ble_eq_true rfl) (fun p e s m below meth c C Z hr hlk => ?_)
  have hF0 : ∀ j i : Nat, 169 ≤ j → σ j i = σ j i := fun j i _ => rfl
  refine h_aload_n C dX8_rowOfDay_0 0 rfl rfl ?_
  refine h_get C O8 13 kd_0 (by decide) wd_362 dX8_rowOfDay_1 (hp_fvI (by rw [kd_0]; rfl) rfl) ?_
  obtain ⟨hr1a, hr1b⟩ := hI.b (bf_8_13 kd_0)
  generalize hg1 : σ 0 13 = r1 at hr1a hr1b ⊢
  refine h_if_ne (tgt := 34) C dX8_rowOfDay_4 (by decide) ⟨by omega, by omega⟩ (fun h2 => ?_) (fun h2 => ?_)
  · refine h_aload_n C dX8_rowOfDay_34 0 rfl rfl ?_
    refine h_get C O8 5 kd_0 (by decide) wd_354 dX8_rowOfDay_35 fr_0_5 ?_
    refine h_iload_n C dX8_rowOfDay_38 1 rfl rfl ?_
    refine h_callVN (As := [.int (hpI a0)]) (rest := []) C Z yyX4_at nw_634 (tgX4_at l D cy z _ 17 kd_17 a0 ⟨by omega, by omega⟩ hI) kd_17 rfl rfl ⟨rfl, rfl, Nat.le_of_ble_eq_true rfl, Nat.le_of_ble_eq_true rfl⟩ ⟨Nat.le_of_ble_eq_true rfl, Nat.le_of_ble_eq_true rfl⟩ (Nat.le_of_ble_eq_true rfl) dX8_rowOfDay_39 (fun r3 τ3 hp3 => ?_)
    obtain ⟨⟨x3, rfl, hx3⟩, rfl⟩ := hp3
    have hl3 := kb_3 hx3
    show hpV _ _ _ _ _ _ _ _ _ _ _ _ _ _ _ _ _ _ _ _ _ (_ :: _)
    refine h_areturn C (Or.inl ⟨_, rfl⟩) hr hlk dX8_rowOfDay_42 ?_
    exact ⟨⟨_, rfl, hx3⟩, hI, hF0⟩
  · refine h_aload_n C dX8_rowOfDay_7 0 rfl rfl ?_
    refine h_get C O8 5 kd_0 (by decide) wd_354 dX8_rowOfDay_8 fr_0_5 ?_
    refine h_aload_n C dX8_rowOfDay_11 0 rfl rfl ?_
    refine h_get C O8 1 kd_0 (by decide) wd_350 dX8_rowOfDay_12 fr_0_1 ?_
    refine h_callVN (As := [.ref (z + 3)]) (rest := []) C Z yyX4_asTold nw_580 (tgX4_asTold l D cy z _ 17 kd_17 hI) kd_17 rfl rfl ⟨rfl, rfl, Nat.le_of_ble_eq_true rfl, Nat.le_of_ble_eq_true rfl⟩ ⟨Nat.le_of_ble_eq_true rfl, Nat.le_of_ble_eq_true rfl⟩ (Nat.le_of_ble_eq_true rfl) dX8_rowOfDay_15 (fun r4 τ4 hp4 => ?_)
    obtain ⟨rfl, hI4, hG4⟩ := hp4
    have hF4 : ∀ j i : Nat, 169 ≤ j → τ4 j i = σ j i := fun j i h_0 => (hG4 j i (by omega)).trans (hF0 j i h_0)
    show hpV _ _ _ _ _ _ _ _ _ _ _ _ _ _ _ _ _ _ _ _ _ []
    refine h_aload_n C dX8_rowOfDay_18 0 rfl rfl ?_
    refine h_get C O8 5 kd_0 (by decide) wd_354 dX8_rowOfDay_19 fr_0_5 ?_
    refine h_aload_n C dX8_rowOfDay_22 0 rfl rfl ?_
    refine h_get C O8 1 kd_0 (by decide) wd_350 dX8_rowOfDay_23 fr_0_1 ?_
    refine h_callVN (As := [.ref (z + 3)]) (rest := []) C Z yyX4_pass nw_584 (tgX4_pass l D cy z _ 17 kd_17 hI4) kd_17 rfl rfl ⟨rfl, rfl, Nat.le_of_ble_eq_true rfl, Nat.le_of_ble_eq_true rfl⟩ ⟨Nat.le_of_ble_eq_true rfl, Nat.le_of_ble_eq_true rfl⟩ (Nat.le_of_ble_eq_true rfl) dX8_rowOfDay_26 (fun r5 τ5 hp5 => ?_)
    obtain ⟨rfl, hI5, hG5⟩ := hp5
    have hF5 : ∀ j i : Nat, 169 ≤ j → τ5 j i = σ j i := fun j i h_0 => (hG5 j i (by omega)).trans (hF4 j i h_0)
    show hpV _ _ _ _ _ _ _ _ _ _ _ _ _ _ _ _ _ _ _ _ _ []
    refine h_aload_n C dX8_rowOfDay_29 0 rfl rfl ?_
    refine h_iconst C dX8_rowOfDay_30 ?_
    refine h_put C O8 13 kd_0 (by decide) rfl wd_362 dX8_rowOfDay_31 (hp_nz (by omega)) rfl (hp_fvI (by rw [kd_0]; rfl) hpu_at) ?_
    obtain ⟨τ6, e6⟩ : ∃ μ : hpMem, μ = hpw τ5 0 13 1 := ⟨_, rfl⟩
    rw [← e6]
    have hI6 : hpInv τ6 := by rw [e6]; exact hI5.w (bf_8_13 kd_0) (by omega) (by omega)
    have hF6 : ∀ j i : Nat, 169 ≤ j → τ6 j i = σ j i := fun j i h_0 => by rw [e6]; exact (hpw_fr (by omega)).trans (hF5 j i h_0)
    have hg7 : τ6 0 13 = 1 := by rw [e6]; exact hpw_eq
    refine h_aload_n C dX8_rowOfDay_34 0 rfl rfl ?_
    refine h_get C O8 5 kd_0 (by decide) wd_354 dX8_rowOfDay_35 fr_0_5 ?_
    refine h_iload_n C dX8_rowOfDay_38 1 rfl rfl ?_
    refine h_callVN (As := [.int (hpI a0)]) (rest := []) C Z yyX4_at nw_634 (tgX4_at l D cy z _ 17 kd_17 a0 ⟨by omega, by omega⟩ hI6) kd_17 rfl rfl ⟨rfl, rfl, Nat.le_of_ble_eq_true rfl, Nat.le_of_ble_eq_true rfl⟩ ⟨Nat.le_of_ble_eq_true rfl, Nat.le_of_ble_eq_true rfl⟩ (Nat.le_of_ble_eq_true rfl) dX8_rowOfDay_39 (fun r8 τ8 hp8 => ?_)
    obtain ⟨⟨x8, rfl, hx8⟩, rfl⟩ := hp8
    have hl8 := kb_3 hx8
    show hpV _ _ _ _ _ _ _ _ _ _ _ _ _ _ _ _ _ _ _ _ _ (_ :: _)
    refine h_areturn C (Or.inl ⟨_, rfl⟩) hr hlk dX8_rowOfDay_42 ?_
    exact ⟨⟨_, rfl, hx8⟩, hI6, hF6⟩
abbrev rgX8_heapsAtLast : Room := { frames := 6, cells := 0, slots := 0, locals := 173 }
abbrev pgX8_heapsAtLast (z : Nat) (σ : hpMem) : Option Value → hpMem → Prop := fun r τ => (∃ x : Int, r = some (.int (hpI x)) ∧ (hpR x)) ∧ hpInv τ ∧ (∀ j i : Nat, 169 ≤ j → τ j i = σ j i)
set_option maxHeartbeats 4000000 in
set_option maxRecDepth 20000 in
theorem tgX8_heapsAtLast (l : Launch) (D : va_G) (cy : Nat → ClassId) (z : Nat) (σ : hpMem) (hI : hpInv σ) : hpM l D cy z yX8_heapsAtLast cX8_heapsAtLast 1 (some .int) rgX8_heapsAtLast [.ref (z + 0)] σ (pgX8_heapsAtLast z σ) := by
  refine hp_met rfl (Nat.le_of_ble_eq_true rfl) (fun p e s m below meth c C Z hr hlk => ?_)
  have hF0 : ∀ j i : Nat, 169 ≤ j → σ j i = σ j i := fun j i _ => rfl
  refine h_aload_n C dX8_heapsAtLast_0 0 rfl rfl ?_
  refine h_aload_n C dX8_heapsAtLast_1 0 rfl rfl ?_
  refine h_get C O8 1 kd_0 (by decide) wd_350 dX8_heapsAtLast_2 fr_0_1 ?_
  refine h_getN C O1 5 kd_3 (by decide) nw_85 dX8_heapsAtLast_5 (hp_fvI (by rw [kd_3]; rfl) rfl) ?_
  obtain ⟨hr1a, hr1b⟩ := hI.b (bf_1_5 kd_3)
  generalize hg1 : σ 3 5 = r1 at hr1a hr1b ⊢
  refine h_callV (As := [.int (hpI r1)]) (rest := []) C Z yyX8_rowOfDay wd_576 (tgX8_rowOfDay l D cy z _ r1 ⟨by omega, by omega⟩ hI) kd_0 rfl rfl ⟨rfl, rfl, Nat.le_of_ble_eq_true rfl, Nat.le_of_ble_eq_true rfl⟩ ⟨Nat.le_of_ble_eq_true rfl, Nat.le_of_ble_eq_true rfl⟩ (Nat.le_of_ble_eq_true rfl) dX8_heapsAtLast_8 (fun r2 τ2 hp2 => ?_)
  obtain ⟨⟨x2, rfl, hx2⟩, hI2, hG2⟩ := hp2
  have hF2 : ∀ j i : Nat, 169 ≤ j → τ2 j i = σ j i := fun j i h_0 => (hG2 j i (by omega)).trans (hF0 j i h_0)
  have hl2 := kb_3 hx2
  show hpV _ _ _ _ _ _ _ _ _ _ _ _ _ _ _ _ _ _ _ _ _ (_ :: _)
  refine h_getN C O3 3 hx2 (by decide) nw_164 dX8_heapsAtLast_11 (hp_fvI (by rw [hx2]; rfl) rfl) ?_
  obtain ⟨hr3a, hr3b⟩ := hI2.b (bf_3_3 hx2)
  generalize hg3 : τ2 x2 3 = r3 at hr3a hr3b ⊢
  refine h_ireturn C hr hlk dX8_heapsAtLast_14 ?_
  exact ⟨⟨_, rfl, ⟨by omega, by omega⟩⟩, hI2, hF2⟩
abbrev rgX8_firstLike : Room := { frames := 6, cells := 0, slots := 0, locals := 173 }
abbrev pgX8_firstLike (z : Nat) (σ : hpMem) (a0 : Int) : Option Value → hpMem → Prop := fun r τ => (∃ x : Int, r = some (.int (hpI x)) ∧ (hpR x)) ∧ hpInv τ ∧ (∀ j i : Nat, 169 ≤ j → τ j i = σ j i)
set_option maxHeartbeats 4000000 in
set_option maxRecDepth 20000 in
theorem tgX8_firstLike (l : Launch) (D : va_G) (cy : Nat → ClassId) (z : Nat) (σ : hpMem) (a0 : Int) (ha0 : hpR a0) (hI : hpInv σ) : hpM l D cy z yX8_firstLike cX8_firstLike 3 (some .int) rgX8_firstLike [.ref (z + 0), .int (hpI a0)] σ (pgX8_firstLike z σ a0) := by
  obtain ⟨ha01, ha02⟩ := ha0
  refine hp_met rfl (Nat.le_of_ble_eq_true rfl) (fun p e s m below meth c C Z hr hlk => ?_)
  have hF0 : ∀ j i : Nat, 169 ≤ j → σ j i = σ j i := fun j i _ => rfl
  refine h_iconst C dX8_firstLike_0 ?_
  refine h_istore_n (lv' := [(2, .int (hpI 0)), (0, .ref (z + 0)), (1, .int (hpI a0))]) C dX8_firstLike_1 rfl (by decide) rfl ?_
  have L1 : ∀ (n1 : Nat) (τ1 : hpMem) (w1_2 : Int), 0 ≤ w1_2 → w1_2 ≤ 2147483647 → hpInv τ1 → (∀ j i : Nat, 169 ≤ j → τ1 j i = σ j i) → (4294967296 - w1_2) < (n1 : Int) → hpF p l e rgX8_firstLike s m [.ref (z + 0), .int (hpI a0)] below meth c 3 D cy z (pgX8_firstLike z σ a0) τ1 2 [(0, .ref (z + 0)), (1, .int (hpI a0)), (2, .int (hpI w1_2))] [] := by
    intro n1
    induction n1 with
    | zero => intro τ1 w1_2 hv1_0 hv1_1 hI1 hF1 hm1; exfalso; omega
    | succ n1 ih1 =>
      intro τ1 w1_2 hv1_0 hv1_1 hI1 hF1 hm1
      refine h_iload_n C dX8_firstLike_2 2 rfl rfl ?_
      refine h_iload_n C dX8_firstLike_3 1 rfl rfl ?_
      refine h_icmp_ge (tgt := 29) C dX8_firstLike_4 (by decide) ⟨by omega, by omega⟩ ⟨by omega, by omega⟩ (fun h2 => ?_) (fun h2 => ?_)
      · refine h_iload_n C dX8_firstLike_29 2 rfl rfl ?_
        refine h_ireturn C hr hlk dX8_firstLike_30 ?_
        exact ⟨⟨_, rfl, ⟨by omega, by omega⟩⟩, hI1, hF1⟩
      · refine h_aload_n C dX8_firstLike_7 0 rfl rfl ?_
        refine h_iload_n C dX8_firstLike_8 2 rfl rfl ?_
        refine h_callV (As := [.int (hpI w1_2)]) (rest := []) C Z yyX8_rowOfDay wd_576 (tgX8_rowOfDay l D cy z _ w1_2 ⟨by omega, by omega⟩ hI1) kd_0 rfl rfl ⟨rfl, rfl, Nat.le_of_ble_eq_true rfl, Nat.le_of_ble_eq_true rfl⟩ ⟨Nat.le_of_ble_eq_true rfl, Nat.le_of_ble_eq_true rfl⟩ (Nat.le_of_ble_eq_true rfl) dX8_firstLike_9 (fun r3 τ3 hp3 => ?_)
        obtain ⟨⟨x3, rfl, hx3⟩, hI3, hG3⟩ := hp3
        have hF3 : ∀ j i : Nat, 169 ≤ j → τ3 j i = σ j i := fun j i h_0 => (hG3 j i (by omega)).trans (hF1 j i h_0)
        have hl3 := kb_3 hx3
        show hpV _ _ _ _ _ _ _ _ _ _ _ _ _ _ _ _ _ _ _ _ _ (_ :: _)
        refine h_aload_n C dX8_firstLike_12 0 rfl rfl ?_
        refine h_iload_n C dX8_firstLike_13 1 rfl rfl ?_
        refine h_callV (As := [.int (hpI a0)]) (rest := [.ref (z + x3)]) C Z yyX8_rowOfDay wd_576 (tgX8_rowOfDay l D cy z _ a0 ⟨by omega, by omega⟩ hI3) kd_0 rfl rfl ⟨rfl, rfl, Nat.le_of_ble_eq_true rfl, Nat.le_of_ble_eq_true rfl⟩ ⟨Nat.le_of_ble_eq_true rfl, Nat.le_of_ble_eq_true rfl⟩ (Nat.le_of_ble_eq_true rfl) dX8_firstLike_14 (fun r4 τ4 hp4 => ?_)
        obtain ⟨⟨x4, rfl, hx4⟩, hI4, hG4⟩ := hp4
        have hF4 : ∀ j i : Nat, 169 ≤ j → τ4 j i = σ j i := fun j i h_0 => (hG4 j i (by omega)).trans (hF3 j i h_0)
        have hl4 := kb_3 hx4
        show hpV _ _ _ _ _ _ _ _ _ _ _ _ _ _ _ _ _ _ _ _ _ (_ :: _)
        refine h_callVN (As := [.ref (z + x4)]) (rest := []) C Z yyX3_alike nw_722 (tgX3_alike l D cy z _ x3 hx3 x4 hx4 hI4) hx3 rfl rfl ⟨rfl, rfl, Nat.le_of_ble_eq_true rfl, Nat.le_of_ble_eq_true rfl⟩ ⟨Nat.le_of_ble_eq_true rfl, Nat.le_of_ble_eq_true rfl⟩ (Nat.le_of_ble_eq_true rfl) dX8_firstLike_17 (fun r5 τ5 hp5 => ?_)
        obtain ⟨⟨x5, rfl, ⟨hx5a, hx5b⟩⟩, rfl⟩ := hp5
        show hpV _ _ _ _ _ _ _ _ _ _ _ _ _ _ _ _ _ _ _ _ _ (_ :: _)
        refine h_if_ne (tgt := 29) C dX8_firstLike_20 (by decide) ⟨by omega, by omega⟩ (fun h6 => ?_) (fun h6 => ?_)
        · refine h_iload_n C dX8_firstLike_29 2 rfl rfl ?_
          refine h_ireturn C hr hlk dX8_firstLike_30 ?_
          exact ⟨⟨_, rfl, ⟨by omega, by omega⟩⟩, hI4, hF4⟩
        · refine h_iinc (lv' := [(2, .int (hpI (w1_2 + 1))), (0, .ref (z + 0)), (1, .int (hpI a0))]) C dX8_firstLike_23 2 rfl rfl (by decide) rfl ?_
          refine h_goto (tgt := 2) C dX8_firstLike_26 (by decide) ?_
          exact hp_sub [1, 2, 0] rfl (ih1 _ (w1_2 + 1) (by omega) (by omega) hI4 hF4 (by omega))
  exact hp_sub [1, 2, 0] rfl (L1 8589934592 _ 0 (by omega) (by omega) hI hF0 (by omega))
abbrev rgX8_heapsWithMore : Room := { frames := 5, cells := 0, slots := 0, locals := 152 }
abbrev pgX8_heapsWithMore (z : Nat) (σ : hpMem) (a0 : Int) (a1 : Int) : Option Value → hpMem → Prop := fun r τ => (∃ x : Int, r = some (.int (hpI x)) ∧ (hpR x)) ∧ hpInv τ ∧ (∀ j i : Nat, 169 ≤ j → τ j i = σ j i)
set_option maxHeartbeats 4000000 in
set_option maxRecDepth 20000 in
theorem tgX8_heapsWithMore (l : Launch) (D : va_G) (cy : Nat → ClassId) (z : Nat) (σ : hpMem) (a0 : Int) (ha0 : hpR a0) (a1 : Int) (ha1 : hpR a1) (hI : hpInv σ) : hpM l D cy z yX8_heapsWithMore cX8_heapsWithMore 3 (some .int) rgX8_heapsWithMore [.ref (z + 0), .int (hpI a0), .int (hpI a1)] σ (pgX8_heapsWithMore z σ a0 a1) := by
  obtain ⟨ha01, ha02⟩ := ha0
  obtain ⟨ha11, ha12⟩ := ha1
  refine hp_met rfl (Nat.le_of_ble_eq_true rfl) (fun p e s m below meth c C Z hr hlk => ?_)
  have hF0 : ∀ j i : Nat, 169 ≤ j → σ j i = σ j i := fun j i _ => rfl
  refine h_aload_n C dX8_heapsWithMore_0 0 rfl rfl ?_
  refine h_get C O8 6 kd_0 (by decide) wd_355 dX8_heapsWithMore_1 fr_0_6 ?_
  refine h_aload_n C dX8_heapsWithMore_4 0 rfl rfl ?_
  refine h_get C O8 1 kd_0 (by decide) wd_350 dX8_heapsWithMore_5 fr_0_1 ?_
  refine h_callVN (As := [.ref (z + 3)]) (rest := []) C Z yyX4_asTold nw_580 (tgX4_asTold l D cy z _ 70 kd_70 hI) kd_70 rfl rfl ⟨rfl, rfl, Nat.le_of_ble_eq_true rfl, Nat.le_of_ble_eq_true rfl⟩ ⟨Nat.le_of_ble_eq_true rfl, Nat.le_of_ble_eq_true rfl⟩ (Nat.le_of_ble_eq_true rfl) dX8_heapsWithMore_8 (fun r1 τ1 hp1 => ?_)
  obtain ⟨rfl, hI1, hG1⟩ := hp1
  have hF1 : ∀ j i : Nat, 169 ≤ j → τ1 j i = σ j i := fun j i h_0 => (hG1 j i (by omega)).trans (hF0 j i h_0)
  show hpV _ _ _ _ _ _ _ _ _ _ _ _ _ _ _ _ _ _ _ _ _ []
  refine h_aload_n C dX8_heapsWithMore_11 0 rfl rfl ?_
  refine h_get C O8 6 kd_0 (by decide) wd_355 dX8_heapsWithMore_12 fr_0_6 ?_
  refine h_iload_n C dX8_heapsWithMore_15 1 rfl rfl ?_
  refine h_putN C O4 5 kd_70 (by decide) rfl nw_189 dX8_heapsWithMore_16 rfl rfl (hp_fvI (by rw [kd_70]; rfl) hpu_at) ?_
  obtain ⟨τ2, e2⟩ : ∃ μ : hpMem, μ = hpw τ1 70 5 a0 := ⟨_, rfl⟩
  rw [← e2]
  have hI2 : hpInv τ2 := by rw [e2]; exact hI1.w (bf_4_5 kd_70) (by omega) (by omega)
  have hF2 : ∀ j i : Nat, 169 ≤ j → τ2 j i = σ j i := fun j i h_0 => by rw [e2]; exact (hpw_fr (by omega)).trans (hF1 j i h_0)
  have hg3 : τ2 70 5 = a0 := by rw [e2]; exact hpw_eq
  refine h_aload_n C dX8_heapsWithMore_19 0 rfl rfl ?_
  refine h_get C O8 6 kd_0 (by decide) wd_355 dX8_heapsWithMore_20 fr_0_6 ?_
  refine h_iload_n C dX8_heapsWithMore_23 2 rfl rfl ?_
  refine h_putN C O4 6 kd_70 (by decide) rfl nw_191 dX8_heapsWithMore_24 rfl rfl (hp_fvI (by rw [kd_70]; rfl) hpu_at) ?_
  obtain ⟨τ4, e4⟩ : ∃ μ : hpMem, μ = hpw τ2 70 6 a1 := ⟨_, rfl⟩
  rw [← e4]
  have hI4 : hpInv τ4 := by rw [e4]; exact hI2.w (bf_4_6 kd_70) (by omega) (by omega)
  have hF4 : ∀ j i : Nat, 169 ≤ j → τ4 j i = σ j i := fun j i h_0 => by rw [e4]; exact (hpw_fr (by omega)).trans (hF2 j i h_0)
  have hg5 : τ4 70 5 = a0 := by rw [e4]; exact (hpw_fr (Or.inr (by decide))).trans hg3
  have hg6 : τ4 70 6 = a1 := by rw [e4]; exact hpw_eq
  refine h_aload_n C dX8_heapsWithMore_27 0 rfl rfl ?_
  refine h_get C O8 6 kd_0 (by decide) wd_355 dX8_heapsWithMore_28 fr_0_6 ?_
  refine h_aload_n C dX8_heapsWithMore_31 0 rfl rfl ?_
  refine h_get C O8 1 kd_0 (by decide) wd_350 dX8_heapsWithMore_32 fr_0_1 ?_
  refine h_callVN (As := [.ref (z + 3)]) (rest := []) C Z yyX4_pass nw_584 (tgX4_pass l D cy z _ 70 kd_70 hI4) kd_70 rfl rfl ⟨rfl, rfl, Nat.le_of_ble_eq_true rfl, Nat.le_of_ble_eq_true rfl⟩ ⟨Nat.le_of_ble_eq_true rfl, Nat.le_of_ble_eq_true rfl⟩ (Nat.le_of_ble_eq_true rfl) dX8_heapsWithMore_35 (fun r7 τ7 hp7 => ?_)
  obtain ⟨rfl, hI7, hG7⟩ := hp7
  have hF7 : ∀ j i : Nat, 169 ≤ j → τ7 j i = σ j i := fun j i h_0 => (hG7 j i (by omega)).trans (hF4 j i h_0)
  show hpV _ _ _ _ _ _ _ _ _ _ _ _ _ _ _ _ _ _ _ _ _ []
  refine h_aload_n C dX8_heapsWithMore_38 0 rfl rfl ?_
  refine h_get C O8 6 kd_0 (by decide) wd_355 dX8_heapsWithMore_39 fr_0_6 ?_
  refine h_aload_n C dX8_heapsWithMore_42 0 rfl rfl ?_
  refine h_get C O8 1 kd_0 (by decide) wd_350 dX8_heapsWithMore_43 fr_0_1 ?_
  refine h_getN C O1 5 kd_3 (by decide) nw_85 dX8_heapsWithMore_46 (hp_fvI (by rw [kd_3]; rfl) rfl) ?_
  obtain ⟨hr8a, hr8b⟩ := hI7.b (bf_1_5 kd_3)
  generalize hg8 : τ7 3 5 = r8 at hr8a hr8b ⊢
  refine h_callVN (As := [.int (hpI r8)]) (rest := []) C Z yyX4_at nw_634 (tgX4_at l D cy z _ 70 kd_70 r8 ⟨by omega, by omega⟩ hI7) kd_70 rfl rfl ⟨rfl, rfl, Nat.le_of_ble_eq_true rfl, Nat.le_of_ble_eq_true rfl⟩ ⟨Nat.le_of_ble_eq_true rfl, Nat.le_of_ble_eq_true rfl⟩ (Nat.le_of_ble_eq_true rfl) dX8_heapsWithMore_49 (fun r9 τ9 hp9 => ?_)
  obtain ⟨⟨x9, rfl, hx9⟩, rfl⟩ := hp9
  have hl9 := kb_3 hx9
  show hpV _ _ _ _ _ _ _ _ _ _ _ _ _ _ _ _ _ _ _ _ _ (_ :: _)
  refine h_getN C O3 3 hx9 (by decide) nw_164 dX8_heapsWithMore_52 (hp_fvI (by rw [hx9]; rfl) rfl) ?_
  obtain ⟨hr10a, hr10b⟩ := hI7.b (bf_3_3 hx9)
  generalize hg10 : τ7 x9 3 = r10 at hr10a hr10b ⊢
  refine h_ireturn C hr hlk dX8_heapsWithMore_55 ?_
  exact ⟨⟨_, rfl, ⟨by omega, by omega⟩⟩, hI7, hF7⟩
abbrev rgX8_heapsWithSet : Room := { frames := 5, cells := 0, slots := 0, locals := 152 }
abbrev pgX8_heapsWithSet (z : Nat) (σ : hpMem) (a0 : Int) : Option Value → hpMem → Prop := fun r τ => (∃ x : Int, r = some (.int (hpI x)) ∧ (hpR x)) ∧ hpInv τ ∧ (∀ j i : Nat, 169 ≤ j → τ j i = σ j i)
set_option maxHeartbeats 4000000 in
set_option maxRecDepth 20000 in
theorem tgX8_heapsWithSet (l : Launch) (D : va_G) (cy : Nat → ClassId) (z : Nat) (σ : hpMem) (a0 : Int) (ha0 : hpR a0) (hI : hpInv σ) : hpM l D cy z yX8_heapsWithSet cX8_heapsWithSet 2 (some .int) rgX8_heapsWithSet [.ref (z + 0), .int (hpI a0)] σ (pgX8_heapsWithSet z σ a0) := by
  obtain ⟨ha01, ha02⟩ := ha0
  refine hp_met rfl (Nat.le_of_ble_eq_true rfl) (fun p e s m below meth c C Z hr hlk => ?_)
  have hF0 : ∀ j i : Nat, 169 ≤ j → σ j i = σ j i := fun j i _ => rfl
  refine h_aload_n C dX8_heapsWithSet_0 0 rfl rfl ?_
  refine h_get C O8 6 kd_0 (by decide) wd_355 dX8_heapsWithSet_1 fr_0_6 ?_
  refine h_aload_n C dX8_heapsWithSet_4 0 rfl rfl ?_
  refine h_get C O8 1 kd_0 (by decide) wd_350 dX8_heapsWithSet_5 fr_0_1 ?_
  refine h_callVN (As := [.ref (z + 3)]) (rest := []) C Z yyX4_asTold nw_580 (tgX4_asTold l D cy z _ 70 kd_70 hI) kd_70 rfl rfl ⟨rfl, rfl, Nat.le_of_ble_eq_true rfl, Nat.le_of_ble_eq_true rfl⟩ ⟨Nat.le_of_ble_eq_true rfl, Nat.le_of_ble_eq_true rfl⟩ (Nat.le_of_ble_eq_true rfl) dX8_heapsWithSet_8 (fun r1 τ1 hp1 => ?_)
  obtain ⟨rfl, hI1, hG1⟩ := hp1
  have hF1 : ∀ j i : Nat, 169 ≤ j → τ1 j i = σ j i := fun j i h_0 => (hG1 j i (by omega)).trans (hF0 j i h_0)
  show hpV _ _ _ _ _ _ _ _ _ _ _ _ _ _ _ _ _ _ _ _ _ []
  refine h_aload_n C dX8_heapsWithSet_11 0 rfl rfl ?_
  refine h_get C O8 6 kd_0 (by decide) wd_355 dX8_heapsWithSet_12 fr_0_6 ?_
  refine h_iload_n C dX8_heapsWithSet_15 1 rfl rfl ?_
  refine h_putN C O4 2 kd_70 (by decide) rfl nw_183 dX8_heapsWithSet_16 rfl rfl (hp_fvI (by rw [kd_70]; rfl) hpu_at) ?_
  obtain ⟨τ2, e2⟩ : ∃ μ : hpMem, μ = hpw τ1 70 2 a0 := ⟨_, rfl⟩
  rw [← e2]
  have hI2 : hpInv τ2 := by rw [e2]; exact hI1.w (bf_4_2 kd_70) (by omega) (by omega)
  have hF2 : ∀ j i : Nat, 169 ≤ j → τ2 j i = σ j i := fun j i h_0 => by rw [e2]; exact (hpw_fr (by omega)).trans (hF1 j i h_0)
  have hg3 : τ2 70 2 = a0 := by rw [e2]; exact hpw_eq
  refine h_aload_n C dX8_heapsWithSet_19 0 rfl rfl ?_
  refine h_get C O8 6 kd_0 (by decide) wd_355 dX8_heapsWithSet_20 fr_0_6 ?_
  refine h_aload_n C dX8_heapsWithSet_23 0 rfl rfl ?_
  refine h_get C O8 1 kd_0 (by decide) wd_350 dX8_heapsWithSet_24 fr_0_1 ?_
  refine h_callVN (As := [.ref (z + 3)]) (rest := []) C Z yyX4_pass nw_584 (tgX4_pass l D cy z _ 70 kd_70 hI2) kd_70 rfl rfl ⟨rfl, rfl, Nat.le_of_ble_eq_true rfl, Nat.le_of_ble_eq_true rfl⟩ ⟨Nat.le_of_ble_eq_true rfl, Nat.le_of_ble_eq_true rfl⟩ (Nat.le_of_ble_eq_true rfl) dX8_heapsWithSet_27 (fun r4 τ4 hp4 => ?_)
  obtain ⟨rfl, hI4, hG4⟩ := hp4
  have hF4 : ∀ j i : Nat, 169 ≤ j → τ4 j i = σ j i := fun j i h_0 => (hG4 j i (by omega)).trans (hF2 j i h_0)
  show hpV _ _ _ _ _ _ _ _ _ _ _ _ _ _ _ _ _ _ _ _ _ []
  refine h_aload_n C dX8_heapsWithSet_30 0 rfl rfl ?_
  refine h_get C O8 6 kd_0 (by decide) wd_355 dX8_heapsWithSet_31 fr_0_6 ?_
  refine h_aload_n C dX8_heapsWithSet_34 0 rfl rfl ?_
  refine h_get C O8 1 kd_0 (by decide) wd_350 dX8_heapsWithSet_35 fr_0_1 ?_
  refine h_getN C O1 5 kd_3 (by decide) nw_85 dX8_heapsWithSet_38 (hp_fvI (by rw [kd_3]; rfl) rfl) ?_
  obtain ⟨hr5a, hr5b⟩ := hI4.b (bf_1_5 kd_3)
  generalize hg5 : τ4 3 5 = r5 at hr5a hr5b ⊢
  refine h_callVN (As := [.int (hpI r5)]) (rest := []) C Z yyX4_at nw_634 (tgX4_at l D cy z _ 70 kd_70 r5 ⟨by omega, by omega⟩ hI4) kd_70 rfl rfl ⟨rfl, rfl, Nat.le_of_ble_eq_true rfl, Nat.le_of_ble_eq_true rfl⟩ ⟨Nat.le_of_ble_eq_true rfl, Nat.le_of_ble_eq_true rfl⟩ (Nat.le_of_ble_eq_true rfl) dX8_heapsWithSet_41 (fun r6 τ6 hp6 => ?_)
  obtain ⟨⟨x6, rfl, hx6⟩, rfl⟩ := hp6
  have hl6 := kb_3 hx6
  show hpV _ _ _ _ _ _ _ _ _ _ _ _ _ _ _ _ _ _ _ _ _ (_ :: _)
  refine h_getN C O3 3 hx6 (by decide) nw_164 dX8_heapsWithSet_44 (hp_fvI (by rw [hx6]; rfl) rfl) ?_
  obtain ⟨hr7a, hr7b⟩ := hI4.b (bf_3_3 hx6)
  generalize hg7 : τ4 x6 3 = r7 at hr7a hr7b ⊢
  refine h_ireturn C hr hlk dX8_heapsWithSet_47 ?_
  exact ⟨⟨_, rfl, ⟨by omega, by omega⟩⟩, hI4, hF4⟩
abbrev rgX8_heapsWithWet : Room := { frames := 5, cells := 0, slots := 0, locals := 152 }
abbrev pgX8_heapsWithWet (z : Nat) (σ : hpMem) (a0 : Int) : Option Value → hpMem → Prop := fun r τ => (∃ x : Int, r = some (.int (hpI x)) ∧ (hpR x)) ∧ hpInv τ ∧ (∀ j i : Nat, 169 ≤ j → τ j i = σ j i)
set_option maxHeartbeats 4000000 in
set_option maxRecDepth 20000 in
theorem tgX8_heapsWithWet (l : Launch) (D : va_G) (cy : Nat → ClassId) (z : Nat) (σ : hpMem) (a0 : Int) (ha0 : hpR a0) (hI : hpInv σ) : hpM l D cy z yX8_heapsWithWet cX8_heapsWithWet 2 (some .int) rgX8_heapsWithWet [.ref (z + 0), .int (hpI a0)] σ (pgX8_heapsWithWet z σ a0) := by
  obtain ⟨ha01, ha02⟩ := ha0
  refine hp_met rfl (Nat.le_of_ble_eq_true rfl) (fun p e s m below meth c C Z hr hlk => ?_)
  have hF0 : ∀ j i : Nat, 169 ≤ j → σ j i = σ j i := fun j i _ => rfl
  refine h_aload_n C dX8_heapsWithWet_0 0 rfl rfl ?_
  refine h_get C O8 6 kd_0 (by decide) wd_355 dX8_heapsWithWet_1 fr_0_6 ?_
  refine h_aload_n C dX8_heapsWithWet_4 0 rfl rfl ?_
  refine h_get C O8 1 kd_0 (by decide) wd_350 dX8_heapsWithWet_5 fr_0_1 ?_
  refine h_callVN (As := [.ref (z + 3)]) (rest := []) C Z yyX4_asTold nw_580 (tgX4_asTold l D cy z _ 70 kd_70 hI) kd_70 rfl rfl ⟨rfl, rfl, Nat.le_of_ble_eq_true rfl, Nat.le_of_ble_eq_true rfl⟩ ⟨Nat.le_of_ble_eq_true rfl, Nat.le_of_ble_eq_true rfl⟩ (Nat.le_of_ble_eq_true rfl) dX8_heapsWithWet_8 (fun r1 τ1 hp1 => ?_)
  obtain ⟨rfl, hI1, hG1⟩ := hp1
  have hF1 : ∀ j i : Nat, 169 ≤ j → τ1 j i = σ j i := fun j i h_0 => (hG1 j i (by omega)).trans (hF0 j i h_0)
  show hpV _ _ _ _ _ _ _ _ _ _ _ _ _ _ _ _ _ _ _ _ _ []
  refine h_aload_n C dX8_heapsWithWet_11 0 rfl rfl ?_
  refine h_get C O8 6 kd_0 (by decide) wd_355 dX8_heapsWithWet_12 fr_0_6 ?_
  refine h_iload_n C dX8_heapsWithWet_15 1 rfl rfl ?_
  refine h_putN C O4 4 kd_70 (by decide) rfl nw_187 dX8_heapsWithWet_16 rfl rfl (hp_fvI (by rw [kd_70]; rfl) hpu_at) ?_
  obtain ⟨τ2, e2⟩ : ∃ μ : hpMem, μ = hpw τ1 70 4 a0 := ⟨_, rfl⟩
  rw [← e2]
  have hI2 : hpInv τ2 := by rw [e2]; exact hI1.w (bf_4_4 kd_70) (by omega) (by omega)
  have hF2 : ∀ j i : Nat, 169 ≤ j → τ2 j i = σ j i := fun j i h_0 => by rw [e2]; exact (hpw_fr (by omega)).trans (hF1 j i h_0)
  have hg3 : τ2 70 4 = a0 := by rw [e2]; exact hpw_eq
  refine h_aload_n C dX8_heapsWithWet_19 0 rfl rfl ?_
  refine h_get C O8 6 kd_0 (by decide) wd_355 dX8_heapsWithWet_20 fr_0_6 ?_
  refine h_aload_n C dX8_heapsWithWet_23 0 rfl rfl ?_
  refine h_get C O8 1 kd_0 (by decide) wd_350 dX8_heapsWithWet_24 fr_0_1 ?_
  refine h_callVN (As := [.ref (z + 3)]) (rest := []) C Z yyX4_pass nw_584 (tgX4_pass l D cy z _ 70 kd_70 hI2) kd_70 rfl rfl ⟨rfl, rfl, Nat.le_of_ble_eq_true rfl, Nat.le_of_ble_eq_true rfl⟩ ⟨Nat.le_of_ble_eq_true rfl, Nat.le_of_ble_eq_true rfl⟩ (Nat.le_of_ble_eq_true rfl) dX8_heapsWithWet_27 (fun r4 τ4 hp4 => ?_)
  obtain ⟨rfl, hI4, hG4⟩ := hp4
  have hF4 : ∀ j i : Nat, 169 ≤ j → τ4 j i = σ j i := fun j i h_0 => (hG4 j i (by omega)).trans (hF2 j i h_0)
  show hpV _ _ _ _ _ _ _ _ _ _ _ _ _ _ _ _ _ _ _ _ _ []
  refine h_aload_n C dX8_heapsWithWet_30 0 rfl rfl ?_
  refine h_get C O8 6 kd_0 (by decide) wd_355 dX8_heapsWithWet_31 fr_0_6 ?_
  refine h_aload_n C dX8_heapsWithWet_34 0 rfl rfl ?_
  refine h_get C O8 1 kd_0 (by decide) wd_350 dX8_heapsWithWet_35 fr_0_1 ?_
  refine h_getN C O1 5 kd_3 (by decide) nw_85 dX8_heapsWithWet_38 (hp_fvI (by rw [kd_3]; rfl) rfl) ?_
  obtain ⟨hr5a, hr5b⟩ := hI4.b (bf_1_5 kd_3)
  generalize hg5 : τ4 3 5 = r5 at hr5a hr5b ⊢
  refine h_callVN (As := [.int (hpI r5)]) (rest := []) C Z yyX4_at nw_634 (tgX4_at l D cy z _ 70 kd_70 r5 ⟨by omega, by omega⟩ hI4) kd_70 rfl rfl ⟨rfl, rfl, Nat.le_of_ble_eq_true rfl, Nat.le_of_ble_eq_true rfl⟩ ⟨Nat.le_of_ble_eq_true rfl, Nat.le_of_ble_eq_true rfl⟩ (Nat.le_of_ble_eq_true rfl) dX8_heapsWithWet_41 (fun r6 τ6 hp6 => ?_)
  obtain ⟨⟨x6, rfl, hx6⟩, rfl⟩ := hp6
  have hl6 := kb_3 hx6
  show hpV _ _ _ _ _ _ _ _ _ _ _ _ _ _ _ _ _ _ _ _ _ (_ :: _)
  refine h_getN C O3 3 hx6 (by decide) nw_164 dX8_heapsWithWet_44 (hp_fvI (by rw [hx6]; rfl) rfl) ?_
  obtain ⟨hr7a, hr7b⟩ := hI4.b (bf_3_3 hx6)
  generalize hg7 : τ4 x6 3 = r7 at hr7a hr7b ⊢
  refine h_ireturn C hr hlk dX8_heapsWithWet_47 ?_
  exact ⟨⟨_, rfl, ⟨by omega, by omega⟩⟩, hI4, hF4⟩
abbrev rgX8_roundOf : Room := { frames := 6, cells := 0, slots := 0, locals := 173 }
abbrev pgX8_roundOf (z : Nat) (σ : hpMem) (a0 : Int) : Option Value → hpMem → Prop := fun r τ => r = some (.ref (z + 123)) ∧ hpInv τ ∧ (∀ j i : Nat, 169 ≤ j → τ j i = σ j i)
set_option maxHeartbeats 4000000 in
set_option maxRecDepth 20000 in
theorem tgX8_roundOf (l : Launch) (D : va_G) (cy : Nat → ClassId) (z : Nat) (σ : hpMem) (a0 : Int) (ha0 : hpR a0) (hI : hpInv σ) : hpM l D cy z yX8_roundOf cX8_roundOf 2 (some (.object "TurfHeaps$Round")) rgX8_roundOf [.ref (z + 0), .int (hpI a0)] σ (pgX8_roundOf z σ a0) := by
  obtain ⟨ha01, ha02⟩ := ha0
  refine hp_met rfl (Nat.le_of_ble_eq_true rfl) (fun p e s m below meth c C Z hr hlk => ?_)
  have hF0 : ∀ j i : Nat, 169 ≤ j → σ j i = σ j i := fun j i _ => rfl
  refine h_aload_n C dX8_roundOf_0 0 rfl rfl ?_
  refine h_get C O8 15 kd_0 (by decide) wd_364 dX8_roundOf_1 (hp_fvI (by rw [kd_0]; rfl) rfl) ?_
  obtain ⟨hr1a, hr1b⟩ := hI.b (bf_8_15 kd_0)
  generalize hg1 : σ 0 15 = r1 at hr1a hr1b ⊢
  refine h_iload_n C dX8_roundOf_4 1 rfl rfl ?_
  refine h_icmp_eq (tgt := 32) C dX8_roundOf_5 (by decide) ⟨by omega, by omega⟩ ⟨by omega, by omega⟩ (fun h2 => ?_) (fun h2 => ?_)
  · refine h_aload_n C dX8_roundOf_32 0 rfl rfl ?_
    refine h_get C O8 7 kd_0 (by decide) wd_356 dX8_roundOf_33 fr_0_7 ?_
    refine h_areturn C (Or.inl ⟨_, rfl⟩) hr hlk dX8_roundOf_36 ?_
    exact ⟨rfl, hI, hF0⟩
  · refine h_aload_n C dX8_roundOf_8 0 rfl rfl ?_
    refine h_get C O8 7 kd_0 (by decide) wd_356 dX8_roundOf_9 fr_0_7 ?_
    refine h_aload_n C dX8_roundOf_12 0 rfl rfl ?_
    refine h_iload_n C dX8_roundOf_13 1 rfl rfl ?_
    refine h_callV (As := [.int (hpI a0)]) (rest := [.ref (z + 123)]) C Z yyX8_rowOfDay wd_576 (tgX8_rowOfDay l D cy z _ a0 ⟨by omega, by omega⟩ hI) kd_0 rfl rfl ⟨rfl, rfl, Nat.le_of_ble_eq_true rfl, Nat.le_of_ble_eq_true rfl⟩ ⟨Nat.le_of_ble_eq_true rfl, Nat.le_of_ble_eq_true rfl⟩ (Nat.le_of_ble_eq_true rfl) dX8_roundOf_14 (fun r3 τ3 hp3 => ?_)
    obtain ⟨⟨x3, rfl, hx3⟩, hI3, hG3⟩ := hp3
    have hF3 : ∀ j i : Nat, 169 ≤ j → τ3 j i = σ j i := fun j i h_0 => (hG3 j i (by omega)).trans (hF0 j i h_0)
    have hl3 := kb_3 hx3
    show hpV _ _ _ _ _ _ _ _ _ _ _ _ _ _ _ _ _ _ _ _ _ (_ :: _)
    refine h_aload_n C dX8_roundOf_17 0 rfl rfl ?_
    refine h_get C O8 1 kd_0 (by decide) wd_350 dX8_roundOf_18 fr_0_1 ?_
    refine h_getN C O1 6 kd_3 (by decide) nw_89 dX8_roundOf_21 (hp_fvI (by rw [kd_3]; rfl) rfl) ?_
    obtain ⟨hr4a, hr4b⟩ := hI3.b (bf_1_6 kd_3)
    generalize hg4 : τ3 3 6 = r4 at hr4a hr4b ⊢
    refine h_callVN (As := [.ref (z + x3), .int (hpI r4)]) (rest := []) C Z yyX2_follow nw_793 (tgX2_follow l D cy z _ x3 hx3 r4 ⟨by omega, by omega⟩ hI3) kd_123 rfl rfl ⟨rfl, rfl, Nat.le_of_ble_eq_true rfl, Nat.le_of_ble_eq_true rfl⟩ ⟨Nat.le_of_ble_eq_true rfl, Nat.le_of_ble_eq_true rfl⟩ (Nat.le_of_ble_eq_true rfl) dX8_roundOf_24 (fun r5 τ5 hp5 => ?_)
    obtain ⟨rfl, hI5, hG5⟩ := hp5
    have hF5 : ∀ j i : Nat, 169 ≤ j → τ5 j i = σ j i := fun j i h_0 => (hG5 j i (by omega)).trans (hF3 j i h_0)
    show hpV _ _ _ _ _ _ _ _ _ _ _ _ _ _ _ _ _ _ _ _ _ []
    refine h_aload_n C dX8_roundOf_27 0 rfl rfl ?_
    refine h_iload_n C dX8_roundOf_28 1 rfl rfl ?_
    refine h_put C O8 15 kd_0 (by decide) rfl wd_364 dX8_roundOf_29 rfl rfl (hp_fvI (by rw [kd_0]; rfl) hpu_at) ?_
    obtain ⟨τ6, e6⟩ : ∃ μ : hpMem, μ = hpw τ5 0 15 a0 := ⟨_, rfl⟩
    rw [← e6]
    have hI6 : hpInv τ6 := by rw [e6]; exact hI5.w (bf_8_15 kd_0) (by omega) (by omega)
    have hF6 : ∀ j i : Nat, 169 ≤ j → τ6 j i = σ j i := fun j i h_0 => by rw [e6]; exact (hpw_fr (by omega)).trans (hF5 j i h_0)
    have hg7 : τ6 0 15 = a0 := by rw [e6]; exact hpw_eq
    refine h_aload_n C dX8_roundOf_32 0 rfl rfl ?_
    refine h_get C O8 7 kd_0 (by decide) wd_356 dX8_roundOf_33 fr_0_7 ?_
    refine h_areturn C (Or.inl ⟨_, rfl⟩) hr hlk dX8_roundOf_36 ?_
    exact ⟨rfl, hI6, hF6⟩
abbrev rgX8_everyOf : Room := { frames := 5, cells := 0, slots := 0, locals := 150 }
abbrev pgX8_everyOf (z : Nat) (σ : hpMem) (a0 : Int) : Option Value → hpMem → Prop := fun r τ => r = some (.ref (z + 130)) ∧ hpInv τ ∧ (∀ j i : Nat, 169 ≤ j → τ j i = σ j i)
set_option maxHeartbeats 4000000 in
set_option maxRecDepth 20000 in
theorem tgX8_everyOf (l : Launch) (D : va_G) (cy : Nat → ClassId) (z : Nat) (σ : hpMem) (a0 : Int) (ha0 : hpR a0) (hI : hpInv σ) : hpM l D cy z yX8_everyOf cX8_everyOf 2 (some (.object "TurfHeaps$Every")) rgX8_everyOf [.ref (z + 0), .int (hpI a0)] σ (pgX8_everyOf z σ a0) := by
  obtain ⟨ha01, ha02⟩ := ha0
  refine hp_met rfl (Nat.le_of_ble_eq_true rfl) (fun p e s m below meth c C Z hr hlk => ?_)
  have hF0 : ∀ j i : Nat, 169 ≤ j → σ j i = σ j i := fun j i _ => rfl
  refine h_aload_n C dX8_everyOf_0 0 rfl rfl ?_
  refine h_get C O8 8 kd_0 (by decide) wd_357 dX8_everyOf_1 fr_0_8 ?_
  refine h_iload_n C dX8_everyOf_4 1 rfl rfl ?_
  refine h_aload_n C dX8_everyOf_5 0 rfl rfl ?_
  refine h_get C O8 1 kd_0 (by decide) wd_350 dX8_everyOf_6 fr_0_1 ?_
  refine h_getN C O1 6 kd_3 (by decide) nw_89 dX8_everyOf_9 (hp_fvI (by rw [kd_3]; rfl) rfl) ?_
  obtain ⟨hr1a, hr1b⟩ := hI.b (bf_1_6 kd_3)
  generalize hg1 : σ 3 6 = r1 at hr1a hr1b ⊢
  refine h_callVN (As := [.int (hpI a0), .int (hpI r1)]) (rest := []) C Z yyX0_workOut nw_844 (tgX0_workOut l D cy z _ a0 ⟨by omega, by omega⟩ r1 ⟨by omega, by omega⟩ hI) kd_130 rfl rfl ⟨rfl, rfl, Nat.le_of_ble_eq_true rfl, Nat.le_of_ble_eq_true rfl⟩ ⟨Nat.le_of_ble_eq_true rfl, Nat.le_of_ble_eq_true rfl⟩ (Nat.le_of_ble_eq_true rfl) dX8_everyOf_12 (fun r2 τ2 hp2 => ?_)
  obtain ⟨rfl, hI2, hG2⟩ := hp2
  have hF2 : ∀ j i : Nat, 169 ≤ j → τ2 j i = σ j i := fun j i h_0 => (hG2 j i (by omega)).trans (hF0 j i h_0)
  show hpV _ _ _ _ _ _ _ _ _ _ _ _ _ _ _ _ _ _ _ _ _ []
  refine h_aload_n C dX8_everyOf_15 0 rfl rfl ?_
  refine h_get C O8 8 kd_0 (by decide) wd_357 dX8_everyOf_16 fr_0_8 ?_
  refine h_areturn C (Or.inl ⟨_, rfl⟩) hr hlk dX8_everyOf_19 ?_
  exact ⟨rfl, hI2, hF2⟩
abbrev rgX8_passByLaw : Room := { frames := 5, cells := 0, slots := 0, locals := 152 }
abbrev pgX8_passByLaw (z : Nat) (σ : hpMem) (a0 : Int) : Option Value → hpMem → Prop := fun r τ => (∃ x : Nat, r = some (.ref (z + x)) ∧ hpkd x = 3) ∧ hpInv τ ∧ (∀ j i : Nat, 169 ≤ j → τ j i = σ j i)
set_option maxHeartbeats 4000000 in
set_option maxRecDepth 20000 in
theorem tgX8_passByLaw (l : Launch) (D : va_G) (cy : Nat → ClassId) (z : Nat) (σ : hpMem) (a0 : Int) (ha0 : hpR a0) (hI : hpInv σ) : hpM l D cy z yX8_passByLaw cX8_passByLaw 2 (some (.object "TurfHeaps$Row")) rgX8_passByLaw [.ref (z + 0), .int (hpI a0)] σ (pgX8_passByLaw z σ a0) := by
  obtain ⟨ha01, ha02⟩ := ha0
  refine hp_met rfl (Nat.le_of_ble_eq_true rfl) (fun p e s m below meth c C Z hr hlk => ?_)
  have hF0 : ∀ j i : Nat, 169 ≤ j → σ j i = σ j i := fun j i _ => rfl
  refine h_aload_n C dX8_passByLaw_0 0 rfl rfl ?_
  refine h_get C O8 6 kd_0 (by decide) wd_355 dX8_passByLaw_1 fr_0_6 ?_
  refine h_aload_n C dX8_passByLaw_4 0 rfl rfl ?_
  refine h_get C O8 1 kd_0 (by decide) wd_350 dX8_passByLaw_5 fr_0_1 ?_
  refine h_callVN (As := [.ref (z + 3)]) (rest := []) C Z yyX4_asTold nw_580 (tgX4_asTold l D cy z _ 70 kd_70 hI) kd_70 rfl rfl ⟨rfl, rfl, Nat.le_of_ble_eq_true rfl, Nat.le_of_ble_eq_true rfl⟩ ⟨Nat.le_of_ble_eq_true rfl, Nat.le_of_ble_eq_true rfl⟩ (Nat.le_of_ble_eq_true rfl) dX8_passByLaw_8 (fun r1 τ1 hp1 => ?_)
  obtain ⟨rfl, hI1, hG1⟩ := hp1
  have hF1 : ∀ j i : Nat, 169 ≤ j → τ1 j i = σ j i := fun j i h_0 => (hG1 j i (by omega)).trans (hF0 j i h_0)
  show hpV _ _ _ _ _ _ _ _ _ _ _ _ _ _ _ _ _ _ _ _ _ []
  refine h_aload_n C dX8_passByLaw_11 0 rfl rfl ?_
  refine h_get C O8 6 kd_0 (by decide) wd_355 dX8_passByLaw_12 fr_0_6 ?_
  refine h_iload_n C dX8_passByLaw_15 1 rfl rfl ?_
  refine h_putN C O4 1 kd_70 (by decide) rfl nw_181 dX8_passByLaw_16 rfl rfl (hp_fvI (by rw [kd_70]; rfl) hpu_at) ?_
  obtain ⟨τ2, e2⟩ : ∃ μ : hpMem, μ = hpw τ1 70 1 a0 := ⟨_, rfl⟩
  rw [← e2]
  have hI2 : hpInv τ2 := by rw [e2]; exact hI1.w (bf_4_1 kd_70) (by omega) (by omega)
  have hF2 : ∀ j i : Nat, 169 ≤ j → τ2 j i = σ j i := fun j i h_0 => by rw [e2]; exact (hpw_fr (by omega)).trans (hF1 j i h_0)
  have hg3 : τ2 70 1 = a0 := by rw [e2]; exact hpw_eq
  refine h_aload_n C dX8_passByLaw_19 0 rfl rfl ?_
  refine h_get C O8 6 kd_0 (by decide) wd_355 dX8_passByLaw_20 fr_0_6 ?_
  refine h_aload_n C dX8_passByLaw_23 0 rfl rfl ?_
  refine h_get C O8 1 kd_0 (by decide) wd_350 dX8_passByLaw_24 fr_0_1 ?_
  refine h_callVN (As := [.ref (z + 3)]) (rest := []) C Z yyX4_pass nw_584 (tgX4_pass l D cy z _ 70 kd_70 hI2) kd_70 rfl rfl ⟨rfl, rfl, Nat.le_of_ble_eq_true rfl, Nat.le_of_ble_eq_true rfl⟩ ⟨Nat.le_of_ble_eq_true rfl, Nat.le_of_ble_eq_true rfl⟩ (Nat.le_of_ble_eq_true rfl) dX8_passByLaw_27 (fun r4 τ4 hp4 => ?_)
  obtain ⟨rfl, hI4, hG4⟩ := hp4
  have hF4 : ∀ j i : Nat, 169 ≤ j → τ4 j i = σ j i := fun j i h_0 => (hG4 j i (by omega)).trans (hF2 j i h_0)
  show hpV _ _ _ _ _ _ _ _ _ _ _ _ _ _ _ _ _ _ _ _ _ []
  refine h_aload_n C dX8_passByLaw_30 0 rfl rfl ?_
  refine h_get C O8 6 kd_0 (by decide) wd_355 dX8_passByLaw_31 fr_0_6 ?_
  refine h_aload_n C dX8_passByLaw_34 0 rfl rfl ?_
  refine h_get C O8 1 kd_0 (by decide) wd_350 dX8_passByLaw_35 fr_0_1 ?_
  refine h_getN C O1 5 kd_3 (by decide) nw_85 dX8_passByLaw_38 (hp_fvI (by rw [kd_3]; rfl) rfl) ?_
  obtain ⟨hr5a, hr5b⟩ := hI4.b (bf_1_5 kd_3)
  generalize hg5 : τ4 3 5 = r5 at hr5a hr5b ⊢
  refine h_callVN (As := [.int (hpI r5)]) (rest := []) C Z yyX4_at nw_634 (tgX4_at l D cy z _ 70 kd_70 r5 ⟨by omega, by omega⟩ hI4) kd_70 rfl rfl ⟨rfl, rfl, Nat.le_of_ble_eq_true rfl, Nat.le_of_ble_eq_true rfl⟩ ⟨Nat.le_of_ble_eq_true rfl, Nat.le_of_ble_eq_true rfl⟩ (Nat.le_of_ble_eq_true rfl) dX8_passByLaw_41 (fun r6 τ6 hp6 => ?_)
  obtain ⟨⟨x6, rfl, hx6⟩, rfl⟩ := hp6
  have hl6 := kb_3 hx6
  show hpV _ _ _ _ _ _ _ _ _ _ _ _ _ _ _ _ _ _ _ _ _ (_ :: _)
  refine h_areturn C (Or.inl ⟨_, rfl⟩) hr hlk dX8_passByLaw_44 ?_
  exact ⟨⟨_, rfl, hx6⟩, hI4, hF4⟩
abbrev rgX8_passLate : Room := { frames := 5, cells := 0, slots := 0, locals := 152 }
abbrev pgX8_passLate (z : Nat) (σ : hpMem) (a0 : Int) (a1 : Int) (a2 : Int) (a3 : Int) : Option Value → hpMem → Prop := fun r τ => (∃ x : Nat, r = some (.ref (z + x)) ∧ hpkd x = 3) ∧ hpInv τ ∧ (∀ j i : Nat, 169 ≤ j → τ j i = σ j i)
set_option maxHeartbeats 4000000 in
set_option maxRecDepth 20000 in
theorem tgX8_passLate (l : Launch) (D : va_G) (cy : Nat → ClassId) (z : Nat) (σ : hpMem) (a0 : Int) (ha0 : hpR a0) (a1 : Int) (ha1 : hpR a1) (a2 : Int) (ha2 : hpR a2) (a3 : Int) (ha3 : hpR a3) (hI : hpInv σ) : hpM l D cy z yX8_passLate cX8_passLate 5 (some (.object "TurfHeaps$Row")) rgX8_passLate [.ref (z + 0), .int (hpI a0), .int (hpI a1), .int (hpI a2), .int (hpI a3)] σ (pgX8_passLate z σ a0 a1 a2 a3) := by
  obtain ⟨ha01, ha02⟩ := ha0
  obtain ⟨ha11, ha12⟩ := ha1
  obtain ⟨ha21, ha22⟩ := ha2
  obtain ⟨ha31, ha32⟩ := ha3
  refine hp_met rfl (Nat.le_of_ble_eq_true rfl) (fun p e s m below meth c C Z hr hlk => ?_)
  have hF0 : ∀ j i : Nat, 169 ≤ j → σ j i = σ j i := fun j i _ => rfl
  refine h_aload_n C dX8_passLate_0 0 rfl rfl ?_
  refine h_get C O8 6 kd_0 (by decide) wd_355 dX8_passLate_1 fr_0_6 ?_
  refine h_aload_n C dX8_passLate_4 0 rfl rfl ?_
  refine h_get C O8 1 kd_0 (by decide) wd_350 dX8_passLate_5 fr_0_1 ?_
  refine h_callVN (As := [.ref (z + 3)]) (rest := []) C Z yyX4_asTold nw_580 (tgX4_asTold l D cy z _ 70 kd_70 hI) kd_70 rfl rfl ⟨rfl, rfl, Nat.le_of_ble_eq_true rfl, Nat.le_of_ble_eq_true rfl⟩ ⟨Nat.le_of_ble_eq_true rfl, Nat.le_of_ble_eq_true rfl⟩ (Nat.le_of_ble_eq_true rfl) dX8_passLate_8 (fun r1 τ1 hp1 => ?_)
  obtain ⟨rfl, hI1, hG1⟩ := hp1
  have hF1 : ∀ j i : Nat, 169 ≤ j → τ1 j i = σ j i := fun j i h_0 => (hG1 j i (by omega)).trans (hF0 j i h_0)
  show hpV _ _ _ _ _ _ _ _ _ _ _ _ _ _ _ _ _ _ _ _ _ []
  refine h_aload_n C dX8_passLate_11 0 rfl rfl ?_
  refine h_get C O8 6 kd_0 (by decide) wd_355 dX8_passLate_12 fr_0_6 ?_
  refine h_iload_n C dX8_passLate_15 3 rfl rfl ?_
  refine h_iload_n C dX8_passLate_16 1 rfl rfl ?_
  refine h_ishl_any C dX8_passLate_17 (fun r2 hr2 => ?_)
  obtain ⟨hr2a, hr2b⟩ := hr2
  refine h_iload C dX8_passLate_18 4 rfl ?_
  refine h_iload_n C dX8_passLate_20 2 rfl rfl ?_
  refine h_ishl_any C dX8_passLate_21 (fun r3 hr3 => ?_)
  obtain ⟨hr3a, hr3b⟩ := hr3
  refine h_ior_any C dX8_passLate_22 (fun r4 hr4 => ?_)
  obtain ⟨hr4a, hr4b⟩ := hr4
  refine h_putN C O4 3 kd_70 (by decide) rfl nw_185 dX8_passLate_23 rfl rfl (hp_fvI (by rw [kd_70]; rfl) hpu_at) ?_
  obtain ⟨τ5, e5⟩ : ∃ μ : hpMem, μ = hpw τ1 70 3 r4 := ⟨_, rfl⟩
  rw [← e5]
  have hI5 : hpInv τ5 := by rw [e5]; exact hI1.w (bf_4_3 kd_70) (by omega) (by omega)
  have hF5 : ∀ j i : Nat, 169 ≤ j → τ5 j i = σ j i := fun j i h_0 => by rw [e5]; exact (hpw_fr (by omega)).trans (hF1 j i h_0)
  have hg6 : τ5 70 3 = r4 := by rw [e5]; exact hpw_eq
  refine h_aload_n C dX8_passLate_26 0 rfl rfl ?_
  refine h_get C O8 6 kd_0 (by decide) wd_355 dX8_passLate_27 fr_0_6 ?_
  refine h_aload_n C dX8_passLate_30 0 rfl rfl ?_
  refine h_get C O8 1 kd_0 (by decide) wd_350 dX8_passLate_31 fr_0_1 ?_
  refine h_callVN (As := [.ref (z + 3)]) (rest := []) C Z yyX4_pass nw_584 (tgX4_pass l D cy z _ 70 kd_70 hI5) kd_70 rfl rfl ⟨rfl, rfl, Nat.le_of_ble_eq_true rfl, Nat.le_of_ble_eq_true rfl⟩ ⟨Nat.le_of_ble_eq_true rfl, Nat.le_of_ble_eq_true rfl⟩ (Nat.le_of_ble_eq_true rfl) dX8_passLate_34 (fun r7 τ7 hp7 => ?_)
  obtain ⟨rfl, hI7, hG7⟩ := hp7
  have hF7 : ∀ j i : Nat, 169 ≤ j → τ7 j i = σ j i := fun j i h_0 => (hG7 j i (by omega)).trans (hF5 j i h_0)
  show hpV _ _ _ _ _ _ _ _ _ _ _ _ _ _ _ _ _ _ _ _ _ []
  refine h_aload_n C dX8_passLate_37 0 rfl rfl ?_
  refine h_get C O8 6 kd_0 (by decide) wd_355 dX8_passLate_38 fr_0_6 ?_
  refine h_aload_n C dX8_passLate_41 0 rfl rfl ?_
  refine h_get C O8 1 kd_0 (by decide) wd_350 dX8_passLate_42 fr_0_1 ?_
  refine h_getN C O1 5 kd_3 (by decide) nw_85 dX8_passLate_45 (hp_fvI (by rw [kd_3]; rfl) rfl) ?_
  obtain ⟨hr8a, hr8b⟩ := hI7.b (bf_1_5 kd_3)
  generalize hg8 : τ7 3 5 = r8 at hr8a hr8b ⊢
  refine h_callVN (As := [.int (hpI r8)]) (rest := []) C Z yyX4_at nw_634 (tgX4_at l D cy z _ 70 kd_70 r8 ⟨by omega, by omega⟩ hI7) kd_70 rfl rfl ⟨rfl, rfl, Nat.le_of_ble_eq_true rfl, Nat.le_of_ble_eq_true rfl⟩ ⟨Nat.le_of_ble_eq_true rfl, Nat.le_of_ble_eq_true rfl⟩ (Nat.le_of_ble_eq_true rfl) dX8_passLate_48 (fun r9 τ9 hp9 => ?_)
  obtain ⟨⟨x9, rfl, hx9⟩, rfl⟩ := hp9
  have hl9 := kb_3 hx9
  show hpV _ _ _ _ _ _ _ _ _ _ _ _ _ _ _ _ _ _ _ _ _ (_ :: _)
  refine h_areturn C (Or.inl ⟨_, rfl⟩) hr hlk dX8_passLate_51 ?_
  exact ⟨⟨_, rfl, hx9⟩, hI7, hF7⟩
abbrev rgX8_payOfFirst : Room := { frames := 1, cells := 0, slots := 0, locals := 20 }
abbrev pgX8_payOfFirst (z : Nat) (σ : hpMem) (q : Nat) (a1 : Int) : Option Value → hpMem → Prop := fun r τ => (∃ x : Int, r = some (.int (hpI x)) ∧ (hpR x)) ∧ σ = τ
set_option maxHeartbeats 4000000 in
set_option maxRecDepth 20000 in
theorem tgX8_payOfFirst (l : Launch) (D : va_G) (cy : Nat → ClassId) (z : Nat) (σ : hpMem) (q : Nat) (hq : hpkd q = 3) (a1 : Int) (ha1 : hpR a1) (hI : hpInv σ) : hpM l D cy z yX8_payOfFirst cX8_payOfFirst 2 (some .int) rgX8_payOfFirst [.ref (z + q), .int (hpI a1)] σ (pgX8_payOfFirst z σ q a1) := by
  obtain ⟨ha11, ha12⟩ := ha1
  refine hp_met rfl (Nat.le_of_ble_eq_true rfl) (fun p e s m below meth c C Z hr hlk => ?_)
  have hl_q := kb_3 hq
  refine h_iconst C dX8_payOfFirst_0 ?_
  refine h_aload_n C dX8_payOfFirst_1 0 rfl rfl ?_
  refine h_getN C O3 3 hq (by decide) nw_164 dX8_payOfFirst_2 (hp_fvI (by rw [hq]; rfl) rfl) ?_
  obtain ⟨hr1a, hr1b⟩ := hI.b (bf_3_3 hq)
  generalize hg1 : σ q 3 = r1 at hr1a hr1b ⊢
  refine h_imul C dX8_payOfFirst_5 rfl ?_
  refine hp_anyI (fun r2 hr2 => ?_)
  obtain ⟨hr2a, hr2b⟩ := hr2
  refine h_aload_n C dX8_payOfFirst_6 0 rfl rfl ?_
  refine h_callVN (As := []) (rest := [.int (hpI r2)]) C Z yyX3_highest nw_663 (tgX3_highest l D cy z _ q hq hI) hq rfl rfl ⟨rfl, rfl, Nat.le_of_ble_eq_true rfl, Nat.le_of_ble_eq_true rfl⟩ ⟨Nat.le_of_ble_eq_true rfl, Nat.le_of_ble_eq_true rfl⟩ (Nat.le_of_ble_eq_true rfl) dX8_payOfFirst_7 (fun r3 τ3 hp3 => ?_)
  obtain ⟨⟨x3, rfl, ⟨hx3a, hx3b⟩⟩, rfl⟩ := hp3
  show hpV _ _ _ _ _ _ _ _ _ _ _ _ _ _ _ _ _ _ _ _ _ (_ :: _)
  refine h_iadd C dX8_payOfFirst_10 rfl ?_
  refine hp_anyI (fun r4 hr4 => ?_)
  obtain ⟨hr4a, hr4b⟩ := hr4
  refine h_iload_n C dX8_payOfFirst_11 1 rfl rfl ?_
  refine h_isub C dX8_payOfFirst_12 rfl ?_
  refine hp_anyI (fun r5 hr5 => ?_)
  obtain ⟨hr5a, hr5b⟩ := hr5
  refine h_ireturn C hr hlk dX8_payOfFirst_13 ?_
  exact ⟨⟨_, rfl, ⟨by omega, by omega⟩⟩, rfl⟩
abbrev rgX8_payOfSecond : Room := { frames := 1, cells := 0, slots := 0, locals := 20 }
abbrev pgX8_payOfSecond (z : Nat) (σ : hpMem) (q : Nat) (a1 : Int) : Option Value → hpMem → Prop := fun r τ => (∃ x : Int, r = some (.int (hpI x)) ∧ (hpR x)) ∧ σ = τ
set_option maxHeartbeats 4000000 in
set_option maxRecDepth 20000 in
theorem tgX8_payOfSecond (l : Launch) (D : va_G) (cy : Nat → ClassId) (z : Nat) (σ : hpMem) (q : Nat) (hq : hpkd q = 3) (a1 : Int) (ha1 : hpR a1) (hI : hpInv σ) : hpM l D cy z yX8_payOfSecond cX8_payOfSecond 2 (some .int) rgX8_payOfSecond [.ref (z + q), .int (hpI a1)] σ (pgX8_payOfSecond z σ q a1) := by
  obtain ⟨ha11, ha12⟩ := ha1
  refine hp_met rfl (Nat.le_of_ble_eq_true rfl) (fun p e s m below meth c C Z hr hlk => ?_)
  have hl_q := kb_3 hq
  refine h_aload_n C dX8_payOfSecond_0 0 rfl rfl ?_
  refine h_getN C O3 3 hq (by decide) nw_164 dX8_payOfSecond_1 (hp_fvI (by rw [hq]; rfl) rfl) ?_
  obtain ⟨hr1a, hr1b⟩ := hI.b (bf_3_3 hq)
  generalize hg1 : σ q 3 = r1 at hr1a hr1b ⊢
  refine h_iconst C dX8_payOfSecond_4 ?_
  refine h_aload_n C dX8_payOfSecond_5 0 rfl rfl ?_
  refine h_callVN (As := []) (rest := [.int (hpI 2), .int (hpI r1)]) C Z yyX3_highest nw_663 (tgX3_highest l D cy z _ q hq hI) hq rfl rfl ⟨rfl, rfl, Nat.le_of_ble_eq_true rfl, Nat.le_of_ble_eq_true rfl⟩ ⟨Nat.le_of_ble_eq_true rfl, Nat.le_of_ble_eq_true rfl⟩ (Nat.le_of_ble_eq_true rfl) dX8_payOfSecond_6 (fun r2 τ2 hp2 => ?_)
  obtain ⟨⟨x2, rfl, ⟨hx2a, hx2b⟩⟩, rfl⟩ := hp2
  show hpV _ _ _ _ _ _ _ _ _ _ _ _ _ _ _ _ _ _ _ _ _ (_ :: _)
  refine h_imul C dX8_payOfSecond_9 rfl ?_
  refine hp_anyI (fun r3 hr3 => ?_)
  obtain ⟨hr3a, hr3b⟩ := hr3
  refine h_iadd C dX8_payOfSecond_10 rfl ?_
  refine hp_anyI (fun r4 hr4 => ?_)
  obtain ⟨hr4a, hr4b⟩ := hr4
  refine h_iload_n C dX8_payOfSecond_11 1 rfl rfl ?_
  refine h_isub C dX8_payOfSecond_12 rfl ?_
  refine hp_anyI (fun r5 hr5 => ?_)
  obtain ⟨hr5a, hr5b⟩ := hr5
  refine h_ireturn C hr hlk dX8_payOfSecond_13 ?_
  exact ⟨⟨_, rfl, ⟨by omega, by omega⟩⟩, rfl⟩
abbrev rgX8_act : Room := { frames := 6, cells := 0, slots := 0, locals := 173 }
abbrev pgX8_act (z : Nat) (σ : hpMem) (a0 : Int) (a1 : Int) : Option Value → hpMem → Prop := fun r τ => (∃ x : Int, r = some (.int (hpI x)) ∧ (hpR x)) ∧ hpInv τ ∧ (∀ j i : Nat, 169 ≤ j → τ j i = σ j i)
set_option maxHeartbeats 4000000 in
set_option maxRecDepth 20000 in
theorem tgX8_act (l : Launch) (D : va_G) (cy : Nat → ClassId) (z : Nat) (σ : hpMem) (a0 : Int) (ha0 : hpR a0) (a1 : Int) (ha1 : hpR a1) (hI : hpInv σ) : hpM l D cy z yX8_act cX8_act 3 (some .int) rgX8_act [.ref (z + 0), .int (hpI a0), .int (hpI a1)] σ (pgX8_act z σ a0 a1) := by
  obtain ⟨ha01, ha02⟩ := ha0
  obtain ⟨ha11, ha12⟩ := ha1
  refine hp_met rfl (Nat.le_of_ble_eq_true rfl) (fun p e s m below meth c C Z hr hlk => ?_)
  have hF0 : ∀ j i : Nat, 169 ≤ j → σ j i = σ j i := fun j i _ => rfl
  refine h_aload_n C dX8_act_0 0 rfl rfl ?_
  refine h_get C O8 1 kd_0 (by decide) wd_350 dX8_act_1 fr_0_1 ?_
  refine h_getN C O1 11 kd_3 (by decide) nw_106 dX8_act_4 (hp_fvI (by rw [kd_3]; rfl) rfl) ?_
  obtain ⟨hr1a, hr1b⟩ := hI.b (bf_1_11 kd_3)
  generalize hg1 : σ 3 11 = r1 at hr1a hr1b ⊢
  refine h_bipush C dX8_act_7 (by decide) ?_
  refine h_icmp_lt (tgt := 15) C dX8_act_9 (by decide) ⟨by omega, by omega⟩ ⟨by decide, by decide⟩ (fun h2 => ?_) (fun h2 => ?_)
  · refine h_aload_n C dX8_act_15 0 rfl rfl ?_
    refine h_get C O8 1 kd_0 (by decide) wd_350 dX8_act_16 fr_0_1 ?_
    refine h_getN C O1 4 kd_3 (by decide) nw_81 dX8_act_19 fr_3_4 ?_
    refine h_aload_n C dX8_act_22 0 rfl rfl ?_
    refine h_get C O8 1 kd_0 (by decide) wd_350 dX8_act_23 fr_0_1 ?_
    refine h_getN C O1 11 kd_3 (by decide) nw_106 dX8_act_26 (hp_fvI (by rw [kd_3]; rfl) rfl) ?_
    rw [hg1]
    refine h_iload_n C dX8_act_29 1 rfl rfl ?_
    refine h_iastore C dX8_act_30 kd_8 (r1).toNat (Int.toNat_of_nonneg (by omega)) (by rw [ln_8]; omega) ?_
    obtain ⟨τ3, e3⟩ : ∃ μ : hpMem, μ = hpw σ 8 ((r1).toNat) a0 := ⟨_, rfl⟩
    rw [← e3]
    have hI3 : hpInv τ3 := by rw [e3]; exact hI.w (bo_8 _) (by omega) (by omega)
    have hF3 : ∀ j i : Nat, 169 ≤ j → τ3 j i = σ j i := fun j i h_0 => by rw [e3]; exact (hpw_fr (by omega)).trans (hF0 j i h_0)
    have hg4 : τ3 3 11 = r1 := by rw [e3]; exact (hpw_fr (Or.inl (by omega))).trans hg1
    refine h_aload_n C dX8_act_31 0 rfl rfl ?_
    refine h_get C O8 1 kd_0 (by decide) wd_350 dX8_act_32 fr_0_1 ?_
    refine h_getN C O1 3 kd_3 (by decide) nw_78 dX8_act_35 fr_3_3 ?_
    refine h_aload_n C dX8_act_38 0 rfl rfl ?_
    refine h_get C O8 1 kd_0 (by decide) wd_350 dX8_act_39 fr_0_1 ?_
    refine h_getN C O1 11 kd_3 (by decide) nw_106 dX8_act_42 (hp_fvI (by rw [kd_3]; rfl) rfl) ?_
    rw [hg4]
    refine h_iload_n C dX8_act_45 2 rfl rfl ?_
    refine h_iastore C dX8_act_46 kd_7 (r1).toNat (Int.toNat_of_nonneg (by omega)) (by rw [ln_7]; omega) ?_
    obtain ⟨τ5, e5⟩ : ∃ μ : hpMem, μ = hpw τ3 7 ((r1).toNat) a1 := ⟨_, rfl⟩
    rw [← e5]
    have hI5 : hpInv τ5 := by rw [e5]; exact hI3.w (bo_7 _) (by omega) (by omega)
    have hF5 : ∀ j i : Nat, 169 ≤ j → τ5 j i = σ j i := fun j i h_0 => by rw [e5]; exact (hpw_fr (by omega)).trans (hF3 j i h_0)
    have hg6 : τ5 3 11 = r1 := by rw [e5]; exact (hpw_fr (Or.inl (by omega))).trans hg4
    refine h_aload_n C dX8_act_47 0 rfl rfl ?_
    refine h_get C O8 1 kd_0 (by decide) wd_350 dX8_act_48 fr_0_1 ?_
    refine h_dup C rfl dX8_act_51 ?_
    refine h_getN C O1 11 kd_3 (by decide) nw_106 dX8_act_52 (hp_fvI (by rw [kd_3]; rfl) rfl) ?_
    rw [hg6]
    refine h_iconst C dX8_act_55 ?_
    refine h_iadd C dX8_act_56 rfl ?_
    refine h_putN C O1 11 kd_3 (by decide) rfl nw_106 dX8_act_57 rfl rfl (hp_fvI (by rw [kd_3]; rfl) hpu_at) ?_
    obtain ⟨τ7, e7⟩ : ∃ μ : hpMem, μ = hpw τ5 3 11 (r1 + 1) := ⟨_, rfl⟩
    rw [← e7]
    have hI7 : hpInv τ7 := by rw [e7]; exact hI5.w (bf_1_11 kd_3) (by omega) (by omega)
    have hF7 : ∀ j i : Nat, 169 ≤ j → τ7 j i = σ j i := fun j i h_0 => by rw [e7]; exact (hpw_fr (by omega)).trans (hF5 j i h_0)
    have hg8 : τ7 3 11 = r1 + 1 := by rw [e7]; exact hpw_eq
    refine h_aload_n C dX8_act_60 0 rfl rfl ?_
    refine h_callV (As := []) (rest := []) C Z yyX8_forget wd_537 (tgX8_forget l D cy z _ hI7) kd_0 rfl rfl ⟨rfl, rfl, Nat.le_of_ble_eq_true rfl, Nat.le_of_ble_eq_true rfl⟩ ⟨Nat.le_of_ble_eq_true rfl, Nat.le_of_ble_eq_true rfl⟩ (Nat.le_of_ble_eq_true rfl) dX8_act_61 (fun r9 τ9 hp9 => ?_)
    obtain ⟨rfl, hI9, hG9⟩ := hp9
    have hF9 : ∀ j i : Nat, 169 ≤ j → τ9 j i = σ j i := fun j i h_0 => (hG9 j i (by omega)).trans (hF7 j i h_0)
    show hpV _ _ _ _ _ _ _ _ _ _ _ _ _ _ _ _ _ _ _ _ _ []
    refine h_aload_n C dX8_act_64 0 rfl rfl ?_
    refine h_aload_n C dX8_act_65 0 rfl rfl ?_
    refine h_get C O8 1 kd_0 (by decide) wd_350 dX8_act_66 fr_0_1 ?_
    refine h_getN C O1 5 kd_3 (by decide) nw_85 dX8_act_69 (hp_fvI (by rw [kd_3]; rfl) rfl) ?_
    obtain ⟨hr10a, hr10b⟩ := hI9.b (bf_1_5 kd_3)
    generalize hg10 : τ9 3 5 = r10 at hr10a hr10b ⊢
    refine h_callV (As := [.int (hpI r10)]) (rest := []) C Z yyX8_rowOfDay wd_576 (tgX8_rowOfDay l D cy z _ r10 ⟨by omega, by omega⟩ hI9) kd_0 rfl rfl ⟨rfl, rfl, Nat.le_of_ble_eq_true rfl, Nat.le_of_ble_eq_true rfl⟩ ⟨Nat.le_of_ble_eq_true rfl, Nat.le_of_ble_eq_true rfl⟩ (Nat.le_of_ble_eq_true rfl) dX8_act_72 (fun r11 τ11 hp11 => ?_)
    obtain ⟨⟨x11, rfl, hx11⟩, hI11, hG11⟩ := hp11
    have hF11 : ∀ j i : Nat, 169 ≤ j → τ11 j i = σ j i := fun j i h_0 => (hG11 j i (by omega)).trans (hF9 j i h_0)
    have hl11 := kb_3 hx11
    show hpV _ _ _ _ _ _ _ _ _ _ _ _ _ _ _ _ _ _ _ _ _ (_ :: _)
    refine h_getN C O3 3 hx11 (by decide) nw_164 dX8_act_75 (hp_fvI (by rw [hx11]; rfl) rfl) ?_
    obtain ⟨hr12a, hr12b⟩ := hI11.b (bf_3_3 hx11)
    generalize hg12 : τ11 x11 3 = r12 at hr12a hr12b ⊢
    refine h_ireturn C hr hlk dX8_act_78 ?_
    exact ⟨⟨_, rfl, ⟨by omega, by omega⟩⟩, hI11, hF11⟩
  · refine h_bipush C dX8_act_12 (by decide) ?_
    refine h_ireturn C hr hlk dX8_act_14 ?_
    exact ⟨⟨_, rfl, ⟨by decide, by decide⟩⟩, hI, hF0⟩
abbrev rgX8_feed : Room := { frames := 1, cells := 0, slots := 0, locals := 22 }
abbrev pgX8_feed (z : Nat) (σ : hpMem) (a0 : Int) (a1 : Int) (a2 : Int) (a3 : Int) (a4 : Int) : Option Value → hpMem → Prop := fun r τ => (∃ x : Int, r = some (.int (hpI x)) ∧ (hpR x)) ∧ hpInv τ ∧ (∀ j i : Nat, 169 ≤ j → τ j i = σ j i)
set_option maxHeartbeats 4000000 in
set_option maxRecDepth 20000 in
theorem tgX8_feed (l : Launch) (D : va_G) (cy : Nat → ClassId) (z : Nat) (σ : hpMem) (a0 : Int) (ha0 : hpR a0) (a1 : Int) (ha1 : hpR a1) (a2 : Int) (ha2 : hpR a2) (a3 : Int) (ha3 : hpR a3) (a4 : Int) (ha4 : hpR a4) (hI : hpInv σ) : hpM l D cy z yX8_feed cX8_feed 6 (some .int) rgX8_feed [.ref (z + 0), .int (hpI a0), .int (hpI a1), .int (hpI a2), .int (hpI a3), .int (hpI a4)] σ (pgX8_feed z σ a0 a1 a2 a3 a4) := by
  obtain ⟨ha01, ha02⟩ := ha0
  obtain ⟨ha11, ha12⟩ := ha1
  obtain ⟨ha21, ha22⟩ := ha2
  obtain ⟨ha31, ha32⟩ := ha3
  obtain ⟨ha41, ha42⟩ := ha4
  refine hp_met rfl (Nat.le_of_ble_eq_true rfl) (fun p e s m below meth c C Z hr hlk => ?_)
  have hF0 : ∀ j i : Nat, 169 ≤ j → σ j i = σ j i := fun j i _ => rfl
  refine h_aload_n C dX8_feed_0 0 rfl rfl ?_
  refine h_get C O8 0 kd_0 (by decide) wd_349 dX8_feed_1 fr_0_0 ?_
  refine h_getN C O7 1 kd_1 (by decide) nw_33 dX8_feed_4 (hp_fvI (by rw [kd_1]; rfl) rfl) ?_
  obtain ⟨hr1a, hr1b⟩ := hI.b (bf_7_1 kd_1)
  generalize hg1 : σ 1 1 = r1 at hr1a hr1b ⊢
  refine h_bipush C dX8_feed_7 (by decide) ?_
  refine h_iadd C dX8_feed_9 rfl ?_
  refine h_sipush C dX8_feed_10 (by decide) ?_
  refine h_icmp_le (tgt := 18) C dX8_feed_13 (by decide) ⟨by omega, by omega⟩ ⟨by decide, by decide⟩ (fun h2 => ?_) (fun h2 => ?_)
  · refine h_aload_n C dX8_feed_18 0 rfl rfl ?_
    refine h_get C O8 0 kd_0 (by decide) wd_349 dX8_feed_19 fr_0_0 ?_
    refine h_iload_n C dX8_feed_22 1 rfl rfl ?_
    refine h_callVN (As := [.int (hpI a0)]) (rest := []) C Z yyX7_put nw_402 (tgX7_put l D cy z _ a0 ⟨by omega, by omega⟩ hI) kd_1 rfl rfl ⟨rfl, rfl, Nat.le_of_ble_eq_true rfl, Nat.le_of_ble_eq_true rfl⟩ ⟨Nat.le_of_ble_eq_true rfl, Nat.le_of_ble_eq_true rfl⟩ (Nat.le_of_ble_eq_true rfl) dX8_feed_23 (fun r3 τ3 hp3 => ?_)
    obtain ⟨rfl, hI3, hG3⟩ := hp3
    have hF3 : ∀ j i : Nat, 169 ≤ j → τ3 j i = σ j i := fun j i h_0 => (hG3 j i (by omega)).trans (hF0 j i h_0)
    show hpV _ _ _ _ _ _ _ _ _ _ _ _ _ _ _ _ _ _ _ _ _ []
    refine h_aload_n C dX8_feed_26 0 rfl rfl ?_
    refine h_get C O8 0 kd_0 (by decide) wd_349 dX8_feed_27 fr_0_0 ?_
    refine h_iload_n C dX8_feed_30 2 rfl rfl ?_
    refine h_callVN (As := [.int (hpI a1)]) (rest := []) C Z yyX7_put nw_402 (tgX7_put l D cy z _ a1 ⟨by omega, by omega⟩ hI3) kd_1 rfl rfl ⟨rfl, rfl, Nat.le_of_ble_eq_true rfl, Nat.le_of_ble_eq_true rfl⟩ ⟨Nat.le_of_ble_eq_true rfl, Nat.le_of_ble_eq_true rfl⟩ (Nat.le_of_ble_eq_true rfl) dX8_feed_31 (fun r4 τ4 hp4 => ?_)
    obtain ⟨rfl, hI4, hG4⟩ := hp4
    have hF4 : ∀ j i : Nat, 169 ≤ j → τ4 j i = σ j i := fun j i h_0 => (hG4 j i (by omega)).trans (hF3 j i h_0)
    show hpV _ _ _ _ _ _ _ _ _ _ _ _ _ _ _ _ _ _ _ _ _ []
    refine h_aload_n C dX8_feed_34 0 rfl rfl ?_
    refine h_get C O8 0 kd_0 (by decide) wd_349 dX8_feed_35 fr_0_0 ?_
    refine h_iload_n C dX8_feed_38 3 rfl rfl ?_
    refine h_callVN (As := [.int (hpI a2)]) (rest := []) C Z yyX7_put nw_402 (tgX7_put l D cy z _ a2 ⟨by omega, by omega⟩ hI4) kd_1 rfl rfl ⟨rfl, rfl, Nat.le_of_ble_eq_true rfl, Nat.le_of_ble_eq_true rfl⟩ ⟨Nat.le_of_ble_eq_true rfl, Nat.le_of_ble_eq_true rfl⟩ (Nat.le_of_ble_eq_true rfl) dX8_feed_39 (fun r5 τ5 hp5 => ?_)
    obtain ⟨rfl, hI5, hG5⟩ := hp5
    have hF5 : ∀ j i : Nat, 169 ≤ j → τ5 j i = σ j i := fun j i h_0 => (hG5 j i (by omega)).trans (hF4 j i h_0)
    show hpV _ _ _ _ _ _ _ _ _ _ _ _ _ _ _ _ _ _ _ _ _ []
    refine h_aload_n C dX8_feed_42 0 rfl rfl ?_
    refine h_get C O8 0 kd_0 (by decide) wd_349 dX8_feed_43 fr_0_0 ?_
    refine h_iload C dX8_feed_46 4 rfl ?_
    refine h_callVN (As := [.int (hpI a3)]) (rest := []) C Z yyX7_put nw_402 (tgX7_put l D cy z _ a3 ⟨by omega, by omega⟩ hI5) kd_1 rfl rfl ⟨rfl, rfl, Nat.le_of_ble_eq_true rfl, Nat.le_of_ble_eq_true rfl⟩ ⟨Nat.le_of_ble_eq_true rfl, Nat.le_of_ble_eq_true rfl⟩ (Nat.le_of_ble_eq_true rfl) dX8_feed_48 (fun r6 τ6 hp6 => ?_)
    obtain ⟨rfl, hI6, hG6⟩ := hp6
    have hF6 : ∀ j i : Nat, 169 ≤ j → τ6 j i = σ j i := fun j i h_0 => (hG6 j i (by omega)).trans (hF5 j i h_0)
    show hpV _ _ _ _ _ _ _ _ _ _ _ _ _ _ _ _ _ _ _ _ _ []
    refine h_aload_n C dX8_feed_51 0 rfl rfl ?_
    refine h_get C O8 0 kd_0 (by decide) wd_349 dX8_feed_52 fr_0_0 ?_
    refine h_iload C dX8_feed_55 5 rfl ?_
    refine h_callVN (As := [.int (hpI a4)]) (rest := []) C Z yyX7_put nw_402 (tgX7_put l D cy z _ a4 ⟨by omega, by omega⟩ hI6) kd_1 rfl rfl ⟨rfl, rfl, Nat.le_of_ble_eq_true rfl, Nat.le_of_ble_eq_true rfl⟩ ⟨Nat.le_of_ble_eq_true rfl, Nat.le_of_ble_eq_true rfl⟩ (Nat.le_of_ble_eq_true rfl) dX8_feed_57 (fun r7 τ7 hp7 => ?_)
    obtain ⟨rfl, hI7, hG7⟩ := hp7
    have hF7 : ∀ j i : Nat, 169 ≤ j → τ7 j i = σ j i := fun j i h_0 => (hG7 j i (by omega)).trans (hF6 j i h_0)
    show hpV _ _ _ _ _ _ _ _ _ _ _ _ _ _ _ _ _ _ _ _ _ []
    refine h_aload_n C dX8_feed_60 0 rfl rfl ?_
    refine h_get C O8 0 kd_0 (by decide) wd_349 dX8_feed_61 fr_0_0 ?_
    refine h_getN C O7 1 kd_1 (by decide) nw_33 dX8_feed_64 (hp_fvI (by rw [kd_1]; rfl) rfl) ?_
    obtain ⟨hr8a, hr8b⟩ := hI7.b (bf_7_1 kd_1)
    generalize hg8 : τ7 1 1 = r8 at hr8a hr8b ⊢
    refine h_ireturn C hr hlk dX8_feed_67 ?_
    exact ⟨⟨_, rfl, ⟨by omega, by omega⟩⟩, hI7, hF7⟩
  · refine h_iconst C dX8_feed_16 ?_
    refine h_ireturn C hr hlk dX8_feed_17 ?_
    exact ⟨⟨_, rfl, ⟨by decide, by decide⟩⟩, hI, hF0⟩
abbrev rgX8_end : Room := { frames := 0, cells := 0, slots := 0, locals := 0 }
abbrev pgX8_end (z : Nat) (σ : hpMem) (a0 : Int) : Option Value → hpMem → Prop := fun r τ => (∃ x : Int, r = some (.int (hpI x)) ∧ (hpR x)) ∧ hpInv τ ∧ (∀ j i : Nat, 169 ≤ j → τ j i = σ j i)
set_option maxHeartbeats 4000000 in
set_option maxRecDepth 20000 in
theorem tgX8_end (l : Launch) (D : va_G) (cy : Nat → ClassId) (z : Nat) (σ : hpMem) (a0 : Int) (ha0 : hpR a0) (hI : hpInv σ) : hpM l D cy z yX8_end cX8_end 2 (some .int) rgX8_end [.ref (z + 0), .int (hpI a0)] σ (pgX8_end z σ a0) := by
  obtain ⟨ha01, ha02⟩ := ha0
  refine hp_met rfl (Nat.le_of_ble_eq_true rfl) (fun p e s m below meth c C Z hr hlk => ?_)
  have hF0 : ∀ j i : Nat, 169 ≤ j → σ j i = σ j i := fun j i _ => rfl
  refine h_iload_n C dX8_end_0 1 rfl rfl ?_
  refine h_if_lt (tgt := 15) C dX8_end_1 (by decide) ⟨by omega, by omega⟩ (fun h1 => ?_) (fun h1 => ?_)
  · refine h_iconst C dX8_end_15 ?_
    refine h_ireturn C hr hlk dX8_end_16 ?_
    exact ⟨⟨_, rfl, ⟨by decide, by decide⟩⟩, hI, hF0⟩
  · refine h_iload_n C dX8_end_4 1 rfl rfl ?_
    refine h_aload_n C dX8_end_5 0 rfl rfl ?_
    refine h_get C O8 0 kd_0 (by decide) wd_349 dX8_end_6 fr_0_0 ?_
    refine h_getN C O7 1 kd_1 (by decide) nw_33 dX8_end_9 (hp_fvI (by rw [kd_1]; rfl) rfl) ?_
    obtain ⟨hr2a, hr2b⟩ := hI.b (bf_7_1 kd_1)
    generalize hg2 : σ 1 1 = r2 at hr2a hr2b ⊢
    refine h_icmp_le (tgt := 17) C dX8_end_12 (by decide) ⟨by omega, by omega⟩ ⟨by omega, by omega⟩ (fun h3 => ?_) (fun h3 => ?_)
    · refine h_aload_n C dX8_end_17 0 rfl rfl ?_
      refine h_get C O8 0 kd_0 (by decide) wd_349 dX8_end_18 fr_0_0 ?_
      refine h_iload_n C dX8_end_21 1 rfl rfl ?_
      refine h_putN C O7 1 kd_1 (by decide) rfl nw_33 dX8_end_22 rfl rfl (hp_fvI (by rw [kd_1]; rfl) hpu_at) ?_
      obtain ⟨τ4, e4⟩ : ∃ μ : hpMem, μ = hpw σ 1 1 a0 := ⟨_, rfl⟩
      rw [← e4]
      have hI4 : hpInv τ4 := by rw [e4]; exact hI.w (bf_7_1 kd_1) (by omega) (by omega)
      have hF4 : ∀ j i : Nat, 169 ≤ j → τ4 j i = σ j i := fun j i h_0 => by rw [e4]; exact (hpw_fr (by omega)).trans (hF0 j i h_0)
      have hg5 : τ4 1 1 = a0 := by rw [e4]; exact hpw_eq
      refine h_iload_n C dX8_end_25 1 rfl rfl ?_
      refine h_ireturn C hr hlk dX8_end_26 ?_
      exact ⟨⟨_, rfl, ⟨by omega, by omega⟩⟩, hI4, hF4⟩
    · refine h_iconst C dX8_end_15 ?_
      refine h_ireturn C hr hlk dX8_end_16 ?_
      exact ⟨⟨_, rfl, ⟨by decide, by decide⟩⟩, hI, hF0⟩
abbrev rgX8_fault : Room := { frames := 0, cells := 0, slots := 0, locals := 0 }
abbrev pgX8_fault (z : Nat) (σ : hpMem) (a0 : Int) : Option Value → hpMem → Prop := fun r τ => (∃ x : Int, r = some (.int (hpI x)) ∧ (hpR x)) ∧ σ = τ
set_option maxHeartbeats 4000000 in
set_option maxRecDepth 20000 in
theorem tgX8_fault (l : Launch) (D : va_G) (cy : Nat → ClassId) (z : Nat) (σ : hpMem) (a0 : Int) (ha0 : hpR a0) (hI : hpInv σ) : hpM l D cy z yX8_fault cX8_fault 2 (some .int) rgX8_fault [.ref (z + 0), .int (hpI a0)] σ (pgX8_fault z σ a0) := by
  obtain ⟨ha01, ha02⟩ := ha0
  refine hp_met rfl (Nat.le_of_ble_eq_true rfl) (fun p e s m below meth c C Z hr hlk => ?_)
  refine h_iload_n C dX8_fault_0 1 rfl rfl ?_
  refine h_if_ne (tgt := 12) C dX8_fault_1 (by decide) ⟨by omega, by omega⟩ (fun h1 => ?_) (fun h1 => ?_)
  · refine h_iload_n C dX8_fault_12 1 rfl rfl ?_
    refine h_iconst C dX8_fault_13 ?_
    refine h_icmp_ne (tgt := 27) C dX8_fault_14 (by decide) ⟨by omega, by omega⟩ ⟨by decide, by decide⟩ (fun h2 => ?_) (fun h2 => ?_)
    · refine h_iconst C dX8_fault_27 ?_
      refine h_ireturn C hr hlk dX8_fault_28 ?_
      exact ⟨⟨_, rfl, ⟨by decide, by decide⟩⟩, rfl⟩
    · refine h_aload_n C dX8_fault_17 0 rfl rfl ?_
      refine h_get C O8 0 kd_0 (by decide) wd_349 dX8_fault_18 fr_0_0 ?_
      refine h_getN C O7 3 kd_1 (by decide) nw_38 dX8_fault_21 (hp_fvI (by rw [kd_1]; rfl) rfl) ?_
      obtain ⟨hr3a, hr3b⟩ := hI.b (bf_7_3 kd_1)
      generalize hg3 : σ 1 3 = r3 at hr3a hr3b ⊢
      refine h_goto (tgt := 28) C dX8_fault_24 (by decide) ?_
      refine h_ireturn C hr hlk dX8_fault_28 ?_
      exact ⟨⟨_, rfl, ⟨by omega, by omega⟩⟩, rfl⟩
  · refine h_aload_n C dX8_fault_4 0 rfl rfl ?_
    refine h_get C O8 0 kd_0 (by decide) wd_349 dX8_fault_5 fr_0_0 ?_
    refine h_getN C O7 2 kd_1 (by decide) nw_36 dX8_fault_8 (hp_fvI (by rw [kd_1]; rfl) rfl) ?_
    obtain ⟨hr4a, hr4b⟩ := hI.b (bf_7_2 kd_1)
    generalize hg4 : σ 1 2 = r4 at hr4a hr4b ⊢
    refine h_ireturn C hr hlk dX8_fault_11 ?_
    exact ⟨⟨_, rfl, ⟨by omega, by omega⟩⟩, rfl⟩
abbrev rgX8_told : Room := { frames := 1, cells := 0, slots := 0, locals := 21 }
abbrev pgX8_told (z : Nat) (σ : hpMem) (a0 : Int) : Option Value → hpMem → Prop := fun r τ => (∃ x : Int, r = some (.int (hpI x)) ∧ (hpR x)) ∧ σ = τ
set_option maxHeartbeats 4000000 in
set_option maxRecDepth 20000 in
theorem tgX8_told (l : Launch) (D : va_G) (cy : Nat → ClassId) (z : Nat) (σ : hpMem) (a0 : Int) (ha0 : hpR a0) (hI : hpInv σ) : hpM l D cy z yX8_told cX8_told 2 (some .int) rgX8_told [.ref (z + 0), .int (hpI a0)] σ (pgX8_told z σ a0) := by
  obtain ⟨ha01, ha02⟩ := ha0
  refine hp_met rfl (Nat.le_of_ble_eq_true rfl) (fun p e s m below meth c C Z hr hlk => ?_)
  refine h_aload_n C dX8_told_0 0 rfl rfl ?_
  refine h_iload_n C dX8_told_1 1 rfl rfl ?_
  refine h_callV (As := [.int (hpI a0)]) (rest := []) C Z yyX8_isTold wd_549 (tgX8_isTold l D cy z _ a0 ⟨by omega, by omega⟩ hI) kd_0 rfl rfl ⟨rfl, rfl, Nat.le_of_ble_eq_true rfl, Nat.le_of_ble_eq_true rfl⟩ ⟨Nat.le_of_ble_eq_true rfl, Nat.le_of_ble_eq_true rfl⟩ (Nat.le_of_ble_eq_true rfl) dX8_told_2 (fun r1 τ1 hp1 => ?_)
  obtain ⟨⟨x1, rfl, ⟨hx1a, hx1b⟩, hx1⟩, rfl⟩ := hp1
  show hpV _ _ _ _ _ _ _ _ _ _ _ _ _ _ _ _ _ _ _ _ _ (_ :: _)
  refine h_if_eq (tgt := 20) C dX8_told_5 (by decide) ⟨by omega, by omega⟩ (fun h2 => ?_) (fun h2 => ?_)
  · refine h_bipush C dX8_told_20 (by decide) ?_
    refine h_ireturn C hr hlk dX8_told_22 ?_
    exact ⟨⟨_, rfl, ⟨by decide, by decide⟩⟩, rfl⟩
  · refine h_aload_n C dX8_told_8 0 rfl rfl ?_
    refine h_get C O8 1 kd_0 (by decide) wd_350 dX8_told_9 fr_0_1 ?_
    refine h_getN C O1 0 kd_3 (by decide) nw_66 dX8_told_12 fr_3_0 ?_
    refine h_iload_n C dX8_told_15 1 rfl rfl ?_
    refine h_iaload C dX8_told_16 kd_4 (a0).toNat (Int.toNat_of_nonneg (by omega)) (by rw [ln_4]; omega) rfl ?_
    obtain ⟨hr3a, hr3b⟩ := hI.b (bo_4 _)
    generalize hg3 : σ 4 ((a0).toNat) = r3 at hr3a hr3b ⊢
    refine h_goto (tgt := 22) C dX8_told_17 (by decide) ?_
    refine h_ireturn C hr hlk dX8_told_22 ?_
    exact ⟨⟨_, rfl, ⟨by omega, by omega⟩⟩, rfl⟩
abbrev rgX8_cart : Room := { frames := 1, cells := 0, slots := 0, locals := 21 }
abbrev pgX8_cart (z : Nat) (σ : hpMem) (a0 : Int) (a1 : Int) : Option Value → hpMem → Prop := fun r τ => (∃ x : Int, r = some (.int (hpI x)) ∧ (hpR x)) ∧ σ = τ
set_option maxHeartbeats 4000000 in
set_option maxRecDepth 20000 in
theorem tgX8_cart (l : Launch) (D : va_G) (cy : Nat → ClassId) (z : Nat) (σ : hpMem) (a0 : Int) (ha0 : hpR a0) (a1 : Int) (ha1 : hpR a1) (hI : hpInv σ) : hpM l D cy z yX8_cart cX8_cart 3 (some .int) rgX8_cart [.ref (z + 0), .int (hpI a0), .int (hpI a1)] σ (pgX8_cart z σ a0 a1) := by
  obtain ⟨ha01, ha02⟩ := ha0
  obtain ⟨ha11, ha12⟩ := ha1
  refine hp_met rfl (Nat.le_of_ble_eq_true rfl) (fun p e s m below meth c C Z hr hlk => ?_)
  refine h_aload_n C dX8_cart_0 0 rfl rfl ?_
  refine h_iload_n C dX8_cart_1 1 rfl rfl ?_
  refine h_callV (As := [.int (hpI a0)]) (rest := []) C Z yyX8_isCart wd_557 (tgX8_isCart l D cy z _ a0 ⟨by omega, by omega⟩ hI) kd_0 rfl rfl ⟨rfl, rfl, Nat.le_of_ble_eq_true rfl, Nat.le_of_ble_eq_true rfl⟩ ⟨Nat.le_of_ble_eq_true rfl, Nat.le_of_ble_eq_true rfl⟩ (Nat.le_of_ble_eq_true rfl) dX8_cart_2 (fun r1 τ1 hp1 => ?_)
  obtain ⟨⟨x1, rfl, ⟨hx1a, hx1b⟩, hx1⟩, rfl⟩ := hp1
  show hpV _ _ _ _ _ _ _ _ _ _ _ _ _ _ _ _ _ _ _ _ _ (_ :: _)
  refine h_if_eq (tgt := 15) C dX8_cart_5 (by decide) ⟨by omega, by omega⟩ (fun h2 => ?_) (fun h2 => ?_)
  · refine h_bipush C dX8_cart_15 (by decide) ?_
    refine h_ireturn C hr hlk dX8_cart_17 ?_
    exact ⟨⟨_, rfl, ⟨by decide, by decide⟩⟩, rfl⟩
  · refine h_iload_n C dX8_cart_8 2 rfl rfl ?_
    refine h_callS (As := [.int (hpI a1)]) (rest := []) C Z yyX8_isWhat rfl wd_561 (tgX8_isWhat l D cy z _ a1 ⟨by omega, by omega⟩ hI) rfl rfl ⟨rfl, rfl, Nat.le_of_ble_eq_true rfl, Nat.le_of_ble_eq_true rfl⟩ ⟨Nat.le_of_ble_eq_true rfl, Nat.le_of_ble_eq_true rfl⟩ (Nat.le_of_ble_eq_true rfl) dX8_cart_9 (fun r3 τ3 hp3 => ?_)
    obtain ⟨⟨x3, rfl, ⟨hx3a, hx3b⟩⟩, rfl⟩ := hp3
    show hpV _ _ _ _ _ _ _ _ _ _ _ _ _ _ _ _ _ _ _ _ _ (_ :: _)
    refine h_if_ne (tgt := 18) C dX8_cart_12 (by decide) ⟨by omega, by omega⟩ (fun h4 => ?_) (fun h4 => ?_)
    · refine h_iload_n C dX8_cart_18 2 rfl rfl ?_
      refine h_if_ne (tgt := 34) C dX8_cart_19 (by decide) ⟨by omega, by omega⟩ (fun h5 => ?_) (fun h5 => ?_)
      · refine h_aload_n C dX8_cart_34 0 rfl rfl ?_
        refine h_get C O8 1 kd_0 (by decide) wd_350 dX8_cart_35 fr_0_1 ?_
        refine h_getN C O1 2 kd_3 (by decide) nw_74 dX8_cart_38 fr_3_2 ?_
        refine h_iload_n C dX8_cart_41 1 rfl rfl ?_
        refine h_iaload C dX8_cart_42 kd_6 (a0).toNat (Int.toNat_of_nonneg (by omega)) (by rw [ln_6]; omega) rfl ?_
        obtain ⟨hr6a, hr6b⟩ := hI.b (bo_6 _)
        generalize hg6 : σ 6 ((a0).toNat) = r6 at hr6a hr6b ⊢
        refine h_ireturn C hr hlk dX8_cart_43 ?_
        exact ⟨⟨_, rfl, ⟨by omega, by omega⟩⟩, rfl⟩
      · refine h_aload_n C dX8_cart_22 0 rfl rfl ?_
        refine h_get C O8 1 kd_0 (by decide) wd_350 dX8_cart_23 fr_0_1 ?_
        refine h_getN C O1 1 kd_3 (by decide) nw_69 dX8_cart_26 fr_3_1 ?_
        refine h_iload_n C dX8_cart_29 1 rfl rfl ?_
        refine h_iaload C dX8_cart_30 kd_5 (a0).toNat (Int.toNat_of_nonneg (by omega)) (by rw [ln_5]; omega) rfl ?_
        obtain ⟨hr7a, hr7b⟩ := hI.b (bo_5 _)
        generalize hg7 : σ 5 ((a0).toNat) = r7 at hr7a hr7b ⊢
        refine h_goto (tgt := 43) C dX8_cart_31 (by decide) ?_
        refine h_ireturn C hr hlk dX8_cart_43 ?_
        exact ⟨⟨_, rfl, ⟨by omega, by omega⟩⟩, rfl⟩
    · refine h_bipush C dX8_cart_15 (by decide) ?_
      refine h_ireturn C hr hlk dX8_cart_17 ?_
      exact ⟨⟨_, rfl, ⟨by decide, by decide⟩⟩, rfl⟩
abbrev rgX8_heaps : Room := { frames := 6, cells := 0, slots := 0, locals := 173 }
abbrev pgX8_heaps (z : Nat) (σ : hpMem) (a0 : Int) : Option Value → hpMem → Prop := fun r τ => (∃ x : Int, r = some (.int (hpI x)) ∧ (hpR x)) ∧ hpInv τ ∧ (∀ j i : Nat, 169 ≤ j → τ j i = σ j i)
set_option maxHeartbeats 4000000 in
set_option maxRecDepth 20000 in
theorem tgX8_heaps (l : Launch) (D : va_G) (cy : Nat → ClassId) (z : Nat) (σ : hpMem) (a0 : Int) (ha0 : hpR a0) (hI : hpInv σ) : hpM l D cy z yX8_heaps cX8_heaps 2 (some .int) rgX8_heaps [.ref (z + 0), .int (hpI a0)] σ (pgX8_heaps z σ a0) := by
  obtain ⟨ha01, ha02⟩ := ha0
  refine hp_met rfl (Nat.le_of_ble_eq_true rfl) (fun p e s m below meth c C Z hr hlk => ?_)
  have hF0 : ∀ j i : Nat, 169 ≤ j → σ j i = σ j i := fun j i _ => rfl
  refine h_aload_n C dX8_heaps_0 0 rfl rfl ?_
  refine h_iload_n C dX8_heaps_1 1 rfl rfl ?_
  refine h_callV (As := [.int (hpI a0)]) (rest := []) C Z yyX8_isDay wd_568 (tgX8_isDay l D cy z _ a0 ⟨by omega, by omega⟩ hI) kd_0 rfl rfl ⟨rfl, rfl, Nat.le_of_ble_eq_true rfl, Nat.le_of_ble_eq_true rfl⟩ ⟨Nat.le_of_ble_eq_true rfl, Nat.le_of_ble_eq_true rfl⟩ (Nat.le_of_ble_eq_true rfl) dX8_heaps_2 (fun r1 τ1 hp1 => ?_)
  obtain ⟨⟨x1, rfl, ⟨hx1a, hx1b⟩, hx1⟩, rfl⟩ := hp1
  show hpV _ _ _ _ _ _ _ _ _ _ _ _ _ _ _ _ _ _ _ _ _ (_ :: _)
  refine h_if_eq (tgt := 19) C dX8_heaps_5 (by decide) ⟨by omega, by omega⟩ (fun h2 => ?_) (fun h2 => ?_)
  · refine h_bipush C dX8_heaps_19 (by decide) ?_
    refine h_ireturn C hr hlk dX8_heaps_21 ?_
    exact ⟨⟨_, rfl, ⟨by decide, by decide⟩⟩, hI, hF0⟩
  · refine h_aload_n C dX8_heaps_8 0 rfl rfl ?_
    refine h_iload_n C dX8_heaps_9 1 rfl rfl ?_
    refine h_callV (As := [.int (hpI a0)]) (rest := []) C Z yyX8_rowOfDay wd_576 (tgX8_rowOfDay l D cy z _ a0 ⟨by omega, by omega⟩ hI) kd_0 rfl rfl ⟨rfl, rfl, Nat.le_of_ble_eq_true rfl, Nat.le_of_ble_eq_true rfl⟩ ⟨Nat.le_of_ble_eq_true rfl, Nat.le_of_ble_eq_true rfl⟩ (Nat.le_of_ble_eq_true rfl) dX8_heaps_10 (fun r3 τ3 hp3 => ?_)
    obtain ⟨⟨x3, rfl, hx3⟩, hI3, hG3⟩ := hp3
    have hF3 : ∀ j i : Nat, 169 ≤ j → τ3 j i = σ j i := fun j i h_0 => (hG3 j i (by omega)).trans (hF0 j i h_0)
    have hl3 := kb_3 hx3
    show hpV _ _ _ _ _ _ _ _ _ _ _ _ _ _ _ _ _ _ _ _ _ (_ :: _)
    refine h_getN C O3 3 hx3 (by decide) nw_164 dX8_heaps_13 (hp_fvI (by rw [hx3]; rfl) rfl) ?_
    obtain ⟨hr4a, hr4b⟩ := hI3.b (bf_3_3 hx3)
    generalize hg4 : τ3 x3 3 = r4 at hr4a hr4b ⊢
    refine h_goto (tgt := 21) C dX8_heaps_16 (by decide) ?_
    refine h_ireturn C hr hlk dX8_heaps_21 ?_
    exact ⟨⟨_, rfl, ⟨by omega, by omega⟩⟩, hI3, hF3⟩
abbrev rgX8_heap : Room := { frames := 6, cells := 0, slots := 0, locals := 173 }
abbrev pgX8_heap (z : Nat) (σ : hpMem) (a0 : Int) (a1 : Int) : Option Value → hpMem → Prop := fun r τ => (∃ x : Int, r = some (.int (hpI x)) ∧ (hpR x)) ∧ hpInv τ ∧ (∀ j i : Nat, 169 ≤ j → τ j i = σ j i)
set_option maxHeartbeats 4000000 in
set_option maxRecDepth 20000 in
theorem tgX8_heap (l : Launch) (D : va_G) (cy : Nat → ClassId) (z : Nat) (σ : hpMem) (a0 : Int) (ha0 : hpR a0) (a1 : Int) (ha1 : hpR a1) (hI : hpInv σ) : hpM l D cy z yX8_heap cX8_heap 3 (some .int) rgX8_heap [.ref (z + 0), .int (hpI a0), .int (hpI a1)] σ (pgX8_heap z σ a0 a1) := by
  obtain ⟨ha01, ha02⟩ := ha0
  obtain ⟨ha11, ha12⟩ := ha1
  refine hp_met rfl (Nat.le_of_ble_eq_true rfl) (fun p e s m below meth c C Z hr hlk => ?_)
  have hF0 : ∀ j i : Nat, 169 ≤ j → σ j i = σ j i := fun j i _ => rfl
  refine h_aload_n C dX8_heap_0 0 rfl rfl ?_
  refine h_iload_n C dX8_heap_1 1 rfl rfl ?_
  refine h_callV (As := [.int (hpI a0)]) (rest := []) C Z yyX8_isDay wd_568 (tgX8_isDay l D cy z _ a0 ⟨by omega, by omega⟩ hI) kd_0 rfl rfl ⟨rfl, rfl, Nat.le_of_ble_eq_true rfl, Nat.le_of_ble_eq_true rfl⟩ ⟨Nat.le_of_ble_eq_true rfl, Nat.le_of_ble_eq_true rfl⟩ (Nat.le_of_ble_eq_true rfl) dX8_heap_2 (fun r1 τ1 hp1 => ?_)
  obtain ⟨⟨x1, rfl, ⟨hx1a, hx1b⟩, hx1⟩, rfl⟩ := hp1
  show hpV _ _ _ _ _ _ _ _ _ _ _ _ _ _ _ _ _ _ _ _ _ (_ :: _)
  refine h_if_eq (tgt := 12) C dX8_heap_5 (by decide) ⟨by omega, by omega⟩ (fun h2 => ?_) (fun h2 => ?_)
  · refine h_bipush C dX8_heap_12 (by decide) ?_
    refine h_ireturn C hr hlk dX8_heap_14 ?_
    exact ⟨⟨_, rfl, ⟨by decide, by decide⟩⟩, hI, hF0⟩
  · refine h_iload_n C dX8_heap_8 2 rfl rfl ?_
    refine h_if_ge (tgt := 15) C dX8_heap_9 (by decide) ⟨by omega, by omega⟩ (fun h3 => ?_) (fun h3 => ?_)
    · refine h_aload_n C dX8_heap_15 0 rfl rfl ?_
      refine h_iload_n C dX8_heap_16 1 rfl rfl ?_
      refine h_callV (As := [.int (hpI a0)]) (rest := []) C Z yyX8_rowOfDay wd_576 (tgX8_rowOfDay l D cy z _ a0 ⟨by omega, by omega⟩ hI) kd_0 rfl rfl ⟨rfl, rfl, Nat.le_of_ble_eq_true rfl, Nat.le_of_ble_eq_true rfl⟩ ⟨Nat.le_of_ble_eq_true rfl, Nat.le_of_ble_eq_true rfl⟩ (Nat.le_of_ble_eq_true rfl) dX8_heap_17 (fun r4 τ4 hp4 => ?_)
      obtain ⟨⟨x4, rfl, hx4⟩, hI4, hG4⟩ := hp4
      have hF4 : ∀ j i : Nat, 169 ≤ j → τ4 j i = σ j i := fun j i h_0 => (hG4 j i (by omega)).trans (hF0 j i h_0)
      have hl4 := kb_3 hx4
      show hpV _ _ _ _ _ _ _ _ _ _ _ _ _ _ _ _ _ _ _ _ _ (_ :: _)
      refine h_iload_n C dX8_heap_20 2 rfl rfl ?_
      refine h_callVN (As := [.int (hpI a1)]) (rest := []) C Z yyX3_heapAt nw_639 (tgX3_heapAt l D cy z _ x4 hx4 a1 ⟨by omega, by omega⟩ hI4) hx4 rfl rfl ⟨rfl, rfl, Nat.le_of_ble_eq_true rfl, Nat.le_of_ble_eq_true rfl⟩ ⟨Nat.le_of_ble_eq_true rfl, Nat.le_of_ble_eq_true rfl⟩ (Nat.le_of_ble_eq_true rfl) dX8_heap_21 (fun r5 τ5 hp5 => ?_)
      obtain ⟨⟨x5, rfl, ⟨hx5a, hx5b⟩⟩, rfl⟩ := hp5
      show hpV _ _ _ _ _ _ _ _ _ _ _ _ _ _ _ _ _ _ _ _ _ (_ :: _)
      refine h_ireturn C hr hlk dX8_heap_24 ?_
      exact ⟨⟨_, rfl, ⟨by omega, by omega⟩⟩, hI4, hF4⟩
    · refine h_bipush C dX8_heap_12 (by decide) ?_
      refine h_ireturn C hr hlk dX8_heap_14 ?_
      exact ⟨⟨_, rfl, ⟨by decide, by decide⟩⟩, hI, hF0⟩
abbrev rgX8_all : Room := { frames := 6, cells := 0, slots := 0, locals := 173 }
abbrev pgX8_all (z : Nat) (σ : hpMem) (a0 : Int) : Option Value → hpMem → Prop := fun r τ => (∃ x : Int, r = some (.int (hpI x)) ∧ (hpR x)) ∧ hpInv τ ∧ (∀ j i : Nat, 169 ≤ j → τ j i = σ j i)
set_option maxHeartbeats 4000000 in
set_option maxRecDepth 20000 in
theorem tgX8_all (l : Launch) (D : va_G) (cy : Nat → ClassId) (z : Nat) (σ : hpMem) (a0 : Int) (ha0 : hpR a0) (hI : hpInv σ) : hpM l D cy z yX8_all cX8_all 2 (some .int) rgX8_all [.ref (z + 0), .int (hpI a0)] σ (pgX8_all z σ a0) := by
  obtain ⟨ha01, ha02⟩ := ha0
  refine hp_met rfl (Nat.le_of_ble_eq_true rfl) (fun p e s m below meth c C Z hr hlk => ?_)
  have hF0 : ∀ j i : Nat, 169 ≤ j → σ j i = σ j i := fun j i _ => rfl
  refine h_aload_n C dX8_all_0 0 rfl rfl ?_
  refine h_iload_n C dX8_all_1 1 rfl rfl ?_
  refine h_callV (As := [.int (hpI a0)]) (rest := []) C Z yyX8_isDay wd_568 (tgX8_isDay l D cy z _ a0 ⟨by omega, by omega⟩ hI) kd_0 rfl rfl ⟨rfl, rfl, Nat.le_of_ble_eq_true rfl, Nat.le_of_ble_eq_true rfl⟩ ⟨Nat.le_of_ble_eq_true rfl, Nat.le_of_ble_eq_true rfl⟩ (Nat.le_of_ble_eq_true rfl) dX8_all_2 (fun r1 τ1 hp1 => ?_)
  obtain ⟨⟨x1, rfl, ⟨hx1a, hx1b⟩, hx1⟩, rfl⟩ := hp1
  show hpV _ _ _ _ _ _ _ _ _ _ _ _ _ _ _ _ _ _ _ _ _ (_ :: _)
  refine h_if_eq (tgt := 19) C dX8_all_5 (by decide) ⟨by omega, by omega⟩ (fun h2 => ?_) (fun h2 => ?_)
  · refine h_bipush C dX8_all_19 (by decide) ?_
    refine h_ireturn C hr hlk dX8_all_21 ?_
    exact ⟨⟨_, rfl, ⟨by decide, by decide⟩⟩, hI, hF0⟩
  · refine h_aload_n C dX8_all_8 0 rfl rfl ?_
    refine h_iload_n C dX8_all_9 1 rfl rfl ?_
    refine h_callV (As := [.int (hpI a0)]) (rest := []) C Z yyX8_rowOfDay wd_576 (tgX8_rowOfDay l D cy z _ a0 ⟨by omega, by omega⟩ hI) kd_0 rfl rfl ⟨rfl, rfl, Nat.le_of_ble_eq_true rfl, Nat.le_of_ble_eq_true rfl⟩ ⟨Nat.le_of_ble_eq_true rfl, Nat.le_of_ble_eq_true rfl⟩ (Nat.le_of_ble_eq_true rfl) dX8_all_10 (fun r3 τ3 hp3 => ?_)
    obtain ⟨⟨x3, rfl, hx3⟩, hI3, hG3⟩ := hp3
    have hF3 : ∀ j i : Nat, 169 ≤ j → τ3 j i = σ j i := fun j i h_0 => (hG3 j i (by omega)).trans (hF0 j i h_0)
    have hl3 := kb_3 hx3
    show hpV _ _ _ _ _ _ _ _ _ _ _ _ _ _ _ _ _ _ _ _ _ (_ :: _)
    refine h_getN C O3 4 hx3 (by decide) nw_167 dX8_all_13 (hp_fvI (by rw [hx3]; rfl) rfl) ?_
    obtain ⟨hr4a, hr4b⟩ := hI3.b (bf_3_4 hx3)
    generalize hg4 : τ3 x3 4 = r4 at hr4a hr4b ⊢
    refine h_goto (tgt := 21) C dX8_all_16 (by decide) ?_
    refine h_ireturn C hr hlk dX8_all_21 ?_
    exact ⟨⟨_, rfl, ⟨by omega, by omega⟩⟩, hI3, hF3⟩
abbrev rgX8_many : Room := { frames := 6, cells := 0, slots := 0, locals := 173 }
abbrev pgX8_many (z : Nat) (σ : hpMem) (a0 : Int) (a1 : Int) : Option Value → hpMem → Prop := fun r τ => (∃ x : Int, r = some (.int (hpI x)) ∧ (hpR x)) ∧ hpInv τ ∧ (∀ j i : Nat, 169 ≤ j → τ j i = σ j i)
set_option maxHeartbeats 4000000 in
set_option maxRecDepth 20000 in
theorem tgX8_many (l : Launch) (D : va_G) (cy : Nat → ClassId) (z : Nat) (σ : hpMem) (a0 : Int) (ha0 : hpR a0) (a1 : Int) (ha1 : hpR a1) (hI : hpInv σ) : hpM l D cy z yX8_many cX8_many 3 (some .int) rgX8_many [.ref (z + 0), .int (hpI a0), .int (hpI a1)] σ (pgX8_many z σ a0 a1) := by
  obtain ⟨ha01, ha02⟩ := ha0
  obtain ⟨ha11, ha12⟩ := ha1
  refine hp_met rfl (Nat.le_of_ble_eq_true rfl) (fun p e s m below meth c C Z hr hlk => ?_)
  have hF0 : ∀ j i : Nat, 169 ≤ j → σ j i = σ j i := fun j i _ => rfl
  refine h_aload_n C dX8_many_0 0 rfl rfl ?_
  refine h_iload_n C dX8_many_1 1 rfl rfl ?_
  refine h_callV (As := [.int (hpI a0)]) (rest := []) C Z yyX8_isDay wd_568 (tgX8_isDay l D cy z _ a0 ⟨by omega, by omega⟩ hI) kd_0 rfl rfl ⟨rfl, rfl, Nat.le_of_ble_eq_true rfl, Nat.le_of_ble_eq_true rfl⟩ ⟨Nat.le_of_ble_eq_true rfl, Nat.le_of_ble_eq_true rfl⟩ (Nat.le_of_ble_eq_true rfl) dX8_many_2 (fun r1 τ1 hp1 => ?_)
  obtain ⟨⟨x1, rfl, ⟨hx1a, hx1b⟩, hx1⟩, rfl⟩ := hp1
  show hpV _ _ _ _ _ _ _ _ _ _ _ _ _ _ _ _ _ _ _ _ _ (_ :: _)
  refine h_if_eq (tgt := 20) C dX8_many_5 (by decide) ⟨by omega, by omega⟩ (fun h2 => ?_) (fun h2 => ?_)
  · refine h_bipush C dX8_many_20 (by decide) ?_
    refine h_ireturn C hr hlk dX8_many_22 ?_
    exact ⟨⟨_, rfl, ⟨by decide, by decide⟩⟩, hI, hF0⟩
  · refine h_iload_n C dX8_many_8 2 rfl rfl ?_
    refine h_iconst C dX8_many_9 ?_
    refine h_icmp_lt (tgt := 20) C dX8_many_10 (by decide) ⟨by omega, by omega⟩ ⟨by decide, by decide⟩ (fun h3 => ?_) (fun h3 => ?_)
    · refine h_bipush C dX8_many_20 (by decide) ?_
      refine h_ireturn C hr hlk dX8_many_22 ?_
      exact ⟨⟨_, rfl, ⟨by decide, by decide⟩⟩, hI, hF0⟩
    · refine h_iload_n C dX8_many_13 2 rfl rfl ?_
      refine h_sipush C dX8_many_14 (by decide) ?_
      refine h_icmp_le (tgt := 23) C dX8_many_17 (by decide) ⟨by omega, by omega⟩ ⟨by decide, by decide⟩ (fun h4 => ?_) (fun h4 => ?_)
      · refine h_aload_n C dX8_many_23 0 rfl rfl ?_
        refine h_iload_n C dX8_many_24 1 rfl rfl ?_
        refine h_callV (As := [.int (hpI a0)]) (rest := []) C Z yyX8_rowOfDay wd_576 (tgX8_rowOfDay l D cy z _ a0 ⟨by omega, by omega⟩ hI) kd_0 rfl rfl ⟨rfl, rfl, Nat.le_of_ble_eq_true rfl, Nat.le_of_ble_eq_true rfl⟩ ⟨Nat.le_of_ble_eq_true rfl, Nat.le_of_ble_eq_true rfl⟩ (Nat.le_of_ble_eq_true rfl) dX8_many_25 (fun r5 τ5 hp5 => ?_)
        obtain ⟨⟨x5, rfl, hx5⟩, hI5, hG5⟩ := hp5
        have hF5 : ∀ j i : Nat, 169 ≤ j → τ5 j i = σ j i := fun j i h_0 => (hG5 j i (by omega)).trans (hF0 j i h_0)
        have hl5 := kb_3 hx5
        show hpV _ _ _ _ _ _ _ _ _ _ _ _ _ _ _ _ _ _ _ _ _ (_ :: _)
        refine h_iload_n C dX8_many_28 2 rfl rfl ?_
        refine h_callVN (As := [.int (hpI a1)]) (rest := []) C Z yyX3_heapsOf nw_651 (tgX3_heapsOf l D cy z _ x5 hx5 a1 ⟨by omega, by omega⟩ hI5) hx5 rfl rfl ⟨rfl, rfl, Nat.le_of_ble_eq_true rfl, Nat.le_of_ble_eq_true rfl⟩ ⟨Nat.le_of_ble_eq_true rfl, Nat.le_of_ble_eq_true rfl⟩ (Nat.le_of_ble_eq_true rfl) dX8_many_29 (fun r6 τ6 hp6 => ?_)
        obtain ⟨⟨x6, rfl, ⟨hx6a, hx6b⟩⟩, rfl⟩ := hp6
        show hpV _ _ _ _ _ _ _ _ _ _ _ _ _ _ _ _ _ _ _ _ _ (_ :: _)
        refine h_ireturn C hr hlk dX8_many_32 ?_
        exact ⟨⟨_, rfl, ⟨by omega, by omega⟩⟩, hI5, hF5⟩
      · refine h_bipush C dX8_many_20 (by decide) ?_
        refine h_ireturn C hr hlk dX8_many_22 ?_
        exact ⟨⟨_, rfl, ⟨by decide, by decide⟩⟩, hI, hF0⟩
abbrev rgX8_sorts : Room := { frames := 6, cells := 0, slots := 0, locals := 173 }
abbrev pgX8_sorts (z : Nat) (σ : hpMem) (a0 : Int) : Option Value → hpMem → Prop := fun r τ => (∃ x : Int, r = some (.int (hpI x)) ∧ (hpR x)) ∧ hpInv τ ∧ (∀ j i : Nat, 169 ≤ j → τ j i = σ j i)
set_option maxHeartbeats 4000000 in
set_option maxRecDepth 20000 in
theorem tgX8_sorts (l : Launch) (D : va_G) (cy : Nat → ClassId) (z : Nat) (σ : hpMem) (a0 : Int) (ha0 : hpR a0) (hI : hpInv σ) : hpM l D cy z yX8_sorts cX8_sorts 2 (some .int) rgX8_sorts [.ref (z + 0), .int (hpI a0)] σ (pgX8_sorts z σ a0) := by
  obtain ⟨ha01, ha02⟩ := ha0
  refine hp_met rfl (Nat.le_of_ble_eq_true rfl) (fun p e s m below meth c C Z hr hlk => ?_)
  have hF0 : ∀ j i : Nat, 169 ≤ j → σ j i = σ j i := fun j i _ => rfl
  refine h_aload_n C dX8_sorts_0 0 rfl rfl ?_
  refine h_iload_n C dX8_sorts_1 1 rfl rfl ?_
  refine h_callV (As := [.int (hpI a0)]) (rest := []) C Z yyX8_isDay wd_568 (tgX8_isDay l D cy z _ a0 ⟨by omega, by omega⟩ hI) kd_0 rfl rfl ⟨rfl, rfl, Nat.le_of_ble_eq_true rfl, Nat.le_of_ble_eq_true rfl⟩ ⟨Nat.le_of_ble_eq_true rfl, Nat.le_of_ble_eq_true rfl⟩ (Nat.le_of_ble_eq_true rfl) dX8_sorts_2 (fun r1 τ1 hp1 => ?_)
  obtain ⟨⟨x1, rfl, ⟨hx1a, hx1b⟩, hx1⟩, rfl⟩ := hp1
  show hpV _ _ _ _ _ _ _ _ _ _ _ _ _ _ _ _ _ _ _ _ _ (_ :: _)
  refine h_if_eq (tgt := 19) C dX8_sorts_5 (by decide) ⟨by omega, by omega⟩ (fun h2 => ?_) (fun h2 => ?_)
  · refine h_bipush C dX8_sorts_19 (by decide) ?_
    refine h_ireturn C hr hlk dX8_sorts_21 ?_
    exact ⟨⟨_, rfl, ⟨by decide, by decide⟩⟩, hI, hF0⟩
  · refine h_aload_n C dX8_sorts_8 0 rfl rfl ?_
    refine h_iload_n C dX8_sorts_9 1 rfl rfl ?_
    refine h_callV (As := [.int (hpI a0)]) (rest := []) C Z yyX8_rowOfDay wd_576 (tgX8_rowOfDay l D cy z _ a0 ⟨by omega, by omega⟩ hI) kd_0 rfl rfl ⟨rfl, rfl, Nat.le_of_ble_eq_true rfl, Nat.le_of_ble_eq_true rfl⟩ ⟨Nat.le_of_ble_eq_true rfl, Nat.le_of_ble_eq_true rfl⟩ (Nat.le_of_ble_eq_true rfl) dX8_sorts_10 (fun r3 τ3 hp3 => ?_)
    obtain ⟨⟨x3, rfl, hx3⟩, hI3, hG3⟩ := hp3
    have hF3 : ∀ j i : Nat, 169 ≤ j → τ3 j i = σ j i := fun j i h_0 => (hG3 j i (by omega)).trans (hF0 j i h_0)
    have hl3 := kb_3 hx3
    show hpV _ _ _ _ _ _ _ _ _ _ _ _ _ _ _ _ _ _ _ _ _ (_ :: _)
    refine h_getN C O3 2 hx3 (by decide) nw_159 dX8_sorts_13 (hp_fvI (by rw [hx3]; rfl) rfl) ?_
    obtain ⟨hr4a, hr4b⟩ := hI3.b (bf_3_2 hx3)
    generalize hg4 : τ3 x3 2 = r4 at hr4a hr4b ⊢
    refine h_goto (tgt := 21) C dX8_sorts_16 (by decide) ?_
    refine h_ireturn C hr hlk dX8_sorts_21 ?_
    exact ⟨⟨_, rfl, ⟨by omega, by omega⟩⟩, hI3, hF3⟩
abbrev rgX8_spread : Room := { frames := 6, cells := 0, slots := 0, locals := 173 }
abbrev pgX8_spread (z : Nat) (σ : hpMem) (a0 : Int) : Option Value → hpMem → Prop := fun r τ => (∃ x : Int, r = some (.int (hpI x)) ∧ (hpR x)) ∧ hpInv τ ∧ (∀ j i : Nat, 169 ≤ j → τ j i = σ j i)
set_option maxHeartbeats 4000000 in
set_option maxRecDepth 20000 in
theorem tgX8_spread (l : Launch) (D : va_G) (cy : Nat → ClassId) (z : Nat) (σ : hpMem) (a0 : Int) (ha0 : hpR a0) (hI : hpInv σ) : hpM l D cy z yX8_spread cX8_spread 2 (some .int) rgX8_spread [.ref (z + 0), .int (hpI a0)] σ (pgX8_spread z σ a0) := by
  obtain ⟨ha01, ha02⟩ := ha0
  refine hp_met rfl (Nat.le_of_ble_eq_true rfl) (fun p e s m below meth c C Z hr hlk => ?_)
  have hF0 : ∀ j i : Nat, 169 ≤ j → σ j i = σ j i := fun j i _ => rfl
  refine h_aload_n C dX8_spread_0 0 rfl rfl ?_
  refine h_iload_n C dX8_spread_1 1 rfl rfl ?_
  refine h_callV (As := [.int (hpI a0)]) (rest := []) C Z yyX8_isDay wd_568 (tgX8_isDay l D cy z _ a0 ⟨by omega, by omega⟩ hI) kd_0 rfl rfl ⟨rfl, rfl, Nat.le_of_ble_eq_true rfl, Nat.le_of_ble_eq_true rfl⟩ ⟨Nat.le_of_ble_eq_true rfl, Nat.le_of_ble_eq_true rfl⟩ (Nat.le_of_ble_eq_true rfl) dX8_spread_2 (fun r1 τ1 hp1 => ?_)
  obtain ⟨⟨x1, rfl, ⟨hx1a, hx1b⟩, hx1⟩, rfl⟩ := hp1
  show hpV _ _ _ _ _ _ _ _ _ _ _ _ _ _ _ _ _ _ _ _ _ (_ :: _)
  refine h_if_eq (tgt := 28) C dX8_spread_5 (by decide) ⟨by omega, by omega⟩ (fun h2 => ?_) (fun h2 => ?_)
  · refine h_bipush C dX8_spread_28 (by decide) ?_
    refine h_ireturn C hr hlk dX8_spread_30 ?_
    exact ⟨⟨_, rfl, ⟨by decide, by decide⟩⟩, hI, hF0⟩
  · refine h_aload_n C dX8_spread_8 0 rfl rfl ?_
    refine h_iload_n C dX8_spread_9 1 rfl rfl ?_
    refine h_callV (As := [.int (hpI a0)]) (rest := []) C Z yyX8_rowOfDay wd_576 (tgX8_rowOfDay l D cy z _ a0 ⟨by omega, by omega⟩ hI) kd_0 rfl rfl ⟨rfl, rfl, Nat.le_of_ble_eq_true rfl, Nat.le_of_ble_eq_true rfl⟩ ⟨Nat.le_of_ble_eq_true rfl, Nat.le_of_ble_eq_true rfl⟩ (Nat.le_of_ble_eq_true rfl) dX8_spread_10 (fun r3 τ3 hp3 => ?_)
    obtain ⟨⟨x3, rfl, hx3⟩, hI3, hG3⟩ := hp3
    have hF3 : ∀ j i : Nat, 169 ≤ j → τ3 j i = σ j i := fun j i h_0 => (hG3 j i (by omega)).trans (hF0 j i h_0)
    have hl3 := kb_3 hx3
    show hpV _ _ _ _ _ _ _ _ _ _ _ _ _ _ _ _ _ _ _ _ _ (_ :: _)
    refine h_callVN (As := []) (rest := []) C Z yyX3_highest nw_663 (tgX3_highest l D cy z _ x3 hx3 hI3) hx3 rfl rfl ⟨rfl, rfl, Nat.le_of_ble_eq_true rfl, Nat.le_of_ble_eq_true rfl⟩ ⟨Nat.le_of_ble_eq_true rfl, Nat.le_of_ble_eq_true rfl⟩ (Nat.le_of_ble_eq_true rfl) dX8_spread_13 (fun r4 τ4 hp4 => ?_)
    obtain ⟨⟨x4, rfl, ⟨hx4a, hx4b⟩⟩, rfl⟩ := hp4
    show hpV _ _ _ _ _ _ _ _ _ _ _ _ _ _ _ _ _ _ _ _ _ (_ :: _)
    refine h_aload_n C dX8_spread_16 0 rfl rfl ?_
    refine h_iload_n C dX8_spread_17 1 rfl rfl ?_
    refine h_callV (As := [.int (hpI a0)]) (rest := [.int (hpI x4)]) C Z yyX8_rowOfDay wd_576 (tgX8_rowOfDay l D cy z _ a0 ⟨by omega, by omega⟩ hI3) kd_0 rfl rfl ⟨rfl, rfl, Nat.le_of_ble_eq_true rfl, Nat.le_of_ble_eq_true rfl⟩ ⟨Nat.le_of_ble_eq_true rfl, Nat.le_of_ble_eq_true rfl⟩ (Nat.le_of_ble_eq_true rfl) dX8_spread_18 (fun r5 τ5 hp5 => ?_)
    obtain ⟨⟨x5, rfl, hx5⟩, hI5, hG5⟩ := hp5
    have hF5 : ∀ j i : Nat, 169 ≤ j → τ5 j i = σ j i := fun j i h_0 => (hG5 j i (by omega)).trans (hF3 j i h_0)
    have hl5 := kb_3 hx5
    show hpV _ _ _ _ _ _ _ _ _ _ _ _ _ _ _ _ _ _ _ _ _ (_ :: _)
    refine h_callVN (As := []) (rest := [.int (hpI x4)]) C Z yyX3_lowest nw_667 (tgX3_lowest l D cy z _ x5 hx5 hI5) hx5 rfl rfl ⟨rfl, rfl, Nat.le_of_ble_eq_true rfl, Nat.le_of_ble_eq_true rfl⟩ ⟨Nat.le_of_ble_eq_true rfl, Nat.le_of_ble_eq_true rfl⟩ (Nat.le_of_ble_eq_true rfl) dX8_spread_21 (fun r6 τ6 hp6 => ?_)
    obtain ⟨⟨x6, rfl, ⟨hx6a, hx6b⟩⟩, rfl⟩ := hp6
    show hpV _ _ _ _ _ _ _ _ _ _ _ _ _ _ _ _ _ _ _ _ _ (_ :: _)
    refine h_isub C dX8_spread_24 rfl ?_
    refine hp_anyI (fun r7 hr7 => ?_)
    obtain ⟨hr7a, hr7b⟩ := hr7
    refine h_goto (tgt := 30) C dX8_spread_25 (by decide) ?_
    refine h_ireturn C hr hlk dX8_spread_30 ?_
    exact ⟨⟨_, rfl, ⟨by omega, by omega⟩⟩, hI5, hF5⟩
abbrev rgX8_odd : Room := { frames := 6, cells := 0, slots := 0, locals := 173 }
abbrev pgX8_odd (z : Nat) (σ : hpMem) (a0 : Int) : Option Value → hpMem → Prop := fun r τ => (∃ x : Int, r = some (.int (hpI x)) ∧ (hpR x)) ∧ hpInv τ ∧ (∀ j i : Nat, 169 ≤ j → τ j i = σ j i)
set_option maxHeartbeats 4000000 in
set_option maxRecDepth 20000 in
theorem tgX8_odd (l : Launch) (D : va_G) (cy : Nat → ClassId) (z : Nat) (σ : hpMem) (a0 : Int) (ha0 : hpR a0) (hI : hpInv σ) : hpM l D cy z yX8_odd cX8_odd 2 (some .int) rgX8_odd [.ref (z + 0), .int (hpI a0)] σ (pgX8_odd z σ a0) := by
  obtain ⟨ha01, ha02⟩ := ha0
  refine hp_met rfl (Nat.le_of_ble_eq_true rfl) (fun p e s m below meth c C Z hr hlk => ?_)
  have hF0 : ∀ j i : Nat, 169 ≤ j → σ j i = σ j i := fun j i _ => rfl
  refine h_aload_n C dX8_odd_0 0 rfl rfl ?_
  refine h_iload_n C dX8_odd_1 1 rfl rfl ?_
  refine h_callV (As := [.int (hpI a0)]) (rest := []) C Z yyX8_isDay wd_568 (tgX8_isDay l D cy z _ a0 ⟨by omega, by omega⟩ hI) kd_0 rfl rfl ⟨rfl, rfl, Nat.le_of_ble_eq_true rfl, Nat.le_of_ble_eq_true rfl⟩ ⟨Nat.le_of_ble_eq_true rfl, Nat.le_of_ble_eq_true rfl⟩ (Nat.le_of_ble_eq_true rfl) dX8_odd_2 (fun r1 τ1 hp1 => ?_)
  obtain ⟨⟨x1, rfl, ⟨hx1a, hx1b⟩, hx1⟩, rfl⟩ := hp1
  show hpV _ _ _ _ _ _ _ _ _ _ _ _ _ _ _ _ _ _ _ _ _ (_ :: _)
  refine h_if_eq (tgt := 19) C dX8_odd_5 (by decide) ⟨by omega, by omega⟩ (fun h2 => ?_) (fun h2 => ?_)
  · refine h_bipush C dX8_odd_19 (by decide) ?_
    refine h_ireturn C hr hlk dX8_odd_21 ?_
    exact ⟨⟨_, rfl, ⟨by decide, by decide⟩⟩, hI, hF0⟩
  · refine h_aload_n C dX8_odd_8 0 rfl rfl ?_
    refine h_iload_n C dX8_odd_9 1 rfl rfl ?_
    refine h_callV (As := [.int (hpI a0)]) (rest := []) C Z yyX8_rowOfDay wd_576 (tgX8_rowOfDay l D cy z _ a0 ⟨by omega, by omega⟩ hI) kd_0 rfl rfl ⟨rfl, rfl, Nat.le_of_ble_eq_true rfl, Nat.le_of_ble_eq_true rfl⟩ ⟨Nat.le_of_ble_eq_true rfl, Nat.le_of_ble_eq_true rfl⟩ (Nat.le_of_ble_eq_true rfl) dX8_odd_10 (fun r3 τ3 hp3 => ?_)
    obtain ⟨⟨x3, rfl, hx3⟩, hI3, hG3⟩ := hp3
    have hF3 : ∀ j i : Nat, 169 ≤ j → τ3 j i = σ j i := fun j i h_0 => (hG3 j i (by omega)).trans (hF0 j i h_0)
    have hl3 := kb_3 hx3
    show hpV _ _ _ _ _ _ _ _ _ _ _ _ _ _ _ _ _ _ _ _ _ (_ :: _)
    refine h_callVN (As := []) (rest := []) C Z yyX3_oddHeaps nw_675 (tgX3_oddHeaps l D cy z _ x3 hx3 hI3) hx3 rfl rfl ⟨rfl, rfl, Nat.le_of_ble_eq_true rfl, Nat.le_of_ble_eq_true rfl⟩ ⟨Nat.le_of_ble_eq_true rfl, Nat.le_of_ble_eq_true rfl⟩ (Nat.le_of_ble_eq_true rfl) dX8_odd_13 (fun r4 τ4 hp4 => ?_)
    obtain ⟨⟨x4, rfl, ⟨hx4a, hx4b⟩⟩, rfl⟩ := hp4
    show hpV _ _ _ _ _ _ _ _ _ _ _ _ _ _ _ _ _ _ _ _ _ (_ :: _)
    refine h_goto (tgt := 21) C dX8_odd_16 (by decide) ?_
    refine h_ireturn C hr hlk dX8_odd_21 ?_
    exact ⟨⟨_, rfl, ⟨by omega, by omega⟩⟩, hI3, hF3⟩
abbrev rgX8_taken : Room := { frames := 6, cells := 0, slots := 0, locals := 173 }
abbrev pgX8_taken (z : Nat) (σ : hpMem) (a0 : Int) : Option Value → hpMem → Prop := fun r τ => (∃ x : Int, r = some (.int (hpI x)) ∧ (hpR x)) ∧ hpInv τ ∧ (∀ j i : Nat, 169 ≤ j → τ j i = σ j i)
set_option maxHeartbeats 4000000 in
set_option maxRecDepth 20000 in
theorem tgX8_taken (l : Launch) (D : va_G) (cy : Nat → ClassId) (z : Nat) (σ : hpMem) (a0 : Int) (ha0 : hpR a0) (hI : hpInv σ) : hpM l D cy z yX8_taken cX8_taken 2 (some .int) rgX8_taken [.ref (z + 0), .int (hpI a0)] σ (pgX8_taken z σ a0) := by
  obtain ⟨ha01, ha02⟩ := ha0
  refine hp_met rfl (Nat.le_of_ble_eq_true rfl) (fun p e s m below meth c C Z hr hlk => ?_)
  have hF0 : ∀ j i : Nat, 169 ≤ j → σ j i = σ j i := fun j i _ => rfl
  refine h_aload_n C dX8_taken_0 0 rfl rfl ?_
  refine h_iload_n C dX8_taken_1 1 rfl rfl ?_
  refine h_callV (As := [.int (hpI a0)]) (rest := []) C Z yyX8_isDayAheadOfLast wd_683 (tgX8_isDayAheadOfLast l D cy z _ a0 ⟨by omega, by omega⟩ hI) kd_0 rfl rfl ⟨rfl, rfl, Nat.le_of_ble_eq_true rfl, Nat.le_of_ble_eq_true rfl⟩ ⟨Nat.le_of_ble_eq_true rfl, Nat.le_of_ble_eq_true rfl⟩ (Nat.le_of_ble_eq_true rfl) dX8_taken_2 (fun r1 τ1 hp1 => ?_)
  obtain ⟨⟨x1, rfl, ⟨hx1a, hx1b⟩, hx1⟩, rfl⟩ := hp1
  show hpV _ _ _ _ _ _ _ _ _ _ _ _ _ _ _ _ _ _ _ _ _ (_ :: _)
  refine h_if_eq (tgt := 26) C dX8_taken_5 (by decide) ⟨by omega, by omega⟩ (fun h2 => ?_) (fun h2 => ?_)
  · refine h_bipush C dX8_taken_26 (by decide) ?_
    refine h_ireturn C hr hlk dX8_taken_28 ?_
    exact ⟨⟨_, rfl, ⟨by decide, by decide⟩⟩, hI, hF0⟩
  · refine h_aload_n C dX8_taken_8 0 rfl rfl ?_
    refine h_iload_n C dX8_taken_9 1 rfl rfl ?_
    refine h_callV (As := [.int (hpI a0)]) (rest := []) C Z yyX8_rowOfDay wd_576 (tgX8_rowOfDay l D cy z _ a0 ⟨by omega, by omega⟩ hI) kd_0 rfl rfl ⟨rfl, rfl, Nat.le_of_ble_eq_true rfl, Nat.le_of_ble_eq_true rfl⟩ ⟨Nat.le_of_ble_eq_true rfl, Nat.le_of_ble_eq_true rfl⟩ (Nat.le_of_ble_eq_true rfl) dX8_taken_10 (fun r3 τ3 hp3 => ?_)
    obtain ⟨⟨x3, rfl, hx3⟩, hI3, hG3⟩ := hp3
    have hF3 : ∀ j i : Nat, 169 ≤ j → τ3 j i = σ j i := fun j i h_0 => (hG3 j i (by omega)).trans (hF0 j i h_0)
    have hl3 := kb_3 hx3
    show hpV _ _ _ _ _ _ _ _ _ _ _ _ _ _ _ _ _ _ _ _ _ (_ :: _)
    refine h_aload_n C dX8_taken_13 0 rfl rfl ?_
    refine h_get C O8 1 kd_0 (by decide) wd_350 dX8_taken_14 fr_0_1 ?_
    refine h_getN C O1 6 kd_3 (by decide) nw_89 dX8_taken_17 (hp_fvI (by rw [kd_3]; rfl) rfl) ?_
    obtain ⟨hr4a, hr4b⟩ := hI3.b (bf_1_6 kd_3)
    generalize hg4 : τ3 3 6 = r4 at hr4a hr4b ⊢
    refine h_callVN (As := [.int (hpI r4)]) (rest := []) C Z yyX3_takenBy nw_687 (tgX3_takenBy l D cy z _ x3 hx3 r4 ⟨by omega, by omega⟩ hI3) hx3 rfl rfl ⟨rfl, rfl, Nat.le_of_ble_eq_true rfl, Nat.le_of_ble_eq_true rfl⟩ ⟨Nat.le_of_ble_eq_true rfl, Nat.le_of_ble_eq_true rfl⟩ (Nat.le_of_ble_eq_true rfl) dX8_taken_20 (fun r5 τ5 hp5 => ?_)
    obtain ⟨⟨x5, rfl, ⟨hx5a, hx5b⟩⟩, rfl⟩ := hp5
    show hpV _ _ _ _ _ _ _ _ _ _ _ _ _ _ _ _ _ _ _ _ _ (_ :: _)
    refine h_goto (tgt := 28) C dX8_taken_23 (by decide) ?_
    refine h_ireturn C hr hlk dX8_taken_28 ?_
    exact ⟨⟨_, rfl, ⟨by omega, by omega⟩⟩, hI3, hF3⟩
abbrev rgX8_gone : Room := { frames := 6, cells := 0, slots := 0, locals := 173 }
abbrev pgX8_gone (z : Nat) (σ : hpMem) (a0 : Int) : Option Value → hpMem → Prop := fun r τ => (∃ x : Int, r = some (.int (hpI x)) ∧ (hpR x)) ∧ hpInv τ ∧ (∀ j i : Nat, 169 ≤ j → τ j i = σ j i)
set_option maxHeartbeats 4000000 in
set_option maxRecDepth 20000 in
theorem tgX8_gone (l : Launch) (D : va_G) (cy : Nat → ClassId) (z : Nat) (σ : hpMem) (a0 : Int) (ha0 : hpR a0) (hI : hpInv σ) : hpM l D cy z yX8_gone cX8_gone 2 (some .int) rgX8_gone [.ref (z + 0), .int (hpI a0)] σ (pgX8_gone z σ a0) := by
  obtain ⟨ha01, ha02⟩ := ha0
  refine hp_met rfl (Nat.le_of_ble_eq_true rfl) (fun p e s m below meth c C Z hr hlk => ?_)
  have hF0 : ∀ j i : Nat, 169 ≤ j → σ j i = σ j i := fun j i _ => rfl
  refine h_aload_n C dX8_gone_0 0 rfl rfl ?_
  refine h_iload_n C dX8_gone_1 1 rfl rfl ?_
  refine h_callV (As := [.int (hpI a0)]) (rest := []) C Z yyX8_isDayAheadOfLast wd_683 (tgX8_isDayAheadOfLast l D cy z _ a0 ⟨by omega, by omega⟩ hI) kd_0 rfl rfl ⟨rfl, rfl, Nat.le_of_ble_eq_true rfl, Nat.le_of_ble_eq_true rfl⟩ ⟨Nat.le_of_ble_eq_true rfl, Nat.le_of_ble_eq_true rfl⟩ (Nat.le_of_ble_eq_true rfl) dX8_gone_2 (fun r1 τ1 hp1 => ?_)
  obtain ⟨⟨x1, rfl, ⟨hx1a, hx1b⟩, hx1⟩, rfl⟩ := hp1
  show hpV _ _ _ _ _ _ _ _ _ _ _ _ _ _ _ _ _ _ _ _ _ (_ :: _)
  refine h_if_eq (tgt := 26) C dX8_gone_5 (by decide) ⟨by omega, by omega⟩ (fun h2 => ?_) (fun h2 => ?_)
  · refine h_bipush C dX8_gone_26 (by decide) ?_
    refine h_ireturn C hr hlk dX8_gone_28 ?_
    exact ⟨⟨_, rfl, ⟨by decide, by decide⟩⟩, hI, hF0⟩
  · refine h_aload_n C dX8_gone_8 0 rfl rfl ?_
    refine h_iload_n C dX8_gone_9 1 rfl rfl ?_
    refine h_callV (As := [.int (hpI a0)]) (rest := []) C Z yyX8_rowOfDay wd_576 (tgX8_rowOfDay l D cy z _ a0 ⟨by omega, by omega⟩ hI) kd_0 rfl rfl ⟨rfl, rfl, Nat.le_of_ble_eq_true rfl, Nat.le_of_ble_eq_true rfl⟩ ⟨Nat.le_of_ble_eq_true rfl, Nat.le_of_ble_eq_true rfl⟩ (Nat.le_of_ble_eq_true rfl) dX8_gone_10 (fun r3 τ3 hp3 => ?_)
    obtain ⟨⟨x3, rfl, hx3⟩, hI3, hG3⟩ := hp3
    have hF3 : ∀ j i : Nat, 169 ≤ j → τ3 j i = σ j i := fun j i h_0 => (hG3 j i (by omega)).trans (hF0 j i h_0)
    have hl3 := kb_3 hx3
    show hpV _ _ _ _ _ _ _ _ _ _ _ _ _ _ _ _ _ _ _ _ _ (_ :: _)
    refine h_aload_n C dX8_gone_13 0 rfl rfl ?_
    refine h_get C O8 1 kd_0 (by decide) wd_350 dX8_gone_14 fr_0_1 ?_
    refine h_getN C O1 6 kd_3 (by decide) nw_89 dX8_gone_17 (hp_fvI (by rw [kd_3]; rfl) rfl) ?_
    obtain ⟨hr4a, hr4b⟩ := hI3.b (bf_1_6 kd_3)
    generalize hg4 : τ3 3 6 = r4 at hr4a hr4b ⊢
    refine h_callVN (As := [.int (hpI r4)]) (rest := []) C Z yyX3_goneBy nw_699 (tgX3_goneBy l D cy z _ x3 hx3 r4 ⟨by omega, by omega⟩ hI3) hx3 rfl rfl ⟨rfl, rfl, Nat.le_of_ble_eq_true rfl, Nat.le_of_ble_eq_true rfl⟩ ⟨Nat.le_of_ble_eq_true rfl, Nat.le_of_ble_eq_true rfl⟩ (Nat.le_of_ble_eq_true rfl) dX8_gone_20 (fun r5 τ5 hp5 => ?_)
    obtain ⟨⟨x5, rfl, ⟨hx5a, hx5b⟩⟩, rfl⟩ := hp5
    show hpV _ _ _ _ _ _ _ _ _ _ _ _ _ _ _ _ _ _ _ _ _ (_ :: _)
    refine h_goto (tgt := 28) C dX8_gone_23 (by decide) ?_
    refine h_ireturn C hr hlk dX8_gone_28 ?_
    exact ⟨⟨_, rfl, ⟨by omega, by omega⟩⟩, hI3, hF3⟩
abbrev rgX8_most : Room := { frames := 6, cells := 0, slots := 0, locals := 173 }
abbrev pgX8_most (z : Nat) (σ : hpMem) : Option Value → hpMem → Prop := fun r τ => (∃ x : Int, r = some (.int (hpI x)) ∧ (hpR x)) ∧ hpInv τ ∧ (∀ j i : Nat, 169 ≤ j → τ j i = σ j i)
set_option maxHeartbeats 4000000 in
set_option maxRecDepth 20000 in
theorem tgX8_most (l : Launch) (D : va_G) (cy : Nat → ClassId) (z : Nat) (σ : hpMem) (hI : hpInv σ) : hpM l D cy z yX8_most cX8_most 3 (some .int) rgX8_most [.ref (z + 0)] σ (pgX8_most z σ) := by
  refine hp_met rfl (Nat.le_of_ble_eq_true rfl) (fun p e s m below meth c C Z hr hlk => ?_)
  have hF0 : ∀ j i : Nat, 169 ≤ j → σ j i = σ j i := fun j i _ => rfl
  refine h_aload_n C dX8_most_0 0 rfl rfl ?_
  refine h_callV (As := []) (rest := []) C Z yyX8_noMoor wd_572 (tgX8_noMoor l D cy z _ hI) kd_0 rfl rfl ⟨rfl, rfl, Nat.le_of_ble_eq_true rfl, Nat.le_of_ble_eq_true rfl⟩ ⟨Nat.le_of_ble_eq_true rfl, Nat.le_of_ble_eq_true rfl⟩ (Nat.le_of_ble_eq_true rfl) dX8_most_1 (fun r1 τ1 hp1 => ?_)
  obtain ⟨⟨x1, rfl, ⟨hx1a, hx1b⟩⟩, rfl⟩ := hp1
  show hpV _ _ _ _ _ _ _ _ _ _ _ _ _ _ _ _ _ _ _ _ _ (_ :: _)
  refine h_if_eq (tgt := 10) C dX8_most_4 (by decide) ⟨by omega, by omega⟩ (fun h2 => ?_) (fun h2 => ?_)
  · refine h_iconst C dX8_most_10 ?_
    refine h_istore_n (lv' := [(1, .int (hpI 0)), (0, .ref (z + 0))]) C dX8_most_11 rfl (by decide) rfl ?_
    refine h_iconst C dX8_most_12 ?_
    refine h_istore_n (lv' := [(2, .int (hpI 0)), (1, .int (hpI 0)), (0, .ref (z + 0))]) C dX8_most_13 rfl (by decide) rfl ?_
    have L3 : ∀ (n3 : Nat) (τ3 : hpMem) (w3_1 : Int) (w3_2 : Int), -2147483648 ≤ w3_1 → w3_1 ≤ 2147483647 → 0 ≤ w3_2 → w3_2 ≤ 2147483647 → hpInv τ3 → (∀ j i : Nat, 169 ≤ j → τ3 j i = σ j i) → (4294967296 - w3_2) < (n3 : Int) → hpF p l e rgX8_most s m [.ref (z + 0)] below meth c 3 D cy z (pgX8_most z σ) τ3 14 [(0, .ref (z + 0)), (1, .int (hpI w3_1)), (2, .int (hpI w3_2))] [] := by
      intro n3
      induction n3 with
      | zero => intro τ3 w3_1 w3_2 hv3_0 hv3_1 hv3_2 hv3_3 hI3 hF3 hm3; exfalso; omega
      | succ n3 ih3 =>
        intro τ3 w3_1 w3_2 hv3_0 hv3_1 hv3_2 hv3_3 hI3 hF3 hm3
        refine h_iload_n C dX8_most_14 2 rfl rfl ?_
        refine h_aload_n C dX8_most_15 0 rfl rfl ?_
        refine h_get C O8 1 kd_0 (by decide) wd_350 dX8_most_16 fr_0_1 ?_
        refine h_getN C O1 5 kd_3 (by decide) nw_85 dX8_most_19 (hp_fvI (by rw [kd_3]; rfl) rfl) ?_
        obtain ⟨hr4a, hr4b⟩ := hI3.b (bf_1_5 kd_3)
        generalize hg4 : τ3 3 5 = r4 at hr4a hr4b ⊢
        refine h_icmp_gt (tgt := 44) C dX8_most_22 (by decide) ⟨by omega, by omega⟩ ⟨by omega, by omega⟩ (fun h5 => ?_) (fun h5 => ?_)
        · refine h_iload_n C dX8_most_44 1 rfl rfl ?_
          refine h_ireturn C hr hlk dX8_most_45 ?_
          exact ⟨⟨_, rfl, ⟨by omega, by omega⟩⟩, hI3, hF3⟩
        · refine h_iload_n C dX8_most_25 1 rfl rfl ?_
          refine h_aload_n C dX8_most_26 0 rfl rfl ?_
          refine h_iload_n C dX8_most_27 2 rfl rfl ?_
          refine h_callV (As := [.int (hpI w3_2)]) (rest := [.int (hpI w3_1)]) C Z yyX8_rowOfDay wd_576 (tgX8_rowOfDay l D cy z _ w3_2 ⟨by omega, by omega⟩ hI3) kd_0 rfl rfl ⟨rfl, rfl, Nat.le_of_ble_eq_true rfl, Nat.le_of_ble_eq_true rfl⟩ ⟨Nat.le_of_ble_eq_true rfl, Nat.le_of_ble_eq_true rfl⟩ (Nat.le_of_ble_eq_true rfl) dX8_most_28 (fun r6 τ6 hp6 => ?_)
          obtain ⟨⟨x6, rfl, hx6⟩, hI6, hG6⟩ := hp6
          have hF6 : ∀ j i : Nat, 169 ≤ j → τ6 j i = σ j i := fun j i h_0 => (hG6 j i (by omega)).trans (hF3 j i h_0)
          have hl6 := kb_3 hx6
          show hpV _ _ _ _ _ _ _ _ _ _ _ _ _ _ _ _ _ _ _ _ _ (_ :: _)
          refine h_getN C O3 3 hx6 (by decide) nw_164 dX8_most_31 (hp_fvI (by rw [hx6]; rfl) rfl) ?_
          obtain ⟨hr7a, hr7b⟩ := hI6.b (bf_3_3 hx6)
          generalize hg7 : τ6 x6 3 = r7 at hr7a hr7b ⊢
          refine h_mmax C wd_707 wd_708 wd_709 wd_15 dX8_most_34 ⟨by omega, by omega⟩ ⟨by omega, by omega⟩ (Nat.le_of_ble_eq_true rfl) (Nat.le_of_ble_eq_true rfl) ⟨Nat.le_of_ble_eq_true rfl, Nat.le_of_ble_eq_true rfl⟩ (fun r8 hr8a hr8b hr8c => ?_)
          refine h_istore_n (lv' := [(1, .int (hpI r8)), (0, .ref (z + 0)), (2, .int (hpI w3_2))]) C dX8_most_37 rfl (by decide) rfl ?_
          refine h_iinc (lv' := [(2, .int (hpI (w3_2 + 1))), (1, .int (hpI r8)), (0, .ref (z + 0))]) C dX8_most_38 2 rfl rfl (by decide) rfl ?_
          refine h_goto (tgt := 14) C dX8_most_41 (by decide) ?_
          exact hp_sub [2, 1, 0] rfl (ih3 _ r8 (w3_2 + 1) (by omega) (by omega) (by omega) (by omega) hI6 hF6 (by omega))
    exact hp_sub [2, 1, 0] rfl (L3 8589934592 _ 0 0 (by omega) (by omega) (by omega) (by omega) hI hF0 (by omega))
  · refine h_bipush C dX8_most_7 (by decide) ?_
    refine h_ireturn C hr hlk dX8_most_9 ?_
    exact ⟨⟨_, rfl, ⟨by decide, by decide⟩⟩, hI, hF0⟩
abbrev rgX8_peak : Room := { frames := 6, cells := 0, slots := 0, locals := 173 }
abbrev pgX8_peak (z : Nat) (σ : hpMem) : Option Value → hpMem → Prop := fun r τ => (∃ x : Int, r = some (.int (hpI x)) ∧ (hpR x)) ∧ hpInv τ ∧ (∀ j i : Nat, 169 ≤ j → τ j i = σ j i)
set_option maxHeartbeats 4000000 in
set_option maxRecDepth 20000 in
theorem tgX8_peak (l : Launch) (D : va_G) (cy : Nat → ClassId) (z : Nat) (σ : hpMem) (hI : hpInv σ) : hpM l D cy z yX8_peak cX8_peak 3 (some .int) rgX8_peak [.ref (z + 0)] σ (pgX8_peak z σ) := by
  refine hp_met rfl (Nat.le_of_ble_eq_true rfl) (fun p e s m below meth c C Z hr hlk => ?_)
  have hF0 : ∀ j i : Nat, 169 ≤ j → σ j i = σ j i := fun j i _ => rfl
  refine h_aload_n C dX8_peak_0 0 rfl rfl ?_
  refine h_callV (As := []) (rest := []) C Z yyX8_noMoor wd_572 (tgX8_noMoor l D cy z _ hI) kd_0 rfl rfl ⟨rfl, rfl, Nat.le_of_ble_eq_true rfl, Nat.le_of_ble_eq_true rfl⟩ ⟨Nat.le_of_ble_eq_true rfl, Nat.le_of_ble_eq_true rfl⟩ (Nat.le_of_ble_eq_true rfl) dX8_peak_1 (fun r1 τ1 hp1 => ?_)
  obtain ⟨⟨x1, rfl, ⟨hx1a, hx1b⟩⟩, rfl⟩ := hp1
  show hpV _ _ _ _ _ _ _ _ _ _ _ _ _ _ _ _ _ _ _ _ _ (_ :: _)
  refine h_if_eq (tgt := 10) C dX8_peak_4 (by decide) ⟨by omega, by omega⟩ (fun h2 => ?_) (fun h2 => ?_)
  · refine h_iconst C dX8_peak_10 ?_
    refine h_istore_n (lv' := [(1, .int (hpI 0)), (0, .ref (z + 0))]) C dX8_peak_11 rfl (by decide) rfl ?_
    refine h_iconst C dX8_peak_12 ?_
    refine h_istore_n (lv' := [(2, .int (hpI 1)), (1, .int (hpI 0)), (0, .ref (z + 0))]) C dX8_peak_13 rfl (by decide) rfl ?_
    have L3 : ∀ (n3 : Nat) (τ3 : hpMem) (w3_1 : Int) (w3_2 : Int), -2147483648 ≤ w3_1 → w3_1 ≤ 2147483647 → 1 ≤ w3_2 → w3_2 ≤ 2147483647 → hpInv τ3 → (∀ j i : Nat, 169 ≤ j → τ3 j i = σ j i) → (4294967296 - w3_2) < (n3 : Int) → hpF p l e rgX8_peak s m [.ref (z + 0)] below meth c 3 D cy z (pgX8_peak z σ) τ3 14 [(0, .ref (z + 0)), (1, .int (hpI w3_1)), (2, .int (hpI w3_2))] [] := by
      intro n3
      induction n3 with
      | zero => intro τ3 w3_1 w3_2 hv3_0 hv3_1 hv3_2 hv3_3 hI3 hF3 hm3; exfalso; omega
      | succ n3 ih3 =>
        intro τ3 w3_1 w3_2 hv3_0 hv3_1 hv3_2 hv3_3 hI3 hF3 hm3
        refine h_iload_n C dX8_peak_14 2 rfl rfl ?_
        refine h_aload_n C dX8_peak_15 0 rfl rfl ?_
        refine h_get C O8 1 kd_0 (by decide) wd_350 dX8_peak_16 fr_0_1 ?_
        refine h_getN C O1 5 kd_3 (by decide) nw_85 dX8_peak_19 (hp_fvI (by rw [kd_3]; rfl) rfl) ?_
        obtain ⟨hr4a, hr4b⟩ := hI3.b (bf_1_5 kd_3)
        generalize hg4 : τ3 3 5 = r4 at hr4a hr4b ⊢
        refine h_icmp_gt (tgt := 52) C dX8_peak_22 (by decide) ⟨by omega, by omega⟩ ⟨by omega, by omega⟩ (fun h5 => ?_) (fun h5 => ?_)
        · refine h_iload_n C dX8_peak_52 1 rfl rfl ?_
          refine h_ireturn C hr hlk dX8_peak_53 ?_
          exact ⟨⟨_, rfl, ⟨by omega, by omega⟩⟩, hI3, hF3⟩
        · refine h_aload_n C dX8_peak_25 0 rfl rfl ?_
          refine h_iload_n C dX8_peak_26 2 rfl rfl ?_
          refine h_callV (As := [.int (hpI w3_2)]) (rest := []) C Z yyX8_rowOfDay wd_576 (tgX8_rowOfDay l D cy z _ w3_2 ⟨by omega, by omega⟩ hI3) kd_0 rfl rfl ⟨rfl, rfl, Nat.le_of_ble_eq_true rfl, Nat.le_of_ble_eq_true rfl⟩ ⟨Nat.le_of_ble_eq_true rfl, Nat.le_of_ble_eq_true rfl⟩ (Nat.le_of_ble_eq_true rfl) dX8_peak_27 (fun r6 τ6 hp6 => ?_)
          obtain ⟨⟨x6, rfl, hx6⟩, hI6, hG6⟩ := hp6
          have hF6 : ∀ j i : Nat, 169 ≤ j → τ6 j i = σ j i := fun j i h_0 => (hG6 j i (by omega)).trans (hF3 j i h_0)
          have hl6 := kb_3 hx6
          show hpV _ _ _ _ _ _ _ _ _ _ _ _ _ _ _ _ _ _ _ _ _ (_ :: _)
          refine h_callVN (As := []) (rest := []) C Z yyX3_highest nw_663 (tgX3_highest l D cy z _ x6 hx6 hI6) hx6 rfl rfl ⟨rfl, rfl, Nat.le_of_ble_eq_true rfl, Nat.le_of_ble_eq_true rfl⟩ ⟨Nat.le_of_ble_eq_true rfl, Nat.le_of_ble_eq_true rfl⟩ (Nat.le_of_ble_eq_true rfl) dX8_peak_30 (fun r7 τ7 hp7 => ?_)
          obtain ⟨⟨x7, rfl, ⟨hx7a, hx7b⟩⟩, rfl⟩ := hp7
          show hpV _ _ _ _ _ _ _ _ _ _ _ _ _ _ _ _ _ _ _ _ _ (_ :: _)
          refine h_aload_n C dX8_peak_33 0 rfl rfl ?_
          refine h_iload_n C dX8_peak_34 1 rfl rfl ?_
          refine h_callV (As := [.int (hpI w3_1)]) (rest := [.int (hpI x7)]) C Z yyX8_rowOfDay wd_576 (tgX8_rowOfDay l D cy z _ w3_1 ⟨by omega, by omega⟩ hI6) kd_0 rfl rfl ⟨rfl, rfl, Nat.le_of_ble_eq_true rfl, Nat.le_of_ble_eq_true rfl⟩ ⟨Nat.le_of_ble_eq_true rfl, Nat.le_of_ble_eq_true rfl⟩ (Nat.le_of_ble_eq_true rfl) dX8_peak_35 (fun r8 τ8 hp8 => ?_)
          obtain ⟨⟨x8, rfl, hx8⟩, hI8, hG8⟩ := hp8
          have hF8 : ∀ j i : Nat, 169 ≤ j → τ8 j i = σ j i := fun j i h_0 => (hG8 j i (by omega)).trans (hF6 j i h_0)
          have hl8 := kb_3 hx8
          show hpV _ _ _ _ _ _ _ _ _ _ _ _ _ _ _ _ _ _ _ _ _ (_ :: _)
          refine h_callVN (As := []) (rest := [.int (hpI x7)]) C Z yyX3_highest nw_663 (tgX3_highest l D cy z _ x8 hx8 hI8) hx8 rfl rfl ⟨rfl, rfl, Nat.le_of_ble_eq_true rfl, Nat.le_of_ble_eq_true rfl⟩ ⟨Nat.le_of_ble_eq_true rfl, Nat.le_of_ble_eq_true rfl⟩ (Nat.le_of_ble_eq_true rfl) dX8_peak_38 (fun r9 τ9 hp9 => ?_)
          obtain ⟨⟨x9, rfl, ⟨hx9a, hx9b⟩⟩, rfl⟩ := hp9
          show hpV _ _ _ _ _ _ _ _ _ _ _ _ _ _ _ _ _ _ _ _ _ (_ :: _)
          refine h_icmp_le (tgt := 46) C dX8_peak_41 (by decide) ⟨by omega, by omega⟩ ⟨by omega, by omega⟩ (fun h10 => ?_) (fun h10 => ?_)
          · refine h_iinc (lv' := [(2, .int (hpI (w3_2 + 1))), (0, .ref (z + 0)), (1, .int (hpI w3_1))]) C dX8_peak_46 2 rfl rfl (by decide) rfl ?_
            refine h_goto (tgt := 14) C dX8_peak_49 (by decide) ?_
            exact hp_sub [1, 2, 0] rfl (ih3 _ w3_1 (w3_2 + 1) (by omega) (by omega) (by omega) (by omega) hI8 hF8 (by omega))
          · refine h_iload_n C dX8_peak_44 2 rfl rfl ?_
            refine h_istore_n (lv' := [(1, .int (hpI w3_2)), (0, .ref (z + 0)), (2, .int (hpI w3_2))]) C dX8_peak_45 rfl (by decide) rfl ?_
            refine h_iinc (lv' := [(2, .int (hpI (w3_2 + 1))), (1, .int (hpI w3_2)), (0, .ref (z + 0))]) C dX8_peak_46 2 rfl rfl (by decide) rfl ?_
            refine h_goto (tgt := 14) C dX8_peak_49 (by decide) ?_
            exact hp_sub [2, 1, 0] rfl (ih3 _ w3_2 (w3_2 + 1) (by omega) (by omega) (by omega) (by omega) hI8 hF8 (by omega))
    exact hp_sub [2, 1, 0] rfl (L3 8589934592 _ 0 1 (by omega) (by omega) (by omega) (by omega) hI hF0 (by omega))
  · refine h_bipush C dX8_peak_7 (by decide) ?_
    refine h_ireturn C hr hlk dX8_peak_9 ?_
    exact ⟨⟨_, rfl, ⟨by decide, by decide⟩⟩, hI, hF0⟩
abbrev rgX8_same : Room := { frames := 7, cells := 0, slots := 0, locals := 195 }
abbrev pgX8_same (z : Nat) (σ : hpMem) (a0 : Int) : Option Value → hpMem → Prop := fun r τ => (∃ x : Int, r = some (.int (hpI x)) ∧ (hpR x)) ∧ hpInv τ ∧ (∀ j i : Nat, 169 ≤ j → τ j i = σ j i)
set_option maxHeartbeats 4000000 in
set_option maxRecDepth 20000 in
theorem tgX8_same (l : Launch) (D : va_G) (cy : Nat → ClassId) (z : Nat) (σ : hpMem) (a0 : Int) (ha0 : hpR a0) (hI : hpInv σ) : hpM l D cy z yX8_same cX8_same 2 (some .int) rgX8_same [.ref (z + 0), .int (hpI a0)] σ (pgX8_same z σ a0) := by
  obtain ⟨ha01, ha02⟩ := ha0
  refine hp_met rfl (Nat.le_of_ble_eq_true rfl) (fun p e s m below meth c C Z hr hlk => ?_)
  have hF0 : ∀ j i : Nat, 169 ≤ j → σ j i = σ j i := fun j i _ => rfl
  refine h_aload_n C dX8_same_0 0 rfl rfl ?_
  refine h_iload_n C dX8_same_1 1 rfl rfl ?_
  refine h_callV (As := [.int (hpI a0)]) (rest := []) C Z yyX8_isDay wd_568 (tgX8_isDay l D cy z _ a0 ⟨by omega, by omega⟩ hI) kd_0 rfl rfl ⟨rfl, rfl, Nat.le_of_ble_eq_true rfl, Nat.le_of_ble_eq_true rfl⟩ ⟨Nat.le_of_ble_eq_true rfl, Nat.le_of_ble_eq_true rfl⟩ (Nat.le_of_ble_eq_true rfl) dX8_same_2 (fun r1 τ1 hp1 => ?_)
  obtain ⟨⟨x1, rfl, ⟨hx1a, hx1b⟩, hx1⟩, rfl⟩ := hp1
  show hpV _ _ _ _ _ _ _ _ _ _ _ _ _ _ _ _ _ _ _ _ _ (_ :: _)
  refine h_if_eq (tgt := 16) C dX8_same_5 (by decide) ⟨by omega, by omega⟩ (fun h2 => ?_) (fun h2 => ?_)
  · refine h_bipush C dX8_same_16 (by decide) ?_
    refine h_ireturn C hr hlk dX8_same_18 ?_
    exact ⟨⟨_, rfl, ⟨by decide, by decide⟩⟩, hI, hF0⟩
  · refine h_aload_n C dX8_same_8 0 rfl rfl ?_
    refine h_iload_n C dX8_same_9 1 rfl rfl ?_
    refine h_callV (As := [.int (hpI a0)]) (rest := []) C Z yyX8_firstLike wd_718 (tgX8_firstLike l D cy z _ a0 ⟨by omega, by omega⟩ hI) kd_0 rfl rfl ⟨rfl, rfl, Nat.le_of_ble_eq_true rfl, Nat.le_of_ble_eq_true rfl⟩ ⟨Nat.le_of_ble_eq_true rfl, Nat.le_of_ble_eq_true rfl⟩ (Nat.le_of_ble_eq_true rfl) dX8_same_10 (fun r3 τ3 hp3 => ?_)
    obtain ⟨⟨x3, rfl, ⟨hx3a, hx3b⟩⟩, hI3, hG3⟩ := hp3
    have hF3 : ∀ j i : Nat, 169 ≤ j → τ3 j i = σ j i := fun j i h_0 => (hG3 j i (by omega)).trans (hF0 j i h_0)
    show hpV _ _ _ _ _ _ _ _ _ _ _ _ _ _ _ _ _ _ _ _ _ (_ :: _)
    refine h_goto (tgt := 18) C dX8_same_13 (by decide) ?_
    refine h_ireturn C hr hlk dX8_same_18 ?_
    exact ⟨⟨_, rfl, ⟨by omega, by omega⟩⟩, hI3, hF3⟩
abbrev rgX8_still : Room := { frames := 6, cells := 0, slots := 0, locals := 173 }
abbrev pgX8_still (z : Nat) (σ : hpMem) : Option Value → hpMem → Prop := fun r τ => (∃ x : Int, r = some (.int (hpI x)) ∧ (hpR x)) ∧ hpInv τ ∧ (∀ j i : Nat, 169 ≤ j → τ j i = σ j i)
set_option maxHeartbeats 4000000 in
set_option maxRecDepth 20000 in
theorem tgX8_still (l : Launch) (D : va_G) (cy : Nat → ClassId) (z : Nat) (σ : hpMem) (hI : hpInv σ) : hpM l D cy z yX8_still cX8_still 2 (some .int) rgX8_still [.ref (z + 0)] σ (pgX8_still z σ) := by
  refine hp_met rfl (Nat.le_of_ble_eq_true rfl) (fun p e s m below meth c C Z hr hlk => ?_)
  have hF0 : ∀ j i : Nat, 169 ≤ j → σ j i = σ j i := fun j i _ => rfl
  refine h_aload_n C dX8_still_0 0 rfl rfl ?_
  refine h_callV (As := []) (rest := []) C Z yyX8_noMoor wd_572 (tgX8_noMoor l D cy z _ hI) kd_0 rfl rfl ⟨rfl, rfl, Nat.le_of_ble_eq_true rfl, Nat.le_of_ble_eq_true rfl⟩ ⟨Nat.le_of_ble_eq_true rfl, Nat.le_of_ble_eq_true rfl⟩ (Nat.le_of_ble_eq_true rfl) dX8_still_1 (fun r1 τ1 hp1 => ?_)
  obtain ⟨⟨x1, rfl, ⟨hx1a, hx1b⟩⟩, rfl⟩ := hp1
  show hpV _ _ _ _ _ _ _ _ _ _ _ _ _ _ _ _ _ _ _ _ _ (_ :: _)
  refine h_if_eq (tgt := 10) C dX8_still_4 (by decide) ⟨by omega, by omega⟩ (fun h2 => ?_) (fun h2 => ?_)
  · refine h_aload_n C dX8_still_10 0 rfl rfl ?_
    refine h_get C O8 1 kd_0 (by decide) wd_350 dX8_still_11 fr_0_1 ?_
    refine h_getN C O1 5 kd_3 (by decide) nw_85 dX8_still_14 (hp_fvI (by rw [kd_3]; rfl) rfl) ?_
    obtain ⟨hr3a, hr3b⟩ := hI.b (bf_1_5 kd_3)
    generalize hg3 : σ 3 5 = r3 at hr3a hr3b ⊢
    refine h_istore_n (lv' := [(1, .int (hpI r3)), (0, .ref (z + 0))]) C dX8_still_17 rfl (by decide) rfl ?_
    have L4 : ∀ (n4 : Nat) (τ4 : hpMem) (w4_1 : Int), -2147483648 ≤ w4_1 → w4_1 ≤ 16 → hpInv τ4 → (∀ j i : Nat, 169 ≤ j → τ4 j i = σ j i) → (w4_1 + 4294967296) < (n4 : Int) → hpF p l e rgX8_still s m [.ref (z + 0)] below meth c 2 D cy z (pgX8_still z σ) τ4 18 [(0, .ref (z + 0)), (1, .int (hpI w4_1))] [] := by
      intro n4
      induction n4 with
      | zero => intro τ4 w4_1 hv4_0 hv4_1 hI4 hF4 hm4; exfalso; omega
      | succ n4 ih4 =>
        intro τ4 w4_1 hv4_0 hv4_1 hI4 hF4 hm4
        refine h_iload_n C dX8_still_18 1 rfl rfl ?_
        refine h_if_le (tgt := 52) C dX8_still_19 (by decide) ⟨by omega, by omega⟩ (fun h5 => ?_) (fun h5 => ?_)
        · refine h_iload_n C dX8_still_52 1 rfl rfl ?_
          refine h_ireturn C hr hlk dX8_still_53 ?_
          exact ⟨⟨_, rfl, ⟨by omega, by omega⟩⟩, hI4, hF4⟩
        · refine h_aload_n C dX8_still_22 0 rfl rfl ?_
          refine h_iload_n C dX8_still_23 1 rfl rfl ?_
          refine h_iconst C dX8_still_24 ?_
          refine h_isub C dX8_still_25 rfl ?_
          refine h_callV (As := [.int (hpI (w4_1 - 1))]) (rest := []) C Z yyX8_rowOfDay wd_576 (tgX8_rowOfDay l D cy z _ (w4_1 - 1) ⟨by omega, by omega⟩ hI4) kd_0 rfl rfl ⟨rfl, rfl, Nat.le_of_ble_eq_true rfl, Nat.le_of_ble_eq_true rfl⟩ ⟨Nat.le_of_ble_eq_true rfl, Nat.le_of_ble_eq_true rfl⟩ (Nat.le_of_ble_eq_true rfl) dX8_still_26 (fun r6 τ6 hp6 => ?_)
          obtain ⟨⟨x6, rfl, hx6⟩, hI6, hG6⟩ := hp6
          have hF6 : ∀ j i : Nat, 169 ≤ j → τ6 j i = σ j i := fun j i h_0 => (hG6 j i (by omega)).trans (hF4 j i h_0)
          have hl6 := kb_3 hx6
          show hpV _ _ _ _ _ _ _ _ _ _ _ _ _ _ _ _ _ _ _ _ _ (_ :: _)
          refine h_aload_n C dX8_still_29 0 rfl rfl ?_
          refine h_aload_n C dX8_still_30 0 rfl rfl ?_
          refine h_get C O8 1 kd_0 (by decide) wd_350 dX8_still_31 fr_0_1 ?_
          refine h_getN C O1 5 kd_3 (by decide) nw_85 dX8_still_34 (hp_fvI (by rw [kd_3]; rfl) rfl) ?_
          obtain ⟨hr7a, hr7b⟩ := hI6.b (bf_1_5 kd_3)
          generalize hg7 : τ6 3 5 = r7 at hr7a hr7b ⊢
          refine h_callV (As := [.int (hpI r7)]) (rest := [.ref (z + x6)]) C Z yyX8_rowOfDay wd_576 (tgX8_rowOfDay l D cy z _ r7 ⟨by omega, by omega⟩ hI6) kd_0 rfl rfl ⟨rfl, rfl, Nat.le_of_ble_eq_true rfl, Nat.le_of_ble_eq_true rfl⟩ ⟨Nat.le_of_ble_eq_true rfl, Nat.le_of_ble_eq_true rfl⟩ (Nat.le_of_ble_eq_true rfl) dX8_still_37 (fun r8 τ8 hp8 => ?_)
          obtain ⟨⟨x8, rfl, hx8⟩, hI8, hG8⟩ := hp8
          have hF8 : ∀ j i : Nat, 169 ≤ j → τ8 j i = σ j i := fun j i h_0 => (hG8 j i (by omega)).trans (hF6 j i h_0)
          have hl8 := kb_3 hx8
          show hpV _ _ _ _ _ _ _ _ _ _ _ _ _ _ _ _ _ _ _ _ _ (_ :: _)
          refine h_callVN (As := [.ref (z + x8)]) (rest := []) C Z yyX3_alike nw_722 (tgX3_alike l D cy z _ x6 hx6 x8 hx8 hI8) hx6 rfl rfl ⟨rfl, rfl, Nat.le_of_ble_eq_true rfl, Nat.le_of_ble_eq_true rfl⟩ ⟨Nat.le_of_ble_eq_true rfl, Nat.le_of_ble_eq_true rfl⟩ (Nat.le_of_ble_eq_true rfl) dX8_still_40 (fun r9 τ9 hp9 => ?_)
          obtain ⟨⟨x9, rfl, ⟨hx9a, hx9b⟩⟩, rfl⟩ := hp9
          show hpV _ _ _ _ _ _ _ _ _ _ _ _ _ _ _ _ _ _ _ _ _ (_ :: _)
          refine h_if_eq (tgt := 52) C dX8_still_43 (by decide) ⟨by omega, by omega⟩ (fun h10 => ?_) (fun h10 => ?_)
          · refine h_iload_n C dX8_still_52 1 rfl rfl ?_
            refine h_ireturn C hr hlk dX8_still_53 ?_
            exact ⟨⟨_, rfl, ⟨by omega, by omega⟩⟩, hI8, hF8⟩
          · refine h_iinc (lv' := [(1, .int (hpI (w4_1 + (-1)))), (0, .ref (z + 0))]) C dX8_still_46 1 rfl rfl (by decide) rfl ?_
            refine h_goto (tgt := 18) C dX8_still_49 (by decide) ?_
            exact hp_sub [1, 0] rfl (ih4 _ (w4_1 + (-1)) (by omega) (by omega) hI8 hF8 (by omega))
    exact hp_sub [1, 0] rfl (L4 8589934592 _ r3 (by omega) (by omega) hI hF0 (by omega))
  · refine h_bipush C dX8_still_7 (by decide) ?_
    refine h_ireturn C hr hlk dX8_still_9 ?_
    exact ⟨⟨_, rfl, ⟨by decide, by decide⟩⟩, hI, hF0⟩
abbrev rgX8_rows : Room := { frames := 7, cells := 0, slots := 0, locals := 195 }
abbrev pgX8_rows (z : Nat) (σ : hpMem) : Option Value → hpMem → Prop := fun r τ => (∃ x : Int, r = some (.int (hpI x)) ∧ (hpR x)) ∧ hpInv τ ∧ (∀ j i : Nat, 169 ≤ j → τ j i = σ j i)
set_option maxHeartbeats 4000000 in
set_option maxRecDepth 20000 in
theorem tgX8_rows (l : Launch) (D : va_G) (cy : Nat → ClassId) (z : Nat) (σ : hpMem) (hI : hpInv σ) : hpM l D cy z yX8_rows cX8_rows 3 (some .int) rgX8_rows [.ref (z + 0)] σ (pgX8_rows z σ) := by
  refine hp_met rfl (Nat.le_of_ble_eq_true rfl) (fun p e s m below meth c C Z hr hlk => ?_)
  have hF0 : ∀ j i : Nat, 169 ≤ j → σ j i = σ j i := fun j i _ => rfl
  refine h_aload_n C dX8_rows_0 0 rfl rfl ?_
  refine h_callV (As := []) (rest := []) C Z yyX8_noMoor wd_572 (tgX8_noMoor l D cy z _ hI) kd_0 rfl rfl ⟨rfl, rfl, Nat.le_of_ble_eq_true rfl, Nat.le_of_ble_eq_true rfl⟩ ⟨Nat.le_of_ble_eq_true rfl, Nat.le_of_ble_eq_true rfl⟩ (Nat.le_of_ble_eq_true rfl) dX8_rows_1 (fun r1 τ1 hp1 => ?_)
  obtain ⟨⟨x1, rfl, ⟨hx1a, hx1b⟩⟩, rfl⟩ := hp1
  show hpV _ _ _ _ _ _ _ _ _ _ _ _ _ _ _ _ _ _ _ _ _ (_ :: _)
  refine h_if_eq (tgt := 10) C dX8_rows_4 (by decide) ⟨by omega, by omega⟩ (fun h2 => ?_) (fun h2 => ?_)
  · refine h_iconst C dX8_rows_10 ?_
    refine h_istore_n (lv' := [(1, .int (hpI 0)), (0, .ref (z + 0))]) C dX8_rows_11 rfl (by decide) rfl ?_
    refine h_iconst C dX8_rows_12 ?_
    refine h_istore_n (lv' := [(2, .int (hpI 0)), (1, .int (hpI 0)), (0, .ref (z + 0))]) C dX8_rows_13 rfl (by decide) rfl ?_
    have L3 : ∀ (n3 : Nat) (τ3 : hpMem) (w3_1 : Int) (w3_2 : Int), 0 ≤ w3_1 → w3_1 ≤ 2147483647 → 0 ≤ w3_2 → w3_2 ≤ 2147483647 → w3_1 ≤ w3_2 → hpInv τ3 → (∀ j i : Nat, 169 ≤ j → τ3 j i = σ j i) → (4294967296 - w3_2) < (n3 : Int) → hpF p l e rgX8_rows s m [.ref (z + 0)] below meth c 3 D cy z (pgX8_rows z σ) τ3 14 [(0, .ref (z + 0)), (1, .int (hpI w3_1)), (2, .int (hpI w3_2))] [] := by
      intro n3
      induction n3 with
      | zero => intro τ3 w3_1 w3_2 hv3_0 hv3_1 hv3_2 hv3_3 hv3_4 hI3 hF3 hm3; exfalso; omega
      | succ n3 ih3 =>
        intro τ3 w3_1 w3_2 hv3_0 hv3_1 hv3_2 hv3_3 hv3_4 hI3 hF3 hm3
        refine h_iload_n C dX8_rows_14 2 rfl rfl ?_
        refine h_aload_n C dX8_rows_15 0 rfl rfl ?_
        refine h_get C O8 1 kd_0 (by decide) wd_350 dX8_rows_16 fr_0_1 ?_
        refine h_getN C O1 5 kd_3 (by decide) nw_85 dX8_rows_19 (hp_fvI (by rw [kd_3]; rfl) rfl) ?_
        obtain ⟨hr4a, hr4b⟩ := hI3.b (bf_1_5 kd_3)
        generalize hg4 : τ3 3 5 = r4 at hr4a hr4b ⊢
        refine h_icmp_gt (tgt := 43) C dX8_rows_22 (by decide) ⟨by omega, by omega⟩ ⟨by omega, by omega⟩ (fun h5 => ?_) (fun h5 => ?_)
        · refine h_iload_n C dX8_rows_43 1 rfl rfl ?_
          refine h_ireturn C hr hlk dX8_rows_44 ?_
          exact ⟨⟨_, rfl, ⟨by omega, by omega⟩⟩, hI3, hF3⟩
        · refine h_aload_n C dX8_rows_25 0 rfl rfl ?_
          refine h_iload_n C dX8_rows_26 2 rfl rfl ?_
          refine h_callV (As := [.int (hpI w3_2)]) (rest := []) C Z yyX8_firstLike wd_718 (tgX8_firstLike l D cy z _ w3_2 ⟨by omega, by omega⟩ hI3) kd_0 rfl rfl ⟨rfl, rfl, Nat.le_of_ble_eq_true rfl, Nat.le_of_ble_eq_true rfl⟩ ⟨Nat.le_of_ble_eq_true rfl, Nat.le_of_ble_eq_true rfl⟩ (Nat.le_of_ble_eq_true rfl) dX8_rows_27 (fun r6 τ6 hp6 => ?_)
          obtain ⟨⟨x6, rfl, ⟨hx6a, hx6b⟩⟩, hI6, hG6⟩ := hp6
          have hF6 : ∀ j i : Nat, 169 ≤ j → τ6 j i = σ j i := fun j i h_0 => (hG6 j i (by omega)).trans (hF3 j i h_0)
          show hpV _ _ _ _ _ _ _ _ _ _ _ _ _ _ _ _ _ _ _ _ _ (_ :: _)
          refine h_iload_n C dX8_rows_30 2 rfl rfl ?_
          refine h_icmp_ne (tgt := 37) C dX8_rows_31 (by decide) ⟨by omega, by omega⟩ ⟨by omega, by omega⟩ (fun h7 => ?_) (fun h7 => ?_)
          · refine h_iinc (lv' := [(2, .int (hpI (w3_2 + 1))), (0, .ref (z + 0)), (1, .int (hpI w3_1))]) C dX8_rows_37 2 rfl rfl (by decide) rfl ?_
            refine h_goto (tgt := 14) C dX8_rows_40 (by decide) ?_
            exact hp_sub [1, 2, 0] rfl (ih3 _ w3_1 (w3_2 + 1) (by omega) (by omega) (by omega) (by omega) (by omega) hI6 hF6 (by omega))
          · refine h_iinc (lv' := [(1, .int (hpI (w3_1 + 1))), (0, .ref (z + 0)), (2, .int (hpI w3_2))]) C dX8_rows_34 1 rfl rfl (by decide) rfl ?_
            refine h_iinc (lv' := [(2, .int (hpI (w3_2 + 1))), (1, .int (hpI (w3_1 + 1))), (0, .ref (z + 0))]) C dX8_rows_37 2 rfl rfl (by decide) rfl ?_
            refine h_goto (tgt := 14) C dX8_rows_40 (by decide) ?_
            exact hp_sub [2, 1, 0] rfl (ih3 _ (w3_1 + 1) (w3_2 + 1) (by omega) (by omega) (by omega) (by omega) (by omega) hI6 hF6 (by omega))
    exact hp_sub [2, 1, 0] rfl (L3 8589934592 _ 0 0 (by omega) (by omega) (by omega) (by omega) (by omega) hI hF0 (by omega))
  · refine h_bipush C dX8_rows_7 (by decide) ?_
    refine h_ireturn C hr hlk dX8_rows_9 ?_
    exact ⟨⟨_, rfl, ⟨by decide, by decide⟩⟩, hI, hF0⟩
abbrev rgX8_stair : Room := { frames := 6, cells := 0, slots := 0, locals := 173 }
abbrev pgX8_stair (z : Nat) (σ : hpMem) (a0 : Int) : Option Value → hpMem → Prop := fun r τ => (∃ x : Int, r = some (.int (hpI x)) ∧ (hpR x)) ∧ hpInv τ ∧ (∀ j i : Nat, 169 ≤ j → τ j i = σ j i)
set_option maxHeartbeats 4000000 in
set_option maxRecDepth 20000 in
theorem tgX8_stair (l : Launch) (D : va_G) (cy : Nat → ClassId) (z : Nat) (σ : hpMem) (a0 : Int) (ha0 : hpR a0) (hI : hpInv σ) : hpM l D cy z yX8_stair cX8_stair 2 (some .int) rgX8_stair [.ref (z + 0), .int (hpI a0)] σ (pgX8_stair z σ a0) := by
  obtain ⟨ha01, ha02⟩ := ha0
  refine hp_met rfl (Nat.le_of_ble_eq_true rfl) (fun p e s m below meth c C Z hr hlk => ?_)
  have hF0 : ∀ j i : Nat, 169 ≤ j → σ j i = σ j i := fun j i _ => rfl
  refine h_aload_n C dX8_stair_0 0 rfl rfl ?_
  refine h_iload_n C dX8_stair_1 1 rfl rfl ?_
  refine h_callV (As := [.int (hpI a0)]) (rest := []) C Z yyX8_isDay wd_568 (tgX8_isDay l D cy z _ a0 ⟨by omega, by omega⟩ hI) kd_0 rfl rfl ⟨rfl, rfl, Nat.le_of_ble_eq_true rfl, Nat.le_of_ble_eq_true rfl⟩ ⟨Nat.le_of_ble_eq_true rfl, Nat.le_of_ble_eq_true rfl⟩ (Nat.le_of_ble_eq_true rfl) dX8_stair_2 (fun r1 τ1 hp1 => ?_)
  obtain ⟨⟨x1, rfl, ⟨hx1a, hx1b⟩, hx1⟩, rfl⟩ := hp1
  show hpV _ _ _ _ _ _ _ _ _ _ _ _ _ _ _ _ _ _ _ _ _ (_ :: _)
  refine h_if_eq (tgt := 22) C dX8_stair_5 (by decide) ⟨by omega, by omega⟩ (fun h2 => ?_) (fun h2 => ?_)
  · refine h_bipush C dX8_stair_22 (by decide) ?_
    refine h_ireturn C hr hlk dX8_stair_24 ?_
    exact ⟨⟨_, rfl, ⟨by decide, by decide⟩⟩, hI, hF0⟩
  · refine h_aload_n C dX8_stair_8 0 rfl rfl ?_
    refine h_iload_n C dX8_stair_9 1 rfl rfl ?_
    refine h_callV (As := [.int (hpI a0)]) (rest := []) C Z yyX8_rowOfDay wd_576 (tgX8_rowOfDay l D cy z _ a0 ⟨by omega, by omega⟩ hI) kd_0 rfl rfl ⟨rfl, rfl, Nat.le_of_ble_eq_true rfl, Nat.le_of_ble_eq_true rfl⟩ ⟨Nat.le_of_ble_eq_true rfl, Nat.le_of_ble_eq_true rfl⟩ (Nat.le_of_ble_eq_true rfl) dX8_stair_10 (fun r3 τ3 hp3 => ?_)
    obtain ⟨⟨x3, rfl, hx3⟩, hI3, hG3⟩ := hp3
    have hF3 : ∀ j i : Nat, 169 ≤ j → τ3 j i = σ j i := fun j i h_0 => (hG3 j i (by omega)).trans (hF0 j i h_0)
    have hl3 := kb_3 hx3
    show hpV _ _ _ _ _ _ _ _ _ _ _ _ _ _ _ _ _ _ _ _ _ (_ :: _)
    refine h_callVN (As := []) (rest := []) C Z yyX3_isStair nw_738 (tgX3_isStair l D cy z _ x3 hx3 hI3) hx3 rfl rfl ⟨rfl, rfl, Nat.le_of_ble_eq_true rfl, Nat.le_of_ble_eq_true rfl⟩ ⟨Nat.le_of_ble_eq_true rfl, Nat.le_of_ble_eq_true rfl⟩ (Nat.le_of_ble_eq_true rfl) dX8_stair_13 (fun r4 τ4 hp4 => ?_)
    obtain ⟨⟨x4, rfl, ⟨hx4a, hx4b⟩⟩, rfl⟩ := hp4
    show hpV _ _ _ _ _ _ _ _ _ _ _ _ _ _ _ _ _ _ _ _ _ (_ :: _)
    refine h_callS (As := [.int (hpI x4)]) (rest := []) C Z yyX8_asNumber rfl wd_742 (tgX8_asNumber l D cy z _ x4 ⟨by omega, by omega⟩ hI3) rfl rfl ⟨rfl, rfl, Nat.le_of_ble_eq_true rfl, Nat.le_of_ble_eq_true rfl⟩ ⟨Nat.le_of_ble_eq_true rfl, Nat.le_of_ble_eq_true rfl⟩ (Nat.le_of_ble_eq_true rfl) dX8_stair_16 (fun r5 τ5 hp5 => ?_)
    obtain ⟨⟨x5, rfl, ⟨hx5a, hx5b⟩, hx5⟩, rfl⟩ := hp5
    show hpV _ _ _ _ _ _ _ _ _ _ _ _ _ _ _ _ _ _ _ _ _ (_ :: _)
    refine h_goto (tgt := 24) C dX8_stair_19 (by decide) ?_
    refine h_ireturn C hr hlk dX8_stair_24 ?_
    exact ⟨⟨_, rfl, ⟨by omega, by omega⟩⟩, hI3, hF3⟩
abbrev rgX8_stairs : Room := { frames := 6, cells := 0, slots := 0, locals := 173 }
abbrev pgX8_stairs (z : Nat) (σ : hpMem) : Option Value → hpMem → Prop := fun r τ => (∃ x : Int, r = some (.int (hpI x)) ∧ (hpR x)) ∧ hpInv τ ∧ (∀ j i : Nat, 169 ≤ j → τ j i = σ j i)
set_option maxHeartbeats 4000000 in
set_option maxRecDepth 20000 in
theorem tgX8_stairs (l : Launch) (D : va_G) (cy : Nat → ClassId) (z : Nat) (σ : hpMem) (hI : hpInv σ) : hpM l D cy z yX8_stairs cX8_stairs 2 (some .int) rgX8_stairs [.ref (z + 0)] σ (pgX8_stairs z σ) := by
  refine hp_met rfl (Nat.le_of_ble_eq_true rfl) (fun p e s m below meth c C Z hr hlk => ?_)
  have hF0 : ∀ j i : Nat, 169 ≤ j → σ j i = σ j i := fun j i _ => rfl
  refine h_aload_n C dX8_stairs_0 0 rfl rfl ?_
  refine h_callV (As := []) (rest := []) C Z yyX8_noMoor wd_572 (tgX8_noMoor l D cy z _ hI) kd_0 rfl rfl ⟨rfl, rfl, Nat.le_of_ble_eq_true rfl, Nat.le_of_ble_eq_true rfl⟩ ⟨Nat.le_of_ble_eq_true rfl, Nat.le_of_ble_eq_true rfl⟩ (Nat.le_of_ble_eq_true rfl) dX8_stairs_1 (fun r1 τ1 hp1 => ?_)
  obtain ⟨⟨x1, rfl, ⟨hx1a, hx1b⟩⟩, rfl⟩ := hp1
  show hpV _ _ _ _ _ _ _ _ _ _ _ _ _ _ _ _ _ _ _ _ _ (_ :: _)
  refine h_if_eq (tgt := 10) C dX8_stairs_4 (by decide) ⟨by omega, by omega⟩ (fun h2 => ?_) (fun h2 => ?_)
  · refine h_iconst C dX8_stairs_10 ?_
    refine h_istore_n (lv' := [(1, .int (hpI 0)), (0, .ref (z + 0))]) C dX8_stairs_11 rfl (by decide) rfl ?_
    have L3 : ∀ (n3 : Nat) (τ3 : hpMem) (w3_1 : Int), 0 ≤ w3_1 → w3_1 ≤ 2147483647 → hpInv τ3 → (∀ j i : Nat, 169 ≤ j → τ3 j i = σ j i) → (4294967296 - w3_1) < (n3 : Int) → hpF p l e rgX8_stairs s m [.ref (z + 0)] below meth c 2 D cy z (pgX8_stairs z σ) τ3 12 [(0, .ref (z + 0)), (1, .int (hpI w3_1))] [] := by
      intro n3
      induction n3 with
      | zero => intro τ3 w3_1 hv3_0 hv3_1 hI3 hF3 hm3; exfalso; omega
      | succ n3 ih3 =>
        intro τ3 w3_1 hv3_0 hv3_1 hI3 hF3 hm3
        refine h_iload_n C dX8_stairs_12 1 rfl rfl ?_
        refine h_aload_n C dX8_stairs_13 0 rfl rfl ?_
        refine h_get C O8 1 kd_0 (by decide) wd_350 dX8_stairs_14 fr_0_1 ?_
        refine h_getN C O1 5 kd_3 (by decide) nw_85 dX8_stairs_17 (hp_fvI (by rw [kd_3]; rfl) rfl) ?_
        obtain ⟨hr4a, hr4b⟩ := hI3.b (bf_1_5 kd_3)
        generalize hg4 : τ3 3 5 = r4 at hr4a hr4b ⊢
        refine h_icmp_gt (tgt := 42) C dX8_stairs_20 (by decide) ⟨by omega, by omega⟩ ⟨by omega, by omega⟩ (fun h5 => ?_) (fun h5 => ?_)
        · refine h_iconst C dX8_stairs_42 ?_
          refine h_ireturn C hr hlk dX8_stairs_43 ?_
          exact ⟨⟨_, rfl, ⟨by decide, by decide⟩⟩, hI3, hF3⟩
        · refine h_aload_n C dX8_stairs_23 0 rfl rfl ?_
          refine h_iload_n C dX8_stairs_24 1 rfl rfl ?_
          refine h_callV (As := [.int (hpI w3_1)]) (rest := []) C Z yyX8_rowOfDay wd_576 (tgX8_rowOfDay l D cy z _ w3_1 ⟨by omega, by omega⟩ hI3) kd_0 rfl rfl ⟨rfl, rfl, Nat.le_of_ble_eq_true rfl, Nat.le_of_ble_eq_true rfl⟩ ⟨Nat.le_of_ble_eq_true rfl, Nat.le_of_ble_eq_true rfl⟩ (Nat.le_of_ble_eq_true rfl) dX8_stairs_25 (fun r6 τ6 hp6 => ?_)
          obtain ⟨⟨x6, rfl, hx6⟩, hI6, hG6⟩ := hp6
          have hF6 : ∀ j i : Nat, 169 ≤ j → τ6 j i = σ j i := fun j i h_0 => (hG6 j i (by omega)).trans (hF3 j i h_0)
          have hl6 := kb_3 hx6
          show hpV _ _ _ _ _ _ _ _ _ _ _ _ _ _ _ _ _ _ _ _ _ (_ :: _)
          refine h_callVN (As := []) (rest := []) C Z yyX3_isStair nw_738 (tgX3_isStair l D cy z _ x6 hx6 hI6) hx6 rfl rfl ⟨rfl, rfl, Nat.le_of_ble_eq_true rfl, Nat.le_of_ble_eq_true rfl⟩ ⟨Nat.le_of_ble_eq_true rfl, Nat.le_of_ble_eq_true rfl⟩ (Nat.le_of_ble_eq_true rfl) dX8_stairs_28 (fun r7 τ7 hp7 => ?_)
          obtain ⟨⟨x7, rfl, ⟨hx7a, hx7b⟩⟩, rfl⟩ := hp7
          show hpV _ _ _ _ _ _ _ _ _ _ _ _ _ _ _ _ _ _ _ _ _ (_ :: _)
          refine h_if_eq (tgt := 36) C dX8_stairs_31 (by decide) ⟨by omega, by omega⟩ (fun h8 => ?_) (fun h8 => ?_)
          · refine h_iinc (lv' := [(1, .int (hpI (w3_1 + 1))), (0, .ref (z + 0))]) C dX8_stairs_36 1 rfl rfl (by decide) rfl ?_
            refine h_goto (tgt := 12) C dX8_stairs_39 (by decide) ?_
            exact hp_sub [1, 0] rfl (ih3 _ (w3_1 + 1) (by omega) (by omega) hI6 hF6 (by omega))
          · refine h_iload_n C dX8_stairs_34 1 rfl rfl ?_
            refine h_ireturn C hr hlk dX8_stairs_35 ?_
            exact ⟨⟨_, rfl, ⟨by omega, by omega⟩⟩, hI6, hF6⟩
    exact hp_sub [1, 0] rfl (L3 8589934592 _ 0 (by omega) (by omega) hI hF0 (by omega))
  · refine h_bipush C dX8_stairs_7 (by decide) ?_
    refine h_ireturn C hr hlk dX8_stairs_9 ?_
    exact ⟨⟨_, rfl, ⟨by decide, by decide⟩⟩, hI, hF0⟩
abbrev rgX8_square : Room := { frames := 6, cells := 0, slots := 0, locals := 173 }
abbrev pgX8_square (z : Nat) (σ : hpMem) (a0 : Int) : Option Value → hpMem → Prop := fun r τ => (∃ x : Int, r = some (.int (hpI x)) ∧ (hpR x)) ∧ hpInv τ ∧ (∀ j i : Nat, 169 ≤ j → τ j i = σ j i)
set_option maxHeartbeats 4000000 in
set_option maxRecDepth 20000 in
theorem tgX8_square (l : Launch) (D : va_G) (cy : Nat → ClassId) (z : Nat) (σ : hpMem) (a0 : Int) (ha0 : hpR a0) (hI : hpInv σ) : hpM l D cy z yX8_square cX8_square 2 (some .int) rgX8_square [.ref (z + 0), .int (hpI a0)] σ (pgX8_square z σ a0) := by
  obtain ⟨ha01, ha02⟩ := ha0
  refine hp_met rfl (Nat.le_of_ble_eq_true rfl) (fun p e s m below meth c C Z hr hlk => ?_)
  have hF0 : ∀ j i : Nat, 169 ≤ j → σ j i = σ j i := fun j i _ => rfl
  refine h_aload_n C dX8_square_0 0 rfl rfl ?_
  refine h_iload_n C dX8_square_1 1 rfl rfl ?_
  refine h_callV (As := [.int (hpI a0)]) (rest := []) C Z yyX8_isDay wd_568 (tgX8_isDay l D cy z _ a0 ⟨by omega, by omega⟩ hI) kd_0 rfl rfl ⟨rfl, rfl, Nat.le_of_ble_eq_true rfl, Nat.le_of_ble_eq_true rfl⟩ ⟨Nat.le_of_ble_eq_true rfl, Nat.le_of_ble_eq_true rfl⟩ (Nat.le_of_ble_eq_true rfl) dX8_square_2 (fun r1 τ1 hp1 => ?_)
  obtain ⟨⟨x1, rfl, ⟨hx1a, hx1b⟩, hx1⟩, rfl⟩ := hp1
  show hpV _ _ _ _ _ _ _ _ _ _ _ _ _ _ _ _ _ _ _ _ _ (_ :: _)
  refine h_if_eq (tgt := 19) C dX8_square_5 (by decide) ⟨by omega, by omega⟩ (fun h2 => ?_) (fun h2 => ?_)
  · refine h_bipush C dX8_square_19 (by decide) ?_
    refine h_ireturn C hr hlk dX8_square_21 ?_
    exact ⟨⟨_, rfl, ⟨by decide, by decide⟩⟩, hI, hF0⟩
  · refine h_aload_n C dX8_square_8 0 rfl rfl ?_
    refine h_iload_n C dX8_square_9 1 rfl rfl ?_
    refine h_callV (As := [.int (hpI a0)]) (rest := []) C Z yyX8_rowOfDay wd_576 (tgX8_rowOfDay l D cy z _ a0 ⟨by omega, by omega⟩ hI) kd_0 rfl rfl ⟨rfl, rfl, Nat.le_of_ble_eq_true rfl, Nat.le_of_ble_eq_true rfl⟩ ⟨Nat.le_of_ble_eq_true rfl, Nat.le_of_ble_eq_true rfl⟩ (Nat.le_of_ble_eq_true rfl) dX8_square_10 (fun r3 τ3 hp3 => ?_)
    obtain ⟨⟨x3, rfl, hx3⟩, hI3, hG3⟩ := hp3
    have hF3 : ∀ j i : Nat, 169 ≤ j → τ3 j i = σ j i := fun j i h_0 => (hG3 j i (by omega)).trans (hF0 j i h_0)
    have hl3 := kb_3 hx3
    show hpV _ _ _ _ _ _ _ _ _ _ _ _ _ _ _ _ _ _ _ _ _ (_ :: _)
    refine h_callVN (As := []) (rest := []) C Z yyX3_squareSide nw_753 (tgX3_squareSide l D cy z _ x3 hx3 hI3) hx3 rfl rfl ⟨rfl, rfl, Nat.le_of_ble_eq_true rfl, Nat.le_of_ble_eq_true rfl⟩ ⟨Nat.le_of_ble_eq_true rfl, Nat.le_of_ble_eq_true rfl⟩ (Nat.le_of_ble_eq_true rfl) dX8_square_13 (fun r4 τ4 hp4 => ?_)
    obtain ⟨⟨x4, rfl, ⟨hx4a, hx4b⟩⟩, rfl⟩ := hp4
    show hpV _ _ _ _ _ _ _ _ _ _ _ _ _ _ _ _ _ _ _ _ _ (_ :: _)
    refine h_goto (tgt := 21) C dX8_square_16 (by decide) ?_
    refine h_ireturn C hr hlk dX8_square_21 ?_
    exact ⟨⟨_, rfl, ⟨by omega, by omega⟩⟩, hI3, hF3⟩
abbrev rgX8_flip : Room := { frames := 6, cells := 0, slots := 0, locals := 173 }
abbrev pgX8_flip (z : Nat) (σ : hpMem) (a0 : Int) (a1 : Int) : Option Value → hpMem → Prop := fun r τ => (∃ x : Int, r = some (.int (hpI x)) ∧ (hpR x)) ∧ hpInv τ ∧ (∀ j i : Nat, 169 ≤ j → τ j i = σ j i)
set_option maxHeartbeats 4000000 in
set_option maxRecDepth 20000 in
theorem tgX8_flip (l : Launch) (D : va_G) (cy : Nat → ClassId) (z : Nat) (σ : hpMem) (a0 : Int) (ha0 : hpR a0) (a1 : Int) (ha1 : hpR a1) (hI : hpInv σ) : hpM l D cy z yX8_flip cX8_flip 4 (some .int) rgX8_flip [.ref (z + 0), .int (hpI a0), .int (hpI a1)] σ (pgX8_flip z σ a0 a1) := by
  obtain ⟨ha01, ha02⟩ := ha0
  obtain ⟨ha11, ha12⟩ := ha1
  refine hp_met rfl (Nat.le_of_ble_eq_true rfl) (fun p e s m below meth c C Z hr hlk => ?_)
  have hF0 : ∀ j i : Nat, 169 ≤ j → σ j i = σ j i := fun j i _ => rfl
  refine h_aload_n C dX8_flip_0 0 rfl rfl ?_
  refine h_iload_n C dX8_flip_1 1 rfl rfl ?_
  refine h_callV (As := [.int (hpI a0)]) (rest := []) C Z yyX8_isDay wd_568 (tgX8_isDay l D cy z _ a0 ⟨by omega, by omega⟩ hI) kd_0 rfl rfl ⟨rfl, rfl, Nat.le_of_ble_eq_true rfl, Nat.le_of_ble_eq_true rfl⟩ ⟨Nat.le_of_ble_eq_true rfl, Nat.le_of_ble_eq_true rfl⟩ (Nat.le_of_ble_eq_true rfl) dX8_flip_2 (fun r1 τ1 hp1 => ?_)
  obtain ⟨⟨x1, rfl, ⟨hx1a, hx1b⟩, hx1⟩, rfl⟩ := hp1
  show hpV _ _ _ _ _ _ _ _ _ _ _ _ _ _ _ _ _ _ _ _ _ (_ :: _)
  refine h_if_eq (tgt := 12) C dX8_flip_5 (by decide) ⟨by omega, by omega⟩ (fun h2 => ?_) (fun h2 => ?_)
  · refine h_bipush C dX8_flip_12 (by decide) ?_
    refine h_ireturn C hr hlk dX8_flip_14 ?_
    exact ⟨⟨_, rfl, ⟨by decide, by decide⟩⟩, hI, hF0⟩
  · refine h_iload_n C dX8_flip_8 2 rfl rfl ?_
    refine h_if_ge (tgt := 15) C dX8_flip_9 (by decide) ⟨by omega, by omega⟩ (fun h3 => ?_) (fun h3 => ?_)
    · refine h_aload_n C dX8_flip_15 0 rfl rfl ?_
      refine h_iload_n C dX8_flip_16 1 rfl rfl ?_
      refine h_callV (As := [.int (hpI a0)]) (rest := []) C Z yyX8_rowOfDay wd_576 (tgX8_rowOfDay l D cy z _ a0 ⟨by omega, by omega⟩ hI) kd_0 rfl rfl ⟨rfl, rfl, Nat.le_of_ble_eq_true rfl, Nat.le_of_ble_eq_true rfl⟩ ⟨Nat.le_of_ble_eq_true rfl, Nat.le_of_ble_eq_true rfl⟩ (Nat.le_of_ble_eq_true rfl) dX8_flip_17 (fun r4 τ4 hp4 => ?_)
      obtain ⟨⟨x4, rfl, hx4⟩, hI4, hG4⟩ := hp4
      have hF4 : ∀ j i : Nat, 169 ≤ j → τ4 j i = σ j i := fun j i h_0 => (hG4 j i (by omega)).trans (hF0 j i h_0)
      have hl4 := kb_3 hx4
      show hpV _ _ _ _ _ _ _ _ _ _ _ _ _ _ _ _ _ _ _ _ _ (_ :: _)
      refine h_astore_n (lv' := [(3, .ref (z + x4)), (0, .ref (z + 0)), (1, .int (hpI a0)), (2, .int (hpI a1))]) C dX8_flip_20 rfl (by decide) rfl ?_
      refine h_iload_n C dX8_flip_21 3 rfl rfl ?_
      refine h_aload_n C dX8_flip_22 0 rfl rfl ?_
      refine h_callVN (As := []) (rest := [.int (hpI a1)]) C Z yyX3_highest nw_663 (tgX3_highest l D cy z _ x4 hx4 hI4) hx4 rfl rfl ⟨rfl, rfl, Nat.le_of_ble_eq_true rfl, Nat.le_of_ble_eq_true rfl⟩ ⟨Nat.le_of_ble_eq_true rfl, Nat.le_of_ble_eq_true rfl⟩ (Nat.le_of_ble_eq_true rfl) dX8_flip_23 (fun r5 τ5 hp5 => ?_)
      obtain ⟨⟨x5, rfl, ⟨hx5a, hx5b⟩⟩, rfl⟩ := hp5
      show hpV _ _ _ _ _ _ _ _ _ _ _ _ _ _ _ _ _ _ _ _ _ (_ :: _)
      refine h_icmp_ge (tgt := 39) C dX8_flip_26 (by decide) ⟨by omega, by omega⟩ ⟨by omega, by omega⟩ (fun h6 => ?_) (fun h6 => ?_)
      · refine h_iconst C dX8_flip_39 ?_
        refine h_ireturn C hr hlk dX8_flip_40 ?_
        exact ⟨⟨_, rfl, ⟨by decide, by decide⟩⟩, hI4, hF4⟩
      · refine h_aload_n C dX8_flip_29 0 rfl rfl ?_
        refine h_iload_n C dX8_flip_30 3 rfl rfl ?_
        refine h_iconst C dX8_flip_31 ?_
        refine h_iadd C dX8_flip_32 rfl ?_
        refine h_callVN (As := [.int (hpI (a1 + 1))]) (rest := []) C Z yyX3_heapsFrom nw_765 (tgX3_heapsFrom l D cy z _ x4 hx4 (a1 + 1) ⟨by omega, by omega⟩ hI4) hx4 rfl rfl ⟨rfl, rfl, Nat.le_of_ble_eq_true rfl, Nat.le_of_ble_eq_true rfl⟩ ⟨Nat.le_of_ble_eq_true rfl, Nat.le_of_ble_eq_true rfl⟩ (Nat.le_of_ble_eq_true rfl) dX8_flip_33 (fun r7 τ7 hp7 => ?_)
        obtain ⟨⟨x7, rfl, ⟨hx7a, hx7b⟩⟩, rfl⟩ := hp7
        show hpV _ _ _ _ _ _ _ _ _ _ _ _ _ _ _ _ _ _ _ _ _ (_ :: _)
        refine h_goto (tgt := 40) C dX8_flip_36 (by decide) ?_
        refine h_ireturn C hr hlk dX8_flip_40 ?_
        exact ⟨⟨_, rfl, ⟨by omega, by omega⟩⟩, hI4, hF4⟩
    · refine h_bipush C dX8_flip_12 (by decide) ?_
      refine h_ireturn C hr hlk dX8_flip_14 ?_
      exact ⟨⟨_, rfl, ⟨by decide, by decide⟩⟩, hI, hF0⟩
abbrev rgX8_even : Room := { frames := 6, cells := 0, slots := 0, locals := 173 }
abbrev pgX8_even (z : Nat) (σ : hpMem) (a0 : Int) : Option Value → hpMem → Prop := fun r τ => (∃ x : Int, r = some (.int (hpI x)) ∧ (hpR x)) ∧ hpInv τ ∧ (∀ j i : Nat, 169 ≤ j → τ j i = σ j i)
set_option maxHeartbeats 4000000 in
set_option maxRecDepth 20000 in
theorem tgX8_even (l : Launch) (D : va_G) (cy : Nat → ClassId) (z : Nat) (σ : hpMem) (a0 : Int) (ha0 : hpR a0) (hI : hpInv σ) : hpM l D cy z yX8_even cX8_even 2 (some .int) rgX8_even [.ref (z + 0), .int (hpI a0)] σ (pgX8_even z σ a0) := by
  obtain ⟨ha01, ha02⟩ := ha0
  refine hp_met rfl (Nat.le_of_ble_eq_true rfl) (fun p e s m below meth c C Z hr hlk => ?_)
  have hF0 : ∀ j i : Nat, 169 ≤ j → σ j i = σ j i := fun j i _ => rfl
  refine h_aload_n C dX8_even_0 0 rfl rfl ?_
  refine h_iload_n C dX8_even_1 1 rfl rfl ?_
  refine h_callV (As := [.int (hpI a0)]) (rest := []) C Z yyX8_isDay wd_568 (tgX8_isDay l D cy z _ a0 ⟨by omega, by omega⟩ hI) kd_0 rfl rfl ⟨rfl, rfl, Nat.le_of_ble_eq_true rfl, Nat.le_of_ble_eq_true rfl⟩ ⟨Nat.le_of_ble_eq_true rfl, Nat.le_of_ble_eq_true rfl⟩ (Nat.le_of_ble_eq_true rfl) dX8_even_2 (fun r1 τ1 hp1 => ?_)
  obtain ⟨⟨x1, rfl, ⟨hx1a, hx1b⟩, hx1⟩, rfl⟩ := hp1
  show hpV _ _ _ _ _ _ _ _ _ _ _ _ _ _ _ _ _ _ _ _ _ (_ :: _)
  refine h_if_eq (tgt := 22) C dX8_even_5 (by decide) ⟨by omega, by omega⟩ (fun h2 => ?_) (fun h2 => ?_)
  · refine h_bipush C dX8_even_22 (by decide) ?_
    refine h_ireturn C hr hlk dX8_even_24 ?_
    exact ⟨⟨_, rfl, ⟨by decide, by decide⟩⟩, hI, hF0⟩
  · refine h_aload_n C dX8_even_8 0 rfl rfl ?_
    refine h_iload_n C dX8_even_9 1 rfl rfl ?_
    refine h_callV (As := [.int (hpI a0)]) (rest := []) C Z yyX8_rowOfDay wd_576 (tgX8_rowOfDay l D cy z _ a0 ⟨by omega, by omega⟩ hI) kd_0 rfl rfl ⟨rfl, rfl, Nat.le_of_ble_eq_true rfl, Nat.le_of_ble_eq_true rfl⟩ ⟨Nat.le_of_ble_eq_true rfl, Nat.le_of_ble_eq_true rfl⟩ (Nat.le_of_ble_eq_true rfl) dX8_even_10 (fun r3 τ3 hp3 => ?_)
    obtain ⟨⟨x3, rfl, hx3⟩, hI3, hG3⟩ := hp3
    have hF3 : ∀ j i : Nat, 169 ≤ j → τ3 j i = σ j i := fun j i h_0 => (hG3 j i (by omega)).trans (hF0 j i h_0)
    have hl3 := kb_3 hx3
    show hpV _ _ _ _ _ _ _ _ _ _ _ _ _ _ _ _ _ _ _ _ _ (_ :: _)
    refine h_callVN (As := []) (rest := []) C Z yyX3_sameTurnedOver nw_770 (tgX3_sameTurnedOver l D cy z _ x3 hx3 hI3) hx3 rfl rfl ⟨rfl, rfl, Nat.le_of_ble_eq_true rfl, Nat.le_of_ble_eq_true rfl⟩ ⟨Nat.le_of_ble_eq_true rfl, Nat.le_of_ble_eq_true rfl⟩ (Nat.le_of_ble_eq_true rfl) dX8_even_13 (fun r4 τ4 hp4 => ?_)
    obtain ⟨⟨x4, rfl, ⟨hx4a, hx4b⟩⟩, rfl⟩ := hp4
    show hpV _ _ _ _ _ _ _ _ _ _ _ _ _ _ _ _ _ _ _ _ _ (_ :: _)
    refine h_callS (As := [.int (hpI x4)]) (rest := []) C Z yyX8_asNumber rfl wd_742 (tgX8_asNumber l D cy z _ x4 ⟨by omega, by omega⟩ hI3) rfl rfl ⟨rfl, rfl, Nat.le_of_ble_eq_true rfl, Nat.le_of_ble_eq_true rfl⟩ ⟨Nat.le_of_ble_eq_true rfl, Nat.le_of_ble_eq_true rfl⟩ (Nat.le_of_ble_eq_true rfl) dX8_even_16 (fun r5 τ5 hp5 => ?_)
    obtain ⟨⟨x5, rfl, ⟨hx5a, hx5b⟩, hx5⟩, rfl⟩ := hp5
    show hpV _ _ _ _ _ _ _ _ _ _ _ _ _ _ _ _ _ _ _ _ _ (_ :: _)
    refine h_goto (tgt := 24) C dX8_even_19 (by decide) ?_
    refine h_ireturn C hr hlk dX8_even_24 ?_
    exact ⟨⟨_, rfl, ⟨by omega, by omega⟩⟩, hI3, hF3⟩
abbrev rgX8_above : Room := { frames := 6, cells := 0, slots := 0, locals := 173 }
abbrev pgX8_above (z : Nat) (σ : hpMem) (a0 : Int) (a1 : Int) : Option Value → hpMem → Prop := fun r τ => (∃ x : Int, r = some (.int (hpI x)) ∧ (hpR x)) ∧ hpInv τ ∧ (∀ j i : Nat, 169 ≤ j → τ j i = σ j i)
set_option maxHeartbeats 4000000 in
set_option maxRecDepth 20000 in
theorem tgX8_above (l : Launch) (D : va_G) (cy : Nat → ClassId) (z : Nat) (σ : hpMem) (a0 : Int) (ha0 : hpR a0) (a1 : Int) (ha1 : hpR a1) (hI : hpInv σ) : hpM l D cy z yX8_above cX8_above 3 (some .int) rgX8_above [.ref (z + 0), .int (hpI a0), .int (hpI a1)] σ (pgX8_above z σ a0 a1) := by
  obtain ⟨ha01, ha02⟩ := ha0
  obtain ⟨ha11, ha12⟩ := ha1
  refine hp_met rfl (Nat.le_of_ble_eq_true rfl) (fun p e s m below meth c C Z hr hlk => ?_)
  have hF0 : ∀ j i : Nat, 169 ≤ j → σ j i = σ j i := fun j i _ => rfl
  refine h_aload_n C dX8_above_0 0 rfl rfl ?_
  refine h_iload_n C dX8_above_1 1 rfl rfl ?_
  refine h_callV (As := [.int (hpI a0)]) (rest := []) C Z yyX8_isDay wd_568 (tgX8_isDay l D cy z _ a0 ⟨by omega, by omega⟩ hI) kd_0 rfl rfl ⟨rfl, rfl, Nat.le_of_ble_eq_true rfl, Nat.le_of_ble_eq_true rfl⟩ ⟨Nat.le_of_ble_eq_true rfl, Nat.le_of_ble_eq_true rfl⟩ (Nat.le_of_ble_eq_true rfl) dX8_above_2 (fun r1 τ1 hp1 => ?_)
  obtain ⟨⟨x1, rfl, ⟨hx1a, hx1b⟩, hx1⟩, rfl⟩ := hp1
  show hpV _ _ _ _ _ _ _ _ _ _ _ _ _ _ _ _ _ _ _ _ _ (_ :: _)
  refine h_if_eq (tgt := 16) C dX8_above_5 (by decide) ⟨by omega, by omega⟩ (fun h2 => ?_) (fun h2 => ?_)
  · refine h_bipush C dX8_above_16 (by decide) ?_
    refine h_ireturn C hr hlk dX8_above_18 ?_
    exact ⟨⟨_, rfl, ⟨by decide, by decide⟩⟩, hI, hF0⟩
  · refine h_aload_n C dX8_above_8 0 rfl rfl ?_
    refine h_iload_n C dX8_above_9 2 rfl rfl ?_
    refine h_callV (As := [.int (hpI a1)]) (rest := []) C Z yyX8_isDay wd_568 (tgX8_isDay l D cy z _ a1 ⟨by omega, by omega⟩ hI) kd_0 rfl rfl ⟨rfl, rfl, Nat.le_of_ble_eq_true rfl, Nat.le_of_ble_eq_true rfl⟩ ⟨Nat.le_of_ble_eq_true rfl, Nat.le_of_ble_eq_true rfl⟩ (Nat.le_of_ble_eq_true rfl) dX8_above_10 (fun r3 τ3 hp3 => ?_)
    obtain ⟨⟨x3, rfl, ⟨hx3a, hx3b⟩, hx3⟩, rfl⟩ := hp3
    show hpV _ _ _ _ _ _ _ _ _ _ _ _ _ _ _ _ _ _ _ _ _ (_ :: _)
    refine h_if_ne (tgt := 19) C dX8_above_13 (by decide) ⟨by omega, by omega⟩ (fun h4 => ?_) (fun h4 => ?_)
    · refine h_aload_n C dX8_above_19 0 rfl rfl ?_
      refine h_iload_n C dX8_above_20 1 rfl rfl ?_
      refine h_callV (As := [.int (hpI a0)]) (rest := []) C Z yyX8_rowOfDay wd_576 (tgX8_rowOfDay l D cy z _ a0 ⟨by omega, by omega⟩ hI) kd_0 rfl rfl ⟨rfl, rfl, Nat.le_of_ble_eq_true rfl, Nat.le_of_ble_eq_true rfl⟩ ⟨Nat.le_of_ble_eq_true rfl, Nat.le_of_ble_eq_true rfl⟩ (Nat.le_of_ble_eq_true rfl) dX8_above_21 (fun r5 τ5 hp5 => ?_)
      obtain ⟨⟨x5, rfl, hx5⟩, hI5, hG5⟩ := hp5
      have hF5 : ∀ j i : Nat, 169 ≤ j → τ5 j i = σ j i := fun j i h_0 => (hG5 j i (by omega)).trans (hF0 j i h_0)
      have hl5 := kb_3 hx5
      show hpV _ _ _ _ _ _ _ _ _ _ _ _ _ _ _ _ _ _ _ _ _ (_ :: _)
      refine h_aload_n C dX8_above_24 0 rfl rfl ?_
      refine h_iload_n C dX8_above_25 2 rfl rfl ?_
      refine h_callV (As := [.int (hpI a1)]) (rest := [.ref (z + x5)]) C Z yyX8_rowOfDay wd_576 (tgX8_rowOfDay l D cy z _ a1 ⟨by omega, by omega⟩ hI5) kd_0 rfl rfl ⟨rfl, rfl, Nat.le_of_ble_eq_true rfl, Nat.le_of_ble_eq_true rfl⟩ ⟨Nat.le_of_ble_eq_true rfl, Nat.le_of_ble_eq_true rfl⟩ (Nat.le_of_ble_eq_true rfl) dX8_above_26 (fun r6 τ6 hp6 => ?_)
      obtain ⟨⟨x6, rfl, hx6⟩, hI6, hG6⟩ := hp6
      have hF6 : ∀ j i : Nat, 169 ≤ j → τ6 j i = σ j i := fun j i h_0 => (hG6 j i (by omega)).trans (hF5 j i h_0)
      have hl6 := kb_3 hx6
      show hpV _ _ _ _ _ _ _ _ _ _ _ _ _ _ _ _ _ _ _ _ _ (_ :: _)
      refine h_callVN (As := [.ref (z + x6)]) (rest := []) C Z yyX3_standsTo nw_780 (tgX3_standsTo l D cy z _ x5 hx5 x6 hx6 hI6) hx5 rfl rfl ⟨rfl, rfl, Nat.le_of_ble_eq_true rfl, Nat.le_of_ble_eq_true rfl⟩ ⟨Nat.le_of_ble_eq_true rfl, Nat.le_of_ble_eq_true rfl⟩ (Nat.le_of_ble_eq_true rfl) dX8_above_29 (fun r7 τ7 hp7 => ?_)
      obtain ⟨⟨x7, rfl, ⟨hx7a, hx7b⟩⟩, rfl⟩ := hp7
      show hpV _ _ _ _ _ _ _ _ _ _ _ _ _ _ _ _ _ _ _ _ _ (_ :: _)
      refine h_ireturn C hr hlk dX8_above_32 ?_
      exact ⟨⟨_, rfl, ⟨by omega, by omega⟩⟩, hI6, hF6⟩
    · refine h_bipush C dX8_above_16 (by decide) ?_
      refine h_ireturn C hr hlk dX8_above_18 ?_
      exact ⟨⟨_, rfl, ⟨by decide, by decide⟩⟩, hI, hF0⟩
abbrev rgX8_tail : Room := { frames := 7, cells := 0, slots := 0, locals := 194 }
abbrev pgX8_tail (z : Nat) (σ : hpMem) (a0 : Int) : Option Value → hpMem → Prop := fun r τ => (∃ x : Int, r = some (.int (hpI x)) ∧ (hpR x)) ∧ hpInv τ ∧ (∀ j i : Nat, 169 ≤ j → τ j i = σ j i)
set_option maxHeartbeats 4000000 in
set_option maxRecDepth 20000 in
theorem tgX8_tail (l : Launch) (D : va_G) (cy : Nat → ClassId) (z : Nat) (σ : hpMem) (a0 : Int) (ha0 : hpR a0) (hI : hpInv σ) : hpM l D cy z yX8_tail cX8_tail 2 (some .int) rgX8_tail [.ref (z + 0), .int (hpI a0)] σ (pgX8_tail z σ a0) := by
  obtain ⟨ha01, ha02⟩ := ha0
  refine hp_met rfl (Nat.le_of_ble_eq_true rfl) (fun p e s m below meth c C Z hr hlk => ?_)
  have hF0 : ∀ j i : Nat, 169 ≤ j → σ j i = σ j i := fun j i _ => rfl
  refine h_aload_n C dX8_tail_0 0 rfl rfl ?_
  refine h_iload_n C dX8_tail_1 1 rfl rfl ?_
  refine h_callV (As := [.int (hpI a0)]) (rest := []) C Z yyX8_isDay wd_568 (tgX8_isDay l D cy z _ a0 ⟨by omega, by omega⟩ hI) kd_0 rfl rfl ⟨rfl, rfl, Nat.le_of_ble_eq_true rfl, Nat.le_of_ble_eq_true rfl⟩ ⟨Nat.le_of_ble_eq_true rfl, Nat.le_of_ble_eq_true rfl⟩ (Nat.le_of_ble_eq_true rfl) dX8_tail_2 (fun r1 τ1 hp1 => ?_)
  obtain ⟨⟨x1, rfl, ⟨hx1a, hx1b⟩, hx1⟩, rfl⟩ := hp1
  show hpV _ _ _ _ _ _ _ _ _ _ _ _ _ _ _ _ _ _ _ _ _ (_ :: _)
  refine h_if_eq (tgt := 19) C dX8_tail_5 (by decide) ⟨by omega, by omega⟩ (fun h2 => ?_) (fun h2 => ?_)
  · refine h_bipush C dX8_tail_19 (by decide) ?_
    refine h_ireturn C hr hlk dX8_tail_21 ?_
    exact ⟨⟨_, rfl, ⟨by decide, by decide⟩⟩, hI, hF0⟩
  · refine h_aload_n C dX8_tail_8 0 rfl rfl ?_
    refine h_iload_n C dX8_tail_9 1 rfl rfl ?_
    refine h_callV (As := [.int (hpI a0)]) (rest := []) C Z yyX8_roundOf wd_789 (tgX8_roundOf l D cy z _ a0 ⟨by omega, by omega⟩ hI) kd_0 rfl rfl ⟨rfl, rfl, Nat.le_of_ble_eq_true rfl, Nat.le_of_ble_eq_true rfl⟩ ⟨Nat.le_of_ble_eq_true rfl, Nat.le_of_ble_eq_true rfl⟩ (Nat.le_of_ble_eq_true rfl) dX8_tail_10 (fun r3 τ3 hp3 => ?_)
    obtain ⟨rfl, hI3, hG3⟩ := hp3
    have hF3 : ∀ j i : Nat, 169 ≤ j → τ3 j i = σ j i := fun j i h_0 => (hG3 j i (by omega)).trans (hF0 j i h_0)
    show hpV _ _ _ _ _ _ _ _ _ _ _ _ _ _ _ _ _ _ _ _ _ (_ :: _)
    refine h_getN C O2 2 kd_123 (by decide) nw_226 dX8_tail_13 (hp_fvI (by rw [kd_123]; rfl) rfl) ?_
    obtain ⟨hr4a, hr4b⟩ := hI3.b (bf_2_2 kd_123)
    generalize hg4 : τ3 123 2 = r4 at hr4a hr4b ⊢
    refine h_goto (tgt := 21) C dX8_tail_16 (by decide) ?_
    refine h_ireturn C hr hlk dX8_tail_21 ?_
    exact ⟨⟨_, rfl, ⟨by omega, by omega⟩⟩, hI3, hF3⟩
abbrev rgX8_length : Room := { frames := 7, cells := 0, slots := 0, locals := 194 }
abbrev pgX8_length (z : Nat) (σ : hpMem) (a0 : Int) : Option Value → hpMem → Prop := fun r τ => (∃ x : Int, r = some (.int (hpI x)) ∧ (hpR x)) ∧ hpInv τ ∧ (∀ j i : Nat, 169 ≤ j → τ j i = σ j i)
set_option maxHeartbeats 4000000 in
set_option maxRecDepth 20000 in
theorem tgX8_length (l : Launch) (D : va_G) (cy : Nat → ClassId) (z : Nat) (σ : hpMem) (a0 : Int) (ha0 : hpR a0) (hI : hpInv σ) : hpM l D cy z yX8_length cX8_length 2 (some .int) rgX8_length [.ref (z + 0), .int (hpI a0)] σ (pgX8_length z σ a0) := by
  obtain ⟨ha01, ha02⟩ := ha0
  refine hp_met rfl (Nat.le_of_ble_eq_true rfl) (fun p e s m below meth c C Z hr hlk => ?_)
  have hF0 : ∀ j i : Nat, 169 ≤ j → σ j i = σ j i := fun j i _ => rfl
  refine h_aload_n C dX8_length_0 0 rfl rfl ?_
  refine h_iload_n C dX8_length_1 1 rfl rfl ?_
  refine h_callV (As := [.int (hpI a0)]) (rest := []) C Z yyX8_isDay wd_568 (tgX8_isDay l D cy z _ a0 ⟨by omega, by omega⟩ hI) kd_0 rfl rfl ⟨rfl, rfl, Nat.le_of_ble_eq_true rfl, Nat.le_of_ble_eq_true rfl⟩ ⟨Nat.le_of_ble_eq_true rfl, Nat.le_of_ble_eq_true rfl⟩ (Nat.le_of_ble_eq_true rfl) dX8_length_2 (fun r1 τ1 hp1 => ?_)
  obtain ⟨⟨x1, rfl, ⟨hx1a, hx1b⟩, hx1⟩, rfl⟩ := hp1
  show hpV _ _ _ _ _ _ _ _ _ _ _ _ _ _ _ _ _ _ _ _ _ (_ :: _)
  refine h_if_eq (tgt := 19) C dX8_length_5 (by decide) ⟨by omega, by omega⟩ (fun h2 => ?_) (fun h2 => ?_)
  · refine h_bipush C dX8_length_19 (by decide) ?_
    refine h_ireturn C hr hlk dX8_length_21 ?_
    exact ⟨⟨_, rfl, ⟨by decide, by decide⟩⟩, hI, hF0⟩
  · refine h_aload_n C dX8_length_8 0 rfl rfl ?_
    refine h_iload_n C dX8_length_9 1 rfl rfl ?_
    refine h_callV (As := [.int (hpI a0)]) (rest := []) C Z yyX8_roundOf wd_789 (tgX8_roundOf l D cy z _ a0 ⟨by omega, by omega⟩ hI) kd_0 rfl rfl ⟨rfl, rfl, Nat.le_of_ble_eq_true rfl, Nat.le_of_ble_eq_true rfl⟩ ⟨Nat.le_of_ble_eq_true rfl, Nat.le_of_ble_eq_true rfl⟩ (Nat.le_of_ble_eq_true rfl) dX8_length_10 (fun r3 τ3 hp3 => ?_)
    obtain ⟨rfl, hI3, hG3⟩ := hp3
    have hF3 : ∀ j i : Nat, 169 ≤ j → τ3 j i = σ j i := fun j i h_0 => (hG3 j i (by omega)).trans (hF0 j i h_0)
    show hpV _ _ _ _ _ _ _ _ _ _ _ _ _ _ _ _ _ _ _ _ _ (_ :: _)
    refine h_getN C O2 3 kd_123 (by decide) nw_228 dX8_length_13 (hp_fvI (by rw [kd_123]; rfl) rfl) ?_
    obtain ⟨hr4a, hr4b⟩ := hI3.b (bf_2_3 kd_123)
    generalize hg4 : τ3 123 3 = r4 at hr4a hr4b ⊢
    refine h_goto (tgt := 21) C dX8_length_16 (by decide) ?_
    refine h_ireturn C hr hlk dX8_length_21 ?_
    exact ⟨⟨_, rfl, ⟨by omega, by omega⟩⟩, hI3, hF3⟩
abbrev rgX8_ring : Room := { frames := 7, cells := 0, slots := 0, locals := 194 }
abbrev pgX8_ring (z : Nat) (σ : hpMem) (a0 : Int) : Option Value → hpMem → Prop := fun r τ => (∃ x : Int, r = some (.int (hpI x)) ∧ (hpR x)) ∧ hpInv τ ∧ (∀ j i : Nat, 169 ≤ j → τ j i = σ j i)
set_option maxHeartbeats 4000000 in
set_option maxRecDepth 20000 in
theorem tgX8_ring (l : Launch) (D : va_G) (cy : Nat → ClassId) (z : Nat) (σ : hpMem) (a0 : Int) (ha0 : hpR a0) (hI : hpInv σ) : hpM l D cy z yX8_ring cX8_ring 2 (some .int) rgX8_ring [.ref (z + 0), .int (hpI a0)] σ (pgX8_ring z σ a0) := by
  obtain ⟨ha01, ha02⟩ := ha0
  refine hp_met rfl (Nat.le_of_ble_eq_true rfl) (fun p e s m below meth c C Z hr hlk => ?_)
  have hF0 : ∀ j i : Nat, 169 ≤ j → σ j i = σ j i := fun j i _ => rfl
  refine h_aload_n C dX8_ring_0 0 rfl rfl ?_
  refine h_iload_n C dX8_ring_1 1 rfl rfl ?_
  refine h_callV (As := [.int (hpI a0)]) (rest := []) C Z yyX8_isDay wd_568 (tgX8_isDay l D cy z _ a0 ⟨by omega, by omega⟩ hI) kd_0 rfl rfl ⟨rfl, rfl, Nat.le_of_ble_eq_true rfl, Nat.le_of_ble_eq_true rfl⟩ ⟨Nat.le_of_ble_eq_true rfl, Nat.le_of_ble_eq_true rfl⟩ (Nat.le_of_ble_eq_true rfl) dX8_ring_2 (fun r1 τ1 hp1 => ?_)
  obtain ⟨⟨x1, rfl, ⟨hx1a, hx1b⟩, hx1⟩, rfl⟩ := hp1
  show hpV _ _ _ _ _ _ _ _ _ _ _ _ _ _ _ _ _ _ _ _ _ (_ :: _)
  refine h_if_eq (tgt := 19) C dX8_ring_5 (by decide) ⟨by omega, by omega⟩ (fun h2 => ?_) (fun h2 => ?_)
  · refine h_bipush C dX8_ring_19 (by decide) ?_
    refine h_ireturn C hr hlk dX8_ring_21 ?_
    exact ⟨⟨_, rfl, ⟨by decide, by decide⟩⟩, hI, hF0⟩
  · refine h_aload_n C dX8_ring_8 0 rfl rfl ?_
    refine h_iload_n C dX8_ring_9 1 rfl rfl ?_
    refine h_callV (As := [.int (hpI a0)]) (rest := []) C Z yyX8_roundOf wd_789 (tgX8_roundOf l D cy z _ a0 ⟨by omega, by omega⟩ hI) kd_0 rfl rfl ⟨rfl, rfl, Nat.le_of_ble_eq_true rfl, Nat.le_of_ble_eq_true rfl⟩ ⟨Nat.le_of_ble_eq_true rfl, Nat.le_of_ble_eq_true rfl⟩ (Nat.le_of_ble_eq_true rfl) dX8_ring_10 (fun r3 τ3 hp3 => ?_)
    obtain ⟨rfl, hI3, hG3⟩ := hp3
    have hF3 : ∀ j i : Nat, 169 ≤ j → τ3 j i = σ j i := fun j i h_0 => (hG3 j i (by omega)).trans (hF0 j i h_0)
    show hpV _ _ _ _ _ _ _ _ _ _ _ _ _ _ _ _ _ _ _ _ _ (_ :: _)
    refine h_getN C O2 4 kd_123 (by decide) nw_230 dX8_ring_13 (hp_fvI (by rw [kd_123]; rfl) rfl) ?_
    obtain ⟨hr4a, hr4b⟩ := hI3.b (bf_2_4 kd_123)
    generalize hg4 : τ3 123 4 = r4 at hr4a hr4b ⊢
    refine h_goto (tgt := 21) C dX8_ring_16 (by decide) ?_
    refine h_ireturn C hr hlk dX8_ring_21 ?_
    exact ⟨⟨_, rfl, ⟨by omega, by omega⟩⟩, hI3, hF3⟩
abbrev rgX8_later : Room := { frames := 6, cells := 0, slots := 0, locals := 173 }
abbrev pgX8_later (z : Nat) (σ : hpMem) (a0 : Int) (a1 : Int) (a2 : Int) : Option Value → hpMem → Prop := fun r τ => (∃ x : Int, r = some (.int (hpI x)) ∧ (hpR x)) ∧ hpInv τ ∧ (∀ j i : Nat, 169 ≤ j → τ j i = σ j i)
set_option maxHeartbeats 4000000 in
set_option maxRecDepth 20000 in
theorem tgX8_later (l : Launch) (D : va_G) (cy : Nat → ClassId) (z : Nat) (σ : hpMem) (a0 : Int) (ha0 : hpR a0) (a1 : Int) (ha1 : hpR a1) (a2 : Int) (ha2 : hpR a2) (hI : hpInv σ) : hpM l D cy z yX8_later cX8_later 5 (some .int) rgX8_later [.ref (z + 0), .int (hpI a0), .int (hpI a1), .int (hpI a2)] σ (pgX8_later z σ a0 a1 a2) := by
  obtain ⟨ha01, ha02⟩ := ha0
  obtain ⟨ha11, ha12⟩ := ha1
  obtain ⟨ha21, ha22⟩ := ha2
  refine hp_met rfl (Nat.le_of_ble_eq_true rfl) (fun p e s m below meth c C Z hr hlk => ?_)
  have hF0 : ∀ j i : Nat, 169 ≤ j → σ j i = σ j i := fun j i _ => rfl
  refine h_aload_n C dX8_later_0 0 rfl rfl ?_
  refine h_iload_n C dX8_later_1 1 rfl rfl ?_
  refine h_callV (As := [.int (hpI a0)]) (rest := []) C Z yyX8_isDay wd_568 (tgX8_isDay l D cy z _ a0 ⟨by omega, by omega⟩ hI) kd_0 rfl rfl ⟨rfl, rfl, Nat.le_of_ble_eq_true rfl, Nat.le_of_ble_eq_true rfl⟩ ⟨Nat.le_of_ble_eq_true rfl, Nat.le_of_ble_eq_true rfl⟩ (Nat.le_of_ble_eq_true rfl) dX8_later_2 (fun r1 τ1 hp1 => ?_)
  obtain ⟨⟨x1, rfl, ⟨hx1a, hx1b⟩, hx1⟩, rfl⟩ := hp1
  show hpV _ _ _ _ _ _ _ _ _ _ _ _ _ _ _ _ _ _ _ _ _ (_ :: _)
  refine h_if_eq (tgt := 23) C dX8_later_5 (by decide) ⟨by omega, by omega⟩ (fun h2 => ?_) (fun h2 => ?_)
  · refine h_bipush C dX8_later_23 (by decide) ?_
    refine h_ireturn C hr hlk dX8_later_25 ?_
    exact ⟨⟨_, rfl, ⟨by decide, by decide⟩⟩, hI, hF0⟩
  · refine h_iload_n C dX8_later_8 2 rfl rfl ?_
    refine h_if_lt (tgt := 23) C dX8_later_9 (by decide) ⟨by omega, by omega⟩ (fun h3 => ?_) (fun h3 => ?_)
    · refine h_bipush C dX8_later_23 (by decide) ?_
      refine h_ireturn C hr hlk dX8_later_25 ?_
      exact ⟨⟨_, rfl, ⟨by decide, by decide⟩⟩, hI, hF0⟩
    · refine h_iload_n C dX8_later_12 2 rfl rfl ?_
      refine h_sipush C dX8_later_13 (by decide) ?_
      refine h_icmp_gt (tgt := 23) C dX8_later_16 (by decide) ⟨by omega, by omega⟩ ⟨by decide, by decide⟩ (fun h4 => ?_) (fun h4 => ?_)
      · refine h_bipush C dX8_later_23 (by decide) ?_
        refine h_ireturn C hr hlk dX8_later_25 ?_
        exact ⟨⟨_, rfl, ⟨by decide, by decide⟩⟩, hI, hF0⟩
      · refine h_iload_n C dX8_later_19 3 rfl rfl ?_
        refine h_if_ge (tgt := 26) C dX8_later_20 (by decide) ⟨by omega, by omega⟩ (fun h5 => ?_) (fun h5 => ?_)
        · refine h_aload_n C dX8_later_26 0 rfl rfl ?_
          refine h_get C O8 10 kd_0 (by decide) wd_359 dX8_later_27 fr_0_10 ?_
          refine h_aload_n C dX8_later_30 0 rfl rfl ?_
          refine h_iload_n C dX8_later_31 1 rfl rfl ?_
          refine h_callV (As := [.int (hpI a0)]) (rest := [.ref (z + 164)]) C Z yyX8_rowOfDay wd_576 (tgX8_rowOfDay l D cy z _ a0 ⟨by omega, by omega⟩ hI) kd_0 rfl rfl ⟨rfl, rfl, Nat.le_of_ble_eq_true rfl, Nat.le_of_ble_eq_true rfl⟩ ⟨Nat.le_of_ble_eq_true rfl, Nat.le_of_ble_eq_true rfl⟩ (Nat.le_of_ble_eq_true rfl) dX8_later_32 (fun r6 τ6 hp6 => ?_)
          obtain ⟨⟨x6, rfl, hx6⟩, hI6, hG6⟩ := hp6
          have hF6 : ∀ j i : Nat, 169 ≤ j → τ6 j i = σ j i := fun j i h_0 => (hG6 j i (by omega)).trans (hF0 j i h_0)
          have hl6 := kb_3 hx6
          show hpV _ _ _ _ _ _ _ _ _ _ _ _ _ _ _ _ _ _ _ _ _ (_ :: _)
          refine h_callVN (As := [.ref (z + x6)]) (rest := []) C Z yyX3_become nw_826 (tgX3_become l D cy z _ 164 kd_164 x6 hx6 hI6) kd_164 rfl rfl ⟨rfl, rfl, Nat.le_of_ble_eq_true rfl, Nat.le_of_ble_eq_true rfl⟩ ⟨Nat.le_of_ble_eq_true rfl, Nat.le_of_ble_eq_true rfl⟩ (Nat.le_of_ble_eq_true rfl) dX8_later_35 (fun r7 τ7 hp7 => ?_)
          obtain ⟨rfl, hI7, hG7⟩ := hp7
          have hF7 : ∀ j i : Nat, 169 ≤ j → τ7 j i = σ j i := fun j i h_0 => (hG7 j i (by omega)).trans (hF6 j i h_0)
          show hpV _ _ _ _ _ _ _ _ _ _ _ _ _ _ _ _ _ _ _ _ _ []
          refine h_iconst C dX8_later_38 ?_
          refine h_istore (lv' := [(4, .int (hpI 0)), (0, .ref (z + 0)), (1, .int (hpI a0)), (2, .int (hpI a1)), (3, .int (hpI a2))]) C dX8_later_39 (by decide) rfl ?_
          have L8 : ∀ (n8 : Nat) (τ8 : hpMem) (w8_4 : Int), 0 ≤ w8_4 → w8_4 ≤ 2147483647 → hpInv τ8 → (∀ j i : Nat, 169 ≤ j → τ8 j i = σ j i) → (4294967296 - w8_4) < (n8 : Int) → hpF p l e rgX8_later s m [.ref (z + 0), .int (hpI a0), .int (hpI a1), .int (hpI a2)] below meth c 5 D cy z (pgX8_later z σ a0 a1 a2) τ8 41 [(0, .ref (z + 0)), (1, .int (hpI a0)), (2, .int (hpI a1)), (3, .int (hpI a2)), (4, .int (hpI w8_4))] [] := by
            intro n8
            induction n8 with
            | zero => intro τ8 w8_4 hv8_0 hv8_1 hI8 hF8 hm8; exfalso; omega
            | succ n8 ih8 =>
              intro τ8 w8_4 hv8_0 hv8_1 hI8 hF8 hm8
              refine h_iload C dX8_later_41 4 rfl ?_
              refine h_iload_n C dX8_later_43 2 rfl rfl ?_
              refine h_icmp_ge (tgt := 67) C dX8_later_44 (by decide) ⟨by omega, by omega⟩ ⟨by omega, by omega⟩ (fun h9 => ?_) (fun h9 => ?_)
              · refine h_aload_n C dX8_later_67 0 rfl rfl ?_
                refine h_get C O8 10 kd_0 (by decide) wd_359 dX8_later_68 fr_0_10 ?_
                refine h_iload_n C dX8_later_71 3 rfl rfl ?_
                refine h_callVN (As := [.int (hpI a2)]) (rest := []) C Z yyX3_heapAt nw_639 (tgX3_heapAt l D cy z _ 164 kd_164 a2 ⟨by omega, by omega⟩ hI8) kd_164 rfl rfl ⟨rfl, rfl, Nat.le_of_ble_eq_true rfl, Nat.le_of_ble_eq_true rfl⟩ ⟨Nat.le_of_ble_eq_true rfl, Nat.le_of_ble_eq_true rfl⟩ (Nat.le_of_ble_eq_true rfl) dX8_later_72 (fun r10 τ10 hp10 => ?_)
                obtain ⟨⟨x10, rfl, ⟨hx10a, hx10b⟩⟩, rfl⟩ := hp10
                show hpV _ _ _ _ _ _ _ _ _ _ _ _ _ _ _ _ _ _ _ _ _ (_ :: _)
                refine h_ireturn C hr hlk dX8_later_75 ?_
                exact ⟨⟨_, rfl, ⟨by omega, by omega⟩⟩, hI8, hF8⟩
              · refine h_aload_n C dX8_later_47 0 rfl rfl ?_
                refine h_get C O8 10 kd_0 (by decide) wd_359 dX8_later_48 fr_0_10 ?_
                refine h_aload_n C dX8_later_51 0 rfl rfl ?_
                refine h_get C O8 1 kd_0 (by decide) wd_350 dX8_later_52 fr_0_1 ?_
                refine h_getN C O1 6 kd_3 (by decide) nw_89 dX8_later_55 (hp_fvI (by rw [kd_3]; rfl) rfl) ?_
                obtain ⟨hr11a, hr11b⟩ := hI8.b (bf_1_6 kd_3)
                generalize hg11 : τ8 3 6 = r11 at hr11a hr11b ⊢
                refine h_callVN (As := [.int (hpI r11)]) (rest := []) C Z yyX3_step nw_827 (tgX3_step l D cy z _ 164 kd_164 r11 ⟨by omega, by omega⟩ hI8) kd_164 rfl rfl ⟨rfl, rfl, Nat.le_of_ble_eq_true rfl, Nat.le_of_ble_eq_true rfl⟩ ⟨Nat.le_of_ble_eq_true rfl, Nat.le_of_ble_eq_true rfl⟩ (Nat.le_of_ble_eq_true rfl) dX8_later_58 (fun r12 τ12 hp12 => ?_)
                obtain ⟨rfl, hI12, hG12⟩ := hp12
                have hF12 : ∀ j i : Nat, 169 ≤ j → τ12 j i = σ j i := fun j i h_0 => (hG12 j i (by omega)).trans (hF8 j i h_0)
                show hpV _ _ _ _ _ _ _ _ _ _ _ _ _ _ _ _ _ _ _ _ _ []
                refine h_iinc (lv' := [(4, .int (hpI (w8_4 + 1))), (0, .ref (z + 0)), (1, .int (hpI a0)), (2, .int (hpI a1)), (3, .int (hpI a2))]) C dX8_later_61 4 rfl rfl (by decide) rfl ?_
                refine h_goto (tgt := 41) C dX8_later_64 (by decide) ?_
                exact hp_sub [1, 2, 3, 4, 0] rfl (ih8 _ (w8_4 + 1) (by omega) (by omega) hI12 hF12 (by omega))
          exact hp_sub [1, 2, 3, 4, 0] rfl (L8 8589934592 _ 0 (by omega) (by omega) hI7 hF7 (by omega))
        · refine h_bipush C dX8_later_23 (by decide) ?_
          refine h_ireturn C hr hlk dX8_later_25 ?_
          exact ⟨⟨_, rfl, ⟨by decide, by decide⟩⟩, hI, hF0⟩
abbrev rgX8_soon : Room := { frames := 7, cells := 0, slots := 0, locals := 194 }
abbrev pgX8_soon (z : Nat) (σ : hpMem) (a0 : Int) : Option Value → hpMem → Prop := fun r τ => (∃ x : Int, r = some (.int (hpI x)) ∧ (hpR x)) ∧ hpInv τ ∧ (∀ j i : Nat, 169 ≤ j → τ j i = σ j i)
set_option maxHeartbeats 4000000 in
set_option maxRecDepth 20000 in
theorem tgX8_soon (l : Launch) (D : va_G) (cy : Nat → ClassId) (z : Nat) (σ : hpMem) (a0 : Int) (ha0 : hpR a0) (hI : hpInv σ) : hpM l D cy z yX8_soon cX8_soon 2 (some .int) rgX8_soon [.ref (z + 0), .int (hpI a0)] σ (pgX8_soon z σ a0) := by
  obtain ⟨ha01, ha02⟩ := ha0
  refine hp_met rfl (Nat.le_of_ble_eq_true rfl) (fun p e s m below meth c C Z hr hlk => ?_)
  have hF0 : ∀ j i : Nat, 169 ≤ j → σ j i = σ j i := fun j i _ => rfl
  refine h_aload_n C dX8_soon_0 0 rfl rfl ?_
  refine h_iload_n C dX8_soon_1 1 rfl rfl ?_
  refine h_callV (As := [.int (hpI a0)]) (rest := []) C Z yyX8_isDay wd_568 (tgX8_isDay l D cy z _ a0 ⟨by omega, by omega⟩ hI) kd_0 rfl rfl ⟨rfl, rfl, Nat.le_of_ble_eq_true rfl, Nat.le_of_ble_eq_true rfl⟩ ⟨Nat.le_of_ble_eq_true rfl, Nat.le_of_ble_eq_true rfl⟩ (Nat.le_of_ble_eq_true rfl) dX8_soon_2 (fun r1 τ1 hp1 => ?_)
  obtain ⟨⟨x1, rfl, ⟨hx1a, hx1b⟩, hx1⟩, rfl⟩ := hp1
  show hpV _ _ _ _ _ _ _ _ _ _ _ _ _ _ _ _ _ _ _ _ _ (_ :: _)
  refine h_if_eq (tgt := 19) C dX8_soon_5 (by decide) ⟨by omega, by omega⟩ (fun h2 => ?_) (fun h2 => ?_)
  · refine h_bipush C dX8_soon_19 (by decide) ?_
    refine h_ireturn C hr hlk dX8_soon_21 ?_
    exact ⟨⟨_, rfl, ⟨by decide, by decide⟩⟩, hI, hF0⟩
  · refine h_aload_n C dX8_soon_8 0 rfl rfl ?_
    refine h_iload_n C dX8_soon_9 1 rfl rfl ?_
    refine h_callV (As := [.int (hpI a0)]) (rest := []) C Z yyX8_roundOf wd_789 (tgX8_roundOf l D cy z _ a0 ⟨by omega, by omega⟩ hI) kd_0 rfl rfl ⟨rfl, rfl, Nat.le_of_ble_eq_true rfl, Nat.le_of_ble_eq_true rfl⟩ ⟨Nat.le_of_ble_eq_true rfl, Nat.le_of_ble_eq_true rfl⟩ (Nat.le_of_ble_eq_true rfl) dX8_soon_10 (fun r3 τ3 hp3 => ?_)
    obtain ⟨rfl, hI3, hG3⟩ := hp3
    have hF3 : ∀ j i : Nat, 169 ≤ j → τ3 j i = σ j i := fun j i h_0 => (hG3 j i (by omega)).trans (hF0 j i h_0)
    show hpV _ _ _ _ _ _ _ _ _ _ _ _ _ _ _ _ _ _ _ _ _ (_ :: _)
    refine h_getN C O2 5 kd_123 (by decide) nw_232 dX8_soon_13 (hp_fvI (by rw [kd_123]; rfl) rfl) ?_
    obtain ⟨hr4a, hr4b⟩ := hI3.b (bf_2_5 kd_123)
    generalize hg4 : τ3 123 5 = r4 at hr4a hr4b ⊢
    refine h_goto (tgt := 21) C dX8_soon_16 (by decide) ?_
    refine h_ireturn C hr hlk dX8_soon_21 ?_
    exact ⟨⟨_, rfl, ⟨by omega, by omega⟩⟩, hI3, hF3⟩
abbrev rgX8_rowsOf : Room := { frames := 6, cells := 0, slots := 0, locals := 171 }
abbrev pgX8_rowsOf (z : Nat) (σ : hpMem) (a0 : Int) : Option Value → hpMem → Prop := fun r τ => (∃ x : Int, r = some (.int (hpI x)) ∧ (hpR x)) ∧ hpInv τ ∧ (∀ j i : Nat, 169 ≤ j → τ j i = σ j i)
set_option maxHeartbeats 4000000 in
set_option maxRecDepth 20000 in
theorem tgX8_rowsOf (l : Launch) (D : va_G) (cy : Nat → ClassId) (z : Nat) (σ : hpMem) (a0 : Int) (ha0 : hpR a0) (hI : hpInv σ) : hpM l D cy z yX8_rowsOf cX8_rowsOf 2 (some .int) rgX8_rowsOf [.ref (z + 0), .int (hpI a0)] σ (pgX8_rowsOf z σ a0) := by
  obtain ⟨ha01, ha02⟩ := ha0
  refine hp_met rfl (Nat.le_of_ble_eq_true rfl) (fun p e s m below meth c C Z hr hlk => ?_)
  have hF0 : ∀ j i : Nat, 169 ≤ j → σ j i = σ j i := fun j i _ => rfl
  refine h_aload_n C dX8_rowsOf_0 0 rfl rfl ?_
  refine h_iload_n C dX8_rowsOf_1 1 rfl rfl ?_
  refine h_callV (As := [.int (hpI a0)]) (rest := []) C Z yyX8_isOfAll wd_836 (tgX8_isOfAll l D cy z _ a0 ⟨by omega, by omega⟩ hI) kd_0 rfl rfl ⟨rfl, rfl, Nat.le_of_ble_eq_true rfl, Nat.le_of_ble_eq_true rfl⟩ ⟨Nat.le_of_ble_eq_true rfl, Nat.le_of_ble_eq_true rfl⟩ (Nat.le_of_ble_eq_true rfl) dX8_rowsOf_2 (fun r1 τ1 hp1 => ?_)
  obtain ⟨⟨x1, rfl, ⟨hx1a, hx1b⟩, hx1⟩, rfl⟩ := hp1
  show hpV _ _ _ _ _ _ _ _ _ _ _ _ _ _ _ _ _ _ _ _ _ (_ :: _)
  refine h_if_eq (tgt := 19) C dX8_rowsOf_5 (by decide) ⟨by omega, by omega⟩ (fun h2 => ?_) (fun h2 => ?_)
  · refine h_bipush C dX8_rowsOf_19 (by decide) ?_
    refine h_ireturn C hr hlk dX8_rowsOf_21 ?_
    exact ⟨⟨_, rfl, ⟨by decide, by decide⟩⟩, hI, hF0⟩
  · refine h_aload_n C dX8_rowsOf_8 0 rfl rfl ?_
    refine h_iload_n C dX8_rowsOf_9 1 rfl rfl ?_
    refine h_callV (As := [.int (hpI a0)]) (rest := []) C Z yyX8_everyOf wd_840 (tgX8_everyOf l D cy z _ a0 ⟨by omega, by omega⟩ hI) kd_0 rfl rfl ⟨rfl, rfl, Nat.le_of_ble_eq_true rfl, Nat.le_of_ble_eq_true rfl⟩ ⟨Nat.le_of_ble_eq_true rfl, Nat.le_of_ble_eq_true rfl⟩ (Nat.le_of_ble_eq_true rfl) dX8_rowsOf_10 (fun r3 τ3 hp3 => ?_)
    obtain ⟨rfl, hI3, hG3⟩ := hp3
    have hF3 : ∀ j i : Nat, 169 ≤ j → τ3 j i = σ j i := fun j i h_0 => (hG3 j i (by omega)).trans (hF0 j i h_0)
    show hpV _ _ _ _ _ _ _ _ _ _ _ _ _ _ _ _ _ _ _ _ _ (_ :: _)
    refine h_getN C O0 8 kd_130 (by decide) nw_263 dX8_rowsOf_13 (hp_fvI (by rw [kd_130]; rfl) rfl) ?_
    obtain ⟨hr4a, hr4b⟩ := hI3.b (bf_0_8 kd_130)
    generalize hg4 : τ3 130 8 = r4 at hr4a hr4b ⊢
    refine h_goto (tgt := 21) C dX8_rowsOf_16 (by decide) ?_
    refine h_ireturn C hr hlk dX8_rowsOf_21 ?_
    exact ⟨⟨_, rfl, ⟨by omega, by omega⟩⟩, hI3, hF3⟩
abbrev rgX8_ringed : Room := { frames := 6, cells := 0, slots := 0, locals := 171 }
abbrev pgX8_ringed (z : Nat) (σ : hpMem) (a0 : Int) : Option Value → hpMem → Prop := fun r τ => (∃ x : Int, r = some (.int (hpI x)) ∧ (hpR x)) ∧ hpInv τ ∧ (∀ j i : Nat, 169 ≤ j → τ j i = σ j i)
set_option maxHeartbeats 4000000 in
set_option maxRecDepth 20000 in
theorem tgX8_ringed (l : Launch) (D : va_G) (cy : Nat → ClassId) (z : Nat) (σ : hpMem) (a0 : Int) (ha0 : hpR a0) (hI : hpInv σ) : hpM l D cy z yX8_ringed cX8_ringed 2 (some .int) rgX8_ringed [.ref (z + 0), .int (hpI a0)] σ (pgX8_ringed z σ a0) := by
  obtain ⟨ha01, ha02⟩ := ha0
  refine hp_met rfl (Nat.le_of_ble_eq_true rfl) (fun p e s m below meth c C Z hr hlk => ?_)
  have hF0 : ∀ j i : Nat, 169 ≤ j → σ j i = σ j i := fun j i _ => rfl
  refine h_aload_n C dX8_ringed_0 0 rfl rfl ?_
  refine h_iload_n C dX8_ringed_1 1 rfl rfl ?_
  refine h_callV (As := [.int (hpI a0)]) (rest := []) C Z yyX8_isOfAll wd_836 (tgX8_isOfAll l D cy z _ a0 ⟨by omega, by omega⟩ hI) kd_0 rfl rfl ⟨rfl, rfl, Nat.le_of_ble_eq_true rfl, Nat.le_of_ble_eq_true rfl⟩ ⟨Nat.le_of_ble_eq_true rfl, Nat.le_of_ble_eq_true rfl⟩ (Nat.le_of_ble_eq_true rfl) dX8_ringed_2 (fun r1 τ1 hp1 => ?_)
  obtain ⟨⟨x1, rfl, ⟨hx1a, hx1b⟩, hx1⟩, rfl⟩ := hp1
  show hpV _ _ _ _ _ _ _ _ _ _ _ _ _ _ _ _ _ _ _ _ _ (_ :: _)
  refine h_if_eq (tgt := 19) C dX8_ringed_5 (by decide) ⟨by omega, by omega⟩ (fun h2 => ?_) (fun h2 => ?_)
  · refine h_bipush C dX8_ringed_19 (by decide) ?_
    refine h_ireturn C hr hlk dX8_ringed_21 ?_
    exact ⟨⟨_, rfl, ⟨by decide, by decide⟩⟩, hI, hF0⟩
  · refine h_aload_n C dX8_ringed_8 0 rfl rfl ?_
    refine h_iload_n C dX8_ringed_9 1 rfl rfl ?_
    refine h_callV (As := [.int (hpI a0)]) (rest := []) C Z yyX8_everyOf wd_840 (tgX8_everyOf l D cy z _ a0 ⟨by omega, by omega⟩ hI) kd_0 rfl rfl ⟨rfl, rfl, Nat.le_of_ble_eq_true rfl, Nat.le_of_ble_eq_true rfl⟩ ⟨Nat.le_of_ble_eq_true rfl, Nat.le_of_ble_eq_true rfl⟩ (Nat.le_of_ble_eq_true rfl) dX8_ringed_10 (fun r3 τ3 hp3 => ?_)
    obtain ⟨rfl, hI3, hG3⟩ := hp3
    have hF3 : ∀ j i : Nat, 169 ≤ j → τ3 j i = σ j i := fun j i h_0 => (hG3 j i (by omega)).trans (hF0 j i h_0)
    show hpV _ _ _ _ _ _ _ _ _ _ _ _ _ _ _ _ _ _ _ _ _ (_ :: _)
    refine h_getN C O0 9 kd_130 (by decide) nw_265 dX8_ringed_13 (hp_fvI (by rw [kd_130]; rfl) rfl) ?_
    obtain ⟨hr4a, hr4b⟩ := hI3.b (bf_0_9 kd_130)
    generalize hg4 : τ3 130 9 = r4 at hr4a hr4b ⊢
    refine h_goto (tgt := 21) C dX8_ringed_16 (by decide) ?_
    refine h_ireturn C hr hlk dX8_ringed_21 ?_
    exact ⟨⟨_, rfl, ⟨by omega, by omega⟩⟩, hI3, hF3⟩
abbrev rgX8_rings : Room := { frames := 6, cells := 0, slots := 0, locals := 171 }
abbrev pgX8_rings (z : Nat) (σ : hpMem) (a0 : Int) : Option Value → hpMem → Prop := fun r τ => (∃ x : Int, r = some (.int (hpI x)) ∧ (hpR x)) ∧ hpInv τ ∧ (∀ j i : Nat, 169 ≤ j → τ j i = σ j i)
set_option maxHeartbeats 4000000 in
set_option maxRecDepth 20000 in
theorem tgX8_rings (l : Launch) (D : va_G) (cy : Nat → ClassId) (z : Nat) (σ : hpMem) (a0 : Int) (ha0 : hpR a0) (hI : hpInv σ) : hpM l D cy z yX8_rings cX8_rings 2 (some .int) rgX8_rings [.ref (z + 0), .int (hpI a0)] σ (pgX8_rings z σ a0) := by
  obtain ⟨ha01, ha02⟩ := ha0
  refine hp_met rfl (Nat.le_of_ble_eq_true rfl) (fun p e s m below meth c C Z hr hlk => ?_)
  have hF0 : ∀ j i : Nat, 169 ≤ j → σ j i = σ j i := fun j i _ => rfl
  refine h_aload_n C dX8_rings_0 0 rfl rfl ?_
  refine h_iload_n C dX8_rings_1 1 rfl rfl ?_
  refine h_callV (As := [.int (hpI a0)]) (rest := []) C Z yyX8_isOfAll wd_836 (tgX8_isOfAll l D cy z _ a0 ⟨by omega, by omega⟩ hI) kd_0 rfl rfl ⟨rfl, rfl, Nat.le_of_ble_eq_true rfl, Nat.le_of_ble_eq_true rfl⟩ ⟨Nat.le_of_ble_eq_true rfl, Nat.le_of_ble_eq_true rfl⟩ (Nat.le_of_ble_eq_true rfl) dX8_rings_2 (fun r1 τ1 hp1 => ?_)
  obtain ⟨⟨x1, rfl, ⟨hx1a, hx1b⟩, hx1⟩, rfl⟩ := hp1
  show hpV _ _ _ _ _ _ _ _ _ _ _ _ _ _ _ _ _ _ _ _ _ (_ :: _)
  refine h_if_eq (tgt := 19) C dX8_rings_5 (by decide) ⟨by omega, by omega⟩ (fun h2 => ?_) (fun h2 => ?_)
  · refine h_bipush C dX8_rings_19 (by decide) ?_
    refine h_ireturn C hr hlk dX8_rings_21 ?_
    exact ⟨⟨_, rfl, ⟨by decide, by decide⟩⟩, hI, hF0⟩
  · refine h_aload_n C dX8_rings_8 0 rfl rfl ?_
    refine h_iload_n C dX8_rings_9 1 rfl rfl ?_
    refine h_callV (As := [.int (hpI a0)]) (rest := []) C Z yyX8_everyOf wd_840 (tgX8_everyOf l D cy z _ a0 ⟨by omega, by omega⟩ hI) kd_0 rfl rfl ⟨rfl, rfl, Nat.le_of_ble_eq_true rfl, Nat.le_of_ble_eq_true rfl⟩ ⟨Nat.le_of_ble_eq_true rfl, Nat.le_of_ble_eq_true rfl⟩ (Nat.le_of_ble_eq_true rfl) dX8_rings_10 (fun r3 τ3 hp3 => ?_)
    obtain ⟨rfl, hI3, hG3⟩ := hp3
    have hF3 : ∀ j i : Nat, 169 ≤ j → τ3 j i = σ j i := fun j i h_0 => (hG3 j i (by omega)).trans (hF0 j i h_0)
    show hpV _ _ _ _ _ _ _ _ _ _ _ _ _ _ _ _ _ _ _ _ _ (_ :: _)
    refine h_getN C O0 10 kd_130 (by decide) nw_267 dX8_rings_13 (hp_fvI (by rw [kd_130]; rfl) rfl) ?_
    obtain ⟨hr4a, hr4b⟩ := hI3.b (bf_0_10 kd_130)
    generalize hg4 : τ3 130 10 = r4 at hr4a hr4b ⊢
    refine h_goto (tgt := 21) C dX8_rings_16 (by decide) ?_
    refine h_ireturn C hr hlk dX8_rings_21 ?_
    exact ⟨⟨_, rfl, ⟨by omega, by omega⟩⟩, hI3, hF3⟩
abbrev rgX8_gardens : Room := { frames := 6, cells := 0, slots := 0, locals := 171 }
abbrev pgX8_gardens (z : Nat) (σ : hpMem) (a0 : Int) : Option Value → hpMem → Prop := fun r τ => (∃ x : Int, r = some (.int (hpI x)) ∧ (hpR x)) ∧ hpInv τ ∧ (∀ j i : Nat, 169 ≤ j → τ j i = σ j i)
set_option maxHeartbeats 4000000 in
set_option maxRecDepth 20000 in
theorem tgX8_gardens (l : Launch) (D : va_G) (cy : Nat → ClassId) (z : Nat) (σ : hpMem) (a0 : Int) (ha0 : hpR a0) (hI : hpInv σ) : hpM l D cy z yX8_gardens cX8_gardens 2 (some .int) rgX8_gardens [.ref (z + 0), .int (hpI a0)] σ (pgX8_gardens z σ a0) := by
  obtain ⟨ha01, ha02⟩ := ha0
  refine hp_met rfl (Nat.le_of_ble_eq_true rfl) (fun p e s m below meth c C Z hr hlk => ?_)
  have hF0 : ∀ j i : Nat, 169 ≤ j → σ j i = σ j i := fun j i _ => rfl
  refine h_aload_n C dX8_gardens_0 0 rfl rfl ?_
  refine h_iload_n C dX8_gardens_1 1 rfl rfl ?_
  refine h_callV (As := [.int (hpI a0)]) (rest := []) C Z yyX8_isOfAll wd_836 (tgX8_isOfAll l D cy z _ a0 ⟨by omega, by omega⟩ hI) kd_0 rfl rfl ⟨rfl, rfl, Nat.le_of_ble_eq_true rfl, Nat.le_of_ble_eq_true rfl⟩ ⟨Nat.le_of_ble_eq_true rfl, Nat.le_of_ble_eq_true rfl⟩ (Nat.le_of_ble_eq_true rfl) dX8_gardens_2 (fun r1 τ1 hp1 => ?_)
  obtain ⟨⟨x1, rfl, ⟨hx1a, hx1b⟩, hx1⟩, rfl⟩ := hp1
  show hpV _ _ _ _ _ _ _ _ _ _ _ _ _ _ _ _ _ _ _ _ _ (_ :: _)
  refine h_if_eq (tgt := 19) C dX8_gardens_5 (by decide) ⟨by omega, by omega⟩ (fun h2 => ?_) (fun h2 => ?_)
  · refine h_bipush C dX8_gardens_19 (by decide) ?_
    refine h_ireturn C hr hlk dX8_gardens_21 ?_
    exact ⟨⟨_, rfl, ⟨by decide, by decide⟩⟩, hI, hF0⟩
  · refine h_aload_n C dX8_gardens_8 0 rfl rfl ?_
    refine h_iload_n C dX8_gardens_9 1 rfl rfl ?_
    refine h_callV (As := [.int (hpI a0)]) (rest := []) C Z yyX8_everyOf wd_840 (tgX8_everyOf l D cy z _ a0 ⟨by omega, by omega⟩ hI) kd_0 rfl rfl ⟨rfl, rfl, Nat.le_of_ble_eq_true rfl, Nat.le_of_ble_eq_true rfl⟩ ⟨Nat.le_of_ble_eq_true rfl, Nat.le_of_ble_eq_true rfl⟩ (Nat.le_of_ble_eq_true rfl) dX8_gardens_10 (fun r3 τ3 hp3 => ?_)
    obtain ⟨rfl, hI3, hG3⟩ := hp3
    have hF3 : ∀ j i : Nat, 169 ≤ j → τ3 j i = σ j i := fun j i h_0 => (hG3 j i (by omega)).trans (hF0 j i h_0)
    show hpV _ _ _ _ _ _ _ _ _ _ _ _ _ _ _ _ _ _ _ _ _ (_ :: _)
    refine h_getN C O0 11 kd_130 (by decide) nw_269 dX8_gardens_13 (hp_fvI (by rw [kd_130]; rfl) rfl) ?_
    obtain ⟨hr4a, hr4b⟩ := hI3.b (bf_0_11 kd_130)
    generalize hg4 : τ3 130 11 = r4 at hr4a hr4b ⊢
    refine h_goto (tgt := 21) C dX8_gardens_16 (by decide) ?_
    refine h_ireturn C hr hlk dX8_gardens_21 ?_
    exact ⟨⟨_, rfl, ⟨by omega, by omega⟩⟩, hI3, hF3⟩
abbrev rgX8_longest : Room := { frames := 6, cells := 0, slots := 0, locals := 171 }
abbrev pgX8_longest (z : Nat) (σ : hpMem) (a0 : Int) : Option Value → hpMem → Prop := fun r τ => (∃ x : Int, r = some (.int (hpI x)) ∧ (hpR x)) ∧ hpInv τ ∧ (∀ j i : Nat, 169 ≤ j → τ j i = σ j i)
set_option maxHeartbeats 4000000 in
set_option maxRecDepth 20000 in
theorem tgX8_longest (l : Launch) (D : va_G) (cy : Nat → ClassId) (z : Nat) (σ : hpMem) (a0 : Int) (ha0 : hpR a0) (hI : hpInv σ) : hpM l D cy z yX8_longest cX8_longest 2 (some .int) rgX8_longest [.ref (z + 0), .int (hpI a0)] σ (pgX8_longest z σ a0) := by
  obtain ⟨ha01, ha02⟩ := ha0
  refine hp_met rfl (Nat.le_of_ble_eq_true rfl) (fun p e s m below meth c C Z hr hlk => ?_)
  have hF0 : ∀ j i : Nat, 169 ≤ j → σ j i = σ j i := fun j i _ => rfl
  refine h_aload_n C dX8_longest_0 0 rfl rfl ?_
  refine h_iload_n C dX8_longest_1 1 rfl rfl ?_
  refine h_callV (As := [.int (hpI a0)]) (rest := []) C Z yyX8_isOfAll wd_836 (tgX8_isOfAll l D cy z _ a0 ⟨by omega, by omega⟩ hI) kd_0 rfl rfl ⟨rfl, rfl, Nat.le_of_ble_eq_true rfl, Nat.le_of_ble_eq_true rfl⟩ ⟨Nat.le_of_ble_eq_true rfl, Nat.le_of_ble_eq_true rfl⟩ (Nat.le_of_ble_eq_true rfl) dX8_longest_2 (fun r1 τ1 hp1 => ?_)
  obtain ⟨⟨x1, rfl, ⟨hx1a, hx1b⟩, hx1⟩, rfl⟩ := hp1
  show hpV _ _ _ _ _ _ _ _ _ _ _ _ _ _ _ _ _ _ _ _ _ (_ :: _)
  refine h_if_eq (tgt := 19) C dX8_longest_5 (by decide) ⟨by omega, by omega⟩ (fun h2 => ?_) (fun h2 => ?_)
  · refine h_bipush C dX8_longest_19 (by decide) ?_
    refine h_ireturn C hr hlk dX8_longest_21 ?_
    exact ⟨⟨_, rfl, ⟨by decide, by decide⟩⟩, hI, hF0⟩
  · refine h_aload_n C dX8_longest_8 0 rfl rfl ?_
    refine h_iload_n C dX8_longest_9 1 rfl rfl ?_
    refine h_callV (As := [.int (hpI a0)]) (rest := []) C Z yyX8_everyOf wd_840 (tgX8_everyOf l D cy z _ a0 ⟨by omega, by omega⟩ hI) kd_0 rfl rfl ⟨rfl, rfl, Nat.le_of_ble_eq_true rfl, Nat.le_of_ble_eq_true rfl⟩ ⟨Nat.le_of_ble_eq_true rfl, Nat.le_of_ble_eq_true rfl⟩ (Nat.le_of_ble_eq_true rfl) dX8_longest_10 (fun r3 τ3 hp3 => ?_)
    obtain ⟨rfl, hI3, hG3⟩ := hp3
    have hF3 : ∀ j i : Nat, 169 ≤ j → τ3 j i = σ j i := fun j i h_0 => (hG3 j i (by omega)).trans (hF0 j i h_0)
    show hpV _ _ _ _ _ _ _ _ _ _ _ _ _ _ _ _ _ _ _ _ _ (_ :: _)
    refine h_getN C O0 12 kd_130 (by decide) nw_271 dX8_longest_13 (hp_fvI (by rw [kd_130]; rfl) rfl) ?_
    obtain ⟨hr4a, hr4b⟩ := hI3.b (bf_0_12 kd_130)
    generalize hg4 : τ3 130 12 = r4 at hr4a hr4b ⊢
    refine h_goto (tgt := 21) C dX8_longest_16 (by decide) ?_
    refine h_ireturn C hr hlk dX8_longest_21 ?_
    exact ⟨⟨_, rfl, ⟨by omega, by omega⟩⟩, hI3, hF3⟩
abbrev rgX8_slotsWithRow : Room := { frames := 1, cells := 0, slots := 0, locals := 20 }
abbrev pgX8_slotsWithRow (z : Nat) (σ : hpMem) : Option Value → hpMem → Prop := fun r τ => (∃ x : Int, r = some (.int (hpI x)) ∧ (hpR x)) ∧ σ = τ
set_option maxHeartbeats 4000000 in
set_option maxRecDepth 20000 in
theorem tgX8_slotsWithRow (l : Launch) (D : va_G) (cy : Nat → ClassId) (z : Nat) (σ : hpMem) (hI : hpInv σ) : hpM l D cy z yX8_slotsWithRow cX8_slotsWithRow 3 (some .int) rgX8_slotsWithRow [.ref (z + 0)] σ (pgX8_slotsWithRow z σ) := by
  refine hp_met rfl (Nat.le_of_ble_eq_true rfl) (fun p e s m below meth c C Z hr hlk => ?_)
  refine h_iconst C dX8_slotsWithRow_0 ?_
  refine h_istore_n (lv' := [(1, .int (hpI 0)), (0, .ref (z + 0))]) C dX8_slotsWithRow_1 rfl (by decide) rfl ?_
  refine h_iconst C dX8_slotsWithRow_2 ?_
  refine h_istore_n (lv' := [(2, .int (hpI 0)), (1, .int (hpI 0)), (0, .ref (z + 0))]) C dX8_slotsWithRow_3 rfl (by decide) rfl ?_
  have L1 : ∀ (n1 : Nat) (w1_1 : Int) (w1_2 : Int), -2147483648 ≤ w1_1 → w1_1 ≤ 2147483647 → 0 ≤ w1_2 → w1_2 ≤ 2147483647 → (4294967296 - w1_2) < (n1 : Int) → hpF p l e rgX8_slotsWithRow s m [.ref (z + 0)] below meth c 3 D cy z (pgX8_slotsWithRow z σ) σ 4 [(0, .ref (z + 0)), (1, .int (hpI w1_1)), (2, .int (hpI w1_2))] [] := by
    intro n1
    induction n1 with
    | zero => intro w1_1 w1_2 hv1_0 hv1_1 hv1_2 hv1_3 hm1; exfalso; omega
    | succ n1 ih1 =>
      intro w1_1 w1_2 hv1_0 hv1_1 hv1_2 hv1_3 hm1
      refine h_iload_n C dX8_slotsWithRow_4 2 rfl rfl ?_
      refine h_iconst C dX8_slotsWithRow_5 ?_
      refine h_icmp_ge (tgt := 30) C dX8_slotsWithRow_6 (by decide) ⟨by omega, by omega⟩ ⟨by decide, by decide⟩ (fun h2 => ?_) (fun h2 => ?_)
      · refine h_iload_n C dX8_slotsWithRow_30 1 rfl rfl ?_
        refine h_ireturn C hr hlk dX8_slotsWithRow_31 ?_
        exact ⟨⟨_, rfl, ⟨by omega, by omega⟩⟩, rfl⟩
      · refine h_iload_n C dX8_slotsWithRow_9 1 rfl rfl ?_
        refine h_aload_n C dX8_slotsWithRow_10 0 rfl rfl ?_
        refine h_get C O8 4 kd_0 (by decide) wd_353 dX8_slotsWithRow_11 fr_0_4 ?_
        refine h_iload_n C dX8_slotsWithRow_14 2 rfl rfl ?_
        obtain ⟨q3, eq3⟩ : ∃ q : Nat, q = 187 + 2 * ((w1_2).toNat) := ⟨_, rfl⟩
        have hq3 : hpkd q3 = 6 := by rw [eq3]; exact rk_16 (by omega)
        refine h_aaload (t0 := 6) (k' := q3) C dX8_slotsWithRow_15 kd_16 (by decide) (by decide) rfl (w1_2).toNat (Int.toNat_of_nonneg (by omega)) (by rw [ln_16]; omega) (by rw [eq3]; exact rq_16) ?_
        have hl3 := kb_6 hq3
        refine h_getN C O6 1 hq3 (by decide) nw_335 dX8_slotsWithRow_16 (hp_fvI (by rw [hq3]; rfl) rfl) ?_
        obtain ⟨hr4a, hr4b⟩ := hI.b (bf_6_1 hq3)
        generalize hg4 : σ q3 1 = r4 at hr4a hr4b ⊢
        refine h_callS (As := [.int (hpI r4)]) (rest := [.int (hpI w1_1)]) C Z yyX8_asNumber rfl wd_742 (tgX8_asNumber l D cy z _ r4 ⟨by omega, by omega⟩ hI) rfl rfl ⟨rfl, rfl, Nat.le_of_ble_eq_true rfl, Nat.le_of_ble_eq_true rfl⟩ ⟨Nat.le_of_ble_eq_true rfl, Nat.le_of_ble_eq_true rfl⟩ (Nat.le_of_ble_eq_true rfl) dX8_slotsWithRow_19 (fun r5 τ5 hp5 => ?_)
        obtain ⟨⟨x5, rfl, ⟨hx5a, hx5b⟩, hx5⟩, rfl⟩ := hp5
        show hpV _ _ _ _ _ _ _ _ _ _ _ _ _ _ _ _ _ _ _ _ _ (_ :: _)
        refine h_iadd C dX8_slotsWithRow_22 rfl ?_
        refine hp_anyI (fun r6 hr6 => ?_)
        obtain ⟨hr6a, hr6b⟩ := hr6
        refine h_istore_n (lv' := [(1, .int (hpI r6)), (0, .ref (z + 0)), (2, .int (hpI w1_2))]) C dX8_slotsWithRow_23 rfl (by decide) rfl ?_
        refine h_iinc (lv' := [(2, .int (hpI (w1_2 + 1))), (1, .int (hpI r6)), (0, .ref (z + 0))]) C dX8_slotsWithRow_24 2 rfl rfl (by decide) rfl ?_
        refine h_goto (tgt := 4) C dX8_slotsWithRow_27 (by decide) ?_
        exact hp_sub [2, 1, 0] rfl (ih1 r6 (w1_2 + 1) (by omega) (by omega) (by omega) (by omega) (by omega))
  exact hp_sub [2, 1, 0] rfl (L1 8589934592 0 0 (by omega) (by omega) (by omega) (by omega) (by omega))
abbrev rgX8_cut : Room := { frames := 0, cells := 0, slots := 0, locals := 0 }
abbrev pgX8_cut (z : Nat) (σ : hpMem) (a0 : Int) (a1 : Int) : Option Value → hpMem → Prop := fun r τ => (∃ x : Int, r = some (.long (hpJ x)) ∧ (hpRL x)) ∧ σ = τ
set_option maxHeartbeats 4000000 in
set_option maxRecDepth 20000 in
theorem tgX8_cut (l : Launch) (D : va_G) (cy : Nat → ClassId) (z : Nat) (σ : hpMem) (a0 : Int) (ha0 : hpRL a0) (a1 : Int) (ha1 : hpR a1) (hI : hpInv σ) : hpM l D cy z yX8_cut cX8_cut 3 (some .long) rgX8_cut [.long (hpJ a0), .int (hpI a1)] σ (pgX8_cut z σ a0 a1) := by
  obtain ⟨ha01, ha02⟩ := ha0
  obtain ⟨ha11, ha12⟩ := ha1
  refine hp_met rfl (Nat.le_of_ble_eq_true rfl) (fun p e s m below meth c C Z hr hlk => ?_)
  refine h_iload_n C dX8_cut_0 1 rfl rfl ?_
  rcases (show a1 = 0 ∨ a1 = 1 ∨ a1 = 2 ∨ (a1 < 0 ∨ 2 < a1) by omega) with rfl | rfl | rfl | hs1
  · refine h_tableIn (tgt := 28) C dX8_cut_1 ⟨by decide, by decide⟩ (by decide) (by decide) rfl (by decide) ?_
    refine h_lload_n C dX8_cut_28 0 rfl rfl ?_
    refine h_l2i C dX8_cut_29 ?_
    refine hp_anyI (fun r2 hr2 => ?_)
    obtain ⟨hr2a, hr2b⟩ := hr2
    refine h_i2b C dX8_cut_30 (fun r3 hr3a hr3b => ?_)
    refine h_i2l C dX8_cut_31 ⟨by omega, by omega⟩ ?_
    refine h_lreturn C hr hlk dX8_cut_32 ?_
    exact ⟨⟨_, rfl, ⟨by omega, by omega⟩⟩, rfl⟩
  · refine h_tableIn (tgt := 33) C dX8_cut_1 ⟨by decide, by decide⟩ (by decide) (by decide) rfl (by decide) ?_
    refine h_lload_n C dX8_cut_33 0 rfl rfl ?_
    refine h_l2i C dX8_cut_34 ?_
    refine hp_anyI (fun r4 hr4 => ?_)
    obtain ⟨hr4a, hr4b⟩ := hr4
    refine h_i2s C dX8_cut_35 (fun r5 hr5a hr5b => ?_)
    refine h_i2l C dX8_cut_36 ⟨by omega, by omega⟩ ?_
    refine h_lreturn C hr hlk dX8_cut_37 ?_
    exact ⟨⟨_, rfl, ⟨by omega, by omega⟩⟩, rfl⟩
  · refine h_tableIn (tgt := 38) C dX8_cut_1 ⟨by decide, by decide⟩ (by decide) (by decide) rfl (by decide) ?_
    refine h_lload_n C dX8_cut_38 0 rfl rfl ?_
    refine h_l2i C dX8_cut_39 ?_
    refine hp_anyI (fun r6 hr6 => ?_)
    obtain ⟨hr6a, hr6b⟩ := hr6
    refine h_i2l C dX8_cut_40 ⟨by omega, by omega⟩ ?_
    refine h_lreturn C hr hlk dX8_cut_41 ?_
    exact ⟨⟨_, rfl, ⟨by omega, by omega⟩⟩, rfl⟩
  · refine h_tableOut (tgt := 42) C dX8_cut_1 ⟨by omega, by omega⟩ hs1 (by decide) ?_
    refine h_lload_n C dX8_cut_42 0 rfl rfl ?_
    refine h_lreturn C hr hlk dX8_cut_43 ?_
    exact ⟨⟨_, rfl, ⟨by omega, by omega⟩⟩, rfl⟩
abbrev rgX8_smallRowFault : Room := { frames := 3, cells := 0, slots := 0, locals := 104 }
abbrev pgX8_smallRowFault (z : Nat) (σ : hpMem) (a0 : Int) : Option Value → hpMem → Prop := fun r τ => (∃ x : Int, r = some (.int (hpI x)) ∧ (hpR x) ∧ (x = 0 → (0 ≤ a0 ∧ a0 ≤ 3))) ∧ hpInv τ ∧ (∀ j i : Nat, 169 ≤ j → τ j i = σ j i)
set_option maxHeartbeats 4000000 in
set_option maxRecDepth 20000 in
theorem tgX8_smallRowFault (l : Launch) (D : va_G) (cy : Nat → ClassId) (z : Nat) (σ : hpMem) (a0 : Int) (ha0 : hpR a0) (hI : hpInv σ) : hpM l D cy z yX8_smallRowFault cX8_smallRowFault 2 (some .int) rgX8_smallRowFault [.ref (z + 0), .int (hpI a0)] σ (pgX8_smallRowFault z σ a0) := by
  obtain ⟨ha01, ha02⟩ := ha0
  refine hp_met rfl (Nat.le_of_ble_eq_true rfl) (fun p e s m below meth c C Z hr hlk => ?_)
  have hF0 : ∀ j i : Nat, 169 ≤ j → σ j i = σ j i := fun j i _ => rfl
  refine h_iload_n C dX8_smallRowFault_0 1 rfl rfl ?_
  refine h_callS (As := [.int (hpI a0)]) (rest := []) C Z yyX8_isSlot rfl wd_920 (tgX8_isSlot l D cy z _ a0 ⟨by omega, by omega⟩ hI) rfl rfl ⟨rfl, rfl, Nat.le_of_ble_eq_true rfl, Nat.le_of_ble_eq_true rfl⟩ ⟨Nat.le_of_ble_eq_true rfl, Nat.le_of_ble_eq_true rfl⟩ (Nat.le_of_ble_eq_true rfl) dX8_smallRowFault_1 (fun r1 τ1 hp1 => ?_)
  obtain ⟨⟨x1, rfl, ⟨hx1a, hx1b⟩, hx1⟩, rfl⟩ := hp1
  show hpV _ _ _ _ _ _ _ _ _ _ _ _ _ _ _ _ _ _ _ _ _ (_ :: _)
  refine h_if_eq (tgt := 14) C dX8_smallRowFault_4 (by decide) ⟨by omega, by omega⟩ (fun h2 => ?_) (fun h2 => ?_)
  · refine h_bipush C dX8_smallRowFault_14 (by decide) ?_
    refine h_ireturn C hr hlk dX8_smallRowFault_16 ?_
    exact ⟨⟨_, rfl, ⟨by decide, by decide⟩, by omega⟩, hI, hF0⟩
  · refine h_aload_n C dX8_smallRowFault_7 0 rfl rfl ?_
    refine h_callV (As := []) (rest := []) C Z yyX8_noMoor wd_572 (tgX8_noMoor l D cy z _ hI) kd_0 rfl rfl ⟨rfl, rfl, Nat.le_of_ble_eq_true rfl, Nat.le_of_ble_eq_true rfl⟩ ⟨Nat.le_of_ble_eq_true rfl, Nat.le_of_ble_eq_true rfl⟩ (Nat.le_of_ble_eq_true rfl) dX8_smallRowFault_8 (fun r3 τ3 hp3 => ?_)
    obtain ⟨⟨x3, rfl, ⟨hx3a, hx3b⟩⟩, rfl⟩ := hp3
    show hpV _ _ _ _ _ _ _ _ _ _ _ _ _ _ _ _ _ _ _ _ _ (_ :: _)
    refine h_if_eq (tgt := 17) C dX8_smallRowFault_11 (by decide) ⟨by omega, by omega⟩ (fun h4 => ?_) (fun h4 => ?_)
    · refine h_aload_n C dX8_smallRowFault_17 0 rfl rfl ?_
      refine h_get C O8 4 kd_0 (by decide) wd_353 dX8_smallRowFault_18 fr_0_4 ?_
      refine h_iload_n C dX8_smallRowFault_21 1 rfl rfl ?_
      obtain ⟨q5, eq5⟩ : ∃ q : Nat, q = 187 + 2 * ((a0).toNat) := ⟨_, rfl⟩
      have hq5 : hpkd q5 = 6 := by rw [eq5]; exact rk_16 (by omega)
      refine h_aaload (t0 := 6) (k' := q5) C dX8_smallRowFault_22 kd_16 (by decide) (by decide) rfl (a0).toNat (Int.toNat_of_nonneg (by omega)) (by rw [ln_16]; omega) (by rw [eq5]; exact rq_16) ?_
      have hl5 := kb_6 hq5
      refine h_getN C O6 1 hq5 (by decide) nw_335 dX8_smallRowFault_23 (hp_fvI (by rw [hq5]; rfl) rfl) ?_
      obtain ⟨hr6a, hr6b⟩ := hI.b (bf_6_1 hq5)
      generalize hg6 : σ q5 1 = r6 at hr6a hr6b ⊢
      refine h_if_ne (tgt := 32) C dX8_smallRowFault_26 (by decide) ⟨by omega, by omega⟩ (fun h7 => ?_) (fun h7 => ?_)
      · refine h_aload_n C dX8_smallRowFault_32 0 rfl rfl ?_
        refine h_get C O8 4 kd_0 (by decide) wd_353 dX8_smallRowFault_33 fr_0_4 ?_
        refine h_iload_n C dX8_smallRowFault_36 1 rfl rfl ?_
        obtain ⟨q8, eq8⟩ : ∃ q : Nat, q = 187 + 2 * ((a0).toNat) := ⟨_, rfl⟩
        have hq8 : hpkd q8 = 6 := by rw [eq8]; exact rk_16 (by omega)
        refine h_aaload (t0 := 6) (k' := q8) C dX8_smallRowFault_37 kd_16 (by decide) (by decide) rfl (a0).toNat (Int.toNat_of_nonneg (by omega)) (by rw [ln_16]; omega) (by rw [eq8]; exact rq_16) ?_
        have hl8 := kb_6 hq8
        refine h_aload_n C dX8_smallRowFault_38 0 rfl rfl ?_
        refine h_get C O8 10 kd_0 (by decide) wd_359 dX8_smallRowFault_39 fr_0_10 ?_
        refine h_callVN (As := [.ref (z + 164)]) (rest := []) C Z yyX6_fillSmall nw_923 (tgX6_fillSmall l D cy z _ q8 hq8 hI) hq8 rfl rfl ⟨rfl, rfl, Nat.le_of_ble_eq_true rfl, Nat.le_of_ble_eq_true rfl⟩ ⟨Nat.le_of_ble_eq_true rfl, Nat.le_of_ble_eq_true rfl⟩ (Nat.le_of_ble_eq_true rfl) dX8_smallRowFault_42 (fun r9 τ9 hp9 => ?_)
        obtain ⟨⟨x9, rfl, ⟨hx9a, hx9b⟩⟩, hI9, hG9⟩ := hp9
        have hF9 : ∀ j i : Nat, 169 ≤ j → τ9 j i = σ j i := fun j i h_0 => (hG9 j i (by omega)).trans (hF0 j i h_0)
        show hpV _ _ _ _ _ _ _ _ _ _ _ _ _ _ _ _ _ _ _ _ _ (_ :: _)
        refine h_if_eq (tgt := 52) C dX8_smallRowFault_45 (by decide) ⟨by omega, by omega⟩ (fun h10 => ?_) (fun h10 => ?_)
        · refine h_bipush C dX8_smallRowFault_52 (by decide) ?_
          refine h_ireturn C hr hlk dX8_smallRowFault_54 ?_
          exact ⟨⟨_, rfl, ⟨by decide, by decide⟩, by omega⟩, hI9, hF9⟩
        · refine h_iconst C dX8_smallRowFault_48 ?_
          refine h_goto (tgt := 54) C dX8_smallRowFault_49 (by decide) ?_
          refine h_ireturn C hr hlk dX8_smallRowFault_54 ?_
          exact ⟨⟨_, rfl, ⟨by decide, by decide⟩, by omega⟩, hI9, hF9⟩
      · refine h_bipush C dX8_smallRowFault_29 (by decide) ?_
        refine h_ireturn C hr hlk dX8_smallRowFault_31 ?_
        exact ⟨⟨_, rfl, ⟨by decide, by decide⟩, by omega⟩, hI, hF0⟩
    · refine h_bipush C dX8_smallRowFault_14 (by decide) ?_
      refine h_ireturn C hr hlk dX8_smallRowFault_16 ?_
      exact ⟨⟨_, rfl, ⟨by decide, by decide⟩, by omega⟩, hI, hF0⟩
abbrev rgX8_seenFault : Room := { frames := 1, cells := 0, slots := 0, locals := 23 }
abbrev pgX8_seenFault (z : Nat) (σ : hpMem) (a0 : Int) (a1 : Int) : Option Value → hpMem → Prop := fun r τ => (∃ x : Int, r = some (.int (hpI x)) ∧ (hpR x) ∧ (x = 0 → (0 ≤ a0 ∧ a0 ≤ 3))) ∧ σ = τ
set_option maxHeartbeats 4000000 in
set_option maxRecDepth 20000 in
theorem tgX8_seenFault (l : Launch) (D : va_G) (cy : Nat → ClassId) (z : Nat) (σ : hpMem) (a0 : Int) (ha0 : hpR a0) (a1 : Int) (ha1 : 0 ≤ a1 ∧ a1 ≤ 1) (hI : hpInv σ) : hpM l D cy z yX8_seenFault cX8_seenFault 3 (some .int) rgX8_seenFault [.ref (z + 0), .int (hpI a0), .int (hpI a1)] σ (pgX8_seenFault z σ a0 a1) := by
  obtain ⟨ha01, ha02⟩ := ha0
  obtain ⟨ha11, ha12⟩ := ha1
  refine hp_met rfl (Nat.le_of_ble_eq_true rfl) (fun p e s m below meth c C Z hr hlk => ?_)
  refine h_iload_n C dX8_seenFault_0 1 rfl rfl ?_
  refine h_callS (As := [.int (hpI a0)]) (rest := []) C Z yyX8_isSlot rfl wd_920 (tgX8_isSlot l D cy z _ a0 ⟨by omega, by omega⟩ hI) rfl rfl ⟨rfl, rfl, Nat.le_of_ble_eq_true rfl, Nat.le_of_ble_eq_true rfl⟩ ⟨Nat.le_of_ble_eq_true rfl, Nat.le_of_ble_eq_true rfl⟩ (Nat.le_of_ble_eq_true rfl) dX8_seenFault_1 (fun r1 τ1 hp1 => ?_)
  obtain ⟨⟨x1, rfl, ⟨hx1a, hx1b⟩, hx1⟩, rfl⟩ := hp1
  show hpV _ _ _ _ _ _ _ _ _ _ _ _ _ _ _ _ _ _ _ _ _ (_ :: _)
  refine h_if_eq (tgt := 11) C dX8_seenFault_4 (by decide) ⟨by omega, by omega⟩ (fun h2 => ?_) (fun h2 => ?_)
  · refine h_bipush C dX8_seenFault_11 (by decide) ?_
    refine h_ireturn C hr hlk dX8_seenFault_13 ?_
    exact ⟨⟨_, rfl, ⟨by decide, by decide⟩, by omega⟩, rfl⟩
  · refine h_iload_n C dX8_seenFault_7 2 rfl rfl ?_
    refine h_if_ne (tgt := 14) C dX8_seenFault_8 (by decide) ⟨by omega, by omega⟩ (fun h3 => ?_) (fun h3 => ?_)
    · refine h_aload_n C dX8_seenFault_14 0 rfl rfl ?_
      refine h_get C O8 4 kd_0 (by decide) wd_353 dX8_seenFault_15 fr_0_4 ?_
      refine h_iload_n C dX8_seenFault_18 1 rfl rfl ?_
      obtain ⟨q4, eq4⟩ : ∃ q : Nat, q = 187 + 2 * ((a0).toNat) := ⟨_, rfl⟩
      have hq4 : hpkd q4 = 6 := by rw [eq4]; exact rk_16 (by omega)
      refine h_aaload (t0 := 6) (k' := q4) C dX8_seenFault_19 kd_16 (by decide) (by decide) rfl (a0).toNat (Int.toNat_of_nonneg (by omega)) (by rw [ln_16]; omega) (by rw [eq4]; exact rq_16) ?_
      have hl4 := kb_6 hq4
      refine h_getN C O6 1 hq4 (by decide) nw_335 dX8_seenFault_20 (hp_fvI (by rw [hq4]; rfl) rfl) ?_
      obtain ⟨hr5a, hr5b⟩ := hI.b (bf_6_1 hq4)
      generalize hg5 : σ q4 1 = r5 at hr5a hr5b ⊢
      refine h_if_ne (tgt := 29) C dX8_seenFault_23 (by decide) ⟨by omega, by omega⟩ (fun h6 => ?_) (fun h6 => ?_)
      · refine h_aload_n C dX8_seenFault_29 0 rfl rfl ?_
        refine h_get C O8 4 kd_0 (by decide) wd_353 dX8_seenFault_30 fr_0_4 ?_
        refine h_iload_n C dX8_seenFault_33 1 rfl rfl ?_
        obtain ⟨q7, eq7⟩ : ∃ q : Nat, q = 187 + 2 * ((a0).toNat) := ⟨_, rfl⟩
        have hq7 : hpkd q7 = 6 := by rw [eq7]; exact rk_16 (by omega)
        refine h_aaload (t0 := 6) (k' := q7) C dX8_seenFault_34 kd_16 (by decide) (by decide) rfl (a0).toNat (Int.toNat_of_nonneg (by omega)) (by rw [ln_16]; omega) (by rw [eq7]; exact rq_16) ?_
        have hl7 := kb_6 hq7
        refine h_aload_n C dX8_seenFault_35 0 rfl rfl ?_
        refine h_get C O8 1 kd_0 (by decide) wd_350 dX8_seenFault_36 fr_0_1 ?_
        refine h_getN C O1 5 kd_3 (by decide) nw_85 dX8_seenFault_39 (hp_fvI (by rw [kd_3]; rfl) rfl) ?_
        obtain ⟨hr8a, hr8b⟩ := hI.b (bf_1_5 kd_3)
        generalize hg8 : σ 3 5 = r8 at hr8a hr8b ⊢
        refine h_callVN (As := [.int (hpI r8)]) (rest := []) C Z yyX6_isOfThrees nw_981 (tgX6_isOfThrees l D cy z _ q7 hq7 r8 ⟨by omega, by omega⟩ hI) hq7 rfl rfl ⟨rfl, rfl, Nat.le_of_ble_eq_true rfl, Nat.le_of_ble_eq_true rfl⟩ ⟨Nat.le_of_ble_eq_true rfl, Nat.le_of_ble_eq_true rfl⟩ (Nat.le_of_ble_eq_true rfl) dX8_seenFault_42 (fun r9 τ9 hp9 => ?_)
        obtain ⟨⟨x9, rfl, ⟨hx9a, hx9b⟩⟩, rfl⟩ := hp9
        show hpV _ _ _ _ _ _ _ _ _ _ _ _ _ _ _ _ _ _ _ _ _ (_ :: _)
        refine h_if_eq (tgt := 52) C dX8_seenFault_45 (by decide) ⟨by omega, by omega⟩ (fun h10 => ?_) (fun h10 => ?_)
        · refine h_bipush C dX8_seenFault_52 (by decide) ?_
          refine h_ireturn C hr hlk dX8_seenFault_54 ?_
          exact ⟨⟨_, rfl, ⟨by decide, by decide⟩, by omega⟩, rfl⟩
        · refine h_iconst C dX8_seenFault_48 ?_
          refine h_goto (tgt := 54) C dX8_seenFault_49 (by decide) ?_
          refine h_ireturn C hr hlk dX8_seenFault_54 ?_
          exact ⟨⟨_, rfl, ⟨by decide, by decide⟩, by omega⟩, rfl⟩
      · refine h_bipush C dX8_seenFault_26 (by decide) ?_
        refine h_ireturn C hr hlk dX8_seenFault_28 ?_
        exact ⟨⟨_, rfl, ⟨by decide, by decide⟩, by omega⟩, rfl⟩
    · refine h_bipush C dX8_seenFault_11 (by decide) ?_
      refine h_ireturn C hr hlk dX8_seenFault_13 ?_
      exact ⟨⟨_, rfl, ⟨by decide, by decide⟩, by omega⟩, rfl⟩
abbrev rgX8_ahead : Room := { frames := 6, cells := 0, slots := 0, locals := 171 }
abbrev pgX8_ahead (z : Nat) (σ : hpMem) (a0 : Int) : Option Value → hpMem → Prop := fun r τ => (∃ x : Int, r = some (.int (hpI x)) ∧ (hpR x)) ∧ hpInv τ ∧ (∀ j i : Nat, 169 ≤ j → τ j i = σ j i)
set_option maxHeartbeats 4000000 in
set_option maxRecDepth 20000 in
theorem tgX8_ahead (l : Launch) (D : va_G) (cy : Nat → ClassId) (z : Nat) (σ : hpMem) (a0 : Int) (ha0 : hpR a0) (hI : hpInv σ) : hpM l D cy z yX8_ahead cX8_ahead 3 (some .int) rgX8_ahead [.ref (z + 0), .int (hpI a0)] σ (pgX8_ahead z σ a0) := by
  obtain ⟨ha01, ha02⟩ := ha0
  refine hp_met rfl (Nat.le_of_ble_eq_true rfl) (fun p e s m below meth c C Z hr hlk => ?_)
  have hF0 : ∀ j i : Nat, 169 ≤ j → σ j i = σ j i := fun j i _ => rfl
  refine h_aload_n C dX8_ahead_0 0 rfl rfl ?_
  refine h_iload_n C dX8_ahead_1 1 rfl rfl ?_
  refine h_callV (As := [.int (hpI a0)]) (rest := []) C Z yyX8_smallRowFault wd_916 (tgX8_smallRowFault l D cy z _ a0 ⟨by omega, by omega⟩ hI) kd_0 rfl rfl ⟨rfl, rfl, Nat.le_of_ble_eq_true rfl, Nat.le_of_ble_eq_true rfl⟩ ⟨Nat.le_of_ble_eq_true rfl, Nat.le_of_ble_eq_true rfl⟩ (Nat.le_of_ble_eq_true rfl) dX8_ahead_2 (fun r1 τ1 hp1 => ?_)
  obtain ⟨⟨x1, rfl, ⟨hx1a, hx1b⟩, hx1⟩, hI1, hG1⟩ := hp1
  have hF1 : ∀ j i : Nat, 169 ≤ j → τ1 j i = σ j i := fun j i h_0 => (hG1 j i (by omega)).trans (hF0 j i h_0)
  show hpV _ _ _ _ _ _ _ _ _ _ _ _ _ _ _ _ _ _ _ _ _ (_ :: _)
  refine h_istore_n (lv' := [(2, .int (hpI x1)), (0, .ref (z + 0)), (1, .int (hpI a0))]) C dX8_ahead_5 rfl (by decide) rfl ?_
  refine h_iload_n C dX8_ahead_6 0 rfl rfl ?_
  refine h_if_eq (tgt := 12) C dX8_ahead_7 (by decide) ⟨by omega, by omega⟩ (fun h2 => ?_) (fun h2 => ?_)
  · refine h_aload_n C dX8_ahead_12 1 rfl rfl ?_
    refine h_aload_n C dX8_ahead_13 1 rfl rfl ?_
    refine h_get C O8 10 kd_0 (by decide) wd_359 dX8_ahead_14 fr_0_10 ?_
    refine h_getN C O3 4 kd_164 (by decide) nw_167 dX8_ahead_17 (hp_fvI (by rw [kd_164]; rfl) rfl) ?_
    obtain ⟨hr3a, hr3b⟩ := hI1.b (bf_3_4 kd_164)
    generalize hg3 : τ1 164 4 = r3 at hr3a hr3b ⊢
    refine h_callV (As := [.int (hpI r3)]) (rest := []) C Z yyX8_everyOf wd_840 (tgX8_everyOf l D cy z _ r3 ⟨by omega, by omega⟩ hI1) kd_0 rfl rfl ⟨rfl, rfl, Nat.le_of_ble_eq_true rfl, Nat.le_of_ble_eq_true rfl⟩ ⟨Nat.le_of_ble_eq_true rfl, Nat.le_of_ble_eq_true rfl⟩ (Nat.le_of_ble_eq_true rfl) dX8_ahead_20 (fun r4 τ4 hp4 => ?_)
    obtain ⟨rfl, hI4, hG4⟩ := hp4
    have hF4 : ∀ j i : Nat, 169 ≤ j → τ4 j i = σ j i := fun j i h_0 => (hG4 j i (by omega)).trans (hF1 j i h_0)
    show hpV _ _ _ _ _ _ _ _ _ _ _ _ _ _ _ _ _ _ _ _ _ (_ :: _)
    refine h_aload_n C dX8_ahead_23 1 rfl rfl ?_
    refine h_get C O8 10 kd_0 (by decide) wd_359 dX8_ahead_24 fr_0_10 ?_
    refine h_callVN (As := [.ref (z + 164)]) (rest := []) C Z yyX0_comersTo nw_929 (tgX0_comersTo l D cy z _ 164 kd_164 hI4) kd_130 rfl rfl ⟨rfl, rfl, Nat.le_of_ble_eq_true rfl, Nat.le_of_ble_eq_true rfl⟩ ⟨Nat.le_of_ble_eq_true rfl, Nat.le_of_ble_eq_true rfl⟩ (Nat.le_of_ble_eq_true rfl) dX8_ahead_27 (fun r5 τ5 hp5 => ?_)
    obtain ⟨⟨x5, rfl, ⟨hx5a, hx5b⟩⟩, rfl⟩ := hp5
    show hpV _ _ _ _ _ _ _ _ _ _ _ _ _ _ _ _ _ _ _ _ _ (_ :: _)
    refine h_ireturn C hr hlk dX8_ahead_30 ?_
    exact ⟨⟨_, rfl, ⟨by omega, by omega⟩⟩, hI4, hF4⟩
  · refine h_iload_n C dX8_ahead_10 0 rfl rfl ?_
    refine h_ireturn C hr hlk dX8_ahead_11 ?_
    exact ⟨⟨_, rfl, ⟨by omega, by omega⟩⟩, hI1, hF1⟩
abbrev rgX8_from : Room := { frames := 6, cells := 0, slots := 0, locals := 171 }
abbrev pgX8_from (z : Nat) (σ : hpMem) (a0 : Int) (a1 : Int) : Option Value → hpMem → Prop := fun r τ => (∃ x : Int, r = some (.int (hpI x)) ∧ (hpR x)) ∧ hpInv τ ∧ (∀ j i : Nat, 169 ≤ j → τ j i = σ j i)
set_option maxHeartbeats 4000000 in
set_option maxRecDepth 20000 in
theorem tgX8_from (l : Launch) (D : va_G) (cy : Nat → ClassId) (z : Nat) (σ : hpMem) (a0 : Int) (ha0 : hpR a0) (a1 : Int) (ha1 : hpR a1) (hI : hpInv σ) : hpM l D cy z yX8_from cX8_from 4 (some .int) rgX8_from [.ref (z + 0), .int (hpI a0), .int (hpI a1)] σ (pgX8_from z σ a0 a1) := by
  obtain ⟨ha01, ha02⟩ := ha0
  obtain ⟨ha11, ha12⟩ := ha1
  refine hp_met rfl (Nat.le_of_ble_eq_true rfl) (fun p e s m below meth c C Z hr hlk => ?_)
  have hF0 : ∀ j i : Nat, 169 ≤ j → σ j i = σ j i := fun j i _ => rfl
  refine h_iload_n C dX8_from_0 2 rfl rfl ?_
  refine h_if_ge (tgt := 9) C dX8_from_1 (by decide) ⟨by omega, by omega⟩ (fun h1 => ?_) (fun h1 => ?_)
  · refine h_aload_n C dX8_from_9 0 rfl rfl ?_
    refine h_iload_n C dX8_from_10 1 rfl rfl ?_
    refine h_callV (As := [.int (hpI a0)]) (rest := []) C Z yyX8_smallRowFault wd_916 (tgX8_smallRowFault l D cy z _ a0 ⟨by omega, by omega⟩ hI) kd_0 rfl rfl ⟨rfl, rfl, Nat.le_of_ble_eq_true rfl, Nat.le_of_ble_eq_true rfl⟩ ⟨Nat.le_of_ble_eq_true rfl, Nat.le_of_ble_eq_true rfl⟩ (Nat.le_of_ble_eq_true rfl) dX8_from_11 (fun r2 τ2 hp2 => ?_)
    obtain ⟨⟨x2, rfl, ⟨hx2a, hx2b⟩, hx2⟩, hI2, hG2⟩ := hp2
    have hF2 : ∀ j i : Nat, 169 ≤ j → τ2 j i = σ j i := fun j i h_0 => (hG2 j i (by omega)).trans (hF0 j i h_0)
    show hpV _ _ _ _ _ _ _ _ _ _ _ _ _ _ _ _ _ _ _ _ _ (_ :: _)
    refine h_istore_n (lv' := [(3, .int (hpI x2)), (0, .ref (z + 0)), (1, .int (hpI a0)), (2, .int (hpI a1))]) C dX8_from_14 rfl (by decide) rfl ?_
    refine h_iload_n C dX8_from_15 0 rfl rfl ?_
    refine h_if_eq (tgt := 21) C dX8_from_16 (by decide) ⟨by omega, by omega⟩ (fun h3 => ?_) (fun h3 => ?_)
    · refine h_aload_n C dX8_from_21 1 rfl rfl ?_
      refine h_aload_n C dX8_from_22 1 rfl rfl ?_
      refine h_get C O8 10 kd_0 (by decide) wd_359 dX8_from_23 fr_0_10 ?_
      refine h_getN C O3 4 kd_164 (by decide) nw_167 dX8_from_26 (hp_fvI (by rw [kd_164]; rfl) rfl) ?_
      obtain ⟨hr4a, hr4b⟩ := hI2.b (bf_3_4 kd_164)
      generalize hg4 : τ2 164 4 = r4 at hr4a hr4b ⊢
      refine h_callV (As := [.int (hpI r4)]) (rest := []) C Z yyX8_everyOf wd_840 (tgX8_everyOf l D cy z _ r4 ⟨by omega, by omega⟩ hI2) kd_0 rfl rfl ⟨rfl, rfl, Nat.le_of_ble_eq_true rfl, Nat.le_of_ble_eq_true rfl⟩ ⟨Nat.le_of_ble_eq_true rfl, Nat.le_of_ble_eq_true rfl⟩ (Nat.le_of_ble_eq_true rfl) dX8_from_29 (fun r5 τ5 hp5 => ?_)
      obtain ⟨rfl, hI5, hG5⟩ := hp5
      have hF5 : ∀ j i : Nat, 169 ≤ j → τ5 j i = σ j i := fun j i h_0 => (hG5 j i (by omega)).trans (hF2 j i h_0)
      show hpV _ _ _ _ _ _ _ _ _ _ _ _ _ _ _ _ _ _ _ _ _ (_ :: _)
      refine h_aload_n C dX8_from_32 1 rfl rfl ?_
      refine h_get C O8 10 kd_0 (by decide) wd_359 dX8_from_33 fr_0_10 ?_
      refine h_iload_n C dX8_from_36 3 rfl rfl ?_
      refine h_callVN (As := [.ref (z + 164), .int (hpI a1)]) (rest := []) C Z yyX0_heapOfFirstComer nw_937 (tgX0_heapOfFirstComer l D cy z _ 164 kd_164 a1 ⟨by omega, by omega⟩ hI5) kd_130 rfl rfl ⟨rfl, rfl, Nat.le_of_ble_eq_true rfl, Nat.le_of_ble_eq_true rfl⟩ ⟨Nat.le_of_ble_eq_true rfl, Nat.le_of_ble_eq_true rfl⟩ (Nat.le_of_ble_eq_true rfl) dX8_from_37 (fun r6 τ6 hp6 => ?_)
      obtain ⟨⟨x6, rfl, ⟨hx6a, hx6b⟩⟩, rfl⟩ := hp6
      show hpV _ _ _ _ _ _ _ _ _ _ _ _ _ _ _ _ _ _ _ _ _ (_ :: _)
      refine h_ireturn C hr hlk dX8_from_40 ?_
      exact ⟨⟨_, rfl, ⟨by omega, by omega⟩⟩, hI5, hF5⟩
    · refine h_iload_n C dX8_from_19 0 rfl rfl ?_
      refine h_ireturn C hr hlk dX8_from_20 ?_
      exact ⟨⟨_, rfl, ⟨by omega, by omega⟩⟩, hI2, hF2⟩
  · refine h_bipush C dX8_from_4 (by decide) ?_
    refine h_goto (tgt := 14) C dX8_from_6 (by decide) ?_
    refine h_istore_n (lv' := [(3, .int (hpI (-2))), (0, .ref (z + 0)), (1, .int (hpI a0)), (2, .int (hpI a1))]) C dX8_from_14 rfl (by decide) rfl ?_
    refine h_iload_n C dX8_from_15 0 rfl rfl ?_
    refine h_if_eq (tgt := 21) C dX8_from_16 (by decide) ⟨by decide, by decide⟩ (fun h7 => ?_) (fun h7 => ?_)
    · exfalso; omega
    · refine h_iload_n C dX8_from_19 0 rfl rfl ?_
      refine h_ireturn C hr hlk dX8_from_20 ?_
      exact ⟨⟨_, rfl, ⟨by decide, by decide⟩⟩, hI, hF0⟩
abbrev rgX8_way : Room := { frames := 6, cells := 0, slots := 0, locals := 171 }
abbrev pgX8_way (z : Nat) (σ : hpMem) (a0 : Int) : Option Value → hpMem → Prop := fun r τ => (∃ x : Int, r = some (.int (hpI x)) ∧ (hpR x)) ∧ hpInv τ ∧ (∀ j i : Nat, 169 ≤ j → τ j i = σ j i)
set_option maxHeartbeats 4000000 in
set_option maxRecDepth 20000 in
theorem tgX8_way (l : Launch) (D : va_G) (cy : Nat → ClassId) (z : Nat) (σ : hpMem) (a0 : Int) (ha0 : hpR a0) (hI : hpInv σ) : hpM l D cy z yX8_way cX8_way 3 (some .int) rgX8_way [.ref (z + 0), .int (hpI a0)] σ (pgX8_way z σ a0) := by
  obtain ⟨ha01, ha02⟩ := ha0
  refine hp_met rfl (Nat.le_of_ble_eq_true rfl) (fun p e s m below meth c C Z hr hlk => ?_)
  have hF0 : ∀ j i : Nat, 169 ≤ j → σ j i = σ j i := fun j i _ => rfl
  refine h_aload_n C dX8_way_0 0 rfl rfl ?_
  refine h_iload_n C dX8_way_1 1 rfl rfl ?_
  refine h_callV (As := [.int (hpI a0)]) (rest := []) C Z yyX8_smallRowFault wd_916 (tgX8_smallRowFault l D cy z _ a0 ⟨by omega, by omega⟩ hI) kd_0 rfl rfl ⟨rfl, rfl, Nat.le_of_ble_eq_true rfl, Nat.le_of_ble_eq_true rfl⟩ ⟨Nat.le_of_ble_eq_true rfl, Nat.le_of_ble_eq_true rfl⟩ (Nat.le_of_ble_eq_true rfl) dX8_way_2 (fun r1 τ1 hp1 => ?_)
  obtain ⟨⟨x1, rfl, ⟨hx1a, hx1b⟩, hx1⟩, hI1, hG1⟩ := hp1
  have hF1 : ∀ j i : Nat, 169 ≤ j → τ1 j i = σ j i := fun j i h_0 => (hG1 j i (by omega)).trans (hF0 j i h_0)
  show hpV _ _ _ _ _ _ _ _ _ _ _ _ _ _ _ _ _ _ _ _ _ (_ :: _)
  refine h_istore_n (lv' := [(2, .int (hpI x1)), (0, .ref (z + 0)), (1, .int (hpI a0))]) C dX8_way_5 rfl (by decide) rfl ?_
  refine h_iload_n C dX8_way_6 0 rfl rfl ?_
  refine h_if_eq (tgt := 12) C dX8_way_7 (by decide) ⟨by omega, by omega⟩ (fun h2 => ?_) (fun h2 => ?_)
  · refine h_aload_n C dX8_way_12 1 rfl rfl ?_
    refine h_aload_n C dX8_way_13 1 rfl rfl ?_
    refine h_get C O8 10 kd_0 (by decide) wd_359 dX8_way_14 fr_0_10 ?_
    refine h_getN C O3 4 kd_164 (by decide) nw_167 dX8_way_17 (hp_fvI (by rw [kd_164]; rfl) rfl) ?_
    obtain ⟨hr3a, hr3b⟩ := hI1.b (bf_3_4 kd_164)
    generalize hg3 : τ1 164 4 = r3 at hr3a hr3b ⊢
    refine h_callV (As := [.int (hpI r3)]) (rest := []) C Z yyX8_everyOf wd_840 (tgX8_everyOf l D cy z _ r3 ⟨by omega, by omega⟩ hI1) kd_0 rfl rfl ⟨rfl, rfl, Nat.le_of_ble_eq_true rfl, Nat.le_of_ble_eq_true rfl⟩ ⟨Nat.le_of_ble_eq_true rfl, Nat.le_of_ble_eq_true rfl⟩ (Nat.le_of_ble_eq_true rfl) dX8_way_20 (fun r4 τ4 hp4 => ?_)
    obtain ⟨rfl, hI4, hG4⟩ := hp4
    have hF4 : ∀ j i : Nat, 169 ≤ j → τ4 j i = σ j i := fun j i h_0 => (hG4 j i (by omega)).trans (hF1 j i h_0)
    show hpV _ _ _ _ _ _ _ _ _ _ _ _ _ _ _ _ _ _ _ _ _ (_ :: _)
    refine h_aload_n C dX8_way_23 1 rfl rfl ?_
    refine h_get C O8 10 kd_0 (by decide) wd_359 dX8_way_24 fr_0_10 ?_
    refine h_callVN (As := [.ref (z + 164)]) (rest := []) C Z yyX0_tailOf nw_945 (tgX0_tailOf l D cy z _ 164 kd_164 hI4) kd_130 rfl rfl ⟨rfl, rfl, Nat.le_of_ble_eq_true rfl, Nat.le_of_ble_eq_true rfl⟩ ⟨Nat.le_of_ble_eq_true rfl, Nat.le_of_ble_eq_true rfl⟩ (Nat.le_of_ble_eq_true rfl) dX8_way_27 (fun r5 τ5 hp5 => ?_)
    obtain ⟨⟨x5, rfl, ⟨hx5a, hx5b⟩⟩, rfl⟩ := hp5
    show hpV _ _ _ _ _ _ _ _ _ _ _ _ _ _ _ _ _ _ _ _ _ (_ :: _)
    refine h_ireturn C hr hlk dX8_way_30 ?_
    exact ⟨⟨_, rfl, ⟨by omega, by omega⟩⟩, hI4, hF4⟩
  · refine h_iload_n C dX8_way_10 0 rfl rfl ?_
    refine h_ireturn C hr hlk dX8_way_11 ?_
    exact ⟨⟨_, rfl, ⟨by omega, by omega⟩⟩, hI1, hF1⟩
abbrev rgX8_bring : Room := { frames := 7, cells := 0, slots := 0, locals := 193 }
abbrev pgX8_bring (z : Nat) (σ : hpMem) (a0 : Int) (a1 : Int) : Option Value → hpMem → Prop := fun r τ => (∃ x : Int, r = some (.int (hpI x)) ∧ (hpR x)) ∧ hpInv τ ∧ (∀ j i : Nat, 169 ≤ j → τ j i = σ j i)
set_option maxHeartbeats 4000000 in
set_option maxRecDepth 20000 in
theorem tgX8_bring (l : Launch) (D : va_G) (cy : Nat → ClassId) (z : Nat) (σ : hpMem) (a0 : Int) (ha0 : hpR a0) (a1 : Int) (ha1 : hpR a1) (hI : hpInv σ) : hpM l D cy z yX8_bring cX8_bring 4 (some .int) rgX8_bring [.ref (z + 0), .int (hpI a0), .int (hpI a1)] σ (pgX8_bring z σ a0 a1) := by
  obtain ⟨ha01, ha02⟩ := ha0
  obtain ⟨ha11, ha12⟩ := ha1
  refine hp_met rfl (Nat.le_of_ble_eq_true rfl) (fun p e s m below meth c C Z hr hlk => ?_)
  have hF0 : ∀ j i : Nat, 169 ≤ j → σ j i = σ j i := fun j i _ => rfl
  refine h_aload_n C dX8_bring_0 0 rfl rfl ?_
  refine h_iload_n C dX8_bring_1 1 rfl rfl ?_
  refine h_callV (As := [.int (hpI a0)]) (rest := []) C Z yyX8_isDayAheadOfLast wd_683 (tgX8_isDayAheadOfLast l D cy z _ a0 ⟨by omega, by omega⟩ hI) kd_0 rfl rfl ⟨rfl, rfl, Nat.le_of_ble_eq_true rfl, Nat.le_of_ble_eq_true rfl⟩ ⟨Nat.le_of_ble_eq_true rfl, Nat.le_of_ble_eq_true rfl⟩ (Nat.le_of_ble_eq_true rfl) dX8_bring_2 (fun r1 τ1 hp1 => ?_)
  obtain ⟨⟨x1, rfl, ⟨hx1a, hx1b⟩, hx1⟩, rfl⟩ := hp1
  show hpV _ _ _ _ _ _ _ _ _ _ _ _ _ _ _ _ _ _ _ _ _ (_ :: _)
  refine h_if_eq (tgt := 18) C dX8_bring_5 (by decide) ⟨by omega, by omega⟩ (fun h2 => ?_) (fun h2 => ?_)
  · refine h_bipush C dX8_bring_18 (by decide) ?_
    refine h_ireturn C hr hlk dX8_bring_20 ?_
    exact ⟨⟨_, rfl, ⟨by decide, by decide⟩⟩, hI, hF0⟩
  · refine h_iload_n C dX8_bring_8 2 rfl rfl ?_
    refine h_if_lt (tgt := 18) C dX8_bring_9 (by decide) ⟨by omega, by omega⟩ (fun h3 => ?_) (fun h3 => ?_)
    · refine h_bipush C dX8_bring_18 (by decide) ?_
      refine h_ireturn C hr hlk dX8_bring_20 ?_
      exact ⟨⟨_, rfl, ⟨by decide, by decide⟩⟩, hI, hF0⟩
    · refine h_iload_n C dX8_bring_12 2 rfl rfl ?_
      refine h_bipush C dX8_bring_13 (by decide) ?_
      refine h_icmp_le (tgt := 21) C dX8_bring_15 (by decide) ⟨by omega, by omega⟩ ⟨by decide, by decide⟩ (fun h4 => ?_) (fun h4 => ?_)
      · refine h_aload_n C dX8_bring_21 0 rfl rfl ?_
        refine h_callV (As := []) (rest := []) C Z yyX8_heapsAtLast wd_953 (tgX8_heapsAtLast l D cy z _ hI) kd_0 rfl rfl ⟨rfl, rfl, Nat.le_of_ble_eq_true rfl, Nat.le_of_ble_eq_true rfl⟩ ⟨Nat.le_of_ble_eq_true rfl, Nat.le_of_ble_eq_true rfl⟩ (Nat.le_of_ble_eq_true rfl) dX8_bring_22 (fun r5 τ5 hp5 => ?_)
        obtain ⟨⟨x5, rfl, ⟨hx5a, hx5b⟩⟩, hI5, hG5⟩ := hp5
        have hF5 : ∀ j i : Nat, 169 ≤ j → τ5 j i = σ j i := fun j i h_0 => (hG5 j i (by omega)).trans (hF0 j i h_0)
        show hpV _ _ _ _ _ _ _ _ _ _ _ _ _ _ _ _ _ _ _ _ _ (_ :: _)
        refine h_iload_n C dX8_bring_25 2 rfl rfl ?_
        refine h_icmp_lt (tgt := 31) C dX8_bring_26 (by decide) ⟨by omega, by omega⟩ ⟨by omega, by omega⟩ (fun h6 => ?_) (fun h6 => ?_)
        · refine h_iconst C dX8_bring_31 ?_
          refine h_istore_n (lv' := [(3, .int (hpI 1)), (0, .ref (z + 0)), (1, .int (hpI a0)), (2, .int (hpI a1))]) C dX8_bring_32 rfl (by decide) rfl ?_
          have L7 : ∀ (n7 : Nat) (τ7 : hpMem) (w7_3 : Int), 1 ≤ w7_3 → w7_3 ≤ 2147483647 → hpInv τ7 → (∀ j i : Nat, 169 ≤ j → τ7 j i = σ j i) → (4294967296 - w7_3) < (n7 : Int) → hpF p l e rgX8_bring s m [.ref (z + 0), .int (hpI a0), .int (hpI a1)] below meth c 4 D cy z (pgX8_bring z σ a0 a1) τ7 33 [(0, .ref (z + 0)), (1, .int (hpI a0)), (2, .int (hpI a1)), (3, .int (hpI w7_3))] [] := by
            intro n7
            induction n7 with
            | zero => intro τ7 w7_3 hv7_0 hv7_1 hI7 hF7 hm7; exfalso; omega
            | succ n7 ih7 =>
              intro τ7 w7_3 hv7_0 hv7_1 hI7 hF7 hm7
              refine h_iload_n C dX8_bring_33 3 rfl rfl ?_
              refine h_bipush C dX8_bring_34 (by decide) ?_
              refine h_icmp_gt (tgt := 57) C dX8_bring_36 (by decide) ⟨by omega, by omega⟩ ⟨by decide, by decide⟩ (fun h8 => ?_) (fun h8 => ?_)
              · refine h_iconst C dX8_bring_57 ?_
                refine h_ireturn C hr hlk dX8_bring_58 ?_
                exact ⟨⟨_, rfl, ⟨by decide, by decide⟩⟩, hI7, hF7⟩
              · refine h_aload_n C dX8_bring_39 0 rfl rfl ?_
                refine h_iload_n C dX8_bring_40 1 rfl rfl ?_
                refine h_iload_n C dX8_bring_41 3 rfl rfl ?_
                refine h_callV (As := [.int (hpI a0), .int (hpI w7_3)]) (rest := []) C Z yyX8_heapsWithMore wd_957 (tgX8_heapsWithMore l D cy z _ a0 ⟨by omega, by omega⟩ w7_3 ⟨by omega, by omega⟩ hI7) kd_0 rfl rfl ⟨rfl, rfl, Nat.le_of_ble_eq_true rfl, Nat.le_of_ble_eq_true rfl⟩ ⟨Nat.le_of_ble_eq_true rfl, Nat.le_of_ble_eq_true rfl⟩ (Nat.le_of_ble_eq_true rfl) dX8_bring_42 (fun r9 τ9 hp9 => ?_)
                obtain ⟨⟨x9, rfl, ⟨hx9a, hx9b⟩⟩, hI9, hG9⟩ := hp9
                have hF9 : ∀ j i : Nat, 169 ≤ j → τ9 j i = σ j i := fun j i h_0 => (hG9 j i (by omega)).trans (hF7 j i h_0)
                show hpV _ _ _ _ _ _ _ _ _ _ _ _ _ _ _ _ _ _ _ _ _ (_ :: _)
                refine h_iload_n C dX8_bring_45 2 rfl rfl ?_
                refine h_icmp_lt (tgt := 51) C dX8_bring_46 (by decide) ⟨by omega, by omega⟩ ⟨by omega, by omega⟩ (fun h10 => ?_) (fun h10 => ?_)
                · refine h_iinc (lv' := [(3, .int (hpI (w7_3 + 1))), (0, .ref (z + 0)), (1, .int (hpI a0)), (2, .int (hpI a1))]) C dX8_bring_51 3 rfl rfl (by decide) rfl ?_
                  refine h_goto (tgt := 33) C dX8_bring_54 (by decide) ?_
                  exact hp_sub [1, 2, 3, 0] rfl (ih7 _ (w7_3 + 1) (by omega) (by omega) hI9 hF9 (by omega))
                · refine h_iload_n C dX8_bring_49 3 rfl rfl ?_
                  refine h_ireturn C hr hlk dX8_bring_50 ?_
                  exact ⟨⟨_, rfl, ⟨by omega, by omega⟩⟩, hI9, hF9⟩
          exact hp_sub [1, 2, 3, 0] rfl (L7 8589934592 _ 1 (by omega) (by omega) hI5 hF5 (by omega))
        · refine h_iconst C dX8_bring_29 ?_
          refine h_ireturn C hr hlk dX8_bring_30 ?_
          exact ⟨⟨_, rfl, ⟨by decide, by decide⟩⟩, hI5, hF5⟩
      · refine h_bipush C dX8_bring_18 (by decide) ?_
        refine h_ireturn C hr hlk dX8_bring_20 ?_
        exact ⟨⟨_, rfl, ⟨by decide, by decide⟩⟩, hI, hF0⟩
abbrev rgX8_latest : Room := { frames := 7, cells := 0, slots := 0, locals := 193 }
abbrev pgX8_latest (z : Nat) (σ : hpMem) (a0 : Int) : Option Value → hpMem → Prop := fun r τ => (∃ x : Int, r = some (.int (hpI x)) ∧ (hpR x)) ∧ hpInv τ ∧ (∀ j i : Nat, 169 ≤ j → τ j i = σ j i)
set_option maxHeartbeats 4000000 in
set_option maxRecDepth 20000 in
theorem tgX8_latest (l : Launch) (D : va_G) (cy : Nat → ClassId) (z : Nat) (σ : hpMem) (a0 : Int) (ha0 : hpR a0) (hI : hpInv σ) : hpM l D cy z yX8_latest cX8_latest 3 (some .int) rgX8_latest [.ref (z + 0), .int (hpI a0)] σ (pgX8_latest z σ a0) := by
  obtain ⟨ha01, ha02⟩ := ha0
  refine hp_met rfl (Nat.le_of_ble_eq_true rfl) (fun p e s m below meth c C Z hr hlk => ?_)
  have hF0 : ∀ j i : Nat, 169 ≤ j → σ j i = σ j i := fun j i _ => rfl
  refine h_aload_n C dX8_latest_0 0 rfl rfl ?_
  refine h_callV (As := []) (rest := []) C Z yyX8_noMoor wd_572 (tgX8_noMoor l D cy z _ hI) kd_0 rfl rfl ⟨rfl, rfl, Nat.le_of_ble_eq_true rfl, Nat.le_of_ble_eq_true rfl⟩ ⟨Nat.le_of_ble_eq_true rfl, Nat.le_of_ble_eq_true rfl⟩ (Nat.le_of_ble_eq_true rfl) dX8_latest_1 (fun r1 τ1 hp1 => ?_)
  obtain ⟨⟨x1, rfl, ⟨hx1a, hx1b⟩⟩, rfl⟩ := hp1
  show hpV _ _ _ _ _ _ _ _ _ _ _ _ _ _ _ _ _ _ _ _ _ (_ :: _)
  refine h_if_ne (tgt := 17) C dX8_latest_4 (by decide) ⟨by omega, by omega⟩ (fun h2 => ?_) (fun h2 => ?_)
  · refine h_bipush C dX8_latest_17 (by decide) ?_
    refine h_ireturn C hr hlk dX8_latest_19 ?_
    exact ⟨⟨_, rfl, ⟨by decide, by decide⟩⟩, hI, hF0⟩
  · refine h_iload_n C dX8_latest_7 1 rfl rfl ?_
    refine h_if_lt (tgt := 17) C dX8_latest_8 (by decide) ⟨by omega, by omega⟩ (fun h3 => ?_) (fun h3 => ?_)
    · refine h_bipush C dX8_latest_17 (by decide) ?_
      refine h_ireturn C hr hlk dX8_latest_19 ?_
      exact ⟨⟨_, rfl, ⟨by decide, by decide⟩⟩, hI, hF0⟩
    · refine h_iload_n C dX8_latest_11 1 rfl rfl ?_
      refine h_bipush C dX8_latest_12 (by decide) ?_
      refine h_icmp_le (tgt := 20) C dX8_latest_14 (by decide) ⟨by omega, by omega⟩ ⟨by decide, by decide⟩ (fun h4 => ?_) (fun h4 => ?_)
      · refine h_aload_n C dX8_latest_20 0 rfl rfl ?_
        refine h_callV (As := []) (rest := []) C Z yyX8_heapsAtLast wd_953 (tgX8_heapsAtLast l D cy z _ hI) kd_0 rfl rfl ⟨rfl, rfl, Nat.le_of_ble_eq_true rfl, Nat.le_of_ble_eq_true rfl⟩ ⟨Nat.le_of_ble_eq_true rfl, Nat.le_of_ble_eq_true rfl⟩ (Nat.le_of_ble_eq_true rfl) dX8_latest_21 (fun r5 τ5 hp5 => ?_)
        obtain ⟨⟨x5, rfl, ⟨hx5a, hx5b⟩⟩, hI5, hG5⟩ := hp5
        have hF5 : ∀ j i : Nat, 169 ≤ j → τ5 j i = σ j i := fun j i h_0 => (hG5 j i (by omega)).trans (hF0 j i h_0)
        show hpV _ _ _ _ _ _ _ _ _ _ _ _ _ _ _ _ _ _ _ _ _ (_ :: _)
        refine h_iload_n C dX8_latest_24 1 rfl rfl ?_
        refine h_icmp_lt (tgt := 30) C dX8_latest_25 (by decide) ⟨by omega, by omega⟩ ⟨by omega, by omega⟩ (fun h6 => ?_) (fun h6 => ?_)
        · refine h_aload_n C dX8_latest_30 0 rfl rfl ?_
          refine h_get C O8 1 kd_0 (by decide) wd_350 dX8_latest_31 fr_0_1 ?_
          refine h_getN C O1 5 kd_3 (by decide) nw_85 dX8_latest_34 (hp_fvI (by rw [kd_3]; rfl) rfl) ?_
          obtain ⟨hr7a, hr7b⟩ := hI5.b (bf_1_5 kd_3)
          generalize hg7 : τ5 3 5 = r7 at hr7a hr7b ⊢
          refine h_iconst C dX8_latest_37 ?_
          refine h_isub C dX8_latest_38 rfl ?_
          refine h_istore_n (lv' := [(2, .int (hpI (r7 - 1))), (0, .ref (z + 0)), (1, .int (hpI a0))]) C dX8_latest_39 rfl (by decide) rfl ?_
          have L8 : ∀ (n8 : Nat) (τ8 : hpMem) (w8_2 : Int), -2147483648 ≤ w8_2 → w8_2 ≤ 15 → hpInv τ8 → (∀ j i : Nat, 169 ≤ j → τ8 j i = σ j i) → (w8_2 + 4294967296) < (n8 : Int) → hpF p l e rgX8_latest s m [.ref (z + 0), .int (hpI a0)] below meth c 3 D cy z (pgX8_latest z σ a0) τ8 40 [(0, .ref (z + 0)), (1, .int (hpI a0)), (2, .int (hpI w8_2))] [] := by
            intro n8
            induction n8 with
            | zero => intro τ8 w8_2 hv8_0 hv8_1 hI8 hF8 hm8; exfalso; omega
            | succ n8 ih8 =>
              intro τ8 w8_2 hv8_0 hv8_1 hI8 hF8 hm8
              refine h_iload_n C dX8_latest_40 2 rfl rfl ?_
              refine h_if_lt (tgt := 63) C dX8_latest_41 (by decide) ⟨by omega, by omega⟩ (fun h9 => ?_) (fun h9 => ?_)
              · refine h_iconst C dX8_latest_63 ?_
                refine h_ireturn C hr hlk dX8_latest_64 ?_
                exact ⟨⟨_, rfl, ⟨by decide, by decide⟩⟩, hI8, hF8⟩
              · refine h_aload_n C dX8_latest_44 0 rfl rfl ?_
                refine h_iload_n C dX8_latest_45 2 rfl rfl ?_
                refine h_bipush C dX8_latest_46 (by decide) ?_
                refine h_callV (As := [.int (hpI w8_2), .int (hpI 20)]) (rest := []) C Z yyX8_heapsWithMore wd_957 (tgX8_heapsWithMore l D cy z _ w8_2 ⟨by omega, by omega⟩ 20 ⟨by decide, by decide⟩ hI8) kd_0 rfl rfl ⟨rfl, rfl, Nat.le_of_ble_eq_true rfl, Nat.le_of_ble_eq_true rfl⟩ ⟨Nat.le_of_ble_eq_true rfl, Nat.le_of_ble_eq_true rfl⟩ (Nat.le_of_ble_eq_true rfl) dX8_latest_48 (fun r10 τ10 hp10 => ?_)
                obtain ⟨⟨x10, rfl, ⟨hx10a, hx10b⟩⟩, hI10, hG10⟩ := hp10
                have hF10 : ∀ j i : Nat, 169 ≤ j → τ10 j i = σ j i := fun j i h_0 => (hG10 j i (by omega)).trans (hF8 j i h_0)
                show hpV _ _ _ _ _ _ _ _ _ _ _ _ _ _ _ _ _ _ _ _ _ (_ :: _)
                refine h_iload_n C dX8_latest_51 1 rfl rfl ?_
                refine h_icmp_lt (tgt := 57) C dX8_latest_52 (by decide) ⟨by omega, by omega⟩ ⟨by omega, by omega⟩ (fun h11 => ?_) (fun h11 => ?_)
                · refine h_iinc (lv' := [(2, .int (hpI (w8_2 + (-1)))), (0, .ref (z + 0)), (1, .int (hpI a0))]) C dX8_latest_57 2 rfl rfl (by decide) rfl ?_
                  refine h_goto (tgt := 40) C dX8_latest_60 (by decide) ?_
                  exact hp_sub [1, 2, 0] rfl (ih8 _ (w8_2 + (-1)) (by omega) (by omega) hI10 hF10 (by omega))
                · refine h_iload_n C dX8_latest_55 2 rfl rfl ?_
                  refine h_ireturn C hr hlk dX8_latest_56 ?_
                  exact ⟨⟨_, rfl, ⟨by omega, by omega⟩⟩, hI10, hF10⟩
          exact hp_sub [1, 2, 0] rfl (L8 8589934592 _ (r7 - 1) (by omega) (by omega) hI5 hF5 (by omega))
        · refine h_iconst C dX8_latest_28 ?_
          refine h_ireturn C hr hlk dX8_latest_29 ?_
          exact ⟨⟨_, rfl, ⟨by decide, by decide⟩⟩, hI5, hF5⟩
      · refine h_bipush C dX8_latest_17 (by decide) ?_
        refine h_ireturn C hr hlk dX8_latest_19 ?_
        exact ⟨⟨_, rfl, ⟨by decide, by decide⟩⟩, hI, hF0⟩
abbrev rgX8_spare : Room := { frames := 7, cells := 0, slots := 0, locals := 193 }
abbrev pgX8_spare (z : Nat) (σ : hpMem) : Option Value → hpMem → Prop := fun r τ => (∃ x : Int, r = some (.int (hpI x)) ∧ (hpR x)) ∧ hpInv τ ∧ (∀ j i : Nat, 169 ≤ j → τ j i = σ j i)
set_option maxHeartbeats 4000000 in
set_option maxRecDepth 20000 in
theorem tgX8_spare (l : Launch) (D : va_G) (cy : Nat → ClassId) (z : Nat) (σ : hpMem) (hI : hpInv σ) : hpM l D cy z yX8_spare cX8_spare 5 (some .int) rgX8_spare [.ref (z + 0)] σ (pgX8_spare z σ) := by
  refine hp_met rfl (Nat.le_of_ble_eq_true rfl) (fun p e s m below meth c C Z hr hlk => ?_)
  have hF0 : ∀ j i : Nat, 169 ≤ j → σ j i = σ j i := fun j i _ => rfl
  refine h_aload_n C dX8_spare_0 0 rfl rfl ?_
  refine h_callV (As := []) (rest := []) C Z yyX8_noMoor wd_572 (tgX8_noMoor l D cy z _ hI) kd_0 rfl rfl ⟨rfl, rfl, Nat.le_of_ble_eq_true rfl, Nat.le_of_ble_eq_true rfl⟩ ⟨Nat.le_of_ble_eq_true rfl, Nat.le_of_ble_eq_true rfl⟩ (Nat.le_of_ble_eq_true rfl) dX8_spare_1 (fun r1 τ1 hp1 => ?_)
  obtain ⟨⟨x1, rfl, ⟨hx1a, hx1b⟩⟩, rfl⟩ := hp1
  show hpV _ _ _ _ _ _ _ _ _ _ _ _ _ _ _ _ _ _ _ _ _ (_ :: _)
  refine h_if_eq (tgt := 10) C dX8_spare_4 (by decide) ⟨by omega, by omega⟩ (fun h2 => ?_) (fun h2 => ?_)
  · refine h_iconst C dX8_spare_10 ?_
    refine h_istore_n (lv' := [(1, .int (hpI (-1))), (0, .ref (z + 0))]) C dX8_spare_11 rfl (by decide) rfl ?_
    refine h_aload_n C dX8_spare_12 1 rfl rfl ?_
    refine h_callV (As := []) (rest := []) C Z yyX8_heapsAtLast wd_953 (tgX8_heapsAtLast l D cy z _ hI) kd_0 rfl rfl ⟨rfl, rfl, Nat.le_of_ble_eq_true rfl, Nat.le_of_ble_eq_true rfl⟩ ⟨Nat.le_of_ble_eq_true rfl, Nat.le_of_ble_eq_true rfl⟩ (Nat.le_of_ble_eq_true rfl) dX8_spare_13 (fun r3 τ3 hp3 => ?_)
    obtain ⟨⟨x3, rfl, ⟨hx3a, hx3b⟩⟩, hI3, hG3⟩ := hp3
    have hF3 : ∀ j i : Nat, 169 ≤ j → τ3 j i = σ j i := fun j i h_0 => (hG3 j i (by omega)).trans (hF0 j i h_0)
    show hpV _ _ _ _ _ _ _ _ _ _ _ _ _ _ _ _ _ _ _ _ _ (_ :: _)
    refine h_istore_n (lv' := [(2, .int (hpI x3)), (1, .int (hpI (-1))), (0, .ref (z + 0))]) C dX8_spare_16 rfl (by decide) rfl ?_
    refine h_iconst C dX8_spare_17 ?_
    refine h_istore_n (lv' := [(3, .int (hpI 0)), (2, .int (hpI x3)), (1, .int (hpI (-1))), (0, .ref (z + 0))]) C dX8_spare_18 rfl (by decide) rfl ?_
    have L4 : ∀ (n4 : Nat) (τ4 : hpMem) (w4_1 : Int) (w4_2 : Int) (w4_3 : Int), -2147483648 ≤ w4_1 → w4_1 ≤ 2147483647 → -2147483648 ≤ w4_2 → w4_2 ≤ 2147483647 → 0 ≤ w4_3 → w4_3 ≤ 2147483647 → hpInv τ4 → (∀ j i : Nat, 169 ≤ j → τ4 j i = σ j i) → (4294967296 - w4_3) < (n4 : Int) → hpF p l e rgX8_spare s m [.ref (z + 0)] below meth c 5 D cy z (pgX8_spare z σ) τ4 19 [(0, .ref (z + 0)), (1, .int (hpI w4_1)), (2, .int (hpI w4_2)), (3, .int (hpI w4_3))] [] := by
      intro n4
      induction n4 with
      | zero => intro τ4 w4_1 w4_2 w4_3 hv4_0 hv4_1 hv4_2 hv4_3 hv4_4 hv4_5 hI4 hF4 hm4; exfalso; omega
      | succ n4 ih4 =>
        intro τ4 w4_1 w4_2 w4_3 hv4_0 hv4_1 hv4_2 hv4_3 hv4_4 hv4_5 hI4 hF4 hm4
        refine h_iload_n C dX8_spare_19 3 rfl rfl ?_
        refine h_aload_n C dX8_spare_20 0 rfl rfl ?_
        refine h_get C O8 1 kd_0 (by decide) wd_350 dX8_spare_21 fr_0_1 ?_
        refine h_getN C O1 10 kd_3 (by decide) nw_103 dX8_spare_24 (hp_fvI (by rw [kd_3]; rfl) rfl) ?_
        obtain ⟨hr5a, hr5b⟩ := hI4.b (bf_1_10 kd_3)
        generalize hg5 : τ4 3 10 = r5 at hr5a hr5b ⊢
        refine h_icmp_ge (tgt := 61) C dX8_spare_27 (by decide) ⟨by omega, by omega⟩ ⟨by omega, by omega⟩ (fun h6 => ?_) (fun h6 => ?_)
        · refine h_iload_n C dX8_spare_61 1 rfl rfl ?_
          refine h_ireturn C hr hlk dX8_spare_62 ?_
          exact ⟨⟨_, rfl, ⟨by omega, by omega⟩⟩, hI4, hF4⟩
        · refine h_aload_n C dX8_spare_30 0 rfl rfl ?_
          refine h_bipush C dX8_spare_31 (by decide) ?_
          refine h_iconst C dX8_spare_33 ?_
          refine h_iload_n C dX8_spare_34 3 rfl rfl ?_
          refine h_ishl_b (mm := 5) (M := 32) C dX8_spare_35 (by omega) (by omega) (by decide +kernel) (fun r7 hr7a hr7b => ?_)
          refine h_iconst C dX8_spare_36 ?_
          refine h_ixor_any C dX8_spare_37 (fun r8 hr8 => ?_)
          obtain ⟨hr8a, hr8b⟩ := hr8
          refine h_iand_l C dX8_spare_38 ⟨by decide, by decide⟩ (by omega) (fun r9 hr9a hr9b => ?_)
          refine h_callV (As := [.int (hpI r9)]) (rest := []) C Z yyX8_heapsWithSet wd_969 (tgX8_heapsWithSet l D cy z _ r9 ⟨by omega, by omega⟩ hI4) kd_0 rfl rfl ⟨rfl, rfl, Nat.le_of_ble_eq_true rfl, Nat.le_of_ble_eq_true rfl⟩ ⟨Nat.le_of_ble_eq_true rfl, Nat.le_of_ble_eq_true rfl⟩ (Nat.le_of_ble_eq_true rfl) dX8_spare_39 (fun r10 τ10 hp10 => ?_)
          obtain ⟨⟨x10, rfl, ⟨hx10a, hx10b⟩⟩, hI10, hG10⟩ := hp10
          have hF10 : ∀ j i : Nat, 169 ≤ j → τ10 j i = σ j i := fun j i h_0 => (hG10 j i (by omega)).trans (hF4 j i h_0)
          show hpV _ _ _ _ _ _ _ _ _ _ _ _ _ _ _ _ _ _ _ _ _ (_ :: _)
          refine h_istore (lv' := [(4, .int (hpI x10)), (0, .ref (z + 0)), (1, .int (hpI w4_1)), (2, .int (hpI w4_2)), (3, .int (hpI w4_3))]) C dX8_spare_42 (by decide) rfl ?_
          refine h_iload C dX8_spare_44 0 rfl ?_
          refine h_iload_n C dX8_spare_46 3 rfl rfl ?_
          refine h_icmp_le (tgt := 55) C dX8_spare_47 (by decide) ⟨by omega, by omega⟩ ⟨by omega, by omega⟩ (fun h11 => ?_) (fun h11 => ?_)
          · refine h_iinc (lv' := [(3, .int (hpI (w4_3 + 1))), (4, .int (hpI x10)), (0, .ref (z + 0)), (1, .int (hpI w4_1)), (2, .int (hpI w4_2))]) C dX8_spare_55 4 rfl rfl (by decide) rfl ?_
            refine h_goto (tgt := 19) C dX8_spare_58 (by decide) ?_
            exact hp_sub [2, 3, 4, 0] rfl (ih4 _ w4_1 w4_2 (w4_3 + 1) (by omega) (by omega) (by omega) (by omega) (by omega) (by omega) hI10 hF10 (by omega))
          · refine h_iload_n C dX8_spare_50 4 rfl rfl ?_
            refine h_istore_n (lv' := [(1, .int (hpI w4_3)), (4, .int (hpI x10)), (0, .ref (z + 0)), (2, .int (hpI w4_2)), (3, .int (hpI w4_3))]) C dX8_spare_51 rfl (by decide) rfl ?_
            refine h_iload C dX8_spare_52 1 rfl ?_
            refine h_istore_n (lv' := [(2, .int (hpI x10)), (1, .int (hpI w4_3)), (4, .int (hpI x10)), (0, .ref (z + 0)), (3, .int (hpI w4_3))]) C dX8_spare_54 rfl (by decide) rfl ?_
            refine h_iinc (lv' := [(3, .int (hpI (w4_3 + 1))), (2, .int (hpI x10)), (1, .int (hpI w4_3)), (4, .int (hpI x10)), (0, .ref (z + 0))]) C dX8_spare_55 4 rfl rfl (by decide) rfl ?_
            refine h_goto (tgt := 19) C dX8_spare_58 (by decide) ?_
            exact hp_sub [4, 2, 1, 0] rfl (ih4 _ w4_3 x10 (w4_3 + 1) (by omega) (by omega) (by omega) (by omega) (by omega) (by omega) hI10 hF10 (by omega))
    exact hp_sub [3, 2, 1, 0] rfl (L4 8589934592 _ (-1) x3 0 (by omega) (by omega) (by omega) (by omega) (by omega) (by omega) hI3 hF3 (by omega))
  · refine h_bipush C dX8_spare_7 (by decide) ?_
    refine h_ireturn C hr hlk dX8_spare_9 ?_
    exact ⟨⟨_, rfl, ⟨by decide, by decide⟩⟩, hI, hF0⟩
abbrev rgX8_laws : Room := { frames := 6, cells := 0, slots := 0, locals := 173 }
abbrev pgX8_laws (z : Nat) (σ : hpMem) (a0 : Int) : Option Value → hpMem → Prop := fun r τ => (∃ x : Int, r = some (.int (hpI x)) ∧ (hpR x)) ∧ hpInv τ ∧ (∀ j i : Nat, 169 ≤ j → τ j i = σ j i)
set_option maxHeartbeats 4000000 in
set_option maxRecDepth 20000 in
theorem tgX8_laws (l : Launch) (D : va_G) (cy : Nat → ClassId) (z : Nat) (σ : hpMem) (a0 : Int) (ha0 : hpR a0) (hI : hpInv σ) : hpM l D cy z yX8_laws cX8_laws 5 (some .int) rgX8_laws [.ref (z + 0), .int (hpI a0)] σ (pgX8_laws z σ a0) := by
  obtain ⟨ha01, ha02⟩ := ha0
  refine hp_met rfl (Nat.le_of_ble_eq_true rfl) (fun p e s m below meth c C Z hr hlk => ?_)
  have hF0 : ∀ j i : Nat, 169 ≤ j → σ j i = σ j i := fun j i _ => rfl
  refine h_aload_n C dX8_laws_0 0 rfl rfl ?_
  refine h_iload_n C dX8_laws_1 1 rfl rfl ?_
  refine h_aload_n C dX8_laws_2 0 rfl rfl ?_
  refine h_callV (As := []) (rest := [.int (hpI a0), .ref (z + 0)]) C Z yyX8_noMoor wd_572 (tgX8_noMoor l D cy z _ hI) kd_0 rfl rfl ⟨rfl, rfl, Nat.le_of_ble_eq_true rfl, Nat.le_of_ble_eq_true rfl⟩ ⟨Nat.le_of_ble_eq_true rfl, Nat.le_of_ble_eq_true rfl⟩ (Nat.le_of_ble_eq_true rfl) dX8_laws_3 (fun r1 τ1 hp1 => ?_)
  obtain ⟨⟨x1, rfl, ⟨hx1a, hx1b⟩⟩, rfl⟩ := hp1
  show hpV _ _ _ _ _ _ _ _ _ _ _ _ _ _ _ _ _ _ _ _ _ (_ :: _)
  refine h_if_ne (tgt := 13) C dX8_laws_6 (by decide) ⟨by omega, by omega⟩ (fun h2 => ?_) (fun h2 => ?_)
  · refine h_iconst C dX8_laws_13 ?_
    refine h_callV (As := [.int (hpI a0), .int (hpI 0)]) (rest := []) C Z yyX8_seenFault wd_977 (tgX8_seenFault l D cy z _ a0 ⟨by omega, by omega⟩ 0 ⟨by decide, by decide⟩ hI) kd_0 rfl rfl ⟨rfl, rfl, Nat.le_of_ble_eq_true rfl, Nat.le_of_ble_eq_true rfl⟩ ⟨Nat.le_of_ble_eq_true rfl, Nat.le_of_ble_eq_true rfl⟩ (Nat.le_of_ble_eq_true rfl) dX8_laws_14 (fun r3 τ3 hp3 => ?_)
    obtain ⟨⟨x3, rfl, ⟨hx3a, hx3b⟩, hx3⟩, rfl⟩ := hp3
    show hpV _ _ _ _ _ _ _ _ _ _ _ _ _ _ _ _ _ _ _ _ _ (_ :: _)
    refine h_istore_n (lv' := [(2, .int (hpI x3)), (0, .ref (z + 0)), (1, .int (hpI a0))]) C dX8_laws_17 rfl (by decide) rfl ?_
    refine h_iload_n C dX8_laws_18 0 rfl rfl ?_
    refine h_if_eq (tgt := 24) C dX8_laws_19 (by decide) ⟨by omega, by omega⟩ (fun h4 => ?_) (fun h4 => ?_)
    · refine h_iconst C dX8_laws_24 ?_
      refine h_istore_n (lv' := [(3, .int (hpI 0)), (2, .int (hpI x3)), (0, .ref (z + 0)), (1, .int (hpI a0))]) C dX8_laws_25 rfl (by decide) rfl ?_
      refine h_iconst C dX8_laws_26 ?_
      refine h_istore (lv' := [(4, .int (hpI 0)), (3, .int (hpI 0)), (2, .int (hpI x3)), (0, .ref (z + 0)), (1, .int (hpI a0))]) C dX8_laws_27 (by decide) rfl ?_
      have L5 : ∀ (n5 : Nat) (τ5 : hpMem) (w5_3 : Int) (w5_4 : Int), -2147483648 ≤ w5_3 → w5_3 ≤ 2147483647 → 0 ≤ w5_4 → w5_4 ≤ 2147483647 → hpInv τ5 → (∀ j i : Nat, 169 ≤ j → τ5 j i = σ j i) → (4294967296 - w5_4) < (n5 : Int) → hpF p l e rgX8_laws s m [.ref (z + 0), .int (hpI a0)] below meth c 5 D cy z (pgX8_laws z σ a0) τ5 29 [(0, .ref (z + 0)), (1, .int (hpI a0)), (2, .int (hpI x3)), (3, .int (hpI w5_3)), (4, .int (hpI w5_4))] [] := by
        intro n5
        induction n5 with
        | zero => intro τ5 w5_3 w5_4 hv5_0 hv5_1 hv5_2 hv5_3 hI5 hF5 hm5; exfalso; omega
        | succ n5 ih5 =>
          intro τ5 w5_3 w5_4 hv5_0 hv5_1 hv5_2 hv5_3 hI5 hF5 hm5
          refine h_iload C dX8_laws_29 4 rfl ?_
          refine h_iconst C dX8_laws_31 ?_
          refine h_icmp_ge (tgt := 71) C dX8_laws_32 (by decide) ⟨by omega, by omega⟩ ⟨by decide, by decide⟩ (fun h6 => ?_) (fun h6 => ?_)
          · refine h_iload_n C dX8_laws_71 3 rfl rfl ?_
            refine h_ireturn C hr hlk dX8_laws_72 ?_
            exact ⟨⟨_, rfl, ⟨by omega, by omega⟩⟩, hI5, hF5⟩
          · refine h_aload_n C dX8_laws_35 0 rfl rfl ?_
            refine h_iload C dX8_laws_36 4 rfl ?_
            refine h_callV (As := [.int (hpI w5_4)]) (rest := []) C Z yyX8_passByLaw wd_1046 (tgX8_passByLaw l D cy z _ w5_4 ⟨by omega, by omega⟩ hI5) kd_0 rfl rfl ⟨rfl, rfl, Nat.le_of_ble_eq_true rfl, Nat.le_of_ble_eq_true rfl⟩ ⟨Nat.le_of_ble_eq_true rfl, Nat.le_of_ble_eq_true rfl⟩ (Nat.le_of_ble_eq_true rfl) dX8_laws_38 (fun r7 τ7 hp7 => ?_)
            obtain ⟨⟨x7, rfl, hx7⟩, hI7, hG7⟩ := hp7
            have hF7 : ∀ j i : Nat, 169 ≤ j → τ7 j i = σ j i := fun j i h_0 => (hG7 j i (by omega)).trans (hF5 j i h_0)
            have hl7 := kb_3 hx7
            show hpV _ _ _ _ _ _ _ _ _ _ _ _ _ _ _ _ _ _ _ _ _ (_ :: _)
            refine h_pop C rfl dX8_laws_41 ?_
            refine h_aload_n C dX8_laws_42 0 rfl rfl ?_
            refine h_get C O8 4 kd_0 (by decide) wd_353 dX8_laws_43 fr_0_4 ?_
            refine h_iload_n C dX8_laws_46 1 rfl rfl ?_
            obtain ⟨q8, eq8⟩ : ∃ q : Nat, q = 187 + 2 * ((a0).toNat) := ⟨_, rfl⟩
            have hq8 : hpkd q8 = 6 := by rw [eq8]; exact rk_16 (by omega)
            refine h_aaload (t0 := 6) (k' := q8) C dX8_laws_47 kd_16 (by decide) (by decide) rfl (a0).toNat (Int.toNat_of_nonneg (by omega)) (by rw [ln_16]; omega) (by rw [eq8]; exact rq_16) ?_
            have hl8 := kb_6 hq8
            refine h_aload_n C dX8_laws_48 0 rfl rfl ?_
            refine h_get C O8 6 kd_0 (by decide) wd_355 dX8_laws_49 fr_0_6 ?_
            refine h_callVN (As := [.ref (z + 70)]) (rest := []) C Z yyX6_tellsOf nw_993 (tgX6_tellsOf l D cy z _ q8 hq8 hI7) hq8 rfl rfl ⟨rfl, rfl, Nat.le_of_ble_eq_true rfl, Nat.le_of_ble_eq_true rfl⟩ ⟨Nat.le_of_ble_eq_true rfl, Nat.le_of_ble_eq_true rfl⟩ (Nat.le_of_ble_eq_true rfl) dX8_laws_52 (fun r9 τ9 hp9 => ?_)
            obtain ⟨⟨x9, rfl, ⟨hx9a, hx9b⟩⟩, rfl⟩ := hp9
            show hpV _ _ _ _ _ _ _ _ _ _ _ _ _ _ _ _ _ _ _ _ _ (_ :: _)
            refine h_if_eq (tgt := 65) C dX8_laws_55 (by decide) ⟨by omega, by omega⟩ (fun h10 => ?_) (fun h10 => ?_)
            · refine h_iinc (lv' := [(4, .int (hpI (w5_4 + 1))), (0, .ref (z + 0)), (1, .int (hpI a0)), (2, .int (hpI x3)), (3, .int (hpI w5_3))]) C dX8_laws_65 4 rfl rfl (by decide) rfl ?_
              refine h_goto (tgt := 29) C dX8_laws_68 (by decide) ?_
              exact hp_sub [1, 2, 3, 4, 0] rfl (ih5 _ w5_3 (w5_4 + 1) (by omega) (by omega) (by omega) (by omega) hI7 hF7 (by omega))
            · refine h_iload_n C dX8_laws_58 3 rfl rfl ?_
              refine h_iconst C dX8_laws_59 ?_
              refine h_iload C dX8_laws_60 4 rfl ?_
              refine h_ishl_b (mm := 3) (M := 8) C dX8_laws_62 (by omega) (by omega) (by decide +kernel) (fun r11 hr11a hr11b => ?_)
              refine h_ior_any C dX8_laws_63 (fun r12 hr12 => ?_)
              obtain ⟨hr12a, hr12b⟩ := hr12
              refine h_istore_n (lv' := [(3, .int (hpI r12)), (0, .ref (z + 0)), (1, .int (hpI a0)), (2, .int (hpI x3)), (4, .int (hpI w5_4))]) C dX8_laws_64 rfl (by decide) rfl ?_
              refine h_iinc (lv' := [(4, .int (hpI (w5_4 + 1))), (3, .int (hpI r12)), (0, .ref (z + 0)), (1, .int (hpI a0)), (2, .int (hpI x3))]) C dX8_laws_65 4 rfl rfl (by decide) rfl ?_
              refine h_goto (tgt := 29) C dX8_laws_68 (by decide) ?_
              exact hp_sub [2, 3, 4, 1, 0] rfl (ih5 _ r12 (w5_4 + 1) (by omega) (by omega) (by omega) (by omega) hI7 hF7 (by omega))
      exact hp_sub [3, 4, 2, 1, 0] rfl (L5 8589934592 _ 0 0 (by omega) (by omega) (by omega) (by omega) hI hF0 (by omega))
    · refine h_iload_n C dX8_laws_22 0 rfl rfl ?_
      refine h_ireturn C hr hlk dX8_laws_23 ?_
      exact ⟨⟨_, rfl, ⟨by omega, by omega⟩⟩, hI, hF0⟩
  · refine h_iconst C dX8_laws_9 ?_
    refine h_goto (tgt := 14) C dX8_laws_10 (by decide) ?_
    refine h_callV (As := [.int (hpI a0), .int (hpI 1)]) (rest := []) C Z yyX8_seenFault wd_977 (tgX8_seenFault l D cy z _ a0 ⟨by omega, by omega⟩ 1 ⟨by decide, by decide⟩ hI) kd_0 rfl rfl ⟨rfl, rfl, Nat.le_of_ble_eq_true rfl, Nat.le_of_ble_eq_true rfl⟩ ⟨Nat.le_of_ble_eq_true rfl, Nat.le_of_ble_eq_true rfl⟩ (Nat.le_of_ble_eq_true rfl) dX8_laws_14 (fun r13 τ13 hp13 => ?_)
    obtain ⟨⟨x13, rfl, ⟨hx13a, hx13b⟩, hx13⟩, rfl⟩ := hp13
    show hpV _ _ _ _ _ _ _ _ _ _ _ _ _ _ _ _ _ _ _ _ _ (_ :: _)
    refine h_istore_n (lv' := [(2, .int (hpI x13)), (0, .ref (z + 0)), (1, .int (hpI a0))]) C dX8_laws_17 rfl (by decide) rfl ?_
    refine h_iload_n C dX8_laws_18 0 rfl rfl ?_
    refine h_if_eq (tgt := 24) C dX8_laws_19 (by decide) ⟨by omega, by omega⟩ (fun h14 => ?_) (fun h14 => ?_)
    · refine h_iconst C dX8_laws_24 ?_
      refine h_istore_n (lv' := [(3, .int (hpI 0)), (2, .int (hpI x13)), (0, .ref (z + 0)), (1, .int (hpI a0))]) C dX8_laws_25 rfl (by decide) rfl ?_
      refine h_iconst C dX8_laws_26 ?_
      refine h_istore (lv' := [(4, .int (hpI 0)), (3, .int (hpI 0)), (2, .int (hpI x13)), (0, .ref (z + 0)), (1, .int (hpI a0))]) C dX8_laws_27 (by decide) rfl ?_
      have L15 : ∀ (n15 : Nat) (τ15 : hpMem) (w15_3 : Int) (w15_4 : Int), -2147483648 ≤ w15_3 → w15_3 ≤ 2147483647 → 0 ≤ w15_4 → w15_4 ≤ 2147483647 → hpInv τ15 → (∀ j i : Nat, 169 ≤ j → τ15 j i = σ j i) → (4294967296 - w15_4) < (n15 : Int) → hpF p l e rgX8_laws s m [.ref (z + 0), .int (hpI a0)] below meth c 5 D cy z (pgX8_laws z σ a0) τ15 29 [(0, .ref (z + 0)), (1, .int (hpI a0)), (2, .int (hpI x13)), (3, .int (hpI w15_3)), (4, .int (hpI w15_4))] [] := by
        intro n15
        induction n15 with
        | zero => intro τ15 w15_3 w15_4 hv15_0 hv15_1 hv15_2 hv15_3 hI15 hF15 hm15; exfalso; omega
        | succ n15 ih15 =>
          intro τ15 w15_3 w15_4 hv15_0 hv15_1 hv15_2 hv15_3 hI15 hF15 hm15
          refine h_iload C dX8_laws_29 4 rfl ?_
          refine h_iconst C dX8_laws_31 ?_
          refine h_icmp_ge (tgt := 71) C dX8_laws_32 (by decide) ⟨by omega, by omega⟩ ⟨by decide, by decide⟩ (fun h16 => ?_) (fun h16 => ?_)
          · refine h_iload_n C dX8_laws_71 3 rfl rfl ?_
            refine h_ireturn C hr hlk dX8_laws_72 ?_
            exact ⟨⟨_, rfl, ⟨by omega, by omega⟩⟩, hI15, hF15⟩
          · refine h_aload_n C dX8_laws_35 0 rfl rfl ?_
            refine h_iload C dX8_laws_36 4 rfl ?_
            refine h_callV (As := [.int (hpI w15_4)]) (rest := []) C Z yyX8_passByLaw wd_1046 (tgX8_passByLaw l D cy z _ w15_4 ⟨by omega, by omega⟩ hI15) kd_0 rfl rfl ⟨rfl, rfl, Nat.le_of_ble_eq_true rfl, Nat.le_of_ble_eq_true rfl⟩ ⟨Nat.le_of_ble_eq_true rfl, Nat.le_of_ble_eq_true rfl⟩ (Nat.le_of_ble_eq_true rfl) dX8_laws_38 (fun r17 τ17 hp17 => ?_)
            obtain ⟨⟨x17, rfl, hx17⟩, hI17, hG17⟩ := hp17
            have hF17 : ∀ j i : Nat, 169 ≤ j → τ17 j i = σ j i := fun j i h_0 => (hG17 j i (by omega)).trans (hF15 j i h_0)
            have hl17 := kb_3 hx17
            show hpV _ _ _ _ _ _ _ _ _ _ _ _ _ _ _ _ _ _ _ _ _ (_ :: _)
            refine h_pop C rfl dX8_laws_41 ?_
            refine h_aload_n C dX8_laws_42 0 rfl rfl ?_
            refine h_get C O8 4 kd_0 (by decide) wd_353 dX8_laws_43 fr_0_4 ?_
            refine h_iload_n C dX8_laws_46 1 rfl rfl ?_
            obtain ⟨q18, eq18⟩ : ∃ q : Nat, q = 187 + 2 * ((a0).toNat) := ⟨_, rfl⟩
            have hq18 : hpkd q18 = 6 := by rw [eq18]; exact rk_16 (by omega)
            refine h_aaload (t0 := 6) (k' := q18) C dX8_laws_47 kd_16 (by decide) (by decide) rfl (a0).toNat (Int.toNat_of_nonneg (by omega)) (by rw [ln_16]; omega) (by rw [eq18]; exact rq_16) ?_
            have hl18 := kb_6 hq18
            refine h_aload_n C dX8_laws_48 0 rfl rfl ?_
            refine h_get C O8 6 kd_0 (by decide) wd_355 dX8_laws_49 fr_0_6 ?_
            refine h_callVN (As := [.ref (z + 70)]) (rest := []) C Z yyX6_tellsOf nw_993 (tgX6_tellsOf l D cy z _ q18 hq18 hI17) hq18 rfl rfl ⟨rfl, rfl, Nat.le_of_ble_eq_true rfl, Nat.le_of_ble_eq_true rfl⟩ ⟨Nat.le_of_ble_eq_true rfl, Nat.le_of_ble_eq_true rfl⟩ (Nat.le_of_ble_eq_true rfl) dX8_laws_52 (fun r19 τ19 hp19 => ?_)
            obtain ⟨⟨x19, rfl, ⟨hx19a, hx19b⟩⟩, rfl⟩ := hp19
            show hpV _ _ _ _ _ _ _ _ _ _ _ _ _ _ _ _ _ _ _ _ _ (_ :: _)
            refine h_if_eq (tgt := 65) C dX8_laws_55 (by decide) ⟨by omega, by omega⟩ (fun h20 => ?_) (fun h20 => ?_)
            · refine h_iinc (lv' := [(4, .int (hpI (w15_4 + 1))), (0, .ref (z + 0)), (1, .int (hpI a0)), (2, .int (hpI x13)), (3, .int (hpI w15_3))]) C dX8_laws_65 4 rfl rfl (by decide) rfl ?_
              refine h_goto (tgt := 29) C dX8_laws_68 (by decide) ?_
              exact hp_sub [1, 2, 3, 4, 0] rfl (ih15 _ w15_3 (w15_4 + 1) (by omega) (by omega) (by omega) (by omega) hI17 hF17 (by omega))
            · refine h_iload_n C dX8_laws_58 3 rfl rfl ?_
              refine h_iconst C dX8_laws_59 ?_
              refine h_iload C dX8_laws_60 4 rfl ?_
              refine h_ishl_b (mm := 3) (M := 8) C dX8_laws_62 (by omega) (by omega) (by decide +kernel) (fun r21 hr21a hr21b => ?_)
              refine h_ior_any C dX8_laws_63 (fun r22 hr22 => ?_)
              obtain ⟨hr22a, hr22b⟩ := hr22
              refine h_istore_n (lv' := [(3, .int (hpI r22)), (0, .ref (z + 0)), (1, .int (hpI a0)), (2, .int (hpI x13)), (4, .int (hpI w15_4))]) C dX8_laws_64 rfl (by decide) rfl ?_
              refine h_iinc (lv' := [(4, .int (hpI (w15_4 + 1))), (3, .int (hpI r22)), (0, .ref (z + 0)), (1, .int (hpI a0)), (2, .int (hpI x13))]) C dX8_laws_65 4 rfl rfl (by decide) rfl ?_
              refine h_goto (tgt := 29) C dX8_laws_68 (by decide) ?_
              exact hp_sub [2, 3, 4, 1, 0] rfl (ih15 _ r22 (w15_4 + 1) (by omega) (by omega) (by omega) (by omega) hI17 hF17 (by omega))
      exact hp_sub [3, 4, 2, 1, 0] rfl (L15 8589934592 _ 0 0 (by omega) (by omega) (by omega) (by omega) hI hF0 (by omega))
    · refine h_iload_n C dX8_laws_22 0 rfl rfl ?_
      refine h_ireturn C hr hlk dX8_laws_23 ?_
      exact ⟨⟨_, rfl, ⟨by omega, by omega⟩⟩, hI, hF0⟩
abbrev rgX8_by : Room := { frames := 6, cells := 0, slots := 0, locals := 173 }
abbrev pgX8_by (z : Nat) (σ : hpMem) (a0 : Int) : Option Value → hpMem → Prop := fun r τ => (∃ x : Int, r = some (.int (hpI x)) ∧ (hpR x)) ∧ hpInv τ ∧ (∀ j i : Nat, 169 ≤ j → τ j i = σ j i)
set_option maxHeartbeats 4000000 in
set_option maxRecDepth 20000 in
theorem tgX8_by (l : Launch) (D : va_G) (cy : Nat → ClassId) (z : Nat) (σ : hpMem) (a0 : Int) (ha0 : hpR a0) (hI : hpInv σ) : hpM l D cy z yX8_by cX8_by 2 (some .int) rgX8_by [.ref (z + 0), .int (hpI a0)] σ (pgX8_by z σ a0) := by
  obtain ⟨ha01, ha02⟩ := ha0
  refine hp_met rfl (Nat.le_of_ble_eq_true rfl) (fun p e s m below meth c C Z hr hlk => ?_)
  have hF0 : ∀ j i : Nat, 169 ≤ j → σ j i = σ j i := fun j i _ => rfl
  refine h_aload_n C dX8_by_0 0 rfl rfl ?_
  refine h_callV (As := []) (rest := []) C Z yyX8_noMoor wd_572 (tgX8_noMoor l D cy z _ hI) kd_0 rfl rfl ⟨rfl, rfl, Nat.le_of_ble_eq_true rfl, Nat.le_of_ble_eq_true rfl⟩ ⟨Nat.le_of_ble_eq_true rfl, Nat.le_of_ble_eq_true rfl⟩ (Nat.le_of_ble_eq_true rfl) dX8_by_1 (fun r1 τ1 hp1 => ?_)
  obtain ⟨⟨x1, rfl, ⟨hx1a, hx1b⟩⟩, rfl⟩ := hp1
  show hpV _ _ _ _ _ _ _ _ _ _ _ _ _ _ _ _ _ _ _ _ _ (_ :: _)
  refine h_if_ne (tgt := 16) C dX8_by_4 (by decide) ⟨by omega, by omega⟩ (fun h2 => ?_) (fun h2 => ?_)
  · refine h_bipush C dX8_by_16 (by decide) ?_
    refine h_ireturn C hr hlk dX8_by_18 ?_
    exact ⟨⟨_, rfl, ⟨by decide, by decide⟩⟩, hI, hF0⟩
  · refine h_iload_n C dX8_by_7 1 rfl rfl ?_
    refine h_if_lt (tgt := 16) C dX8_by_8 (by decide) ⟨by omega, by omega⟩ (fun h3 => ?_) (fun h3 => ?_)
    · refine h_bipush C dX8_by_16 (by decide) ?_
      refine h_ireturn C hr hlk dX8_by_18 ?_
      exact ⟨⟨_, rfl, ⟨by decide, by decide⟩⟩, hI, hF0⟩
    · refine h_iload_n C dX8_by_11 1 rfl rfl ?_
      refine h_iconst C dX8_by_12 ?_
      refine h_icmp_lt (tgt := 19) C dX8_by_13 (by decide) ⟨by omega, by omega⟩ ⟨by decide, by decide⟩ (fun h4 => ?_) (fun h4 => ?_)
      · refine h_aload_n C dX8_by_19 0 rfl rfl ?_
        refine h_iload_n C dX8_by_20 1 rfl rfl ?_
        refine h_callV (As := [.int (hpI a0)]) (rest := []) C Z yyX8_passByLaw wd_1046 (tgX8_passByLaw l D cy z _ a0 ⟨by omega, by omega⟩ hI) kd_0 rfl rfl ⟨rfl, rfl, Nat.le_of_ble_eq_true rfl, Nat.le_of_ble_eq_true rfl⟩ ⟨Nat.le_of_ble_eq_true rfl, Nat.le_of_ble_eq_true rfl⟩ (Nat.le_of_ble_eq_true rfl) dX8_by_21 (fun r5 τ5 hp5 => ?_)
        obtain ⟨⟨x5, rfl, hx5⟩, hI5, hG5⟩ := hp5
        have hF5 : ∀ j i : Nat, 169 ≤ j → τ5 j i = σ j i := fun j i h_0 => (hG5 j i (by omega)).trans (hF0 j i h_0)
        have hl5 := kb_3 hx5
        show hpV _ _ _ _ _ _ _ _ _ _ _ _ _ _ _ _ _ _ _ _ _ (_ :: _)
        refine h_getN C O3 3 hx5 (by decide) nw_164 dX8_by_24 (hp_fvI (by rw [hx5]; rfl) rfl) ?_
        obtain ⟨hr6a, hr6b⟩ := hI5.b (bf_3_3 hx5)
        generalize hg6 : τ5 x5 3 = r6 at hr6a hr6b ⊢
        refine h_ireturn C hr hlk dX8_by_27 ?_
        exact ⟨⟨_, rfl, ⟨by omega, by omega⟩⟩, hI5, hF5⟩
      · refine h_bipush C dX8_by_16 (by decide) ?_
        refine h_ireturn C hr hlk dX8_by_18 ?_
        exact ⟨⟨_, rfl, ⟨by decide, by decide⟩⟩, hI, hF0⟩
abbrev rgX8_law : Room := { frames := 6, cells := 0, slots := 0, locals := 173 }
abbrev pgX8_law (z : Nat) (σ : hpMem) : Option Value → hpMem → Prop := fun r τ => (∃ x : Int, r = some (.int (hpI x)) ∧ (hpR x)) ∧ hpInv τ ∧ (∀ j i : Nat, 169 ≤ j → τ j i = σ j i)
set_option maxHeartbeats 4000000 in
set_option maxRecDepth 20000 in
theorem tgX8_law (l : Launch) (D : va_G) (cy : Nat → ClassId) (z : Nat) (σ : hpMem) (hI : hpInv σ) : hpM l D cy z yX8_law cX8_law 5 (some .int) rgX8_law [.ref (z + 0)] σ (pgX8_law z σ) := by
  refine hp_met rfl (Nat.le_of_ble_eq_true rfl) (fun p e s m below meth c C Z hr hlk => ?_)
  have hF0 : ∀ j i : Nat, 169 ≤ j → σ j i = σ j i := fun j i _ => rfl
  refine h_aload_n C dX8_law_0 0 rfl rfl ?_
  refine h_callV (As := []) (rest := []) C Z yyX8_noMoor wd_572 (tgX8_noMoor l D cy z _ hI) kd_0 rfl rfl ⟨rfl, rfl, Nat.le_of_ble_eq_true rfl, Nat.le_of_ble_eq_true rfl⟩ ⟨Nat.le_of_ble_eq_true rfl, Nat.le_of_ble_eq_true rfl⟩ (Nat.le_of_ble_eq_true rfl) dX8_law_1 (fun r1 τ1 hp1 => ?_)
  obtain ⟨⟨x1, rfl, ⟨hx1a, hx1b⟩⟩, rfl⟩ := hp1
  show hpV _ _ _ _ _ _ _ _ _ _ _ _ _ _ _ _ _ _ _ _ _ (_ :: _)
  refine h_if_eq (tgt := 10) C dX8_law_4 (by decide) ⟨by omega, by omega⟩ (fun h2 => ?_) (fun h2 => ?_)
  · refine h_iconst C dX8_law_10 ?_
    refine h_istore_n (lv' := [(1, .int (hpI 0)), (0, .ref (z + 0))]) C dX8_law_11 rfl (by decide) rfl ?_
    refine h_iconst C dX8_law_12 ?_
    refine h_istore_n (lv' := [(2, .int (hpI (-1))), (1, .int (hpI 0)), (0, .ref (z + 0))]) C dX8_law_13 rfl (by decide) rfl ?_
    refine h_iconst C dX8_law_14 ?_
    refine h_istore_n (lv' := [(3, .int (hpI 0)), (2, .int (hpI (-1))), (1, .int (hpI 0)), (0, .ref (z + 0))]) C dX8_law_15 rfl (by decide) rfl ?_
    have L3 : ∀ (n3 : Nat) (τ3 : hpMem) (w3_1 : Int) (w3_2 : Int) (w3_3 : Int), -2147483648 ≤ w3_1 → w3_1 ≤ 2147483647 → -2147483648 ≤ w3_2 → w3_2 ≤ 2147483647 → 0 ≤ w3_3 → w3_3 ≤ 2147483647 → hpInv τ3 → (∀ j i : Nat, 169 ≤ j → τ3 j i = σ j i) → (4294967296 - w3_3) < (n3 : Int) → hpF p l e rgX8_law s m [.ref (z + 0)] below meth c 5 D cy z (pgX8_law z σ) τ3 16 [(0, .ref (z + 0)), (1, .int (hpI w3_1)), (2, .int (hpI w3_2)), (3, .int (hpI w3_3))] [] := by
      intro n3
      induction n3 with
      | zero => intro τ3 w3_1 w3_2 w3_3 hv3_0 hv3_1 hv3_2 hv3_3 hv3_4 hv3_5 hI3 hF3 hm3; exfalso; omega
      | succ n3 ih3 =>
        intro τ3 w3_1 w3_2 w3_3 hv3_0 hv3_1 hv3_2 hv3_3 hv3_4 hv3_5 hI3 hF3 hm3
        refine h_iload_n C dX8_law_16 3 rfl rfl ?_
        refine h_iconst C dX8_law_17 ?_
        refine h_icmp_ge (tgt := 48) C dX8_law_18 (by decide) ⟨by omega, by omega⟩ ⟨by decide, by decide⟩ (fun h4 => ?_) (fun h4 => ?_)
        · refine h_iload_n C dX8_law_48 1 rfl rfl ?_
          refine h_ireturn C hr hlk dX8_law_49 ?_
          exact ⟨⟨_, rfl, ⟨by omega, by omega⟩⟩, hI3, hF3⟩
        · refine h_aload_n C dX8_law_21 0 rfl rfl ?_
          refine h_iload_n C dX8_law_22 3 rfl rfl ?_
          refine h_callV (As := [.int (hpI w3_3)]) (rest := []) C Z yyX8_passByLaw wd_1046 (tgX8_passByLaw l D cy z _ w3_3 ⟨by omega, by omega⟩ hI3) kd_0 rfl rfl ⟨rfl, rfl, Nat.le_of_ble_eq_true rfl, Nat.le_of_ble_eq_true rfl⟩ ⟨Nat.le_of_ble_eq_true rfl, Nat.le_of_ble_eq_true rfl⟩ (Nat.le_of_ble_eq_true rfl) dX8_law_23 (fun r5 τ5 hp5 => ?_)
          obtain ⟨⟨x5, rfl, hx5⟩, hI5, hG5⟩ := hp5
          have hF5 : ∀ j i : Nat, 169 ≤ j → τ5 j i = σ j i := fun j i h_0 => (hG5 j i (by omega)).trans (hF3 j i h_0)
          have hl5 := kb_3 hx5
          show hpV _ _ _ _ _ _ _ _ _ _ _ _ _ _ _ _ _ _ _ _ _ (_ :: _)
          refine h_getN C O3 3 hx5 (by decide) nw_164 dX8_law_26 (hp_fvI (by rw [hx5]; rfl) rfl) ?_
          obtain ⟨hr6a, hr6b⟩ := hI5.b (bf_3_3 hx5)
          generalize hg6 : τ5 x5 3 = r6 at hr6a hr6b ⊢
          refine h_istore (lv' := [(4, .int (hpI r6)), (0, .ref (z + 0)), (1, .int (hpI w3_1)), (2, .int (hpI w3_2)), (3, .int (hpI w3_3))]) C dX8_law_29 (by decide) rfl ?_
          refine h_iload C dX8_law_31 0 rfl ?_
          refine h_iload_n C dX8_law_33 3 rfl rfl ?_
          refine h_icmp_le (tgt := 42) C dX8_law_34 (by decide) ⟨by omega, by omega⟩ ⟨by omega, by omega⟩ (fun h7 => ?_) (fun h7 => ?_)
          · refine h_iinc (lv' := [(3, .int (hpI (w3_3 + 1))), (4, .int (hpI r6)), (0, .ref (z + 0)), (1, .int (hpI w3_1)), (2, .int (hpI w3_2))]) C dX8_law_42 4 rfl rfl (by decide) rfl ?_
            refine h_goto (tgt := 16) C dX8_law_45 (by decide) ?_
            exact hp_sub [2, 3, 4, 0] rfl (ih3 _ w3_1 w3_2 (w3_3 + 1) (by omega) (by omega) (by omega) (by omega) (by omega) (by omega) hI5 hF5 (by omega))
          · refine h_iload_n C dX8_law_37 4 rfl rfl ?_
            refine h_istore_n (lv' := [(1, .int (hpI w3_3)), (4, .int (hpI r6)), (0, .ref (z + 0)), (2, .int (hpI w3_2)), (3, .int (hpI w3_3))]) C dX8_law_38 rfl (by decide) rfl ?_
            refine h_iload C dX8_law_39 1 rfl ?_
            refine h_istore_n (lv' := [(2, .int (hpI r6)), (1, .int (hpI w3_3)), (4, .int (hpI r6)), (0, .ref (z + 0)), (3, .int (hpI w3_3))]) C dX8_law_41 rfl (by decide) rfl ?_
            refine h_iinc (lv' := [(3, .int (hpI (w3_3 + 1))), (2, .int (hpI r6)), (1, .int (hpI w3_3)), (4, .int (hpI r6)), (0, .ref (z + 0))]) C dX8_law_42 4 rfl rfl (by decide) rfl ?_
            refine h_goto (tgt := 16) C dX8_law_45 (by decide) ?_
            exact hp_sub [4, 2, 1, 0] rfl (ih3 _ w3_3 r6 (w3_3 + 1) (by omega) (by omega) (by omega) (by omega) (by omega) (by omega) hI5 hF5 (by omega))
    exact hp_sub [3, 2, 1, 0] rfl (L3 8589934592 _ 0 (-1) 0 (by omega) (by omega) (by omega) (by omega) (by omega) (by omega) hI hF0 (by omega))
  · refine h_bipush C dX8_law_7 (by decide) ?_
    refine h_ireturn C hr hlk dX8_law_9 ?_
    exact ⟨⟨_, rfl, ⟨by decide, by decide⟩⟩, hI, hF0⟩
abbrev rgX8_worth : Room := { frames := 6, cells := 0, slots := 0, locals := 173 }
abbrev pgX8_worth (z : Nat) (σ : hpMem) (a0 : Int) : Option Value → hpMem → Prop := fun r τ => (∃ x : Int, r = some (.int (hpI x)) ∧ (hpR x)) ∧ hpInv τ ∧ (∀ j i : Nat, 169 ≤ j → τ j i = σ j i)
set_option maxHeartbeats 4000000 in
set_option maxRecDepth 20000 in
theorem tgX8_worth (l : Launch) (D : va_G) (cy : Nat → ClassId) (z : Nat) (σ : hpMem) (a0 : Int) (ha0 : hpR a0) (hI : hpInv σ) : hpM l D cy z yX8_worth cX8_worth 2 (some .int) rgX8_worth [.ref (z + 0), .int (hpI a0)] σ (pgX8_worth z σ a0) := by
  obtain ⟨ha01, ha02⟩ := ha0
  refine hp_met rfl (Nat.le_of_ble_eq_true rfl) (fun p e s m below meth c C Z hr hlk => ?_)
  have hF0 : ∀ j i : Nat, 169 ≤ j → σ j i = σ j i := fun j i _ => rfl
  refine h_aload_n C dX8_worth_0 0 rfl rfl ?_
  refine h_callV (As := []) (rest := []) C Z yyX8_noMoor wd_572 (tgX8_noMoor l D cy z _ hI) kd_0 rfl rfl ⟨rfl, rfl, Nat.le_of_ble_eq_true rfl, Nat.le_of_ble_eq_true rfl⟩ ⟨Nat.le_of_ble_eq_true rfl, Nat.le_of_ble_eq_true rfl⟩ (Nat.le_of_ble_eq_true rfl) dX8_worth_1 (fun r1 τ1 hp1 => ?_)
  obtain ⟨⟨x1, rfl, ⟨hx1a, hx1b⟩⟩, rfl⟩ := hp1
  show hpV _ _ _ _ _ _ _ _ _ _ _ _ _ _ _ _ _ _ _ _ _ (_ :: _)
  refine h_if_ne (tgt := 24) C dX8_worth_4 (by decide) ⟨by omega, by omega⟩ (fun h2 => ?_) (fun h2 => ?_)
  · refine h_bipush C dX8_worth_24 (by decide) ?_
    refine h_ireturn C hr hlk dX8_worth_26 ?_
    exact ⟨⟨_, rfl, ⟨by decide, by decide⟩⟩, hI, hF0⟩
  · refine h_iload_n C dX8_worth_7 1 rfl rfl ?_
    refine h_if_lt (tgt := 24) C dX8_worth_8 (by decide) ⟨by omega, by omega⟩ (fun h3 => ?_) (fun h3 => ?_)
    · refine h_bipush C dX8_worth_24 (by decide) ?_
      refine h_ireturn C hr hlk dX8_worth_26 ?_
      exact ⟨⟨_, rfl, ⟨by decide, by decide⟩⟩, hI, hF0⟩
    · refine h_iload_n C dX8_worth_11 1 rfl rfl ?_
      refine h_iconst C dX8_worth_12 ?_
      refine h_aload_n C dX8_worth_13 0 rfl rfl ?_
      refine h_get C O8 1 kd_0 (by decide) wd_350 dX8_worth_14 fr_0_1 ?_
      refine h_getN C O1 10 kd_3 (by decide) nw_103 dX8_worth_17 (hp_fvI (by rw [kd_3]; rfl) rfl) ?_
      obtain ⟨hr4a, hr4b⟩ := hI.b (bf_1_10 kd_3)
      generalize hg4 : σ 3 10 = r4 at hr4a hr4b ⊢
      refine h_ishl_b (mm := 6) (M := 64) C dX8_worth_20 (by omega) (by omega) (by decide +kernel) (fun r5 hr5a hr5b => ?_)
      refine h_icmp_lt (tgt := 27) C dX8_worth_21 (by decide) ⟨by omega, by omega⟩ ⟨by omega, by omega⟩ (fun h6 => ?_) (fun h6 => ?_)
      · refine h_aload_n C dX8_worth_27 0 rfl rfl ?_
        refine h_iload_n C dX8_worth_28 1 rfl rfl ?_
        refine h_callV (As := [.int (hpI a0)]) (rest := []) C Z yyX8_heapsWithSet wd_969 (tgX8_heapsWithSet l D cy z _ a0 ⟨by omega, by omega⟩ hI) kd_0 rfl rfl ⟨rfl, rfl, Nat.le_of_ble_eq_true rfl, Nat.le_of_ble_eq_true rfl⟩ ⟨Nat.le_of_ble_eq_true rfl, Nat.le_of_ble_eq_true rfl⟩ (Nat.le_of_ble_eq_true rfl) dX8_worth_29 (fun r7 τ7 hp7 => ?_)
        obtain ⟨⟨x7, rfl, ⟨hx7a, hx7b⟩⟩, hI7, hG7⟩ := hp7
        have hF7 : ∀ j i : Nat, 169 ≤ j → τ7 j i = σ j i := fun j i h_0 => (hG7 j i (by omega)).trans (hF0 j i h_0)
        show hpV _ _ _ _ _ _ _ _ _ _ _ _ _ _ _ _ _ _ _ _ _ (_ :: _)
        refine h_ireturn C hr hlk dX8_worth_32 ?_
        exact ⟨⟨_, rfl, ⟨by omega, by omega⟩⟩, hI7, hF7⟩
      · refine h_bipush C dX8_worth_24 (by decide) ?_
        refine h_ireturn C hr hlk dX8_worth_26 ?_
        exact ⟨⟨_, rfl, ⟨by decide, by decide⟩⟩, hI, hF0⟩
abbrev rgX8_factorial : Room := { frames := 0, cells := 0, slots := 0, locals := 0 }
abbrev pgX8_factorial (z : Nat) (σ : hpMem) (a0 : Int) : Option Value → hpMem → Prop := fun r τ => (∃ x : Int, r = some (.int (hpI x)) ∧ (hpR x)) ∧ σ = τ
set_option maxHeartbeats 4000000 in
set_option maxRecDepth 20000 in
theorem tgX8_factorial (l : Launch) (D : va_G) (cy : Nat → ClassId) (z : Nat) (σ : hpMem) (a0 : Int) (ha0 : hpR a0) (hI : hpInv σ) (hn : a0 ≤ 1000) : hpM l D cy z yX8_factorial cX8_factorial 3 (some .int) rgX8_factorial [.int (hpI a0)] σ (pgX8_factorial z σ a0) := by
  obtain ⟨ha01, ha02⟩ := ha0
  refine hp_met rfl (Nat.le_of_ble_eq_true rfl) (fun p e s m below meth c C Z hr hlk => ?_)
  refine h_iconst C dX8_factorial_0 ?_
  refine h_istore_n (lv' := [(1, .int (hpI 1)), (0, .int (hpI a0))]) C dX8_factorial_1 rfl (by decide) rfl ?_
  refine h_iconst C dX8_factorial_2 ?_
  refine h_istore_n (lv' := [(2, .int (hpI 2)), (1, .int (hpI 1)), (0, .int (hpI a0))]) C dX8_factorial_3 rfl (by decide) rfl ?_
  have L1 : ∀ (n1 : Nat) (w1_1 : Int) (w1_2 : Int), -2147483648 ≤ w1_1 → w1_1 ≤ 2147483647 → 2 ≤ w1_2 → w1_2 ≤ 2147483647 → (4294967296 - w1_2) < (n1 : Int) → hpF p l e rgX8_factorial s m [.int (hpI a0)] below meth c 3 D cy z (pgX8_factorial z σ a0) σ 4 [(0, .int (hpI a0)), (1, .int (hpI w1_1)), (2, .int (hpI w1_2))] [] := by
    intro n1
    induction n1 with
    | zero => intro w1_1 w1_2 hv1_0 hv1_1 hv1_2 hv1_3 hm1; exfalso; omega
    | succ n1 ih1 =>
      intro w1_1 w1_2 hv1_0 hv1_1 hv1_2 hv1_3 hm1
      refine h_iload_n C dX8_factorial_4 2 rfl rfl ?_
      refine h_iload_n C dX8_factorial_5 0 rfl rfl ?_
      refine h_icmp_gt (tgt := 19) C dX8_factorial_6 (by decide) ⟨by omega, by omega⟩ ⟨by omega, by omega⟩ (fun h2 => ?_) (fun h2 => ?_)
      · refine h_iload_n C dX8_factorial_19 1 rfl rfl ?_
        refine h_ireturn C hr hlk dX8_factorial_20 ?_
        exact ⟨⟨_, rfl, ⟨by omega, by omega⟩⟩, rfl⟩
      · refine h_iload_n C dX8_factorial_9 1 rfl rfl ?_
        refine h_iload_n C dX8_factorial_10 2 rfl rfl ?_
        refine h_imul C dX8_factorial_11 rfl ?_
        refine hp_anyI (fun r3 hr3 => ?_)
        obtain ⟨hr3a, hr3b⟩ := hr3
        refine h_istore_n (lv' := [(1, .int (hpI r3)), (0, .int (hpI a0)), (2, .int (hpI w1_2))]) C dX8_factorial_12 rfl (by decide) rfl ?_
        refine h_iinc (lv' := [(2, .int (hpI (w1_2 + 1))), (1, .int (hpI r3)), (0, .int (hpI a0))]) C dX8_factorial_13 2 rfl rfl (by decide) rfl ?_
        refine h_goto (tgt := 4) C dX8_factorial_16 (by decide) ?_
        exact hp_sub [2, 1, 0] rfl (ih1 r3 (w1_2 + 1) (by omega) (by omega) (by omega) (by omega) (by omega))
  exact hp_sub [2, 1, 0] rfl (L1 8589934592 1 2 (by omega) (by omega) (by omega) (by omega) (by omega))
abbrev rgX8_commonDivisor : Room := { frames := 0, cells := 0, slots := 0, locals := 0 }
abbrev pgX8_commonDivisor (z : Nat) (σ : hpMem) (a0 : Int) (a1 : Int) : Option Value → hpMem → Prop := fun r τ => (∃ x : Int, r = some (.long (hpJ x)) ∧ (hpRL x)) ∧ σ = τ
set_option maxHeartbeats 4000000 in
set_option maxRecDepth 20000 in
theorem tgX8_commonDivisor (l : Launch) (D : va_G) (cy : Nat → ClassId) (z : Nat) (σ : hpMem) (a0 : Int) (ha0 : hpRL a0) (a1 : Int) (ha1 : hpRL a1) (hI : hpInv σ) : hpM l D cy z yX8_commonDivisor cX8_commonDivisor 11 (some .long) rgX8_commonDivisor [.long (hpJ a0), .long (hpJ a1)] σ (pgX8_commonDivisor z σ a0 a1) := by
  obtain ⟨ha01, ha02⟩ := ha0
  obtain ⟨ha11, ha12⟩ := ha1
  refine hp_met rfl (Nat.le_of_ble_eq_true rfl) (fun p e s m below meth c C Z hr hlk => ?_)
  refine h_lload_n C dX8_commonDivisor_0 0 rfl rfl ?_
  refine h_lstore (lv' := [(4, .long (hpJ a0)), (0, .long (hpJ a0)), (2, .long (hpJ a1))]) C dX8_commonDivisor_1 (by decide) rfl ?_
  refine h_lload_n C dX8_commonDivisor_3 2 rfl rfl ?_
  refine h_lstore (lv' := [(6, .long (hpJ a1)), (4, .long (hpJ a0)), (0, .long (hpJ a0)), (2, .long (hpJ a1))]) C dX8_commonDivisor_4 (by decide) rfl ?_
  refine h_iconst C dX8_commonDivisor_6 ?_
  refine h_istore (lv' := [(8, .int (hpI 0)), (6, .long (hpJ a1)), (4, .long (hpJ a0)), (0, .long (hpJ a0)), (2, .long (hpJ a1))]) C dX8_commonDivisor_7 (by decide) rfl ?_
  have L1 : ∀ (n1 : Nat) (w1_4 : Int) (w1_6 : Int) (w1_8 : Int), -9223372036854775808 ≤ w1_4 → w1_4 ≤ 9223372036854775807 → -9223372036854775808 ≤ w1_6 → w1_6 ≤ 9223372036854775807 → 0 ≤ w1_8 → w1_8 ≤ 2147483647 → (4294967296 - w1_8) < (n1 : Int) → hpF p l e rgX8_commonDivisor s m [.long (hpJ a0), .long (hpJ a1)] below meth c 11 D cy z (pgX8_commonDivisor z σ a0 a1) σ 9 [(0, .long (hpJ a0)), (2, .long (hpJ a1)), (4, .long (hpJ w1_4)), (6, .long (hpJ w1_6)), (8, .int (hpI w1_8))] [] := by
    intro n1
    induction n1 with
    | zero => intro w1_4 w1_6 w1_8 hv1_0 hv1_1 hv1_2 hv1_3 hv1_4 hv1_5 hm1; exfalso; omega
    | succ n1 ih1 =>
      intro w1_4 w1_6 w1_8 hv1_0 hv1_1 hv1_2 hv1_3 hv1_4 hv1_5 hm1
      refine h_iload C dX8_commonDivisor_9 4 rfl ?_
      refine h_sipush C dX8_commonDivisor_11 (by decide) ?_
      refine h_icmp_ge (tgt := 45) C dX8_commonDivisor_14 (by decide) ⟨by omega, by omega⟩ ⟨by decide, by decide⟩ (fun h2 => ?_) (fun h2 => ?_)
      · refine h_lload C dX8_commonDivisor_45 2 rfl ?_
        refine h_lreturn C hr hlk dX8_commonDivisor_47 ?_
        exact ⟨⟨_, rfl, ⟨by omega, by omega⟩⟩, rfl⟩
      · refine h_lload C dX8_commonDivisor_17 3 rfl ?_
        refine h_lconst C 0 dX8_commonDivisor_19 (by decide) ?_
        refine h_lcmp C dX8_commonDivisor_20 ⟨by omega, by omega⟩ ⟨by decide, by decide⟩ (fun r3 hr3 => ?_)
        refine h_if_eq (tgt := 45) C dX8_commonDivisor_21 (by decide) ⟨by omega, by omega⟩ (fun h4 => ?_) (fun h4 => ?_)
        · refine h_lload C dX8_commonDivisor_45 2 rfl ?_
          refine h_lreturn C hr hlk dX8_commonDivisor_47 ?_
          exact ⟨⟨_, rfl, ⟨by omega, by omega⟩⟩, rfl⟩
        · refine h_lload C dX8_commonDivisor_24 2 rfl ?_
          refine h_lload C dX8_commonDivisor_26 3 rfl ?_
          refine h_lrem_any C dX8_commonDivisor_28 ⟨by omega, by omega⟩ (by omega) (fun _ => ?_)
          refine hp_anyL (fun r5 hr5 => ?_)
          obtain ⟨hr5a, hr5b⟩ := hr5
          refine h_lstore (lv' := [(9, .long (hpJ r5)), (0, .long (hpJ a0)), (2, .long (hpJ a1)), (4, .long (hpJ w1_4)), (6, .long (hpJ w1_6)), (8, .int (hpI w1_8))]) C dX8_commonDivisor_29 (by decide) rfl ?_
          refine h_lload C dX8_commonDivisor_31 4 rfl ?_
          refine h_lstore (lv' := [(4, .long (hpJ w1_6)), (9, .long (hpJ r5)), (0, .long (hpJ a0)), (2, .long (hpJ a1)), (6, .long (hpJ w1_6)), (8, .int (hpI w1_8))]) C dX8_commonDivisor_33 (by decide) rfl ?_
          refine h_lload C dX8_commonDivisor_35 1 rfl ?_
          refine h_lstore (lv' := [(6, .long (hpJ r5)), (4, .long (hpJ w1_6)), (9, .long (hpJ r5)), (0, .long (hpJ a0)), (2, .long (hpJ a1)), (8, .int (hpI w1_8))]) C dX8_commonDivisor_37 (by decide) rfl ?_
          refine h_iinc (lv' := [(8, .int (hpI (w1_8 + 1))), (6, .long (hpJ r5)), (4, .long (hpJ w1_6)), (9, .long (hpJ r5)), (0, .long (hpJ a0)), (2, .long (hpJ a1))]) C dX8_commonDivisor_39 5 rfl rfl (by decide) rfl ?_
          refine h_goto (tgt := 9) C dX8_commonDivisor_42 (by decide) ?_
          exact hp_sub [4, 5, 2, 1, 0] rfl (ih1 w1_6 r5 (w1_8 + 1) (by omega) (by omega) (by omega) (by omega) (by omega) (by omega) (by omega))
  exact hp_sub [3, 4, 2, 1, 0] rfl (L1 8589934592 a0 a1 0 (by omega) (by omega) (by omega) (by omega) (by omega) (by omega) (by omega))
abbrev rgX8_fraction : Room := { frames := 1, cells := 0, slots := 0, locals := 30 }
abbrev pgX8_fraction (z : Nat) (σ : hpMem) (a0 : Int) (a1 : Int) (a2 : Int) : Option Value → hpMem → Prop := fun r τ => (∃ x : Int, r = some (.long (hpJ x)) ∧ (hpRL x)) ∧ σ = τ
set_option maxHeartbeats 4000000 in
set_option maxRecDepth 20000 in
theorem tgX8_fraction (l : Launch) (D : va_G) (cy : Nat → ClassId) (z : Nat) (σ : hpMem) (a0 : Int) (ha0 : hpRL a0) (a1 : Int) (ha1 : hpRL a1) (a2 : Int) (ha2 : hpR a2) (hI : hpInv σ) : hpM l D cy z yX8_fraction cX8_fraction 7 (some .long) rgX8_fraction [.long (hpJ a0), .long (hpJ a1), .int (hpI a2)] σ (pgX8_fraction z σ a0 a1 a2) := by
  obtain ⟨ha01, ha02⟩ := ha0
  obtain ⟨ha11, ha12⟩ := ha1
  obtain ⟨ha21, ha22⟩ := ha2
  refine hp_met rfl (Nat.le_of_ble_eq_true rfl) (fun p e s m below meth c C Z hr hlk => ?_)
  refine h_lload_n C dX8_fraction_0 0 rfl rfl ?_
  refine h_mabs C wd_1086 wd_1087 wd_1088 wd_15 dX8_fraction_1 (Nat.le_of_ble_eq_true rfl) (Nat.le_of_ble_eq_true rfl) ⟨Nat.le_of_ble_eq_true rfl, Nat.le_of_ble_eq_true rfl⟩ (fun r1 hr1 => ?_)
  obtain ⟨hr1a, hr1b⟩ := hr1
  refine h_lload_n C dX8_fraction_4 1 rfl rfl ?_
  refine h_callS (As := [.long (hpJ r1), .long (hpJ a1)]) (rest := []) C Z yyX8_commonDivisor rfl wd_1089 (tgX8_commonDivisor l D cy z _ r1 ⟨by omega, by omega⟩ a1 ⟨by omega, by omega⟩ hI) rfl rfl ⟨rfl, rfl, Nat.le_of_ble_eq_true rfl, Nat.le_of_ble_eq_true rfl⟩ ⟨Nat.le_of_ble_eq_true rfl, Nat.le_of_ble_eq_true rfl⟩ (Nat.le_of_ble_eq_true rfl) dX8_fraction_5 (fun r2 τ2 hp2 => ?_)
  obtain ⟨⟨x2, rfl, ⟨hx2a, hx2b⟩⟩, rfl⟩ := hp2
  show hpV _ _ _ _ _ _ _ _ _ _ _ _ _ _ _ _ _ _ _ _ _ (_ :: _)
  refine h_lstore (lv' := [(5, .long (hpJ x2)), (0, .long (hpJ a0)), (2, .long (hpJ a1)), (4, .int (hpI a2))]) C dX8_fraction_8 (by decide) rfl ?_
  refine h_lload C dX8_fraction_10 0 rfl ?_
  refine h_lconst C 1 dX8_fraction_12 (by decide) ?_
  refine h_lcmp C dX8_fraction_13 ⟨by omega, by omega⟩ ⟨by decide, by decide⟩ (fun r3 hr3 => ?_)
  refine h_if_ge (tgt := 28) C dX8_fraction_14 (by decide) ⟨by omega, by omega⟩ (fun h4 => ?_) (fun h4 => ?_)
  · refine h_iload C dX8_fraction_28 3 rfl ?_
    refine h_if_ne (tgt := 40) C dX8_fraction_30 (by decide) ⟨by omega, by omega⟩ (fun h5 => ?_) (fun h5 => ?_)
    · refine h_lload_n C dX8_fraction_40 2 rfl rfl ?_
      refine h_lload C dX8_fraction_41 0 rfl ?_
      refine h_ldiv_any C dX8_fraction_43 ⟨by omega, by omega⟩ (by omega) (fun _ => ?_)
      refine hp_anyL (fun r6 hr6 => ?_)
      obtain ⟨hr6a, hr6b⟩ := hr6
      refine h_lreturn C hr hlk dX8_fraction_44 ?_
      exact ⟨⟨_, rfl, ⟨by omega, by omega⟩⟩, rfl⟩
    · refine h_lload_n C dX8_fraction_33 1 rfl rfl ?_
      refine h_lload C dX8_fraction_34 0 rfl ?_
      refine h_ldiv_any C dX8_fraction_36 ⟨by omega, by omega⟩ (by omega) (fun _ => ?_)
      refine hp_anyL (fun r7 hr7 => ?_)
      obtain ⟨hr7a, hr7b⟩ := hr7
      refine h_goto (tgt := 44) C dX8_fraction_37 (by decide) ?_
      refine h_lreturn C hr hlk dX8_fraction_44 ?_
      exact ⟨⟨_, rfl, ⟨by omega, by omega⟩⟩, rfl⟩
  · refine h_iload C dX8_fraction_17 3 rfl ?_
    refine h_if_ne (tgt := 26) C dX8_fraction_19 (by decide) ⟨by omega, by omega⟩ (fun h8 => ?_) (fun h8 => ?_)
    · refine h_lload_n C dX8_fraction_26 2 rfl rfl ?_
      refine h_lreturn C hr hlk dX8_fraction_27 ?_
      exact ⟨⟨_, rfl, ⟨by omega, by omega⟩⟩, rfl⟩
    · refine h_lload_n C dX8_fraction_22 1 rfl rfl ?_
      refine h_goto (tgt := 27) C dX8_fraction_23 (by decide) ?_
      refine h_lreturn C hr hlk dX8_fraction_27 ?_
      exact ⟨⟨_, rfl, ⟨by omega, by omega⟩⟩, rfl⟩
abbrev rgX8_powerOfTen : Room := { frames := 0, cells := 0, slots := 0, locals := 0 }
abbrev pgX8_powerOfTen (z : Nat) (σ : hpMem) (a0 : Int) : Option Value → hpMem → Prop := fun r τ => (∃ x : Int, r = some (.long (hpJ x)) ∧ (hpRL x)) ∧ σ = τ
set_option maxHeartbeats 4000000 in
set_option maxRecDepth 20000 in
theorem tgX8_powerOfTen (l : Launch) (D : va_G) (cy : Nat → ClassId) (z : Nat) (σ : hpMem) (a0 : Int) (ha0 : hpR a0) (hI : hpInv σ) : hpM l D cy z yX8_powerOfTen cX8_powerOfTen 4 (some .long) rgX8_powerOfTen [.int (hpI a0)] σ (pgX8_powerOfTen z σ a0) := by
  obtain ⟨ha01, ha02⟩ := ha0
  refine hp_met rfl (Nat.le_of_ble_eq_true rfl) (fun p e s m below meth c C Z hr hlk => ?_)
  refine h_lconst C 1 dX8_powerOfTen_0 (by decide) ?_
  refine h_lstore_n (lv' := [(1, .long (hpJ 1)), (0, .int (hpI a0))]) C dX8_powerOfTen_1 rfl (by decide) rfl ?_
  refine h_iconst C dX8_powerOfTen_2 ?_
  refine h_istore_n (lv' := [(3, .int (hpI 0)), (1, .long (hpJ 1)), (0, .int (hpI a0))]) C dX8_powerOfTen_3 rfl (by decide) rfl ?_
  have L1 : ∀ (n1 : Nat) (w1_1 : Int) (w1_3 : Int), -9223372036854775808 ≤ w1_1 → w1_1 ≤ 9223372036854775807 → 0 ≤ w1_3 → w1_3 ≤ 2147483647 → (4294967296 - w1_3) < (n1 : Int) → hpF p l e rgX8_powerOfTen s m [.int (hpI a0)] below meth c 4 D cy z (pgX8_powerOfTen z σ a0) σ 4 [(0, .int (hpI a0)), (1, .long (hpJ w1_1)), (3, .int (hpI w1_3))] [] := by
    intro n1
    induction n1 with
    | zero => intro w1_1 w1_3 hv1_0 hv1_1 hv1_2 hv1_3 hm1; exfalso; omega
    | succ n1 ih1 =>
      intro w1_1 w1_3 hv1_0 hv1_1 hv1_2 hv1_3 hm1
      refine h_iload_n C dX8_powerOfTen_4 2 rfl rfl ?_
      refine h_iload_n C dX8_powerOfTen_5 0 rfl rfl ?_
      refine h_icmp_ge (tgt := 21) C dX8_powerOfTen_6 (by decide) ⟨by omega, by omega⟩ ⟨by omega, by omega⟩ (fun h2 => ?_) (fun h2 => ?_)
      · refine h_lload_n C dX8_powerOfTen_21 1 rfl rfl ?_
        refine h_lreturn C hr hlk dX8_powerOfTen_22 ?_
        exact ⟨⟨_, rfl, ⟨by omega, by omega⟩⟩, rfl⟩
      · refine h_lload_n C dX8_powerOfTen_9 1 rfl rfl ?_
        refine h_ldc2 C 10 wd_1161 (by decide) dX8_powerOfTen_10 ?_
        refine h_lmul C dX8_powerOfTen_13 rfl ?_
        refine hp_anyL (fun r3 hr3 => ?_)
        obtain ⟨hr3a, hr3b⟩ := hr3
        refine h_lstore_n (lv' := [(1, .long (hpJ r3)), (0, .int (hpI a0)), (3, .int (hpI w1_3))]) C dX8_powerOfTen_14 rfl (by decide) rfl ?_
        refine h_iinc (lv' := [(3, .int (hpI (w1_3 + 1))), (1, .long (hpJ r3)), (0, .int (hpI a0))]) C dX8_powerOfTen_15 2 rfl rfl (by decide) rfl ?_
        refine h_goto (tgt := 4) C dX8_powerOfTen_18 (by decide) ?_
        exact hp_sub [2, 1, 0] rfl (ih1 r3 (w1_3 + 1) (by omega) (by omega) (by omega) (by omega) (by omega))
  exact hp_sub [2, 1, 0] rfl (L1 8589934592 1 0 (by omega) (by omega) (by omega) (by omega) (by omega))
abbrev rgX8_countOf : Room := { frames := 1, cells := 0, slots := 0, locals := 20 }
abbrev pgX8_countOf (z : Nat) (σ : hpMem) (a0 : Int) (a1 : Int) : Option Value → hpMem → Prop := fun r τ => (∃ x : Int, r = some (.int (hpI x)) ∧ (hpR x)) ∧ σ = τ
set_option maxHeartbeats 4000000 in
set_option maxRecDepth 20000 in
theorem tgX8_countOf (l : Launch) (D : va_G) (cy : Nat → ClassId) (z : Nat) (σ : hpMem) (a0 : Int) (ha0 : hpR a0) (a1 : Int) (ha1 : hpR a1) (hI : hpInv σ) : hpM l D cy z yX8_countOf cX8_countOf 2 (some .int) rgX8_countOf [.int (hpI a0), .int (hpI a1)] σ (pgX8_countOf z σ a0 a1) := by
  obtain ⟨ha01, ha02⟩ := ha0
  obtain ⟨ha11, ha12⟩ := ha1
  refine hp_met rfl (Nat.le_of_ble_eq_true rfl) (fun p e s m below meth c C Z hr hlk => ?_)
  refine h_iload_n C dX8_countOf_0 1 rfl rfl ?_
  refine h_iconst C dX8_countOf_1 ?_
  refine h_icmp_ne (tgt := 9) C dX8_countOf_2 (by decide) ⟨by omega, by omega⟩ ⟨by decide, by decide⟩ (fun h1 => ?_) (fun h1 => ?_)
  · refine h_iload_n C dX8_countOf_9 0 rfl rfl ?_
    refine h_iload_n C dX8_countOf_10 1 rfl rfl ?_
    refine h_icmp_lt (tgt := 18) C dX8_countOf_11 (by decide) ⟨by omega, by omega⟩ ⟨by omega, by omega⟩ (fun h2 => ?_) (fun h2 => ?_)
    · refine h_iconst C dX8_countOf_18 ?_
      refine h_callS (As := [.int (hpI 0)]) (rest := []) C Z yyX8_asNumber rfl wd_742 (tgX8_asNumber l D cy z _ 0 ⟨by decide, by decide⟩ hI) rfl rfl ⟨rfl, rfl, Nat.le_of_ble_eq_true rfl, Nat.le_of_ble_eq_true rfl⟩ ⟨Nat.le_of_ble_eq_true rfl, Nat.le_of_ble_eq_true rfl⟩ (Nat.le_of_ble_eq_true rfl) dX8_countOf_19 (fun r3 τ3 hp3 => ?_)
      obtain ⟨⟨x3, rfl, ⟨hx3a, hx3b⟩, hx3⟩, rfl⟩ := hp3
      show hpV _ _ _ _ _ _ _ _ _ _ _ _ _ _ _ _ _ _ _ _ _ (_ :: _)
      refine h_ireturn C hr hlk dX8_countOf_22 ?_
      exact ⟨⟨_, rfl, ⟨by omega, by omega⟩⟩, rfl⟩
    · refine h_iconst C dX8_countOf_14 ?_
      refine h_goto (tgt := 19) C dX8_countOf_15 (by decide) ?_
      refine h_callS (As := [.int (hpI 1)]) (rest := []) C Z yyX8_asNumber rfl wd_742 (tgX8_asNumber l D cy z _ 1 ⟨by decide, by decide⟩ hI) rfl rfl ⟨rfl, rfl, Nat.le_of_ble_eq_true rfl, Nat.le_of_ble_eq_true rfl⟩ ⟨Nat.le_of_ble_eq_true rfl, Nat.le_of_ble_eq_true rfl⟩ (Nat.le_of_ble_eq_true rfl) dX8_countOf_19 (fun r4 τ4 hp4 => ?_)
      obtain ⟨⟨x4, rfl, ⟨hx4a, hx4b⟩, hx4⟩, rfl⟩ := hp4
      show hpV _ _ _ _ _ _ _ _ _ _ _ _ _ _ _ _ _ _ _ _ _ (_ :: _)
      refine h_ireturn C hr hlk dX8_countOf_22 ?_
      exact ⟨⟨_, rfl, ⟨by omega, by omega⟩⟩, rfl⟩
  · refine h_iload_n C dX8_countOf_5 0 rfl rfl ?_
    refine h_goto (tgt := 22) C dX8_countOf_6 (by decide) ?_
    refine h_ireturn C hr hlk dX8_countOf_22 ?_
    exact ⟨⟨_, rfl, ⟨by omega, by omega⟩⟩, rfl⟩
abbrev rgX8_weightOf : Room := { frames := 0, cells := 0, slots := 0, locals := 0 }
abbrev pgX8_weightOf (z : Nat) (σ : hpMem) (a0 : Int) (a1 : Int) : Option Value → hpMem → Prop := fun r τ => (∃ x : Int, r = some (.long (hpJ x)) ∧ (hpRL x)) ∧ σ = τ
set_option maxHeartbeats 4000000 in
set_option maxRecDepth 20000 in
theorem tgX8_weightOf (l : Launch) (D : va_G) (cy : Nat → ClassId) (z : Nat) (σ : hpMem) (a0 : Int) (ha0 : hpR a0) (a1 : Int) (ha1 : hpR a1) (hI : hpInv σ) : hpM l D cy z yX8_weightOf cX8_weightOf 6 (some .long) rgX8_weightOf [.ref (z + 0), .int (hpI a0), .int (hpI a1)] σ (pgX8_weightOf z σ a0 a1) := by
  obtain ⟨ha01, ha02⟩ := ha0
  obtain ⟨ha11, ha12⟩ := ha1
  refine hp_met rfl (Nat.le_of_ble_eq_true rfl) (fun p e s m below meth c C Z hr hlk => ?_)
  refine h_lconst C 1 dX8_weightOf_0 (by decide) ?_
  refine h_lstore_n (lv' := [(3, .long (hpJ 1)), (0, .ref (z + 0)), (1, .int (hpI a0)), (2, .int (hpI a1))]) C dX8_weightOf_1 rfl (by decide) rfl ?_
  refine h_iconst C dX8_weightOf_2 ?_
  refine h_istore (lv' := [(5, .int (hpI 0)), (3, .long (hpJ 1)), (0, .ref (z + 0)), (1, .int (hpI a0)), (2, .int (hpI a1))]) C dX8_weightOf_3 (by decide) rfl ?_
  have L1 : ∀ (n1 : Nat) (w1_3 : Int) (w1_5 : Int), -9223372036854775808 ≤ w1_3 → w1_3 ≤ 9223372036854775807 → 0 ≤ w1_5 → w1_5 ≤ 2147483647 → (4294967296 - w1_5) < (n1 : Int) → hpF p l e rgX8_weightOf s m [.ref (z + 0), .int (hpI a0), .int (hpI a1)] below meth c 6 D cy z (pgX8_weightOf z σ a0 a1) σ 5 [(0, .ref (z + 0)), (1, .int (hpI a0)), (2, .int (hpI a1)), (3, .long (hpJ w1_3)), (5, .int (hpI w1_5))] [] := by
    intro n1
    induction n1 with
    | zero => intro w1_3 w1_5 hv1_0 hv1_1 hv1_2 hv1_3 hm1; exfalso; omega
    | succ n1 ih1 =>
      intro w1_3 w1_5 hv1_0 hv1_1 hv1_2 hv1_3 hm1
      refine h_iload C dX8_weightOf_5 4 rfl ?_
      refine h_iload_n C dX8_weightOf_7 2 rfl rfl ?_
      refine h_icmp_ge (tgt := 48) C dX8_weightOf_8 (by decide) ⟨by omega, by omega⟩ ⟨by omega, by omega⟩ (fun h2 => ?_) (fun h2 => ?_)
      · refine h_lload_n C dX8_weightOf_48 3 rfl rfl ?_
        refine h_lreturn C hr hlk dX8_weightOf_49 ?_
        exact ⟨⟨_, rfl, ⟨by omega, by omega⟩⟩, rfl⟩
      · refine h_lload_n C dX8_weightOf_11 3 rfl rfl ?_
        refine h_iload C dX8_weightOf_12 4 rfl ?_
        refine h_iload_n C dX8_weightOf_14 1 rfl rfl ?_
        refine h_icmp_ge (tgt := 29) C dX8_weightOf_15 (by decide) ⟨by omega, by omega⟩ ⟨by omega, by omega⟩ (fun h3 => ?_) (fun h3 => ?_)
        · refine h_bipush C dX8_weightOf_29 (by decide) ?_
          refine h_aload_n C dX8_weightOf_31 0 rfl rfl ?_
          refine h_get C O8 1 kd_0 (by decide) wd_350 dX8_weightOf_32 fr_0_1 ?_
          refine h_getN C O1 7 kd_3 (by decide) nw_92 dX8_weightOf_35 (hp_fvI (by rw [kd_3]; rfl) rfl) ?_
          obtain ⟨hr4a, hr4b⟩ := hI.b (bf_1_7 kd_3)
          generalize hg4 : σ 3 7 = r4 at hr4a hr4b ⊢
          refine h_isub C dX8_weightOf_38 rfl ?_
          refine hp_anyI (fun r5 hr5 => ?_)
          obtain ⟨hr5a, hr5b⟩ := hr5
          refine h_i2l C dX8_weightOf_39 ⟨by omega, by omega⟩ ?_
          refine h_lmul C dX8_weightOf_40 rfl ?_
          refine hp_anyL (fun r6 hr6 => ?_)
          obtain ⟨hr6a, hr6b⟩ := hr6
          refine h_lstore_n (lv' := [(3, .long (hpJ r6)), (0, .ref (z + 0)), (1, .int (hpI a0)), (2, .int (hpI a1)), (5, .int (hpI w1_5))]) C dX8_weightOf_41 rfl (by decide) rfl ?_
          refine h_iinc (lv' := [(5, .int (hpI (w1_5 + 1))), (3, .long (hpJ r6)), (0, .ref (z + 0)), (1, .int (hpI a0)), (2, .int (hpI a1))]) C dX8_weightOf_42 4 rfl rfl (by decide) rfl ?_
          refine h_goto (tgt := 5) C dX8_weightOf_45 (by decide) ?_
          exact hp_sub [2, 3, 4, 1, 0] rfl (ih1 r6 (w1_5 + 1) (by omega) (by omega) (by omega) (by omega) (by omega))
        · refine h_aload_n C dX8_weightOf_18 0 rfl rfl ?_
          refine h_get C O8 1 kd_0 (by decide) wd_350 dX8_weightOf_19 fr_0_1 ?_
          refine h_getN C O1 7 kd_3 (by decide) nw_92 dX8_weightOf_22 (hp_fvI (by rw [kd_3]; rfl) rfl) ?_
          obtain ⟨hr7a, hr7b⟩ := hI.b (bf_1_7 kd_3)
          generalize hg7 : σ 3 7 = r7 at hr7a hr7b ⊢
          refine h_i2l C dX8_weightOf_25 ⟨by omega, by omega⟩ ?_
          refine h_goto (tgt := 40) C dX8_weightOf_26 (by decide) ?_
          refine h_lmul C dX8_weightOf_40 rfl ?_
          refine hp_anyL (fun r8 hr8 => ?_)
          obtain ⟨hr8a, hr8b⟩ := hr8
          refine h_lstore_n (lv' := [(3, .long (hpJ r8)), (0, .ref (z + 0)), (1, .int (hpI a0)), (2, .int (hpI a1)), (5, .int (hpI w1_5))]) C dX8_weightOf_41 rfl (by decide) rfl ?_
          refine h_iinc (lv' := [(5, .int (hpI (w1_5 + 1))), (3, .long (hpJ r8)), (0, .ref (z + 0)), (1, .int (hpI a0)), (2, .int (hpI a1))]) C dX8_weightOf_42 4 rfl rfl (by decide) rfl ?_
          refine h_goto (tgt := 5) C dX8_weightOf_45 (by decide) ?_
          exact hp_sub [2, 3, 4, 1, 0] rfl (ih1 r8 (w1_5 + 1) (by omega) (by omega) (by omega) (by omega) (by omega))
  exact hp_sub [2, 3, 4, 1, 0] rfl (L1 8589934592 1 0 (by omega) (by omega) (by omega) (by omega) (by omega))
abbrev rgX8_wetDays : Room := { frames := 0, cells := 0, slots := 0, locals := 0 }
abbrev pgX8_wetDays (z : Nat) (σ : hpMem) (a0 : Int) : Option Value → hpMem → Prop := fun r τ => (∃ x : Int, r = some (.int (hpI x)) ∧ (hpR x)) ∧ σ = τ
set_option maxHeartbeats 4000000 in
set_option maxRecDepth 20000 in
theorem tgX8_wetDays (l : Launch) (D : va_G) (cy : Nat → ClassId) (z : Nat) (σ : hpMem) (a0 : Int) (ha0 : hpRL a0) (hI : hpInv σ) : hpM l D cy z yX8_wetDays cX8_wetDays 7 (some .int) rgX8_wetDays [.ref (z + 0), .long (hpJ a0)] σ (pgX8_wetDays z σ a0) := by
  obtain ⟨ha01, ha02⟩ := ha0
  refine hp_met rfl (Nat.le_of_ble_eq_true rfl) (fun p e s m below meth c C Z hr hlk => ?_)
  refine h_lload_n C dX8_wetDays_0 1 rfl rfl ?_
  refine h_lstore_n (lv' := [(3, .long (hpJ a0)), (0, .ref (z + 0)), (1, .long (hpJ a0))]) C dX8_wetDays_1 rfl (by decide) rfl ?_
  refine h_iconst C dX8_wetDays_2 ?_
  refine h_istore (lv' := [(5, .int (hpI 0)), (3, .long (hpJ a0)), (0, .ref (z + 0)), (1, .long (hpJ a0))]) C dX8_wetDays_3 (by decide) rfl ?_
  refine h_iconst C dX8_wetDays_5 ?_
  refine h_istore (lv' := [(6, .int (hpI 0)), (5, .int (hpI 0)), (3, .long (hpJ a0)), (0, .ref (z + 0)), (1, .long (hpJ a0))]) C dX8_wetDays_6 (by decide) rfl ?_
  have L1 : ∀ (n1 : Nat) (w1_3 : Int) (w1_5 : Int) (w1_6 : Int), -9223372036854775808 ≤ w1_3 → w1_3 ≤ 9223372036854775807 → -2147483648 ≤ w1_5 → w1_5 ≤ 2147483647 → 0 ≤ w1_6 → w1_6 ≤ 2147483647 → (4294967296 - w1_6) < (n1 : Int) → hpF p l e rgX8_wetDays s m [.ref (z + 0), .long (hpJ a0)] below meth c 7 D cy z (pgX8_wetDays z σ a0) σ 8 [(0, .ref (z + 0)), (1, .long (hpJ a0)), (3, .long (hpJ w1_3)), (5, .int (hpI w1_5)), (6, .int (hpI w1_6))] [] := by
    intro n1
    induction n1 with
    | zero => intro w1_3 w1_5 w1_6 hv1_0 hv1_1 hv1_2 hv1_3 hv1_4 hv1_5 hm1; exfalso; omega
    | succ n1 ih1 =>
      intro w1_3 w1_5 w1_6 hv1_0 hv1_1 hv1_2 hv1_3 hv1_4 hv1_5 hm1
      refine h_iload C dX8_wetDays_8 4 rfl ?_
      refine h_aload_n C dX8_wetDays_10 0 rfl rfl ?_
      refine h_get C O8 1 kd_0 (by decide) wd_350 dX8_wetDays_11 fr_0_1 ?_
      refine h_getN C O1 5 kd_3 (by decide) nw_85 dX8_wetDays_14 (hp_fvI (by rw [kd_3]; rfl) rfl) ?_
      obtain ⟨hr2a, hr2b⟩ := hI.b (bf_1_5 kd_3)
      generalize hg2 : σ 3 5 = r2 at hr2a hr2b ⊢
      refine h_icmp_ge (tgt := 70) C dX8_wetDays_17 (by decide) ⟨by omega, by omega⟩ ⟨by omega, by omega⟩ (fun h3 => ?_) (fun h3 => ?_)
      · refine h_iload C dX8_wetDays_70 3 rfl ?_
        refine h_ireturn C hr hlk dX8_wetDays_72 ?_
        exact ⟨⟨_, rfl, ⟨by omega, by omega⟩⟩, rfl⟩
      · refine h_ldc2 C 1103515245 wd_1195 (by decide) dX8_wetDays_20 ?_
        refine h_lload_n C dX8_wetDays_23 2 rfl rfl ?_
        refine h_lmul C dX8_wetDays_24 rfl ?_
        refine hp_anyL (fun r4 hr4 => ?_)
        obtain ⟨hr4a, hr4b⟩ := hr4
        refine h_ldc2 C 12345 wd_1196 (by decide) dX8_wetDays_25 ?_
        refine h_ladd C dX8_wetDays_28 rfl ?_
        refine hp_anyL (fun r5 hr5 => ?_)
        obtain ⟨hr5a, hr5b⟩ := hr5
        refine h_ldc2 C 2147483647 wd_1197 (by decide) dX8_wetDays_29 ?_
        refine h_land_any C dX8_wetDays_32 (fun r6 hr6 => ?_)
        obtain ⟨hr6a, hr6b⟩ := hr6
        refine h_lstore_n (lv' := [(3, .long (hpJ r6)), (0, .ref (z + 0)), (1, .long (hpJ a0)), (5, .int (hpI w1_5)), (6, .int (hpI w1_6))]) C dX8_wetDays_33 rfl (by decide) rfl ?_
        refine h_lload_n C dX8_wetDays_34 0 rfl rfl ?_
        refine h_ldc2 C 65536 wd_1198 (by decide) dX8_wetDays_35 ?_
        refine h_ldiv_any C dX8_wetDays_38 ⟨by omega, by omega⟩ (by omega) (fun _ => ?_)
        refine hp_anyL (fun r7 hr7 => ?_)
        obtain ⟨hr7a, hr7b⟩ := hr7
        refine h_ldc2 C 10 wd_1161 (by decide) dX8_wetDays_39 ?_
        refine h_lrem_any C dX8_wetDays_42 ⟨by omega, by omega⟩ (by omega) (fun _ => ?_)
        refine hp_anyL (fun r8 hr8 => ?_)
        obtain ⟨hr8a, hr8b⟩ := hr8
        refine h_aload_n C dX8_wetDays_43 1 rfl rfl ?_
        refine h_get C O8 1 kd_0 (by decide) wd_350 dX8_wetDays_44 fr_0_1 ?_
        refine h_getN C O1 7 kd_3 (by decide) nw_92 dX8_wetDays_47 (hp_fvI (by rw [kd_3]; rfl) rfl) ?_
        obtain ⟨hr9a, hr9b⟩ := hI.b (bf_1_7 kd_3)
        generalize hg9 : σ 3 7 = r9 at hr9a hr9b ⊢
        refine h_i2l C dX8_wetDays_50 ⟨by omega, by omega⟩ ?_
        refine h_lcmp C dX8_wetDays_51 ⟨by omega, by omega⟩ ⟨by omega, by omega⟩ (fun r10 hr10 => ?_)
        refine h_if_ge (tgt := 64) C dX8_wetDays_52 (by decide) ⟨by omega, by omega⟩ (fun h11 => ?_) (fun h11 => ?_)
        · refine h_iinc (lv' := [(6, .int (hpI (w1_6 + 1))), (3, .long (hpJ r6)), (0, .ref (z + 0)), (1, .long (hpJ a0)), (5, .int (hpI w1_5))]) C dX8_wetDays_64 4 rfl rfl (by decide) rfl ?_
          refine h_goto (tgt := 8) C dX8_wetDays_67 (by decide) ?_
          exact hp_sub [2, 3, 1, 4, 0] rfl (ih1 r6 w1_5 (w1_6 + 1) (by omega) (by omega) (by omega) (by omega) (by omega) (by omega) (by omega))
        · refine h_iload C dX8_wetDays_55 3 rfl ?_
          refine h_iconst C dX8_wetDays_57 ?_
          refine h_iload C dX8_wetDays_58 4 rfl ?_
          refine h_ishl_b (mm := 15) (M := 32768) C dX8_wetDays_60 (by omega) (by omega) (by decide +kernel) (fun r12 hr12a hr12b => ?_)
          refine h_ior_any C dX8_wetDays_61 (fun r13 hr13 => ?_)
          obtain ⟨hr13a, hr13b⟩ := hr13
          refine h_istore (lv' := [(5, .int (hpI r13)), (3, .long (hpJ r6)), (0, .ref (z + 0)), (1, .long (hpJ a0)), (6, .int (hpI w1_6))]) C dX8_wetDays_62 (by decide) rfl ?_
          refine h_iinc (lv' := [(6, .int (hpI (w1_6 + 1))), (5, .int (hpI r13)), (3, .long (hpJ r6)), (0, .ref (z + 0)), (1, .long (hpJ a0))]) C dX8_wetDays_64 4 rfl rfl (by decide) rfl ?_
          refine h_goto (tgt := 8) C dX8_wetDays_67 (by decide) ?_
          exact hp_sub [3, 4, 2, 1, 0] rfl (ih1 r6 r13 (w1_6 + 1) (by omega) (by omega) (by omega) (by omega) (by omega) (by omega) (by omega))
  exact hp_sub [3, 4, 2, 1, 0] rfl (L1 8589934592 a0 0 0 (by omega) (by omega) (by omega) (by omega) (by omega) (by omega) (by omega))
abbrev rgX8_passChoice : Room := { frames := 4, cells := 0, slots := 0, locals := 130 }
abbrev pgX8_passChoice (z : Nat) (σ : hpMem) (a0 : Int) (a1 : Int) (a2 : Int) : Option Value → hpMem → Prop := fun r τ => r = none ∧ hpInv τ ∧ (∀ j i : Nat, 169 ≤ j → τ j i = σ j i)
set_option maxHeartbeats 4000000 in
set_option maxRecDepth 20000 in
theorem tgX8_passChoice (l : Launch) (D : va_G) (cy : Nat → ClassId) (z : Nat) (σ : hpMem) (a0 : Int) (ha0 : hpR a0) (a1 : Int) (ha1 : hpR a1) (a2 : Int) (ha2 : hpR a2) (hI : hpInv σ) (hl0 : a2 ≤ 16) : hpM l D cy z yX8_passChoice cX8_passChoice 5 none rgX8_passChoice [.ref (z + 0), .int (hpI a0), .int (hpI a1), .int (hpI a2)] σ (pgX8_passChoice z σ a0 a1 a2) := by
  obtain ⟨ha01, ha02⟩ := ha0
  obtain ⟨ha11, ha12⟩ := ha1
  obtain ⟨ha21, ha22⟩ := ha2
  refine hp_met rfl (Nat.le_of_ble_eq_true rfl) (fun p e s m below meth c C Z hr hlk => ?_)
  have hF0 : ∀ j i : Nat, 169 ≤ j → σ j i = σ j i := fun j i _ => rfl
  refine h_iload_n C dX8_passChoice_0 2 rfl rfl ?_
  refine h_istore (lv' := [(4, .int (hpI a1)), (0, .ref (z + 0)), (1, .int (hpI a0)), (2, .int (hpI a1)), (3, .int (hpI a2))]) C dX8_passChoice_1 (by decide) rfl ?_
  have L1 : ∀ (n1 : Nat) (τ1 : hpMem) (w1_4 : Int), -2147483648 ≤ w1_4 → w1_4 ≤ 2147483647 → hpInv τ1 → (∀ j i : Nat, 169 ≤ j → τ1 j i = σ j i) → (4294967296 - w1_4) < (n1 : Int) → hpF p l e rgX8_passChoice s m [.ref (z + 0), .int (hpI a0), .int (hpI a1), .int (hpI a2)] below meth c 5 D cy z (pgX8_passChoice z σ a0 a1 a2) τ1 3 [(0, .ref (z + 0)), (1, .int (hpI a0)), (2, .int (hpI a1)), (3, .int (hpI a2)), (4, .int (hpI w1_4))] [] := by
    intro n1
    induction n1 with
    | zero => intro τ1 w1_4 hv1_0 hv1_1 hI1 hF1 hm1; exfalso; omega
    | succ n1 ih1 =>
      intro τ1 w1_4 hv1_0 hv1_1 hI1 hF1 hm1
      refine h_iload C dX8_passChoice_3 4 rfl ?_
      refine h_iload_n C dX8_passChoice_5 3 rfl rfl ?_
      refine h_icmp_gt (tgt := 46) C dX8_passChoice_6 (by decide) ⟨by omega, by omega⟩ ⟨by omega, by omega⟩ (fun h2 => ?_) (fun h2 => ?_)
      · refine h_return C hr hlk dX8_passChoice_46 ?_
        exact ⟨rfl, hI1, hF1⟩
      · refine h_aload_n C dX8_passChoice_9 0 rfl rfl ?_
        refine h_get C O8 6 kd_0 (by decide) wd_355 dX8_passChoice_10 fr_0_6 ?_
        refine h_iload_n C dX8_passChoice_13 1 rfl rfl ?_
        refine h_iload_n C dX8_passChoice_14 3 rfl rfl ?_
        refine h_iload C dX8_passChoice_15 4 rfl ?_
        refine h_isub C dX8_passChoice_17 rfl ?_
        refine hp_anyI (fun r3 hr3 => ?_)
        obtain ⟨hr3a, hr3b⟩ := hr3
        refine h_ishr_any C dX8_passChoice_18 (fun r4 hr4 => ?_)
        obtain ⟨hr4a, hr4b⟩ := hr4
        refine h_iconst C dX8_passChoice_19 ?_
        refine h_iand_r C dX8_passChoice_20 ⟨by decide, by decide⟩ (by omega) (fun r5 hr5a hr5b => ?_)
        refine h_iload C dX8_passChoice_21 4 rfl ?_
        refine h_ishl_any C dX8_passChoice_23 (fun r6 hr6 => ?_)
        obtain ⟨hr6a, hr6b⟩ := hr6
        refine h_putN C O4 4 kd_70 (by decide) rfl nw_187 dX8_passChoice_24 rfl rfl (hp_fvI (by rw [kd_70]; rfl) hpu_at) ?_
        obtain ⟨τ7, e7⟩ : ∃ μ : hpMem, μ = hpw τ1 70 4 r6 := ⟨_, rfl⟩
        rw [← e7]
        have hI7 : hpInv τ7 := by rw [e7]; exact hI1.w (bf_4_4 kd_70) (by omega) (by omega)
        have hF7 : ∀ j i : Nat, 169 ≤ j → τ7 j i = σ j i := fun j i h_0 => by rw [e7]; exact (hpw_fr (by omega)).trans (hF1 j i h_0)
        have hg8 : τ7 70 4 = r6 := by rw [e7]; exact hpw_eq
        refine h_aload_n C dX8_passChoice_27 0 rfl rfl ?_
        refine h_get C O8 6 kd_0 (by decide) wd_355 dX8_passChoice_28 fr_0_6 ?_
        refine h_aload_n C dX8_passChoice_31 0 rfl rfl ?_
        refine h_get C O8 1 kd_0 (by decide) wd_350 dX8_passChoice_32 fr_0_1 ?_
        refine h_iload C dX8_passChoice_35 4 rfl ?_
        refine h_callVN (As := [.ref (z + 3), .int (hpI w1_4)]) (rest := []) C Z yyX4_next nw_1154 (tgX4_next l D cy z _ 70 kd_70 w1_4 ⟨by omega, by omega⟩ hI7) kd_70 rfl rfl ⟨rfl, rfl, Nat.le_of_ble_eq_true rfl, Nat.le_of_ble_eq_true rfl⟩ ⟨Nat.le_of_ble_eq_true rfl, Nat.le_of_ble_eq_true rfl⟩ (Nat.le_of_ble_eq_true rfl) dX8_passChoice_37 (fun r9 τ9 hp9 => ?_)
        obtain ⟨rfl, hI9, hG9⟩ := hp9
        have hF9 : ∀ j i : Nat, 169 ≤ j → τ9 j i = σ j i := fun j i h_0 => (hG9 j i (by omega)).trans (hF7 j i h_0)
        show hpV _ _ _ _ _ _ _ _ _ _ _ _ _ _ _ _ _ _ _ _ _ []
        refine h_iinc (lv' := [(4, .int (hpI (w1_4 + 1))), (0, .ref (z + 0)), (1, .int (hpI a0)), (2, .int (hpI a1)), (3, .int (hpI a2))]) C dX8_passChoice_40 4 rfl rfl (by decide) rfl ?_
        refine h_goto (tgt := 3) C dX8_passChoice_43 (by decide) ?_
        exact hp_sub [1, 2, 3, 4, 0] rfl (ih1 _ (w1_4 + 1) (by omega) (by omega) hI9 hF9 (by omega))
  exact hp_sub [1, 2, 3, 4, 0] rfl (L1 8589934592 _ a1 (by omega) (by omega) hI hF0 (by omega))
abbrev rgX8_weighHeaps : Room := { frames := 5, cells := 0, slots := 0, locals := 154 }
abbrev pgX8_weighHeaps (z : Nat) (σ : hpMem) (a0 : Int) (a1 : Int) : Option Value → hpMem → Prop := fun r τ => (∃ x : Int, r = some (.long (hpJ x)) ∧ (hpRL x)) ∧ hpInv τ ∧ (∀ j i : Nat, 169 ≤ j → τ j i = σ j i)
set_option maxHeartbeats 4000000 in
set_option maxRecDepth 20000 in
theorem tgX8_weighHeaps (l : Launch) (D : va_G) (cy : Nat → ClassId) (z : Nat) (σ : hpMem) (a0 : Int) (ha0 : hpR a0) (a1 : Int) (ha1 : hpR a1) (hI : hpInv σ) (hd0 : a0 ≤ 7) : hpM l D cy z yX8_weighHeaps cX8_weighHeaps 10 (some .long) rgX8_weighHeaps [.ref (z + 0), .int (hpI a0), .int (hpI a1)] σ (pgX8_weighHeaps z σ a0 a1) := by
  obtain ⟨ha01, ha02⟩ := ha0
  obtain ⟨ha11, ha12⟩ := ha1
  refine hp_met rfl (Nat.le_of_ble_eq_true rfl) (fun p e s m below meth c C Z hr hlk => ?_)
  have hF0 : ∀ j i : Nat, 169 ≤ j → σ j i = σ j i := fun j i _ => rfl
  refine h_aload_n C dX8_weighHeaps_0 0 rfl rfl ?_
  refine h_get C O8 6 kd_0 (by decide) wd_355 dX8_weighHeaps_1 fr_0_6 ?_
  refine h_aload_n C dX8_weighHeaps_4 0 rfl rfl ?_
  refine h_get C O8 1 kd_0 (by decide) wd_350 dX8_weighHeaps_5 fr_0_1 ?_
  refine h_callVN (As := [.ref (z + 3)]) (rest := []) C Z yyX4_asTold nw_580 (tgX4_asTold l D cy z _ 70 kd_70 hI) kd_70 rfl rfl ⟨rfl, rfl, Nat.le_of_ble_eq_true rfl, Nat.le_of_ble_eq_true rfl⟩ ⟨Nat.le_of_ble_eq_true rfl, Nat.le_of_ble_eq_true rfl⟩ (Nat.le_of_ble_eq_true rfl) dX8_weighHeaps_8 (fun r1 τ1 hp1 => ?_)
  obtain ⟨rfl, hI1, hG1⟩ := hp1
  have hF1 : ∀ j i : Nat, 169 ≤ j → τ1 j i = σ j i := fun j i h_0 => (hG1 j i (by omega)).trans (hF0 j i h_0)
  show hpV _ _ _ _ _ _ _ _ _ _ _ _ _ _ _ _ _ _ _ _ _ []
  refine h_aload_n C dX8_weighHeaps_11 0 rfl rfl ?_
  refine h_get C O8 6 kd_0 (by decide) wd_355 dX8_weighHeaps_12 fr_0_6 ?_
  refine h_aload_n C dX8_weighHeaps_15 0 rfl rfl ?_
  refine h_get C O8 1 kd_0 (by decide) wd_350 dX8_weighHeaps_16 fr_0_1 ?_
  refine h_callVN (As := [.ref (z + 3)]) (rest := []) C Z yyX4_begin nw_1144 (tgX4_begin l D cy z _ 70 kd_70 hI1) kd_70 rfl rfl ⟨rfl, rfl, Nat.le_of_ble_eq_true rfl, Nat.le_of_ble_eq_true rfl⟩ ⟨Nat.le_of_ble_eq_true rfl, Nat.le_of_ble_eq_true rfl⟩ (Nat.le_of_ble_eq_true rfl) dX8_weighHeaps_19 (fun r2 τ2 hp2 => ?_)
  obtain ⟨rfl, hI2, hG2⟩ := hp2
  have hF2 : ∀ j i : Nat, 169 ≤ j → τ2 j i = σ j i := fun j i h_0 => (hG2 j i (by omega)).trans (hF1 j i h_0)
  show hpV _ _ _ _ _ _ _ _ _ _ _ _ _ _ _ _ _ _ _ _ _ []
  refine h_lconst C 0 dX8_weighHeaps_22 (by decide) ?_
  refine h_lstore_n (lv' := [(3, .long (hpJ 0)), (0, .ref (z + 0)), (1, .int (hpI a0)), (2, .int (hpI a1))]) C dX8_weighHeaps_23 rfl (by decide) rfl ?_
  refine h_iconst C dX8_weighHeaps_24 ?_
  refine h_istore (lv' := [(5, .int (hpI 0)), (3, .long (hpJ 0)), (0, .ref (z + 0)), (1, .int (hpI a0)), (2, .int (hpI a1))]) C dX8_weighHeaps_25 (by decide) rfl ?_
  refine h_iconst C dX8_weighHeaps_27 ?_
  refine h_istore (lv' := [(6, .int (hpI 0)), (5, .int (hpI 0)), (3, .long (hpJ 0)), (0, .ref (z + 0)), (1, .int (hpI a0)), (2, .int (hpI a1))]) C dX8_weighHeaps_28 (by decide) rfl ?_
  have L3 : ∀ (n3 : Nat) (τ3 : hpMem) (w3_3 : Int) (w3_5 : Int) (w3_6 : Int), -9223372036854775808 ≤ w3_3 → w3_3 ≤ 9223372036854775807 → -2147483648 ≤ w3_5 → w3_5 ≤ 2147483647 → 0 ≤ w3_6 → w3_6 ≤ 2147483647 → hpInv τ3 → (∀ j i : Nat, 169 ≤ j → τ3 j i = σ j i) → (4294967296 - w3_6) < (n3 : Int) → hpF p l e rgX8_weighHeaps s m [.ref (z + 0), .int (hpI a0), .int (hpI a1)] below meth c 10 D cy z (pgX8_weighHeaps z σ a0 a1) τ3 30 [(0, .ref (z + 0)), (1, .int (hpI a0)), (2, .int (hpI a1)), (3, .long (hpJ w3_3)), (5, .int (hpI w3_5)), (6, .int (hpI w3_6))] [] := by
    intro n3
    induction n3 with
    | zero => intro τ3 w3_3 w3_5 w3_6 hv3_0 hv3_1 hv3_2 hv3_3 hv3_4 hv3_5 hI3 hF3 hm3; exfalso; omega
    | succ n3 ih3 =>
      intro τ3 w3_3 w3_5 w3_6 hv3_0 hv3_1 hv3_2 hv3_3 hv3_4 hv3_5 hI3 hF3 hm3
      refine h_iload C dX8_weighHeaps_30 5 rfl ?_
      refine h_iconst C dX8_weighHeaps_32 ?_
      refine h_iload_n C dX8_weighHeaps_33 1 rfl rfl ?_
      refine h_ishl_any C dX8_weighHeaps_34 (fun r4 hr4 => ?_)
      obtain ⟨hr4a, hr4b⟩ := hr4
      refine h_icmp_ge (tgt := 135) C dX8_weighHeaps_35 (by decide) ⟨by omega, by omega⟩ ⟨by omega, by omega⟩ (fun h5 => ?_) (fun h5 => ?_)
      · refine h_lload_n C dX8_weighHeaps_135 3 rfl rfl ?_
        refine h_lreturn C hr hlk dX8_weighHeaps_136 ?_
        exact ⟨⟨_, rfl, ⟨by omega, by omega⟩⟩, hI3, hF3⟩
      · refine h_iload C dX8_weighHeaps_38 5 rfl ?_
        refine h_if_ne (tgt := 47) C dX8_weighHeaps_40 (by decide) ⟨by omega, by omega⟩ (fun h6 => ?_) (fun h6 => ?_)
        · refine h_iload_n C dX8_weighHeaps_47 1 rfl rfl ?_
          refine h_iload C dX8_weighHeaps_48 5 rfl ?_
          refine h_iconst C dX8_weighHeaps_50 ?_
          refine h_isub C dX8_weighHeaps_51 rfl ?_
          refine h_iload C dX8_weighHeaps_52 5 rfl ?_
          refine h_iconst C dX8_weighHeaps_54 ?_
          refine h_ixor_any C dX8_weighHeaps_55 (fun r7 hr7 => ?_)
          obtain ⟨hr7a, hr7b⟩ := hr7
          refine h_iand_l C dX8_weighHeaps_56 ⟨by omega, by omega⟩ (by omega) (fun r8 hr8a hr8b => ?_)
          refine h_callG (As := [.int (hpI r8)]) (rest := [.int (hpI a0)]) C Z yyJ6_bitCount_0f7a4 wd_1074 (jdJ6_bitCount_0f7a4 l D cy z _ r8) rfl rfl ⟨rfl, rfl, Nat.le_of_ble_eq_true rfl, Nat.le_of_ble_eq_true rfl⟩ ⟨Nat.le_of_ble_eq_true rfl, Nat.le_of_ble_eq_true rfl⟩ (Nat.le_of_ble_eq_true rfl) dX8_weighHeaps_57 (fun r9 τ9 hp9 => ?_)
          obtain ⟨⟨x9, rfl, hx9a, hx9b⟩, rfl⟩ := hp9
          show hpV _ _ _ _ _ _ _ _ _ _ _ _ _ _ _ _ _ _ _ _ _ (_ :: _)
          refine h_isub C dX8_weighHeaps_60 rfl ?_
          refine hp_anyI (fun r10 hr10 => ?_)
          obtain ⟨hr10a, hr10b⟩ := hr10
          refine h_istore (lv' := [(7, .int (hpI r10)), (0, .ref (z + 0)), (1, .int (hpI a0)), (2, .int (hpI a1)), (3, .long (hpJ w3_3)), (5, .int (hpI w3_5)), (6, .int (hpI w3_6))]) C dX8_weighHeaps_61 (by decide) rfl ?_
          refine h_iload C dX8_weighHeaps_63 5 rfl ?_
          refine h_iload C dX8_weighHeaps_65 0 rfl ?_
          refine h_mmin C wd_1145 wd_514 wd_515 wd_15 dX8_weighHeaps_67 ⟨by omega, by omega⟩ ⟨by omega, by omega⟩ (Nat.le_of_ble_eq_true rfl) (Nat.le_of_ble_eq_true rfl) ⟨Nat.le_of_ble_eq_true rfl, Nat.le_of_ble_eq_true rfl⟩ (fun r11 hr11a hr11b hr11c => ?_)
          refine h_istore (lv' := [(5, .int (hpI r11)), (7, .int (hpI r10)), (0, .ref (z + 0)), (1, .int (hpI a0)), (2, .int (hpI a1)), (3, .long (hpJ w3_3)), (6, .int (hpI w3_6))]) C dX8_weighHeaps_70 (by decide) rfl ?_
          refine h_aload_n C dX8_weighHeaps_72 2 rfl rfl ?_
          refine h_iload C dX8_weighHeaps_73 6 rfl ?_
          refine h_callG (As := [.int (hpI w3_6)]) (rest := [.ref (z + 0)]) C Z yyJ6_bitCount_0f7a4 wd_1074 (jdJ6_bitCount_0f7a4 l D cy z _ w3_6) rfl rfl ⟨rfl, rfl, Nat.le_of_ble_eq_true rfl, Nat.le_of_ble_eq_true rfl⟩ ⟨Nat.le_of_ble_eq_true rfl, Nat.le_of_ble_eq_true rfl⟩ (Nat.le_of_ble_eq_true rfl) dX8_weighHeaps_75 (fun r12 τ12 hp12 => ?_)
          obtain ⟨⟨x12, rfl, hx12a, hx12b⟩, rfl⟩ := hp12
          show hpV _ _ _ _ _ _ _ _ _ _ _ _ _ _ _ _ _ _ _ _ _ (_ :: _)
          refine h_iload_n C dX8_weighHeaps_78 3 rfl rfl ?_
          refine h_iconst C dX8_weighHeaps_79 ?_
          refine h_iadd C dX8_weighHeaps_80 rfl ?_
          refine h_callV (As := [.int (hpI x12), .int (hpI (a0 + 1))]) (rest := []) C Z yyX8_weightOf wd_1146 (tgX8_weightOf l D cy z _ x12 ⟨by omega, by omega⟩ (a0 + 1) ⟨by omega, by omega⟩ hI3) kd_0 rfl rfl ⟨rfl, rfl, Nat.le_of_ble_eq_true rfl, Nat.le_of_ble_eq_true rfl⟩ ⟨Nat.le_of_ble_eq_true rfl, Nat.le_of_ble_eq_true rfl⟩ (Nat.le_of_ble_eq_true rfl) dX8_weighHeaps_81 (fun r13 τ13 hp13 => ?_)
          obtain ⟨⟨x13, rfl, ⟨hx13a, hx13b⟩⟩, rfl⟩ := hp13
          show hpV _ _ _ _ _ _ _ _ _ _ _ _ _ _ _ _ _ _ _ _ _ (_ :: _)
          refine h_lstore (lv' := [(8, .long (hpJ x13)), (5, .int (hpI r11)), (7, .int (hpI r10)), (0, .ref (z + 0)), (1, .int (hpI a0)), (2, .int (hpI a1)), (3, .long (hpJ w3_3)), (6, .int (hpI w3_6))]) C dX8_weighHeaps_84 (by decide) rfl ?_
          refine h_lload C dX8_weighHeaps_86 0 rfl ?_
          refine h_lconst C 0 dX8_weighHeaps_88 (by decide) ?_
          refine h_lcmp C dX8_weighHeaps_89 ⟨by omega, by omega⟩ ⟨by decide, by decide⟩ (fun r14 hr14 => ?_)
          refine h_if_le (tgt := 129) C dX8_weighHeaps_90 (by decide) ⟨by omega, by omega⟩ (fun h15 => ?_) (fun h15 => ?_)
          · refine h_iinc (lv' := [(6, .int (hpI (w3_6 + 1))), (8, .long (hpJ x13)), (5, .int (hpI r11)), (7, .int (hpI r10)), (0, .ref (z + 0)), (1, .int (hpI a0)), (2, .int (hpI a1)), (3, .long (hpJ w3_3))]) C dX8_weighHeaps_129 7 rfl rfl (by decide) rfl ?_
            refine h_goto (tgt := 30) C dX8_weighHeaps_132 (by decide) ?_
            exact hp_sub [4, 5, 6, 7, 2, 0] rfl (ih3 _ w3_3 r11 (w3_6 + 1) (by omega) (by omega) (by omega) (by omega) (by omega) (by omega) hI3 hF3 (by omega))
          · refine h_aload_n C dX8_weighHeaps_93 3 rfl rfl ?_
            refine h_iload C dX8_weighHeaps_94 7 rfl ?_
            refine h_iload C dX8_weighHeaps_96 1 rfl ?_
            refine h_iload_n C dX8_weighHeaps_98 4 rfl rfl ?_
            refine h_callV (As := [.int (hpI w3_6), .int (hpI r11), .int (hpI a0)]) (rest := []) C Z yyX8_passChoice wd_1150 (tgX8_passChoice l D cy z _ w3_6 ⟨by omega, by omega⟩ r11 ⟨by omega, by omega⟩ a0 ⟨by omega, by omega⟩ hI3 (by omega)) kd_0 rfl rfl ⟨rfl, rfl, Nat.le_of_ble_eq_true rfl, Nat.le_of_ble_eq_true rfl⟩ ⟨Nat.le_of_ble_eq_true rfl, Nat.le_of_ble_eq_true rfl⟩ (Nat.le_of_ble_eq_true rfl) dX8_weighHeaps_99 (fun r16 τ16 hp16 => ?_)
            obtain ⟨rfl, hI16, hG16⟩ := hp16
            have hF16 : ∀ j i : Nat, 169 ≤ j → τ16 j i = σ j i := fun j i h_0 => (hG16 j i (by omega)).trans (hF3 j i h_0)
            show hpV _ _ _ _ _ _ _ _ _ _ _ _ _ _ _ _ _ _ _ _ _ []
            refine h_iload_n C dX8_weighHeaps_102 4 rfl rfl ?_
            refine h_istore (lv' := [(5, .int (hpI a0)), (8, .long (hpJ x13)), (7, .int (hpI r10)), (0, .ref (z + 0)), (1, .int (hpI a0)), (2, .int (hpI a1)), (3, .long (hpJ w3_3)), (6, .int (hpI w3_6))]) C dX8_weighHeaps_103 (by decide) rfl ?_
            refine h_lload_n C dX8_weighHeaps_105 6 rfl rfl ?_
            refine h_lload C dX8_weighHeaps_106 1 rfl ?_
            refine h_aload_n C dX8_weighHeaps_108 3 rfl rfl ?_
            refine h_get C O8 6 kd_0 (by decide) wd_355 dX8_weighHeaps_109 fr_0_6 ?_
            refine h_iload_n C dX8_weighHeaps_112 4 rfl rfl ?_
            refine h_iconst C dX8_weighHeaps_113 ?_
            refine h_iadd C dX8_weighHeaps_114 rfl ?_
            refine h_callVN (As := [.int (hpI (a0 + 1))]) (rest := [.long (hpJ x13), .long (hpJ w3_3)]) C Z yyX4_at nw_634 (tgX4_at l D cy z _ 70 kd_70 (a0 + 1) ⟨by omega, by omega⟩ hI16) kd_70 rfl rfl ⟨rfl, rfl, Nat.le_of_ble_eq_true rfl, Nat.le_of_ble_eq_true rfl⟩ ⟨Nat.le_of_ble_eq_true rfl, Nat.le_of_ble_eq_true rfl⟩ (Nat.le_of_ble_eq_true rfl) dX8_weighHeaps_115 (fun r17 τ17 hp17 => ?_)
            obtain ⟨⟨x17, rfl, hx17⟩, rfl⟩ := hp17
            have hl17 := kb_3 hx17
            show hpV _ _ _ _ _ _ _ _ _ _ _ _ _ _ _ _ _ _ _ _ _ (_ :: _)
            refine h_getN C O3 3 hx17 (by decide) nw_164 dX8_weighHeaps_118 (hp_fvI (by rw [hx17]; rfl) rfl) ?_
            obtain ⟨hr18a, hr18b⟩ := hI16.b (bf_3_3 hx17)
            generalize hg18 : τ16 x17 3 = r18 at hr18a hr18b ⊢
            refine h_iload_n C dX8_weighHeaps_121 5 rfl rfl ?_
            refine h_callS (As := [.int (hpI r18), .int (hpI a1)]) (rest := [.long (hpJ x13), .long (hpJ w3_3)]) C Z yyX8_countOf rfl wd_1155 (tgX8_countOf l D cy z _ r18 ⟨by omega, by omega⟩ a1 ⟨by omega, by omega⟩ hI16) rfl rfl ⟨rfl, rfl, Nat.le_of_ble_eq_true rfl, Nat.le_of_ble_eq_true rfl⟩ ⟨Nat.le_of_ble_eq_true rfl, Nat.le_of_ble_eq_true rfl⟩ (Nat.le_of_ble_eq_true rfl) dX8_weighHeaps_122 (fun r19 τ19 hp19 => ?_)
            obtain ⟨⟨x19, rfl, ⟨hx19a, hx19b⟩⟩, rfl⟩ := hp19
            show hpV _ _ _ _ _ _ _ _ _ _ _ _ _ _ _ _ _ _ _ _ _ (_ :: _)
            refine h_i2l C dX8_weighHeaps_125 ⟨by omega, by omega⟩ ?_
            refine h_lmul C dX8_weighHeaps_126 rfl ?_
            refine hp_anyL (fun r20 hr20 => ?_)
            obtain ⟨hr20a, hr20b⟩ := hr20
            refine h_ladd C dX8_weighHeaps_127 rfl ?_
            refine hp_anyL (fun r21 hr21 => ?_)
            obtain ⟨hr21a, hr21b⟩ := hr21
            refine h_lstore_n (lv' := [(3, .long (hpJ r21)), (5, .int (hpI a0)), (8, .long (hpJ x13)), (7, .int (hpI r10)), (0, .ref (z + 0)), (1, .int (hpI a0)), (2, .int (hpI a1)), (6, .int (hpI w3_6))]) C dX8_weighHeaps_128 rfl (by decide) rfl ?_
            refine h_iinc (lv' := [(6, .int (hpI (w3_6 + 1))), (3, .long (hpJ r21)), (5, .int (hpI a0)), (8, .long (hpJ x13)), (7, .int (hpI r10)), (0, .ref (z + 0)), (1, .int (hpI a0)), (2, .int (hpI a1))]) C dX8_weighHeaps_129 7 rfl rfl (by decide) rfl ?_
            refine h_goto (tgt := 30) C dX8_weighHeaps_132 (by decide) ?_
            exact hp_sub [5, 6, 7, 1, 2, 0] rfl (ih3 _ r21 a0 (w3_6 + 1) (by omega) (by omega) (by omega) (by omega) (by omega) (by omega) hI16 hF16 (by omega))
        · refine h_iconst C dX8_weighHeaps_43 ?_
          refine h_goto (tgt := 61) C dX8_weighHeaps_44 (by decide) ?_
          refine h_istore (lv' := [(7, .int (hpI 0)), (0, .ref (z + 0)), (1, .int (hpI a0)), (2, .int (hpI a1)), (3, .long (hpJ w3_3)), (5, .int (hpI w3_5)), (6, .int (hpI w3_6))]) C dX8_weighHeaps_61 (by decide) rfl ?_
          refine h_iload C dX8_weighHeaps_63 5 rfl ?_
          refine h_iload C dX8_weighHeaps_65 0 rfl ?_
          refine h_mmin C wd_1145 wd_514 wd_515 wd_15 dX8_weighHeaps_67 ⟨by omega, by omega⟩ ⟨by decide, by decide⟩ (Nat.le_of_ble_eq_true rfl) (Nat.le_of_ble_eq_true rfl) ⟨Nat.le_of_ble_eq_true rfl, Nat.le_of_ble_eq_true rfl⟩ (fun r22 hr22a hr22b hr22c => ?_)
          refine h_istore (lv' := [(5, .int (hpI r22)), (7, .int (hpI 0)), (0, .ref (z + 0)), (1, .int (hpI a0)), (2, .int (hpI a1)), (3, .long (hpJ w3_3)), (6, .int (hpI w3_6))]) C dX8_weighHeaps_70 (by decide) rfl ?_
          refine h_aload_n C dX8_weighHeaps_72 2 rfl rfl ?_
          refine h_iload C dX8_weighHeaps_73 6 rfl ?_
          refine h_callG (As := [.int (hpI w3_6)]) (rest := [.ref (z + 0)]) C Z yyJ6_bitCount_0f7a4 wd_1074 (jdJ6_bitCount_0f7a4 l D cy z _ w3_6) rfl rfl ⟨rfl, rfl, Nat.le_of_ble_eq_true rfl, Nat.le_of_ble_eq_true rfl⟩ ⟨Nat.le_of_ble_eq_true rfl, Nat.le_of_ble_eq_true rfl⟩ (Nat.le_of_ble_eq_true rfl) dX8_weighHeaps_75 (fun r23 τ23 hp23 => ?_)
          obtain ⟨⟨x23, rfl, hx23a, hx23b⟩, rfl⟩ := hp23
          show hpV _ _ _ _ _ _ _ _ _ _ _ _ _ _ _ _ _ _ _ _ _ (_ :: _)
          refine h_iload_n C dX8_weighHeaps_78 3 rfl rfl ?_
          refine h_iconst C dX8_weighHeaps_79 ?_
          refine h_iadd C dX8_weighHeaps_80 rfl ?_
          refine h_callV (As := [.int (hpI x23), .int (hpI (a0 + 1))]) (rest := []) C Z yyX8_weightOf wd_1146 (tgX8_weightOf l D cy z _ x23 ⟨by omega, by omega⟩ (a0 + 1) ⟨by omega, by omega⟩ hI3) kd_0 rfl rfl ⟨rfl, rfl, Nat.le_of_ble_eq_true rfl, Nat.le_of_ble_eq_true rfl⟩ ⟨Nat.le_of_ble_eq_true rfl, Nat.le_of_ble_eq_true rfl⟩ (Nat.le_of_ble_eq_true rfl) dX8_weighHeaps_81 (fun r24 τ24 hp24 => ?_)
          obtain ⟨⟨x24, rfl, ⟨hx24a, hx24b⟩⟩, rfl⟩ := hp24
          show hpV _ _ _ _ _ _ _ _ _ _ _ _ _ _ _ _ _ _ _ _ _ (_ :: _)
          refine h_lstore (lv' := [(8, .long (hpJ x24)), (5, .int (hpI r22)), (7, .int (hpI 0)), (0, .ref (z + 0)), (1, .int (hpI a0)), (2, .int (hpI a1)), (3, .long (hpJ w3_3)), (6, .int (hpI w3_6))]) C dX8_weighHeaps_84 (by decide) rfl ?_
          refine h_lload C dX8_weighHeaps_86 0 rfl ?_
          refine h_lconst C 0 dX8_weighHeaps_88 (by decide) ?_
          refine h_lcmp C dX8_weighHeaps_89 ⟨by omega, by omega⟩ ⟨by decide, by decide⟩ (fun r25 hr25 => ?_)
          refine h_if_le (tgt := 129) C dX8_weighHeaps_90 (by decide) ⟨by omega, by omega⟩ (fun h26 => ?_) (fun h26 => ?_)
          · refine h_iinc (lv' := [(6, .int (hpI (w3_6 + 1))), (8, .long (hpJ x24)), (5, .int (hpI r22)), (7, .int (hpI 0)), (0, .ref (z + 0)), (1, .int (hpI a0)), (2, .int (hpI a1)), (3, .long (hpJ w3_3))]) C dX8_weighHeaps_129 7 rfl rfl (by decide) rfl ?_
            refine h_goto (tgt := 30) C dX8_weighHeaps_132 (by decide) ?_
            exact hp_sub [4, 5, 6, 7, 2, 0] rfl (ih3 _ w3_3 r22 (w3_6 + 1) (by omega) (by omega) (by omega) (by omega) (by omega) (by omega) hI3 hF3 (by omega))
          · refine h_aload_n C dX8_weighHeaps_93 3 rfl rfl ?_
            refine h_iload C dX8_weighHeaps_94 7 rfl ?_
            refine h_iload C dX8_weighHeaps_96 1 rfl ?_
            refine h_iload_n C dX8_weighHeaps_98 4 rfl rfl ?_
            refine h_callV (As := [.int (hpI w3_6), .int (hpI r22), .int (hpI a0)]) (rest := []) C Z yyX8_passChoice wd_1150 (tgX8_passChoice l D cy z _ w3_6 ⟨by omega, by omega⟩ r22 ⟨by omega, by omega⟩ a0 ⟨by omega, by omega⟩ hI3 (by omega)) kd_0 rfl rfl ⟨rfl, rfl, Nat.le_of_ble_eq_true rfl, Nat.le_of_ble_eq_true rfl⟩ ⟨Nat.le_of_ble_eq_true rfl, Nat.le_of_ble_eq_true rfl⟩ (Nat.le_of_ble_eq_true rfl) dX8_weighHeaps_99 (fun r27 τ27 hp27 => ?_)
            obtain ⟨rfl, hI27, hG27⟩ := hp27
            have hF27 : ∀ j i : Nat, 169 ≤ j → τ27 j i = σ j i := fun j i h_0 => (hG27 j i (by omega)).trans (hF3 j i h_0)
            show hpV _ _ _ _ _ _ _ _ _ _ _ _ _ _ _ _ _ _ _ _ _ []
            refine h_iload_n C dX8_weighHeaps_102 4 rfl rfl ?_
            refine h_istore (lv' := [(5, .int (hpI a0)), (8, .long (hpJ x24)), (7, .int (hpI 0)), (0, .ref (z + 0)), (1, .int (hpI a0)), (2, .int (hpI a1)), (3, .long (hpJ w3_3)), (6, .int (hpI w3_6))]) C dX8_weighHeaps_103 (by decide) rfl ?_
            refine h_lload_n C dX8_weighHeaps_105 6 rfl rfl ?_
            refine h_lload C dX8_weighHeaps_106 1 rfl ?_
            refine h_aload_n C dX8_weighHeaps_108 3 rfl rfl ?_
            refine h_get C O8 6 kd_0 (by decide) wd_355 dX8_weighHeaps_109 fr_0_6 ?_
            refine h_iload_n C dX8_weighHeaps_112 4 rfl rfl ?_
            refine h_iconst C dX8_weighHeaps_113 ?_
            refine h_iadd C dX8_weighHeaps_114 rfl ?_
            refine h_callVN (As := [.int (hpI (a0 + 1))]) (rest := [.long (hpJ x24), .long (hpJ w3_3)]) C Z yyX4_at nw_634 (tgX4_at l D cy z _ 70 kd_70 (a0 + 1) ⟨by omega, by omega⟩ hI27) kd_70 rfl rfl ⟨rfl, rfl, Nat.le_of_ble_eq_true rfl, Nat.le_of_ble_eq_true rfl⟩ ⟨Nat.le_of_ble_eq_true rfl, Nat.le_of_ble_eq_true rfl⟩ (Nat.le_of_ble_eq_true rfl) dX8_weighHeaps_115 (fun r28 τ28 hp28 => ?_)
            obtain ⟨⟨x28, rfl, hx28⟩, rfl⟩ := hp28
            have hl28 := kb_3 hx28
            show hpV _ _ _ _ _ _ _ _ _ _ _ _ _ _ _ _ _ _ _ _ _ (_ :: _)
            refine h_getN C O3 3 hx28 (by decide) nw_164 dX8_weighHeaps_118 (hp_fvI (by rw [hx28]; rfl) rfl) ?_
            obtain ⟨hr29a, hr29b⟩ := hI27.b (bf_3_3 hx28)
            generalize hg29 : τ27 x28 3 = r29 at hr29a hr29b ⊢
            refine h_iload_n C dX8_weighHeaps_121 5 rfl rfl ?_
            refine h_callS (As := [.int (hpI r29), .int (hpI a1)]) (rest := [.long (hpJ x24), .long (hpJ w3_3)]) C Z yyX8_countOf rfl wd_1155 (tgX8_countOf l D cy z _ r29 ⟨by omega, by omega⟩ a1 ⟨by omega, by omega⟩ hI27) rfl rfl ⟨rfl, rfl, Nat.le_of_ble_eq_true rfl, Nat.le_of_ble_eq_true rfl⟩ ⟨Nat.le_of_ble_eq_true rfl, Nat.le_of_ble_eq_true rfl⟩ (Nat.le_of_ble_eq_true rfl) dX8_weighHeaps_122 (fun r30 τ30 hp30 => ?_)
            obtain ⟨⟨x30, rfl, ⟨hx30a, hx30b⟩⟩, rfl⟩ := hp30
            show hpV _ _ _ _ _ _ _ _ _ _ _ _ _ _ _ _ _ _ _ _ _ (_ :: _)
            refine h_i2l C dX8_weighHeaps_125 ⟨by omega, by omega⟩ ?_
            refine h_lmul C dX8_weighHeaps_126 rfl ?_
            refine hp_anyL (fun r31 hr31 => ?_)
            obtain ⟨hr31a, hr31b⟩ := hr31
            refine h_ladd C dX8_weighHeaps_127 rfl ?_
            refine hp_anyL (fun r32 hr32 => ?_)
            obtain ⟨hr32a, hr32b⟩ := hr32
            refine h_lstore_n (lv' := [(3, .long (hpJ r32)), (5, .int (hpI a0)), (8, .long (hpJ x24)), (7, .int (hpI 0)), (0, .ref (z + 0)), (1, .int (hpI a0)), (2, .int (hpI a1)), (6, .int (hpI w3_6))]) C dX8_weighHeaps_128 rfl (by decide) rfl ?_
            refine h_iinc (lv' := [(6, .int (hpI (w3_6 + 1))), (3, .long (hpJ r32)), (5, .int (hpI a0)), (8, .long (hpJ x24)), (7, .int (hpI 0)), (0, .ref (z + 0)), (1, .int (hpI a0)), (2, .int (hpI a1))]) C dX8_weighHeaps_129 7 rfl rfl (by decide) rfl ?_
            refine h_goto (tgt := 30) C dX8_weighHeaps_132 (by decide) ?_
            exact hp_sub [5, 6, 7, 1, 2, 0] rfl (ih3 _ r32 a0 (w3_6 + 1) (by omega) (by omega) (by omega) (by omega) (by omega) (by omega) hI27 hF27 (by omega))
  exact hp_sub [3, 4, 5, 2, 1, 0] rfl (L3 8589934592 _ 0 0 0 (by omega) (by omega) (by omega) (by omega) (by omega) (by omega) hI2 hF2 (by omega))
abbrev rgX8_gainOverOrders : Room := { frames := 1, cells := 0, slots := 0, locals := 22 }
abbrev pgX8_gainOverOrders (z : Nat) (σ : hpMem) (a0 : Int) : Option Value → hpMem → Prop := fun r τ => (∃ x : Int, r = some (.int (hpI x)) ∧ (hpR x)) ∧ σ = τ
set_option maxHeartbeats 4000000 in
set_option maxRecDepth 20000 in
theorem tgX8_gainOverOrders (l : Launch) (D : va_G) (cy : Nat → ClassId) (z : Nat) (σ : hpMem) (a0 : Int) (ha0 : hpR a0) (hI : hpInv σ) (hc0 : 0 ≤ a0 ∧ a0 ≤ 5) : hpM l D cy z yX8_gainOverOrders cX8_gainOverOrders 7 (some .int) rgX8_gainOverOrders [.ref (z + 0), .int (hpI a0)] σ (pgX8_gainOverOrders z σ a0) := by
  obtain ⟨ha01, ha02⟩ := ha0
  refine hp_met rfl (Nat.le_of_ble_eq_true rfl) (fun p e s m below meth c C Z hr hlk => ?_)
  refine h_iconst C dX8_gainOverOrders_0 ?_
  refine h_iload_n C dX8_gainOverOrders_1 1 rfl rfl ?_
  refine h_ishl_b (mm := 5) (M := 32) C dX8_gainOverOrders_2 (by omega) (by omega) (by decide +kernel) (fun r1 hr1a hr1b => ?_)
  refine h_istore_n (lv' := [(2, .int (hpI r1)), (0, .ref (z + 0)), (1, .int (hpI a0))]) C dX8_gainOverOrders_3 rfl (by decide) rfl ?_
  refine h_iconst C dX8_gainOverOrders_4 ?_
  refine h_istore_n (lv' := [(3, .int (hpI 0)), (2, .int (hpI r1)), (0, .ref (z + 0)), (1, .int (hpI a0))]) C dX8_gainOverOrders_5 rfl (by decide) rfl ?_
  refine h_iconst C dX8_gainOverOrders_6 ?_
  refine h_istore (lv' := [(4, .int (hpI 0)), (3, .int (hpI 0)), (2, .int (hpI r1)), (0, .ref (z + 0)), (1, .int (hpI a0))]) C dX8_gainOverOrders_7 (by decide) rfl ?_
  have L2 : ∀ (n2 : Nat) (w2_3 : Int) (w2_4 : Int), -2147483648 ≤ w2_3 → w2_3 ≤ 2147483647 → 0 ≤ w2_4 → w2_4 ≤ 2147483647 → (4294967296 - w2_4) < (n2 : Int) → hpF p l e rgX8_gainOverOrders s m [.ref (z + 0), .int (hpI a0)] below meth c 7 D cy z (pgX8_gainOverOrders z σ a0) σ 9 [(0, .ref (z + 0)), (1, .int (hpI a0)), (2, .int (hpI r1)), (3, .int (hpI w2_3)), (4, .int (hpI w2_4))] [] := by
    intro n2
    induction n2 with
    | zero => intro w2_3 w2_4 hv2_0 hv2_1 hv2_2 hv2_3 hm2; exfalso; omega
    | succ n2 ih2 =>
      intro w2_3 w2_4 hv2_0 hv2_1 hv2_2 hv2_3 hm2
      refine h_iload C dX8_gainOverOrders_9 4 rfl ?_
      refine h_iconst C dX8_gainOverOrders_11 ?_
      refine h_aload_n C dX8_gainOverOrders_12 0 rfl rfl ?_
      refine h_get C O8 1 kd_0 (by decide) wd_350 dX8_gainOverOrders_13 fr_0_1 ?_
      refine h_getN C O1 10 kd_3 (by decide) nw_103 dX8_gainOverOrders_16 (hp_fvI (by rw [kd_3]; rfl) rfl) ?_
      obtain ⟨hr3a, hr3b⟩ := hI.b (bf_1_10 kd_3)
      generalize hg3 : σ 3 10 = r3 at hr3a hr3b ⊢
      refine h_ishl_b (mm := 6) (M := 64) C dX8_gainOverOrders_19 (by omega) (by omega) (by decide +kernel) (fun r4 hr4a hr4b => ?_)
      refine h_icmp_ge (tgt := 89) C dX8_gainOverOrders_20 (by decide) ⟨by omega, by omega⟩ ⟨by omega, by omega⟩ (fun h5 => ?_) (fun h5 => ?_)
      · refine h_iload_n C dX8_gainOverOrders_89 3 rfl rfl ?_
        refine h_ireturn C hr hlk dX8_gainOverOrders_90 ?_
        exact ⟨⟨_, rfl, ⟨by omega, by omega⟩⟩, rfl⟩
      · refine h_iload C dX8_gainOverOrders_23 4 rfl ?_
        refine h_iload_n C dX8_gainOverOrders_25 2 rfl rfl ?_
        refine h_iand_r C dX8_gainOverOrders_26 ⟨by omega, by omega⟩ (by omega) (fun r6 hr6a hr6b => ?_)
        refine h_if_ne (tgt := 83) C dX8_gainOverOrders_27 (by decide) ⟨by omega, by omega⟩ (fun h7 => ?_) (fun h7 => ?_)
        · refine h_iinc (lv' := [(4, .int (hpI (w2_4 + 1))), (0, .ref (z + 0)), (1, .int (hpI a0)), (2, .int (hpI r1)), (3, .int (hpI w2_3))]) C dX8_gainOverOrders_83 4 rfl rfl (by decide) rfl ?_
          refine h_goto (tgt := 9) C dX8_gainOverOrders_86 (by decide) ?_
          exact hp_sub [1, 2, 3, 4, 0] rfl (ih2 w2_3 (w2_4 + 1) (by omega) (by omega) (by omega) (by omega) (by omega))
        · refine h_iload C dX8_gainOverOrders_30 4 rfl ?_
          refine h_callG (As := [.int (hpI w2_4)]) (rest := []) C Z yyJ6_bitCount_0f7a4 wd_1074 (jdJ6_bitCount_0f7a4 l D cy z _ w2_4) rfl rfl ⟨rfl, rfl, Nat.le_of_ble_eq_true rfl, Nat.le_of_ble_eq_true rfl⟩ ⟨Nat.le_of_ble_eq_true rfl, Nat.le_of_ble_eq_true rfl⟩ (Nat.le_of_ble_eq_true rfl) dX8_gainOverOrders_32 (fun r8 τ8 hp8 => ?_)
          obtain ⟨⟨x8, rfl, hx8a, hx8b⟩, rfl⟩ := hp8
          show hpV _ _ _ _ _ _ _ _ _ _ _ _ _ _ _ _ _ _ _ _ _ (_ :: _)
          refine h_istore (lv' := [(5, .int (hpI x8)), (0, .ref (z + 0)), (1, .int (hpI a0)), (2, .int (hpI r1)), (3, .int (hpI w2_3)), (4, .int (hpI w2_4))]) C dX8_gainOverOrders_35 (by decide) rfl ?_
          refine h_iload C dX8_gainOverOrders_37 0 rfl ?_
          refine h_callS (As := [.int (hpI x8)]) (rest := []) C Z yyX8_factorial rfl wd_1080 (tgX8_factorial l D cy z _ x8 ⟨by omega, by omega⟩ hI (by omega)) rfl rfl ⟨rfl, rfl, Nat.le_of_ble_eq_true rfl, Nat.le_of_ble_eq_true rfl⟩ ⟨Nat.le_of_ble_eq_true rfl, Nat.le_of_ble_eq_true rfl⟩ (Nat.le_of_ble_eq_true rfl) dX8_gainOverOrders_39 (fun r9 τ9 hp9 => ?_)
          obtain ⟨⟨x9, rfl, ⟨hx9a, hx9b⟩⟩, rfl⟩ := hp9
          show hpV _ _ _ _ _ _ _ _ _ _ _ _ _ _ _ _ _ _ _ _ _ (_ :: _)
          refine h_aload_n C dX8_gainOverOrders_42 1 rfl rfl ?_
          refine h_get C O8 1 kd_0 (by decide) wd_350 dX8_gainOverOrders_43 fr_0_1 ?_
          refine h_getN C O1 10 kd_3 (by decide) nw_103 dX8_gainOverOrders_46 (hp_fvI (by rw [kd_3]; rfl) rfl) ?_
          rw [hg3]
          refine h_iconst C dX8_gainOverOrders_49 ?_
          refine h_isub C dX8_gainOverOrders_50 rfl ?_
          refine h_iload C dX8_gainOverOrders_51 0 rfl ?_
          refine h_isub C dX8_gainOverOrders_53 rfl ?_
          refine h_callS (As := [.int (hpI ((r3 - 1) - x8))]) (rest := [.int (hpI x9)]) C Z yyX8_factorial rfl wd_1080 (tgX8_factorial l D cy z _ ((r3 - 1) - x8) ⟨by omega, by omega⟩ hI (by omega)) rfl rfl ⟨rfl, rfl, Nat.le_of_ble_eq_true rfl, Nat.le_of_ble_eq_true rfl⟩ ⟨Nat.le_of_ble_eq_true rfl, Nat.le_of_ble_eq_true rfl⟩ (Nat.le_of_ble_eq_true rfl) dX8_gainOverOrders_54 (fun r10 τ10 hp10 => ?_)
          obtain ⟨⟨x10, rfl, ⟨hx10a, hx10b⟩⟩, rfl⟩ := hp10
          show hpV _ _ _ _ _ _ _ _ _ _ _ _ _ _ _ _ _ _ _ _ _ (_ :: _)
          refine h_imul C dX8_gainOverOrders_57 rfl ?_
          refine hp_anyI (fun r11 hr11 => ?_)
          obtain ⟨hr11a, hr11b⟩ := hr11
          refine h_istore (lv' := [(6, .int (hpI r11)), (5, .int (hpI x8)), (0, .ref (z + 0)), (1, .int (hpI a0)), (2, .int (hpI r1)), (3, .int (hpI w2_3)), (4, .int (hpI w2_4))]) C dX8_gainOverOrders_58 (by decide) rfl ?_
          refine h_iload_n C dX8_gainOverOrders_60 5 rfl rfl ?_
          refine h_iload C dX8_gainOverOrders_61 0 rfl ?_
          refine h_aload_n C dX8_gainOverOrders_63 2 rfl rfl ?_
          refine h_get C O8 11 kd_0 (by decide) wd_360 dX8_gainOverOrders_64 fr_0_11 ?_
          refine h_iload C dX8_gainOverOrders_67 6 rfl ?_
          refine h_iload_n C dX8_gainOverOrders_69 4 rfl rfl ?_
          refine h_ior_b 6 C dX8_gainOverOrders_70 (by decide) ⟨by omega, by omega⟩ ⟨by omega, by omega⟩ (fun r12 hr12a hr12b => ?_)
          refine h_iaload C dX8_gainOverOrders_71 kd_167 (r12).toNat (Int.toNat_of_nonneg (by omega)) (by rw [ln_167]; omega) rfl ?_
          obtain ⟨hr13a, hr13b⟩ := hI.b (bo_167 _)
          generalize hg13 : σ 167 ((r12).toNat) = r13 at hr13a hr13b ⊢
          refine h_aload_n C dX8_gainOverOrders_72 2 rfl rfl ?_
          refine h_get C O8 11 kd_0 (by decide) wd_360 dX8_gainOverOrders_73 fr_0_11 ?_
          refine h_iload C dX8_gainOverOrders_76 6 rfl ?_
          refine h_iaload C dX8_gainOverOrders_78 kd_167 (w2_4).toNat (Int.toNat_of_nonneg (by omega)) (by rw [ln_167]; omega) rfl ?_
          obtain ⟨hr14a, hr14b⟩ := hI.b (bo_167 _)
          generalize hg14 : σ 167 ((w2_4).toNat) = r14 at hr14a hr14b ⊢
          refine h_isub C dX8_gainOverOrders_79 rfl ?_
          refine hp_anyI (fun r15 hr15 => ?_)
          obtain ⟨hr15a, hr15b⟩ := hr15
          refine h_imul C dX8_gainOverOrders_80 rfl ?_
          refine hp_anyI (fun r16 hr16 => ?_)
          obtain ⟨hr16a, hr16b⟩ := hr16
          refine h_iadd C dX8_gainOverOrders_81 rfl ?_
          refine hp_anyI (fun r17 hr17 => ?_)
          obtain ⟨hr17a, hr17b⟩ := hr17
          refine h_istore_n (lv' := [(3, .int (hpI r17)), (6, .int (hpI r11)), (5, .int (hpI x8)), (0, .ref (z + 0)), (1, .int (hpI a0)), (2, .int (hpI r1)), (4, .int (hpI w2_4))]) C dX8_gainOverOrders_82 rfl (by decide) rfl ?_
          refine h_iinc (lv' := [(4, .int (hpI (w2_4 + 1))), (3, .int (hpI r17)), (6, .int (hpI r11)), (5, .int (hpI x8)), (0, .ref (z + 0)), (1, .int (hpI a0)), (2, .int (hpI r1))]) C dX8_gainOverOrders_83 6 rfl rfl (by decide) rfl ?_
          refine h_goto (tgt := 9) C dX8_gainOverOrders_86 (by decide) ?_
          exact hp_sub [4, 5, 6, 1, 0] rfl (ih2 r17 (w2_4 + 1) (by omega) (by omega) (by omega) (by omega) (by omega))
  exact hp_sub [3, 4, 2, 1, 0] rfl (L2 8589934592 0 0 (by omega) (by omega) (by omega) (by omega) (by omega))
abbrev rgX8_knowWorths : Room := { frames := 6, cells := 0, slots := 0, locals := 173 }
abbrev pgX8_knowWorths (z : Nat) (σ : hpMem) : Option Value → hpMem → Prop := fun r τ => r = none ∧ hpInv τ ∧ (∀ j i : Nat, 169 ≤ j → τ j i = σ j i)
set_option maxHeartbeats 4000000 in
set_option maxRecDepth 20000 in
theorem tgX8_knowWorths (l : Launch) (D : va_G) (cy : Nat → ClassId) (z : Nat) (σ : hpMem) (hI : hpInv σ) : hpM l D cy z yX8_knowWorths cX8_knowWorths 2 none rgX8_knowWorths [.ref (z + 0)] σ (pgX8_knowWorths z σ) := by
  refine hp_met rfl (Nat.le_of_ble_eq_true rfl) (fun p e s m below meth c C Z hr hlk => ?_)
  have hF0 : ∀ j i : Nat, 169 ≤ j → σ j i = σ j i := fun j i _ => rfl
  refine h_aload_n C dX8_knowWorths_0 0 rfl rfl ?_
  refine h_get C O8 14 kd_0 (by decide) wd_363 dX8_knowWorths_1 (hp_fvI (by rw [kd_0]; rfl) rfl) ?_
  obtain ⟨hr1a, hr1b⟩ := hI.b (bf_8_14 kd_0)
  generalize hg1 : σ 0 14 = r1 at hr1a hr1b ⊢
  refine h_if_eq (tgt := 8) C dX8_knowWorths_4 (by decide) ⟨by omega, by omega⟩ (fun h2 => ?_) (fun h2 => ?_)
  · refine h_iconst C dX8_knowWorths_8 ?_
    refine h_istore_n (lv' := [(1, .int (hpI 0)), (0, .ref (z + 0))]) C dX8_knowWorths_9 rfl (by decide) rfl ?_
    have L3 : ∀ (n3 : Nat) (τ3 : hpMem) (w3_1 : Int), 0 ≤ w3_1 → w3_1 ≤ 2147483647 → hpInv τ3 → (∀ j i : Nat, 169 ≤ j → τ3 j i = σ j i) → (4294967296 - w3_1) < (n3 : Int) → hpF p l e rgX8_knowWorths s m [.ref (z + 0)] below meth c 2 D cy z (pgX8_knowWorths z σ) τ3 10 [(0, .ref (z + 0)), (1, .int (hpI w3_1))] [] := by
      intro n3
      induction n3 with
      | zero => intro τ3 w3_1 hv3_0 hv3_1 hI3 hF3 hm3; exfalso; omega
      | succ n3 ih3 =>
        intro τ3 w3_1 hv3_0 hv3_1 hI3 hF3 hm3
        refine h_iload_n C dX8_knowWorths_10 1 rfl rfl ?_
        refine h_iconst C dX8_knowWorths_11 ?_
        refine h_aload_n C dX8_knowWorths_12 0 rfl rfl ?_
        refine h_get C O8 1 kd_0 (by decide) wd_350 dX8_knowWorths_13 fr_0_1 ?_
        refine h_getN C O1 10 kd_3 (by decide) nw_103 dX8_knowWorths_16 (hp_fvI (by rw [kd_3]; rfl) rfl) ?_
        obtain ⟨hr4a, hr4b⟩ := hI3.b (bf_1_10 kd_3)
        generalize hg4 : τ3 3 10 = r4 at hr4a hr4b ⊢
        refine h_ishl_b (mm := 6) (M := 64) C dX8_knowWorths_19 (by omega) (by omega) (by decide +kernel) (fun r5 hr5a hr5b => ?_)
        refine h_icmp_ge (tgt := 40) C dX8_knowWorths_20 (by decide) ⟨by omega, by omega⟩ ⟨by omega, by omega⟩ (fun h6 => ?_) (fun h6 => ?_)
        · refine h_aload_n C dX8_knowWorths_40 0 rfl rfl ?_
          refine h_iconst C dX8_knowWorths_41 ?_
          refine h_put C O8 14 kd_0 (by decide) rfl wd_363 dX8_knowWorths_42 (hp_nz (by omega)) rfl (hp_fvI (by rw [kd_0]; rfl) hpu_at) ?_
          obtain ⟨τ7, e7⟩ : ∃ μ : hpMem, μ = hpw τ3 0 14 1 := ⟨_, rfl⟩
          rw [← e7]
          have hI7 : hpInv τ7 := by rw [e7]; exact hI3.w (bf_8_14 kd_0) (by omega) (by omega)
          have hF7 : ∀ j i : Nat, 169 ≤ j → τ7 j i = σ j i := fun j i h_0 => by rw [e7]; exact (hpw_fr (by omega)).trans (hF3 j i h_0)
          have hg8 : τ7 3 10 = r4 := by rw [e7]; exact (hpw_fr (Or.inl (by omega))).trans hg4
          have hg9 : τ7 0 14 = 1 := by rw [e7]; exact hpw_eq
          refine h_return C hr hlk dX8_knowWorths_45 ?_
          exact ⟨rfl, hI7, hF7⟩
        · refine h_aload_n C dX8_knowWorths_23 0 rfl rfl ?_
          refine h_get C O8 11 kd_0 (by decide) wd_360 dX8_knowWorths_24 fr_0_11 ?_
          refine h_iload_n C dX8_knowWorths_27 1 rfl rfl ?_
          refine h_aload_n C dX8_knowWorths_28 0 rfl rfl ?_
          refine h_iload_n C dX8_knowWorths_29 1 rfl rfl ?_
          refine h_callV (As := [.int (hpI w3_1)]) (rest := [.int (hpI w3_1), .ref (z + 167)]) C Z yyX8_heapsWithSet wd_969 (tgX8_heapsWithSet l D cy z _ w3_1 ⟨by omega, by omega⟩ hI3) kd_0 rfl rfl ⟨rfl, rfl, Nat.le_of_ble_eq_true rfl, Nat.le_of_ble_eq_true rfl⟩ ⟨Nat.le_of_ble_eq_true rfl, Nat.le_of_ble_eq_true rfl⟩ (Nat.le_of_ble_eq_true rfl) dX8_knowWorths_30 (fun r10 τ10 hp10 => ?_)
          obtain ⟨⟨x10, rfl, ⟨hx10a, hx10b⟩⟩, hI10, hG10⟩ := hp10
          have hF10 : ∀ j i : Nat, 169 ≤ j → τ10 j i = σ j i := fun j i h_0 => (hG10 j i (by omega)).trans (hF3 j i h_0)
          show hpV _ _ _ _ _ _ _ _ _ _ _ _ _ _ _ _ _ _ _ _ _ (_ :: _)
          refine h_iastore C dX8_knowWorths_33 kd_167 (w3_1).toNat (Int.toNat_of_nonneg (by omega)) (by rw [ln_167]; omega) ?_
          obtain ⟨τ11, e11⟩ : ∃ μ : hpMem, μ = hpw τ10 167 ((w3_1).toNat) x10 := ⟨_, rfl⟩
          rw [← e11]
          have hI11 : hpInv τ11 := by rw [e11]; exact hI10.w (bo_167 _) (by omega) (by omega)
          have hF11 : ∀ j i : Nat, 169 ≤ j → τ11 j i = σ j i := fun j i h_0 => by rw [e11]; exact (hpw_fr (by omega)).trans (hF10 j i h_0)
          refine h_iinc (lv' := [(1, .int (hpI (w3_1 + 1))), (0, .ref (z + 0))]) C dX8_knowWorths_34 1 rfl rfl (by decide) rfl ?_
          refine h_goto (tgt := 10) C dX8_knowWorths_37 (by decide) ?_
          exact hp_sub [1, 0] rfl (ih3 _ (w3_1 + 1) (by omega) (by omega) hI11 hF11 (by omega))
    exact hp_sub [1, 0] rfl (L3 8589934592 _ 0 (by omega) (by omega) hI hF0 (by omega))
  · refine h_return C hr hlk dX8_knowWorths_7 ?_
    exact ⟨rfl, hI, hF0⟩
abbrev rgX8_share : Room := { frames := 7, cells := 0, slots := 0, locals := 194 }
abbrev pgX8_share (z : Nat) (σ : hpMem) (a0 : Int) (a1 : Int) : Option Value → hpMem → Prop := fun r τ => (∃ x : Int, r = some (.int (hpI x)) ∧ (hpR x)) ∧ hpInv τ ∧ (∀ j i : Nat, 169 ≤ j → τ j i = σ j i)
set_option maxHeartbeats 4000000 in
set_option maxRecDepth 20000 in
theorem tgX8_share (l : Launch) (D : va_G) (cy : Nat → ClassId) (z : Nat) (σ : hpMem) (a0 : Int) (ha0 : hpR a0) (a1 : Int) (ha1 : hpR a1) (hI : hpInv σ) : hpM l D cy z yX8_share cX8_share 3 (some .int) rgX8_share [.ref (z + 0), .int (hpI a0), .int (hpI a1)] σ (pgX8_share z σ a0 a1) := by
  obtain ⟨ha01, ha02⟩ := ha0
  obtain ⟨ha11, ha12⟩ := ha1
  refine hp_met rfl (Nat.le_of_ble_eq_true rfl) (fun p e s m below meth c C Z hr hlk => ?_)
  have hF0 : ∀ j i : Nat, 169 ≤ j → σ j i = σ j i := fun j i _ => rfl
  refine h_aload_n C dX8_share_0 0 rfl rfl ?_
  refine h_iload_n C dX8_share_1 1 rfl rfl ?_
  refine h_callV (As := [.int (hpI a0)]) (rest := []) C Z yyX8_isCart wd_557 (tgX8_isCart l D cy z _ a0 ⟨by omega, by omega⟩ hI) kd_0 rfl rfl ⟨rfl, rfl, Nat.le_of_ble_eq_true rfl, Nat.le_of_ble_eq_true rfl⟩ ⟨Nat.le_of_ble_eq_true rfl, Nat.le_of_ble_eq_true rfl⟩ (Nat.le_of_ble_eq_true rfl) dX8_share_2 (fun r1 τ1 hp1 => ?_)
  obtain ⟨⟨x1, rfl, ⟨hx1a, hx1b⟩, hx1⟩, rfl⟩ := hp1
  show hpV _ _ _ _ _ _ _ _ _ _ _ _ _ _ _ _ _ _ _ _ _ (_ :: _)
  refine h_if_eq (tgt := 15) C dX8_share_5 (by decide) ⟨by omega, by omega⟩ (fun h2 => ?_) (fun h2 => ?_)
  · refine h_sipush C dX8_share_15 (by decide) ?_
    refine h_ireturn C hr hlk dX8_share_18 ?_
    exact ⟨⟨_, rfl, ⟨by decide, by decide⟩⟩, hI, hF0⟩
  · refine h_iload_n C dX8_share_8 2 rfl rfl ?_
    refine h_callS (As := [.int (hpI a1)]) (rest := []) C Z yyX8_isWhat rfl wd_561 (tgX8_isWhat l D cy z _ a1 ⟨by omega, by omega⟩ hI) rfl rfl ⟨rfl, rfl, Nat.le_of_ble_eq_true rfl, Nat.le_of_ble_eq_true rfl⟩ ⟨Nat.le_of_ble_eq_true rfl, Nat.le_of_ble_eq_true rfl⟩ (Nat.le_of_ble_eq_true rfl) dX8_share_9 (fun r3 τ3 hp3 => ?_)
    obtain ⟨⟨x3, rfl, ⟨hx3a, hx3b⟩⟩, rfl⟩ := hp3
    show hpV _ _ _ _ _ _ _ _ _ _ _ _ _ _ _ _ _ _ _ _ _ (_ :: _)
    refine h_if_ne (tgt := 19) C dX8_share_12 (by decide) ⟨by omega, by omega⟩ (fun h4 => ?_) (fun h4 => ?_)
    · refine h_aload_n C dX8_share_19 0 rfl rfl ?_
      refine h_callV (As := []) (rest := []) C Z yyX8_knowWorths wd_1066 (tgX8_knowWorths l D cy z _ hI) kd_0 rfl rfl ⟨rfl, rfl, Nat.le_of_ble_eq_true rfl, Nat.le_of_ble_eq_true rfl⟩ ⟨Nat.le_of_ble_eq_true rfl, Nat.le_of_ble_eq_true rfl⟩ (Nat.le_of_ble_eq_true rfl) dX8_share_20 (fun r5 τ5 hp5 => ?_)
      obtain ⟨rfl, hI5, hG5⟩ := hp5
      have hF5 : ∀ j i : Nat, 169 ≤ j → τ5 j i = σ j i := fun j i h_0 => (hG5 j i (by omega)).trans (hF0 j i h_0)
      show hpV _ _ _ _ _ _ _ _ _ _ _ _ _ _ _ _ _ _ _ _ _ []
      refine h_aload_n C dX8_share_23 0 rfl rfl ?_
      refine h_iload_n C dX8_share_24 1 rfl rfl ?_
      refine h_callV (As := [.int (hpI a0)]) (rest := []) C Z yyX8_gainOverOrders wd_1070 (tgX8_gainOverOrders l D cy z _ a0 ⟨by omega, by omega⟩ hI5 (by omega)) kd_0 rfl rfl ⟨rfl, rfl, Nat.le_of_ble_eq_true rfl, Nat.le_of_ble_eq_true rfl⟩ ⟨Nat.le_of_ble_eq_true rfl, Nat.le_of_ble_eq_true rfl⟩ (Nat.le_of_ble_eq_true rfl) dX8_share_25 (fun r6 τ6 hp6 => ?_)
      obtain ⟨⟨x6, rfl, ⟨hx6a, hx6b⟩⟩, rfl⟩ := hp6
      show hpV _ _ _ _ _ _ _ _ _ _ _ _ _ _ _ _ _ _ _ _ _ (_ :: _)
      refine h_i2l C dX8_share_28 ⟨by omega, by omega⟩ ?_
      refine h_aload_n C dX8_share_29 0 rfl rfl ?_
      refine h_get C O8 1 kd_0 (by decide) wd_350 dX8_share_30 fr_0_1 ?_
      refine h_getN C O1 10 kd_3 (by decide) nw_103 dX8_share_33 (hp_fvI (by rw [kd_3]; rfl) rfl) ?_
      obtain ⟨hr7a, hr7b⟩ := hI5.b (bf_1_10 kd_3)
      generalize hg7 : τ5 3 10 = r7 at hr7a hr7b ⊢
      refine h_callS (As := [.int (hpI r7)]) (rest := [.long (hpJ x6)]) C Z yyX8_factorial rfl wd_1080 (tgX8_factorial l D cy z _ r7 ⟨by omega, by omega⟩ hI5 (by omega)) rfl rfl ⟨rfl, rfl, Nat.le_of_ble_eq_true rfl, Nat.le_of_ble_eq_true rfl⟩ ⟨Nat.le_of_ble_eq_true rfl, Nat.le_of_ble_eq_true rfl⟩ (Nat.le_of_ble_eq_true rfl) dX8_share_36 (fun r8 τ8 hp8 => ?_)
      obtain ⟨⟨x8, rfl, ⟨hx8a, hx8b⟩⟩, rfl⟩ := hp8
      show hpV _ _ _ _ _ _ _ _ _ _ _ _ _ _ _ _ _ _ _ _ _ (_ :: _)
      refine h_i2l C dX8_share_39 ⟨by omega, by omega⟩ ?_
      refine h_iload_n C dX8_share_40 2 rfl rfl ?_
      refine h_callS (As := [.long (hpJ x6), .long (hpJ x8), .int (hpI a1)]) (rest := []) C Z yyX8_fraction rfl wd_1083 (tgX8_fraction l D cy z _ x6 ⟨by omega, by omega⟩ x8 ⟨by omega, by omega⟩ a1 ⟨by omega, by omega⟩ hI5) rfl rfl ⟨rfl, rfl, Nat.le_of_ble_eq_true rfl, Nat.le_of_ble_eq_true rfl⟩ ⟨Nat.le_of_ble_eq_true rfl, Nat.le_of_ble_eq_true rfl⟩ (Nat.le_of_ble_eq_true rfl) dX8_share_41 (fun r9 τ9 hp9 => ?_)
      obtain ⟨⟨x9, rfl, ⟨hx9a, hx9b⟩⟩, rfl⟩ := hp9
      show hpV _ _ _ _ _ _ _ _ _ _ _ _ _ _ _ _ _ _ _ _ _ (_ :: _)
      refine h_l2i C dX8_share_44 ?_
      refine hp_anyI (fun r10 hr10 => ?_)
      obtain ⟨hr10a, hr10b⟩ := hr10
      refine h_ireturn C hr hlk dX8_share_45 ?_
      exact ⟨⟨_, rfl, ⟨by omega, by omega⟩⟩, hI5, hF5⟩
    · refine h_sipush C dX8_share_15 (by decide) ?_
      refine h_ireturn C hr hlk dX8_share_18 ?_
      exact ⟨⟨_, rfl, ⟨by decide, by decide⟩⟩, hI, hF0⟩
abbrev rgX8_wins : Room := { frames := 6, cells := 0, slots := 0, locals := 173 }
abbrev pgX8_wins (z : Nat) (σ : hpMem) (a0 : Int) (a1 : Int) : Option Value → hpMem → Prop := fun r τ => (∃ x : Int, r = some (.int (hpI x)) ∧ (hpR x)) ∧ hpInv τ ∧ (∀ j i : Nat, 169 ≤ j → τ j i = σ j i)
set_option maxHeartbeats 4000000 in
set_option maxRecDepth 20000 in
theorem tgX8_wins (l : Launch) (D : va_G) (cy : Nat → ClassId) (z : Nat) (σ : hpMem) (a0 : Int) (ha0 : hpR a0) (a1 : Int) (ha1 : hpR a1) (hI : hpInv σ) : hpM l D cy z yX8_wins cX8_wins 3 (some .int) rgX8_wins [.ref (z + 0), .int (hpI a0), .int (hpI a1)] σ (pgX8_wins z σ a0 a1) := by
  obtain ⟨ha01, ha02⟩ := ha0
  obtain ⟨ha11, ha12⟩ := ha1
  refine hp_met rfl (Nat.le_of_ble_eq_true rfl) (fun p e s m below meth c C Z hr hlk => ?_)
  have hF0 : ∀ j i : Nat, 169 ≤ j → σ j i = σ j i := fun j i _ => rfl
  refine h_aload_n C dX8_wins_0 0 rfl rfl ?_
  refine h_iload_n C dX8_wins_1 1 rfl rfl ?_
  refine h_callV (As := [.int (hpI a0)]) (rest := []) C Z yyX8_isDay wd_568 (tgX8_isDay l D cy z _ a0 ⟨by omega, by omega⟩ hI) kd_0 rfl rfl ⟨rfl, rfl, Nat.le_of_ble_eq_true rfl, Nat.le_of_ble_eq_true rfl⟩ ⟨Nat.le_of_ble_eq_true rfl, Nat.le_of_ble_eq_true rfl⟩ (Nat.le_of_ble_eq_true rfl) dX8_wins_2 (fun r1 τ1 hp1 => ?_)
  obtain ⟨⟨x1, rfl, ⟨hx1a, hx1b⟩, hx1⟩, rfl⟩ := hp1
  show hpV _ _ _ _ _ _ _ _ _ _ _ _ _ _ _ _ _ _ _ _ _ (_ :: _)
  refine h_if_eq (tgt := 20) C dX8_wins_5 (by decide) ⟨by omega, by omega⟩ (fun h2 => ?_) (fun h2 => ?_)
  · refine h_bipush C dX8_wins_20 (by decide) ?_
    refine h_ireturn C hr hlk dX8_wins_22 ?_
    exact ⟨⟨_, rfl, ⟨by decide, by decide⟩⟩, hI, hF0⟩
  · refine h_iload_n C dX8_wins_8 2 rfl rfl ?_
    refine h_iconst C dX8_wins_9 ?_
    refine h_icmp_lt (tgt := 20) C dX8_wins_10 (by decide) ⟨by omega, by omega⟩ ⟨by decide, by decide⟩ (fun h3 => ?_) (fun h3 => ?_)
    · refine h_bipush C dX8_wins_20 (by decide) ?_
      refine h_ireturn C hr hlk dX8_wins_22 ?_
      exact ⟨⟨_, rfl, ⟨by decide, by decide⟩⟩, hI, hF0⟩
    · refine h_iload_n C dX8_wins_13 2 rfl rfl ?_
      refine h_sipush C dX8_wins_14 (by decide) ?_
      refine h_icmp_le (tgt := 23) C dX8_wins_17 (by decide) ⟨by omega, by omega⟩ ⟨by decide, by decide⟩ (fun h4 => ?_) (fun h4 => ?_)
      · refine h_aload_n C dX8_wins_23 0 rfl rfl ?_
        refine h_iload_n C dX8_wins_24 1 rfl rfl ?_
        refine h_callV (As := [.int (hpI a0)]) (rest := []) C Z yyX8_rowOfDay wd_576 (tgX8_rowOfDay l D cy z _ a0 ⟨by omega, by omega⟩ hI) kd_0 rfl rfl ⟨rfl, rfl, Nat.le_of_ble_eq_true rfl, Nat.le_of_ble_eq_true rfl⟩ ⟨Nat.le_of_ble_eq_true rfl, Nat.le_of_ble_eq_true rfl⟩ (Nat.le_of_ble_eq_true rfl) dX8_wins_25 (fun r5 τ5 hp5 => ?_)
        obtain ⟨⟨x5, rfl, hx5⟩, hI5, hG5⟩ := hp5
        have hF5 : ∀ j i : Nat, 169 ≤ j → τ5 j i = σ j i := fun j i h_0 => (hG5 j i (by omega)).trans (hF0 j i h_0)
        have hl5 := kb_3 hx5
        show hpV _ _ _ _ _ _ _ _ _ _ _ _ _ _ _ _ _ _ _ _ _ (_ :: _)
        refine h_iload_n C dX8_wins_28 2 rfl rfl ?_
        refine h_iconst C dX8_wins_29 ?_
        refine h_iadd C dX8_wins_30 rfl ?_
        refine h_callVN (As := [.int (hpI (a1 + 1))]) (rest := []) C Z yyX3_nimSum nw_1096 (tgX3_nimSum l D cy z _ x5 hx5 (a1 + 1) ⟨by omega, by omega⟩ hI5) hx5 rfl rfl ⟨rfl, rfl, Nat.le_of_ble_eq_true rfl, Nat.le_of_ble_eq_true rfl⟩ ⟨Nat.le_of_ble_eq_true rfl, Nat.le_of_ble_eq_true rfl⟩ (Nat.le_of_ble_eq_true rfl) dX8_wins_31 (fun r6 τ6 hp6 => ?_)
        obtain ⟨⟨x6, rfl, ⟨hx6a, hx6b⟩⟩, rfl⟩ := hp6
        show hpV _ _ _ _ _ _ _ _ _ _ _ _ _ _ _ _ _ _ _ _ _ (_ :: _)
        refine h_if_eq (tgt := 41) C dX8_wins_34 (by decide) ⟨by omega, by omega⟩ (fun h7 => ?_) (fun h7 => ?_)
        · refine h_iconst C dX8_wins_41 ?_
          refine h_callS (As := [.int (hpI 0)]) (rest := []) C Z yyX8_asNumber rfl wd_742 (tgX8_asNumber l D cy z _ 0 ⟨by decide, by decide⟩ hI5) rfl rfl ⟨rfl, rfl, Nat.le_of_ble_eq_true rfl, Nat.le_of_ble_eq_true rfl⟩ ⟨Nat.le_of_ble_eq_true rfl, Nat.le_of_ble_eq_true rfl⟩ (Nat.le_of_ble_eq_true rfl) dX8_wins_42 (fun r8 τ8 hp8 => ?_)
          obtain ⟨⟨x8, rfl, ⟨hx8a, hx8b⟩, hx8⟩, rfl⟩ := hp8
          show hpV _ _ _ _ _ _ _ _ _ _ _ _ _ _ _ _ _ _ _ _ _ (_ :: _)
          refine h_ireturn C hr hlk dX8_wins_45 ?_
          exact ⟨⟨_, rfl, ⟨by omega, by omega⟩⟩, hI5, hF5⟩
        · refine h_iconst C dX8_wins_37 ?_
          refine h_goto (tgt := 42) C dX8_wins_38 (by decide) ?_
          refine h_callS (As := [.int (hpI 1)]) (rest := []) C Z yyX8_asNumber rfl wd_742 (tgX8_asNumber l D cy z _ 1 ⟨by decide, by decide⟩ hI5) rfl rfl ⟨rfl, rfl, Nat.le_of_ble_eq_true rfl, Nat.le_of_ble_eq_true rfl⟩ ⟨Nat.le_of_ble_eq_true rfl, Nat.le_of_ble_eq_true rfl⟩ (Nat.le_of_ble_eq_true rfl) dX8_wins_42 (fun r9 τ9 hp9 => ?_)
          obtain ⟨⟨x9, rfl, ⟨hx9a, hx9b⟩, hx9⟩, rfl⟩ := hp9
          show hpV _ _ _ _ _ _ _ _ _ _ _ _ _ _ _ _ _ _ _ _ _ (_ :: _)
          refine h_ireturn C hr hlk dX8_wins_45 ?_
          exact ⟨⟨_, rfl, ⟨by omega, by omega⟩⟩, hI5, hF5⟩
      · refine h_bipush C dX8_wins_20 (by decide) ?_
        refine h_ireturn C hr hlk dX8_wins_22 ?_
        exact ⟨⟨_, rfl, ⟨by decide, by decide⟩⟩, hI, hF0⟩
abbrev rgX8_moves : Room := { frames := 6, cells := 0, slots := 0, locals := 173 }
abbrev pgX8_moves (z : Nat) (σ : hpMem) (a0 : Int) (a1 : Int) : Option Value → hpMem → Prop := fun r τ => (∃ x : Int, r = some (.int (hpI x)) ∧ (hpR x)) ∧ hpInv τ ∧ (∀ j i : Nat, 169 ≤ j → τ j i = σ j i)
set_option maxHeartbeats 4000000 in
set_option maxRecDepth 20000 in
theorem tgX8_moves (l : Launch) (D : va_G) (cy : Nat → ClassId) (z : Nat) (σ : hpMem) (a0 : Int) (ha0 : hpR a0) (a1 : Int) (ha1 : hpR a1) (hI : hpInv σ) : hpM l D cy z yX8_moves cX8_moves 6 (some .int) rgX8_moves [.ref (z + 0), .int (hpI a0), .int (hpI a1)] σ (pgX8_moves z σ a0 a1) := by
  obtain ⟨ha01, ha02⟩ := ha0
  obtain ⟨ha11, ha12⟩ := ha1
  refine hp_met rfl (Nat.le_of_ble_eq_true rfl) (fun p e s m below meth c C Z hr hlk => ?_)
  have hF0 : ∀ j i : Nat, 169 ≤ j → σ j i = σ j i := fun j i _ => rfl
  refine h_aload_n C dX8_moves_0 0 rfl rfl ?_
  refine h_iload_n C dX8_moves_1 1 rfl rfl ?_
  refine h_callV (As := [.int (hpI a0)]) (rest := []) C Z yyX8_isDay wd_568 (tgX8_isDay l D cy z _ a0 ⟨by omega, by omega⟩ hI) kd_0 rfl rfl ⟨rfl, rfl, Nat.le_of_ble_eq_true rfl, Nat.le_of_ble_eq_true rfl⟩ ⟨Nat.le_of_ble_eq_true rfl, Nat.le_of_ble_eq_true rfl⟩ (Nat.le_of_ble_eq_true rfl) dX8_moves_2 (fun r1 τ1 hp1 => ?_)
  obtain ⟨⟨x1, rfl, ⟨hx1a, hx1b⟩, hx1⟩, rfl⟩ := hp1
  show hpV _ _ _ _ _ _ _ _ _ _ _ _ _ _ _ _ _ _ _ _ _ (_ :: _)
  refine h_if_eq (tgt := 20) C dX8_moves_5 (by decide) ⟨by omega, by omega⟩ (fun h2 => ?_) (fun h2 => ?_)
  · refine h_bipush C dX8_moves_20 (by decide) ?_
    refine h_ireturn C hr hlk dX8_moves_22 ?_
    exact ⟨⟨_, rfl, ⟨by decide, by decide⟩⟩, hI, hF0⟩
  · refine h_iload_n C dX8_moves_8 2 rfl rfl ?_
    refine h_iconst C dX8_moves_9 ?_
    refine h_icmp_lt (tgt := 20) C dX8_moves_10 (by decide) ⟨by omega, by omega⟩ ⟨by decide, by decide⟩ (fun h3 => ?_) (fun h3 => ?_)
    · refine h_bipush C dX8_moves_20 (by decide) ?_
      refine h_ireturn C hr hlk dX8_moves_22 ?_
      exact ⟨⟨_, rfl, ⟨by decide, by decide⟩⟩, hI, hF0⟩
    · refine h_iload_n C dX8_moves_13 2 rfl rfl ?_
      refine h_sipush C dX8_moves_14 (by decide) ?_
      refine h_icmp_le (tgt := 23) C dX8_moves_17 (by decide) ⟨by omega, by omega⟩ ⟨by decide, by decide⟩ (fun h4 => ?_) (fun h4 => ?_)
      · refine h_aload_n C dX8_moves_23 0 rfl rfl ?_
        refine h_iload_n C dX8_moves_24 1 rfl rfl ?_
        refine h_callV (As := [.int (hpI a0)]) (rest := []) C Z yyX8_rowOfDay wd_576 (tgX8_rowOfDay l D cy z _ a0 ⟨by omega, by omega⟩ hI) kd_0 rfl rfl ⟨rfl, rfl, Nat.le_of_ble_eq_true rfl, Nat.le_of_ble_eq_true rfl⟩ ⟨Nat.le_of_ble_eq_true rfl, Nat.le_of_ble_eq_true rfl⟩ (Nat.le_of_ble_eq_true rfl) dX8_moves_25 (fun r5 τ5 hp5 => ?_)
        obtain ⟨⟨x5, rfl, hx5⟩, hI5, hG5⟩ := hp5
        have hF5 : ∀ j i : Nat, 169 ≤ j → τ5 j i = σ j i := fun j i h_0 => (hG5 j i (by omega)).trans (hF0 j i h_0)
        have hl5 := kb_3 hx5
        show hpV _ _ _ _ _ _ _ _ _ _ _ _ _ _ _ _ _ _ _ _ _ (_ :: _)
        refine h_astore_n (lv' := [(3, .ref (z + x5)), (0, .ref (z + 0)), (1, .int (hpI a0)), (2, .int (hpI a1))]) C dX8_moves_28 rfl (by decide) rfl ?_
        refine h_iconst C dX8_moves_29 ?_
        refine h_istore (lv' := [(4, .int (hpI 0)), (3, .ref (z + x5)), (0, .ref (z + 0)), (1, .int (hpI a0)), (2, .int (hpI a1))]) C dX8_moves_30 (by decide) rfl ?_
        refine h_iconst C dX8_moves_32 ?_
        refine h_istore (lv' := [(5, .int (hpI 0)), (4, .int (hpI 0)), (3, .ref (z + x5)), (0, .ref (z + 0)), (1, .int (hpI a0)), (2, .int (hpI a1))]) C dX8_moves_33 (by decide) rfl ?_
        have L6 : ∀ (n6 : Nat) (w6_4 : Int) (w6_5 : Int), 0 ≤ w6_4 → w6_4 ≤ 2147483647 → 0 ≤ w6_5 → w6_5 ≤ 2147483647 → w6_4 ≤ w6_5 → (4294967296 - w6_5) < (n6 : Int) → hpF p l e rgX8_moves s m [.ref (z + 0), .int (hpI a0), .int (hpI a1)] below meth c 6 D cy z (pgX8_moves z σ a0 a1) τ5 35 [(0, .ref (z + 0)), (1, .int (hpI a0)), (2, .int (hpI a1)), (3, .ref (z + x5)), (4, .int (hpI w6_4)), (5, .int (hpI w6_5))] [] := by
          intro n6
          induction n6 with
          | zero => intro w6_4 w6_5 hv6_0 hv6_1 hv6_2 hv6_3 hv6_4 hm6; exfalso; omega
          | succ n6 ih6 =>
            intro w6_4 w6_5 hv6_0 hv6_1 hv6_2 hv6_3 hv6_4 hm6
            refine h_iload C dX8_moves_35 5 rfl ?_
            refine h_aload_n C dX8_moves_37 3 rfl rfl ?_
            refine h_getN C O3 2 hx5 (by decide) nw_159 dX8_moves_38 (hp_fvI (by rw [hx5]; rfl) rfl) ?_
            obtain ⟨hr7a, hr7b⟩ := hI5.b (bf_3_2 hx5)
            generalize hg7 : τ5 x5 2 = r7 at hr7a hr7b ⊢
            refine h_icmp_ge (tgt := 65) C dX8_moves_41 (by decide) ⟨by omega, by omega⟩ ⟨by omega, by omega⟩ (fun h8 => ?_) (fun h8 => ?_)
            · refine h_iload C dX8_moves_65 4 rfl ?_
              refine h_ireturn C hr hlk dX8_moves_67 ?_
              exact ⟨⟨_, rfl, ⟨by omega, by omega⟩⟩, hI5, hF5⟩
            · refine h_aload_n C dX8_moves_44 3 rfl rfl ?_
              refine h_iload C dX8_moves_45 5 rfl ?_
              refine h_iload_n C dX8_moves_47 2 rfl rfl ?_
              refine h_iconst C dX8_moves_48 ?_
              refine h_iadd C dX8_moves_49 rfl ?_
              refine h_callVN (As := [.int (hpI w6_5), .int (hpI (a1 + 1))]) (rest := []) C Z yyX3_winningTake nw_1104 (tgX3_winningTake l D cy z _ x5 hx5 w6_5 ⟨by omega, by omega⟩ (a1 + 1) ⟨by omega, by omega⟩ hI5) hx5 rfl rfl ⟨rfl, rfl, Nat.le_of_ble_eq_true rfl, Nat.le_of_ble_eq_true rfl⟩ ⟨Nat.le_of_ble_eq_true rfl, Nat.le_of_ble_eq_true rfl⟩ (Nat.le_of_ble_eq_true rfl) dX8_moves_50 (fun r9 τ9 hp9 => ?_)
              obtain ⟨⟨x9, rfl, ⟨hx9a, hx9b⟩⟩, rfl⟩ := hp9
              show hpV _ _ _ _ _ _ _ _ _ _ _ _ _ _ _ _ _ _ _ _ _ (_ :: _)
              refine h_if_le (tgt := 59) C dX8_moves_53 (by decide) ⟨by omega, by omega⟩ (fun h10 => ?_) (fun h10 => ?_)
              · refine h_iinc (lv' := [(5, .int (hpI (w6_5 + 1))), (0, .ref (z + 0)), (1, .int (hpI a0)), (2, .int (hpI a1)), (3, .ref (z + x5)), (4, .int (hpI w6_4))]) C dX8_moves_59 5 rfl rfl (by decide) rfl ?_
                refine h_goto (tgt := 35) C dX8_moves_62 (by decide) ?_
                exact hp_sub [1, 2, 3, 4, 5, 0] rfl (ih6 w6_4 (w6_5 + 1) (by omega) (by omega) (by omega) (by omega) (by omega) (by omega))
              · refine h_iinc (lv' := [(4, .int (hpI (w6_4 + 1))), (0, .ref (z + 0)), (1, .int (hpI a0)), (2, .int (hpI a1)), (3, .ref (z + x5)), (5, .int (hpI w6_5))]) C dX8_moves_56 4 rfl rfl (by decide) rfl ?_
                refine h_iinc (lv' := [(5, .int (hpI (w6_5 + 1))), (4, .int (hpI (w6_4 + 1))), (0, .ref (z + 0)), (1, .int (hpI a0)), (2, .int (hpI a1)), (3, .ref (z + x5))]) C dX8_moves_59 5 rfl rfl (by decide) rfl ?_
                refine h_goto (tgt := 35) C dX8_moves_62 (by decide) ?_
                exact hp_sub [2, 3, 4, 5, 1, 0] rfl (ih6 (w6_4 + 1) (w6_5 + 1) (by omega) (by omega) (by omega) (by omega) (by omega) (by omega))
        exact hp_sub [3, 4, 5, 2, 1, 0] rfl (L6 8589934592 0 0 (by omega) (by omega) (by omega) (by omega) (by omega) (by omega))
      · refine h_bipush C dX8_moves_20 (by decide) ?_
        refine h_ireturn C hr hlk dX8_moves_22 ?_
        exact ⟨⟨_, rfl, ⟨by decide, by decide⟩⟩, hI, hF0⟩
abbrev rgX8_move : Room := { frames := 6, cells := 0, slots := 0, locals := 173 }
abbrev pgX8_move (z : Nat) (σ : hpMem) (a0 : Int) (a1 : Int) : Option Value → hpMem → Prop := fun r τ => (∃ x : Int, r = some (.int (hpI x)) ∧ (hpR x)) ∧ hpInv τ ∧ (∀ j i : Nat, 169 ≤ j → τ j i = σ j i)
set_option maxHeartbeats 4000000 in
set_option maxRecDepth 20000 in
theorem tgX8_move (l : Launch) (D : va_G) (cy : Nat → ClassId) (z : Nat) (σ : hpMem) (a0 : Int) (ha0 : hpR a0) (a1 : Int) (ha1 : hpR a1) (hI : hpInv σ) : hpM l D cy z yX8_move cX8_move 6 (some .int) rgX8_move [.ref (z + 0), .int (hpI a0), .int (hpI a1)] σ (pgX8_move z σ a0 a1) := by
  obtain ⟨ha01, ha02⟩ := ha0
  obtain ⟨ha11, ha12⟩ := ha1
  refine hp_met rfl (Nat.le_of_ble_eq_true rfl) (fun p e s m below meth c C Z hr hlk => ?_)
  have hF0 : ∀ j i : Nat, 169 ≤ j → σ j i = σ j i := fun j i _ => rfl
  refine h_aload_n C dX8_move_0 0 rfl rfl ?_
  refine h_iload_n C dX8_move_1 1 rfl rfl ?_
  refine h_callV (As := [.int (hpI a0)]) (rest := []) C Z yyX8_isDay wd_568 (tgX8_isDay l D cy z _ a0 ⟨by omega, by omega⟩ hI) kd_0 rfl rfl ⟨rfl, rfl, Nat.le_of_ble_eq_true rfl, Nat.le_of_ble_eq_true rfl⟩ ⟨Nat.le_of_ble_eq_true rfl, Nat.le_of_ble_eq_true rfl⟩ (Nat.le_of_ble_eq_true rfl) dX8_move_2 (fun r1 τ1 hp1 => ?_)
  obtain ⟨⟨x1, rfl, ⟨hx1a, hx1b⟩, hx1⟩, rfl⟩ := hp1
  show hpV _ _ _ _ _ _ _ _ _ _ _ _ _ _ _ _ _ _ _ _ _ (_ :: _)
  refine h_if_eq (tgt := 20) C dX8_move_5 (by decide) ⟨by omega, by omega⟩ (fun h2 => ?_) (fun h2 => ?_)
  · refine h_bipush C dX8_move_20 (by decide) ?_
    refine h_ireturn C hr hlk dX8_move_22 ?_
    exact ⟨⟨_, rfl, ⟨by decide, by decide⟩⟩, hI, hF0⟩
  · refine h_iload_n C dX8_move_8 2 rfl rfl ?_
    refine h_iconst C dX8_move_9 ?_
    refine h_icmp_lt (tgt := 20) C dX8_move_10 (by decide) ⟨by omega, by omega⟩ ⟨by decide, by decide⟩ (fun h3 => ?_) (fun h3 => ?_)
    · refine h_bipush C dX8_move_20 (by decide) ?_
      refine h_ireturn C hr hlk dX8_move_22 ?_
      exact ⟨⟨_, rfl, ⟨by decide, by decide⟩⟩, hI, hF0⟩
    · refine h_iload_n C dX8_move_13 2 rfl rfl ?_
      refine h_sipush C dX8_move_14 (by decide) ?_
      refine h_icmp_le (tgt := 23) C dX8_move_17 (by decide) ⟨by omega, by omega⟩ ⟨by decide, by decide⟩ (fun h4 => ?_) (fun h4 => ?_)
      · refine h_aload_n C dX8_move_23 0 rfl rfl ?_
        refine h_iload_n C dX8_move_24 1 rfl rfl ?_
        refine h_callV (As := [.int (hpI a0)]) (rest := []) C Z yyX8_rowOfDay wd_576 (tgX8_rowOfDay l D cy z _ a0 ⟨by omega, by omega⟩ hI) kd_0 rfl rfl ⟨rfl, rfl, Nat.le_of_ble_eq_true rfl, Nat.le_of_ble_eq_true rfl⟩ ⟨Nat.le_of_ble_eq_true rfl, Nat.le_of_ble_eq_true rfl⟩ (Nat.le_of_ble_eq_true rfl) dX8_move_25 (fun r5 τ5 hp5 => ?_)
        obtain ⟨⟨x5, rfl, hx5⟩, hI5, hG5⟩ := hp5
        have hF5 : ∀ j i : Nat, 169 ≤ j → τ5 j i = σ j i := fun j i h_0 => (hG5 j i (by omega)).trans (hF0 j i h_0)
        have hl5 := kb_3 hx5
        show hpV _ _ _ _ _ _ _ _ _ _ _ _ _ _ _ _ _ _ _ _ _ (_ :: _)
        refine h_astore_n (lv' := [(3, .ref (z + x5)), (0, .ref (z + 0)), (1, .int (hpI a0)), (2, .int (hpI a1))]) C dX8_move_28 rfl (by decide) rfl ?_
        refine h_iconst C dX8_move_29 ?_
        refine h_istore (lv' := [(4, .int (hpI 0)), (3, .ref (z + x5)), (0, .ref (z + 0)), (1, .int (hpI a0)), (2, .int (hpI a1))]) C dX8_move_30 (by decide) rfl ?_
        have L6 : ∀ (n6 : Nat) (w6_4 : Int), 0 ≤ w6_4 → w6_4 ≤ 2147483647 → (4294967296 - w6_4) < (n6 : Int) → hpF p l e rgX8_move s m [.ref (z + 0), .int (hpI a0), .int (hpI a1)] below meth c 6 D cy z (pgX8_move z σ a0 a1) τ5 32 [(0, .ref (z + 0)), (1, .int (hpI a0)), (2, .int (hpI a1)), (3, .ref (z + x5)), (4, .int (hpI w6_4))] [] := by
          intro n6
          induction n6 with
          | zero => intro w6_4 hv6_0 hv6_1 hm6; exfalso; omega
          | succ n6 ih6 =>
            intro w6_4 hv6_0 hv6_1 hm6
            refine h_iload C dX8_move_32 4 rfl ?_
            refine h_aload_n C dX8_move_34 3 rfl rfl ?_
            refine h_getN C O3 2 hx5 (by decide) nw_159 dX8_move_35 (hp_fvI (by rw [hx5]; rfl) rfl) ?_
            obtain ⟨hr7a, hr7b⟩ := hI5.b (bf_3_2 hx5)
            generalize hg7 : τ5 x5 2 = r7 at hr7a hr7b ⊢
            refine h_icmp_ge (tgt := 78) C dX8_move_38 (by decide) ⟨by omega, by omega⟩ ⟨by omega, by omega⟩ (fun h8 => ?_) (fun h8 => ?_)
            · refine h_iconst C dX8_move_78 ?_
              refine h_ireturn C hr hlk dX8_move_79 ?_
              exact ⟨⟨_, rfl, ⟨by decide, by decide⟩⟩, hI5, hF5⟩
            · refine h_aload_n C dX8_move_41 3 rfl rfl ?_
              refine h_iload C dX8_move_42 4 rfl ?_
              refine h_iload_n C dX8_move_44 2 rfl rfl ?_
              refine h_iconst C dX8_move_45 ?_
              refine h_iadd C dX8_move_46 rfl ?_
              refine h_callVN (As := [.int (hpI w6_4), .int (hpI (a1 + 1))]) (rest := []) C Z yyX3_winningTake nw_1104 (tgX3_winningTake l D cy z _ x5 hx5 w6_4 ⟨by omega, by omega⟩ (a1 + 1) ⟨by omega, by omega⟩ hI5) hx5 rfl rfl ⟨rfl, rfl, Nat.le_of_ble_eq_true rfl, Nat.le_of_ble_eq_true rfl⟩ ⟨Nat.le_of_ble_eq_true rfl, Nat.le_of_ble_eq_true rfl⟩ (Nat.le_of_ble_eq_true rfl) dX8_move_47 (fun r9 τ9 hp9 => ?_)
              obtain ⟨⟨x9, rfl, ⟨hx9a, hx9b⟩⟩, rfl⟩ := hp9
              show hpV _ _ _ _ _ _ _ _ _ _ _ _ _ _ _ _ _ _ _ _ _ (_ :: _)
              refine h_istore (lv' := [(5, .int (hpI x9)), (0, .ref (z + 0)), (1, .int (hpI a0)), (2, .int (hpI a1)), (3, .ref (z + x5)), (4, .int (hpI w6_4))]) C dX8_move_50 (by decide) rfl ?_
              refine h_iload C dX8_move_52 0 rfl ?_
              refine h_if_le (tgt := 72) C dX8_move_54 (by decide) ⟨by omega, by omega⟩ (fun h10 => ?_) (fun h10 => ?_)
              · refine h_iinc (lv' := [(4, .int (hpI (w6_4 + 1))), (5, .int (hpI x9)), (0, .ref (z + 0)), (1, .int (hpI a0)), (2, .int (hpI a1)), (3, .ref (z + x5))]) C dX8_move_72 5 rfl rfl (by decide) rfl ?_
                refine h_goto (tgt := 32) C dX8_move_75 (by decide) ?_
                exact hp_sub [2, 3, 4, 5, 0] rfl (ih6 (w6_4 + 1) (by omega) (by omega) (by omega))
              · refine h_sipush C dX8_move_57 (by decide) ?_
                refine h_aload_n C dX8_move_60 4 rfl rfl ?_
                refine h_getN C O3 0 hx5 (by decide) nw_154 dX8_move_61 (fs_3_0 hx5) ?_
                refine h_iload C dX8_move_64 5 rfl ?_
                refine h_iaload C dX8_move_66 (fa_3_0 hx5) (w6_4).toNat (Int.toNat_of_nonneg (by omega)) (by rw [(fl_3_0 hx5)]; omega) rfl ?_
                obtain ⟨hr11a, hr11b⟩ := hI5.b (fo_3_0 hx5 _)
                generalize hg11 : τ5 (x5 + 1) ((w6_4).toNat) = r11 at hr11a hr11b ⊢
                refine h_imul C dX8_move_67 rfl ?_
                refine hp_anyI (fun r12 hr12 => ?_)
                obtain ⟨hr12a, hr12b⟩ := hr12
                refine h_iload C dX8_move_68 0 rfl ?_
                refine h_iadd C dX8_move_70 rfl ?_
                refine hp_anyI (fun r13 hr13 => ?_)
                obtain ⟨hr13a, hr13b⟩ := hr13
                refine h_ireturn C hr hlk dX8_move_71 ?_
                exact ⟨⟨_, rfl, ⟨by omega, by omega⟩⟩, hI5, hF5⟩
        exact hp_sub [2, 3, 4, 1, 0] rfl (L6 8589934592 0 (by omega) (by omega) (by omega))
      · refine h_bipush C dX8_move_20 (by decide) ?_
        refine h_ireturn C hr hlk dX8_move_22 ?_
        exact ⟨⟨_, rfl, ⟨by decide, by decide⟩⟩, hI, hF0⟩
abbrev rgX8_rests : Room := { frames := 6, cells := 0, slots := 0, locals := 176 }
abbrev pgX8_rests (z : Nat) (σ : hpMem) (a0 : Int) (a1 : Int) : Option Value → hpMem → Prop := fun r τ => (∃ x : Int, r = some (.int (hpI x)) ∧ (hpR x)) ∧ hpInv τ ∧ (∀ j i : Nat, 169 ≤ j → τ j i = σ j i)
set_option maxHeartbeats 4000000 in
set_option maxRecDepth 20000 in
theorem tgX8_rests (l : Launch) (D : va_G) (cy : Nat → ClassId) (z : Nat) (σ : hpMem) (a0 : Int) (ha0 : hpR a0) (a1 : Int) (ha1 : hpR a1) (hI : hpInv σ) : hpM l D cy z yX8_rests cX8_rests 5 (some .int) rgX8_rests [.ref (z + 0), .int (hpI a0), .int (hpI a1)] σ (pgX8_rests z σ a0 a1) := by
  obtain ⟨ha01, ha02⟩ := ha0
  obtain ⟨ha11, ha12⟩ := ha1
  refine hp_met rfl (Nat.le_of_ble_eq_true rfl) (fun p e s m below meth c C Z hr hlk => ?_)
  have hF0 : ∀ j i : Nat, 169 ≤ j → σ j i = σ j i := fun j i _ => rfl
  refine h_aload_n C dX8_rests_0 0 rfl rfl ?_
  refine h_iload_n C dX8_rests_1 1 rfl rfl ?_
  refine h_callV (As := [.int (hpI a0)]) (rest := []) C Z yyX8_isCart wd_557 (tgX8_isCart l D cy z _ a0 ⟨by omega, by omega⟩ hI) kd_0 rfl rfl ⟨rfl, rfl, Nat.le_of_ble_eq_true rfl, Nat.le_of_ble_eq_true rfl⟩ ⟨Nat.le_of_ble_eq_true rfl, Nat.le_of_ble_eq_true rfl⟩ (Nat.le_of_ble_eq_true rfl) dX8_rests_2 (fun r1 τ1 hp1 => ?_)
  obtain ⟨⟨x1, rfl, ⟨hx1a, hx1b⟩, hx1⟩, rfl⟩ := hp1
  show hpV _ _ _ _ _ _ _ _ _ _ _ _ _ _ _ _ _ _ _ _ _ (_ :: _)
  refine h_if_eq (tgt := 21) C dX8_rests_5 (by decide) ⟨by omega, by omega⟩ (fun h2 => ?_) (fun h2 => ?_)
  · refine h_bipush C dX8_rests_21 (by decide) ?_
    refine h_ireturn C hr hlk dX8_rests_23 ?_
    exact ⟨⟨_, rfl, ⟨by decide, by decide⟩⟩, hI, hF0⟩
  · refine h_aload_n C dX8_rests_8 0 rfl rfl ?_
    refine h_iload_n C dX8_rests_9 2 rfl rfl ?_
    refine h_callV (As := [.int (hpI a1)]) (rest := []) C Z yyX8_isCart wd_557 (tgX8_isCart l D cy z _ a1 ⟨by omega, by omega⟩ hI) kd_0 rfl rfl ⟨rfl, rfl, Nat.le_of_ble_eq_true rfl, Nat.le_of_ble_eq_true rfl⟩ ⟨Nat.le_of_ble_eq_true rfl, Nat.le_of_ble_eq_true rfl⟩ (Nat.le_of_ble_eq_true rfl) dX8_rests_10 (fun r3 τ3 hp3 => ?_)
    obtain ⟨⟨x3, rfl, ⟨hx3a, hx3b⟩, hx3⟩, rfl⟩ := hp3
    show hpV _ _ _ _ _ _ _ _ _ _ _ _ _ _ _ _ _ _ _ _ _ (_ :: _)
    refine h_if_eq (tgt := 21) C dX8_rests_13 (by decide) ⟨by omega, by omega⟩ (fun h4 => ?_) (fun h4 => ?_)
    · refine h_bipush C dX8_rests_21 (by decide) ?_
      refine h_ireturn C hr hlk dX8_rests_23 ?_
      exact ⟨⟨_, rfl, ⟨by decide, by decide⟩⟩, hI, hF0⟩
    · refine h_iload_n C dX8_rests_16 1 rfl rfl ?_
      refine h_iload_n C dX8_rests_17 2 rfl rfl ?_
      refine h_icmp_ne (tgt := 24) C dX8_rests_18 (by decide) ⟨by omega, by omega⟩ ⟨by omega, by omega⟩ (fun h5 => ?_) (fun h5 => ?_)
      · refine h_iconst C dX8_rests_24 ?_
        refine h_istore_n (lv' := [(3, .int (hpI 0)), (0, .ref (z + 0)), (1, .int (hpI a0)), (2, .int (hpI a1))]) C dX8_rests_25 rfl (by decide) rfl ?_
        have L6 : ∀ (n6 : Nat) (τ6 : hpMem) (w6_3 : Int), 0 ≤ w6_3 → w6_3 ≤ 2147483647 → hpInv τ6 → (∀ j i : Nat, 169 ≤ j → τ6 j i = σ j i) → (4294967296 - w6_3) < (n6 : Int) → hpF p l e rgX8_rests s m [.ref (z + 0), .int (hpI a0), .int (hpI a1)] below meth c 5 D cy z (pgX8_rests z σ a0 a1) τ6 26 [(0, .ref (z + 0)), (1, .int (hpI a0)), (2, .int (hpI a1)), (3, .int (hpI w6_3))] [] := by
          intro n6
          induction n6 with
          | zero => intro τ6 w6_3 hv6_0 hv6_1 hI6 hF6 hm6; exfalso; omega
          | succ n6 ih6 =>
            intro τ6 w6_3 hv6_0 hv6_1 hI6 hF6 hm6
            refine h_iload_n C dX8_rests_26 3 rfl rfl ?_
            refine h_iconst C dX8_rests_27 ?_
            refine h_icmp_ge (tgt := 81) C dX8_rests_28 (by decide) ⟨by omega, by omega⟩ ⟨by decide, by decide⟩ (fun h7 => ?_) (fun h7 => ?_)
            · refine h_iconst C dX8_rests_81 ?_
              refine h_istore_n (lv' := [(3, .int (hpI 0)), (0, .ref (z + 0)), (1, .int (hpI a0)), (2, .int (hpI a1))]) C dX8_rests_82 rfl (by decide) rfl ?_
              refine h_iconst C dX8_rests_83 ?_
              refine h_istore (lv' := [(4, .int (hpI 0)), (3, .int (hpI 0)), (0, .ref (z + 0)), (1, .int (hpI a0)), (2, .int (hpI a1))]) C dX8_rests_84 (by decide) rfl ?_
              have L8 : ∀ (n8 : Nat) (w8_3 : Int) (w8_4 : Int), -2147483648 ≤ w8_3 → w8_3 ≤ 2147483647 → 0 ≤ w8_4 → w8_4 ≤ 2147483647 → (4294967296 - w8_4) < (n8 : Int) → hpF p l e rgX8_rests s m [.ref (z + 0), .int (hpI a0), .int (hpI a1)] below meth c 5 D cy z (pgX8_rests z σ a0 a1) τ6 86 [(0, .ref (z + 0)), (1, .int (hpI a0)), (2, .int (hpI a1)), (3, .int (hpI w8_3)), (4, .int (hpI w8_4))] [] := by
                intro n8
                induction n8 with
                | zero => intro w8_3 w8_4 hv8_0 hv8_1 hv8_2 hv8_3 hm8; exfalso; omega
                | succ n8 ih8 =>
                  intro w8_3 w8_4 hv8_0 hv8_1 hv8_2 hv8_3 hm8
                  refine h_iload C dX8_rests_86 4 rfl ?_
                  refine h_iconst C dX8_rests_88 ?_
                  refine h_icmp_ge (tgt := 147) C dX8_rests_89 (by decide) ⟨by omega, by omega⟩ ⟨by decide, by decide⟩ (fun h9 => ?_) (fun h9 => ?_)
                  · refine h_iload_n C dX8_rests_147 3 rfl rfl ?_
                    refine h_ireturn C hr hlk dX8_rests_148 ?_
                    exact ⟨⟨_, rfl, ⟨by omega, by omega⟩⟩, hI6, hF6⟩
                  · refine h_aload_n C dX8_rests_92 0 rfl rfl ?_
                    refine h_get C O8 12 kd_0 (by decide) wd_361 dX8_rests_93 fr_0_12 ?_
                    refine h_iload C dX8_rests_96 4 rfl ?_
                    refine h_iaload C dX8_rests_98 kd_168 (w8_4).toNat (Int.toNat_of_nonneg (by omega)) (by rw [ln_168]; omega) rfl ?_
                    obtain ⟨hr10a, hr10b⟩ := hI6.b (bo_168 _)
                    generalize hg10 : τ6 168 ((w8_4).toNat) = r10 at hr10a hr10b ⊢
                    refine h_aload_n C dX8_rests_99 0 rfl rfl ?_
                    refine h_get C O8 12 kd_0 (by decide) wd_361 dX8_rests_100 fr_0_12 ?_
                    refine h_iload C dX8_rests_103 4 rfl ?_
                    refine h_iconst C dX8_rests_105 ?_
                    refine h_ixor_b 2 C dX8_rests_106 (by decide) ⟨by omega, by omega⟩ ⟨by omega, by omega⟩ (fun r11 hr11a hr11b => ?_)
                    refine h_iaload C dX8_rests_107 kd_168 (r11).toNat (Int.toNat_of_nonneg (by omega)) (by rw [ln_168]; omega) rfl ?_
                    obtain ⟨hr12a, hr12b⟩ := hI6.b (bo_168 _)
                    generalize hg12 : τ6 168 ((r11).toNat) = r12 at hr12a hr12b ⊢
                    refine h_icmp_lt (tgt := 141) C dX8_rests_108 (by decide) ⟨by omega, by omega⟩ ⟨by omega, by omega⟩ (fun h13 => ?_) (fun h13 => ?_)
                    · refine h_iinc (lv' := [(4, .int (hpI (w8_4 + 1))), (0, .ref (z + 0)), (1, .int (hpI a0)), (2, .int (hpI a1)), (3, .int (hpI w8_3))]) C dX8_rests_141 4 rfl rfl (by decide) rfl ?_
                      refine h_goto (tgt := 86) C dX8_rests_144 (by decide) ?_
                      exact hp_sub [1, 2, 3, 4, 0] rfl (ih8 w8_3 (w8_4 + 1) (by omega) (by omega) (by omega) (by omega) (by omega))
                    · refine h_aload_n C dX8_rests_111 0 rfl rfl ?_
                      refine h_get C O8 12 kd_0 (by decide) wd_361 dX8_rests_112 fr_0_12 ?_
                      refine h_iconst C dX8_rests_115 ?_
                      refine h_iload C dX8_rests_116 4 rfl ?_
                      refine h_iadd C dX8_rests_118 rfl ?_
                      refine h_iaload C dX8_rests_119 kd_168 (4 + w8_4).toNat (Int.toNat_of_nonneg (by omega)) (by rw [ln_168]; omega) rfl ?_
                      obtain ⟨hr14a, hr14b⟩ := hI6.b (bo_168 _)
                      generalize hg14 : τ6 168 ((4 + w8_4).toNat) = r14 at hr14a hr14b ⊢
                      refine h_aload_n C dX8_rests_120 0 rfl rfl ?_
                      refine h_get C O8 12 kd_0 (by decide) wd_361 dX8_rests_121 fr_0_12 ?_
                      refine h_iconst C dX8_rests_124 ?_
                      refine h_iload C dX8_rests_125 4 rfl ?_
                      refine h_iconst C dX8_rests_127 ?_
                      refine h_ixor_b 2 C dX8_rests_128 (by decide) ⟨by omega, by omega⟩ ⟨by omega, by omega⟩ (fun r15 hr15a hr15b => ?_)
                      refine h_iadd C dX8_rests_129 rfl ?_
                      refine h_iaload C dX8_rests_130 kd_168 (4 + r15).toNat (Int.toNat_of_nonneg (by omega)) (by rw [ln_168]; omega) rfl ?_
                      obtain ⟨hr16a, hr16b⟩ := hI6.b (bo_168 _)
                      generalize hg16 : τ6 168 ((4 + r15).toNat) = r16 at hr16a hr16b ⊢
                      refine h_icmp_lt (tgt := 141) C dX8_rests_131 (by decide) ⟨by omega, by omega⟩ ⟨by omega, by omega⟩ (fun h17 => ?_) (fun h17 => ?_)
                      · refine h_iinc (lv' := [(4, .int (hpI (w8_4 + 1))), (0, .ref (z + 0)), (1, .int (hpI a0)), (2, .int (hpI a1)), (3, .int (hpI w8_3))]) C dX8_rests_141 4 rfl rfl (by decide) rfl ?_
                        refine h_goto (tgt := 86) C dX8_rests_144 (by decide) ?_
                        exact hp_sub [1, 2, 3, 4, 0] rfl (ih8 w8_3 (w8_4 + 1) (by omega) (by omega) (by omega) (by omega) (by omega))
                      · refine h_iload_n C dX8_rests_134 3 rfl rfl ?_
                        refine h_iconst C dX8_rests_135 ?_
                        refine h_iload C dX8_rests_136 4 rfl ?_
                        refine h_ishl_b (mm := 3) (M := 8) C dX8_rests_138 (by omega) (by omega) (by decide +kernel) (fun r18 hr18a hr18b => ?_)
                        refine h_ior_any C dX8_rests_139 (fun r19 hr19 => ?_)
                        obtain ⟨hr19a, hr19b⟩ := hr19
                        refine h_istore_n (lv' := [(3, .int (hpI r19)), (0, .ref (z + 0)), (1, .int (hpI a0)), (2, .int (hpI a1)), (4, .int (hpI w8_4))]) C dX8_rests_140 rfl (by decide) rfl ?_
                        refine h_iinc (lv' := [(4, .int (hpI (w8_4 + 1))), (3, .int (hpI r19)), (0, .ref (z + 0)), (1, .int (hpI a0)), (2, .int (hpI a1))]) C dX8_rests_141 4 rfl rfl (by decide) rfl ?_
                        refine h_goto (tgt := 86) C dX8_rests_144 (by decide) ?_
                        exact hp_sub [2, 3, 4, 1, 0] rfl (ih8 r19 (w8_4 + 1) (by omega) (by omega) (by omega) (by omega) (by omega))
              exact hp_sub [2, 3, 4, 1, 0] rfl (L8 8589934592 0 0 (by omega) (by omega) (by omega) (by omega) (by omega))
            · refine h_aload_n C dX8_rests_31 0 rfl rfl ?_
              refine h_iload_n C dX8_rests_32 1 rfl rfl ?_
              refine h_iload_n C dX8_rests_33 2 rfl rfl ?_
              refine h_iload_n C dX8_rests_34 3 rfl rfl ?_
              refine h_iconst C dX8_rests_35 ?_
              refine h_iand_r C dX8_rests_36 ⟨by decide, by decide⟩ (by omega) (fun r20 hr20a hr20b => ?_)
              refine h_iload_n C dX8_rests_37 3 rfl rfl ?_
              refine h_iconst C dX8_rests_38 ?_
              refine h_ishr_any C dX8_rests_39 (fun r21 hr21 => ?_)
              obtain ⟨hr21a, hr21b⟩ := hr21
              refine h_callV (As := [.int (hpI a0), .int (hpI a1), .int (hpI r20), .int (hpI r21)]) (rest := []) C Z yyX8_passLate wd_1117 (tgX8_passLate l D cy z _ a0 ⟨by omega, by omega⟩ a1 ⟨by omega, by omega⟩ r20 ⟨by omega, by omega⟩ r21 ⟨by omega, by omega⟩ hI6) kd_0 rfl rfl ⟨rfl, rfl, Nat.le_of_ble_eq_true rfl, Nat.le_of_ble_eq_true rfl⟩ ⟨Nat.le_of_ble_eq_true rfl, Nat.le_of_ble_eq_true rfl⟩ (Nat.le_of_ble_eq_true rfl) dX8_rests_40 (fun r22 τ22 hp22 => ?_)
              obtain ⟨⟨x22, rfl, hx22⟩, hI22, hG22⟩ := hp22
              have hF22 : ∀ j i : Nat, 169 ≤ j → τ22 j i = σ j i := fun j i h_0 => (hG22 j i (by omega)).trans (hF6 j i h_0)
              have hl22 := kb_3 hx22
              show hpV _ _ _ _ _ _ _ _ _ _ _ _ _ _ _ _ _ _ _ _ _ (_ :: _)
              refine h_astore (lv' := [(4, .ref (z + x22)), (0, .ref (z + 0)), (1, .int (hpI a0)), (2, .int (hpI a1)), (3, .int (hpI w6_3))]) C dX8_rests_43 (by decide) rfl ?_
              refine h_aload_n C dX8_rests_45 1 rfl rfl ?_
              refine h_get C O8 12 kd_0 (by decide) wd_361 dX8_rests_46 fr_0_12 ?_
              refine h_iload_n C dX8_rests_49 4 rfl rfl ?_
              refine h_aload C dX8_rests_50 0 rfl ?_
              refine h_iload_n C dX8_rests_52 4 rfl rfl ?_
              refine h_iconst C dX8_rests_53 ?_
              refine h_iand_r C dX8_rests_54 ⟨by decide, by decide⟩ (by omega) (fun r23 hr23a hr23b => ?_)
              refine h_callS (As := [.ref (z + x22), .int (hpI r23)]) (rest := [.int (hpI w6_3), .ref (z + 168)]) C Z yyX8_payOfFirst rfl wd_1121 (tgX8_payOfFirst l D cy z _ x22 hx22 r23 ⟨by omega, by omega⟩ hI22) rfl rfl ⟨rfl, rfl, Nat.le_of_ble_eq_true rfl, Nat.le_of_ble_eq_true rfl⟩ ⟨Nat.le_of_ble_eq_true rfl, Nat.le_of_ble_eq_true rfl⟩ (Nat.le_of_ble_eq_true rfl) dX8_rests_55 (fun r24 τ24 hp24 => ?_)
              obtain ⟨⟨x24, rfl, ⟨hx24a, hx24b⟩⟩, rfl⟩ := hp24
              show hpV _ _ _ _ _ _ _ _ _ _ _ _ _ _ _ _ _ _ _ _ _ (_ :: _)
              refine h_iastore C dX8_rests_58 kd_168 (w6_3).toNat (Int.toNat_of_nonneg (by omega)) (by rw [ln_168]; omega) ?_
              obtain ⟨τ25, e25⟩ : ∃ μ : hpMem, μ = hpw τ22 168 ((w6_3).toNat) x24 := ⟨_, rfl⟩
              rw [← e25]
              have hI25 : hpInv τ25 := by rw [e25]; exact hI22.w (bo_168 _) (by omega) (by omega)
              have hF25 : ∀ j i : Nat, 169 ≤ j → τ25 j i = σ j i := fun j i h_0 => by rw [e25]; exact (hpw_fr (by omega)).trans (hF22 j i h_0)
              refine h_aload_n C dX8_rests_59 1 rfl rfl ?_
              refine h_get C O8 12 kd_0 (by decide) wd_361 dX8_rests_60 fr_0_12 ?_
              refine h_iconst C dX8_rests_63 ?_
              refine h_iload_n C dX8_rests_64 4 rfl rfl ?_
              refine h_iadd C dX8_rests_65 rfl ?_
              refine h_aload C dX8_rests_66 0 rfl ?_
              refine h_iload_n C dX8_rests_68 4 rfl rfl ?_
              refine h_iconst C dX8_rests_69 ?_
              refine h_ishr_any C dX8_rests_70 (fun r26 hr26 => ?_)
              obtain ⟨hr26a, hr26b⟩ := hr26
              refine h_callS (As := [.ref (z + x22), .int (hpI r26)]) (rest := [.int (hpI (4 + w6_3)), .ref (z + 168)]) C Z yyX8_payOfSecond rfl wd_1124 (tgX8_payOfSecond l D cy z _ x22 hx22 r26 ⟨by omega, by omega⟩ hI25) rfl rfl ⟨rfl, rfl, Nat.le_of_ble_eq_true rfl, Nat.le_of_ble_eq_true rfl⟩ ⟨Nat.le_of_ble_eq_true rfl, Nat.le_of_ble_eq_true rfl⟩ (Nat.le_of_ble_eq_true rfl) dX8_rests_71 (fun r27 τ27 hp27 => ?_)
              obtain ⟨⟨x27, rfl, ⟨hx27a, hx27b⟩⟩, rfl⟩ := hp27
              show hpV _ _ _ _ _ _ _ _ _ _ _ _ _ _ _ _ _ _ _ _ _ (_ :: _)
              refine h_iastore C dX8_rests_74 kd_168 (4 + w6_3).toNat (Int.toNat_of_nonneg (by omega)) (by rw [ln_168]; omega) ?_
              obtain ⟨τ28, e28⟩ : ∃ μ : hpMem, μ = hpw τ25 168 ((4 + w6_3).toNat) x27 := ⟨_, rfl⟩
              rw [← e28]
              have hI28 : hpInv τ28 := by rw [e28]; exact hI25.w (bo_168 _) (by omega) (by omega)
              have hF28 : ∀ j i : Nat, 169 ≤ j → τ28 j i = σ j i := fun j i h_0 => by rw [e28]; exact (hpw_fr (by omega)).trans (hF25 j i h_0)
              refine h_iinc (lv' := [(3, .int (hpI (w6_3 + 1))), (4, .ref (z + x22)), (0, .ref (z + 0)), (1, .int (hpI a0)), (2, .int (hpI a1))]) C dX8_rests_75 4 rfl rfl (by decide) rfl ?_
              refine h_goto (tgt := 26) C dX8_rests_78 (by decide) ?_
              exact hp_sub [2, 3, 4, 0] rfl (ih6 _ (w6_3 + 1) (by omega) (by omega) hI28 hF28 (by omega))
        exact hp_sub [1, 2, 3, 0] rfl (L6 8589934592 _ 0 (by omega) (by omega) hI hF0 (by omega))
      · refine h_bipush C dX8_rests_21 (by decide) ?_
        refine h_ireturn C hr hlk dX8_rests_23 ?_
        exact ⟨⟨_, rfl, ⟨by decide, by decide⟩⟩, hI, hF0⟩
abbrev rgX8_gets : Room := { frames := 6, cells := 0, slots := 0, locals := 176 }
abbrev pgX8_gets (z : Nat) (σ : hpMem) (a0 : Int) (a1 : Int) (a2 : Int) (a3 : Int) (a4 : Int) : Option Value → hpMem → Prop := fun r τ => (∃ x : Int, r = some (.int (hpI x)) ∧ (hpR x)) ∧ hpInv τ ∧ (∀ j i : Nat, 169 ≤ j → τ j i = σ j i)
set_option maxHeartbeats 4000000 in
set_option maxRecDepth 20000 in
theorem tgX8_gets (l : Launch) (D : va_G) (cy : Nat → ClassId) (z : Nat) (σ : hpMem) (a0 : Int) (ha0 : hpR a0) (a1 : Int) (ha1 : hpR a1) (a2 : Int) (ha2 : hpR a2) (a3 : Int) (ha3 : hpR a3) (a4 : Int) (ha4 : hpR a4) (hI : hpInv σ) : hpM l D cy z yX8_gets cX8_gets 8 (some .int) rgX8_gets [.ref (z + 0), .int (hpI a0), .int (hpI a1), .int (hpI a2), .int (hpI a3), .int (hpI a4)] σ (pgX8_gets z σ a0 a1 a2 a3 a4) := by
  obtain ⟨ha01, ha02⟩ := ha0
  obtain ⟨ha11, ha12⟩ := ha1
  obtain ⟨ha21, ha22⟩ := ha2
  obtain ⟨ha31, ha32⟩ := ha3
  obtain ⟨ha41, ha42⟩ := ha4
  refine hp_met rfl (Nat.le_of_ble_eq_true rfl) (fun p e s m below meth c C Z hr hlk => ?_)
  have hF0 : ∀ j i : Nat, 169 ≤ j → σ j i = σ j i := fun j i _ => rfl
  refine h_aload_n C dX8_gets_0 0 rfl rfl ?_
  refine h_iload_n C dX8_gets_1 1 rfl rfl ?_
  refine h_callV (As := [.int (hpI a0)]) (rest := []) C Z yyX8_isCart wd_557 (tgX8_isCart l D cy z _ a0 ⟨by omega, by omega⟩ hI) kd_0 rfl rfl ⟨rfl, rfl, Nat.le_of_ble_eq_true rfl, Nat.le_of_ble_eq_true rfl⟩ ⟨Nat.le_of_ble_eq_true rfl, Nat.le_of_ble_eq_true rfl⟩ (Nat.le_of_ble_eq_true rfl) dX8_gets_2 (fun r1 τ1 hp1 => ?_)
  obtain ⟨⟨x1, rfl, ⟨hx1a, hx1b⟩, hx1⟩, rfl⟩ := hp1
  show hpV _ _ _ _ _ _ _ _ _ _ _ _ _ _ _ _ _ _ _ _ _ (_ :: _)
  refine h_if_eq (tgt := 25) C dX8_gets_5 (by decide) ⟨by omega, by omega⟩ (fun h2 => ?_) (fun h2 => ?_)
  · refine h_iconst C dX8_gets_25 ?_
    refine h_istore (lv' := [(6, .int (hpI 0)), (0, .ref (z + 0)), (1, .int (hpI a0)), (2, .int (hpI a1)), (3, .int (hpI a2)), (4, .int (hpI a3)), (5, .int (hpI a4))]) C dX8_gets_26 (by decide) rfl ?_
    refine h_iload C dX8_gets_28 0 rfl ?_
    refine h_if_eq (tgt := 56) C dX8_gets_30 (by decide) ⟨by decide, by decide⟩ (fun h3 => ?_) (fun h3 => ?_)
    · refine h_sipush C dX8_gets_56 (by decide) ?_
      refine h_ireturn C hr hlk dX8_gets_59 ?_
      exact ⟨⟨_, rfl, ⟨by decide, by decide⟩⟩, hI, hF0⟩
    · exfalso; omega
  · refine h_aload_n C dX8_gets_8 0 rfl rfl ?_
    refine h_iload_n C dX8_gets_9 2 rfl rfl ?_
    refine h_callV (As := [.int (hpI a1)]) (rest := []) C Z yyX8_isCart wd_557 (tgX8_isCart l D cy z _ a1 ⟨by omega, by omega⟩ hI) kd_0 rfl rfl ⟨rfl, rfl, Nat.le_of_ble_eq_true rfl, Nat.le_of_ble_eq_true rfl⟩ ⟨Nat.le_of_ble_eq_true rfl, Nat.le_of_ble_eq_true rfl⟩ (Nat.le_of_ble_eq_true rfl) dX8_gets_10 (fun r4 τ4 hp4 => ?_)
    obtain ⟨⟨x4, rfl, ⟨hx4a, hx4b⟩, hx4⟩, rfl⟩ := hp4
    show hpV _ _ _ _ _ _ _ _ _ _ _ _ _ _ _ _ _ _ _ _ _ (_ :: _)
    refine h_if_eq (tgt := 25) C dX8_gets_13 (by decide) ⟨by omega, by omega⟩ (fun h5 => ?_) (fun h5 => ?_)
    · refine h_iconst C dX8_gets_25 ?_
      refine h_istore (lv' := [(6, .int (hpI 0)), (0, .ref (z + 0)), (1, .int (hpI a0)), (2, .int (hpI a1)), (3, .int (hpI a2)), (4, .int (hpI a3)), (5, .int (hpI a4))]) C dX8_gets_26 (by decide) rfl ?_
      refine h_iload C dX8_gets_28 0 rfl ?_
      refine h_if_eq (tgt := 56) C dX8_gets_30 (by decide) ⟨by decide, by decide⟩ (fun h6 => ?_) (fun h6 => ?_)
      · refine h_sipush C dX8_gets_56 (by decide) ?_
        refine h_ireturn C hr hlk dX8_gets_59 ?_
        exact ⟨⟨_, rfl, ⟨by decide, by decide⟩⟩, hI, hF0⟩
      · exfalso; omega
    · refine h_iload_n C dX8_gets_16 1 rfl rfl ?_
      refine h_iload_n C dX8_gets_17 2 rfl rfl ?_
      refine h_icmp_eq (tgt := 25) C dX8_gets_18 (by decide) ⟨by omega, by omega⟩ ⟨by omega, by omega⟩ (fun h7 => ?_) (fun h7 => ?_)
      · refine h_iconst C dX8_gets_25 ?_
        refine h_istore (lv' := [(6, .int (hpI 0)), (0, .ref (z + 0)), (1, .int (hpI a0)), (2, .int (hpI a1)), (3, .int (hpI a2)), (4, .int (hpI a3)), (5, .int (hpI a4))]) C dX8_gets_26 (by decide) rfl ?_
        refine h_iload C dX8_gets_28 0 rfl ?_
        refine h_if_eq (tgt := 56) C dX8_gets_30 (by decide) ⟨by decide, by decide⟩ (fun h8 => ?_) (fun h8 => ?_)
        · refine h_sipush C dX8_gets_56 (by decide) ?_
          refine h_ireturn C hr hlk dX8_gets_59 ?_
          exact ⟨⟨_, rfl, ⟨by decide, by decide⟩⟩, hI, hF0⟩
        · exfalso; omega
      · refine h_iconst C dX8_gets_21 ?_
        refine h_goto (tgt := 26) C dX8_gets_22 (by decide) ?_
        refine h_istore (lv' := [(6, .int (hpI 1)), (0, .ref (z + 0)), (1, .int (hpI a0)), (2, .int (hpI a1)), (3, .int (hpI a2)), (4, .int (hpI a3)), (5, .int (hpI a4))]) C dX8_gets_26 (by decide) rfl ?_
        refine h_iload C dX8_gets_28 0 rfl ?_
        refine h_if_eq (tgt := 56) C dX8_gets_30 (by decide) ⟨by decide, by decide⟩ (fun h9 => ?_) (fun h9 => ?_)
        · exfalso; omega
        · refine h_iload_n C dX8_gets_33 4 rfl rfl ?_
          refine h_callS (As := [.int (hpI a2)]) (rest := []) C Z yyX8_isWhat rfl wd_561 (tgX8_isWhat l D cy z _ a2 ⟨by omega, by omega⟩ hI) rfl rfl ⟨rfl, rfl, Nat.le_of_ble_eq_true rfl, Nat.le_of_ble_eq_true rfl⟩ ⟨Nat.le_of_ble_eq_true rfl, Nat.le_of_ble_eq_true rfl⟩ (Nat.le_of_ble_eq_true rfl) dX8_gets_34 (fun r10 τ10 hp10 => ?_)
          obtain ⟨⟨x10, rfl, ⟨hx10a, hx10b⟩⟩, rfl⟩ := hp10
          show hpV _ _ _ _ _ _ _ _ _ _ _ _ _ _ _ _ _ _ _ _ _ (_ :: _)
          refine h_if_eq (tgt := 56) C dX8_gets_37 (by decide) ⟨by omega, by omega⟩ (fun h11 => ?_) (fun h11 => ?_)
          · refine h_sipush C dX8_gets_56 (by decide) ?_
            refine h_ireturn C hr hlk dX8_gets_59 ?_
            exact ⟨⟨_, rfl, ⟨by decide, by decide⟩⟩, hI, hF0⟩
          · refine h_iload C dX8_gets_40 5 rfl ?_
            refine h_callS (As := [.int (hpI a3)]) (rest := []) C Z yyX8_isWhat rfl wd_561 (tgX8_isWhat l D cy z _ a3 ⟨by omega, by omega⟩ hI) rfl rfl ⟨rfl, rfl, Nat.le_of_ble_eq_true rfl, Nat.le_of_ble_eq_true rfl⟩ ⟨Nat.le_of_ble_eq_true rfl, Nat.le_of_ble_eq_true rfl⟩ (Nat.le_of_ble_eq_true rfl) dX8_gets_42 (fun r12 τ12 hp12 => ?_)
            obtain ⟨⟨x12, rfl, ⟨hx12a, hx12b⟩⟩, rfl⟩ := hp12
            show hpV _ _ _ _ _ _ _ _ _ _ _ _ _ _ _ _ _ _ _ _ _ (_ :: _)
            refine h_if_eq (tgt := 56) C dX8_gets_45 (by decide) ⟨by omega, by omega⟩ (fun h13 => ?_) (fun h13 => ?_)
            · refine h_sipush C dX8_gets_56 (by decide) ?_
              refine h_ireturn C hr hlk dX8_gets_59 ?_
              exact ⟨⟨_, rfl, ⟨by decide, by decide⟩⟩, hI, hF0⟩
            · refine h_iload C dX8_gets_48 6 rfl ?_
              refine h_callS (As := [.int (hpI a4)]) (rest := []) C Z yyX8_isWhat rfl wd_561 (tgX8_isWhat l D cy z _ a4 ⟨by omega, by omega⟩ hI) rfl rfl ⟨rfl, rfl, Nat.le_of_ble_eq_true rfl, Nat.le_of_ble_eq_true rfl⟩ ⟨Nat.le_of_ble_eq_true rfl, Nat.le_of_ble_eq_true rfl⟩ (Nat.le_of_ble_eq_true rfl) dX8_gets_50 (fun r14 τ14 hp14 => ?_)
              obtain ⟨⟨x14, rfl, ⟨hx14a, hx14b⟩⟩, rfl⟩ := hp14
              show hpV _ _ _ _ _ _ _ _ _ _ _ _ _ _ _ _ _ _ _ _ _ (_ :: _)
              refine h_if_ne (tgt := 60) C dX8_gets_53 (by decide) ⟨by omega, by omega⟩ (fun h15 => ?_) (fun h15 => ?_)
              · refine h_aload_n C dX8_gets_60 1 rfl rfl ?_
                refine h_iload_n C dX8_gets_61 2 rfl rfl ?_
                refine h_iload_n C dX8_gets_62 3 rfl rfl ?_
                refine h_iload_n C dX8_gets_63 4 rfl rfl ?_
                refine h_iload C dX8_gets_64 5 rfl ?_
                refine h_callV (As := [.int (hpI a0), .int (hpI a1), .int (hpI a2), .int (hpI a3)]) (rest := []) C Z yyX8_passLate wd_1117 (tgX8_passLate l D cy z _ a0 ⟨by omega, by omega⟩ a1 ⟨by omega, by omega⟩ a2 ⟨by omega, by omega⟩ a3 ⟨by omega, by omega⟩ hI) kd_0 rfl rfl ⟨rfl, rfl, Nat.le_of_ble_eq_true rfl, Nat.le_of_ble_eq_true rfl⟩ ⟨Nat.le_of_ble_eq_true rfl, Nat.le_of_ble_eq_true rfl⟩ (Nat.le_of_ble_eq_true rfl) dX8_gets_66 (fun r16 τ16 hp16 => ?_)
                obtain ⟨⟨x16, rfl, hx16⟩, hI16, hG16⟩ := hp16
                have hF16 : ∀ j i : Nat, 169 ≤ j → τ16 j i = σ j i := fun j i h_0 => (hG16 j i (by omega)).trans (hF0 j i h_0)
                have hl16 := kb_3 hx16
                show hpV _ _ _ _ _ _ _ _ _ _ _ _ _ _ _ _ _ _ _ _ _ (_ :: _)
                refine h_astore (lv' := [(7, .ref (z + x16)), (6, .int (hpI 1)), (0, .ref (z + 0)), (1, .int (hpI a0)), (2, .int (hpI a1)), (3, .int (hpI a2)), (4, .int (hpI a3)), (5, .int (hpI a4))]) C dX8_gets_69 (by decide) rfl ?_
                refine h_iload C dX8_gets_71 7 rfl ?_
                refine h_if_ne (tgt := 85) C dX8_gets_73 (by decide) ⟨by omega, by omega⟩ (fun h17 => ?_) (fun h17 => ?_)
                · refine h_aload C dX8_gets_85 0 rfl ?_
                  refine h_iload C dX8_gets_87 6 rfl ?_
                  refine h_callS (As := [.ref (z + x16), .int (hpI a3)]) (rest := []) C Z yyX8_payOfSecond rfl wd_1124 (tgX8_payOfSecond l D cy z _ x16 hx16 a3 ⟨by omega, by omega⟩ hI16) rfl rfl ⟨rfl, rfl, Nat.le_of_ble_eq_true rfl, Nat.le_of_ble_eq_true rfl⟩ ⟨Nat.le_of_ble_eq_true rfl, Nat.le_of_ble_eq_true rfl⟩ (Nat.le_of_ble_eq_true rfl) dX8_gets_89 (fun r18 τ18 hp18 => ?_)
                  obtain ⟨⟨x18, rfl, ⟨hx18a, hx18b⟩⟩, rfl⟩ := hp18
                  show hpV _ _ _ _ _ _ _ _ _ _ _ _ _ _ _ _ _ _ _ _ _ (_ :: _)
                  refine h_ireturn C hr hlk dX8_gets_92 ?_
                  exact ⟨⟨_, rfl, ⟨by omega, by omega⟩⟩, hI16, hF16⟩
                · refine h_aload C dX8_gets_76 0 rfl ?_
                  refine h_iload_n C dX8_gets_78 5 rfl rfl ?_
                  refine h_callS (As := [.ref (z + x16), .int (hpI a2)]) (rest := []) C Z yyX8_payOfFirst rfl wd_1121 (tgX8_payOfFirst l D cy z _ x16 hx16 a2 ⟨by omega, by omega⟩ hI16) rfl rfl ⟨rfl, rfl, Nat.le_of_ble_eq_true rfl, Nat.le_of_ble_eq_true rfl⟩ ⟨Nat.le_of_ble_eq_true rfl, Nat.le_of_ble_eq_true rfl⟩ (Nat.le_of_ble_eq_true rfl) dX8_gets_79 (fun r19 τ19 hp19 => ?_)
                  obtain ⟨⟨x19, rfl, ⟨hx19a, hx19b⟩⟩, rfl⟩ := hp19
                  show hpV _ _ _ _ _ _ _ _ _ _ _ _ _ _ _ _ _ _ _ _ _ (_ :: _)
                  refine h_goto (tgt := 92) C dX8_gets_82 (by decide) ?_
                  refine h_ireturn C hr hlk dX8_gets_92 ?_
                  exact ⟨⟨_, rfl, ⟨by omega, by omega⟩⟩, hI16, hF16⟩
              · refine h_sipush C dX8_gets_56 (by decide) ?_
                refine h_ireturn C hr hlk dX8_gets_59 ?_
                exact ⟨⟨_, rfl, ⟨by decide, by decide⟩⟩, hI, hF0⟩
abbrev rgX8_chance : Room := { frames := 6, cells := 0, slots := 0, locals := 183 }
abbrev pgX8_chance (z : Nat) (σ : hpMem) (a0 : Int) (a1 : Int) (a2 : Int) : Option Value → hpMem → Prop := fun r τ => (∃ x : Int, r = some (.long (hpJ x)) ∧ (hpRL x)) ∧ hpInv τ ∧ (∀ j i : Nat, 169 ≤ j → τ j i = σ j i)
set_option maxHeartbeats 4000000 in
set_option maxRecDepth 20000 in
theorem tgX8_chance (l : Launch) (D : va_G) (cy : Nat → ClassId) (z : Nat) (σ : hpMem) (a0 : Int) (ha0 : hpR a0) (a1 : Int) (ha1 : hpR a1) (a2 : Int) (ha2 : hpR a2) (hI : hpInv σ) : hpM l D cy z yX8_chance cX8_chance 4 (some .long) rgX8_chance [.ref (z + 0), .int (hpI a0), .int (hpI a1), .int (hpI a2)] σ (pgX8_chance z σ a0 a1 a2) := by
  obtain ⟨ha01, ha02⟩ := ha0
  obtain ⟨ha11, ha12⟩ := ha1
  obtain ⟨ha21, ha22⟩ := ha2
  refine hp_met rfl (Nat.le_of_ble_eq_true rfl) (fun p e s m below meth c C Z hr hlk => ?_)
  have hF0 : ∀ j i : Nat, 169 ≤ j → σ j i = σ j i := fun j i _ => rfl
  refine h_aload_n C dX8_chance_0 0 rfl rfl ?_
  refine h_iload_n C dX8_chance_1 1 rfl rfl ?_
  refine h_callV (As := [.int (hpI a0)]) (rest := []) C Z yyX8_isChanceDay wd_1135 (tgX8_isChanceDay l D cy z _ a0 ⟨by omega, by omega⟩ hI) kd_0 rfl rfl ⟨rfl, rfl, Nat.le_of_ble_eq_true rfl, Nat.le_of_ble_eq_true rfl⟩ ⟨Nat.le_of_ble_eq_true rfl, Nat.le_of_ble_eq_true rfl⟩ (Nat.le_of_ble_eq_true rfl) dX8_chance_2 (fun r1 τ1 hp1 => ?_)
  obtain ⟨⟨x1, rfl, ⟨hx1a, hx1b⟩, hx1⟩, rfl⟩ := hp1
  show hpV _ _ _ _ _ _ _ _ _ _ _ _ _ _ _ _ _ _ _ _ _ (_ :: _)
  refine h_if_eq (tgt := 26) C dX8_chance_5 (by decide) ⟨by omega, by omega⟩ (fun h2 => ?_) (fun h2 => ?_)
  · refine h_ldc2 C (-2) wd_1139 (by decide) dX8_chance_26 ?_
    refine h_lreturn C hr hlk dX8_chance_29 ?_
    exact ⟨⟨_, rfl, ⟨by decide, by decide⟩⟩, hI, hF0⟩
  · refine h_iload_n C dX8_chance_8 2 rfl rfl ?_
    refine h_if_lt (tgt := 26) C dX8_chance_9 (by decide) ⟨by omega, by omega⟩ (fun h3 => ?_) (fun h3 => ?_)
    · refine h_ldc2 C (-2) wd_1139 (by decide) dX8_chance_26 ?_
      refine h_lreturn C hr hlk dX8_chance_29 ?_
      exact ⟨⟨_, rfl, ⟨by decide, by decide⟩⟩, hI, hF0⟩
    · refine h_iload_n C dX8_chance_12 2 rfl rfl ?_
      refine h_sipush C dX8_chance_13 (by decide) ?_
      refine h_icmp_gt (tgt := 26) C dX8_chance_16 (by decide) ⟨by omega, by omega⟩ ⟨by decide, by decide⟩ (fun h4 => ?_) (fun h4 => ?_)
      · refine h_ldc2 C (-2) wd_1139 (by decide) dX8_chance_26 ?_
        refine h_lreturn C hr hlk dX8_chance_29 ?_
        exact ⟨⟨_, rfl, ⟨by decide, by decide⟩⟩, hI, hF0⟩
      · refine h_iload_n C dX8_chance_19 3 rfl rfl ?_
        refine h_callS (As := [.int (hpI a2)]) (rest := []) C Z yyX8_isWhat rfl wd_561 (tgX8_isWhat l D cy z _ a2 ⟨by omega, by omega⟩ hI) rfl rfl ⟨rfl, rfl, Nat.le_of_ble_eq_true rfl, Nat.le_of_ble_eq_true rfl⟩ ⟨Nat.le_of_ble_eq_true rfl, Nat.le_of_ble_eq_true rfl⟩ (Nat.le_of_ble_eq_true rfl) dX8_chance_20 (fun r5 τ5 hp5 => ?_)
        obtain ⟨⟨x5, rfl, ⟨hx5a, hx5b⟩⟩, rfl⟩ := hp5
        show hpV _ _ _ _ _ _ _ _ _ _ _ _ _ _ _ _ _ _ _ _ _ (_ :: _)
        refine h_if_ne (tgt := 30) C dX8_chance_23 (by decide) ⟨by omega, by omega⟩ (fun h6 => ?_) (fun h6 => ?_)
        · refine h_aload_n C dX8_chance_30 0 rfl rfl ?_
          refine h_iload_n C dX8_chance_31 1 rfl rfl ?_
          refine h_iload_n C dX8_chance_32 2 rfl rfl ?_
          refine h_callV (As := [.int (hpI a0), .int (hpI a1)]) (rest := []) C Z yyX8_weighHeaps wd_1140 (tgX8_weighHeaps l D cy z _ a0 ⟨by omega, by omega⟩ a1 ⟨by omega, by omega⟩ hI (by omega)) kd_0 rfl rfl ⟨rfl, rfl, Nat.le_of_ble_eq_true rfl, Nat.le_of_ble_eq_true rfl⟩ ⟨Nat.le_of_ble_eq_true rfl, Nat.le_of_ble_eq_true rfl⟩ (Nat.le_of_ble_eq_true rfl) dX8_chance_33 (fun r7 τ7 hp7 => ?_)
          obtain ⟨⟨x7, rfl, ⟨hx7a, hx7b⟩⟩, hI7, hG7⟩ := hp7
          have hF7 : ∀ j i : Nat, 169 ≤ j → τ7 j i = σ j i := fun j i h_0 => (hG7 j i (by omega)).trans (hF0 j i h_0)
          show hpV _ _ _ _ _ _ _ _ _ _ _ _ _ _ _ _ _ _ _ _ _ (_ :: _)
          refine h_iload_n C dX8_chance_36 1 rfl rfl ?_
          refine h_iconst C dX8_chance_37 ?_
          refine h_iadd C dX8_chance_38 rfl ?_
          refine hp_anyI (fun r8 hr8 => ?_)
          obtain ⟨hr8a, hr8b⟩ := hr8
          refine h_callS (As := [.int (hpI r8)]) (rest := [.long (hpJ x7)]) C Z yyX8_powerOfTen rfl wd_1158 (tgX8_powerOfTen l D cy z _ r8 ⟨by omega, by omega⟩ hI7) rfl rfl ⟨rfl, rfl, Nat.le_of_ble_eq_true rfl, Nat.le_of_ble_eq_true rfl⟩ ⟨Nat.le_of_ble_eq_true rfl, Nat.le_of_ble_eq_true rfl⟩ (Nat.le_of_ble_eq_true rfl) dX8_chance_39 (fun r9 τ9 hp9 => ?_)
          obtain ⟨⟨x9, rfl, ⟨hx9a, hx9b⟩⟩, rfl⟩ := hp9
          show hpV _ _ _ _ _ _ _ _ _ _ _ _ _ _ _ _ _ _ _ _ _ (_ :: _)
          refine h_iload_n C dX8_chance_42 3 rfl rfl ?_
          refine h_callS (As := [.long (hpJ x7), .long (hpJ x9), .int (hpI a2)]) (rest := []) C Z yyX8_fraction rfl wd_1083 (tgX8_fraction l D cy z _ x7 ⟨by omega, by omega⟩ x9 ⟨by omega, by omega⟩ a2 ⟨by omega, by omega⟩ hI7) rfl rfl ⟨rfl, rfl, Nat.le_of_ble_eq_true rfl, Nat.le_of_ble_eq_true rfl⟩ ⟨Nat.le_of_ble_eq_true rfl, Nat.le_of_ble_eq_true rfl⟩ (Nat.le_of_ble_eq_true rfl) dX8_chance_43 (fun r10 τ10 hp10 => ?_)
          obtain ⟨⟨x10, rfl, ⟨hx10a, hx10b⟩⟩, rfl⟩ := hp10
          show hpV _ _ _ _ _ _ _ _ _ _ _ _ _ _ _ _ _ _ _ _ _ (_ :: _)
          refine h_lreturn C hr hlk dX8_chance_46 ?_
          exact ⟨⟨_, rfl, ⟨by omega, by omega⟩⟩, hI7, hF7⟩
        · refine h_ldc2 C (-2) wd_1139 (by decide) dX8_chance_26 ?_
          refine h_lreturn C hr hlk dX8_chance_29 ?_
          exact ⟨⟨_, rfl, ⟨by decide, by decide⟩⟩, hI, hF0⟩
abbrev rgX8_mean : Room := { frames := 6, cells := 0, slots := 0, locals := 183 }
abbrev pgX8_mean (z : Nat) (σ : hpMem) (a0 : Int) (a1 : Int) : Option Value → hpMem → Prop := fun r τ => (∃ x : Int, r = some (.long (hpJ x)) ∧ (hpRL x)) ∧ hpInv τ ∧ (∀ j i : Nat, 169 ≤ j → τ j i = σ j i)
set_option maxHeartbeats 4000000 in
set_option maxRecDepth 20000 in
theorem tgX8_mean (l : Launch) (D : va_G) (cy : Nat → ClassId) (z : Nat) (σ : hpMem) (a0 : Int) (ha0 : hpR a0) (a1 : Int) (ha1 : hpR a1) (hI : hpInv σ) : hpM l D cy z yX8_mean cX8_mean 3 (some .long) rgX8_mean [.ref (z + 0), .int (hpI a0), .int (hpI a1)] σ (pgX8_mean z σ a0 a1) := by
  obtain ⟨ha01, ha02⟩ := ha0
  obtain ⟨ha11, ha12⟩ := ha1
  refine hp_met rfl (Nat.le_of_ble_eq_true rfl) (fun p e s m below meth c C Z hr hlk => ?_)
  have hF0 : ∀ j i : Nat, 169 ≤ j → σ j i = σ j i := fun j i _ => rfl
  refine h_aload_n C dX8_mean_0 0 rfl rfl ?_
  refine h_iload_n C dX8_mean_1 1 rfl rfl ?_
  refine h_callV (As := [.int (hpI a0)]) (rest := []) C Z yyX8_isChanceDay wd_1135 (tgX8_isChanceDay l D cy z _ a0 ⟨by omega, by omega⟩ hI) kd_0 rfl rfl ⟨rfl, rfl, Nat.le_of_ble_eq_true rfl, Nat.le_of_ble_eq_true rfl⟩ ⟨Nat.le_of_ble_eq_true rfl, Nat.le_of_ble_eq_true rfl⟩ (Nat.le_of_ble_eq_true rfl) dX8_mean_2 (fun r1 τ1 hp1 => ?_)
  obtain ⟨⟨x1, rfl, ⟨hx1a, hx1b⟩, hx1⟩, rfl⟩ := hp1
  show hpV _ _ _ _ _ _ _ _ _ _ _ _ _ _ _ _ _ _ _ _ _ (_ :: _)
  refine h_if_eq (tgt := 15) C dX8_mean_5 (by decide) ⟨by omega, by omega⟩ (fun h2 => ?_) (fun h2 => ?_)
  · refine h_ldc2 C (-2) wd_1139 (by decide) dX8_mean_15 ?_
    refine h_lreturn C hr hlk dX8_mean_18 ?_
    exact ⟨⟨_, rfl, ⟨by decide, by decide⟩⟩, hI, hF0⟩
  · refine h_iload_n C dX8_mean_8 2 rfl rfl ?_
    refine h_callS (As := [.int (hpI a1)]) (rest := []) C Z yyX8_isWhat rfl wd_561 (tgX8_isWhat l D cy z _ a1 ⟨by omega, by omega⟩ hI) rfl rfl ⟨rfl, rfl, Nat.le_of_ble_eq_true rfl, Nat.le_of_ble_eq_true rfl⟩ ⟨Nat.le_of_ble_eq_true rfl, Nat.le_of_ble_eq_true rfl⟩ (Nat.le_of_ble_eq_true rfl) dX8_mean_9 (fun r3 τ3 hp3 => ?_)
    obtain ⟨⟨x3, rfl, ⟨hx3a, hx3b⟩⟩, rfl⟩ := hp3
    show hpV _ _ _ _ _ _ _ _ _ _ _ _ _ _ _ _ _ _ _ _ _ (_ :: _)
    refine h_if_ne (tgt := 19) C dX8_mean_12 (by decide) ⟨by omega, by omega⟩ (fun h4 => ?_) (fun h4 => ?_)
    · refine h_aload_n C dX8_mean_19 0 rfl rfl ?_
      refine h_iload_n C dX8_mean_20 1 rfl rfl ?_
      refine h_iconst C dX8_mean_21 ?_
      refine h_callV (As := [.int (hpI a0), .int (hpI (-1))]) (rest := []) C Z yyX8_weighHeaps wd_1140 (tgX8_weighHeaps l D cy z _ a0 ⟨by omega, by omega⟩ (-1) ⟨by decide, by decide⟩ hI (by omega)) kd_0 rfl rfl ⟨rfl, rfl, Nat.le_of_ble_eq_true rfl, Nat.le_of_ble_eq_true rfl⟩ ⟨Nat.le_of_ble_eq_true rfl, Nat.le_of_ble_eq_true rfl⟩ (Nat.le_of_ble_eq_true rfl) dX8_mean_22 (fun r5 τ5 hp5 => ?_)
      obtain ⟨⟨x5, rfl, ⟨hx5a, hx5b⟩⟩, hI5, hG5⟩ := hp5
      have hF5 : ∀ j i : Nat, 169 ≤ j → τ5 j i = σ j i := fun j i h_0 => (hG5 j i (by omega)).trans (hF0 j i h_0)
      show hpV _ _ _ _ _ _ _ _ _ _ _ _ _ _ _ _ _ _ _ _ _ (_ :: _)
      refine h_iload_n C dX8_mean_25 1 rfl rfl ?_
      refine h_iconst C dX8_mean_26 ?_
      refine h_iadd C dX8_mean_27 rfl ?_
      refine hp_anyI (fun r6 hr6 => ?_)
      obtain ⟨hr6a, hr6b⟩ := hr6
      refine h_callS (As := [.int (hpI r6)]) (rest := [.long (hpJ x5)]) C Z yyX8_powerOfTen rfl wd_1158 (tgX8_powerOfTen l D cy z _ r6 ⟨by omega, by omega⟩ hI5) rfl rfl ⟨rfl, rfl, Nat.le_of_ble_eq_true rfl, Nat.le_of_ble_eq_true rfl⟩ ⟨Nat.le_of_ble_eq_true rfl, Nat.le_of_ble_eq_true rfl⟩ (Nat.le_of_ble_eq_true rfl) dX8_mean_28 (fun r7 τ7 hp7 => ?_)
      obtain ⟨⟨x7, rfl, ⟨hx7a, hx7b⟩⟩, rfl⟩ := hp7
      show hpV _ _ _ _ _ _ _ _ _ _ _ _ _ _ _ _ _ _ _ _ _ (_ :: _)
      refine h_iload_n C dX8_mean_31 2 rfl rfl ?_
      refine h_callS (As := [.long (hpJ x5), .long (hpJ x7), .int (hpI a1)]) (rest := []) C Z yyX8_fraction rfl wd_1083 (tgX8_fraction l D cy z _ x5 ⟨by omega, by omega⟩ x7 ⟨by omega, by omega⟩ a1 ⟨by omega, by omega⟩ hI5) rfl rfl ⟨rfl, rfl, Nat.le_of_ble_eq_true rfl, Nat.le_of_ble_eq_true rfl⟩ ⟨Nat.le_of_ble_eq_true rfl, Nat.le_of_ble_eq_true rfl⟩ (Nat.le_of_ble_eq_true rfl) dX8_mean_32 (fun r8 τ8 hp8 => ?_)
      obtain ⟨⟨x8, rfl, ⟨hx8a, hx8b⟩⟩, rfl⟩ := hp8
      show hpV _ _ _ _ _ _ _ _ _ _ _ _ _ _ _ _ _ _ _ _ _ (_ :: _)
      refine h_lreturn C hr hlk dX8_mean_35 ?_
      exact ⟨⟨_, rfl, ⟨by omega, by omega⟩⟩, hI5, hF5⟩
    · refine h_ldc2 C (-2) wd_1139 (by decide) dX8_mean_15 ?_
      refine h_lreturn C hr hlk dX8_mean_18 ?_
      exact ⟨⟨_, rfl, ⟨by decide, by decide⟩⟩, hI, hF0⟩
abbrev rgX8_brings : Room := { frames := 7, cells := 0, slots := 0, locals := 195 }
abbrev pgX8_brings (z : Nat) (σ : hpMem) (a0 : Int) (a1 : Int) : Option Value → hpMem → Prop := fun r τ => (∃ x : Int, r = some (.int (hpI x)) ∧ (hpR x)) ∧ hpInv τ ∧ (∀ j i : Nat, 169 ≤ j → τ j i = σ j i)
set_option maxHeartbeats 4000000 in
set_option maxRecDepth 20000 in
theorem tgX8_brings (l : Launch) (D : va_G) (cy : Nat → ClassId) (z : Nat) (σ : hpMem) (a0 : Int) (ha0 : hpR a0) (a1 : Int) (ha1 : hpR a1) (hI : hpInv σ) : hpM l D cy z yX8_brings cX8_brings 3 (some .int) rgX8_brings [.ref (z + 0), .int (hpI a0), .int (hpI a1)] σ (pgX8_brings z σ a0 a1) := by
  obtain ⟨ha01, ha02⟩ := ha0
  obtain ⟨ha11, ha12⟩ := ha1
  refine hp_met rfl (Nat.le_of_ble_eq_true rfl) (fun p e s m below meth c C Z hr hlk => ?_)
  have hF0 : ∀ j i : Nat, 169 ≤ j → σ j i = σ j i := fun j i _ => rfl
  refine h_aload_n C dX8_brings_0 0 rfl rfl ?_
  refine h_iload_n C dX8_brings_1 2 rfl rfl ?_
  refine h_callV (As := [.int (hpI a1)]) (rest := []) C Z yyX8_isDay wd_568 (tgX8_isDay l D cy z _ a1 ⟨by omega, by omega⟩ hI) kd_0 rfl rfl ⟨rfl, rfl, Nat.le_of_ble_eq_true rfl, Nat.le_of_ble_eq_true rfl⟩ ⟨Nat.le_of_ble_eq_true rfl, Nat.le_of_ble_eq_true rfl⟩ (Nat.le_of_ble_eq_true rfl) dX8_brings_2 (fun r1 τ1 hp1 => ?_)
  obtain ⟨⟨x1, rfl, ⟨hx1a, hx1b⟩, hx1⟩, rfl⟩ := hp1
  show hpV _ _ _ _ _ _ _ _ _ _ _ _ _ _ _ _ _ _ _ _ _ (_ :: _)
  refine h_if_eq (tgt := 19) C dX8_brings_5 (by decide) ⟨by omega, by omega⟩ (fun h2 => ?_) (fun h2 => ?_)
  · refine h_bipush C dX8_brings_19 (by decide) ?_
    refine h_ireturn C hr hlk dX8_brings_21 ?_
    exact ⟨⟨_, rfl, ⟨by decide, by decide⟩⟩, hI, hF0⟩
  · refine h_iload_n C dX8_brings_8 1 rfl rfl ?_
    refine h_iconst C dX8_brings_9 ?_
    refine h_icmp_lt (tgt := 19) C dX8_brings_10 (by decide) ⟨by omega, by omega⟩ ⟨by decide, by decide⟩ (fun h3 => ?_) (fun h3 => ?_)
    · refine h_bipush C dX8_brings_19 (by decide) ?_
      refine h_ireturn C hr hlk dX8_brings_21 ?_
      exact ⟨⟨_, rfl, ⟨by decide, by decide⟩⟩, hI, hF0⟩
    · refine h_iload_n C dX8_brings_13 1 rfl rfl ?_
      refine h_bipush C dX8_brings_14 (by decide) ?_
      refine h_icmp_le (tgt := 22) C dX8_brings_16 (by decide) ⟨by omega, by omega⟩ ⟨by decide, by decide⟩ (fun h4 => ?_) (fun h4 => ?_)
      · refine h_aload_n C dX8_brings_22 0 rfl rfl ?_
        refine h_iload_n C dX8_brings_23 2 rfl rfl ?_
        refine h_iload_n C dX8_brings_24 1 rfl rfl ?_
        refine h_callV (As := [.int (hpI a1), .int (hpI a0)]) (rest := []) C Z yyX8_act wd_1170 (tgX8_act l D cy z _ a1 ⟨by omega, by omega⟩ a0 ⟨by omega, by omega⟩ hI) kd_0 rfl rfl ⟨rfl, rfl, Nat.le_of_ble_eq_true rfl, Nat.le_of_ble_eq_true rfl⟩ ⟨Nat.le_of_ble_eq_true rfl, Nat.le_of_ble_eq_true rfl⟩ (Nat.le_of_ble_eq_true rfl) dX8_brings_25 (fun r5 τ5 hp5 => ?_)
        obtain ⟨⟨x5, rfl, ⟨hx5a, hx5b⟩⟩, hI5, hG5⟩ := hp5
        have hF5 : ∀ j i : Nat, 169 ≤ j → τ5 j i = σ j i := fun j i h_0 => (hG5 j i (by omega)).trans (hF0 j i h_0)
        show hpV _ _ _ _ _ _ _ _ _ _ _ _ _ _ _ _ _ _ _ _ _ (_ :: _)
        refine h_ireturn C hr hlk dX8_brings_28 ?_
        exact ⟨⟨_, rfl, ⟨by omega, by omega⟩⟩, hI5, hF5⟩
      · refine h_bipush C dX8_brings_19 (by decide) ?_
        refine h_ireturn C hr hlk dX8_brings_21 ?_
        exact ⟨⟨_, rfl, ⟨by decide, by decide⟩⟩, hI, hF0⟩
abbrev rgX8_away : Room := { frames := 7, cells := 0, slots := 0, locals := 195 }
abbrev pgX8_away (z : Nat) (σ : hpMem) (a0 : Int) : Option Value → hpMem → Prop := fun r τ => (∃ x : Int, r = some (.int (hpI x)) ∧ (hpR x)) ∧ hpInv τ ∧ (∀ j i : Nat, 169 ≤ j → τ j i = σ j i)
set_option maxHeartbeats 4000000 in
set_option maxRecDepth 20000 in
theorem tgX8_away (l : Launch) (D : va_G) (cy : Nat → ClassId) (z : Nat) (σ : hpMem) (a0 : Int) (ha0 : hpR a0) (hI : hpInv σ) : hpM l D cy z yX8_away cX8_away 2 (some .int) rgX8_away [.ref (z + 0), .int (hpI a0)] σ (pgX8_away z σ a0) := by
  obtain ⟨ha01, ha02⟩ := ha0
  refine hp_met rfl (Nat.le_of_ble_eq_true rfl) (fun p e s m below meth c C Z hr hlk => ?_)
  have hF0 : ∀ j i : Nat, 169 ≤ j → σ j i = σ j i := fun j i _ => rfl
  refine h_aload_n C dX8_away_0 0 rfl rfl ?_
  refine h_iload_n C dX8_away_1 1 rfl rfl ?_
  refine h_callV (As := [.int (hpI a0)]) (rest := []) C Z yyX8_isDay wd_568 (tgX8_isDay l D cy z _ a0 ⟨by omega, by omega⟩ hI) kd_0 rfl rfl ⟨rfl, rfl, Nat.le_of_ble_eq_true rfl, Nat.le_of_ble_eq_true rfl⟩ ⟨Nat.le_of_ble_eq_true rfl, Nat.le_of_ble_eq_true rfl⟩ (Nat.le_of_ble_eq_true rfl) dX8_away_2 (fun r1 τ1 hp1 => ?_)
  obtain ⟨⟨x1, rfl, ⟨hx1a, hx1b⟩, hx1⟩, rfl⟩ := hp1
  show hpV _ _ _ _ _ _ _ _ _ _ _ _ _ _ _ _ _ _ _ _ _ (_ :: _)
  refine h_if_eq (tgt := 17) C dX8_away_5 (by decide) ⟨by omega, by omega⟩ (fun h2 => ?_) (fun h2 => ?_)
  · refine h_bipush C dX8_away_17 (by decide) ?_
    refine h_ireturn C hr hlk dX8_away_19 ?_
    exact ⟨⟨_, rfl, ⟨by decide, by decide⟩⟩, hI, hF0⟩
  · refine h_aload_n C dX8_away_8 0 rfl rfl ?_
    refine h_iload_n C dX8_away_9 1 rfl rfl ?_
    refine h_iconst C dX8_away_10 ?_
    refine h_callV (As := [.int (hpI a0), .int (hpI 0)]) (rest := []) C Z yyX8_act wd_1170 (tgX8_act l D cy z _ a0 ⟨by omega, by omega⟩ 0 ⟨by decide, by decide⟩ hI) kd_0 rfl rfl ⟨rfl, rfl, Nat.le_of_ble_eq_true rfl, Nat.le_of_ble_eq_true rfl⟩ ⟨Nat.le_of_ble_eq_true rfl, Nat.le_of_ble_eq_true rfl⟩ (Nat.le_of_ble_eq_true rfl) dX8_away_11 (fun r3 τ3 hp3 => ?_)
    obtain ⟨⟨x3, rfl, ⟨hx3a, hx3b⟩⟩, hI3, hG3⟩ := hp3
    have hF3 : ∀ j i : Nat, 169 ≤ j → τ3 j i = σ j i := fun j i h_0 => (hG3 j i (by omega)).trans (hF0 j i h_0)
    show hpV _ _ _ _ _ _ _ _ _ _ _ _ _ _ _ _ _ _ _ _ _ (_ :: _)
    refine h_goto (tgt := 19) C dX8_away_14 (by decide) ?_
    refine h_ireturn C hr hlk dX8_away_19 ?_
    exact ⟨⟨_, rfl, ⟨by omega, by omega⟩⟩, hI3, hF3⟩
abbrev rgX8_undo : Room := { frames := 1, cells := 0, slots := 0, locals := 20 }
abbrev pgX8_undo (z : Nat) (σ : hpMem) : Option Value → hpMem → Prop := fun r τ => (∃ x : Int, r = some (.int (hpI x)) ∧ (hpR x)) ∧ hpInv τ ∧ (∀ j i : Nat, 169 ≤ j → τ j i = σ j i)
set_option maxHeartbeats 4000000 in
set_option maxRecDepth 20000 in
theorem tgX8_undo (l : Launch) (D : va_G) (cy : Nat → ClassId) (z : Nat) (σ : hpMem) (hI : hpInv σ) : hpM l D cy z yX8_undo cX8_undo 1 (some .int) rgX8_undo [.ref (z + 0)] σ (pgX8_undo z σ) := by
  refine hp_met rfl (Nat.le_of_ble_eq_true rfl) (fun p e s m below meth c C Z hr hlk => ?_)
  have hF0 : ∀ j i : Nat, 169 ≤ j → σ j i = σ j i := fun j i _ => rfl
  refine h_aload_n C dX8_undo_0 0 rfl rfl ?_
  refine h_callV (As := []) (rest := []) C Z yyX8_noMoor wd_572 (tgX8_noMoor l D cy z _ hI) kd_0 rfl rfl ⟨rfl, rfl, Nat.le_of_ble_eq_true rfl, Nat.le_of_ble_eq_true rfl⟩ ⟨Nat.le_of_ble_eq_true rfl, Nat.le_of_ble_eq_true rfl⟩ (Nat.le_of_ble_eq_true rfl) dX8_undo_1 (fun r1 τ1 hp1 => ?_)
  obtain ⟨⟨x1, rfl, ⟨hx1a, hx1b⟩⟩, rfl⟩ := hp1
  show hpV _ _ _ _ _ _ _ _ _ _ _ _ _ _ _ _ _ _ _ _ _ (_ :: _)
  refine h_if_eq (tgt := 10) C dX8_undo_4 (by decide) ⟨by omega, by omega⟩ (fun h2 => ?_) (fun h2 => ?_)
  · refine h_aload_n C dX8_undo_10 0 rfl rfl ?_
    refine h_get C O8 1 kd_0 (by decide) wd_350 dX8_undo_11 fr_0_1 ?_
    refine h_getN C O1 11 kd_3 (by decide) nw_106 dX8_undo_14 (hp_fvI (by rw [kd_3]; rfl) rfl) ?_
    obtain ⟨hr3a, hr3b⟩ := hI.b (bf_1_11 kd_3)
    generalize hg3 : σ 3 11 = r3 at hr3a hr3b ⊢
    refine h_iconst C dX8_undo_17 ?_
    refine h_icmp_ge (tgt := 24) C dX8_undo_18 (by decide) ⟨by omega, by omega⟩ ⟨by decide, by decide⟩ (fun h4 => ?_) (fun h4 => ?_)
    · refine h_aload_n C dX8_undo_24 0 rfl rfl ?_
      refine h_get C O8 1 kd_0 (by decide) wd_350 dX8_undo_25 fr_0_1 ?_
      refine h_dup C rfl dX8_undo_28 ?_
      refine h_getN C O1 11 kd_3 (by decide) nw_106 dX8_undo_29 (hp_fvI (by rw [kd_3]; rfl) rfl) ?_
      rw [hg3]
      refine h_iconst C dX8_undo_32 ?_
      refine h_isub C dX8_undo_33 rfl ?_
      refine h_putN C O1 11 kd_3 (by decide) rfl nw_106 dX8_undo_34 rfl rfl (hp_fvI (by rw [kd_3]; rfl) hpu_at) ?_
      obtain ⟨τ5, e5⟩ : ∃ μ : hpMem, μ = hpw σ 3 11 (r3 - 1) := ⟨_, rfl⟩
      rw [← e5]
      have hI5 : hpInv τ5 := by rw [e5]; exact hI.w (bf_1_11 kd_3) (by omega) (by omega)
      have hF5 : ∀ j i : Nat, 169 ≤ j → τ5 j i = σ j i := fun j i h_0 => by rw [e5]; exact (hpw_fr (by omega)).trans (hF0 j i h_0)
      have hg6 : τ5 3 11 = r3 - 1 := by rw [e5]; exact hpw_eq
      refine h_aload_n C dX8_undo_37 0 rfl rfl ?_
      refine h_callV (As := []) (rest := []) C Z yyX8_forget wd_537 (tgX8_forget l D cy z _ hI5) kd_0 rfl rfl ⟨rfl, rfl, Nat.le_of_ble_eq_true rfl, Nat.le_of_ble_eq_true rfl⟩ ⟨Nat.le_of_ble_eq_true rfl, Nat.le_of_ble_eq_true rfl⟩ (Nat.le_of_ble_eq_true rfl) dX8_undo_38 (fun r7 τ7 hp7 => ?_)
      obtain ⟨rfl, hI7, hG7⟩ := hp7
      have hF7 : ∀ j i : Nat, 169 ≤ j → τ7 j i = σ j i := fun j i h_0 => (hG7 j i (by omega)).trans (hF5 j i h_0)
      show hpV _ _ _ _ _ _ _ _ _ _ _ _ _ _ _ _ _ _ _ _ _ []
      refine h_aload_n C dX8_undo_41 0 rfl rfl ?_
      refine h_get C O8 1 kd_0 (by decide) wd_350 dX8_undo_42 fr_0_1 ?_
      refine h_getN C O1 11 kd_3 (by decide) nw_106 dX8_undo_45 (hp_fvI (by rw [kd_3]; rfl) rfl) ?_
      obtain ⟨hr8a, hr8b⟩ := hI7.b (bf_1_11 kd_3)
      generalize hg8 : τ7 3 11 = r8 at hr8a hr8b ⊢
      refine h_ireturn C hr hlk dX8_undo_48 ?_
      exact ⟨⟨_, rfl, ⟨by omega, by omega⟩⟩, hI7, hF7⟩
    · refine h_bipush C dX8_undo_21 (by decide) ?_
      refine h_ireturn C hr hlk dX8_undo_23 ?_
      exact ⟨⟨_, rfl, ⟨by decide, by decide⟩⟩, hI, hF0⟩
  · refine h_bipush C dX8_undo_7 (by decide) ?_
    refine h_ireturn C hr hlk dX8_undo_9 ?_
    exact ⟨⟨_, rfl, ⟨by decide, by decide⟩⟩, hI, hF0⟩
abbrev rgX8_anew : Room := { frames := 1, cells := 0, slots := 0, locals := 20 }
abbrev pgX8_anew (z : Nat) (σ : hpMem) : Option Value → hpMem → Prop := fun r τ => (∃ x : Int, r = some (.int (hpI x)) ∧ (hpR x)) ∧ hpInv τ ∧ (∀ j i : Nat, 169 ≤ j → τ j i = σ j i)
set_option maxHeartbeats 4000000 in
set_option maxRecDepth 20000 in
theorem tgX8_anew (l : Launch) (D : va_G) (cy : Nat → ClassId) (z : Nat) (σ : hpMem) (hI : hpInv σ) : hpM l D cy z yX8_anew cX8_anew 2 (some .int) rgX8_anew [.ref (z + 0)] σ (pgX8_anew z σ) := by
  refine hp_met rfl (Nat.le_of_ble_eq_true rfl) (fun p e s m below meth c C Z hr hlk => ?_)
  have hF0 : ∀ j i : Nat, 169 ≤ j → σ j i = σ j i := fun j i _ => rfl
  refine h_aload_n C dX8_anew_0 0 rfl rfl ?_
  refine h_callV (As := []) (rest := []) C Z yyX8_noMoor wd_572 (tgX8_noMoor l D cy z _ hI) kd_0 rfl rfl ⟨rfl, rfl, Nat.le_of_ble_eq_true rfl, Nat.le_of_ble_eq_true rfl⟩ ⟨Nat.le_of_ble_eq_true rfl, Nat.le_of_ble_eq_true rfl⟩ (Nat.le_of_ble_eq_true rfl) dX8_anew_1 (fun r1 τ1 hp1 => ?_)
  obtain ⟨⟨x1, rfl, ⟨hx1a, hx1b⟩⟩, rfl⟩ := hp1
  show hpV _ _ _ _ _ _ _ _ _ _ _ _ _ _ _ _ _ _ _ _ _ (_ :: _)
  refine h_if_eq (tgt := 10) C dX8_anew_4 (by decide) ⟨by omega, by omega⟩ (fun h2 => ?_) (fun h2 => ?_)
  · refine h_aload_n C dX8_anew_10 0 rfl rfl ?_
    refine h_get C O8 1 kd_0 (by decide) wd_350 dX8_anew_11 fr_0_1 ?_
    refine h_getN C O1 11 kd_3 (by decide) nw_106 dX8_anew_14 (hp_fvI (by rw [kd_3]; rfl) rfl) ?_
    obtain ⟨hr3a, hr3b⟩ := hI.b (bf_1_11 kd_3)
    generalize hg3 : σ 3 11 = r3 at hr3a hr3b ⊢
    refine h_istore_n (lv' := [(1, .int (hpI r3)), (0, .ref (z + 0))]) C dX8_anew_17 rfl (by decide) rfl ?_
    refine h_aload_n C dX8_anew_18 1 rfl rfl ?_
    refine h_get C O8 1 kd_0 (by decide) wd_350 dX8_anew_19 fr_0_1 ?_
    refine h_iconst C dX8_anew_22 ?_
    refine h_putN C O1 11 kd_3 (by decide) rfl nw_106 dX8_anew_23 rfl rfl (hp_fvI (by rw [kd_3]; rfl) hpu_at) ?_
    obtain ⟨τ4, e4⟩ : ∃ μ : hpMem, μ = hpw σ 3 11 0 := ⟨_, rfl⟩
    rw [← e4]
    have hI4 : hpInv τ4 := by rw [e4]; exact hI.w (bf_1_11 kd_3) (by omega) (by omega)
    have hF4 : ∀ j i : Nat, 169 ≤ j → τ4 j i = σ j i := fun j i h_0 => by rw [e4]; exact (hpw_fr (by omega)).trans (hF0 j i h_0)
    have hg5 : τ4 3 11 = 0 := by rw [e4]; exact hpw_eq
    refine h_aload_n C dX8_anew_26 1 rfl rfl ?_
    refine h_callV (As := []) (rest := []) C Z yyX8_forget wd_537 (tgX8_forget l D cy z _ hI4) kd_0 rfl rfl ⟨rfl, rfl, Nat.le_of_ble_eq_true rfl, Nat.le_of_ble_eq_true rfl⟩ ⟨Nat.le_of_ble_eq_true rfl, Nat.le_of_ble_eq_true rfl⟩ (Nat.le_of_ble_eq_true rfl) dX8_anew_27 (fun r6 τ6 hp6 => ?_)
    obtain ⟨rfl, hI6, hG6⟩ := hp6
    have hF6 : ∀ j i : Nat, 169 ≤ j → τ6 j i = σ j i := fun j i h_0 => (hG6 j i (by omega)).trans (hF4 j i h_0)
    show hpV _ _ _ _ _ _ _ _ _ _ _ _ _ _ _ _ _ _ _ _ _ []
    refine h_iload_n C dX8_anew_30 0 rfl rfl ?_
    refine h_ireturn C hr hlk dX8_anew_31 ?_
    exact ⟨⟨_, rfl, ⟨by omega, by omega⟩⟩, hI6, hF6⟩
  · refine h_bipush C dX8_anew_7 (by decide) ?_
    refine h_ireturn C hr hlk dX8_anew_9 ?_
    exact ⟨⟨_, rfl, ⟨by decide, by decide⟩⟩, hI, hF0⟩
abbrev rgX8_drawn : Room := { frames := 6, cells := 0, slots := 0, locals := 173 }
abbrev pgX8_drawn (z : Nat) (σ : hpMem) (a0 : Int) (a1 : Int) : Option Value → hpMem → Prop := fun r τ => (∃ x : Int, r = some (.int (hpI x)) ∧ (hpR x)) ∧ hpInv τ ∧ (∀ j i : Nat, 169 ≤ j → τ j i = σ j i)
set_option maxHeartbeats 4000000 in
set_option maxRecDepth 20000 in
theorem tgX8_drawn (l : Launch) (D : va_G) (cy : Nat → ClassId) (z : Nat) (σ : hpMem) (a0 : Int) (ha0 : hpR a0) (a1 : Int) (ha1 : hpR a1) (hI : hpInv σ) : hpM l D cy z yX8_drawn cX8_drawn 4 (some .int) rgX8_drawn [.ref (z + 0), .int (hpI a0), .int (hpI a1)] σ (pgX8_drawn z σ a0 a1) := by
  obtain ⟨ha01, ha02⟩ := ha0
  obtain ⟨ha11, ha12⟩ := ha1
  refine hp_met rfl (Nat.le_of_ble_eq_true rfl) (fun p e s m below meth c C Z hr hlk => ?_)
  have hF0 : ∀ j i : Nat, 169 ≤ j → σ j i = σ j i := fun j i _ => rfl
  refine h_aload_n C dX8_drawn_0 0 rfl rfl ?_
  refine h_callV (As := []) (rest := []) C Z yyX8_noMoor wd_572 (tgX8_noMoor l D cy z _ hI) kd_0 rfl rfl ⟨rfl, rfl, Nat.le_of_ble_eq_true rfl, Nat.le_of_ble_eq_true rfl⟩ ⟨Nat.le_of_ble_eq_true rfl, Nat.le_of_ble_eq_true rfl⟩ (Nat.le_of_ble_eq_true rfl) dX8_drawn_1 (fun r1 τ1 hp1 => ?_)
  obtain ⟨⟨x1, rfl, ⟨hx1a, hx1b⟩⟩, rfl⟩ := hp1
  show hpV _ _ _ _ _ _ _ _ _ _ _ _ _ _ _ _ _ _ _ _ _ (_ :: _)
  refine h_if_ne (tgt := 25) C dX8_drawn_4 (by decide) ⟨by omega, by omega⟩ (fun h2 => ?_) (fun h2 => ?_)
  · refine h_bipush C dX8_drawn_25 (by decide) ?_
    refine h_ireturn C hr hlk dX8_drawn_27 ?_
    exact ⟨⟨_, rfl, ⟨by decide, by decide⟩⟩, hI, hF0⟩
  · refine h_iload_n C dX8_drawn_7 1 rfl rfl ?_
    refine h_if_lt (tgt := 25) C dX8_drawn_8 (by decide) ⟨by omega, by omega⟩ (fun h3 => ?_) (fun h3 => ?_)
    · refine h_bipush C dX8_drawn_25 (by decide) ?_
      refine h_ireturn C hr hlk dX8_drawn_27 ?_
      exact ⟨⟨_, rfl, ⟨by decide, by decide⟩⟩, hI, hF0⟩
    · refine h_iload_n C dX8_drawn_11 1 rfl rfl ?_
      refine h_ldcw C 2000000000 wd_1190 (by decide) dX8_drawn_12 ?_
      refine h_icmp_gt (tgt := 25) C dX8_drawn_15 (by decide) ⟨by omega, by omega⟩ ⟨by decide, by decide⟩ (fun h4 => ?_) (fun h4 => ?_)
      · refine h_bipush C dX8_drawn_25 (by decide) ?_
        refine h_ireturn C hr hlk dX8_drawn_27 ?_
        exact ⟨⟨_, rfl, ⟨by decide, by decide⟩⟩, hI, hF0⟩
      · refine h_iload_n C dX8_drawn_18 2 rfl rfl ?_
        refine h_callS (As := [.int (hpI a1)]) (rest := []) C Z yyX8_isWhat rfl wd_561 (tgX8_isWhat l D cy z _ a1 ⟨by omega, by omega⟩ hI) rfl rfl ⟨rfl, rfl, Nat.le_of_ble_eq_true rfl, Nat.le_of_ble_eq_true rfl⟩ ⟨Nat.le_of_ble_eq_true rfl, Nat.le_of_ble_eq_true rfl⟩ (Nat.le_of_ble_eq_true rfl) dX8_drawn_19 (fun r5 τ5 hp5 => ?_)
        obtain ⟨⟨x5, rfl, ⟨hx5a, hx5b⟩⟩, rfl⟩ := hp5
        show hpV _ _ _ _ _ _ _ _ _ _ _ _ _ _ _ _ _ _ _ _ _ (_ :: _)
        refine h_if_ne (tgt := 28) C dX8_drawn_22 (by decide) ⟨by omega, by omega⟩ (fun h6 => ?_) (fun h6 => ?_)
        · refine h_aload_n C dX8_drawn_28 0 rfl rfl ?_
          refine h_iload_n C dX8_drawn_29 1 rfl rfl ?_
          refine h_i2l C dX8_drawn_30 ⟨by omega, by omega⟩ ?_
          refine h_callV (As := [.long (hpJ a0)]) (rest := []) C Z yyX8_wetDays wd_1191 (tgX8_wetDays l D cy z _ a0 ⟨by omega, by omega⟩ hI) kd_0 rfl rfl ⟨rfl, rfl, Nat.le_of_ble_eq_true rfl, Nat.le_of_ble_eq_true rfl⟩ ⟨Nat.le_of_ble_eq_true rfl, Nat.le_of_ble_eq_true rfl⟩ (Nat.le_of_ble_eq_true rfl) dX8_drawn_31 (fun r7 τ7 hp7 => ?_)
          obtain ⟨⟨x7, rfl, ⟨hx7a, hx7b⟩⟩, rfl⟩ := hp7
          show hpV _ _ _ _ _ _ _ _ _ _ _ _ _ _ _ _ _ _ _ _ _ (_ :: _)
          refine h_istore_n (lv' := [(3, .int (hpI x7)), (0, .ref (z + 0)), (1, .int (hpI a0)), (2, .int (hpI a1))]) C dX8_drawn_34 rfl (by decide) rfl ?_
          refine h_iload_n C dX8_drawn_35 3 rfl rfl ?_
          refine h_if_ne (tgt := 43) C dX8_drawn_36 (by decide) ⟨by omega, by omega⟩ (fun h8 => ?_) (fun h8 => ?_)
          · refine h_aload_n C dX8_drawn_43 1 rfl rfl ?_
            refine h_iload_n C dX8_drawn_44 0 rfl rfl ?_
            refine h_callV (As := [.int (hpI x7)]) (rest := []) C Z yyX8_heapsWithWet wd_1199 (tgX8_heapsWithWet l D cy z _ x7 ⟨by omega, by omega⟩ hI) kd_0 rfl rfl ⟨rfl, rfl, Nat.le_of_ble_eq_true rfl, Nat.le_of_ble_eq_true rfl⟩ ⟨Nat.le_of_ble_eq_true rfl, Nat.le_of_ble_eq_true rfl⟩ (Nat.le_of_ble_eq_true rfl) dX8_drawn_45 (fun r9 τ9 hp9 => ?_)
            obtain ⟨⟨x9, rfl, ⟨hx9a, hx9b⟩⟩, hI9, hG9⟩ := hp9
            have hF9 : ∀ j i : Nat, 169 ≤ j → τ9 j i = σ j i := fun j i h_0 => (hG9 j i (by omega)).trans (hF0 j i h_0)
            show hpV _ _ _ _ _ _ _ _ _ _ _ _ _ _ _ _ _ _ _ _ _ (_ :: _)
            refine h_ireturn C hr hlk dX8_drawn_48 ?_
            exact ⟨⟨_, rfl, ⟨by omega, by omega⟩⟩, hI9, hF9⟩
          · refine h_iload_n C dX8_drawn_39 0 rfl rfl ?_
            refine h_goto (tgt := 48) C dX8_drawn_40 (by decide) ?_
            refine h_ireturn C hr hlk dX8_drawn_48 ?_
            exact ⟨⟨_, rfl, ⟨by omega, by omega⟩⟩, hI, hF0⟩
        · refine h_bipush C dX8_drawn_25 (by decide) ?_
          refine h_ireturn C hr hlk dX8_drawn_27 ?_
          exact ⟨⟨_, rfl, ⟨by decide, by decide⟩⟩, hI, hF0⟩
abbrev rgX8_luck : Room := { frames := 6, cells := 0, slots := 0, locals := 173 }
abbrev pgX8_luck (z : Nat) (σ : hpMem) (a0 : Int) (a1 : Int) (a2 : Int) : Option Value → hpMem → Prop := fun r τ => (∃ x : Int, r = some (.int (hpI x)) ∧ (hpR x)) ∧ hpInv τ ∧ (∀ j i : Nat, 169 ≤ j → τ j i = σ j i)
set_option maxHeartbeats 4000000 in
set_option maxRecDepth 20000 in
theorem tgX8_luck (l : Launch) (D : va_G) (cy : Nat → ClassId) (z : Nat) (σ : hpMem) (a0 : Int) (ha0 : hpR a0) (a1 : Int) (ha1 : hpR a1) (a2 : Int) (ha2 : hpR a2) (hI : hpInv σ) : hpM l D cy z yX8_luck cX8_luck 7 (some .int) rgX8_luck [.ref (z + 0), .int (hpI a0), .int (hpI a1), .int (hpI a2)] σ (pgX8_luck z σ a0 a1 a2) := by
  obtain ⟨ha01, ha02⟩ := ha0
  obtain ⟨ha11, ha12⟩ := ha1
  obtain ⟨ha21, ha22⟩ := ha2
  refine hp_met rfl (Nat.le_of_ble_eq_true rfl) (fun p e s m below meth c C Z hr hlk => ?_)
  have hF0 : ∀ j i : Nat, 169 ≤ j → σ j i = σ j i := fun j i _ => rfl
  refine h_iload_n C dX8_luck_0 1 rfl rfl ?_
  refine h_if_lt (tgt := 26) C dX8_luck_1 (by decide) ⟨by omega, by omega⟩ (fun h1 => ?_) (fun h1 => ?_)
  · refine h_iconst C dX8_luck_26 ?_
    refine h_istore (lv' := [(4, .int (hpI 0)), (0, .ref (z + 0)), (1, .int (hpI a0)), (2, .int (hpI a1)), (3, .int (hpI a2))]) C dX8_luck_27 (by decide) rfl ?_
    refine h_aload_n C dX8_luck_29 1 rfl rfl ?_
    refine h_callV (As := []) (rest := []) C Z yyX8_noMoor wd_572 (tgX8_noMoor l D cy z _ hI) kd_0 rfl rfl ⟨rfl, rfl, Nat.le_of_ble_eq_true rfl, Nat.le_of_ble_eq_true rfl⟩ ⟨Nat.le_of_ble_eq_true rfl, Nat.le_of_ble_eq_true rfl⟩ (Nat.le_of_ble_eq_true rfl) dX8_luck_30 (fun r2 τ2 hp2 => ?_)
    obtain ⟨⟨x2, rfl, ⟨hx2a, hx2b⟩⟩, rfl⟩ := hp2
    show hpV _ _ _ _ _ _ _ _ _ _ _ _ _ _ _ _ _ _ _ _ _ (_ :: _)
    refine h_if_ne (tgt := 52) C dX8_luck_33 (by decide) ⟨by omega, by omega⟩ (fun h3 => ?_) (fun h3 => ?_)
    · refine h_bipush C dX8_luck_52 (by decide) ?_
      refine h_ireturn C hr hlk dX8_luck_54 ?_
      exact ⟨⟨_, rfl, ⟨by decide, by decide⟩⟩, hI, hF0⟩
    · refine h_iload C dX8_luck_36 0 rfl ?_
      refine h_if_eq (tgt := 52) C dX8_luck_38 (by decide) ⟨by decide, by decide⟩ (fun h4 => ?_) (fun h4 => ?_)
      · refine h_bipush C dX8_luck_52 (by decide) ?_
        refine h_ireturn C hr hlk dX8_luck_54 ?_
        exact ⟨⟨_, rfl, ⟨by decide, by decide⟩⟩, hI, hF0⟩
      · exfalso; omega
  · refine h_iload_n C dX8_luck_4 1 rfl rfl ?_
    refine h_ldcw C 2000000000 wd_1190 (by decide) dX8_luck_5 ?_
    refine h_icmp_gt (tgt := 26) C dX8_luck_8 (by decide) ⟨by omega, by omega⟩ ⟨by decide, by decide⟩ (fun h5 => ?_) (fun h5 => ?_)
    · refine h_iconst C dX8_luck_26 ?_
      refine h_istore (lv' := [(4, .int (hpI 0)), (0, .ref (z + 0)), (1, .int (hpI a0)), (2, .int (hpI a1)), (3, .int (hpI a2))]) C dX8_luck_27 (by decide) rfl ?_
      refine h_aload_n C dX8_luck_29 1 rfl rfl ?_
      refine h_callV (As := []) (rest := []) C Z yyX8_noMoor wd_572 (tgX8_noMoor l D cy z _ hI) kd_0 rfl rfl ⟨rfl, rfl, Nat.le_of_ble_eq_true rfl, Nat.le_of_ble_eq_true rfl⟩ ⟨Nat.le_of_ble_eq_true rfl, Nat.le_of_ble_eq_true rfl⟩ (Nat.le_of_ble_eq_true rfl) dX8_luck_30 (fun r6 τ6 hp6 => ?_)
      obtain ⟨⟨x6, rfl, ⟨hx6a, hx6b⟩⟩, rfl⟩ := hp6
      show hpV _ _ _ _ _ _ _ _ _ _ _ _ _ _ _ _ _ _ _ _ _ (_ :: _)
      refine h_if_ne (tgt := 52) C dX8_luck_33 (by decide) ⟨by omega, by omega⟩ (fun h7 => ?_) (fun h7 => ?_)
      · refine h_bipush C dX8_luck_52 (by decide) ?_
        refine h_ireturn C hr hlk dX8_luck_54 ?_
        exact ⟨⟨_, rfl, ⟨by decide, by decide⟩⟩, hI, hF0⟩
      · refine h_iload C dX8_luck_36 0 rfl ?_
        refine h_if_eq (tgt := 52) C dX8_luck_38 (by decide) ⟨by decide, by decide⟩ (fun h8 => ?_) (fun h8 => ?_)
        · refine h_bipush C dX8_luck_52 (by decide) ?_
          refine h_ireturn C hr hlk dX8_luck_54 ?_
          exact ⟨⟨_, rfl, ⟨by decide, by decide⟩⟩, hI, hF0⟩
        · exfalso; omega
    · refine h_iload_n C dX8_luck_11 2 rfl rfl ?_
      refine h_iconst C dX8_luck_12 ?_
      refine h_icmp_lt (tgt := 26) C dX8_luck_13 (by decide) ⟨by omega, by omega⟩ ⟨by decide, by decide⟩ (fun h9 => ?_) (fun h9 => ?_)
      · refine h_iconst C dX8_luck_26 ?_
        refine h_istore (lv' := [(4, .int (hpI 0)), (0, .ref (z + 0)), (1, .int (hpI a0)), (2, .int (hpI a1)), (3, .int (hpI a2))]) C dX8_luck_27 (by decide) rfl ?_
        refine h_aload_n C dX8_luck_29 1 rfl rfl ?_
        refine h_callV (As := []) (rest := []) C Z yyX8_noMoor wd_572 (tgX8_noMoor l D cy z _ hI) kd_0 rfl rfl ⟨rfl, rfl, Nat.le_of_ble_eq_true rfl, Nat.le_of_ble_eq_true rfl⟩ ⟨Nat.le_of_ble_eq_true rfl, Nat.le_of_ble_eq_true rfl⟩ (Nat.le_of_ble_eq_true rfl) dX8_luck_30 (fun r10 τ10 hp10 => ?_)
        obtain ⟨⟨x10, rfl, ⟨hx10a, hx10b⟩⟩, rfl⟩ := hp10
        show hpV _ _ _ _ _ _ _ _ _ _ _ _ _ _ _ _ _ _ _ _ _ (_ :: _)
        refine h_if_ne (tgt := 52) C dX8_luck_33 (by decide) ⟨by omega, by omega⟩ (fun h11 => ?_) (fun h11 => ?_)
        · refine h_bipush C dX8_luck_52 (by decide) ?_
          refine h_ireturn C hr hlk dX8_luck_54 ?_
          exact ⟨⟨_, rfl, ⟨by decide, by decide⟩⟩, hI, hF0⟩
        · refine h_iload C dX8_luck_36 0 rfl ?_
          refine h_if_eq (tgt := 52) C dX8_luck_38 (by decide) ⟨by decide, by decide⟩ (fun h12 => ?_) (fun h12 => ?_)
          · refine h_bipush C dX8_luck_52 (by decide) ?_
            refine h_ireturn C hr hlk dX8_luck_54 ?_
            exact ⟨⟨_, rfl, ⟨by decide, by decide⟩⟩, hI, hF0⟩
          · exfalso; omega
      · refine h_iload_n C dX8_luck_16 2 rfl rfl ?_
        refine h_bipush C dX8_luck_17 (by decide) ?_
        refine h_icmp_gt (tgt := 26) C dX8_luck_19 (by decide) ⟨by omega, by omega⟩ ⟨by decide, by decide⟩ (fun h13 => ?_) (fun h13 => ?_)
        · refine h_iconst C dX8_luck_26 ?_
          refine h_istore (lv' := [(4, .int (hpI 0)), (0, .ref (z + 0)), (1, .int (hpI a0)), (2, .int (hpI a1)), (3, .int (hpI a2))]) C dX8_luck_27 (by decide) rfl ?_
          refine h_aload_n C dX8_luck_29 1 rfl rfl ?_
          refine h_callV (As := []) (rest := []) C Z yyX8_noMoor wd_572 (tgX8_noMoor l D cy z _ hI) kd_0 rfl rfl ⟨rfl, rfl, Nat.le_of_ble_eq_true rfl, Nat.le_of_ble_eq_true rfl⟩ ⟨Nat.le_of_ble_eq_true rfl, Nat.le_of_ble_eq_true rfl⟩ (Nat.le_of_ble_eq_true rfl) dX8_luck_30 (fun r14 τ14 hp14 => ?_)
          obtain ⟨⟨x14, rfl, ⟨hx14a, hx14b⟩⟩, rfl⟩ := hp14
          show hpV _ _ _ _ _ _ _ _ _ _ _ _ _ _ _ _ _ _ _ _ _ (_ :: _)
          refine h_if_ne (tgt := 52) C dX8_luck_33 (by decide) ⟨by omega, by omega⟩ (fun h15 => ?_) (fun h15 => ?_)
          · refine h_bipush C dX8_luck_52 (by decide) ?_
            refine h_ireturn C hr hlk dX8_luck_54 ?_
            exact ⟨⟨_, rfl, ⟨by decide, by decide⟩⟩, hI, hF0⟩
          · refine h_iload C dX8_luck_36 0 rfl ?_
            refine h_if_eq (tgt := 52) C dX8_luck_38 (by decide) ⟨by decide, by decide⟩ (fun h16 => ?_) (fun h16 => ?_)
            · refine h_bipush C dX8_luck_52 (by decide) ?_
              refine h_ireturn C hr hlk dX8_luck_54 ?_
              exact ⟨⟨_, rfl, ⟨by decide, by decide⟩⟩, hI, hF0⟩
            · exfalso; omega
        · refine h_iconst C dX8_luck_22 ?_
          refine h_goto (tgt := 27) C dX8_luck_23 (by decide) ?_
          refine h_istore (lv' := [(4, .int (hpI 1)), (0, .ref (z + 0)), (1, .int (hpI a0)), (2, .int (hpI a1)), (3, .int (hpI a2))]) C dX8_luck_27 (by decide) rfl ?_
          refine h_aload_n C dX8_luck_29 1 rfl rfl ?_
          refine h_callV (As := []) (rest := []) C Z yyX8_noMoor wd_572 (tgX8_noMoor l D cy z _ hI) kd_0 rfl rfl ⟨rfl, rfl, Nat.le_of_ble_eq_true rfl, Nat.le_of_ble_eq_true rfl⟩ ⟨Nat.le_of_ble_eq_true rfl, Nat.le_of_ble_eq_true rfl⟩ (Nat.le_of_ble_eq_true rfl) dX8_luck_30 (fun r17 τ17 hp17 => ?_)
          obtain ⟨⟨x17, rfl, ⟨hx17a, hx17b⟩⟩, rfl⟩ := hp17
          show hpV _ _ _ _ _ _ _ _ _ _ _ _ _ _ _ _ _ _ _ _ _ (_ :: _)
          refine h_if_ne (tgt := 52) C dX8_luck_33 (by decide) ⟨by omega, by omega⟩ (fun h18 => ?_) (fun h18 => ?_)
          · refine h_bipush C dX8_luck_52 (by decide) ?_
            refine h_ireturn C hr hlk dX8_luck_54 ?_
            exact ⟨⟨_, rfl, ⟨by decide, by decide⟩⟩, hI, hF0⟩
          · refine h_iload C dX8_luck_36 0 rfl ?_
            refine h_if_eq (tgt := 52) C dX8_luck_38 (by decide) ⟨by decide, by decide⟩ (fun h19 => ?_) (fun h19 => ?_)
            · exfalso; omega
            · refine h_iload_n C dX8_luck_41 4 rfl rfl ?_
              refine h_if_lt (tgt := 52) C dX8_luck_42 (by decide) ⟨by omega, by omega⟩ (fun h20 => ?_) (fun h20 => ?_)
              · refine h_bipush C dX8_luck_52 (by decide) ?_
                refine h_ireturn C hr hlk dX8_luck_54 ?_
                exact ⟨⟨_, rfl, ⟨by decide, by decide⟩⟩, hI, hF0⟩
              · refine h_iload_n C dX8_luck_45 4 rfl rfl ?_
                refine h_sipush C dX8_luck_46 (by decide) ?_
                refine h_icmp_le (tgt := 55) C dX8_luck_49 (by decide) ⟨by omega, by omega⟩ ⟨by decide, by decide⟩ (fun h21 => ?_) (fun h21 => ?_)
                · refine h_iconst C dX8_luck_55 ?_
                  refine h_istore (lv' := [(5, .int (hpI 0)), (4, .int (hpI 1)), (0, .ref (z + 0)), (1, .int (hpI a0)), (2, .int (hpI a1)), (3, .int (hpI a2))]) C dX8_luck_56 (by decide) rfl ?_
                  refine h_iconst C dX8_luck_58 ?_
                  refine h_istore (lv' := [(6, .int (hpI 0)), (5, .int (hpI 0)), (4, .int (hpI 1)), (0, .ref (z + 0)), (1, .int (hpI a0)), (2, .int (hpI a1)), (3, .int (hpI a2))]) C dX8_luck_59 (by decide) rfl ?_
                  have L22 : ∀ (n22 : Nat) (τ22 : hpMem) (w22_5 : Int) (w22_6 : Int), 0 ≤ w22_5 → w22_5 ≤ 2147483647 → 0 ≤ w22_6 → w22_6 ≤ 2147483647 → w22_5 ≤ w22_6 → hpInv τ22 → (∀ j i : Nat, 169 ≤ j → τ22 j i = σ j i) → (4294967296 - w22_6) < (n22 : Int) → hpF p l e rgX8_luck s m [.ref (z + 0), .int (hpI a0), .int (hpI a1), .int (hpI a2)] below meth c 7 D cy z (pgX8_luck z σ a0 a1 a2) τ22 61 [(0, .ref (z + 0)), (1, .int (hpI a0)), (2, .int (hpI a1)), (3, .int (hpI a2)), (4, .int (hpI 1)), (5, .int (hpI w22_5)), (6, .int (hpI w22_6))] [] := by
                    intro n22
                    induction n22 with
                    | zero => intro τ22 w22_5 w22_6 hv22_0 hv22_1 hv22_2 hv22_3 hv22_4 hI22 hF22 hm22; exfalso; omega
                    | succ n22 ih22 =>
                      intro τ22 w22_5 w22_6 hv22_0 hv22_1 hv22_2 hv22_3 hv22_4 hI22 hF22 hm22
                      refine h_iload C dX8_luck_61 6 rfl ?_
                      refine h_iload_n C dX8_luck_63 2 rfl rfl ?_
                      refine h_icmp_ge (tgt := 94) C dX8_luck_64 (by decide) ⟨by omega, by omega⟩ ⟨by omega, by omega⟩ (fun h23 => ?_) (fun h23 => ?_)
                      · refine h_iload C dX8_luck_94 5 rfl ?_
                        refine h_ireturn C hr hlk dX8_luck_96 ?_
                        exact ⟨⟨_, rfl, ⟨by omega, by omega⟩⟩, hI22, hF22⟩
                      · refine h_aload_n C dX8_luck_67 0 rfl rfl ?_
                        refine h_aload_n C dX8_luck_68 0 rfl rfl ?_
                        refine h_iload_n C dX8_luck_69 1 rfl rfl ?_
                        refine h_i2l C dX8_luck_70 ⟨by omega, by omega⟩ ?_
                        refine h_iload C dX8_luck_71 6 rfl ?_
                        refine h_i2l C dX8_luck_73 ⟨by omega, by omega⟩ ?_
                        refine h_ladd C dX8_luck_74 rfl ?_
                        refine h_callV (As := [.long (hpJ (a0 + w22_6))]) (rest := [.ref (z + 0)]) C Z yyX8_wetDays wd_1191 (tgX8_wetDays l D cy z _ (a0 + w22_6) ⟨by omega, by omega⟩ hI22) kd_0 rfl rfl ⟨rfl, rfl, Nat.le_of_ble_eq_true rfl, Nat.le_of_ble_eq_true rfl⟩ ⟨Nat.le_of_ble_eq_true rfl, Nat.le_of_ble_eq_true rfl⟩ (Nat.le_of_ble_eq_true rfl) dX8_luck_75 (fun r24 τ24 hp24 => ?_)
                        obtain ⟨⟨x24, rfl, ⟨hx24a, hx24b⟩⟩, rfl⟩ := hp24
                        show hpV _ _ _ _ _ _ _ _ _ _ _ _ _ _ _ _ _ _ _ _ _ (_ :: _)
                        refine h_callV (As := [.int (hpI x24)]) (rest := []) C Z yyX8_heapsWithWet wd_1199 (tgX8_heapsWithWet l D cy z _ x24 ⟨by omega, by omega⟩ hI22) kd_0 rfl rfl ⟨rfl, rfl, Nat.le_of_ble_eq_true rfl, Nat.le_of_ble_eq_true rfl⟩ ⟨Nat.le_of_ble_eq_true rfl, Nat.le_of_ble_eq_true rfl⟩ (Nat.le_of_ble_eq_true rfl) dX8_luck_78 (fun r25 τ25 hp25 => ?_)
                        obtain ⟨⟨x25, rfl, ⟨hx25a, hx25b⟩⟩, hI25, hG25⟩ := hp25
                        have hF25 : ∀ j i : Nat, 169 ≤ j → τ25 j i = σ j i := fun j i h_0 => (hG25 j i (by omega)).trans (hF22 j i h_0)
                        show hpV _ _ _ _ _ _ _ _ _ _ _ _ _ _ _ _ _ _ _ _ _ (_ :: _)
                        refine h_iload_n C dX8_luck_81 3 rfl rfl ?_
                        refine h_icmp_lt (tgt := 88) C dX8_luck_82 (by decide) ⟨by omega, by omega⟩ ⟨by omega, by omega⟩ (fun h26 => ?_) (fun h26 => ?_)
                        · refine h_iinc (lv' := [(6, .int (hpI (w22_6 + 1))), (0, .ref (z + 0)), (1, .int (hpI a0)), (2, .int (hpI a1)), (3, .int (hpI a2)), (4, .int (hpI 1)), (5, .int (hpI w22_5))]) C dX8_luck_88 6 rfl rfl (by decide) rfl ?_
                          refine h_goto (tgt := 61) C dX8_luck_91 (by decide) ?_
                          exact hp_sub [1, 2, 3, 4, 5, 6, 0] rfl (ih22 _ w22_5 (w22_6 + 1) (by omega) (by omega) (by omega) (by omega) (by omega) hI25 hF25 (by omega))
                        · refine h_iinc (lv' := [(5, .int (hpI (w22_5 + 1))), (0, .ref (z + 0)), (1, .int (hpI a0)), (2, .int (hpI a1)), (3, .int (hpI a2)), (4, .int (hpI 1)), (6, .int (hpI w22_6))]) C dX8_luck_85 5 rfl rfl (by decide) rfl ?_
                          refine h_iinc (lv' := [(6, .int (hpI (w22_6 + 1))), (5, .int (hpI (w22_5 + 1))), (0, .ref (z + 0)), (1, .int (hpI a0)), (2, .int (hpI a1)), (3, .int (hpI a2)), (4, .int (hpI 1))]) C dX8_luck_88 6 rfl rfl (by decide) rfl ?_
                          refine h_goto (tgt := 61) C dX8_luck_91 (by decide) ?_
                          exact hp_sub [2, 3, 4, 5, 6, 1, 0] rfl (ih22 _ (w22_5 + 1) (w22_6 + 1) (by omega) (by omega) (by omega) (by omega) (by omega) hI25 hF25 (by omega))
                  exact hp_sub [3, 4, 5, 6, 2, 1, 0] rfl (L22 8589934592 _ 0 0 (by omega) (by omega) (by omega) (by omega) (by omega) hI hF0 (by omega))
                · refine h_bipush C dX8_luck_52 (by decide) ?_
                  refine h_ireturn C hr hlk dX8_luck_54 ?_
                  exact ⟨⟨_, rfl, ⟨by decide, by decide⟩⟩, hI, hF0⟩
abbrev rgX8_rate : Room := { frames := 1, cells := 0, slots := 0, locals := 21 }
abbrev pgX8_rate (z : Nat) (σ : hpMem) (a0 : Int) (a1 : Int) : Option Value → hpMem → Prop := fun r τ => (∃ x : Int, r = some (.int (hpI x)) ∧ (hpR x)) ∧ hpInv τ ∧ (∀ j i : Nat, 169 ≤ j → τ j i = σ j i)
set_option maxHeartbeats 4000000 in
set_option maxRecDepth 20000 in
theorem tgX8_rate (l : Launch) (D : va_G) (cy : Nat → ClassId) (z : Nat) (σ : hpMem) (a0 : Int) (ha0 : hpR a0) (a1 : Int) (ha1 : hpR a1) (hI : hpInv σ) : hpM l D cy z yX8_rate cX8_rate 4 (some .int) rgX8_rate [.ref (z + 0), .int (hpI a0), .int (hpI a1)] σ (pgX8_rate z σ a0 a1) := by
  obtain ⟨ha01, ha02⟩ := ha0
  obtain ⟨ha11, ha12⟩ := ha1
  refine hp_met rfl (Nat.le_of_ble_eq_true rfl) (fun p e s m below meth c C Z hr hlk => ?_)
  have hF0 : ∀ j i : Nat, 169 ≤ j → σ j i = σ j i := fun j i _ => rfl
  refine h_aload_n C dX8_rate_0 0 rfl rfl ?_
  refine h_iload_n C dX8_rate_1 1 rfl rfl ?_
  refine h_callV (As := [.int (hpI a0)]) (rest := []) C Z yyX8_isTold wd_549 (tgX8_isTold l D cy z _ a0 ⟨by omega, by omega⟩ hI) kd_0 rfl rfl ⟨rfl, rfl, Nat.le_of_ble_eq_true rfl, Nat.le_of_ble_eq_true rfl⟩ ⟨Nat.le_of_ble_eq_true rfl, Nat.le_of_ble_eq_true rfl⟩ (Nat.le_of_ble_eq_true rfl) dX8_rate_2 (fun r1 τ1 hp1 => ?_)
  obtain ⟨⟨x1, rfl, ⟨hx1a, hx1b⟩, hx1⟩, rfl⟩ := hp1
  show hpV _ _ _ _ _ _ _ _ _ _ _ _ _ _ _ _ _ _ _ _ _ (_ :: _)
  refine h_if_eq (tgt := 19) C dX8_rate_5 (by decide) ⟨by omega, by omega⟩ (fun h2 => ?_) (fun h2 => ?_)
  · refine h_bipush C dX8_rate_19 (by decide) ?_
    refine h_ireturn C hr hlk dX8_rate_21 ?_
    exact ⟨⟨_, rfl, ⟨by decide, by decide⟩⟩, hI, hF0⟩
  · refine h_iload_n C dX8_rate_8 2 rfl rfl ?_
    refine h_iconst C dX8_rate_9 ?_
    refine h_icmp_lt (tgt := 19) C dX8_rate_10 (by decide) ⟨by omega, by omega⟩ ⟨by decide, by decide⟩ (fun h3 => ?_) (fun h3 => ?_)
    · refine h_bipush C dX8_rate_19 (by decide) ?_
      refine h_ireturn C hr hlk dX8_rate_21 ?_
      exact ⟨⟨_, rfl, ⟨by decide, by decide⟩⟩, hI, hF0⟩
    · refine h_iload_n C dX8_rate_13 2 rfl rfl ?_
      refine h_bipush C dX8_rate_14 (by decide) ?_
      refine h_icmp_le (tgt := 22) C dX8_rate_16 (by decide) ⟨by omega, by omega⟩ ⟨by decide, by decide⟩ (fun h4 => ?_) (fun h4 => ?_)
      · refine h_aload_n C dX8_rate_22 0 rfl rfl ?_
        refine h_get C O8 1 kd_0 (by decide) wd_350 dX8_rate_23 fr_0_1 ?_
        refine h_getN C O1 11 kd_3 (by decide) nw_106 dX8_rate_26 (hp_fvI (by rw [kd_3]; rfl) rfl) ?_
        obtain ⟨hr5a, hr5b⟩ := hI.b (bf_1_11 kd_3)
        generalize hg5 : σ 3 11 = r5 at hr5a hr5b ⊢
        refine h_if_le (tgt := 35) C dX8_rate_29 (by decide) ⟨by omega, by omega⟩ (fun h6 => ?_) (fun h6 => ?_)
        · refine h_aload_n C dX8_rate_35 0 rfl rfl ?_
          refine h_get C O8 1 kd_0 (by decide) wd_350 dX8_rate_36 fr_0_1 ?_
          refine h_getN C O1 0 kd_3 (by decide) nw_66 dX8_rate_39 fr_3_0 ?_
          refine h_iload_n C dX8_rate_42 1 rfl rfl ?_
          refine h_iaload C dX8_rate_43 kd_4 (a0).toNat (Int.toNat_of_nonneg (by omega)) (by rw [ln_4]; omega) rfl ?_
          obtain ⟨hr7a, hr7b⟩ := hI.b (bo_4 _)
          generalize hg7 : σ 4 ((a0).toNat) = r7 at hr7a hr7b ⊢
          refine h_istore_n (lv' := [(3, .int (hpI r7)), (0, .ref (z + 0)), (1, .int (hpI a0)), (2, .int (hpI a1))]) C dX8_rate_44 rfl (by decide) rfl ?_
          refine h_aload_n C dX8_rate_45 1 rfl rfl ?_
          refine h_get C O8 1 kd_0 (by decide) wd_350 dX8_rate_46 fr_0_1 ?_
          refine h_getN C O1 0 kd_3 (by decide) nw_66 dX8_rate_49 fr_3_0 ?_
          refine h_iload_n C dX8_rate_52 2 rfl rfl ?_
          refine h_iload_n C dX8_rate_53 3 rfl rfl ?_
          refine h_iastore C dX8_rate_54 kd_4 (a0).toNat (Int.toNat_of_nonneg (by omega)) (by rw [ln_4]; omega) ?_
          obtain ⟨τ8, e8⟩ : ∃ μ : hpMem, μ = hpw σ 4 ((a0).toNat) a1 := ⟨_, rfl⟩
          rw [← e8]
          have hI8 : hpInv τ8 := by rw [e8]; exact hI.w (bo_4 _) (by omega) (by omega)
          have hF8 : ∀ j i : Nat, 169 ≤ j → τ8 j i = σ j i := fun j i h_0 => by rw [e8]; exact (hpw_fr (by omega)).trans (hF0 j i h_0)
          have hg9 : τ8 3 11 = r5 := by rw [e8]; exact (hpw_fr (Or.inl (by omega))).trans hg5
          refine h_aload_n C dX8_rate_55 1 rfl rfl ?_
          refine h_callV (As := []) (rest := []) C Z yyX8_forget wd_537 (tgX8_forget l D cy z _ hI8) kd_0 rfl rfl ⟨rfl, rfl, Nat.le_of_ble_eq_true rfl, Nat.le_of_ble_eq_true rfl⟩ ⟨Nat.le_of_ble_eq_true rfl, Nat.le_of_ble_eq_true rfl⟩ (Nat.le_of_ble_eq_true rfl) dX8_rate_56 (fun r10 τ10 hp10 => ?_)
          obtain ⟨rfl, hI10, hG10⟩ := hp10
          have hF10 : ∀ j i : Nat, 169 ≤ j → τ10 j i = σ j i := fun j i h_0 => (hG10 j i (by omega)).trans (hF8 j i h_0)
          show hpV _ _ _ _ _ _ _ _ _ _ _ _ _ _ _ _ _ _ _ _ _ []
          refine h_iload_n C dX8_rate_59 0 rfl rfl ?_
          refine h_ireturn C hr hlk dX8_rate_60 ?_
          exact ⟨⟨_, rfl, ⟨by omega, by omega⟩⟩, hI10, hF10⟩
        · refine h_bipush C dX8_rate_32 (by decide) ?_
          refine h_ireturn C hr hlk dX8_rate_34 ?_
          exact ⟨⟨_, rfl, ⟨by decide, by decide⟩⟩, hI, hF0⟩
      · refine h_bipush C dX8_rate_19 (by decide) ?_
        refine h_ireturn C hr hlk dX8_rate_21 ?_
        exact ⟨⟨_, rfl, ⟨by decide, by decide⟩⟩, hI, hF0⟩
abbrev rgX8_count : Room := { frames := 2, cells := 0, slots := 0, locals := 42 }
abbrev pgX8_count (z : Nat) (σ : hpMem) (a0 : Int) : Option Value → hpMem → Prop := fun r τ => (∃ x : Int, r = some (.int (hpI x)) ∧ (hpR x)) ∧ σ = τ
set_option maxHeartbeats 4000000 in
set_option maxRecDepth 20000 in
theorem tgX8_count (l : Launch) (D : va_G) (cy : Nat → ClassId) (z : Nat) (σ : hpMem) (a0 : Int) (ha0 : hpR a0) (hI : hpInv σ) : hpM l D cy z yX8_count cX8_count 2 (some .int) rgX8_count [.ref (z + 0), .int (hpI a0)] σ (pgX8_count z σ a0) := by
  obtain ⟨ha01, ha02⟩ := ha0
  refine hp_met rfl (Nat.le_of_ble_eq_true rfl) (fun p e s m below meth c C Z hr hlk => ?_)
  refine h_iload_n C dX8_count_0 1 rfl rfl ?_
  rcases (show a0 = 0 ∨ a0 = 1 ∨ a0 = 2 ∨ a0 = 3 ∨ a0 = 4 ∨ a0 = 5 ∨ a0 = 6 ∨ a0 = 7 ∨ a0 = 8 ∨ (a0 < 0 ∨ 8 < a0) by omega) with rfl | rfl | rfl | rfl | rfl | rfl | rfl | rfl | rfl | hs1
  · refine h_tableIn (tgt := 52) C dX8_count_1 ⟨by decide, by decide⟩ (by decide) (by decide) rfl (by decide) ?_
    refine h_aload_n C dX8_count_52 0 rfl rfl ?_
    refine h_get C O8 1 kd_0 (by decide) wd_350 dX8_count_53 fr_0_1 ?_
    refine h_getN C O1 5 kd_3 (by decide) nw_85 dX8_count_56 (hp_fvI (by rw [kd_3]; rfl) rfl) ?_
    obtain ⟨hr2a, hr2b⟩ := hI.b (bf_1_5 kd_3)
    generalize hg2 : σ 3 5 = r2 at hr2a hr2b ⊢
    refine h_ireturn C hr hlk dX8_count_59 ?_
    exact ⟨⟨_, rfl, ⟨by omega, by omega⟩⟩, rfl⟩
  · refine h_tableIn (tgt := 60) C dX8_count_1 ⟨by decide, by decide⟩ (by decide) (by decide) rfl (by decide) ?_
    refine h_aload_n C dX8_count_60 0 rfl rfl ?_
    refine h_get C O8 1 kd_0 (by decide) wd_350 dX8_count_61 fr_0_1 ?_
    refine h_getN C O1 6 kd_3 (by decide) nw_89 dX8_count_64 (hp_fvI (by rw [kd_3]; rfl) rfl) ?_
    obtain ⟨hr3a, hr3b⟩ := hI.b (bf_1_6 kd_3)
    generalize hg3 : σ 3 6 = r3 at hr3a hr3b ⊢
    refine h_ireturn C hr hlk dX8_count_67 ?_
    exact ⟨⟨_, rfl, ⟨by omega, by omega⟩⟩, rfl⟩
  · refine h_tableIn (tgt := 68) C dX8_count_1 ⟨by decide, by decide⟩ (by decide) (by decide) rfl (by decide) ?_
    refine h_aload_n C dX8_count_68 0 rfl rfl ?_
    refine h_get C O8 1 kd_0 (by decide) wd_350 dX8_count_69 fr_0_1 ?_
    refine h_getN C O1 7 kd_3 (by decide) nw_92 dX8_count_72 (hp_fvI (by rw [kd_3]; rfl) rfl) ?_
    obtain ⟨hr4a, hr4b⟩ := hI.b (bf_1_7 kd_3)
    generalize hg4 : σ 3 7 = r4 at hr4a hr4b ⊢
    refine h_ireturn C hr hlk dX8_count_75 ?_
    exact ⟨⟨_, rfl, ⟨by omega, by omega⟩⟩, rfl⟩
  · refine h_tableIn (tgt := 76) C dX8_count_1 ⟨by decide, by decide⟩ (by decide) (by decide) rfl (by decide) ?_
    refine h_aload_n C dX8_count_76 0 rfl rfl ?_
    refine h_get C O8 1 kd_0 (by decide) wd_350 dX8_count_77 fr_0_1 ?_
    refine h_getN C O1 9 kd_3 (by decide) nw_99 dX8_count_80 (hp_fvI (by rw [kd_3]; rfl) rfl) ?_
    obtain ⟨hr5a, hr5b⟩ := hI.b (bf_1_9 kd_3)
    generalize hg5 : σ 3 9 = r5 at hr5a hr5b ⊢
    refine h_ireturn C hr hlk dX8_count_83 ?_
    exact ⟨⟨_, rfl, ⟨by omega, by omega⟩⟩, rfl⟩
  · refine h_tableIn (tgt := 84) C dX8_count_1 ⟨by decide, by decide⟩ (by decide) (by decide) rfl (by decide) ?_
    refine h_aload_n C dX8_count_84 0 rfl rfl ?_
    refine h_get C O8 1 kd_0 (by decide) wd_350 dX8_count_85 fr_0_1 ?_
    refine h_getN C O1 10 kd_3 (by decide) nw_103 dX8_count_88 (hp_fvI (by rw [kd_3]; rfl) rfl) ?_
    obtain ⟨hr6a, hr6b⟩ := hI.b (bf_1_10 kd_3)
    generalize hg6 : σ 3 10 = r6 at hr6a hr6b ⊢
    refine h_ireturn C hr hlk dX8_count_91 ?_
    exact ⟨⟨_, rfl, ⟨by omega, by omega⟩⟩, rfl⟩
  · refine h_tableIn (tgt := 92) C dX8_count_1 ⟨by decide, by decide⟩ (by decide) (by decide) rfl (by decide) ?_
    refine h_aload_n C dX8_count_92 0 rfl rfl ?_
    refine h_get C O8 1 kd_0 (by decide) wd_350 dX8_count_93 fr_0_1 ?_
    refine h_getN C O1 11 kd_3 (by decide) nw_106 dX8_count_96 (hp_fvI (by rw [kd_3]; rfl) rfl) ?_
    obtain ⟨hr7a, hr7b⟩ := hI.b (bf_1_11 kd_3)
    generalize hg7 : σ 3 11 = r7 at hr7a hr7b ⊢
    refine h_ireturn C hr hlk dX8_count_99 ?_
    exact ⟨⟨_, rfl, ⟨by omega, by omega⟩⟩, rfl⟩
  · refine h_tableIn (tgt := 100) C dX8_count_1 ⟨by decide, by decide⟩ (by decide) (by decide) rfl (by decide) ?_
    refine h_aload_n C dX8_count_100 0 rfl rfl ?_
    refine h_get C O8 1 kd_0 (by decide) wd_350 dX8_count_101 fr_0_1 ?_
    refine h_getN C O1 8 kd_3 (by decide) nw_95 dX8_count_104 (hp_fvI (by rw [kd_3]; rfl) rfl) ?_
    obtain ⟨hr8a, hr8b⟩ := hI.b (bf_1_8 kd_3)
    generalize hg8 : σ 3 8 = r8 at hr8a hr8b ⊢
    refine h_ireturn C hr hlk dX8_count_107 ?_
    exact ⟨⟨_, rfl, ⟨by omega, by omega⟩⟩, rfl⟩
  · refine h_tableIn (tgt := 108) C dX8_count_1 ⟨by decide, by decide⟩ (by decide) (by decide) rfl (by decide) ?_
    refine h_aload_n C dX8_count_108 0 rfl rfl ?_
    refine h_get C O8 0 kd_0 (by decide) wd_349 dX8_count_109 fr_0_0 ?_
    refine h_getN C O7 1 kd_1 (by decide) nw_33 dX8_count_112 (hp_fvI (by rw [kd_1]; rfl) rfl) ?_
    obtain ⟨hr9a, hr9b⟩ := hI.b (bf_7_1 kd_1)
    generalize hg9 : σ 1 1 = r9 at hr9a hr9b ⊢
    refine h_ireturn C hr hlk dX8_count_115 ?_
    exact ⟨⟨_, rfl, ⟨by omega, by omega⟩⟩, rfl⟩
  · refine h_tableIn (tgt := 116) C dX8_count_1 ⟨by decide, by decide⟩ (by decide) (by decide) rfl (by decide) ?_
    refine h_aload_n C dX8_count_116 0 rfl rfl ?_
    refine h_callV (As := []) (rest := []) C Z yyX8_slotsWithRow wd_1215 (tgX8_slotsWithRow l D cy z _ hI) kd_0 rfl rfl ⟨rfl, rfl, Nat.le_of_ble_eq_true rfl, Nat.le_of_ble_eq_true rfl⟩ ⟨Nat.le_of_ble_eq_true rfl, Nat.le_of_ble_eq_true rfl⟩ (Nat.le_of_ble_eq_true rfl) dX8_count_117 (fun r10 τ10 hp10 => ?_)
    obtain ⟨⟨x10, rfl, ⟨hx10a, hx10b⟩⟩, rfl⟩ := hp10
    show hpV _ _ _ _ _ _ _ _ _ _ _ _ _ _ _ _ _ _ _ _ _ (_ :: _)
    refine h_ireturn C hr hlk dX8_count_120 ?_
    exact ⟨⟨_, rfl, ⟨by omega, by omega⟩⟩, rfl⟩
  · refine h_tableOut (tgt := 121) C dX8_count_1 ⟨by omega, by omega⟩ hs1 (by decide) ?_
    refine h_iconst C dX8_count_121 ?_
    refine h_ireturn C hr hlk dX8_count_122 ?_
    exact ⟨⟨_, rfl, ⟨by decide, by decide⟩⟩, rfl⟩
abbrev rgX8_image : Room := { frames := 2, cells := 0, slots := 0, locals := 81 }
abbrev pgX8_image (z : Nat) (σ : hpMem) (a0 : Int) : Option Value → hpMem → Prop := fun r τ => (∃ x : Int, r = some (.int (hpI x)) ∧ (hpR x) ∧ (((a0 < 0 ∨ 2 < a0) ∧ x = -2) ∨ ((0 ≤ a0 ∧ a0 ≤ 2) ∧ x = 0)) ∧ hpInv τ ∧ (∀ j i : Nat, (j < 169 ∨ 187 ≤ j) → τ j i = σ j i) ∧ (∀ k : Nat, k < 3 → (((k : Int) = a0 ∧ τ (169 + 6 * k) 12 = 1) ∨ ((k : Int) ≠ a0 ∧ τ (169 + 6 * k) 12 = σ (169 + 6 * k) 12))))
set_option maxHeartbeats 4000000 in
set_option maxRecDepth 20000 in
theorem tgX8_image (l : Launch) (D : va_G) (cy : Nat → ClassId) (z : Nat) (σ : hpMem) (a0 : Int) (ha0 : hpR a0) (hI : hpInv σ) : hpM l D cy z yX8_image cX8_image 2 (some .int) rgX8_image [.ref (z + 0), .int (hpI a0)] σ (pgX8_image z σ a0) := by
  obtain ⟨ha01, ha02⟩ := ha0
  refine hp_met rfl (Nat.le_of_ble_eq_true rfl) (fun p e s m below meth c C Z hr hlk => ?_)
  have hF0 : ∀ j i : Nat, (j < 169 ∨ 187 ≤ j) → σ j i = σ j i := fun j i _ => rfl
  refine h_iload_n C dX8_image_0 1 rfl rfl ?_
  refine h_if_lt (tgt := 9) C dX8_image_1 (by decide) ⟨by omega, by omega⟩ (fun h1 => ?_) (fun h1 => ?_)
  · refine h_bipush C dX8_image_9 (by decide) ?_
    refine h_ireturn C hr hlk dX8_image_11 ?_
    exact ⟨_, rfl, ⟨by decide, by decide⟩, by omega, hI, hF0, fun k hk => Or.inr ⟨by omega, rfl⟩⟩
  · refine h_iload_n C dX8_image_4 1 rfl rfl ?_
    refine h_iconst C dX8_image_5 ?_
    refine h_icmp_lt (tgt := 12) C dX8_image_6 (by decide) ⟨by omega, by omega⟩ ⟨by decide, by decide⟩ (fun h2 => ?_) (fun h2 => ?_)
    · refine h_aload_n C dX8_image_12 0 rfl rfl ?_
      refine h_get C O8 3 kd_0 (by decide) wd_352 dX8_image_13 fr_0_3 ?_
      refine h_iload_n C dX8_image_16 1 rfl rfl ?_
      obtain ⟨q3, eq3⟩ : ∃ q : Nat, q = 169 + 6 * ((a0).toNat) := ⟨_, rfl⟩
      have hq3 : hpkd q3 = 1 := by rw [eq3]; exact rk_14 (by omega)
      refine h_aaload (t0 := 4) (k' := q3) C dX8_image_17 kd_15 (by decide) (by decide) rfl (a0).toNat (Int.toNat_of_nonneg (by omega)) (by rw [ln_15]; omega) (by rw [eq3]; exact rq_14) ?_
      have hl3 := kb_1 hq3
      refine h_aload_n C dX8_image_18 0 rfl rfl ?_
      refine h_get C O8 1 kd_0 (by decide) wd_350 dX8_image_19 fr_0_1 ?_
      refine h_callVN (As := [.ref (z + 3)]) (rest := []) C Z yyX1_become nw_530 (tgX1_become l D cy z _ q3 hq3 3 kd_3 hI) hq3 rfl rfl ⟨rfl, rfl, Nat.le_of_ble_eq_true rfl, Nat.le_of_ble_eq_true rfl⟩ ⟨Nat.le_of_ble_eq_true rfl, Nat.le_of_ble_eq_true rfl⟩ (Nat.le_of_ble_eq_true rfl) dX8_image_22 (fun r4 τ4 hp4 => ?_)
      obtain ⟨rfl, hI4, hG4⟩ := hp4
      have hF4 : ∀ j i : Nat, (j < 169 ∨ 187 ≤ j) → τ4 j i = σ j i := fun j i h_0 => (hG4 j i (by omega)).trans (hF0 j i h_0)
      show hpV _ _ _ _ _ _ _ _ _ _ _ _ _ _ _ _ _ _ _ _ _ []
      refine h_aload_n C dX8_image_25 0 rfl rfl ?_
      refine h_get C O8 3 kd_0 (by decide) wd_352 dX8_image_26 fr_0_3 ?_
      refine h_iload_n C dX8_image_29 1 rfl rfl ?_
      obtain ⟨q5, eq5⟩ : ∃ q : Nat, q = 169 + 6 * ((a0).toNat) := ⟨_, rfl⟩
      have hq5 : hpkd q5 = 1 := by rw [eq5]; exact rk_14 (by omega)
      refine h_aaload (t0 := 4) (k' := q5) C dX8_image_30 kd_15 (by decide) (by decide) rfl (a0).toNat (Int.toNat_of_nonneg (by omega)) (by rw [ln_15]; omega) (by rw [eq5]; exact rq_14) ?_
      have hl5 := kb_1 hq5
      refine h_iconst C dX8_image_31 ?_
      refine h_putN C O1 12 hq5 (by decide) rfl nw_107 dX8_image_32 (hp_nz (by omega)) rfl (hp_fvI (by rw [hq5]; rfl) hpu_at) ?_
      obtain ⟨τ6, e6⟩ : ∃ μ : hpMem, μ = hpw τ4 q5 12 1 := ⟨_, rfl⟩
      rw [← e6]
      have hI6 : hpInv τ6 := by rw [e6]; exact hI4.w (bf_1_12 hq5) (by omega) (by omega)
      have hF6 : ∀ j i : Nat, (j < 169 ∨ 187 ≤ j) → τ6 j i = σ j i := fun j i h_0 => by rw [e6]; exact (hpw_fr (by omega)).trans (hF4 j i h_0)
      have hg7 : τ6 q5 12 = 1 := by rw [e6]; exact hpw_eq
      refine h_iconst C dX8_image_35 ?_
      refine h_ireturn C hr hlk dX8_image_36 ?_
      exact ⟨_, rfl, ⟨by decide, by decide⟩, by omega, hI6, hF6, fun k hk => by subst eq3; subst eq5; by_cases e : (k : Int) = a0; (refine Or.inl ⟨e, ?_⟩; rw [e6, show 169 + 6 * k = 169 + 6 * (a0).toNat by omega]; exact hpw_eq); (refine Or.inr ⟨e, ?_⟩; rw [e6, hpw_fr (Or.inl (by omega))]; exact hG4 _ _ (by omega))⟩
    · refine h_bipush C dX8_image_9 (by decide) ?_
      refine h_ireturn C hr hlk dX8_image_11 ?_
      exact ⟨_, rfl, ⟨by decide, by decide⟩, by omega, hI, hF0, fun k hk => Or.inr ⟨by omega, rfl⟩⟩
abbrev rgX8_back : Room := { frames := 2, cells := 0, slots := 0, locals := 81 }
abbrev pgX8_back (z : Nat) (σ : hpMem) (a0 : Int) : Option Value → hpMem → Prop := fun r τ => (∃ x : Int, r = some (.int (hpI x)) ∧ (hpR x) ∧ (((a0 < 0 ∨ 2 < a0) ∧ x = -2) ∨ ((0 ≤ a0 ∧ a0 ≤ 2) ∧ ((σ (169 + 6 * a0.toNat) 12 = 0 ∧ x = -6) ∨ (σ (169 + 6 * a0.toNat) 12 ≠ 0 ∧ x = 0))))) ∧ hpInv τ ∧ (∀ j i : Nat, 169 ≤ j → τ j i = σ j i)
set_option maxHeartbeats 4000000 in
set_option maxRecDepth 20000 in
theorem tgX8_back (l : Launch) (D : va_G) (cy : Nat → ClassId) (z : Nat) (σ : hpMem) (a0 : Int) (ha0 : hpR a0) (hI : hpInv σ) : hpM l D cy z yX8_back cX8_back 2 (some .int) rgX8_back [.ref (z + 0), .int (hpI a0)] σ (pgX8_back z σ a0) := by
  obtain ⟨ha01, ha02⟩ := ha0
  refine hp_met rfl (Nat.le_of_ble_eq_true rfl) (fun p e s m below meth c C Z hr hlk => ?_)
  have hF0 : ∀ j i : Nat, 169 ≤ j → σ j i = σ j i := fun j i _ => rfl
  refine h_iload_n C dX8_back_0 1 rfl rfl ?_
  refine h_if_lt (tgt := 9) C dX8_back_1 (by decide) ⟨by omega, by omega⟩ (fun h1 => ?_) (fun h1 => ?_)
  · refine h_bipush C dX8_back_9 (by decide) ?_
    refine h_ireturn C hr hlk dX8_back_11 ?_
    exact ⟨⟨_, rfl, ⟨by decide, by decide⟩, by first | omega | (skip; omega)⟩, hI, hF0⟩
  · refine h_iload_n C dX8_back_4 1 rfl rfl ?_
    refine h_iconst C dX8_back_5 ?_
    refine h_icmp_lt (tgt := 12) C dX8_back_6 (by decide) ⟨by omega, by omega⟩ ⟨by decide, by decide⟩ (fun h2 => ?_) (fun h2 => ?_)
    · refine h_aload_n C dX8_back_12 0 rfl rfl ?_
      refine h_get C O8 3 kd_0 (by decide) wd_352 dX8_back_13 fr_0_3 ?_
      refine h_iload_n C dX8_back_16 1 rfl rfl ?_
      obtain ⟨q3, eq3⟩ : ∃ q : Nat, q = 169 + 6 * ((a0).toNat) := ⟨_, rfl⟩
      have hq3 : hpkd q3 = 1 := by rw [eq3]; exact rk_14 (by omega)
      refine h_aaload (t0 := 4) (k' := q3) C dX8_back_17 kd_15 (by decide) (by decide) rfl (a0).toNat (Int.toNat_of_nonneg (by omega)) (by rw [ln_15]; omega) (by rw [eq3]; exact rq_14) ?_
      have hl3 := kb_1 hq3
      refine h_getN C O1 12 hq3 (by decide) nw_107 dX8_back_18 (hp_fvI (by rw [hq3]; rfl) rfl) ?_
      obtain ⟨hr4a, hr4b⟩ := hI.b (bf_1_12 hq3)
      generalize hg4 : σ q3 12 = r4 at hr4a hr4b ⊢
      refine h_if_ne (tgt := 27) C dX8_back_21 (by decide) ⟨by omega, by omega⟩ (fun h5 => ?_) (fun h5 => ?_)
      · refine h_aload_n C dX8_back_27 0 rfl rfl ?_
        refine h_get C O8 1 kd_0 (by decide) wd_350 dX8_back_28 fr_0_1 ?_
        refine h_aload_n C dX8_back_31 0 rfl rfl ?_
        refine h_get C O8 3 kd_0 (by decide) wd_352 dX8_back_32 fr_0_3 ?_
        refine h_iload_n C dX8_back_35 1 rfl rfl ?_
        obtain ⟨q6, eq6⟩ : ∃ q : Nat, q = 169 + 6 * ((a0).toNat) := ⟨_, rfl⟩
        have hq6 : hpkd q6 = 1 := by rw [eq6]; exact rk_14 (by omega)
        refine h_aaload (t0 := 4) (k' := q6) C dX8_back_36 kd_15 (by decide) (by decide) rfl (a0).toNat (Int.toNat_of_nonneg (by omega)) (by rw [ln_15]; omega) (by rw [eq6]; exact rq_14) ?_
        have hl6 := kb_1 hq6
        refine h_callVN (As := [.ref (z + q6)]) (rest := []) C Z yyX1_become nw_530 (tgX1_become l D cy z _ 3 kd_3 q6 hq6 hI) kd_3 rfl rfl ⟨rfl, rfl, Nat.le_of_ble_eq_true rfl, Nat.le_of_ble_eq_true rfl⟩ ⟨Nat.le_of_ble_eq_true rfl, Nat.le_of_ble_eq_true rfl⟩ (Nat.le_of_ble_eq_true rfl) dX8_back_37 (fun r7 τ7 hp7 => ?_)
        obtain ⟨rfl, hI7, hG7⟩ := hp7
        have hF7 : ∀ j i : Nat, 169 ≤ j → τ7 j i = σ j i := fun j i h_0 => (hG7 j i (by omega)).trans (hF0 j i h_0)
        show hpV _ _ _ _ _ _ _ _ _ _ _ _ _ _ _ _ _ _ _ _ _ []
        refine h_aload_n C dX8_back_40 0 rfl rfl ?_
        refine h_callV (As := []) (rest := []) C Z yyX8_forget wd_537 (tgX8_forget l D cy z _ hI7) kd_0 rfl rfl ⟨rfl, rfl, Nat.le_of_ble_eq_true rfl, Nat.le_of_ble_eq_true rfl⟩ ⟨Nat.le_of_ble_eq_true rfl, Nat.le_of_ble_eq_true rfl⟩ (Nat.le_of_ble_eq_true rfl) dX8_back_41 (fun r8 τ8 hp8 => ?_)
        obtain ⟨rfl, hI8, hG8⟩ := hp8
        have hF8 : ∀ j i : Nat, 169 ≤ j → τ8 j i = σ j i := fun j i h_0 => (hG8 j i (by omega)).trans (hF7 j i h_0)
        show hpV _ _ _ _ _ _ _ _ _ _ _ _ _ _ _ _ _ _ _ _ _ []
        refine h_iconst C dX8_back_44 ?_
        refine h_ireturn C hr hlk dX8_back_45 ?_
        exact ⟨⟨_, rfl, ⟨by decide, by decide⟩, by first | omega | (subst eq3; subst eq6; omega)⟩, hI8, hF8⟩
      · refine h_bipush C dX8_back_24 (by decide) ?_
        refine h_ireturn C hr hlk dX8_back_26 ?_
        exact ⟨⟨_, rfl, ⟨by decide, by decide⟩, by first | omega | (subst eq3; omega)⟩, hI, hF0⟩
    · refine h_bipush C dX8_back_9 (by decide) ?_
      refine h_ireturn C hr hlk dX8_back_11 ?_
      exact ⟨⟨_, rfl, ⟨by decide, by decide⟩, by first | omega | (skip; omega)⟩, hI, hF0⟩
abbrev rgX8_row : Room := { frames := 1, cells := 0, slots := 0, locals := 23 }
abbrev pgX8_row (z : Nat) (σ : hpMem) (a0 : Int) (a1 : Int) (a2 : Int) : Option Value → hpMem → Prop := fun r τ => (∃ x : Int, r = some (.int (hpI x)) ∧ (hpR x) ∧ (((a0 < 0 ∨ 3 < a0 ∨ a1 < 0 ∨ 3 < a1 ∨ 60 < a2) ∧ x = -2) ∨ ((0 ≤ a0 ∧ a0 ≤ 3 ∧ 0 ≤ a1 ∧ a1 ≤ 3 ∧ a2 ≤ 60) ∧ ((a2 < 0 ∧ x = -3) ∨ (0 ≤ a2 ∧ x = 0)))) ∧ hpInv τ ∧ (∀ j i : Nat, (j < 187 ∨ 195 ≤ j) → τ j i = σ j i) ∧ (∀ s : Nat, s < 4 → (((s : Int) = a0 ∧ x = 0 ∧ τ (187 + 2 * s) 1 = 1 ∧ τ (187 + 2 * s) 2 = a1 ∧ τ (187 + 2 * s) 3 = a2) ∨ (((s : Int) ≠ a0 ∨ x ≠ 0) ∧ τ (187 + 2 * s) 1 = σ (187 + 2 * s) 1 ∧ τ (187 + 2 * s) 2 = σ (187 + 2 * s) 2 ∧ τ (187 + 2 * s) 3 = σ (187 + 2 * s) 3))))
set_option maxHeartbeats 4000000 in
set_option maxRecDepth 20000 in
theorem tgX8_row (l : Launch) (D : va_G) (cy : Nat → ClassId) (z : Nat) (σ : hpMem) (a0 : Int) (ha0 : hpR a0) (a1 : Int) (ha1 : hpR a1) (a2 : Int) (ha2 : hpR a2) (hI : hpInv σ) : hpM l D cy z yX8_row cX8_row 4 (some .int) rgX8_row [.ref (z + 0), .int (hpI a0), .int (hpI a1), .int (hpI a2)] σ (pgX8_row z σ a0 a1 a2) := by
  obtain ⟨ha01, ha02⟩ := ha0
  obtain ⟨ha11, ha12⟩ := ha1
  obtain ⟨ha21, ha22⟩ := ha2
  refine hp_met rfl (Nat.le_of_ble_eq_true rfl) (fun p e s m below meth c C Z hr hlk => ?_)
  have hF0 : ∀ j i : Nat, (j < 187 ∨ 195 ≤ j) → σ j i = σ j i := fun j i _ => rfl
  refine h_iload_n C dX8_row_0 1 rfl rfl ?_
  refine h_callS (As := [.int (hpI a0)]) (rest := []) C Z yyX8_isSlot rfl wd_920 (tgX8_isSlot l D cy z _ a0 ⟨by omega, by omega⟩ hI) rfl rfl ⟨rfl, rfl, Nat.le_of_ble_eq_true rfl, Nat.le_of_ble_eq_true rfl⟩ ⟨Nat.le_of_ble_eq_true rfl, Nat.le_of_ble_eq_true rfl⟩ (Nat.le_of_ble_eq_true rfl) dX8_row_1 (fun r1 τ1 hp1 => ?_)
  obtain ⟨⟨x1, rfl, ⟨hx1a, hx1b⟩, hx1⟩, rfl⟩ := hp1
  show hpV _ _ _ _ _ _ _ _ _ _ _ _ _ _ _ _ _ _ _ _ _ (_ :: _)
  refine h_if_eq (tgt := 22) C dX8_row_4 (by decide) ⟨by omega, by omega⟩ (fun h2 => ?_) (fun h2 => ?_)
  · refine h_bipush C dX8_row_22 (by decide) ?_
    refine h_ireturn C hr hlk dX8_row_24 ?_
    exact ⟨_, rfl, ⟨by decide, by decide⟩, by omega, hI, hF0, fun s hs => Or.inr ⟨Or.inr (by decide), rfl, rfl, rfl⟩⟩
  · refine h_iload_n C dX8_row_7 2 rfl rfl ?_
    refine h_if_lt (tgt := 22) C dX8_row_8 (by decide) ⟨by omega, by omega⟩ (fun h3 => ?_) (fun h3 => ?_)
    · refine h_bipush C dX8_row_22 (by decide) ?_
      refine h_ireturn C hr hlk dX8_row_24 ?_
      exact ⟨_, rfl, ⟨by decide, by decide⟩, by omega, hI, hF0, fun s hs => Or.inr ⟨Or.inr (by decide), rfl, rfl, rfl⟩⟩
    · refine h_iload_n C dX8_row_11 2 rfl rfl ?_
      refine h_iconst C dX8_row_12 ?_
      refine h_icmp_ge (tgt := 22) C dX8_row_13 (by decide) ⟨by omega, by omega⟩ ⟨by decide, by decide⟩ (fun h4 => ?_) (fun h4 => ?_)
      · refine h_bipush C dX8_row_22 (by decide) ?_
        refine h_ireturn C hr hlk dX8_row_24 ?_
        exact ⟨_, rfl, ⟨by decide, by decide⟩, by omega, hI, hF0, fun s hs => Or.inr ⟨Or.inr (by decide), rfl, rfl, rfl⟩⟩
      · refine h_iload_n C dX8_row_16 3 rfl rfl ?_
        refine h_bipush C dX8_row_17 (by decide) ?_
        refine h_icmp_le (tgt := 25) C dX8_row_19 (by decide) ⟨by omega, by omega⟩ ⟨by decide, by decide⟩ (fun h5 => ?_) (fun h5 => ?_)
        · refine h_iload_n C dX8_row_25 3 rfl rfl ?_
          refine h_if_ge (tgt := 32) C dX8_row_26 (by decide) ⟨by omega, by omega⟩ (fun h6 => ?_) (fun h6 => ?_)
          · refine h_aload_n C dX8_row_32 0 rfl rfl ?_
            refine h_get C O8 4 kd_0 (by decide) wd_353 dX8_row_33 fr_0_4 ?_
            refine h_iload_n C dX8_row_36 1 rfl rfl ?_
            obtain ⟨q7, eq7⟩ : ∃ q : Nat, q = 187 + 2 * ((a0).toNat) := ⟨_, rfl⟩
            have hq7 : hpkd q7 = 6 := by rw [eq7]; exact rk_16 (by omega)
            refine h_aaload (t0 := 6) (k' := q7) C dX8_row_37 kd_16 (by decide) (by decide) rfl (a0).toNat (Int.toNat_of_nonneg (by omega)) (by rw [ln_16]; omega) (by rw [eq7]; exact rq_16) ?_
            have hl7 := kb_6 hq7
            refine h_iload_n C dX8_row_38 2 rfl rfl ?_
            refine h_iload_n C dX8_row_39 3 rfl rfl ?_
            refine h_callVN (As := [.int (hpI a1), .int (hpI a2)]) (rest := []) C Z yyX6_lay nw_1231 (tgX6_lay l D cy z _ q7 hq7 a1 ⟨by omega, by omega⟩ a2 ⟨by omega, by omega⟩ hI (by omega)) hq7 rfl rfl ⟨rfl, rfl, Nat.le_of_ble_eq_true rfl, Nat.le_of_ble_eq_true rfl⟩ ⟨Nat.le_of_ble_eq_true rfl, Nat.le_of_ble_eq_true rfl⟩ (Nat.le_of_ble_eq_true rfl) dX8_row_40 (fun r8 τ8 hp8 => ?_)
            obtain ⟨rfl, hI8, hG8, hq8_0⟩ := hp8
            have hF8 : ∀ j i : Nat, (j < 187 ∨ 195 ≤ j) → τ8 j i = σ j i := fun j i h_0 => (hG8 j i (by omega)).trans (hF0 j i h_0)
            show hpV _ _ _ _ _ _ _ _ _ _ _ _ _ _ _ _ _ _ _ _ _ []
            refine h_iconst C dX8_row_43 ?_
            refine h_ireturn C hr hlk dX8_row_44 ?_
            exact ⟨_, rfl, ⟨by decide, by decide⟩, by omega, hI8, hF8, fun s hs => by subst eq7; by_cases e : (s : Int) = a0; (rw [show 187 + 2 * s = 187 + 2 * (a0).toNat by omega]; exact Or.inl ⟨e, rfl, hq8_0.1, hq8_0.2.1, hq8_0.2.2⟩); (exact Or.inr ⟨Or.inl e, hG8 _ _ (by omega), hG8 _ _ (by omega), hG8 _ _ (by omega)⟩)⟩
          · refine h_bipush C dX8_row_29 (by decide) ?_
            refine h_ireturn C hr hlk dX8_row_31 ?_
            exact ⟨_, rfl, ⟨by decide, by decide⟩, by omega, hI, hF0, fun s hs => Or.inr ⟨Or.inr (by decide), rfl, rfl, rfl⟩⟩
        · refine h_bipush C dX8_row_22 (by decide) ?_
          refine h_ireturn C hr hlk dX8_row_24 ?_
          exact ⟨_, rfl, ⟨by decide, by decide⟩, by omega, hI, hF0, fun s hs => Or.inr ⟨Or.inr (by decide), rfl, rfl, rfl⟩⟩
abbrev rgX8_write : Room := { frames := 1, cells := 0, slots := 0, locals := 22 }
abbrev pgX8_write (z : Nat) (σ : hpMem) (a0 : Int) (a1 : Int) (a2 : Int) : Option Value → hpMem → Prop := fun r τ => (∃ x : Int, r = some (.int (hpI x)) ∧ (hpR x) ∧ (((a0 < 0 ∨ 3 < a0) ∧ x = -2) ∨ ((0 ≤ a0 ∧ a0 ≤ 3) ∧ ((σ (187 + 2 * a0.toNat) 1 = 0 ∧ x = -6) ∨ ((¬ σ (187 + 2 * a0.toNat) 1 = 0) ∧ (((a1 < 0 ∨ σ (187 + 2 * a0.toNat) 3 ≤ a1) ∧ x = -7) ∨ (0 ≤ a1 ∧ a1 < σ (187 + 2 * a0.toNat) 3 ∧ x = 0))))))) ∧ hpInv τ ∧ (∀ j i : Nat, (j < 187 ∨ 195 ≤ j ∨ j % 2 = 1) → τ j i = σ j i)
set_option maxHeartbeats 4000000 in
set_option maxRecDepth 20000 in
theorem tgX8_write (l : Launch) (D : va_G) (cy : Nat → ClassId) (z : Nat) (σ : hpMem) (a0 : Int) (ha0 : hpR a0) (a1 : Int) (ha1 : hpR a1) (a2 : Int) (ha2 : hpRL a2) (hI : hpInv σ) : hpM l D cy z yX8_write cX8_write 6 (some .int) rgX8_write [.ref (z + 0), .int (hpI a0), .int (hpI a1), .long (hpJ a2)] σ (pgX8_write z σ a0 a1 a2) := by
  obtain ⟨ha01, ha02⟩ := ha0
  obtain ⟨ha11, ha12⟩ := ha1
  obtain ⟨ha21, ha22⟩ := ha2
  refine hp_met rfl (Nat.le_of_ble_eq_true rfl) (fun p e s m below meth c C Z hr hlk => ?_)
  have hF0 : ∀ j i : Nat, (j < 187 ∨ 195 ≤ j ∨ j % 2 = 1) → σ j i = σ j i := fun j i _ => rfl
  refine h_iload_n C dX8_write_0 1 rfl rfl ?_
  refine h_callS (As := [.int (hpI a0)]) (rest := []) C Z yyX8_isSlot rfl wd_920 (tgX8_isSlot l D cy z _ a0 ⟨by omega, by omega⟩ hI) rfl rfl ⟨rfl, rfl, Nat.le_of_ble_eq_true rfl, Nat.le_of_ble_eq_true rfl⟩ ⟨Nat.le_of_ble_eq_true rfl, Nat.le_of_ble_eq_true rfl⟩ (Nat.le_of_ble_eq_true rfl) dX8_write_1 (fun r1 τ1 hp1 => ?_)
  obtain ⟨⟨x1, rfl, ⟨hx1a, hx1b⟩, hx1⟩, rfl⟩ := hp1
  show hpV _ _ _ _ _ _ _ _ _ _ _ _ _ _ _ _ _ _ _ _ _ (_ :: _)
  refine h_if_ne (tgt := 10) C dX8_write_4 (by decide) ⟨by omega, by omega⟩ (fun h2 => ?_) (fun h2 => ?_)
  · refine h_aload_n C dX8_write_10 0 rfl rfl ?_
    refine h_get C O8 4 kd_0 (by decide) wd_353 dX8_write_11 fr_0_4 ?_
    refine h_iload_n C dX8_write_14 1 rfl rfl ?_
    obtain ⟨q3, eq3⟩ : ∃ q : Nat, q = 187 + 2 * ((a0).toNat) := ⟨_, rfl⟩
    have hq3 : hpkd q3 = 6 := by rw [eq3]; exact rk_16 (by omega)
    refine h_aaload (t0 := 6) (k' := q3) C dX8_write_15 kd_16 (by decide) (by decide) rfl (a0).toNat (Int.toNat_of_nonneg (by omega)) (by rw [ln_16]; omega) (by rw [eq3]; exact rq_16) ?_
    have hl3 := kb_6 hq3
    refine h_astore (lv' := [(5, .ref (z + q3)), (0, .ref (z + 0)), (1, .int (hpI a0)), (2, .int (hpI a1)), (3, .long (hpJ a2))]) C dX8_write_16 (by decide) rfl ?_
    refine h_aload C dX8_write_18 0 rfl ?_
    refine h_getN C O6 1 hq3 (by decide) nw_335 dX8_write_20 (hp_fvI (by rw [hq3]; rfl) rfl) ?_
    obtain ⟨hr4a, hr4b⟩ := hI.b (bf_6_1 hq3)
    generalize hg4 : σ q3 1 = r4 at hr4a hr4b ⊢
    refine h_if_ne (tgt := 29) C dX8_write_23 (by decide) ⟨by omega, by omega⟩ (fun h5 => ?_) (fun h5 => ?_)
    · refine h_iload_n C dX8_write_29 3 rfl rfl ?_
      refine h_if_lt (tgt := 42) C dX8_write_30 (by decide) ⟨by omega, by omega⟩ (fun h6 => ?_) (fun h6 => ?_)
      · refine h_bipush C dX8_write_42 (by decide) ?_
        refine h_ireturn C hr hlk dX8_write_44 ?_
        exact ⟨⟨_, rfl, ⟨by decide, by decide⟩, by first | omega | (subst eq3; omega)⟩, hI, hF0⟩
      · refine h_iload_n C dX8_write_33 3 rfl rfl ?_
        refine h_aload C dX8_write_34 0 rfl ?_
        refine h_getN C O6 3 hq3 (by decide) nw_339 dX8_write_36 (hp_fvI (by rw [hq3]; rfl) rfl) ?_
        obtain ⟨hr7a, hr7b⟩ := hI.b (bf_6_3 hq3)
        generalize hg7 : σ q3 3 = r7 at hr7a hr7b ⊢
        refine h_icmp_lt (tgt := 45) C dX8_write_39 (by decide) ⟨by omega, by omega⟩ ⟨by omega, by omega⟩ (fun h8 => ?_) (fun h8 => ?_)
        · refine h_aload C dX8_write_45 0 rfl ?_
          refine h_getN C O6 0 hq3 (by decide) nw_333 dX8_write_47 (fs_6_0 hq3) ?_
          refine h_iload_n C dX8_write_50 3 rfl rfl ?_
          refine h_lload_n C dX8_write_51 4 rfl rfl ?_
          refine h_aload C dX8_write_52 0 rfl ?_
          refine h_getN C O6 2 hq3 (by decide) nw_337 dX8_write_54 (hp_fvI (by rw [hq3]; rfl) rfl) ?_
          obtain ⟨hr9a, hr9b⟩ := hI.b (bf_6_2 hq3)
          generalize hg9 : σ q3 2 = r9 at hr9a hr9b ⊢
          refine h_callS (As := [.long (hpJ a2), .int (hpI r9)]) (rest := [.int (hpI a1), .ref (z + (q3 + 1))]) C Z yyX8_cut rfl wd_1239 (tgX8_cut l D cy z _ a2 ⟨by omega, by omega⟩ r9 ⟨by omega, by omega⟩ hI) rfl rfl ⟨rfl, rfl, Nat.le_of_ble_eq_true rfl, Nat.le_of_ble_eq_true rfl⟩ ⟨Nat.le_of_ble_eq_true rfl, Nat.le_of_ble_eq_true rfl⟩ (Nat.le_of_ble_eq_true rfl) dX8_write_57 (fun r10 τ10 hp10 => ?_)
          obtain ⟨⟨x10, rfl, ⟨hx10a, hx10b⟩⟩, rfl⟩ := hp10
          show hpV _ _ _ _ _ _ _ _ _ _ _ _ _ _ _ _ _ _ _ _ _ (_ :: _)
          refine h_lastore C dX8_write_60 (fa_6_0 hq3) (a1).toNat (Int.toNat_of_nonneg (by omega)) (by rw [(fl_6_0 hq3)]; omega) ?_
          obtain ⟨τ11, e11⟩ : ∃ μ : hpMem, μ = hpw σ (q3 + 1) ((a1).toNat) x10 := ⟨_, rfl⟩
          rw [← e11]
          have hI11 : hpInv τ11 := by rw [e11]; exact hI.w (fo_6_0 hq3 _) (by omega) (by omega)
          have hF11 : ∀ j i : Nat, (j < 187 ∨ 195 ≤ j ∨ j % 2 = 1) → τ11 j i = σ j i := fun j i h_0 => by rw [e11]; exact (hpw_fr (by omega)).trans (hF0 j i h_0)
          have hg12 : τ11 q3 1 = r4 := by rw [e11]; exact (hpw_fr (Or.inl (by omega))).trans hg4
          have hg13 : τ11 q3 3 = r7 := by rw [e11]; exact (hpw_fr (Or.inl (by omega))).trans hg7
          have hg14 : τ11 q3 2 = r9 := by rw [e11]; exact (hpw_fr (Or.inl (by omega))).trans hg9
          refine h_iconst C dX8_write_61 ?_
          refine h_ireturn C hr hlk dX8_write_62 ?_
          exact ⟨⟨_, rfl, ⟨by decide, by decide⟩, by first | omega | (subst eq3; omega)⟩, hI11, hF11⟩
        · refine h_bipush C dX8_write_42 (by decide) ?_
          refine h_ireturn C hr hlk dX8_write_44 ?_
          exact ⟨⟨_, rfl, ⟨by decide, by decide⟩, by first | omega | (subst eq3; omega)⟩, hI, hF0⟩
    · refine h_bipush C dX8_write_26 (by decide) ?_
      refine h_ireturn C hr hlk dX8_write_28 ?_
      exact ⟨⟨_, rfl, ⟨by decide, by decide⟩, by first | omega | (subst eq3; omega)⟩, hI, hF0⟩
  · refine h_bipush C dX8_write_7 (by decide) ?_
    refine h_ireturn C hr hlk dX8_write_9 ?_
    exact ⟨⟨_, rfl, ⟨by decide, by decide⟩, by first | omega | (skip; omega)⟩, hI, hF0⟩
abbrev rgX8_paste : Room := { frames := 1, cells := 0, slots := 0, locals := 60 }
abbrev pgX8_paste (z : Nat) (σ : hpMem) (a0 : Int) (a1 : Int) (a2 : Int) (a3 : Int) (a4 : Int) : Option Value → hpMem → Prop := fun r τ => (∃ x : Int, r = some (.int (hpI x)) ∧ (hpR x) ∧ (((a0 < 0 ∨ 3 < a0 ∨ a2 < 0 ∨ 3 < a2) ∧ x = -2) ∨ ((0 ≤ a0 ∧ a0 ≤ 3 ∧ 0 ≤ a2 ∧ a2 ≤ 3) ∧ (((σ (187 + 2 * a0.toNat) 1 = 0 ∨ σ (187 + 2 * a2.toNat) 1 = 0) ∧ x = -6) ∨ ((¬ σ (187 + 2 * a0.toNat) 1 = 0) ∧ (¬ σ (187 + 2 * a2.toNat) 1 = 0) ∧ (((σ (187 + 2 * a0.toNat) 2 ≠ σ (187 + 2 * a2.toNat) 2) ∧ x = -8) ∨ ((σ (187 + 2 * a0.toNat) 2 = σ (187 + 2 * a2.toNat) 2) ∧ (((a1 < 0 ∨ a3 < 0 ∨ a4 < 0 ∨ σ (187 + 2 * a0.toNat) 3 < a1 + a4 ∨ σ (187 + 2 * a2.toNat) 3 < a3 + a4) ∧ x = -7) ∨ (0 ≤ a1 ∧ 0 ≤ a3 ∧ 0 ≤ a4 ∧ a1 + a4 ≤ σ (187 + 2 * a0.toNat) 3 ∧ a3 + a4 ≤ σ (187 + 2 * a2.toNat) 3 ∧ x = 0))))))))) ∧ hpInv τ ∧ (∀ j i : Nat, (j < 187 ∨ 195 ≤ j ∨ j % 2 = 1) → τ j i = σ j i)
set_option maxHeartbeats 4000000 in
set_option maxRecDepth 20000 in
theorem tgX8_paste (l : Launch) (D : va_G) (cy : Nat → ClassId) (z : Nat) (σ : hpMem) (a0 : Int) (ha0 : hpR a0) (a1 : Int) (ha1 : hpR a1) (a2 : Int) (ha2 : hpR a2) (a3 : Int) (ha3 : hpR a3) (a4 : Int) (ha4 : hpR a4) (hI : hpInv σ) : hpM l D cy z yX8_paste cX8_paste 8 (some .int) rgX8_paste [.ref (z + 0), .int (hpI a0), .int (hpI a1), .int (hpI a2), .int (hpI a3), .int (hpI a4)] σ (pgX8_paste z σ a0 a1 a2 a3 a4) := by
  obtain ⟨ha01, ha02⟩ := ha0
  obtain ⟨ha11, ha12⟩ := ha1
  obtain ⟨ha21, ha22⟩ := ha2
  obtain ⟨ha31, ha32⟩ := ha3
  obtain ⟨ha41, ha42⟩ := ha4
  refine hp_met rfl (Nat.le_of_ble_eq_true rfl) (fun p e s m below meth c C Z hr hlk => ?_)
  have hF0 : ∀ j i : Nat, (j < 187 ∨ 195 ≤ j ∨ j % 2 = 1) → σ j i = σ j i := fun j i _ => rfl
  refine h_iload_n C dX8_paste_0 1 rfl rfl ?_
  refine h_callS (As := [.int (hpI a0)]) (rest := []) C Z yyX8_isSlot rfl wd_920 (tgX8_isSlot l D cy z _ a0 ⟨by omega, by omega⟩ hI) rfl rfl ⟨rfl, rfl, Nat.le_of_ble_eq_true rfl, Nat.le_of_ble_eq_true rfl⟩ ⟨Nat.le_of_ble_eq_true rfl, Nat.le_of_ble_eq_true rfl⟩ (Nat.le_of_ble_eq_true rfl) dX8_paste_1 (fun r1 τ1 hp1 => ?_)
  obtain ⟨⟨x1, rfl, ⟨hx1a, hx1b⟩, hx1⟩, rfl⟩ := hp1
  show hpV _ _ _ _ _ _ _ _ _ _ _ _ _ _ _ _ _ _ _ _ _ (_ :: _)
  refine h_if_eq (tgt := 14) C dX8_paste_4 (by decide) ⟨by omega, by omega⟩ (fun h2 => ?_) (fun h2 => ?_)
  · refine h_bipush C dX8_paste_14 (by decide) ?_
    refine h_ireturn C hr hlk dX8_paste_16 ?_
    exact ⟨⟨_, rfl, ⟨by decide, by decide⟩, by first | omega | (skip; omega)⟩, hI, hF0⟩
  · refine h_iload_n C dX8_paste_7 3 rfl rfl ?_
    refine h_callS (As := [.int (hpI a2)]) (rest := []) C Z yyX8_isSlot rfl wd_920 (tgX8_isSlot l D cy z _ a2 ⟨by omega, by omega⟩ hI) rfl rfl ⟨rfl, rfl, Nat.le_of_ble_eq_true rfl, Nat.le_of_ble_eq_true rfl⟩ ⟨Nat.le_of_ble_eq_true rfl, Nat.le_of_ble_eq_true rfl⟩ (Nat.le_of_ble_eq_true rfl) dX8_paste_8 (fun r3 τ3 hp3 => ?_)
    obtain ⟨⟨x3, rfl, ⟨hx3a, hx3b⟩, hx3⟩, rfl⟩ := hp3
    show hpV _ _ _ _ _ _ _ _ _ _ _ _ _ _ _ _ _ _ _ _ _ (_ :: _)
    refine h_if_ne (tgt := 17) C dX8_paste_11 (by decide) ⟨by omega, by omega⟩ (fun h4 => ?_) (fun h4 => ?_)
    · refine h_aload_n C dX8_paste_17 0 rfl rfl ?_
      refine h_get C O8 4 kd_0 (by decide) wd_353 dX8_paste_18 fr_0_4 ?_
      refine h_iload_n C dX8_paste_21 1 rfl rfl ?_
      obtain ⟨q5, eq5⟩ : ∃ q : Nat, q = 187 + 2 * ((a0).toNat) := ⟨_, rfl⟩
      have hq5 : hpkd q5 = 6 := by rw [eq5]; exact rk_16 (by omega)
      refine h_aaload (t0 := 6) (k' := q5) C dX8_paste_22 kd_16 (by decide) (by decide) rfl (a0).toNat (Int.toNat_of_nonneg (by omega)) (by rw [ln_16]; omega) (by rw [eq5]; exact rq_16) ?_
      have hl5 := kb_6 hq5
      refine h_astore (lv' := [(6, .ref (z + q5)), (0, .ref (z + 0)), (1, .int (hpI a0)), (2, .int (hpI a1)), (3, .int (hpI a2)), (4, .int (hpI a3)), (5, .int (hpI a4))]) C dX8_paste_23 (by decide) rfl ?_
      refine h_aload_n C dX8_paste_25 1 rfl rfl ?_
      refine h_get C O8 4 kd_0 (by decide) wd_353 dX8_paste_26 fr_0_4 ?_
      refine h_iload_n C dX8_paste_29 4 rfl rfl ?_
      obtain ⟨q6, eq6⟩ : ∃ q : Nat, q = 187 + 2 * ((a2).toNat) := ⟨_, rfl⟩
      have hq6 : hpkd q6 = 6 := by rw [eq6]; exact rk_16 (by omega)
      refine h_aaload (t0 := 6) (k' := q6) C dX8_paste_30 kd_16 (by decide) (by decide) rfl (a2).toNat (Int.toNat_of_nonneg (by omega)) (by rw [ln_16]; omega) (by rw [eq6]; exact rq_16) ?_
      have hl6 := kb_6 hq6
      refine h_astore (lv' := [(7, .ref (z + q6)), (6, .ref (z + q5)), (0, .ref (z + 0)), (1, .int (hpI a0)), (2, .int (hpI a1)), (3, .int (hpI a2)), (4, .int (hpI a3)), (5, .int (hpI a4))]) C dX8_paste_31 (by decide) rfl ?_
      refine h_aload C dX8_paste_33 1 rfl ?_
      refine h_getN C O6 1 hq5 (by decide) nw_335 dX8_paste_35 (hp_fvI (by rw [hq5]; rfl) rfl) ?_
      obtain ⟨hr7a, hr7b⟩ := hI.b (bf_6_1 hq5)
      generalize hg7 : σ q5 1 = r7 at hr7a hr7b ⊢
      refine h_if_eq (tgt := 49) C dX8_paste_38 (by decide) ⟨by omega, by omega⟩ (fun h8 => ?_) (fun h8 => ?_)
      · refine h_bipush C dX8_paste_49 (by decide) ?_
        refine h_ireturn C hr hlk dX8_paste_51 ?_
        exact ⟨⟨_, rfl, ⟨by decide, by decide⟩, by first | omega | (subst eq5; subst eq6; omega)⟩, hI, hF0⟩
      · refine h_aload C dX8_paste_41 0 rfl ?_
        refine h_getN C O6 1 hq6 (by decide) nw_335 dX8_paste_43 (hp_fvI (by rw [hq6]; rfl) rfl) ?_
        obtain ⟨hr9a, hr9b⟩ := hI.b (bf_6_1 hq6)
        generalize hg9 : σ q6 1 = r9 at hr9a hr9b ⊢
        refine h_if_ne (tgt := 52) C dX8_paste_46 (by decide) ⟨by omega, by omega⟩ (fun h10 => ?_) (fun h10 => ?_)
        · refine h_aload C dX8_paste_52 1 rfl ?_
          refine h_getN C O6 2 hq5 (by decide) nw_337 dX8_paste_54 (hp_fvI (by rw [hq5]; rfl) rfl) ?_
          obtain ⟨hr11a, hr11b⟩ := hI.b (bf_6_2 hq5)
          generalize hg11 : σ q5 2 = r11 at hr11a hr11b ⊢
          refine h_aload C dX8_paste_57 0 rfl ?_
          refine h_getN C O6 2 hq6 (by decide) nw_337 dX8_paste_59 (hp_fvI (by rw [hq6]; rfl) rfl) ?_
          obtain ⟨hr12a, hr12b⟩ := hI.b (bf_6_2 hq6)
          generalize hg12 : σ q6 2 = r12 at hr12a hr12b ⊢
          refine h_icmp_eq (tgt := 68) C dX8_paste_62 (by decide) ⟨by omega, by omega⟩ ⟨by omega, by omega⟩ (fun h13 => ?_) (fun h13 => ?_)
          · refine h_aload C dX8_paste_68 1 rfl ?_
            refine h_iload_n C dX8_paste_70 4 rfl rfl ?_
            refine h_iload C dX8_paste_71 7 rfl ?_
            refine h_callVN (As := [.int (hpI a1), .int (hpI a4)]) (rest := []) C Z yyX6_reaches nw_1246 (tgX6_reaches l D cy z _ q5 hq5 a1 ⟨by omega, by omega⟩ a4 ⟨by omega, by omega⟩ hI) hq5 rfl rfl ⟨rfl, rfl, Nat.le_of_ble_eq_true rfl, Nat.le_of_ble_eq_true rfl⟩ ⟨Nat.le_of_ble_eq_true rfl, Nat.le_of_ble_eq_true rfl⟩ (Nat.le_of_ble_eq_true rfl) dX8_paste_73 (fun r14 τ14 hp14 => ?_)
            obtain ⟨⟨x14, rfl, ⟨hx14a, hx14b⟩, hx14⟩, rfl⟩ := hp14
            show hpV _ _ _ _ _ _ _ _ _ _ _ _ _ _ _ _ _ _ _ _ _ (_ :: _)
            refine h_if_eq (tgt := 91) C dX8_paste_76 (by decide) ⟨by omega, by omega⟩ (fun h15 => ?_) (fun h15 => ?_)
            · refine h_bipush C dX8_paste_91 (by decide) ?_
              refine h_ireturn C hr hlk dX8_paste_93 ?_
              exact ⟨⟨_, rfl, ⟨by decide, by decide⟩, by first | omega | (subst eq5; subst eq6; omega)⟩, hI, hF0⟩
            · refine h_aload C dX8_paste_79 0 rfl ?_
              refine h_iload C dX8_paste_81 6 rfl ?_
              refine h_iload C dX8_paste_83 7 rfl ?_
              refine h_callVN (As := [.int (hpI a3), .int (hpI a4)]) (rest := []) C Z yyX6_reaches nw_1246 (tgX6_reaches l D cy z _ q6 hq6 a3 ⟨by omega, by omega⟩ a4 ⟨by omega, by omega⟩ hI) hq6 rfl rfl ⟨rfl, rfl, Nat.le_of_ble_eq_true rfl, Nat.le_of_ble_eq_true rfl⟩ ⟨Nat.le_of_ble_eq_true rfl, Nat.le_of_ble_eq_true rfl⟩ (Nat.le_of_ble_eq_true rfl) dX8_paste_85 (fun r16 τ16 hp16 => ?_)
              obtain ⟨⟨x16, rfl, ⟨hx16a, hx16b⟩, hx16⟩, rfl⟩ := hp16
              show hpV _ _ _ _ _ _ _ _ _ _ _ _ _ _ _ _ _ _ _ _ _ (_ :: _)
              refine h_if_ne (tgt := 94) C dX8_paste_88 (by decide) ⟨by omega, by omega⟩ (fun h17 => ?_) (fun h17 => ?_)
              · refine h_aload C dX8_paste_94 1 rfl ?_
                refine h_getN C O6 0 hq5 (by decide) nw_333 dX8_paste_96 (fs_6_0 hq5) ?_
                refine h_iload_n C dX8_paste_99 4 rfl rfl ?_
                refine h_aload C dX8_paste_100 0 rfl ?_
                refine h_getN C O6 0 hq6 (by decide) nw_333 dX8_paste_102 (fs_6_0 hq6) ?_
                refine h_iload C dX8_paste_105 6 rfl ?_
                refine h_iload C dX8_paste_107 7 rfl ?_
                refine h_copyL C wd_1250 wd_536 wd_535 wd_16 dX8_paste_109 (fa_6_0 hq5) (fa_6_0 hq6) (a1).toNat (a3).toNat (a4).toNat (Int.toNat_of_nonneg (by omega)) (Int.toNat_of_nonneg (by omega)) (Int.toNat_of_nonneg (by omega)) (by rw [(fl_6_0 hq5)]; omega) (by rw [(fl_6_0 hq6)]; omega) (Nat.le_of_ble_eq_true rfl) (Nat.le_of_ble_eq_true rfl) ?_
                obtain ⟨τ18, e18⟩ : ∃ μ : hpMem, μ = hpwr σ (q6 + 1) (hpcp (σ (q5 + 1)) (σ (q6 + 1)) ((a1).toNat) ((a3).toNat) ((a4).toNat)) := ⟨_, rfl⟩
                rw [← e18]
                have hI18 : hpInv τ18 := by rw [e18]; exact hI.cp (fun i => fo_6_0 hq5 i) (fun i => fo_6_0 hq6 i)
                have hF18 : ∀ j i : Nat, (j < 187 ∨ 195 ≤ j ∨ j % 2 = 1) → τ18 j i = σ j i := fun j i h_0 => by rw [e18]; exact (hpwr_fr (by omega)).trans (hF0 j i h_0)
                have hg19 : τ18 q6 1 = r9 := by rw [e18]; exact (hpwr_fr (by omega)).trans hg9
                have hg20 : τ18 q6 2 = r12 := by rw [e18]; exact (hpwr_fr (by omega)).trans hg12
                refine h_iconst C dX8_paste_112 ?_
                refine h_ireturn C hr hlk dX8_paste_113 ?_
                exact ⟨⟨_, rfl, ⟨by decide, by decide⟩, by first | omega | (subst eq5; subst eq6; omega)⟩, hI18, hF18⟩
              · refine h_bipush C dX8_paste_91 (by decide) ?_
                refine h_ireturn C hr hlk dX8_paste_93 ?_
                exact ⟨⟨_, rfl, ⟨by decide, by decide⟩, by first | omega | (subst eq5; subst eq6; omega)⟩, hI, hF0⟩
          · refine h_bipush C dX8_paste_65 (by decide) ?_
            refine h_ireturn C hr hlk dX8_paste_67 ?_
            exact ⟨⟨_, rfl, ⟨by decide, by decide⟩, by first | omega | (subst eq5; subst eq6; omega)⟩, hI, hF0⟩
        · refine h_bipush C dX8_paste_49 (by decide) ?_
          refine h_ireturn C hr hlk dX8_paste_51 ?_
          exact ⟨⟨_, rfl, ⟨by decide, by decide⟩, by first | omega | (subst eq5; subst eq6; omega)⟩, hI, hF0⟩
    · refine h_bipush C dX8_paste_14 (by decide) ?_
      refine h_ireturn C hr hlk dX8_paste_16 ?_
      exact ⟨⟨_, rfl, ⟨by decide, by decide⟩, by first | omega | (skip; omega)⟩, hI, hF0⟩
abbrev rgX8_lookAt : Room := { frames := 5, cells := 0, slots := 0, locals := 152 }
abbrev pgX8_lookAt (z : Nat) (σ : hpMem) (a0 : Int) (a1 : Int) : Option Value → hpMem → Prop := fun r τ => r = some (.ref (z + 141)) ∧ hpInv τ ∧ (∀ j i : Nat, 169 ≤ j → τ j i = σ j i)
set_option maxHeartbeats 4000000 in
set_option maxRecDepth 20000 in
theorem tgX8_lookAt (l : Launch) (D : va_G) (cy : Nat → ClassId) (z : Nat) (σ : hpMem) (a0 : Int) (ha0 : hpR a0) (a1 : Int) (ha1 : hpR a1) (hI : hpInv σ) (hs0 : 0 ≤ a0 ∧ a0 ≤ 3) : hpM l D cy z yX8_lookAt cX8_lookAt 4 (some (.object "TurfHeaps$Seen")) rgX8_lookAt [.ref (z + 0), .int (hpI a0), .int (hpI a1)] σ (pgX8_lookAt z σ a0 a1) := by
  obtain ⟨ha01, ha02⟩ := ha0
  obtain ⟨ha11, ha12⟩ := ha1
  refine hp_met rfl (Nat.le_of_ble_eq_true rfl) (fun p e s m below meth c C Z hr hlk => ?_)
  have hF0 : ∀ j i : Nat, 169 ≤ j → σ j i = σ j i := fun j i _ => rfl
  refine h_aload_n C dX8_lookAt_0 0 rfl rfl ?_
  refine h_get C O8 9 kd_0 (by decide) wd_358 dX8_lookAt_1 fr_0_9 ?_
  refine h_callVN (As := []) (rest := []) C Z yyX5_clear nw_989 (tgX5_clear l D cy z _ hI) kd_141 rfl rfl ⟨rfl, rfl, Nat.le_of_ble_eq_true rfl, Nat.le_of_ble_eq_true rfl⟩ ⟨Nat.le_of_ble_eq_true rfl, Nat.le_of_ble_eq_true rfl⟩ (Nat.le_of_ble_eq_true rfl) dX8_lookAt_4 (fun r1 τ1 hp1 => ?_)
  obtain ⟨rfl, hI1, hG1⟩ := hp1
  have hF1 : ∀ j i : Nat, 169 ≤ j → τ1 j i = σ j i := fun j i h_0 => (hG1 j i (by omega)).trans (hF0 j i h_0)
  show hpV _ _ _ _ _ _ _ _ _ _ _ _ _ _ _ _ _ _ _ _ _ []
  refine h_iconst C dX8_lookAt_7 ?_
  refine h_istore_n (lv' := [(3, .int (hpI 1)), (0, .ref (z + 0)), (1, .int (hpI a0)), (2, .int (hpI a1))]) C dX8_lookAt_8 rfl (by decide) rfl ?_
  have L2 : ∀ (n2 : Nat) (τ2 : hpMem) (w2_3 : Int), 1 ≤ w2_3 → w2_3 ≤ 2147483647 → hpInv τ2 → (∀ j i : Nat, 169 ≤ j → τ2 j i = σ j i) → (4294967296 - w2_3) < (n2 : Int) → hpF p l e rgX8_lookAt s m [.ref (z + 0), .int (hpI a0), .int (hpI a1)] below meth c 4 D cy z (pgX8_lookAt z σ a0 a1) τ2 9 [(0, .ref (z + 0)), (1, .int (hpI a0)), (2, .int (hpI a1)), (3, .int (hpI w2_3))] [] := by
    intro n2
    induction n2 with
    | zero => intro τ2 w2_3 hv2_0 hv2_1 hI2 hF2 hm2; exfalso; omega
    | succ n2 ih2 =>
      intro τ2 w2_3 hv2_0 hv2_1 hI2 hF2 hm2
      refine h_iload_n C dX8_lookAt_9 3 rfl rfl ?_
      refine h_bipush C dX8_lookAt_10 (by decide) ?_
      refine h_icmp_gt (tgt := 87) C dX8_lookAt_12 (by decide) ⟨by omega, by omega⟩ ⟨by decide, by decide⟩ (fun h3 => ?_) (fun h3 => ?_)
      · refine h_aload_n C dX8_lookAt_87 0 rfl rfl ?_
        refine h_get C O8 9 kd_0 (by decide) wd_358 dX8_lookAt_88 fr_0_9 ?_
        refine h_areturn C (Or.inl ⟨_, rfl⟩) hr hlk dX8_lookAt_91 ?_
        exact ⟨rfl, hI2, hF2⟩
      · refine h_aload_n C dX8_lookAt_15 0 rfl rfl ?_
        refine h_get C O8 6 kd_0 (by decide) wd_355 dX8_lookAt_16 fr_0_6 ?_
        refine h_aload_n C dX8_lookAt_19 0 rfl rfl ?_
        refine h_get C O8 1 kd_0 (by decide) wd_350 dX8_lookAt_20 fr_0_1 ?_
        refine h_callVN (As := [.ref (z + 3)]) (rest := []) C Z yyX4_asTold nw_580 (tgX4_asTold l D cy z _ 70 kd_70 hI2) kd_70 rfl rfl ⟨rfl, rfl, Nat.le_of_ble_eq_true rfl, Nat.le_of_ble_eq_true rfl⟩ ⟨Nat.le_of_ble_eq_true rfl, Nat.le_of_ble_eq_true rfl⟩ (Nat.le_of_ble_eq_true rfl) dX8_lookAt_23 (fun r4 τ4 hp4 => ?_)
        obtain ⟨rfl, hI4, hG4⟩ := hp4
        have hF4 : ∀ j i : Nat, 169 ≤ j → τ4 j i = σ j i := fun j i h_0 => (hG4 j i (by omega)).trans (hF2 j i h_0)
        show hpV _ _ _ _ _ _ _ _ _ _ _ _ _ _ _ _ _ _ _ _ _ []
        refine h_aload_n C dX8_lookAt_26 0 rfl rfl ?_
        refine h_get C O8 6 kd_0 (by decide) wd_355 dX8_lookAt_27 fr_0_6 ?_
        refine h_iload_n C dX8_lookAt_30 2 rfl rfl ?_
        refine h_putN C O4 7 kd_70 (by decide) rfl nw_193 dX8_lookAt_31 rfl rfl (hp_fvI (by rw [kd_70]; rfl) hpu_at) ?_
        obtain ⟨τ5, e5⟩ : ∃ μ : hpMem, μ = hpw τ4 70 7 a1 := ⟨_, rfl⟩
        rw [← e5]
        have hI5 : hpInv τ5 := by rw [e5]; exact hI4.w (bf_4_7 kd_70) (by omega) (by omega)
        have hF5 : ∀ j i : Nat, 169 ≤ j → τ5 j i = σ j i := fun j i h_0 => by rw [e5]; exact (hpw_fr (by omega)).trans (hF4 j i h_0)
        have hg6 : τ5 70 7 = a1 := by rw [e5]; exact hpw_eq
        refine h_aload_n C dX8_lookAt_34 0 rfl rfl ?_
        refine h_get C O8 6 kd_0 (by decide) wd_355 dX8_lookAt_35 fr_0_6 ?_
        refine h_iload_n C dX8_lookAt_38 3 rfl rfl ?_
        refine h_putN C O4 8 kd_70 (by decide) rfl nw_195 dX8_lookAt_39 rfl rfl (hp_fvI (by rw [kd_70]; rfl) hpu_at) ?_
        obtain ⟨τ7, e7⟩ : ∃ μ : hpMem, μ = hpw τ5 70 8 w2_3 := ⟨_, rfl⟩
        rw [← e7]
        have hI7 : hpInv τ7 := by rw [e7]; exact hI5.w (bf_4_8 kd_70) (by omega) (by omega)
        have hF7 : ∀ j i : Nat, 169 ≤ j → τ7 j i = σ j i := fun j i h_0 => by rw [e7]; exact (hpw_fr (by omega)).trans (hF5 j i h_0)
        have hg8 : τ7 70 7 = a1 := by rw [e7]; exact (hpw_fr (Or.inr (by decide))).trans hg6
        have hg9 : τ7 70 8 = w2_3 := by rw [e7]; exact hpw_eq
        refine h_aload_n C dX8_lookAt_42 0 rfl rfl ?_
        refine h_get C O8 6 kd_0 (by decide) wd_355 dX8_lookAt_43 fr_0_6 ?_
        refine h_aload_n C dX8_lookAt_46 0 rfl rfl ?_
        refine h_get C O8 1 kd_0 (by decide) wd_350 dX8_lookAt_47 fr_0_1 ?_
        refine h_callVN (As := [.ref (z + 3)]) (rest := []) C Z yyX4_pass nw_584 (tgX4_pass l D cy z _ 70 kd_70 hI7) kd_70 rfl rfl ⟨rfl, rfl, Nat.le_of_ble_eq_true rfl, Nat.le_of_ble_eq_true rfl⟩ ⟨Nat.le_of_ble_eq_true rfl, Nat.le_of_ble_eq_true rfl⟩ (Nat.le_of_ble_eq_true rfl) dX8_lookAt_50 (fun r10 τ10 hp10 => ?_)
        obtain ⟨rfl, hI10, hG10⟩ := hp10
        have hF10 : ∀ j i : Nat, 169 ≤ j → τ10 j i = σ j i := fun j i h_0 => (hG10 j i (by omega)).trans (hF7 j i h_0)
        show hpV _ _ _ _ _ _ _ _ _ _ _ _ _ _ _ _ _ _ _ _ _ []
        refine h_aload_n C dX8_lookAt_53 0 rfl rfl ?_
        refine h_get C O8 4 kd_0 (by decide) wd_353 dX8_lookAt_54 fr_0_4 ?_
        refine h_iload_n C dX8_lookAt_57 1 rfl rfl ?_
        obtain ⟨q11, eq11⟩ : ∃ q : Nat, q = 187 + 2 * ((a0).toNat) := ⟨_, rfl⟩
        have hq11 : hpkd q11 = 6 := by rw [eq11]; exact rk_16 (by omega)
        refine h_aaload (t0 := 6) (k' := q11) C dX8_lookAt_58 kd_16 (by decide) (by decide) rfl (a0).toNat (Int.toNat_of_nonneg (by omega)) (by rw [ln_16]; omega) (by rw [eq11]; exact rq_16) ?_
        have hl11 := kb_6 hq11
        refine h_aload_n C dX8_lookAt_59 0 rfl rfl ?_
        refine h_get C O8 6 kd_0 (by decide) wd_355 dX8_lookAt_60 fr_0_6 ?_
        refine h_callVN (As := [.ref (z + 70)]) (rest := []) C Z yyX6_tellsOf nw_993 (tgX6_tellsOf l D cy z _ q11 hq11 hI10) hq11 rfl rfl ⟨rfl, rfl, Nat.le_of_ble_eq_true rfl, Nat.le_of_ble_eq_true rfl⟩ ⟨Nat.le_of_ble_eq_true rfl, Nat.le_of_ble_eq_true rfl⟩ (Nat.le_of_ble_eq_true rfl) dX8_lookAt_63 (fun r12 τ12 hp12 => ?_)
        obtain ⟨⟨x12, rfl, ⟨hx12a, hx12b⟩⟩, rfl⟩ := hp12
        show hpV _ _ _ _ _ _ _ _ _ _ _ _ _ _ _ _ _ _ _ _ _ (_ :: _)
        refine h_if_eq (tgt := 81) C dX8_lookAt_66 (by decide) ⟨by omega, by omega⟩ (fun h13 => ?_) (fun h13 => ?_)
        · refine h_iinc (lv' := [(3, .int (hpI (w2_3 + 1))), (0, .ref (z + 0)), (1, .int (hpI a0)), (2, .int (hpI a1))]) C dX8_lookAt_81 3 rfl rfl (by decide) rfl ?_
          refine h_goto (tgt := 9) C dX8_lookAt_84 (by decide) ?_
          exact hp_sub [1, 2, 3, 0] rfl (ih2 _ (w2_3 + 1) (by omega) (by omega) hI10 hF10 (by omega))
        · refine h_aload_n C dX8_lookAt_69 0 rfl rfl ?_
          refine h_get C O8 9 kd_0 (by decide) wd_358 dX8_lookAt_70 fr_0_9 ?_
          refine h_iload_n C dX8_lookAt_73 3 rfl rfl ?_
          refine h_aload_n C dX8_lookAt_74 0 rfl rfl ?_
          refine h_get C O8 6 kd_0 (by decide) wd_355 dX8_lookAt_75 fr_0_6 ?_
          refine h_callVN (As := [.int (hpI w2_3), .ref (z + 70)]) (rest := []) C Z yyX5_keep nw_999 (tgX5_keep l D cy z _ w2_3 ⟨by omega, by omega⟩ hI10) kd_141 rfl rfl ⟨rfl, rfl, Nat.le_of_ble_eq_true rfl, Nat.le_of_ble_eq_true rfl⟩ ⟨Nat.le_of_ble_eq_true rfl, Nat.le_of_ble_eq_true rfl⟩ (Nat.le_of_ble_eq_true rfl) dX8_lookAt_78 (fun r14 τ14 hp14 => ?_)
          obtain ⟨rfl, hI14, hG14⟩ := hp14
          have hF14 : ∀ j i : Nat, 169 ≤ j → τ14 j i = σ j i := fun j i h_0 => (hG14 j i (by omega)).trans (hF10 j i h_0)
          show hpV _ _ _ _ _ _ _ _ _ _ _ _ _ _ _ _ _ _ _ _ _ []
          refine h_iinc (lv' := [(3, .int (hpI (w2_3 + 1))), (0, .ref (z + 0)), (1, .int (hpI a0)), (2, .int (hpI a1))]) C dX8_lookAt_81 3 rfl rfl (by decide) rfl ?_
          refine h_goto (tgt := 9) C dX8_lookAt_84 (by decide) ?_
          exact hp_sub [1, 2, 3, 0] rfl (ih2 _ (w2_3 + 1) (by omega) (by omega) hI14 hF14 (by omega))
  exact hp_sub [1, 2, 3, 0] rfl (L2 8589934592 _ 1 (by omega) (by omega) hI1 hF1 (by omega))
abbrev rgX8_heights : Room := { frames := 6, cells := 0, slots := 0, locals := 175 }
abbrev pgX8_heights (z : Nat) (σ : hpMem) (a0 : Int) (a1 : Int) : Option Value → hpMem → Prop := fun r τ => (∃ x : Int, r = some (.int (hpI x)) ∧ (hpR x)) ∧ hpInv τ ∧ (∀ j i : Nat, 169 ≤ j → τ j i = σ j i)
set_option maxHeartbeats 4000000 in
set_option maxRecDepth 20000 in
theorem tgX8_heights (l : Launch) (D : va_G) (cy : Nat → ClassId) (z : Nat) (σ : hpMem) (a0 : Int) (ha0 : hpR a0) (a1 : Int) (ha1 : hpR a1) (hI : hpInv σ) : hpM l D cy z yX8_heights cX8_heights 4 (some .int) rgX8_heights [.ref (z + 0), .int (hpI a0), .int (hpI a1)] σ (pgX8_heights z σ a0 a1) := by
  obtain ⟨ha01, ha02⟩ := ha0
  obtain ⟨ha11, ha12⟩ := ha1
  refine hp_met rfl (Nat.le_of_ble_eq_true rfl) (fun p e s m below meth c C Z hr hlk => ?_)
  have hF0 : ∀ j i : Nat, 169 ≤ j → σ j i = σ j i := fun j i _ => rfl
  refine h_aload_n C dX8_heights_0 0 rfl rfl ?_
  refine h_iload_n C dX8_heights_1 1 rfl rfl ?_
  refine h_aload_n C dX8_heights_2 0 rfl rfl ?_
  refine h_iload_n C dX8_heights_3 2 rfl rfl ?_
  refine h_callV (As := [.int (hpI a1)]) (rest := [.int (hpI a0), .ref (z + 0)]) C Z yyX8_isTold wd_549 (tgX8_isTold l D cy z _ a1 ⟨by omega, by omega⟩ hI) kd_0 rfl rfl ⟨rfl, rfl, Nat.le_of_ble_eq_true rfl, Nat.le_of_ble_eq_true rfl⟩ ⟨Nat.le_of_ble_eq_true rfl, Nat.le_of_ble_eq_true rfl⟩ (Nat.le_of_ble_eq_true rfl) dX8_heights_4 (fun r1 τ1 hp1 => ?_)
  obtain ⟨⟨x1, rfl, ⟨hx1a, hx1b⟩, hx1⟩, rfl⟩ := hp1
  show hpV _ _ _ _ _ _ _ _ _ _ _ _ _ _ _ _ _ _ _ _ _ (_ :: _)
  refine h_callV (As := [.int (hpI a0), .int (hpI x1)]) (rest := []) C Z yyX8_seenFault wd_977 (tgX8_seenFault l D cy z _ a0 ⟨by omega, by omega⟩ x1 ⟨by omega, by omega⟩ hI) kd_0 rfl rfl ⟨rfl, rfl, Nat.le_of_ble_eq_true rfl, Nat.le_of_ble_eq_true rfl⟩ ⟨Nat.le_of_ble_eq_true rfl, Nat.le_of_ble_eq_true rfl⟩ (Nat.le_of_ble_eq_true rfl) dX8_heights_7 (fun r2 τ2 hp2 => ?_)
  obtain ⟨⟨x2, rfl, ⟨hx2a, hx2b⟩, hx2⟩, rfl⟩ := hp2
  show hpV _ _ _ _ _ _ _ _ _ _ _ _ _ _ _ _ _ _ _ _ _ (_ :: _)
  refine h_istore_n (lv' := [(3, .int (hpI x2)), (0, .ref (z + 0)), (1, .int (hpI a0)), (2, .int (hpI a1))]) C dX8_heights_10 rfl (by decide) rfl ?_
  refine h_iload_n C dX8_heights_11 0 rfl rfl ?_
  refine h_if_eq (tgt := 19) C dX8_heights_12 (by decide) ⟨by omega, by omega⟩ (fun h3 => ?_) (fun h3 => ?_)
  · refine h_aload_n C dX8_heights_19 1 rfl rfl ?_
    refine h_iload_n C dX8_heights_20 2 rfl rfl ?_
    refine h_iload_n C dX8_heights_21 3 rfl rfl ?_
    refine h_callV (As := [.int (hpI a0), .int (hpI a1)]) (rest := []) C Z yyX8_lookAt wd_985 (tgX8_lookAt l D cy z _ a0 ⟨by omega, by omega⟩ a1 ⟨by omega, by omega⟩ hI (by omega)) kd_0 rfl rfl ⟨rfl, rfl, Nat.le_of_ble_eq_true rfl, Nat.le_of_ble_eq_true rfl⟩ ⟨Nat.le_of_ble_eq_true rfl, Nat.le_of_ble_eq_true rfl⟩ (Nat.le_of_ble_eq_true rfl) dX8_heights_22 (fun r4 τ4 hp4 => ?_)
    obtain ⟨rfl, hI4, hG4⟩ := hp4
    have hF4 : ∀ j i : Nat, 169 ≤ j → τ4 j i = σ j i := fun j i h_0 => (hG4 j i (by omega)).trans (hF0 j i h_0)
    show hpV _ _ _ _ _ _ _ _ _ _ _ _ _ _ _ _ _ _ _ _ _ (_ :: _)
    refine h_getN C O5 2 kd_141 (by decide) nw_317 dX8_heights_25 (hp_fvI (by rw [kd_141]; rfl) rfl) ?_
    obtain ⟨hr5a, hr5b⟩ := hI4.b (bf_5_2 kd_141)
    generalize hg5 : τ4 141 2 = r5 at hr5a hr5b ⊢
    refine h_ireturn C hr hlk dX8_heights_28 ?_
    exact ⟨⟨_, rfl, ⟨by omega, by omega⟩⟩, hI4, hF4⟩
  · refine h_iload_n C dX8_heights_15 0 rfl rfl ?_
    refine h_goto (tgt := 28) C dX8_heights_16 (by decide) ?_
    refine h_ireturn C hr hlk dX8_heights_28 ?_
    exact ⟨⟨_, rfl, ⟨by omega, by omega⟩⟩, hI, hF0⟩
abbrev rgX8_least : Room := { frames := 6, cells := 0, slots := 0, locals := 175 }
abbrev pgX8_least (z : Nat) (σ : hpMem) (a0 : Int) (a1 : Int) : Option Value → hpMem → Prop := fun r τ => (∃ x : Int, r = some (.int (hpI x)) ∧ (hpR x)) ∧ hpInv τ ∧ (∀ j i : Nat, 169 ≤ j → τ j i = σ j i)
set_option maxHeartbeats 4000000 in
set_option maxRecDepth 20000 in
theorem tgX8_least (l : Launch) (D : va_G) (cy : Nat → ClassId) (z : Nat) (σ : hpMem) (a0 : Int) (ha0 : hpR a0) (a1 : Int) (ha1 : hpR a1) (hI : hpInv σ) : hpM l D cy z yX8_least cX8_least 4 (some .int) rgX8_least [.ref (z + 0), .int (hpI a0), .int (hpI a1)] σ (pgX8_least z σ a0 a1) := by
  obtain ⟨ha01, ha02⟩ := ha0
  obtain ⟨ha11, ha12⟩ := ha1
  refine hp_met rfl (Nat.le_of_ble_eq_true rfl) (fun p e s m below meth c C Z hr hlk => ?_)
  have hF0 : ∀ j i : Nat, 169 ≤ j → σ j i = σ j i := fun j i _ => rfl
  refine h_aload_n C dX8_least_0 0 rfl rfl ?_
  refine h_iload_n C dX8_least_1 1 rfl rfl ?_
  refine h_aload_n C dX8_least_2 0 rfl rfl ?_
  refine h_iload_n C dX8_least_3 2 rfl rfl ?_
  refine h_callV (As := [.int (hpI a1)]) (rest := [.int (hpI a0), .ref (z + 0)]) C Z yyX8_isTold wd_549 (tgX8_isTold l D cy z _ a1 ⟨by omega, by omega⟩ hI) kd_0 rfl rfl ⟨rfl, rfl, Nat.le_of_ble_eq_true rfl, Nat.le_of_ble_eq_true rfl⟩ ⟨Nat.le_of_ble_eq_true rfl, Nat.le_of_ble_eq_true rfl⟩ (Nat.le_of_ble_eq_true rfl) dX8_least_4 (fun r1 τ1 hp1 => ?_)
  obtain ⟨⟨x1, rfl, ⟨hx1a, hx1b⟩, hx1⟩, rfl⟩ := hp1
  show hpV _ _ _ _ _ _ _ _ _ _ _ _ _ _ _ _ _ _ _ _ _ (_ :: _)
  refine h_callV (As := [.int (hpI a0), .int (hpI x1)]) (rest := []) C Z yyX8_seenFault wd_977 (tgX8_seenFault l D cy z _ a0 ⟨by omega, by omega⟩ x1 ⟨by omega, by omega⟩ hI) kd_0 rfl rfl ⟨rfl, rfl, Nat.le_of_ble_eq_true rfl, Nat.le_of_ble_eq_true rfl⟩ ⟨Nat.le_of_ble_eq_true rfl, Nat.le_of_ble_eq_true rfl⟩ (Nat.le_of_ble_eq_true rfl) dX8_least_7 (fun r2 τ2 hp2 => ?_)
  obtain ⟨⟨x2, rfl, ⟨hx2a, hx2b⟩, hx2⟩, rfl⟩ := hp2
  show hpV _ _ _ _ _ _ _ _ _ _ _ _ _ _ _ _ _ _ _ _ _ (_ :: _)
  refine h_istore_n (lv' := [(3, .int (hpI x2)), (0, .ref (z + 0)), (1, .int (hpI a0)), (2, .int (hpI a1))]) C dX8_least_10 rfl (by decide) rfl ?_
  refine h_iload_n C dX8_least_11 0 rfl rfl ?_
  refine h_if_eq (tgt := 19) C dX8_least_12 (by decide) ⟨by omega, by omega⟩ (fun h3 => ?_) (fun h3 => ?_)
  · refine h_aload_n C dX8_least_19 1 rfl rfl ?_
    refine h_iload_n C dX8_least_20 2 rfl rfl ?_
    refine h_iload_n C dX8_least_21 3 rfl rfl ?_
    refine h_callV (As := [.int (hpI a0), .int (hpI a1)]) (rest := []) C Z yyX8_lookAt wd_985 (tgX8_lookAt l D cy z _ a0 ⟨by omega, by omega⟩ a1 ⟨by omega, by omega⟩ hI (by omega)) kd_0 rfl rfl ⟨rfl, rfl, Nat.le_of_ble_eq_true rfl, Nat.le_of_ble_eq_true rfl⟩ ⟨Nat.le_of_ble_eq_true rfl, Nat.le_of_ble_eq_true rfl⟩ (Nat.le_of_ble_eq_true rfl) dX8_least_22 (fun r4 τ4 hp4 => ?_)
    obtain ⟨rfl, hI4, hG4⟩ := hp4
    have hF4 : ∀ j i : Nat, 169 ≤ j → τ4 j i = σ j i := fun j i h_0 => (hG4 j i (by omega)).trans (hF0 j i h_0)
    show hpV _ _ _ _ _ _ _ _ _ _ _ _ _ _ _ _ _ _ _ _ _ (_ :: _)
    refine h_callVN (As := []) (rest := []) C Z yyX5_lowest nw_1008 (tgX5_lowest l D cy z _ hI4) kd_141 rfl rfl ⟨rfl, rfl, Nat.le_of_ble_eq_true rfl, Nat.le_of_ble_eq_true rfl⟩ ⟨Nat.le_of_ble_eq_true rfl, Nat.le_of_ble_eq_true rfl⟩ (Nat.le_of_ble_eq_true rfl) dX8_least_25 (fun r5 τ5 hp5 => ?_)
    obtain ⟨⟨x5, rfl, ⟨hx5a, hx5b⟩⟩, rfl⟩ := hp5
    show hpV _ _ _ _ _ _ _ _ _ _ _ _ _ _ _ _ _ _ _ _ _ (_ :: _)
    refine h_ireturn C hr hlk dX8_least_28 ?_
    exact ⟨⟨_, rfl, ⟨by omega, by omega⟩⟩, hI4, hF4⟩
  · refine h_iload_n C dX8_least_15 0 rfl rfl ?_
    refine h_goto (tgt := 28) C dX8_least_16 (by decide) ?_
    refine h_ireturn C hr hlk dX8_least_28 ?_
    exact ⟨⟨_, rfl, ⟨by omega, by omega⟩⟩, hI, hF0⟩
abbrev rgX8_greatest : Room := { frames := 6, cells := 0, slots := 0, locals := 175 }
abbrev pgX8_greatest (z : Nat) (σ : hpMem) (a0 : Int) (a1 : Int) : Option Value → hpMem → Prop := fun r τ => (∃ x : Int, r = some (.int (hpI x)) ∧ (hpR x)) ∧ hpInv τ ∧ (∀ j i : Nat, 169 ≤ j → τ j i = σ j i)
set_option maxHeartbeats 4000000 in
set_option maxRecDepth 20000 in
theorem tgX8_greatest (l : Launch) (D : va_G) (cy : Nat → ClassId) (z : Nat) (σ : hpMem) (a0 : Int) (ha0 : hpR a0) (a1 : Int) (ha1 : hpR a1) (hI : hpInv σ) : hpM l D cy z yX8_greatest cX8_greatest 4 (some .int) rgX8_greatest [.ref (z + 0), .int (hpI a0), .int (hpI a1)] σ (pgX8_greatest z σ a0 a1) := by
  obtain ⟨ha01, ha02⟩ := ha0
  obtain ⟨ha11, ha12⟩ := ha1
  refine hp_met rfl (Nat.le_of_ble_eq_true rfl) (fun p e s m below meth c C Z hr hlk => ?_)
  have hF0 : ∀ j i : Nat, 169 ≤ j → σ j i = σ j i := fun j i _ => rfl
  refine h_aload_n C dX8_greatest_0 0 rfl rfl ?_
  refine h_iload_n C dX8_greatest_1 1 rfl rfl ?_
  refine h_aload_n C dX8_greatest_2 0 rfl rfl ?_
  refine h_iload_n C dX8_greatest_3 2 rfl rfl ?_
  refine h_callV (As := [.int (hpI a1)]) (rest := [.int (hpI a0), .ref (z + 0)]) C Z yyX8_isTold wd_549 (tgX8_isTold l D cy z _ a1 ⟨by omega, by omega⟩ hI) kd_0 rfl rfl ⟨rfl, rfl, Nat.le_of_ble_eq_true rfl, Nat.le_of_ble_eq_true rfl⟩ ⟨Nat.le_of_ble_eq_true rfl, Nat.le_of_ble_eq_true rfl⟩ (Nat.le_of_ble_eq_true rfl) dX8_greatest_4 (fun r1 τ1 hp1 => ?_)
  obtain ⟨⟨x1, rfl, ⟨hx1a, hx1b⟩, hx1⟩, rfl⟩ := hp1
  show hpV _ _ _ _ _ _ _ _ _ _ _ _ _ _ _ _ _ _ _ _ _ (_ :: _)
  refine h_callV (As := [.int (hpI a0), .int (hpI x1)]) (rest := []) C Z yyX8_seenFault wd_977 (tgX8_seenFault l D cy z _ a0 ⟨by omega, by omega⟩ x1 ⟨by omega, by omega⟩ hI) kd_0 rfl rfl ⟨rfl, rfl, Nat.le_of_ble_eq_true rfl, Nat.le_of_ble_eq_true rfl⟩ ⟨Nat.le_of_ble_eq_true rfl, Nat.le_of_ble_eq_true rfl⟩ (Nat.le_of_ble_eq_true rfl) dX8_greatest_7 (fun r2 τ2 hp2 => ?_)
  obtain ⟨⟨x2, rfl, ⟨hx2a, hx2b⟩, hx2⟩, rfl⟩ := hp2
  show hpV _ _ _ _ _ _ _ _ _ _ _ _ _ _ _ _ _ _ _ _ _ (_ :: _)
  refine h_istore_n (lv' := [(3, .int (hpI x2)), (0, .ref (z + 0)), (1, .int (hpI a0)), (2, .int (hpI a1))]) C dX8_greatest_10 rfl (by decide) rfl ?_
  refine h_iload_n C dX8_greatest_11 0 rfl rfl ?_
  refine h_if_eq (tgt := 19) C dX8_greatest_12 (by decide) ⟨by omega, by omega⟩ (fun h3 => ?_) (fun h3 => ?_)
  · refine h_aload_n C dX8_greatest_19 1 rfl rfl ?_
    refine h_iload_n C dX8_greatest_20 2 rfl rfl ?_
    refine h_iload_n C dX8_greatest_21 3 rfl rfl ?_
    refine h_callV (As := [.int (hpI a0), .int (hpI a1)]) (rest := []) C Z yyX8_lookAt wd_985 (tgX8_lookAt l D cy z _ a0 ⟨by omega, by omega⟩ a1 ⟨by omega, by omega⟩ hI (by omega)) kd_0 rfl rfl ⟨rfl, rfl, Nat.le_of_ble_eq_true rfl, Nat.le_of_ble_eq_true rfl⟩ ⟨Nat.le_of_ble_eq_true rfl, Nat.le_of_ble_eq_true rfl⟩ (Nat.le_of_ble_eq_true rfl) dX8_greatest_22 (fun r4 τ4 hp4 => ?_)
    obtain ⟨rfl, hI4, hG4⟩ := hp4
    have hF4 : ∀ j i : Nat, 169 ≤ j → τ4 j i = σ j i := fun j i h_0 => (hG4 j i (by omega)).trans (hF0 j i h_0)
    show hpV _ _ _ _ _ _ _ _ _ _ _ _ _ _ _ _ _ _ _ _ _ (_ :: _)
    refine h_callVN (As := []) (rest := []) C Z yyX5_highest nw_1016 (tgX5_highest l D cy z _ hI4) kd_141 rfl rfl ⟨rfl, rfl, Nat.le_of_ble_eq_true rfl, Nat.le_of_ble_eq_true rfl⟩ ⟨Nat.le_of_ble_eq_true rfl, Nat.le_of_ble_eq_true rfl⟩ (Nat.le_of_ble_eq_true rfl) dX8_greatest_25 (fun r5 τ5 hp5 => ?_)
    obtain ⟨⟨x5, rfl, ⟨hx5a, hx5b⟩⟩, rfl⟩ := hp5
    show hpV _ _ _ _ _ _ _ _ _ _ _ _ _ _ _ _ _ _ _ _ _ (_ :: _)
    refine h_ireturn C hr hlk dX8_greatest_28 ?_
    exact ⟨⟨_, rfl, ⟨by omega, by omega⟩⟩, hI4, hF4⟩
  · refine h_iload_n C dX8_greatest_15 0 rfl rfl ?_
    refine h_goto (tgt := 28) C dX8_greatest_16 (by decide) ?_
    refine h_ireturn C hr hlk dX8_greatest_28 ?_
    exact ⟨⟨_, rfl, ⟨by omega, by omega⟩⟩, hI, hF0⟩
abbrev rgX8_ask : Room := { frames := 6, cells := 0, slots := 0, locals := 175 }
abbrev pgX8_ask (z : Nat) (σ : hpMem) (a0 : Int) (a1 : Int) : Option Value → hpMem → Prop := fun r τ => (∃ x : Int, r = some (.int (hpI x)) ∧ (hpR x)) ∧ hpInv τ ∧ (∀ j i : Nat, 169 ≤ j → τ j i = σ j i)
set_option maxHeartbeats 4000000 in
set_option maxRecDepth 20000 in
theorem tgX8_ask (l : Launch) (D : va_G) (cy : Nat → ClassId) (z : Nat) (σ : hpMem) (a0 : Int) (ha0 : hpR a0) (a1 : Int) (ha1 : hpR a1) (hI : hpInv σ) : hpM l D cy z yX8_ask cX8_ask 4 (some .int) rgX8_ask [.ref (z + 0), .int (hpI a0), .int (hpI a1)] σ (pgX8_ask z σ a0 a1) := by
  obtain ⟨ha01, ha02⟩ := ha0
  obtain ⟨ha11, ha12⟩ := ha1
  refine hp_met rfl (Nat.le_of_ble_eq_true rfl) (fun p e s m below meth c C Z hr hlk => ?_)
  have hF0 : ∀ j i : Nat, 169 ≤ j → σ j i = σ j i := fun j i _ => rfl
  refine h_aload_n C dX8_ask_0 0 rfl rfl ?_
  refine h_iload_n C dX8_ask_1 1 rfl rfl ?_
  refine h_aload_n C dX8_ask_2 0 rfl rfl ?_
  refine h_iload_n C dX8_ask_3 2 rfl rfl ?_
  refine h_callV (As := [.int (hpI a1)]) (rest := [.int (hpI a0), .ref (z + 0)]) C Z yyX8_isTold wd_549 (tgX8_isTold l D cy z _ a1 ⟨by omega, by omega⟩ hI) kd_0 rfl rfl ⟨rfl, rfl, Nat.le_of_ble_eq_true rfl, Nat.le_of_ble_eq_true rfl⟩ ⟨Nat.le_of_ble_eq_true rfl, Nat.le_of_ble_eq_true rfl⟩ (Nat.le_of_ble_eq_true rfl) dX8_ask_4 (fun r1 τ1 hp1 => ?_)
  obtain ⟨⟨x1, rfl, ⟨hx1a, hx1b⟩, hx1⟩, rfl⟩ := hp1
  show hpV _ _ _ _ _ _ _ _ _ _ _ _ _ _ _ _ _ _ _ _ _ (_ :: _)
  refine h_callV (As := [.int (hpI a0), .int (hpI x1)]) (rest := []) C Z yyX8_seenFault wd_977 (tgX8_seenFault l D cy z _ a0 ⟨by omega, by omega⟩ x1 ⟨by omega, by omega⟩ hI) kd_0 rfl rfl ⟨rfl, rfl, Nat.le_of_ble_eq_true rfl, Nat.le_of_ble_eq_true rfl⟩ ⟨Nat.le_of_ble_eq_true rfl, Nat.le_of_ble_eq_true rfl⟩ (Nat.le_of_ble_eq_true rfl) dX8_ask_7 (fun r2 τ2 hp2 => ?_)
  obtain ⟨⟨x2, rfl, ⟨hx2a, hx2b⟩, hx2⟩, rfl⟩ := hp2
  show hpV _ _ _ _ _ _ _ _ _ _ _ _ _ _ _ _ _ _ _ _ _ (_ :: _)
  refine h_istore_n (lv' := [(3, .int (hpI x2)), (0, .ref (z + 0)), (1, .int (hpI a0)), (2, .int (hpI a1))]) C dX8_ask_10 rfl (by decide) rfl ?_
  refine h_iload_n C dX8_ask_11 0 rfl rfl ?_
  refine h_if_eq (tgt := 19) C dX8_ask_12 (by decide) ⟨by omega, by omega⟩ (fun h3 => ?_) (fun h3 => ?_)
  · refine h_aload_n C dX8_ask_19 1 rfl rfl ?_
    refine h_iload_n C dX8_ask_20 2 rfl rfl ?_
    refine h_iload_n C dX8_ask_21 3 rfl rfl ?_
    refine h_callV (As := [.int (hpI a0), .int (hpI a1)]) (rest := []) C Z yyX8_lookAt wd_985 (tgX8_lookAt l D cy z _ a0 ⟨by omega, by omega⟩ a1 ⟨by omega, by omega⟩ hI (by omega)) kd_0 rfl rfl ⟨rfl, rfl, Nat.le_of_ble_eq_true rfl, Nat.le_of_ble_eq_true rfl⟩ ⟨Nat.le_of_ble_eq_true rfl, Nat.le_of_ble_eq_true rfl⟩ (Nat.le_of_ble_eq_true rfl) dX8_ask_22 (fun r4 τ4 hp4 => ?_)
    obtain ⟨rfl, hI4, hG4⟩ := hp4
    have hF4 : ∀ j i : Nat, 169 ≤ j → τ4 j i = σ j i := fun j i h_0 => (hG4 j i (by omega)).trans (hF0 j i h_0)
    show hpV _ _ _ _ _ _ _ _ _ _ _ _ _ _ _ _ _ _ _ _ _ (_ :: _)
    refine h_aload_n C dX8_ask_25 1 rfl rfl ?_
    refine h_get C O8 1 kd_0 (by decide) wd_350 dX8_ask_26 fr_0_1 ?_
    refine h_getN C O1 5 kd_3 (by decide) nw_85 dX8_ask_29 (hp_fvI (by rw [kd_3]; rfl) rfl) ?_
    obtain ⟨hr5a, hr5b⟩ := hI4.b (bf_1_5 kd_3)
    generalize hg5 : τ4 3 5 = r5 at hr5a hr5b ⊢
    refine h_callVN (As := [.int (hpI r5)]) (rest := []) C Z yyX5_bestDay nw_1024 (tgX5_bestDay l D cy z _ r5 ⟨by omega, by omega⟩ hI4 (by omega)) kd_141 rfl rfl ⟨rfl, rfl, Nat.le_of_ble_eq_true rfl, Nat.le_of_ble_eq_true rfl⟩ ⟨Nat.le_of_ble_eq_true rfl, Nat.le_of_ble_eq_true rfl⟩ (Nat.le_of_ble_eq_true rfl) dX8_ask_32 (fun r6 τ6 hp6 => ?_)
    obtain ⟨⟨x6, rfl, ⟨hx6a, hx6b⟩, hx6⟩, rfl⟩ := hp6
    show hpV _ _ _ _ _ _ _ _ _ _ _ _ _ _ _ _ _ _ _ _ _ (_ :: _)
    refine h_ireturn C hr hlk dX8_ask_35 ?_
    exact ⟨⟨_, rfl, ⟨by omega, by omega⟩⟩, hI4, hF4⟩
  · refine h_iload_n C dX8_ask_15 0 rfl rfl ?_
    refine h_goto (tgt := 35) C dX8_ask_16 (by decide) ?_
    refine h_ireturn C hr hlk dX8_ask_35 ?_
    exact ⟨⟨_, rfl, ⟨by omega, by omega⟩⟩, hI, hF0⟩
abbrev rgX8_leaves : Room := { frames := 6, cells := 0, slots := 0, locals := 175 }
abbrev pgX8_leaves (z : Nat) (σ : hpMem) (a0 : Int) (a1 : Int) : Option Value → hpMem → Prop := fun r τ => (∃ x : Int, r = some (.int (hpI x)) ∧ (hpR x)) ∧ hpInv τ ∧ (∀ j i : Nat, 169 ≤ j → τ j i = σ j i)
set_option maxHeartbeats 4000000 in
set_option maxRecDepth 20000 in
theorem tgX8_leaves (l : Launch) (D : va_G) (cy : Nat → ClassId) (z : Nat) (σ : hpMem) (a0 : Int) (ha0 : hpR a0) (a1 : Int) (ha1 : hpR a1) (hI : hpInv σ) : hpM l D cy z yX8_leaves cX8_leaves 4 (some .int) rgX8_leaves [.ref (z + 0), .int (hpI a0), .int (hpI a1)] σ (pgX8_leaves z σ a0 a1) := by
  obtain ⟨ha01, ha02⟩ := ha0
  obtain ⟨ha11, ha12⟩ := ha1
  refine hp_met rfl (Nat.le_of_ble_eq_true rfl) (fun p e s m below meth c C Z hr hlk => ?_)
  have hF0 : ∀ j i : Nat, 169 ≤ j → σ j i = σ j i := fun j i _ => rfl
  refine h_aload_n C dX8_leaves_0 0 rfl rfl ?_
  refine h_iload_n C dX8_leaves_1 1 rfl rfl ?_
  refine h_aload_n C dX8_leaves_2 0 rfl rfl ?_
  refine h_iload_n C dX8_leaves_3 2 rfl rfl ?_
  refine h_callV (As := [.int (hpI a1)]) (rest := [.int (hpI a0), .ref (z + 0)]) C Z yyX8_isTold wd_549 (tgX8_isTold l D cy z _ a1 ⟨by omega, by omega⟩ hI) kd_0 rfl rfl ⟨rfl, rfl, Nat.le_of_ble_eq_true rfl, Nat.le_of_ble_eq_true rfl⟩ ⟨Nat.le_of_ble_eq_true rfl, Nat.le_of_ble_eq_true rfl⟩ (Nat.le_of_ble_eq_true rfl) dX8_leaves_4 (fun r1 τ1 hp1 => ?_)
  obtain ⟨⟨x1, rfl, ⟨hx1a, hx1b⟩, hx1⟩, rfl⟩ := hp1
  show hpV _ _ _ _ _ _ _ _ _ _ _ _ _ _ _ _ _ _ _ _ _ (_ :: _)
  refine h_callV (As := [.int (hpI a0), .int (hpI x1)]) (rest := []) C Z yyX8_seenFault wd_977 (tgX8_seenFault l D cy z _ a0 ⟨by omega, by omega⟩ x1 ⟨by omega, by omega⟩ hI) kd_0 rfl rfl ⟨rfl, rfl, Nat.le_of_ble_eq_true rfl, Nat.le_of_ble_eq_true rfl⟩ ⟨Nat.le_of_ble_eq_true rfl, Nat.le_of_ble_eq_true rfl⟩ (Nat.le_of_ble_eq_true rfl) dX8_leaves_7 (fun r2 τ2 hp2 => ?_)
  obtain ⟨⟨x2, rfl, ⟨hx2a, hx2b⟩, hx2⟩, rfl⟩ := hp2
  show hpV _ _ _ _ _ _ _ _ _ _ _ _ _ _ _ _ _ _ _ _ _ (_ :: _)
  refine h_istore_n (lv' := [(3, .int (hpI x2)), (0, .ref (z + 0)), (1, .int (hpI a0)), (2, .int (hpI a1))]) C dX8_leaves_10 rfl (by decide) rfl ?_
  refine h_iload_n C dX8_leaves_11 0 rfl rfl ?_
  refine h_if_eq (tgt := 19) C dX8_leaves_12 (by decide) ⟨by omega, by omega⟩ (fun h3 => ?_) (fun h3 => ?_)
  · refine h_aload_n C dX8_leaves_19 1 rfl rfl ?_
    refine h_iload_n C dX8_leaves_20 2 rfl rfl ?_
    refine h_iload_n C dX8_leaves_21 3 rfl rfl ?_
    refine h_callV (As := [.int (hpI a0), .int (hpI a1)]) (rest := []) C Z yyX8_lookAt wd_985 (tgX8_lookAt l D cy z _ a0 ⟨by omega, by omega⟩ a1 ⟨by omega, by omega⟩ hI (by omega)) kd_0 rfl rfl ⟨rfl, rfl, Nat.le_of_ble_eq_true rfl, Nat.le_of_ble_eq_true rfl⟩ ⟨Nat.le_of_ble_eq_true rfl, Nat.le_of_ble_eq_true rfl⟩ (Nat.le_of_ble_eq_true rfl) dX8_leaves_22 (fun r4 τ4 hp4 => ?_)
    obtain ⟨rfl, hI4, hG4⟩ := hp4
    have hF4 : ∀ j i : Nat, 169 ≤ j → τ4 j i = σ j i := fun j i h_0 => (hG4 j i (by omega)).trans (hF0 j i h_0)
    show hpV _ _ _ _ _ _ _ _ _ _ _ _ _ _ _ _ _ _ _ _ _ (_ :: _)
    refine h_aload_n C dX8_leaves_25 1 rfl rfl ?_
    refine h_get C O8 1 kd_0 (by decide) wd_350 dX8_leaves_26 fr_0_1 ?_
    refine h_getN C O1 5 kd_3 (by decide) nw_85 dX8_leaves_29 (hp_fvI (by rw [kd_3]; rfl) rfl) ?_
    obtain ⟨hr5a, hr5b⟩ := hI4.b (bf_1_5 kd_3)
    generalize hg5 : τ4 3 5 = r5 at hr5a hr5b ⊢
    refine h_callVN (As := [.int (hpI r5)]) (rest := []) C Z yyX5_leftAtWorst nw_1037 (tgX5_leftAtWorst l D cy z _ r5 ⟨by omega, by omega⟩ hI4 (by omega)) kd_141 rfl rfl ⟨rfl, rfl, Nat.le_of_ble_eq_true rfl, Nat.le_of_ble_eq_true rfl⟩ ⟨Nat.le_of_ble_eq_true rfl, Nat.le_of_ble_eq_true rfl⟩ (Nat.le_of_ble_eq_true rfl) dX8_leaves_32 (fun r6 τ6 hp6 => ?_)
    obtain ⟨⟨x6, rfl, ⟨hx6a, hx6b⟩⟩, rfl⟩ := hp6
    show hpV _ _ _ _ _ _ _ _ _ _ _ _ _ _ _ _ _ _ _ _ _ (_ :: _)
    refine h_ireturn C hr hlk dX8_leaves_35 ?_
    exact ⟨⟨_, rfl, ⟨by omega, by omega⟩⟩, hI4, hF4⟩
  · refine h_iload_n C dX8_leaves_15 0 rfl rfl ?_
    refine h_goto (tgt := 35) C dX8_leaves_16 (by decide) ?_
    refine h_ireturn C hr hlk dX8_leaves_35 ?_
    exact ⟨⟨_, rfl, ⟨by omega, by omega⟩⟩, hI, hF0⟩
abbrev rgX8_moor : Room := { frames := 8, cells := 0, slots := 0, locals := 171 }
abbrev pgX8_moor (z : Nat) (σ : hpMem) : Option Value → hpMem → Prop := fun r τ => (∃ x : Int, r = some (.int (hpI x)) ∧ (hpR x)) ∧ hpInv τ ∧ (∀ j i : Nat, 169 ≤ j → τ j i = σ j i)
set_option maxHeartbeats 4000000 in
set_option maxRecDepth 20000 in
theorem tgX8_moor (l : Launch) (D : va_G) (cy : Nat → ClassId) (z : Nat) (σ : hpMem) (hI : hpInv σ) : hpM l D cy z yX8_moor cX8_moor 1 (some .int) rgX8_moor [.ref (z + 0)] σ (pgX8_moor z σ) := by
  refine hp_met rfl (Nat.le_of_ble_eq_true rfl) (fun p e s m below meth c C Z hr hlk => ?_)
  have hF0 : ∀ j i : Nat, 169 ≤ j → σ j i = σ j i := fun j i _ => rfl
  refine h_aload_n C dX8_moor_0 0 rfl rfl ?_
  refine h_get C O8 0 kd_0 (by decide) wd_349 dX8_moor_1 fr_0_0 ?_
  refine h_aload_n C dX8_moor_4 0 rfl rfl ?_
  refine h_get C O8 2 kd_0 (by decide) wd_351 dX8_moor_5 fr_0_2 ?_
  refine h_callVN (As := [.ref (z + 9)]) (rest := []) C Z yyX7_readInto nw_414 (tgX7_readInto l D cy z _ hI) kd_1 rfl rfl ⟨rfl, rfl, Nat.le_of_ble_eq_true rfl, Nat.le_of_ble_eq_true rfl⟩ ⟨Nat.le_of_ble_eq_true rfl, Nat.le_of_ble_eq_true rfl⟩ (Nat.le_of_ble_eq_true rfl) dX8_moor_8 (fun r1 τ1 hp1 => ?_)
  obtain ⟨⟨x1, rfl, ⟨hx1a, hx1b⟩⟩, hI1, hG1⟩ := hp1
  have hF1 : ∀ j i : Nat, 169 ≤ j → τ1 j i = σ j i := fun j i h_0 => (hG1 j i (by omega) (by omega)).trans (hF0 j i h_0)
  show hpV _ _ _ _ _ _ _ _ _ _ _ _ _ _ _ _ _ _ _ _ _ (_ :: _)
  refine h_if_ne (tgt := 17) C dX8_moor_11 (by decide) ⟨by omega, by omega⟩ (fun h2 => ?_) (fun h2 => ?_)
  · refine h_aload_n C dX8_moor_17 0 rfl rfl ?_
    refine h_get C O8 0 kd_0 (by decide) wd_349 dX8_moor_18 fr_0_0 ?_
    refine h_iconst C dX8_moor_21 ?_
    refine h_putN C O7 1 kd_1 (by decide) rfl nw_33 dX8_moor_22 rfl rfl (hp_fvI (by rw [kd_1]; rfl) hpu_at) ?_
    obtain ⟨τ3, e3⟩ : ∃ μ : hpMem, μ = hpw τ1 1 1 0 := ⟨_, rfl⟩
    rw [← e3]
    have hI3 : hpInv τ3 := by rw [e3]; exact hI1.w (bf_7_1 kd_1) (by omega) (by omega)
    have hF3 : ∀ j i : Nat, 169 ≤ j → τ3 j i = σ j i := fun j i h_0 => by rw [e3]; exact (hpw_fr (by omega)).trans (hF1 j i h_0)
    have hg4 : τ3 1 1 = 0 := by rw [e3]; exact hpw_eq
    refine h_aload_n C dX8_moor_25 0 rfl rfl ?_
    refine h_get C O8 1 kd_0 (by decide) wd_350 dX8_moor_26 fr_0_1 ?_
    refine h_aload_n C dX8_moor_29 0 rfl rfl ?_
    refine h_get C O8 2 kd_0 (by decide) wd_351 dX8_moor_30 fr_0_2 ?_
    refine h_callVN (As := [.ref (z + 9)]) (rest := []) C Z yyX1_become nw_530 (tgX1_become l D cy z _ 3 kd_3 9 kd_9 hI3) kd_3 rfl rfl ⟨rfl, rfl, Nat.le_of_ble_eq_true rfl, Nat.le_of_ble_eq_true rfl⟩ ⟨Nat.le_of_ble_eq_true rfl, Nat.le_of_ble_eq_true rfl⟩ (Nat.le_of_ble_eq_true rfl) dX8_moor_33 (fun r5 τ5 hp5 => ?_)
    obtain ⟨rfl, hI5, hG5⟩ := hp5
    have hF5 : ∀ j i : Nat, 169 ≤ j → τ5 j i = σ j i := fun j i h_0 => (hG5 j i (by omega)).trans (hF3 j i h_0)
    show hpV _ _ _ _ _ _ _ _ _ _ _ _ _ _ _ _ _ _ _ _ _ []
    refine h_aload_n C dX8_moor_36 0 rfl rfl ?_
    refine h_callV (As := []) (rest := []) C Z yyX8_forget wd_537 (tgX8_forget l D cy z _ hI5) kd_0 rfl rfl ⟨rfl, rfl, Nat.le_of_ble_eq_true rfl, Nat.le_of_ble_eq_true rfl⟩ ⟨Nat.le_of_ble_eq_true rfl, Nat.le_of_ble_eq_true rfl⟩ (Nat.le_of_ble_eq_true rfl) dX8_moor_37 (fun r6 τ6 hp6 => ?_)
    obtain ⟨rfl, hI6, hG6⟩ := hp6
    have hF6 : ∀ j i : Nat, 169 ≤ j → τ6 j i = σ j i := fun j i h_0 => (hG6 j i (by omega)).trans (hF5 j i h_0)
    show hpV _ _ _ _ _ _ _ _ _ _ _ _ _ _ _ _ _ _ _ _ _ []
    refine h_aload_n C dX8_moor_40 0 rfl rfl ?_
    refine h_get C O8 1 kd_0 (by decide) wd_350 dX8_moor_41 fr_0_1 ?_
    refine h_getN C O1 8 kd_3 (by decide) nw_95 dX8_moor_44 (hp_fvI (by rw [kd_3]; rfl) rfl) ?_
    obtain ⟨hr7a, hr7b⟩ := hI6.b (bf_1_8 kd_3)
    generalize hg7 : τ6 3 8 = r7 at hr7a hr7b ⊢
    refine h_ireturn C hr hlk dX8_moor_47 ?_
    exact ⟨⟨_, rfl, ⟨by omega, by omega⟩⟩, hI6, hF6⟩
  · refine h_bipush C dX8_moor_14 (by decide) ?_
    refine h_ireturn C hr hlk dX8_moor_16 ?_
    exact ⟨⟨_, rfl, ⟨by decide, by decide⟩⟩, hI1, hF1⟩

abbrev rX8_noMoor : Room := { frames := 0, cells := 0, slots := 0, locals := 0 }
abbrev pX8_noMoor (z : Nat) (σ : hpMem) : Option Value → hpMem → Prop := fun r τ => r = some (.int (hpI 1)) ∧ σ = τ
set_option maxHeartbeats 4000000 in
set_option maxRecDepth 20000 in
theorem tX8_noMoor (l : Launch) (D : va_G) (cy : Nat → ClassId) (z : Nat) (σ : hpMem) (h_3_8 : σ 3 8 = 0) : hpM l D cy z yX8_noMoor cX8_noMoor 1 (some .boolean) rX8_noMoor [.ref (z + 0)] σ (pX8_noMoor z σ) := by
  refine hp_met rfl (Nat.le_of_ble_eq_true rfl) (fun p e s m below meth c C hr hk => ?_)
  refine h_aload_n C dX8_noMoor_0 0 rfl rfl ?_
  refine h_get C O8 1 kd_0 (by decide) wd_350 dX8_noMoor_1 fr_0_1 ?_
  refine h_getN C O1 8 kd_3 (by decide) nw_95 dX8_noMoor_4 (fi_3_8 h_3_8) ?_
  refine h_if_ne (tgt := 14) C dX8_noMoor_7 (by decide) ⟨by decide, by decide⟩ (fun h1 => ?_) (fun h1 => ?_)
  · exfalso; omega
  · refine h_iconst C dX8_noMoor_10 ?_
    refine h_goto (tgt := 15) C dX8_noMoor_11 (by decide) ?_
    refine h_zreturn C (by omega) hr hk dX8_noMoor_15 ?_
    exact ⟨rfl, rfl⟩
abbrev rX8_isDay : Room := { frames := 1, cells := 0, slots := 0, locals := 20 }
abbrev pX8_isDay (z : Nat) (σ : hpMem) (d : Int) : Option Value → hpMem → Prop := fun r τ => r = some (.int (hpI 0)) ∧ σ = τ
set_option maxHeartbeats 4000000 in
set_option maxRecDepth 20000 in
theorem tX8_isDay (l : Launch) (D : va_G) (cy : Nat → ClassId) (z : Nat) (σ : hpMem) (d : Int) (hd : hpR d) (h_3_8 : σ 3 8 = 0) : hpM l D cy z yX8_isDay cX8_isDay 2 (some .boolean) rX8_isDay [.ref (z + 0), .int (hpI d)] σ (pX8_isDay z σ d) := by
  obtain ⟨hd1, hd2⟩ := hd
  refine hp_met rfl (Nat.le_of_ble_eq_true rfl) (fun p e s m below meth c C hr hk => ?_)
  refine h_aload_n C dX8_isDay_0 0 rfl rfl ?_
  refine h_callV (As := []) (rest := []) C yyX8_noMoor wd_572 (tX8_noMoor l D cy z _ h_3_8) kd_0 rfl rfl ⟨rfl, rfl, Nat.le_of_ble_eq_true rfl, Nat.le_of_ble_eq_true rfl⟩ ⟨Nat.le_of_ble_eq_true rfl, Nat.le_of_ble_eq_true rfl⟩ (Nat.le_of_ble_eq_true rfl) dX8_isDay_1 (fun r1 τ1 hp1 => ?_)
  obtain ⟨rfl, rfl⟩ := hp1
  show hpV _ _ _ _ _ _ _ _ _ _ _ _ _ _ _ _ _ _ _ _ _ (_ :: _)
  refine h_if_ne (tgt := 26) C dX8_isDay_4 (by decide) ⟨by decide, by decide⟩ (fun h2 => ?_) (fun h2 => ?_)
  · refine h_iconst C dX8_isDay_26 ?_
    refine h_zreturn C (by omega) hr hk dX8_isDay_27 ?_
    exact ⟨rfl, rfl⟩
  · exfalso; omega
abbrev rX8_isDayAheadOfLast : Room := { frames := 2, cells := 0, slots := 0, locals := 41 }
abbrev pX8_isDayAheadOfLast (z : Nat) (σ : hpMem) (d : Int) : Option Value → hpMem → Prop := fun r τ => r = some (.int (hpI 0)) ∧ σ = τ
set_option maxHeartbeats 4000000 in
set_option maxRecDepth 20000 in
theorem tX8_isDayAheadOfLast (l : Launch) (D : va_G) (cy : Nat → ClassId) (z : Nat) (σ : hpMem) (d : Int) (hd : hpR d) (h_3_8 : σ 3 8 = 0) : hpM l D cy z yX8_isDayAheadOfLast cX8_isDayAheadOfLast 2 (some .boolean) rX8_isDayAheadOfLast [.ref (z + 0), .int (hpI d)] σ (pX8_isDayAheadOfLast z σ d) := by
  obtain ⟨hd1, hd2⟩ := hd
  refine hp_met rfl (Nat.le_of_ble_eq_true rfl) (fun p e s m below meth c C hr hk => ?_)
  refine h_aload_n C dX8_isDayAheadOfLast_0 0 rfl rfl ?_
  refine h_iload_n C dX8_isDayAheadOfLast_1 1 rfl rfl ?_
  refine h_callV (As := [.int (hpI d)]) (rest := []) C yyX8_isDay wd_568 (tX8_isDay l D cy z _ d ⟨by omega, by omega⟩ h_3_8) kd_0 rfl rfl ⟨rfl, rfl, Nat.le_of_ble_eq_true rfl, Nat.le_of_ble_eq_true rfl⟩ ⟨Nat.le_of_ble_eq_true rfl, Nat.le_of_ble_eq_true rfl⟩ (Nat.le_of_ble_eq_true rfl) dX8_isDayAheadOfLast_2 (fun r1 τ1 hp1 => ?_)
  obtain ⟨rfl, rfl⟩ := hp1
  show hpV _ _ _ _ _ _ _ _ _ _ _ _ _ _ _ _ _ _ _ _ _ (_ :: _)
  refine h_if_eq (tgt := 23) C dX8_isDayAheadOfLast_5 (by decide) ⟨by decide, by decide⟩ (fun h2 => ?_) (fun h2 => ?_)
  · refine h_iconst C dX8_isDayAheadOfLast_23 ?_
    refine h_zreturn C (by omega) hr hk dX8_isDayAheadOfLast_24 ?_
    exact ⟨rfl, rfl⟩
  · exfalso; omega
abbrev rX8_isChanceDay : Room := { frames := 3, cells := 0, slots := 0, locals := 62 }
abbrev pX8_isChanceDay (z : Nat) (σ : hpMem) (d : Int) : Option Value → hpMem → Prop := fun r τ => r = some (.int (hpI 0)) ∧ σ = τ
set_option maxHeartbeats 4000000 in
set_option maxRecDepth 20000 in
theorem tX8_isChanceDay (l : Launch) (D : va_G) (cy : Nat → ClassId) (z : Nat) (σ : hpMem) (d : Int) (hd : hpR d) (h_3_8 : σ 3 8 = 0) : hpM l D cy z yX8_isChanceDay cX8_isChanceDay 2 (some .boolean) rX8_isChanceDay [.ref (z + 0), .int (hpI d)] σ (pX8_isChanceDay z σ d) := by
  obtain ⟨hd1, hd2⟩ := hd
  refine hp_met rfl (Nat.le_of_ble_eq_true rfl) (fun p e s m below meth c C hr hk => ?_)
  refine h_aload_n C dX8_isChanceDay_0 0 rfl rfl ?_
  refine h_iload_n C dX8_isChanceDay_1 1 rfl rfl ?_
  refine h_callV (As := [.int (hpI d)]) (rest := []) C yyX8_isDayAheadOfLast wd_683 (tX8_isDayAheadOfLast l D cy z _ d ⟨by omega, by omega⟩ h_3_8) kd_0 rfl rfl ⟨rfl, rfl, Nat.le_of_ble_eq_true rfl, Nat.le_of_ble_eq_true rfl⟩ ⟨Nat.le_of_ble_eq_true rfl, Nat.le_of_ble_eq_true rfl⟩ (Nat.le_of_ble_eq_true rfl) dX8_isChanceDay_2 (fun r1 τ1 hp1 => ?_)
  obtain ⟨rfl, rfl⟩ := hp1
  show hpV _ _ _ _ _ _ _ _ _ _ _ _ _ _ _ _ _ _ _ _ _ (_ :: _)
  refine h_if_eq (tgt := 18) C dX8_isChanceDay_5 (by decide) ⟨by decide, by decide⟩ (fun h2 => ?_) (fun h2 => ?_)
  · refine h_iconst C dX8_isChanceDay_18 ?_
    refine h_zreturn C (by omega) hr hk dX8_isChanceDay_19 ?_
    exact ⟨rfl, rfl⟩
  · exfalso; omega
abbrev rX8_isOfAll : Room := { frames := 1, cells := 0, slots := 0, locals := 20 }
abbrev pX8_isOfAll (z : Nat) (σ : hpMem) (n : Int) : Option Value → hpMem → Prop := fun r τ => r = some (.int (hpI 0)) ∧ σ = τ
set_option maxHeartbeats 4000000 in
set_option maxRecDepth 20000 in
theorem tX8_isOfAll (l : Launch) (D : va_G) (cy : Nat → ClassId) (z : Nat) (σ : hpMem) (n : Int) (hn : hpR n) (h_3_8 : σ 3 8 = 0) : hpM l D cy z yX8_isOfAll cX8_isOfAll 2 (some .boolean) rX8_isOfAll [.ref (z + 0), .int (hpI n)] σ (pX8_isOfAll z σ n) := by
  obtain ⟨hn1, hn2⟩ := hn
  refine hp_met rfl (Nat.le_of_ble_eq_true rfl) (fun p e s m below meth c C hr hk => ?_)
  refine h_aload_n C dX8_isOfAll_0 0 rfl rfl ?_
  refine h_callV (As := []) (rest := []) C yyX8_noMoor wd_572 (tX8_noMoor l D cy z _ h_3_8) kd_0 rfl rfl ⟨rfl, rfl, Nat.le_of_ble_eq_true rfl, Nat.le_of_ble_eq_true rfl⟩ ⟨Nat.le_of_ble_eq_true rfl, Nat.le_of_ble_eq_true rfl⟩ (Nat.le_of_ble_eq_true rfl) dX8_isOfAll_1 (fun r1 τ1 hp1 => ?_)
  obtain ⟨rfl, rfl⟩ := hp1
  show hpV _ _ _ _ _ _ _ _ _ _ _ _ _ _ _ _ _ _ _ _ _ (_ :: _)
  refine h_if_ne (tgt := 22) C dX8_isOfAll_4 (by decide) ⟨by decide, by decide⟩ (fun h2 => ?_) (fun h2 => ?_)
  · refine h_iconst C dX8_isOfAll_22 ?_
    refine h_zreturn C (by omega) hr hk dX8_isOfAll_23 ?_
    exact ⟨rfl, rfl⟩
  · exfalso; omega
abbrev rX8_isTold : Room := { frames := 0, cells := 0, slots := 0, locals := 0 }
abbrev pX8_isTold (z : Nat) (σ : hpMem) (n : Int) : Option Value → hpMem → Prop := fun r τ => r = some (.int (hpI 0)) ∧ σ = τ
set_option maxHeartbeats 4000000 in
set_option maxRecDepth 20000 in
theorem tX8_isTold (l : Launch) (D : va_G) (cy : Nat → ClassId) (z : Nat) (σ : hpMem) (n : Int) (hn : hpR n) (h_3_9 : σ 3 9 = 0) : hpM l D cy z yX8_isTold cX8_isTold 2 (some .boolean) rX8_isTold [.ref (z + 0), .int (hpI n)] σ (pX8_isTold z σ n) := by
  obtain ⟨hn1, hn2⟩ := hn
  refine hp_met rfl (Nat.le_of_ble_eq_true rfl) (fun p e s m below meth c C hr hk => ?_)
  refine h_iload_n C dX8_isTold_0 1 rfl rfl ?_
  refine h_if_lt (tgt := 19) C dX8_isTold_1 (by decide) ⟨by omega, by omega⟩ (fun h1 => ?_) (fun h1 => ?_)
  · refine h_iconst C dX8_isTold_19 ?_
    refine h_zreturn C (by omega) hr hk dX8_isTold_20 ?_
    exact ⟨rfl, rfl⟩
  · refine h_iload_n C dX8_isTold_4 1 rfl rfl ?_
    refine h_aload_n C dX8_isTold_5 0 rfl rfl ?_
    refine h_get C O8 1 kd_0 (by decide) wd_350 dX8_isTold_6 fr_0_1 ?_
    refine h_getN C O1 9 kd_3 (by decide) nw_99 dX8_isTold_9 (fi_3_9 h_3_9) ?_
    refine h_icmp_ge (tgt := 19) C dX8_isTold_12 (by decide) ⟨by omega, by omega⟩ ⟨by decide, by decide⟩ (fun h2 => ?_) (fun h2 => ?_)
    · refine h_iconst C dX8_isTold_19 ?_
      refine h_zreturn C (by omega) hr hk dX8_isTold_20 ?_
      exact ⟨rfl, rfl⟩
    · refine h_iconst C dX8_isTold_15 ?_
      refine h_goto (tgt := 20) C dX8_isTold_16 (by decide) ?_
      refine h_zreturn C (by omega) hr hk dX8_isTold_20 ?_
      exact ⟨(by rw [show (1 : Int) = 0 by omega]), rfl⟩
abbrev rX8_isCart : Room := { frames := 0, cells := 0, slots := 0, locals := 0 }
abbrev pX8_isCart (z : Nat) (σ : hpMem) (n : Int) : Option Value → hpMem → Prop := fun r τ => r = some (.int (hpI 0)) ∧ σ = τ
set_option maxHeartbeats 4000000 in
set_option maxRecDepth 20000 in
theorem tX8_isCart (l : Launch) (D : va_G) (cy : Nat → ClassId) (z : Nat) (σ : hpMem) (n : Int) (hn : hpR n) (h_3_10 : σ 3 10 = 0) : hpM l D cy z yX8_isCart cX8_isCart 2 (some .boolean) rX8_isCart [.ref (z + 0), .int (hpI n)] σ (pX8_isCart z σ n) := by
  obtain ⟨hn1, hn2⟩ := hn
  refine hp_met rfl (Nat.le_of_ble_eq_true rfl) (fun p e s m below meth c C hr hk => ?_)
  refine h_iload_n C dX8_isCart_0 1 rfl rfl ?_
  refine h_if_lt (tgt := 19) C dX8_isCart_1 (by decide) ⟨by omega, by omega⟩ (fun h1 => ?_) (fun h1 => ?_)
  · refine h_iconst C dX8_isCart_19 ?_
    refine h_zreturn C (by omega) hr hk dX8_isCart_20 ?_
    exact ⟨rfl, rfl⟩
  · refine h_iload_n C dX8_isCart_4 1 rfl rfl ?_
    refine h_aload_n C dX8_isCart_5 0 rfl rfl ?_
    refine h_get C O8 1 kd_0 (by decide) wd_350 dX8_isCart_6 fr_0_1 ?_
    refine h_getN C O1 10 kd_3 (by decide) nw_103 dX8_isCart_9 (fi_3_10 h_3_10) ?_
    refine h_icmp_ge (tgt := 19) C dX8_isCart_12 (by decide) ⟨by omega, by omega⟩ ⟨by decide, by decide⟩ (fun h2 => ?_) (fun h2 => ?_)
    · refine h_iconst C dX8_isCart_19 ?_
      refine h_zreturn C (by omega) hr hk dX8_isCart_20 ?_
      exact ⟨rfl, rfl⟩
    · refine h_iconst C dX8_isCart_15 ?_
      refine h_goto (tgt := 20) C dX8_isCart_16 (by decide) ?_
      refine h_zreturn C (by omega) hr hk dX8_isCart_20 ?_
      exact ⟨(by rw [show (1 : Int) = 0 by omega]), rfl⟩
abbrev rX8_isSlot : Room := { frames := 0, cells := 0, slots := 0, locals := 0 }
abbrev pX8_isSlot (z : Nat) (σ : hpMem) (n : Int) : Option Value → hpMem → Prop := fun r τ => (∃ x : Int, r = some (.int (hpI x)) ∧ hpR x ∧ ((0 ≤ n ∧ n < 4 ∧ x = 1) ∨ ((n < 0 ∨ 4 ≤ n) ∧ x = 0))) ∧ σ = τ
set_option maxHeartbeats 4000000 in
set_option maxRecDepth 20000 in
theorem tX8_isSlot (l : Launch) (D : va_G) (cy : Nat → ClassId) (z : Nat) (σ : hpMem) (n : Int) (hn : hpR n) : hpM l D cy z yX8_isSlot cX8_isSlot 1 (some .boolean) rX8_isSlot [.int (hpI n)] σ (pX8_isSlot z σ n) := by
  obtain ⟨hn1, hn2⟩ := hn
  refine hp_met rfl (Nat.le_of_ble_eq_true rfl) (fun p e s m below meth c C hr hk => ?_)
  refine h_iload_n C dX8_isSlot_0 0 rfl rfl ?_
  refine h_if_lt (tgt := 13) C dX8_isSlot_1 (by decide) ⟨by omega, by omega⟩ (fun h1 => ?_) (fun h1 => ?_)
  · refine h_iconst C dX8_isSlot_13 ?_
    refine h_zreturn C (by omega) hr hk dX8_isSlot_14 ?_
    exact ⟨⟨_, rfl, ⟨by decide, by decide⟩, by omega⟩, rfl⟩
  · refine h_iload_n C dX8_isSlot_4 0 rfl rfl ?_
    refine h_iconst C dX8_isSlot_5 ?_
    refine h_icmp_ge (tgt := 13) C dX8_isSlot_6 (by decide) ⟨by omega, by omega⟩ ⟨by decide, by decide⟩ (fun h2 => ?_) (fun h2 => ?_)
    · refine h_iconst C dX8_isSlot_13 ?_
      refine h_zreturn C (by omega) hr hk dX8_isSlot_14 ?_
      exact ⟨⟨_, rfl, ⟨by decide, by decide⟩, by omega⟩, rfl⟩
    · refine h_iconst C dX8_isSlot_9 ?_
      refine h_goto (tgt := 14) C dX8_isSlot_10 (by decide) ?_
      refine h_zreturn C (by omega) hr hk dX8_isSlot_14 ?_
      exact ⟨⟨_, rfl, ⟨by decide, by decide⟩, by omega⟩, rfl⟩
abbrev rX8_asNumber : Room := { frames := 0, cells := 0, slots := 0, locals := 0 }
abbrev pX8_asNumber (z : Nat) (σ : hpMem) (b : Int) : Option Value → hpMem → Prop := fun r τ => (∃ x : Int, r = some (.int (hpI x)) ∧ hpR x ∧ ((b = 0 ∧ x = 0) ∨ (b ≠ 0 ∧ x = 1))) ∧ σ = τ
set_option maxHeartbeats 4000000 in
set_option maxRecDepth 20000 in
theorem tX8_asNumber (l : Launch) (D : va_G) (cy : Nat → ClassId) (z : Nat) (σ : hpMem) (b : Int) (hb : hpR b) : hpM l D cy z yX8_asNumber cX8_asNumber 1 (some .int) rX8_asNumber [.int (hpI b)] σ (pX8_asNumber z σ b) := by
  obtain ⟨hb1, hb2⟩ := hb
  refine hp_met rfl (Nat.le_of_ble_eq_true rfl) (fun p e s m below meth c C hr hk => ?_)
  refine h_iload_n C dX8_asNumber_0 0 rfl rfl ?_
  refine h_if_eq (tgt := 8) C dX8_asNumber_1 (by decide) ⟨by omega, by omega⟩ (fun h1 => ?_) (fun h1 => ?_)
  · refine h_iconst C dX8_asNumber_8 ?_
    refine h_ireturn C hr hk dX8_asNumber_9 ?_
    exact ⟨⟨_, rfl, ⟨by decide, by decide⟩, by omega⟩, rfl⟩
  · refine h_iconst C dX8_asNumber_4 ?_
    refine h_goto (tgt := 9) C dX8_asNumber_5 (by decide) ?_
    refine h_ireturn C hr hk dX8_asNumber_9 ?_
    exact ⟨⟨_, rfl, ⟨by decide, by decide⟩, by omega⟩, rfl⟩
abbrev rX8_slotsWithRow : Room := { frames := 1, cells := 0, slots := 0, locals := 20 }
abbrev pX8_slotsWithRow (z : Nat) (σ : hpMem) : Option Value → hpMem → Prop := fun r τ => r = some (.int (hpI 0)) ∧ σ = τ
set_option maxHeartbeats 4000000 in
set_option maxRecDepth 20000 in
theorem tX8_slotsWithRow (l : Launch) (D : va_G) (cy : Nat → ClassId) (z : Nat) (σ : hpMem) (h_187_1 : σ 187 1 = 0) (h_189_1 : σ 189 1 = 0) (h_191_1 : σ 191 1 = 0) (h_193_1 : σ 193 1 = 0) : hpM l D cy z yX8_slotsWithRow cX8_slotsWithRow 3 (some .int) rX8_slotsWithRow [.ref (z + 0)] σ (pX8_slotsWithRow z σ) := by
  refine hp_met rfl (Nat.le_of_ble_eq_true rfl) (fun p e s m below meth c C hr hk => ?_)
  refine h_iconst C dX8_slotsWithRow_0 ?_
  refine h_istore_n (lv' := [(1, .int (hpI 0)), (0, .ref (z + 0))]) C dX8_slotsWithRow_1 rfl (by decide) rfl ?_
  refine h_iconst C dX8_slotsWithRow_2 ?_
  refine h_istore_n (lv' := [(2, .int (hpI 0)), (1, .int (hpI 0)), (0, .ref (z + 0))]) C dX8_slotsWithRow_3 rfl (by decide) rfl ?_
  refine h_iload_n C dX8_slotsWithRow_4 0 rfl rfl ?_
  refine h_iconst C dX8_slotsWithRow_5 ?_
  refine h_icmp_ge (tgt := 30) C dX8_slotsWithRow_6 (by decide) ⟨by decide, by decide⟩ ⟨by decide, by decide⟩ (fun h1 => ?_) (fun h1 => ?_)
  · exfalso; omega
  · refine h_iload_n C dX8_slotsWithRow_9 1 rfl rfl ?_
    refine h_aload_n C dX8_slotsWithRow_10 2 rfl rfl ?_
    refine h_get C O8 4 kd_0 (by decide) wd_353 dX8_slotsWithRow_11 fr_0_4 ?_
    refine h_iload_n C dX8_slotsWithRow_14 0 rfl rfl ?_
    refine h_aaload (t0 := 6) C dX8_slotsWithRow_15 kd_16 (by decide) (by decide) rfl 0 rfl (by rw [ln_16]; decide) (by decide +kernel : hprf 16 0 = 187) ?_
    refine h_getN C O6 1 kd_187 (by decide) nw_335 dX8_slotsWithRow_16 (fi_187_1 h_187_1) ?_
    refine h_callS (As := [.int (hpI 0)]) (rest := [.int (hpI 0)]) C yyX8_asNumber rfl wd_742 (tX8_asNumber l D cy z _ 0 ⟨by decide, by decide⟩) rfl rfl ⟨rfl, rfl, Nat.le_of_ble_eq_true rfl, Nat.le_of_ble_eq_true rfl⟩ ⟨Nat.le_of_ble_eq_true rfl, Nat.le_of_ble_eq_true rfl⟩ (Nat.le_of_ble_eq_true rfl) dX8_slotsWithRow_19 (fun r2 τ2 hp2 => ?_)
    obtain ⟨⟨x2, rfl, ⟨hx2a, hx2b⟩, hx2⟩, rfl⟩ := hp2
    show hpV _ _ _ _ _ _ _ _ _ _ _ _ _ _ _ _ _ _ _ _ _ (_ :: _)
    refine h_iadd C dX8_slotsWithRow_22 rfl ?_
    refine h_istore_n (lv' := [(1, .int (hpI (0 + x2))), (2, .int (hpI 0)), (0, .ref (z + 0))]) C dX8_slotsWithRow_23 rfl (by decide) rfl ?_
    refine h_iinc (lv' := [(2, .int (hpI 1)), (1, .int (hpI (0 + x2))), (0, .ref (z + 0))]) C dX8_slotsWithRow_24 1 rfl rfl (by decide) rfl ?_
    refine h_goto (tgt := 4) C dX8_slotsWithRow_27 (by decide) ?_
    refine h_iload_n C dX8_slotsWithRow_4 0 rfl rfl ?_
    refine h_iconst C dX8_slotsWithRow_5 ?_
    refine h_icmp_ge (tgt := 30) C dX8_slotsWithRow_6 (by decide) ⟨by decide, by decide⟩ ⟨by decide, by decide⟩ (fun h3 => ?_) (fun h3 => ?_)
    · exfalso; omega
    · refine h_iload_n C dX8_slotsWithRow_9 1 rfl rfl ?_
      refine h_aload_n C dX8_slotsWithRow_10 2 rfl rfl ?_
      refine h_get C O8 4 kd_0 (by decide) wd_353 dX8_slotsWithRow_11 fr_0_4 ?_
      refine h_iload_n C dX8_slotsWithRow_14 0 rfl rfl ?_
      refine h_aaload (t0 := 6) C dX8_slotsWithRow_15 kd_16 (by decide) (by decide) rfl 1 rfl (by rw [ln_16]; decide) (by decide +kernel : hprf 16 1 = 189) ?_
      refine h_getN C O6 1 kd_189 (by decide) nw_335 dX8_slotsWithRow_16 (fi_189_1 h_189_1) ?_
      refine h_callS (As := [.int (hpI 0)]) (rest := [.int (hpI (0 + x2))]) C yyX8_asNumber rfl wd_742 (tX8_asNumber l D cy z _ 0 ⟨by decide, by decide⟩) rfl rfl ⟨rfl, rfl, Nat.le_of_ble_eq_true rfl, Nat.le_of_ble_eq_true rfl⟩ ⟨Nat.le_of_ble_eq_true rfl, Nat.le_of_ble_eq_true rfl⟩ (Nat.le_of_ble_eq_true rfl) dX8_slotsWithRow_19 (fun r4 τ4 hp4 => ?_)
      obtain ⟨⟨x4, rfl, ⟨hx4a, hx4b⟩, hx4⟩, rfl⟩ := hp4
      show hpV _ _ _ _ _ _ _ _ _ _ _ _ _ _ _ _ _ _ _ _ _ (_ :: _)
      refine h_iadd C dX8_slotsWithRow_22 rfl ?_
      refine h_istore_n (lv' := [(1, .int (hpI ((0 + x2) + x4))), (2, .int (hpI 1)), (0, .ref (z + 0))]) C dX8_slotsWithRow_23 rfl (by decide) rfl ?_
      refine h_iinc (lv' := [(2, .int (hpI 2)), (1, .int (hpI ((0 + x2) + x4))), (0, .ref (z + 0))]) C dX8_slotsWithRow_24 1 rfl rfl (by decide) rfl ?_
      refine h_goto (tgt := 4) C dX8_slotsWithRow_27 (by decide) ?_
      refine h_iload_n C dX8_slotsWithRow_4 0 rfl rfl ?_
      refine h_iconst C dX8_slotsWithRow_5 ?_
      refine h_icmp_ge (tgt := 30) C dX8_slotsWithRow_6 (by decide) ⟨by decide, by decide⟩ ⟨by decide, by decide⟩ (fun h5 => ?_) (fun h5 => ?_)
      · exfalso; omega
      · refine h_iload_n C dX8_slotsWithRow_9 1 rfl rfl ?_
        refine h_aload_n C dX8_slotsWithRow_10 2 rfl rfl ?_
        refine h_get C O8 4 kd_0 (by decide) wd_353 dX8_slotsWithRow_11 fr_0_4 ?_
        refine h_iload_n C dX8_slotsWithRow_14 0 rfl rfl ?_
        refine h_aaload (t0 := 6) C dX8_slotsWithRow_15 kd_16 (by decide) (by decide) rfl 2 rfl (by rw [ln_16]; decide) (by decide +kernel : hprf 16 2 = 191) ?_
        refine h_getN C O6 1 kd_191 (by decide) nw_335 dX8_slotsWithRow_16 (fi_191_1 h_191_1) ?_
        refine h_callS (As := [.int (hpI 0)]) (rest := [.int (hpI ((0 + x2) + x4))]) C yyX8_asNumber rfl wd_742 (tX8_asNumber l D cy z _ 0 ⟨by decide, by decide⟩) rfl rfl ⟨rfl, rfl, Nat.le_of_ble_eq_true rfl, Nat.le_of_ble_eq_true rfl⟩ ⟨Nat.le_of_ble_eq_true rfl, Nat.le_of_ble_eq_true rfl⟩ (Nat.le_of_ble_eq_true rfl) dX8_slotsWithRow_19 (fun r6 τ6 hp6 => ?_)
        obtain ⟨⟨x6, rfl, ⟨hx6a, hx6b⟩, hx6⟩, rfl⟩ := hp6
        show hpV _ _ _ _ _ _ _ _ _ _ _ _ _ _ _ _ _ _ _ _ _ (_ :: _)
        refine h_iadd C dX8_slotsWithRow_22 rfl ?_
        refine h_istore_n (lv' := [(1, .int (hpI (((0 + x2) + x4) + x6))), (2, .int (hpI 2)), (0, .ref (z + 0))]) C dX8_slotsWithRow_23 rfl (by decide) rfl ?_
        refine h_iinc (lv' := [(2, .int (hpI 3)), (1, .int (hpI (((0 + x2) + x4) + x6))), (0, .ref (z + 0))]) C dX8_slotsWithRow_24 1 rfl rfl (by decide) rfl ?_
        refine h_goto (tgt := 4) C dX8_slotsWithRow_27 (by decide) ?_
        refine h_iload_n C dX8_slotsWithRow_4 0 rfl rfl ?_
        refine h_iconst C dX8_slotsWithRow_5 ?_
        refine h_icmp_ge (tgt := 30) C dX8_slotsWithRow_6 (by decide) ⟨by decide, by decide⟩ ⟨by decide, by decide⟩ (fun h7 => ?_) (fun h7 => ?_)
        · exfalso; omega
        · refine h_iload_n C dX8_slotsWithRow_9 1 rfl rfl ?_
          refine h_aload_n C dX8_slotsWithRow_10 2 rfl rfl ?_
          refine h_get C O8 4 kd_0 (by decide) wd_353 dX8_slotsWithRow_11 fr_0_4 ?_
          refine h_iload_n C dX8_slotsWithRow_14 0 rfl rfl ?_
          refine h_aaload (t0 := 6) C dX8_slotsWithRow_15 kd_16 (by decide) (by decide) rfl 3 rfl (by rw [ln_16]; decide) (by decide +kernel : hprf 16 3 = 193) ?_
          refine h_getN C O6 1 kd_193 (by decide) nw_335 dX8_slotsWithRow_16 (fi_193_1 h_193_1) ?_
          refine h_callS (As := [.int (hpI 0)]) (rest := [.int (hpI (((0 + x2) + x4) + x6))]) C yyX8_asNumber rfl wd_742 (tX8_asNumber l D cy z _ 0 ⟨by decide, by decide⟩) rfl rfl ⟨rfl, rfl, Nat.le_of_ble_eq_true rfl, Nat.le_of_ble_eq_true rfl⟩ ⟨Nat.le_of_ble_eq_true rfl, Nat.le_of_ble_eq_true rfl⟩ (Nat.le_of_ble_eq_true rfl) dX8_slotsWithRow_19 (fun r8 τ8 hp8 => ?_)
          obtain ⟨⟨x8, rfl, ⟨hx8a, hx8b⟩, hx8⟩, rfl⟩ := hp8
          show hpV _ _ _ _ _ _ _ _ _ _ _ _ _ _ _ _ _ _ _ _ _ (_ :: _)
          refine h_iadd C dX8_slotsWithRow_22 rfl ?_
          refine h_istore_n (lv' := [(1, .int (hpI ((((0 + x2) + x4) + x6) + x8))), (2, .int (hpI 3)), (0, .ref (z + 0))]) C dX8_slotsWithRow_23 rfl (by decide) rfl ?_
          refine h_iinc (lv' := [(2, .int (hpI 4)), (1, .int (hpI ((((0 + x2) + x4) + x6) + x8))), (0, .ref (z + 0))]) C dX8_slotsWithRow_24 1 rfl rfl (by decide) rfl ?_
          refine h_goto (tgt := 4) C dX8_slotsWithRow_27 (by decide) ?_
          refine h_iload_n C dX8_slotsWithRow_4 0 rfl rfl ?_
          refine h_iconst C dX8_slotsWithRow_5 ?_
          refine h_icmp_ge (tgt := 30) C dX8_slotsWithRow_6 (by decide) ⟨by decide, by decide⟩ ⟨by decide, by decide⟩ (fun h9 => ?_) (fun h9 => ?_)
          · refine h_iload_n C dX8_slotsWithRow_30 1 rfl rfl ?_
            refine h_ireturn C hr hk dX8_slotsWithRow_31 ?_
            exact ⟨(by rw [show ((((0 + x2) + x4) + x6) + x8 : Int) = 0 by omega]), rfl⟩
          · exfalso; omega
abbrev rX8_forget : Room := { frames := 0, cells := 0, slots := 0, locals := 0 }
abbrev pX8_forget (z : Nat) (σ : hpMem) : Option Value → hpMem → Prop := fun r τ => r = none ∧ (∀ j : Nat, j ≠ 0 → τ j = σ j)
set_option maxHeartbeats 4000000 in
set_option maxRecDepth 20000 in
theorem tX8_forget (l : Launch) (D : va_G) (cy : Nat → ClassId) (z : Nat) (σ : hpMem) : hpM l D cy z yX8_forget cX8_forget 1 none rX8_forget [.ref (z + 0)] σ (pX8_forget z σ) := by
  refine hp_met rfl (Nat.le_of_ble_eq_true rfl) (fun p e s m below meth c C hr hk => ?_)
  refine h_aload_n C dX8_forget_0 0 rfl rfl ?_
  refine h_iconst C dX8_forget_1 ?_
  refine h_put C O8 13 kd_0 (by decide) rfl wd_362 dX8_forget_2 (by decide) rfl (fi_0_13 hpu_at) ?_
  refine h_aload_n C dX8_forget_5 0 rfl rfl ?_
  refine h_iconst C dX8_forget_6 ?_
  refine h_put C O8 14 kd_0 (by decide) rfl wd_363 dX8_forget_7 (by decide) rfl (fi_0_14 hpu_at) ?_
  refine h_aload_n C dX8_forget_10 0 rfl rfl ?_
  refine h_iconst C dX8_forget_11 ?_
  refine h_put C O8 15 kd_0 (by decide) rfl wd_364 dX8_forget_12 rfl rfl (fi_0_15 hpu_at) ?_
  refine h_return C hr hk dX8_forget_15 ?_
  exact ⟨rfl, (fun j hj0 => ((hpw_ne hj0).trans ((hpw_ne hj0).trans ((hpw_ne hj0).trans rfl))))⟩
abbrev rX8_smallRowFault : Room := { frames := 1, cells := 0, slots := 0, locals := 20 }
abbrev pX8_smallRowFault (z : Nat) (σ : hpMem) (n : Int) : Option Value → hpMem → Prop := fun r τ => r = some (.int (hpI (-2))) ∧ σ = τ
set_option maxHeartbeats 4000000 in
set_option maxRecDepth 20000 in
theorem tX8_smallRowFault (l : Launch) (D : va_G) (cy : Nat → ClassId) (z : Nat) (σ : hpMem) (n : Int) (hn : hpR n) (h_3_8 : σ 3 8 = 0) : hpM l D cy z yX8_smallRowFault cX8_smallRowFault 2 (some .int) rX8_smallRowFault [.ref (z + 0), .int (hpI n)] σ (pX8_smallRowFault z σ n) := by
  obtain ⟨hn1, hn2⟩ := hn
  refine hp_met rfl (Nat.le_of_ble_eq_true rfl) (fun p e s m below meth c C hr hk => ?_)
  refine h_iload_n C dX8_smallRowFault_0 1 rfl rfl ?_
  refine h_callS (As := [.int (hpI n)]) (rest := []) C yyX8_isSlot rfl wd_920 (tX8_isSlot l D cy z _ n ⟨by omega, by omega⟩) rfl rfl ⟨rfl, rfl, Nat.le_of_ble_eq_true rfl, Nat.le_of_ble_eq_true rfl⟩ ⟨Nat.le_of_ble_eq_true rfl, Nat.le_of_ble_eq_true rfl⟩ (Nat.le_of_ble_eq_true rfl) dX8_smallRowFault_1 (fun r1 τ1 hp1 => ?_)
  obtain ⟨⟨x1, rfl, ⟨hx1a, hx1b⟩, hx1⟩, rfl⟩ := hp1
  show hpV _ _ _ _ _ _ _ _ _ _ _ _ _ _ _ _ _ _ _ _ _ (_ :: _)
  refine h_if_eq (tgt := 14) C dX8_smallRowFault_4 (by decide) ⟨by omega, by omega⟩ (fun h2 => ?_) (fun h2 => ?_)
  · refine h_bipush C dX8_smallRowFault_14 (by decide) ?_
    refine h_ireturn C hr hk dX8_smallRowFault_16 ?_
    exact ⟨rfl, rfl⟩
  · refine h_aload_n C dX8_smallRowFault_7 0 rfl rfl ?_
    refine h_callV (As := []) (rest := []) C yyX8_noMoor wd_572 (tX8_noMoor l D cy z _ h_3_8) kd_0 rfl rfl ⟨rfl, rfl, Nat.le_of_ble_eq_true rfl, Nat.le_of_ble_eq_true rfl⟩ ⟨Nat.le_of_ble_eq_true rfl, Nat.le_of_ble_eq_true rfl⟩ (Nat.le_of_ble_eq_true rfl) dX8_smallRowFault_8 (fun r3 τ3 hp3 => ?_)
    obtain ⟨rfl, rfl⟩ := hp3
    show hpV _ _ _ _ _ _ _ _ _ _ _ _ _ _ _ _ _ _ _ _ _ (_ :: _)
    refine h_if_eq (tgt := 17) C dX8_smallRowFault_11 (by decide) ⟨by decide, by decide⟩ (fun h4 => ?_) (fun h4 => ?_)
    · exfalso; omega
    · refine h_bipush C dX8_smallRowFault_14 (by decide) ?_
      refine h_ireturn C hr hk dX8_smallRowFault_16 ?_
      exact ⟨rfl, rfl⟩
abbrev rX8_seenFault : Room := { frames := 1, cells := 0, slots := 0, locals := 20 }
abbrev pX8_seenFault (z : Nat) (σ : hpMem) (n : Int) : Option Value → hpMem → Prop := fun r τ => r = some (.int (hpI (-2))) ∧ σ = τ
set_option maxHeartbeats 4000000 in
set_option maxRecDepth 20000 in
theorem tX8_seenFault (l : Launch) (D : va_G) (cy : Nat → ClassId) (z : Nat) (σ : hpMem) (n : Int) (hn : hpR n) : hpM l D cy z yX8_seenFault cX8_seenFault 3 (some .int) rX8_seenFault [.ref (z + 0), .int (hpI n), .int (hpI 0)] σ (pX8_seenFault z σ n) := by
  obtain ⟨hn1, hn2⟩ := hn
  refine hp_met rfl (Nat.le_of_ble_eq_true rfl) (fun p e s m below meth c C hr hk => ?_)
  refine h_iload_n C dX8_seenFault_0 1 rfl rfl ?_
  refine h_callS (As := [.int (hpI n)]) (rest := []) C yyX8_isSlot rfl wd_920 (tX8_isSlot l D cy z _ n ⟨by omega, by omega⟩) rfl rfl ⟨rfl, rfl, Nat.le_of_ble_eq_true rfl, Nat.le_of_ble_eq_true rfl⟩ ⟨Nat.le_of_ble_eq_true rfl, Nat.le_of_ble_eq_true rfl⟩ (Nat.le_of_ble_eq_true rfl) dX8_seenFault_1 (fun r1 τ1 hp1 => ?_)
  obtain ⟨⟨x1, rfl, ⟨hx1a, hx1b⟩, hx1⟩, rfl⟩ := hp1
  show hpV _ _ _ _ _ _ _ _ _ _ _ _ _ _ _ _ _ _ _ _ _ (_ :: _)
  refine h_if_eq (tgt := 11) C dX8_seenFault_4 (by decide) ⟨by omega, by omega⟩ (fun h2 => ?_) (fun h2 => ?_)
  · refine h_bipush C dX8_seenFault_11 (by decide) ?_
    refine h_ireturn C hr hk dX8_seenFault_13 ?_
    exact ⟨rfl, rfl⟩
  · refine h_iload_n C dX8_seenFault_7 2 rfl rfl ?_
    refine h_if_ne (tgt := 14) C dX8_seenFault_8 (by decide) ⟨by decide, by decide⟩ (fun h3 => ?_) (fun h3 => ?_)
    · exfalso; omega
    · refine h_bipush C dX8_seenFault_11 (by decide) ?_
      refine h_ireturn C hr hk dX8_seenFault_13 ?_
      exact ⟨rfl, rfl⟩
abbrev rX7_put_0 : Room := { frames := 0, cells := 0, slots := 0, locals := 0 }
abbrev pX7_put_0 (z : Nat) (σ : hpMem) (a : Int) : Option Value → hpMem → Prop := fun r τ => r = none ∧ (∀ j : Nat, j ≠ 1 → j ≠ 2 → τ j = σ j) ∧ τ 1 1 = 4
set_option maxHeartbeats 4000000 in
set_option maxRecDepth 20000 in
theorem tX7_put_0 (l : Launch) (D : va_G) (cy : Nat → ClassId) (z : Nat) (σ : hpMem) (a : Int) (ha : hpR a) (h_1_1 : σ 1 1 = 0) : hpM l D cy z yX7_put cX7_put 3 none rX7_put_0 [.ref (z + 1), .int (hpI a)] σ (pX7_put_0 z σ a) := by
  obtain ⟨ha1, ha2⟩ := ha
  refine hp_met rfl (Nat.le_of_ble_eq_true rfl) (fun p e s m below meth c C hr hk => ?_)
  refine h_bipush C dX7_put_0 (by decide) ?_
  refine h_istore_n (lv' := [(2, .int (hpI 24)), (0, .ref (z + 1)), (1, .int (hpI a))]) C dX7_put_2 rfl (by decide) rfl ?_
  refine h_iload_n C dX7_put_3 0 rfl rfl ?_
  refine h_if_lt (tgt := 46) C dX7_put_4 (by decide) ⟨by decide, by decide⟩ (fun h1 => ?_) (fun h1 => ?_)
  · exfalso; omega
  · refine h_aload_n C dX7_put_7 1 rfl rfl ?_
    refine h_get C O7 1 kd_1 (by decide) wd_34 dX7_put_8 (fi_1_1 h_1_1) ?_
    refine h_sipush C dX7_put_11 (by decide) ?_
    refine h_icmp_ge (tgt := 40) C dX7_put_14 (by decide) ⟨by decide, by decide⟩ ⟨by decide, by decide⟩ (fun h2 => ?_) (fun h2 => ?_)
    · exfalso; omega
    · refine h_aload_n C dX7_put_17 1 rfl rfl ?_
      refine h_get C O7 0 kd_1 (by decide) wd_32 dX7_put_18 fr_1_0 ?_
      refine h_aload_n C dX7_put_21 1 rfl rfl ?_
      refine h_get C O7 1 kd_1 (by decide) wd_34 dX7_put_22 (fi_1_1 h_1_1) ?_
      refine h_iload_n C dX7_put_25 2 rfl rfl ?_
      refine h_iload_n C dX7_put_26 0 rfl rfl ?_
      refine h_ishr_any C dX7_put_27 (fun r3 hr3 => ?_)
      obtain ⟨hr3a, hr3b⟩ := hr3
      refine h_i2b C dX7_put_28 (fun r4 hr4a hr4b => ?_)
      refine h_bastore C dX7_put_29 kd_2 (by omega) (by omega) 0 rfl (by rw [ln_2]; decide) ?_
      refine h_aload_n C dX7_put_30 1 rfl rfl ?_
      refine h_dup C rfl dX7_put_31 ?_
      refine h_get C O7 1 kd_1 (by decide) wd_34 dX7_put_32 (fi_1_1 ((hpw_nk (by decide)).trans h_1_1)) ?_
      refine h_iconst C dX7_put_35 ?_
      refine h_iadd (r := 1) C dX7_put_36 (by decide) ?_
      refine h_put C O7 1 kd_1 (by decide) rfl wd_34 dX7_put_37 rfl rfl (fi_1_1 hpu_at) ?_
      refine h_iinc (lv' := [(2, .int (hpI 16)), (0, .ref (z + 1)), (1, .int (hpI a))]) C dX7_put_40 0 rfl rfl (by decide) rfl ?_
      refine h_goto (tgt := 3) C dX7_put_43 (by decide) ?_
      refine h_iload_n C dX7_put_3 0 rfl rfl ?_
      refine h_if_lt (tgt := 46) C dX7_put_4 (by decide) ⟨by decide, by decide⟩ (fun h5 => ?_) (fun h5 => ?_)
      · exfalso; omega
      · refine h_aload_n C dX7_put_7 1 rfl rfl ?_
        refine h_get C O7 1 kd_1 (by decide) wd_34 dX7_put_8 (fi_1_1 hpw_eq) ?_
        refine h_sipush C dX7_put_11 (by decide) ?_
        refine h_icmp_ge (tgt := 40) C dX7_put_14 (by decide) ⟨by decide, by decide⟩ ⟨by decide, by decide⟩ (fun h6 => ?_) (fun h6 => ?_)
        · exfalso; omega
        · refine h_aload_n C dX7_put_17 1 rfl rfl ?_
          refine h_get C O7 0 kd_1 (by decide) wd_32 dX7_put_18 fr_1_0 ?_
          refine h_aload_n C dX7_put_21 1 rfl rfl ?_
          refine h_get C O7 1 kd_1 (by decide) wd_34 dX7_put_22 (fi_1_1 hpw_eq) ?_
          refine h_iload_n C dX7_put_25 2 rfl rfl ?_
          refine h_iload_n C dX7_put_26 0 rfl rfl ?_
          refine h_ishr_any C dX7_put_27 (fun r7 hr7 => ?_)
          obtain ⟨hr7a, hr7b⟩ := hr7
          refine h_i2b C dX7_put_28 (fun r8 hr8a hr8b => ?_)
          refine h_bastore C dX7_put_29 kd_2 (by omega) (by omega) 1 rfl (by rw [ln_2]; decide) ?_
          refine h_aload_n C dX7_put_30 1 rfl rfl ?_
          refine h_dup C rfl dX7_put_31 ?_
          refine h_get C O7 1 kd_1 (by decide) wd_34 dX7_put_32 (fi_1_1 ((hpw_nk (by decide)).trans hpw_eq)) ?_
          refine h_iconst C dX7_put_35 ?_
          refine h_iadd (r := 2) C dX7_put_36 (by decide) ?_
          refine h_put C O7 1 kd_1 (by decide) rfl wd_34 dX7_put_37 rfl rfl (fi_1_1 hpu_at) ?_
          refine h_iinc (lv' := [(2, .int (hpI 8)), (0, .ref (z + 1)), (1, .int (hpI a))]) C dX7_put_40 0 rfl rfl (by decide) rfl ?_
          refine h_goto (tgt := 3) C dX7_put_43 (by decide) ?_
          refine h_iload_n C dX7_put_3 0 rfl rfl ?_
          refine h_if_lt (tgt := 46) C dX7_put_4 (by decide) ⟨by decide, by decide⟩ (fun h9 => ?_) (fun h9 => ?_)
          · exfalso; omega
          · refine h_aload_n C dX7_put_7 1 rfl rfl ?_
            refine h_get C O7 1 kd_1 (by decide) wd_34 dX7_put_8 (fi_1_1 hpw_eq) ?_
            refine h_sipush C dX7_put_11 (by decide) ?_
            refine h_icmp_ge (tgt := 40) C dX7_put_14 (by decide) ⟨by decide, by decide⟩ ⟨by decide, by decide⟩ (fun h10 => ?_) (fun h10 => ?_)
            · exfalso; omega
            · refine h_aload_n C dX7_put_17 1 rfl rfl ?_
              refine h_get C O7 0 kd_1 (by decide) wd_32 dX7_put_18 fr_1_0 ?_
              refine h_aload_n C dX7_put_21 1 rfl rfl ?_
              refine h_get C O7 1 kd_1 (by decide) wd_34 dX7_put_22 (fi_1_1 hpw_eq) ?_
              refine h_iload_n C dX7_put_25 2 rfl rfl ?_
              refine h_iload_n C dX7_put_26 0 rfl rfl ?_
              refine h_ishr_any C dX7_put_27 (fun r11 hr11 => ?_)
              obtain ⟨hr11a, hr11b⟩ := hr11
              refine h_i2b C dX7_put_28 (fun r12 hr12a hr12b => ?_)
              refine h_bastore C dX7_put_29 kd_2 (by omega) (by omega) 2 rfl (by rw [ln_2]; decide) ?_
              refine h_aload_n C dX7_put_30 1 rfl rfl ?_
              refine h_dup C rfl dX7_put_31 ?_
              refine h_get C O7 1 kd_1 (by decide) wd_34 dX7_put_32 (fi_1_1 ((hpw_nk (by decide)).trans hpw_eq)) ?_
              refine h_iconst C dX7_put_35 ?_
              refine h_iadd (r := 3) C dX7_put_36 (by decide) ?_
              refine h_put C O7 1 kd_1 (by decide) rfl wd_34 dX7_put_37 rfl rfl (fi_1_1 hpu_at) ?_
              refine h_iinc (lv' := [(2, .int (hpI 0)), (0, .ref (z + 1)), (1, .int (hpI a))]) C dX7_put_40 0 rfl rfl (by decide) rfl ?_
              refine h_goto (tgt := 3) C dX7_put_43 (by decide) ?_
              refine h_iload_n C dX7_put_3 0 rfl rfl ?_
              refine h_if_lt (tgt := 46) C dX7_put_4 (by decide) ⟨by decide, by decide⟩ (fun h13 => ?_) (fun h13 => ?_)
              · exfalso; omega
              · refine h_aload_n C dX7_put_7 1 rfl rfl ?_
                refine h_get C O7 1 kd_1 (by decide) wd_34 dX7_put_8 (fi_1_1 hpw_eq) ?_
                refine h_sipush C dX7_put_11 (by decide) ?_
                refine h_icmp_ge (tgt := 40) C dX7_put_14 (by decide) ⟨by decide, by decide⟩ ⟨by decide, by decide⟩ (fun h14 => ?_) (fun h14 => ?_)
                · exfalso; omega
                · refine h_aload_n C dX7_put_17 1 rfl rfl ?_
                  refine h_get C O7 0 kd_1 (by decide) wd_32 dX7_put_18 fr_1_0 ?_
                  refine h_aload_n C dX7_put_21 1 rfl rfl ?_
                  refine h_get C O7 1 kd_1 (by decide) wd_34 dX7_put_22 (fi_1_1 hpw_eq) ?_
                  refine h_iload_n C dX7_put_25 2 rfl rfl ?_
                  refine h_iload_n C dX7_put_26 0 rfl rfl ?_
                  refine h_ishr_any C dX7_put_27 (fun r15 hr15 => ?_)
                  obtain ⟨hr15a, hr15b⟩ := hr15
                  refine h_i2b C dX7_put_28 (fun r16 hr16a hr16b => ?_)
                  refine h_bastore C dX7_put_29 kd_2 (by omega) (by omega) 3 rfl (by rw [ln_2]; decide) ?_
                  refine h_aload_n C dX7_put_30 1 rfl rfl ?_
                  refine h_dup C rfl dX7_put_31 ?_
                  refine h_get C O7 1 kd_1 (by decide) wd_34 dX7_put_32 (fi_1_1 ((hpw_nk (by decide)).trans hpw_eq)) ?_
                  refine h_iconst C dX7_put_35 ?_
                  refine h_iadd (r := 4) C dX7_put_36 (by decide) ?_
                  refine h_put C O7 1 kd_1 (by decide) rfl wd_34 dX7_put_37 rfl rfl (fi_1_1 hpu_at) ?_
                  refine h_iinc (lv' := [(2, .int (hpI (-8))), (0, .ref (z + 1)), (1, .int (hpI a))]) C dX7_put_40 0 rfl rfl (by decide) rfl ?_
                  refine h_goto (tgt := 3) C dX7_put_43 (by decide) ?_
                  refine h_iload_n C dX7_put_3 0 rfl rfl ?_
                  refine h_if_lt (tgt := 46) C dX7_put_4 (by decide) ⟨by decide, by decide⟩ (fun h17 => ?_) (fun h17 => ?_)
                  · refine h_return C hr hk dX7_put_46 ?_
                    exact ⟨rfl, (fun j hj0 hj1 => ((hpw_ne hj0).trans ((hpw_ne hj1).trans ((hpw_ne hj0).trans ((hpw_ne hj1).trans ((hpw_ne hj0).trans ((hpw_ne hj1).trans ((hpw_ne hj0).trans ((hpw_ne hj1).trans rfl))))))))), hpw_eq⟩
                  · exfalso; omega
abbrev rX7_put_4 : Room := { frames := 0, cells := 0, slots := 0, locals := 0 }
abbrev pX7_put_4 (z : Nat) (σ : hpMem) (a : Int) : Option Value → hpMem → Prop := fun r τ => r = none ∧ (∀ j : Nat, j ≠ 1 → j ≠ 2 → τ j = σ j) ∧ τ 1 1 = 8
set_option maxHeartbeats 4000000 in
set_option maxRecDepth 20000 in
theorem tX7_put_4 (l : Launch) (D : va_G) (cy : Nat → ClassId) (z : Nat) (σ : hpMem) (a : Int) (ha : hpR a) (h_1_1 : σ 1 1 = 4) : hpM l D cy z yX7_put cX7_put 3 none rX7_put_4 [.ref (z + 1), .int (hpI a)] σ (pX7_put_4 z σ a) := by
  obtain ⟨ha1, ha2⟩ := ha
  refine hp_met rfl (Nat.le_of_ble_eq_true rfl) (fun p e s m below meth c C hr hk => ?_)
  refine h_bipush C dX7_put_0 (by decide) ?_
  refine h_istore_n (lv' := [(2, .int (hpI 24)), (0, .ref (z + 1)), (1, .int (hpI a))]) C dX7_put_2 rfl (by decide) rfl ?_
  refine h_iload_n C dX7_put_3 0 rfl rfl ?_
  refine h_if_lt (tgt := 46) C dX7_put_4 (by decide) ⟨by decide, by decide⟩ (fun h1 => ?_) (fun h1 => ?_)
  · exfalso; omega
  · refine h_aload_n C dX7_put_7 1 rfl rfl ?_
    refine h_get C O7 1 kd_1 (by decide) wd_34 dX7_put_8 (fi_1_1 h_1_1) ?_
    refine h_sipush C dX7_put_11 (by decide) ?_
    refine h_icmp_ge (tgt := 40) C dX7_put_14 (by decide) ⟨by decide, by decide⟩ ⟨by decide, by decide⟩ (fun h2 => ?_) (fun h2 => ?_)
    · exfalso; omega
    · refine h_aload_n C dX7_put_17 1 rfl rfl ?_
      refine h_get C O7 0 kd_1 (by decide) wd_32 dX7_put_18 fr_1_0 ?_
      refine h_aload_n C dX7_put_21 1 rfl rfl ?_
      refine h_get C O7 1 kd_1 (by decide) wd_34 dX7_put_22 (fi_1_1 h_1_1) ?_
      refine h_iload_n C dX7_put_25 2 rfl rfl ?_
      refine h_iload_n C dX7_put_26 0 rfl rfl ?_
      refine h_ishr_any C dX7_put_27 (fun r3 hr3 => ?_)
      obtain ⟨hr3a, hr3b⟩ := hr3
      refine h_i2b C dX7_put_28 (fun r4 hr4a hr4b => ?_)
      refine h_bastore C dX7_put_29 kd_2 (by omega) (by omega) 4 rfl (by rw [ln_2]; decide) ?_
      refine h_aload_n C dX7_put_30 1 rfl rfl ?_
      refine h_dup C rfl dX7_put_31 ?_
      refine h_get C O7 1 kd_1 (by decide) wd_34 dX7_put_32 (fi_1_1 ((hpw_nk (by decide)).trans h_1_1)) ?_
      refine h_iconst C dX7_put_35 ?_
      refine h_iadd (r := 5) C dX7_put_36 (by decide) ?_
      refine h_put C O7 1 kd_1 (by decide) rfl wd_34 dX7_put_37 rfl rfl (fi_1_1 hpu_at) ?_
      refine h_iinc (lv' := [(2, .int (hpI 16)), (0, .ref (z + 1)), (1, .int (hpI a))]) C dX7_put_40 0 rfl rfl (by decide) rfl ?_
      refine h_goto (tgt := 3) C dX7_put_43 (by decide) ?_
      refine h_iload_n C dX7_put_3 0 rfl rfl ?_
      refine h_if_lt (tgt := 46) C dX7_put_4 (by decide) ⟨by decide, by decide⟩ (fun h5 => ?_) (fun h5 => ?_)
      · exfalso; omega
      · refine h_aload_n C dX7_put_7 1 rfl rfl ?_
        refine h_get C O7 1 kd_1 (by decide) wd_34 dX7_put_8 (fi_1_1 hpw_eq) ?_
        refine h_sipush C dX7_put_11 (by decide) ?_
        refine h_icmp_ge (tgt := 40) C dX7_put_14 (by decide) ⟨by decide, by decide⟩ ⟨by decide, by decide⟩ (fun h6 => ?_) (fun h6 => ?_)
        · exfalso; omega
        · refine h_aload_n C dX7_put_17 1 rfl rfl ?_
          refine h_get C O7 0 kd_1 (by decide) wd_32 dX7_put_18 fr_1_0 ?_
          refine h_aload_n C dX7_put_21 1 rfl rfl ?_
          refine h_get C O7 1 kd_1 (by decide) wd_34 dX7_put_22 (fi_1_1 hpw_eq) ?_
          refine h_iload_n C dX7_put_25 2 rfl rfl ?_
          refine h_iload_n C dX7_put_26 0 rfl rfl ?_
          refine h_ishr_any C dX7_put_27 (fun r7 hr7 => ?_)
          obtain ⟨hr7a, hr7b⟩ := hr7
          refine h_i2b C dX7_put_28 (fun r8 hr8a hr8b => ?_)
          refine h_bastore C dX7_put_29 kd_2 (by omega) (by omega) 5 rfl (by rw [ln_2]; decide) ?_
          refine h_aload_n C dX7_put_30 1 rfl rfl ?_
          refine h_dup C rfl dX7_put_31 ?_
          refine h_get C O7 1 kd_1 (by decide) wd_34 dX7_put_32 (fi_1_1 ((hpw_nk (by decide)).trans hpw_eq)) ?_
          refine h_iconst C dX7_put_35 ?_
          refine h_iadd (r := 6) C dX7_put_36 (by decide) ?_
          refine h_put C O7 1 kd_1 (by decide) rfl wd_34 dX7_put_37 rfl rfl (fi_1_1 hpu_at) ?_
          refine h_iinc (lv' := [(2, .int (hpI 8)), (0, .ref (z + 1)), (1, .int (hpI a))]) C dX7_put_40 0 rfl rfl (by decide) rfl ?_
          refine h_goto (tgt := 3) C dX7_put_43 (by decide) ?_
          refine h_iload_n C dX7_put_3 0 rfl rfl ?_
          refine h_if_lt (tgt := 46) C dX7_put_4 (by decide) ⟨by decide, by decide⟩ (fun h9 => ?_) (fun h9 => ?_)
          · exfalso; omega
          · refine h_aload_n C dX7_put_7 1 rfl rfl ?_
            refine h_get C O7 1 kd_1 (by decide) wd_34 dX7_put_8 (fi_1_1 hpw_eq) ?_
            refine h_sipush C dX7_put_11 (by decide) ?_
            refine h_icmp_ge (tgt := 40) C dX7_put_14 (by decide) ⟨by decide, by decide⟩ ⟨by decide, by decide⟩ (fun h10 => ?_) (fun h10 => ?_)
            · exfalso; omega
            · refine h_aload_n C dX7_put_17 1 rfl rfl ?_
              refine h_get C O7 0 kd_1 (by decide) wd_32 dX7_put_18 fr_1_0 ?_
              refine h_aload_n C dX7_put_21 1 rfl rfl ?_
              refine h_get C O7 1 kd_1 (by decide) wd_34 dX7_put_22 (fi_1_1 hpw_eq) ?_
              refine h_iload_n C dX7_put_25 2 rfl rfl ?_
              refine h_iload_n C dX7_put_26 0 rfl rfl ?_
              refine h_ishr_any C dX7_put_27 (fun r11 hr11 => ?_)
              obtain ⟨hr11a, hr11b⟩ := hr11
              refine h_i2b C dX7_put_28 (fun r12 hr12a hr12b => ?_)
              refine h_bastore C dX7_put_29 kd_2 (by omega) (by omega) 6 rfl (by rw [ln_2]; decide) ?_
              refine h_aload_n C dX7_put_30 1 rfl rfl ?_
              refine h_dup C rfl dX7_put_31 ?_
              refine h_get C O7 1 kd_1 (by decide) wd_34 dX7_put_32 (fi_1_1 ((hpw_nk (by decide)).trans hpw_eq)) ?_
              refine h_iconst C dX7_put_35 ?_
              refine h_iadd (r := 7) C dX7_put_36 (by decide) ?_
              refine h_put C O7 1 kd_1 (by decide) rfl wd_34 dX7_put_37 rfl rfl (fi_1_1 hpu_at) ?_
              refine h_iinc (lv' := [(2, .int (hpI 0)), (0, .ref (z + 1)), (1, .int (hpI a))]) C dX7_put_40 0 rfl rfl (by decide) rfl ?_
              refine h_goto (tgt := 3) C dX7_put_43 (by decide) ?_
              refine h_iload_n C dX7_put_3 0 rfl rfl ?_
              refine h_if_lt (tgt := 46) C dX7_put_4 (by decide) ⟨by decide, by decide⟩ (fun h13 => ?_) (fun h13 => ?_)
              · exfalso; omega
              · refine h_aload_n C dX7_put_7 1 rfl rfl ?_
                refine h_get C O7 1 kd_1 (by decide) wd_34 dX7_put_8 (fi_1_1 hpw_eq) ?_
                refine h_sipush C dX7_put_11 (by decide) ?_
                refine h_icmp_ge (tgt := 40) C dX7_put_14 (by decide) ⟨by decide, by decide⟩ ⟨by decide, by decide⟩ (fun h14 => ?_) (fun h14 => ?_)
                · exfalso; omega
                · refine h_aload_n C dX7_put_17 1 rfl rfl ?_
                  refine h_get C O7 0 kd_1 (by decide) wd_32 dX7_put_18 fr_1_0 ?_
                  refine h_aload_n C dX7_put_21 1 rfl rfl ?_
                  refine h_get C O7 1 kd_1 (by decide) wd_34 dX7_put_22 (fi_1_1 hpw_eq) ?_
                  refine h_iload_n C dX7_put_25 2 rfl rfl ?_
                  refine h_iload_n C dX7_put_26 0 rfl rfl ?_
                  refine h_ishr_any C dX7_put_27 (fun r15 hr15 => ?_)
                  obtain ⟨hr15a, hr15b⟩ := hr15
                  refine h_i2b C dX7_put_28 (fun r16 hr16a hr16b => ?_)
                  refine h_bastore C dX7_put_29 kd_2 (by omega) (by omega) 7 rfl (by rw [ln_2]; decide) ?_
                  refine h_aload_n C dX7_put_30 1 rfl rfl ?_
                  refine h_dup C rfl dX7_put_31 ?_
                  refine h_get C O7 1 kd_1 (by decide) wd_34 dX7_put_32 (fi_1_1 ((hpw_nk (by decide)).trans hpw_eq)) ?_
                  refine h_iconst C dX7_put_35 ?_
                  refine h_iadd (r := 8) C dX7_put_36 (by decide) ?_
                  refine h_put C O7 1 kd_1 (by decide) rfl wd_34 dX7_put_37 rfl rfl (fi_1_1 hpu_at) ?_
                  refine h_iinc (lv' := [(2, .int (hpI (-8))), (0, .ref (z + 1)), (1, .int (hpI a))]) C dX7_put_40 0 rfl rfl (by decide) rfl ?_
                  refine h_goto (tgt := 3) C dX7_put_43 (by decide) ?_
                  refine h_iload_n C dX7_put_3 0 rfl rfl ?_
                  refine h_if_lt (tgt := 46) C dX7_put_4 (by decide) ⟨by decide, by decide⟩ (fun h17 => ?_) (fun h17 => ?_)
                  · refine h_return C hr hk dX7_put_46 ?_
                    exact ⟨rfl, (fun j hj0 hj1 => ((hpw_ne hj0).trans ((hpw_ne hj1).trans ((hpw_ne hj0).trans ((hpw_ne hj1).trans ((hpw_ne hj0).trans ((hpw_ne hj1).trans ((hpw_ne hj0).trans ((hpw_ne hj1).trans rfl))))))))), hpw_eq⟩
                  · exfalso; omega
abbrev rX7_put_8 : Room := { frames := 0, cells := 0, slots := 0, locals := 0 }
abbrev pX7_put_8 (z : Nat) (σ : hpMem) (a : Int) : Option Value → hpMem → Prop := fun r τ => r = none ∧ (∀ j : Nat, j ≠ 1 → j ≠ 2 → τ j = σ j) ∧ τ 1 1 = 12
set_option maxHeartbeats 4000000 in
set_option maxRecDepth 20000 in
theorem tX7_put_8 (l : Launch) (D : va_G) (cy : Nat → ClassId) (z : Nat) (σ : hpMem) (a : Int) (ha : hpR a) (h_1_1 : σ 1 1 = 8) : hpM l D cy z yX7_put cX7_put 3 none rX7_put_8 [.ref (z + 1), .int (hpI a)] σ (pX7_put_8 z σ a) := by
  obtain ⟨ha1, ha2⟩ := ha
  refine hp_met rfl (Nat.le_of_ble_eq_true rfl) (fun p e s m below meth c C hr hk => ?_)
  refine h_bipush C dX7_put_0 (by decide) ?_
  refine h_istore_n (lv' := [(2, .int (hpI 24)), (0, .ref (z + 1)), (1, .int (hpI a))]) C dX7_put_2 rfl (by decide) rfl ?_
  refine h_iload_n C dX7_put_3 0 rfl rfl ?_
  refine h_if_lt (tgt := 46) C dX7_put_4 (by decide) ⟨by decide, by decide⟩ (fun h1 => ?_) (fun h1 => ?_)
  · exfalso; omega
  · refine h_aload_n C dX7_put_7 1 rfl rfl ?_
    refine h_get C O7 1 kd_1 (by decide) wd_34 dX7_put_8 (fi_1_1 h_1_1) ?_
    refine h_sipush C dX7_put_11 (by decide) ?_
    refine h_icmp_ge (tgt := 40) C dX7_put_14 (by decide) ⟨by decide, by decide⟩ ⟨by decide, by decide⟩ (fun h2 => ?_) (fun h2 => ?_)
    · exfalso; omega
    · refine h_aload_n C dX7_put_17 1 rfl rfl ?_
      refine h_get C O7 0 kd_1 (by decide) wd_32 dX7_put_18 fr_1_0 ?_
      refine h_aload_n C dX7_put_21 1 rfl rfl ?_
      refine h_get C O7 1 kd_1 (by decide) wd_34 dX7_put_22 (fi_1_1 h_1_1) ?_
      refine h_iload_n C dX7_put_25 2 rfl rfl ?_
      refine h_iload_n C dX7_put_26 0 rfl rfl ?_
      refine h_ishr_any C dX7_put_27 (fun r3 hr3 => ?_)
      obtain ⟨hr3a, hr3b⟩ := hr3
      refine h_i2b C dX7_put_28 (fun r4 hr4a hr4b => ?_)
      refine h_bastore C dX7_put_29 kd_2 (by omega) (by omega) 8 rfl (by rw [ln_2]; decide) ?_
      refine h_aload_n C dX7_put_30 1 rfl rfl ?_
      refine h_dup C rfl dX7_put_31 ?_
      refine h_get C O7 1 kd_1 (by decide) wd_34 dX7_put_32 (fi_1_1 ((hpw_nk (by decide)).trans h_1_1)) ?_
      refine h_iconst C dX7_put_35 ?_
      refine h_iadd (r := 9) C dX7_put_36 (by decide) ?_
      refine h_put C O7 1 kd_1 (by decide) rfl wd_34 dX7_put_37 rfl rfl (fi_1_1 hpu_at) ?_
      refine h_iinc (lv' := [(2, .int (hpI 16)), (0, .ref (z + 1)), (1, .int (hpI a))]) C dX7_put_40 0 rfl rfl (by decide) rfl ?_
      refine h_goto (tgt := 3) C dX7_put_43 (by decide) ?_
      refine h_iload_n C dX7_put_3 0 rfl rfl ?_
      refine h_if_lt (tgt := 46) C dX7_put_4 (by decide) ⟨by decide, by decide⟩ (fun h5 => ?_) (fun h5 => ?_)
      · exfalso; omega
      · refine h_aload_n C dX7_put_7 1 rfl rfl ?_
        refine h_get C O7 1 kd_1 (by decide) wd_34 dX7_put_8 (fi_1_1 hpw_eq) ?_
        refine h_sipush C dX7_put_11 (by decide) ?_
        refine h_icmp_ge (tgt := 40) C dX7_put_14 (by decide) ⟨by decide, by decide⟩ ⟨by decide, by decide⟩ (fun h6 => ?_) (fun h6 => ?_)
        · exfalso; omega
        · refine h_aload_n C dX7_put_17 1 rfl rfl ?_
          refine h_get C O7 0 kd_1 (by decide) wd_32 dX7_put_18 fr_1_0 ?_
          refine h_aload_n C dX7_put_21 1 rfl rfl ?_
          refine h_get C O7 1 kd_1 (by decide) wd_34 dX7_put_22 (fi_1_1 hpw_eq) ?_
          refine h_iload_n C dX7_put_25 2 rfl rfl ?_
          refine h_iload_n C dX7_put_26 0 rfl rfl ?_
          refine h_ishr_any C dX7_put_27 (fun r7 hr7 => ?_)
          obtain ⟨hr7a, hr7b⟩ := hr7
          refine h_i2b C dX7_put_28 (fun r8 hr8a hr8b => ?_)
          refine h_bastore C dX7_put_29 kd_2 (by omega) (by omega) 9 rfl (by rw [ln_2]; decide) ?_
          refine h_aload_n C dX7_put_30 1 rfl rfl ?_
          refine h_dup C rfl dX7_put_31 ?_
          refine h_get C O7 1 kd_1 (by decide) wd_34 dX7_put_32 (fi_1_1 ((hpw_nk (by decide)).trans hpw_eq)) ?_
          refine h_iconst C dX7_put_35 ?_
          refine h_iadd (r := 10) C dX7_put_36 (by decide) ?_
          refine h_put C O7 1 kd_1 (by decide) rfl wd_34 dX7_put_37 rfl rfl (fi_1_1 hpu_at) ?_
          refine h_iinc (lv' := [(2, .int (hpI 8)), (0, .ref (z + 1)), (1, .int (hpI a))]) C dX7_put_40 0 rfl rfl (by decide) rfl ?_
          refine h_goto (tgt := 3) C dX7_put_43 (by decide) ?_
          refine h_iload_n C dX7_put_3 0 rfl rfl ?_
          refine h_if_lt (tgt := 46) C dX7_put_4 (by decide) ⟨by decide, by decide⟩ (fun h9 => ?_) (fun h9 => ?_)
          · exfalso; omega
          · refine h_aload_n C dX7_put_7 1 rfl rfl ?_
            refine h_get C O7 1 kd_1 (by decide) wd_34 dX7_put_8 (fi_1_1 hpw_eq) ?_
            refine h_sipush C dX7_put_11 (by decide) ?_
            refine h_icmp_ge (tgt := 40) C dX7_put_14 (by decide) ⟨by decide, by decide⟩ ⟨by decide, by decide⟩ (fun h10 => ?_) (fun h10 => ?_)
            · exfalso; omega
            · refine h_aload_n C dX7_put_17 1 rfl rfl ?_
              refine h_get C O7 0 kd_1 (by decide) wd_32 dX7_put_18 fr_1_0 ?_
              refine h_aload_n C dX7_put_21 1 rfl rfl ?_
              refine h_get C O7 1 kd_1 (by decide) wd_34 dX7_put_22 (fi_1_1 hpw_eq) ?_
              refine h_iload_n C dX7_put_25 2 rfl rfl ?_
              refine h_iload_n C dX7_put_26 0 rfl rfl ?_
              refine h_ishr_any C dX7_put_27 (fun r11 hr11 => ?_)
              obtain ⟨hr11a, hr11b⟩ := hr11
              refine h_i2b C dX7_put_28 (fun r12 hr12a hr12b => ?_)
              refine h_bastore C dX7_put_29 kd_2 (by omega) (by omega) 10 rfl (by rw [ln_2]; decide) ?_
              refine h_aload_n C dX7_put_30 1 rfl rfl ?_
              refine h_dup C rfl dX7_put_31 ?_
              refine h_get C O7 1 kd_1 (by decide) wd_34 dX7_put_32 (fi_1_1 ((hpw_nk (by decide)).trans hpw_eq)) ?_
              refine h_iconst C dX7_put_35 ?_
              refine h_iadd (r := 11) C dX7_put_36 (by decide) ?_
              refine h_put C O7 1 kd_1 (by decide) rfl wd_34 dX7_put_37 rfl rfl (fi_1_1 hpu_at) ?_
              refine h_iinc (lv' := [(2, .int (hpI 0)), (0, .ref (z + 1)), (1, .int (hpI a))]) C dX7_put_40 0 rfl rfl (by decide) rfl ?_
              refine h_goto (tgt := 3) C dX7_put_43 (by decide) ?_
              refine h_iload_n C dX7_put_3 0 rfl rfl ?_
              refine h_if_lt (tgt := 46) C dX7_put_4 (by decide) ⟨by decide, by decide⟩ (fun h13 => ?_) (fun h13 => ?_)
              · exfalso; omega
              · refine h_aload_n C dX7_put_7 1 rfl rfl ?_
                refine h_get C O7 1 kd_1 (by decide) wd_34 dX7_put_8 (fi_1_1 hpw_eq) ?_
                refine h_sipush C dX7_put_11 (by decide) ?_
                refine h_icmp_ge (tgt := 40) C dX7_put_14 (by decide) ⟨by decide, by decide⟩ ⟨by decide, by decide⟩ (fun h14 => ?_) (fun h14 => ?_)
                · exfalso; omega
                · refine h_aload_n C dX7_put_17 1 rfl rfl ?_
                  refine h_get C O7 0 kd_1 (by decide) wd_32 dX7_put_18 fr_1_0 ?_
                  refine h_aload_n C dX7_put_21 1 rfl rfl ?_
                  refine h_get C O7 1 kd_1 (by decide) wd_34 dX7_put_22 (fi_1_1 hpw_eq) ?_
                  refine h_iload_n C dX7_put_25 2 rfl rfl ?_
                  refine h_iload_n C dX7_put_26 0 rfl rfl ?_
                  refine h_ishr_any C dX7_put_27 (fun r15 hr15 => ?_)
                  obtain ⟨hr15a, hr15b⟩ := hr15
                  refine h_i2b C dX7_put_28 (fun r16 hr16a hr16b => ?_)
                  refine h_bastore C dX7_put_29 kd_2 (by omega) (by omega) 11 rfl (by rw [ln_2]; decide) ?_
                  refine h_aload_n C dX7_put_30 1 rfl rfl ?_
                  refine h_dup C rfl dX7_put_31 ?_
                  refine h_get C O7 1 kd_1 (by decide) wd_34 dX7_put_32 (fi_1_1 ((hpw_nk (by decide)).trans hpw_eq)) ?_
                  refine h_iconst C dX7_put_35 ?_
                  refine h_iadd (r := 12) C dX7_put_36 (by decide) ?_
                  refine h_put C O7 1 kd_1 (by decide) rfl wd_34 dX7_put_37 rfl rfl (fi_1_1 hpu_at) ?_
                  refine h_iinc (lv' := [(2, .int (hpI (-8))), (0, .ref (z + 1)), (1, .int (hpI a))]) C dX7_put_40 0 rfl rfl (by decide) rfl ?_
                  refine h_goto (tgt := 3) C dX7_put_43 (by decide) ?_
                  refine h_iload_n C dX7_put_3 0 rfl rfl ?_
                  refine h_if_lt (tgt := 46) C dX7_put_4 (by decide) ⟨by decide, by decide⟩ (fun h17 => ?_) (fun h17 => ?_)
                  · refine h_return C hr hk dX7_put_46 ?_
                    exact ⟨rfl, (fun j hj0 hj1 => ((hpw_ne hj0).trans ((hpw_ne hj1).trans ((hpw_ne hj0).trans ((hpw_ne hj1).trans ((hpw_ne hj0).trans ((hpw_ne hj1).trans ((hpw_ne hj0).trans ((hpw_ne hj1).trans rfl))))))))), hpw_eq⟩
                  · exfalso; omega
abbrev rX7_put_12 : Room := { frames := 0, cells := 0, slots := 0, locals := 0 }
abbrev pX7_put_12 (z : Nat) (σ : hpMem) (a : Int) : Option Value → hpMem → Prop := fun r τ => r = none ∧ (∀ j : Nat, j ≠ 1 → j ≠ 2 → τ j = σ j) ∧ τ 1 1 = 16
set_option maxHeartbeats 4000000 in
set_option maxRecDepth 20000 in
theorem tX7_put_12 (l : Launch) (D : va_G) (cy : Nat → ClassId) (z : Nat) (σ : hpMem) (a : Int) (ha : hpR a) (h_1_1 : σ 1 1 = 12) : hpM l D cy z yX7_put cX7_put 3 none rX7_put_12 [.ref (z + 1), .int (hpI a)] σ (pX7_put_12 z σ a) := by
  obtain ⟨ha1, ha2⟩ := ha
  refine hp_met rfl (Nat.le_of_ble_eq_true rfl) (fun p e s m below meth c C hr hk => ?_)
  refine h_bipush C dX7_put_0 (by decide) ?_
  refine h_istore_n (lv' := [(2, .int (hpI 24)), (0, .ref (z + 1)), (1, .int (hpI a))]) C dX7_put_2 rfl (by decide) rfl ?_
  refine h_iload_n C dX7_put_3 0 rfl rfl ?_
  refine h_if_lt (tgt := 46) C dX7_put_4 (by decide) ⟨by decide, by decide⟩ (fun h1 => ?_) (fun h1 => ?_)
  · exfalso; omega
  · refine h_aload_n C dX7_put_7 1 rfl rfl ?_
    refine h_get C O7 1 kd_1 (by decide) wd_34 dX7_put_8 (fi_1_1 h_1_1) ?_
    refine h_sipush C dX7_put_11 (by decide) ?_
    refine h_icmp_ge (tgt := 40) C dX7_put_14 (by decide) ⟨by decide, by decide⟩ ⟨by decide, by decide⟩ (fun h2 => ?_) (fun h2 => ?_)
    · exfalso; omega
    · refine h_aload_n C dX7_put_17 1 rfl rfl ?_
      refine h_get C O7 0 kd_1 (by decide) wd_32 dX7_put_18 fr_1_0 ?_
      refine h_aload_n C dX7_put_21 1 rfl rfl ?_
      refine h_get C O7 1 kd_1 (by decide) wd_34 dX7_put_22 (fi_1_1 h_1_1) ?_
      refine h_iload_n C dX7_put_25 2 rfl rfl ?_
      refine h_iload_n C dX7_put_26 0 rfl rfl ?_
      refine h_ishr_any C dX7_put_27 (fun r3 hr3 => ?_)
      obtain ⟨hr3a, hr3b⟩ := hr3
      refine h_i2b C dX7_put_28 (fun r4 hr4a hr4b => ?_)
      refine h_bastore C dX7_put_29 kd_2 (by omega) (by omega) 12 rfl (by rw [ln_2]; decide) ?_
      refine h_aload_n C dX7_put_30 1 rfl rfl ?_
      refine h_dup C rfl dX7_put_31 ?_
      refine h_get C O7 1 kd_1 (by decide) wd_34 dX7_put_32 (fi_1_1 ((hpw_nk (by decide)).trans h_1_1)) ?_
      refine h_iconst C dX7_put_35 ?_
      refine h_iadd (r := 13) C dX7_put_36 (by decide) ?_
      refine h_put C O7 1 kd_1 (by decide) rfl wd_34 dX7_put_37 rfl rfl (fi_1_1 hpu_at) ?_
      refine h_iinc (lv' := [(2, .int (hpI 16)), (0, .ref (z + 1)), (1, .int (hpI a))]) C dX7_put_40 0 rfl rfl (by decide) rfl ?_
      refine h_goto (tgt := 3) C dX7_put_43 (by decide) ?_
      refine h_iload_n C dX7_put_3 0 rfl rfl ?_
      refine h_if_lt (tgt := 46) C dX7_put_4 (by decide) ⟨by decide, by decide⟩ (fun h5 => ?_) (fun h5 => ?_)
      · exfalso; omega
      · refine h_aload_n C dX7_put_7 1 rfl rfl ?_
        refine h_get C O7 1 kd_1 (by decide) wd_34 dX7_put_8 (fi_1_1 hpw_eq) ?_
        refine h_sipush C dX7_put_11 (by decide) ?_
        refine h_icmp_ge (tgt := 40) C dX7_put_14 (by decide) ⟨by decide, by decide⟩ ⟨by decide, by decide⟩ (fun h6 => ?_) (fun h6 => ?_)
        · exfalso; omega
        · refine h_aload_n C dX7_put_17 1 rfl rfl ?_
          refine h_get C O7 0 kd_1 (by decide) wd_32 dX7_put_18 fr_1_0 ?_
          refine h_aload_n C dX7_put_21 1 rfl rfl ?_
          refine h_get C O7 1 kd_1 (by decide) wd_34 dX7_put_22 (fi_1_1 hpw_eq) ?_
          refine h_iload_n C dX7_put_25 2 rfl rfl ?_
          refine h_iload_n C dX7_put_26 0 rfl rfl ?_
          refine h_ishr_any C dX7_put_27 (fun r7 hr7 => ?_)
          obtain ⟨hr7a, hr7b⟩ := hr7
          refine h_i2b C dX7_put_28 (fun r8 hr8a hr8b => ?_)
          refine h_bastore C dX7_put_29 kd_2 (by omega) (by omega) 13 rfl (by rw [ln_2]; decide) ?_
          refine h_aload_n C dX7_put_30 1 rfl rfl ?_
          refine h_dup C rfl dX7_put_31 ?_
          refine h_get C O7 1 kd_1 (by decide) wd_34 dX7_put_32 (fi_1_1 ((hpw_nk (by decide)).trans hpw_eq)) ?_
          refine h_iconst C dX7_put_35 ?_
          refine h_iadd (r := 14) C dX7_put_36 (by decide) ?_
          refine h_put C O7 1 kd_1 (by decide) rfl wd_34 dX7_put_37 rfl rfl (fi_1_1 hpu_at) ?_
          refine h_iinc (lv' := [(2, .int (hpI 8)), (0, .ref (z + 1)), (1, .int (hpI a))]) C dX7_put_40 0 rfl rfl (by decide) rfl ?_
          refine h_goto (tgt := 3) C dX7_put_43 (by decide) ?_
          refine h_iload_n C dX7_put_3 0 rfl rfl ?_
          refine h_if_lt (tgt := 46) C dX7_put_4 (by decide) ⟨by decide, by decide⟩ (fun h9 => ?_) (fun h9 => ?_)
          · exfalso; omega
          · refine h_aload_n C dX7_put_7 1 rfl rfl ?_
            refine h_get C O7 1 kd_1 (by decide) wd_34 dX7_put_8 (fi_1_1 hpw_eq) ?_
            refine h_sipush C dX7_put_11 (by decide) ?_
            refine h_icmp_ge (tgt := 40) C dX7_put_14 (by decide) ⟨by decide, by decide⟩ ⟨by decide, by decide⟩ (fun h10 => ?_) (fun h10 => ?_)
            · exfalso; omega
            · refine h_aload_n C dX7_put_17 1 rfl rfl ?_
              refine h_get C O7 0 kd_1 (by decide) wd_32 dX7_put_18 fr_1_0 ?_
              refine h_aload_n C dX7_put_21 1 rfl rfl ?_
              refine h_get C O7 1 kd_1 (by decide) wd_34 dX7_put_22 (fi_1_1 hpw_eq) ?_
              refine h_iload_n C dX7_put_25 2 rfl rfl ?_
              refine h_iload_n C dX7_put_26 0 rfl rfl ?_
              refine h_ishr_any C dX7_put_27 (fun r11 hr11 => ?_)
              obtain ⟨hr11a, hr11b⟩ := hr11
              refine h_i2b C dX7_put_28 (fun r12 hr12a hr12b => ?_)
              refine h_bastore C dX7_put_29 kd_2 (by omega) (by omega) 14 rfl (by rw [ln_2]; decide) ?_
              refine h_aload_n C dX7_put_30 1 rfl rfl ?_
              refine h_dup C rfl dX7_put_31 ?_
              refine h_get C O7 1 kd_1 (by decide) wd_34 dX7_put_32 (fi_1_1 ((hpw_nk (by decide)).trans hpw_eq)) ?_
              refine h_iconst C dX7_put_35 ?_
              refine h_iadd (r := 15) C dX7_put_36 (by decide) ?_
              refine h_put C O7 1 kd_1 (by decide) rfl wd_34 dX7_put_37 rfl rfl (fi_1_1 hpu_at) ?_
              refine h_iinc (lv' := [(2, .int (hpI 0)), (0, .ref (z + 1)), (1, .int (hpI a))]) C dX7_put_40 0 rfl rfl (by decide) rfl ?_
              refine h_goto (tgt := 3) C dX7_put_43 (by decide) ?_
              refine h_iload_n C dX7_put_3 0 rfl rfl ?_
              refine h_if_lt (tgt := 46) C dX7_put_4 (by decide) ⟨by decide, by decide⟩ (fun h13 => ?_) (fun h13 => ?_)
              · exfalso; omega
              · refine h_aload_n C dX7_put_7 1 rfl rfl ?_
                refine h_get C O7 1 kd_1 (by decide) wd_34 dX7_put_8 (fi_1_1 hpw_eq) ?_
                refine h_sipush C dX7_put_11 (by decide) ?_
                refine h_icmp_ge (tgt := 40) C dX7_put_14 (by decide) ⟨by decide, by decide⟩ ⟨by decide, by decide⟩ (fun h14 => ?_) (fun h14 => ?_)
                · exfalso; omega
                · refine h_aload_n C dX7_put_17 1 rfl rfl ?_
                  refine h_get C O7 0 kd_1 (by decide) wd_32 dX7_put_18 fr_1_0 ?_
                  refine h_aload_n C dX7_put_21 1 rfl rfl ?_
                  refine h_get C O7 1 kd_1 (by decide) wd_34 dX7_put_22 (fi_1_1 hpw_eq) ?_
                  refine h_iload_n C dX7_put_25 2 rfl rfl ?_
                  refine h_iload_n C dX7_put_26 0 rfl rfl ?_
                  refine h_ishr_any C dX7_put_27 (fun r15 hr15 => ?_)
                  obtain ⟨hr15a, hr15b⟩ := hr15
                  refine h_i2b C dX7_put_28 (fun r16 hr16a hr16b => ?_)
                  refine h_bastore C dX7_put_29 kd_2 (by omega) (by omega) 15 rfl (by rw [ln_2]; decide) ?_
                  refine h_aload_n C dX7_put_30 1 rfl rfl ?_
                  refine h_dup C rfl dX7_put_31 ?_
                  refine h_get C O7 1 kd_1 (by decide) wd_34 dX7_put_32 (fi_1_1 ((hpw_nk (by decide)).trans hpw_eq)) ?_
                  refine h_iconst C dX7_put_35 ?_
                  refine h_iadd (r := 16) C dX7_put_36 (by decide) ?_
                  refine h_put C O7 1 kd_1 (by decide) rfl wd_34 dX7_put_37 rfl rfl (fi_1_1 hpu_at) ?_
                  refine h_iinc (lv' := [(2, .int (hpI (-8))), (0, .ref (z + 1)), (1, .int (hpI a))]) C dX7_put_40 0 rfl rfl (by decide) rfl ?_
                  refine h_goto (tgt := 3) C dX7_put_43 (by decide) ?_
                  refine h_iload_n C dX7_put_3 0 rfl rfl ?_
                  refine h_if_lt (tgt := 46) C dX7_put_4 (by decide) ⟨by decide, by decide⟩ (fun h17 => ?_) (fun h17 => ?_)
                  · refine h_return C hr hk dX7_put_46 ?_
                    exact ⟨rfl, (fun j hj0 hj1 => ((hpw_ne hj0).trans ((hpw_ne hj1).trans ((hpw_ne hj0).trans ((hpw_ne hj1).trans ((hpw_ne hj0).trans ((hpw_ne hj1).trans ((hpw_ne hj0).trans ((hpw_ne hj1).trans rfl))))))))), hpw_eq⟩
                  · exfalso; omega
abbrev rX7_put_16 : Room := { frames := 0, cells := 0, slots := 0, locals := 0 }
abbrev pX7_put_16 (z : Nat) (σ : hpMem) (a : Int) : Option Value → hpMem → Prop := fun r τ => r = none ∧ (∀ j : Nat, j ≠ 1 → j ≠ 2 → τ j = σ j) ∧ τ 1 1 = 20
set_option maxHeartbeats 4000000 in
set_option maxRecDepth 20000 in
theorem tX7_put_16 (l : Launch) (D : va_G) (cy : Nat → ClassId) (z : Nat) (σ : hpMem) (a : Int) (ha : hpR a) (h_1_1 : σ 1 1 = 16) : hpM l D cy z yX7_put cX7_put 3 none rX7_put_16 [.ref (z + 1), .int (hpI a)] σ (pX7_put_16 z σ a) := by
  obtain ⟨ha1, ha2⟩ := ha
  refine hp_met rfl (Nat.le_of_ble_eq_true rfl) (fun p e s m below meth c C hr hk => ?_)
  refine h_bipush C dX7_put_0 (by decide) ?_
  refine h_istore_n (lv' := [(2, .int (hpI 24)), (0, .ref (z + 1)), (1, .int (hpI a))]) C dX7_put_2 rfl (by decide) rfl ?_
  refine h_iload_n C dX7_put_3 0 rfl rfl ?_
  refine h_if_lt (tgt := 46) C dX7_put_4 (by decide) ⟨by decide, by decide⟩ (fun h1 => ?_) (fun h1 => ?_)
  · exfalso; omega
  · refine h_aload_n C dX7_put_7 1 rfl rfl ?_
    refine h_get C O7 1 kd_1 (by decide) wd_34 dX7_put_8 (fi_1_1 h_1_1) ?_
    refine h_sipush C dX7_put_11 (by decide) ?_
    refine h_icmp_ge (tgt := 40) C dX7_put_14 (by decide) ⟨by decide, by decide⟩ ⟨by decide, by decide⟩ (fun h2 => ?_) (fun h2 => ?_)
    · exfalso; omega
    · refine h_aload_n C dX7_put_17 1 rfl rfl ?_
      refine h_get C O7 0 kd_1 (by decide) wd_32 dX7_put_18 fr_1_0 ?_
      refine h_aload_n C dX7_put_21 1 rfl rfl ?_
      refine h_get C O7 1 kd_1 (by decide) wd_34 dX7_put_22 (fi_1_1 h_1_1) ?_
      refine h_iload_n C dX7_put_25 2 rfl rfl ?_
      refine h_iload_n C dX7_put_26 0 rfl rfl ?_
      refine h_ishr_any C dX7_put_27 (fun r3 hr3 => ?_)
      obtain ⟨hr3a, hr3b⟩ := hr3
      refine h_i2b C dX7_put_28 (fun r4 hr4a hr4b => ?_)
      refine h_bastore C dX7_put_29 kd_2 (by omega) (by omega) 16 rfl (by rw [ln_2]; decide) ?_
      refine h_aload_n C dX7_put_30 1 rfl rfl ?_
      refine h_dup C rfl dX7_put_31 ?_
      refine h_get C O7 1 kd_1 (by decide) wd_34 dX7_put_32 (fi_1_1 ((hpw_nk (by decide)).trans h_1_1)) ?_
      refine h_iconst C dX7_put_35 ?_
      refine h_iadd (r := 17) C dX7_put_36 (by decide) ?_
      refine h_put C O7 1 kd_1 (by decide) rfl wd_34 dX7_put_37 rfl rfl (fi_1_1 hpu_at) ?_
      refine h_iinc (lv' := [(2, .int (hpI 16)), (0, .ref (z + 1)), (1, .int (hpI a))]) C dX7_put_40 0 rfl rfl (by decide) rfl ?_
      refine h_goto (tgt := 3) C dX7_put_43 (by decide) ?_
      refine h_iload_n C dX7_put_3 0 rfl rfl ?_
      refine h_if_lt (tgt := 46) C dX7_put_4 (by decide) ⟨by decide, by decide⟩ (fun h5 => ?_) (fun h5 => ?_)
      · exfalso; omega
      · refine h_aload_n C dX7_put_7 1 rfl rfl ?_
        refine h_get C O7 1 kd_1 (by decide) wd_34 dX7_put_8 (fi_1_1 hpw_eq) ?_
        refine h_sipush C dX7_put_11 (by decide) ?_
        refine h_icmp_ge (tgt := 40) C dX7_put_14 (by decide) ⟨by decide, by decide⟩ ⟨by decide, by decide⟩ (fun h6 => ?_) (fun h6 => ?_)
        · exfalso; omega
        · refine h_aload_n C dX7_put_17 1 rfl rfl ?_
          refine h_get C O7 0 kd_1 (by decide) wd_32 dX7_put_18 fr_1_0 ?_
          refine h_aload_n C dX7_put_21 1 rfl rfl ?_
          refine h_get C O7 1 kd_1 (by decide) wd_34 dX7_put_22 (fi_1_1 hpw_eq) ?_
          refine h_iload_n C dX7_put_25 2 rfl rfl ?_
          refine h_iload_n C dX7_put_26 0 rfl rfl ?_
          refine h_ishr_any C dX7_put_27 (fun r7 hr7 => ?_)
          obtain ⟨hr7a, hr7b⟩ := hr7
          refine h_i2b C dX7_put_28 (fun r8 hr8a hr8b => ?_)
          refine h_bastore C dX7_put_29 kd_2 (by omega) (by omega) 17 rfl (by rw [ln_2]; decide) ?_
          refine h_aload_n C dX7_put_30 1 rfl rfl ?_
          refine h_dup C rfl dX7_put_31 ?_
          refine h_get C O7 1 kd_1 (by decide) wd_34 dX7_put_32 (fi_1_1 ((hpw_nk (by decide)).trans hpw_eq)) ?_
          refine h_iconst C dX7_put_35 ?_
          refine h_iadd (r := 18) C dX7_put_36 (by decide) ?_
          refine h_put C O7 1 kd_1 (by decide) rfl wd_34 dX7_put_37 rfl rfl (fi_1_1 hpu_at) ?_
          refine h_iinc (lv' := [(2, .int (hpI 8)), (0, .ref (z + 1)), (1, .int (hpI a))]) C dX7_put_40 0 rfl rfl (by decide) rfl ?_
          refine h_goto (tgt := 3) C dX7_put_43 (by decide) ?_
          refine h_iload_n C dX7_put_3 0 rfl rfl ?_
          refine h_if_lt (tgt := 46) C dX7_put_4 (by decide) ⟨by decide, by decide⟩ (fun h9 => ?_) (fun h9 => ?_)
          · exfalso; omega
          · refine h_aload_n C dX7_put_7 1 rfl rfl ?_
            refine h_get C O7 1 kd_1 (by decide) wd_34 dX7_put_8 (fi_1_1 hpw_eq) ?_
            refine h_sipush C dX7_put_11 (by decide) ?_
            refine h_icmp_ge (tgt := 40) C dX7_put_14 (by decide) ⟨by decide, by decide⟩ ⟨by decide, by decide⟩ (fun h10 => ?_) (fun h10 => ?_)
            · exfalso; omega
            · refine h_aload_n C dX7_put_17 1 rfl rfl ?_
              refine h_get C O7 0 kd_1 (by decide) wd_32 dX7_put_18 fr_1_0 ?_
              refine h_aload_n C dX7_put_21 1 rfl rfl ?_
              refine h_get C O7 1 kd_1 (by decide) wd_34 dX7_put_22 (fi_1_1 hpw_eq) ?_
              refine h_iload_n C dX7_put_25 2 rfl rfl ?_
              refine h_iload_n C dX7_put_26 0 rfl rfl ?_
              refine h_ishr_any C dX7_put_27 (fun r11 hr11 => ?_)
              obtain ⟨hr11a, hr11b⟩ := hr11
              refine h_i2b C dX7_put_28 (fun r12 hr12a hr12b => ?_)
              refine h_bastore C dX7_put_29 kd_2 (by omega) (by omega) 18 rfl (by rw [ln_2]; decide) ?_
              refine h_aload_n C dX7_put_30 1 rfl rfl ?_
              refine h_dup C rfl dX7_put_31 ?_
              refine h_get C O7 1 kd_1 (by decide) wd_34 dX7_put_32 (fi_1_1 ((hpw_nk (by decide)).trans hpw_eq)) ?_
              refine h_iconst C dX7_put_35 ?_
              refine h_iadd (r := 19) C dX7_put_36 (by decide) ?_
              refine h_put C O7 1 kd_1 (by decide) rfl wd_34 dX7_put_37 rfl rfl (fi_1_1 hpu_at) ?_
              refine h_iinc (lv' := [(2, .int (hpI 0)), (0, .ref (z + 1)), (1, .int (hpI a))]) C dX7_put_40 0 rfl rfl (by decide) rfl ?_
              refine h_goto (tgt := 3) C dX7_put_43 (by decide) ?_
              refine h_iload_n C dX7_put_3 0 rfl rfl ?_
              refine h_if_lt (tgt := 46) C dX7_put_4 (by decide) ⟨by decide, by decide⟩ (fun h13 => ?_) (fun h13 => ?_)
              · exfalso; omega
              · refine h_aload_n C dX7_put_7 1 rfl rfl ?_
                refine h_get C O7 1 kd_1 (by decide) wd_34 dX7_put_8 (fi_1_1 hpw_eq) ?_
                refine h_sipush C dX7_put_11 (by decide) ?_
                refine h_icmp_ge (tgt := 40) C dX7_put_14 (by decide) ⟨by decide, by decide⟩ ⟨by decide, by decide⟩ (fun h14 => ?_) (fun h14 => ?_)
                · exfalso; omega
                · refine h_aload_n C dX7_put_17 1 rfl rfl ?_
                  refine h_get C O7 0 kd_1 (by decide) wd_32 dX7_put_18 fr_1_0 ?_
                  refine h_aload_n C dX7_put_21 1 rfl rfl ?_
                  refine h_get C O7 1 kd_1 (by decide) wd_34 dX7_put_22 (fi_1_1 hpw_eq) ?_
                  refine h_iload_n C dX7_put_25 2 rfl rfl ?_
                  refine h_iload_n C dX7_put_26 0 rfl rfl ?_
                  refine h_ishr_any C dX7_put_27 (fun r15 hr15 => ?_)
                  obtain ⟨hr15a, hr15b⟩ := hr15
                  refine h_i2b C dX7_put_28 (fun r16 hr16a hr16b => ?_)
                  refine h_bastore C dX7_put_29 kd_2 (by omega) (by omega) 19 rfl (by rw [ln_2]; decide) ?_
                  refine h_aload_n C dX7_put_30 1 rfl rfl ?_
                  refine h_dup C rfl dX7_put_31 ?_
                  refine h_get C O7 1 kd_1 (by decide) wd_34 dX7_put_32 (fi_1_1 ((hpw_nk (by decide)).trans hpw_eq)) ?_
                  refine h_iconst C dX7_put_35 ?_
                  refine h_iadd (r := 20) C dX7_put_36 (by decide) ?_
                  refine h_put C O7 1 kd_1 (by decide) rfl wd_34 dX7_put_37 rfl rfl (fi_1_1 hpu_at) ?_
                  refine h_iinc (lv' := [(2, .int (hpI (-8))), (0, .ref (z + 1)), (1, .int (hpI a))]) C dX7_put_40 0 rfl rfl (by decide) rfl ?_
                  refine h_goto (tgt := 3) C dX7_put_43 (by decide) ?_
                  refine h_iload_n C dX7_put_3 0 rfl rfl ?_
                  refine h_if_lt (tgt := 46) C dX7_put_4 (by decide) ⟨by decide, by decide⟩ (fun h17 => ?_) (fun h17 => ?_)
                  · refine h_return C hr hk dX7_put_46 ?_
                    exact ⟨rfl, (fun j hj0 hj1 => ((hpw_ne hj0).trans ((hpw_ne hj1).trans ((hpw_ne hj0).trans ((hpw_ne hj1).trans ((hpw_ne hj0).trans ((hpw_ne hj1).trans ((hpw_ne hj0).trans ((hpw_ne hj1).trans rfl))))))))), hpw_eq⟩
                  · exfalso; omega
abbrev rX8_feed : Room := { frames := 1, cells := 0, slots := 0, locals := 22 }
abbrev pX8_feed (z : Nat) (σ : hpMem) (a : Int) (b : Int) (c0 : Int) (d0 : Int) (e0 : Int) : Option Value → hpMem → Prop := fun r τ => r = some (.int (hpI 20)) ∧ (∀ j : Nat, j ≠ 1 → j ≠ 2 → τ j = σ j)
set_option maxHeartbeats 4000000 in
set_option maxRecDepth 20000 in
theorem tX8_feed (l : Launch) (D : va_G) (cy : Nat → ClassId) (z : Nat) (σ : hpMem) (a : Int) (ha : hpR a) (b : Int) (hb : hpR b) (c0 : Int) (hc0 : hpR c0) (d0 : Int) (hd0 : hpR d0) (e0 : Int) (he0 : hpR e0) (h_1_1 : σ 1 1 = 0) : hpM l D cy z yX8_feed cX8_feed 6 (some .int) rX8_feed [.ref (z + 0), .int (hpI a), .int (hpI b), .int (hpI c0), .int (hpI d0), .int (hpI e0)] σ (pX8_feed z σ a b c0 d0 e0) := by
  obtain ⟨ha1, ha2⟩ := ha
  obtain ⟨hb1, hb2⟩ := hb
  obtain ⟨hc01, hc02⟩ := hc0
  obtain ⟨hd01, hd02⟩ := hd0
  obtain ⟨he01, he02⟩ := he0
  refine hp_met rfl (Nat.le_of_ble_eq_true rfl) (fun p e s m below meth c C hr hk => ?_)
  refine h_aload_n C dX8_feed_0 0 rfl rfl ?_
  refine h_get C O8 0 kd_0 (by decide) wd_349 dX8_feed_1 fr_0_0 ?_
  refine h_getN C O7 1 kd_1 (by decide) nw_33 dX8_feed_4 (fi_1_1 h_1_1) ?_
  refine h_bipush C dX8_feed_7 (by decide) ?_
  refine h_iadd (r := 20) C dX8_feed_9 (by decide) ?_
  refine h_sipush C dX8_feed_10 (by decide) ?_
  refine h_icmp_le (tgt := 18) C dX8_feed_13 (by decide) ⟨by decide, by decide⟩ ⟨by decide, by decide⟩ (fun h1 => ?_) (fun h1 => ?_)
  · refine h_aload_n C dX8_feed_18 0 rfl rfl ?_
    refine h_get C O8 0 kd_0 (by decide) wd_349 dX8_feed_19 fr_0_0 ?_
    refine h_iload_n C dX8_feed_22 1 rfl rfl ?_
    refine h_callVN (As := [.int (hpI a)]) (rest := []) C yyX7_put nw_402 (tX7_put_0 l D cy z _ a ⟨by omega, by omega⟩ h_1_1) kd_1 rfl rfl ⟨rfl, rfl, Nat.le_of_ble_eq_true rfl, Nat.le_of_ble_eq_true rfl⟩ ⟨Nat.le_of_ble_eq_true rfl, Nat.le_of_ble_eq_true rfl⟩ (Nat.le_of_ble_eq_true rfl) dX8_feed_23 (fun r2 τ2 hp2 => ?_)
    obtain ⟨rfl, hF2, hc2_0⟩ := hp2
    show hpV _ _ _ _ _ _ _ _ _ _ _ _ _ _ _ _ _ _ _ _ _ []
    refine h_aload_n C dX8_feed_26 0 rfl rfl ?_
    refine h_get C O8 0 kd_0 (by decide) wd_349 dX8_feed_27 fr_0_0 ?_
    refine h_iload_n C dX8_feed_30 2 rfl rfl ?_
    refine h_callVN (As := [.int (hpI b)]) (rest := []) C yyX7_put nw_402 (tX7_put_4 l D cy z _ b ⟨by omega, by omega⟩ hc2_0) kd_1 rfl rfl ⟨rfl, rfl, Nat.le_of_ble_eq_true rfl, Nat.le_of_ble_eq_true rfl⟩ ⟨Nat.le_of_ble_eq_true rfl, Nat.le_of_ble_eq_true rfl⟩ (Nat.le_of_ble_eq_true rfl) dX8_feed_31 (fun r3 τ3 hp3 => ?_)
    obtain ⟨rfl, hF3, hc3_0⟩ := hp3
    show hpV _ _ _ _ _ _ _ _ _ _ _ _ _ _ _ _ _ _ _ _ _ []
    refine h_aload_n C dX8_feed_34 0 rfl rfl ?_
    refine h_get C O8 0 kd_0 (by decide) wd_349 dX8_feed_35 fr_0_0 ?_
    refine h_iload_n C dX8_feed_38 3 rfl rfl ?_
    refine h_callVN (As := [.int (hpI c0)]) (rest := []) C yyX7_put nw_402 (tX7_put_8 l D cy z _ c0 ⟨by omega, by omega⟩ hc3_0) kd_1 rfl rfl ⟨rfl, rfl, Nat.le_of_ble_eq_true rfl, Nat.le_of_ble_eq_true rfl⟩ ⟨Nat.le_of_ble_eq_true rfl, Nat.le_of_ble_eq_true rfl⟩ (Nat.le_of_ble_eq_true rfl) dX8_feed_39 (fun r4 τ4 hp4 => ?_)
    obtain ⟨rfl, hF4, hc4_0⟩ := hp4
    show hpV _ _ _ _ _ _ _ _ _ _ _ _ _ _ _ _ _ _ _ _ _ []
    refine h_aload_n C dX8_feed_42 0 rfl rfl ?_
    refine h_get C O8 0 kd_0 (by decide) wd_349 dX8_feed_43 fr_0_0 ?_
    refine h_iload C dX8_feed_46 4 rfl ?_
    refine h_callVN (As := [.int (hpI d0)]) (rest := []) C yyX7_put nw_402 (tX7_put_12 l D cy z _ d0 ⟨by omega, by omega⟩ hc4_0) kd_1 rfl rfl ⟨rfl, rfl, Nat.le_of_ble_eq_true rfl, Nat.le_of_ble_eq_true rfl⟩ ⟨Nat.le_of_ble_eq_true rfl, Nat.le_of_ble_eq_true rfl⟩ (Nat.le_of_ble_eq_true rfl) dX8_feed_48 (fun r5 τ5 hp5 => ?_)
    obtain ⟨rfl, hF5, hc5_0⟩ := hp5
    show hpV _ _ _ _ _ _ _ _ _ _ _ _ _ _ _ _ _ _ _ _ _ []
    refine h_aload_n C dX8_feed_51 0 rfl rfl ?_
    refine h_get C O8 0 kd_0 (by decide) wd_349 dX8_feed_52 fr_0_0 ?_
    refine h_iload C dX8_feed_55 5 rfl ?_
    refine h_callVN (As := [.int (hpI e0)]) (rest := []) C yyX7_put nw_402 (tX7_put_16 l D cy z _ e0 ⟨by omega, by omega⟩ hc5_0) kd_1 rfl rfl ⟨rfl, rfl, Nat.le_of_ble_eq_true rfl, Nat.le_of_ble_eq_true rfl⟩ ⟨Nat.le_of_ble_eq_true rfl, Nat.le_of_ble_eq_true rfl⟩ (Nat.le_of_ble_eq_true rfl) dX8_feed_57 (fun r6 τ6 hp6 => ?_)
    obtain ⟨rfl, hF6, hc6_0⟩ := hp6
    show hpV _ _ _ _ _ _ _ _ _ _ _ _ _ _ _ _ _ _ _ _ _ []
    refine h_aload_n C dX8_feed_60 0 rfl rfl ?_
    refine h_get C O8 0 kd_0 (by decide) wd_349 dX8_feed_61 fr_0_0 ?_
    refine h_getN C O7 1 kd_1 (by decide) nw_33 dX8_feed_64 (fi_1_1 hc6_0) ?_
    refine h_ireturn C hr hk dX8_feed_67 ?_
    exact ⟨rfl, (fun j hj0 hj1 => ((hF6 j hj0 hj1).trans ((hF5 j hj0 hj1).trans ((hF4 j hj0 hj1).trans ((hF3 j hj0 hj1).trans ((hF2 j hj0 hj1).trans rfl))))))⟩
  · exfalso; omega
abbrev rX8_end : Room := { frames := 0, cells := 0, slots := 0, locals := 0 }
abbrev pX8_end (z : Nat) (σ : hpMem) (n : Int) : Option Value → hpMem → Prop := fun r τ => (∃ x : Int, r = some (.int (hpI x)) ∧ hpR x ∧ ((n = 0 ∧ x = 0) ∨ (n ≠ 0 ∧ x = -1))) ∧ (∀ j : Nat, j ≠ 1 → τ j = σ j)
set_option maxHeartbeats 4000000 in
set_option maxRecDepth 20000 in
theorem tX8_end (l : Launch) (D : va_G) (cy : Nat → ClassId) (z : Nat) (σ : hpMem) (n : Int) (hn : hpR n) (h_1_1 : σ 1 1 = 0) : hpM l D cy z yX8_end cX8_end 2 (some .int) rX8_end [.ref (z + 0), .int (hpI n)] σ (pX8_end z σ n) := by
  obtain ⟨hn1, hn2⟩ := hn
  refine hp_met rfl (Nat.le_of_ble_eq_true rfl) (fun p e s m below meth c C hr hk => ?_)
  refine h_iload_n C dX8_end_0 1 rfl rfl ?_
  refine h_if_lt (tgt := 15) C dX8_end_1 (by decide) ⟨by omega, by omega⟩ (fun h1 => ?_) (fun h1 => ?_)
  · refine h_iconst C dX8_end_15 ?_
    refine h_ireturn C hr hk dX8_end_16 ?_
    exact ⟨⟨_, rfl, ⟨by decide, by decide⟩, by omega⟩, (fun j hj0 => rfl)⟩
  · refine h_iload_n C dX8_end_4 1 rfl rfl ?_
    refine h_aload_n C dX8_end_5 0 rfl rfl ?_
    refine h_get C O8 0 kd_0 (by decide) wd_349 dX8_end_6 fr_0_0 ?_
    refine h_getN C O7 1 kd_1 (by decide) nw_33 dX8_end_9 (fi_1_1 h_1_1) ?_
    refine h_icmp_le (tgt := 17) C dX8_end_12 (by decide) ⟨by omega, by omega⟩ ⟨by decide, by decide⟩ (fun h2 => ?_) (fun h2 => ?_)
    · refine h_aload_n C dX8_end_17 0 rfl rfl ?_
      refine h_get C O8 0 kd_0 (by decide) wd_349 dX8_end_18 fr_0_0 ?_
      refine h_iload_n C dX8_end_21 1 rfl rfl ?_
      refine h_putN C O7 1 kd_1 (by decide) rfl nw_33 dX8_end_22 rfl rfl (fi_1_1 hpu_at) ?_
      refine h_iload_n C dX8_end_25 1 rfl rfl ?_
      refine h_ireturn C hr hk dX8_end_26 ?_
      exact ⟨⟨_, rfl, ⟨by omega, by omega⟩, by omega⟩, (fun j hj0 => ((hpw_ne hj0).trans rfl))⟩
    · refine h_iconst C dX8_end_15 ?_
      refine h_ireturn C hr hk dX8_end_16 ?_
      exact ⟨⟨_, rfl, ⟨by decide, by decide⟩, by omega⟩, (fun j hj0 => rfl)⟩
abbrev rX1_clear_9 : Room := { frames := 0, cells := 0, slots := 0, locals := 0 }
abbrev pX1_clear_9 (z : Nat) (σ : hpMem) : Option Value → hpMem → Prop := fun r τ => r = none ∧ (∀ j : Nat, j ≠ 9 → τ j = σ j) ∧ τ 9 8 = 0
set_option maxHeartbeats 4000000 in
set_option maxRecDepth 20000 in
theorem tX1_clear_9 (l : Launch) (D : va_G) (cy : Nat → ClassId) (z : Nat) (σ : hpMem) : hpM l D cy z yX1_clear cX1_clear 1 none rX1_clear_9 [.ref (z + 9)] σ (pX1_clear_9 z σ) := by
  refine hp_met rfl (Nat.le_of_ble_eq_true rfl) (fun p e s m below meth c C hr hk => ?_)
  refine h_aload_n C dX1_clear_0 0 rfl rfl ?_
  refine h_iconst C dX1_clear_1 ?_
  refine h_put C O1 5 kd_9 (by decide) rfl wd_82 dX1_clear_2 rfl rfl (fi_9_5 hpu_at) ?_
  refine h_aload_n C dX1_clear_5 0 rfl rfl ?_
  refine h_iconst C dX1_clear_6 ?_
  refine h_put C O1 6 kd_9 (by decide) rfl wd_87 dX1_clear_7 rfl rfl (fi_9_6 hpu_at) ?_
  refine h_aload_n C dX1_clear_10 0 rfl rfl ?_
  refine h_iconst C dX1_clear_11 ?_
  refine h_put C O1 7 kd_9 (by decide) rfl wd_90 dX1_clear_12 rfl rfl (fi_9_7 hpu_at) ?_
  refine h_aload_n C dX1_clear_15 0 rfl rfl ?_
  refine h_iconst C dX1_clear_16 ?_
  refine h_put C O1 8 kd_9 (by decide) rfl wd_93 dX1_clear_17 rfl rfl (fi_9_8 hpu_at) ?_
  refine h_aload_n C dX1_clear_20 0 rfl rfl ?_
  refine h_iconst C dX1_clear_21 ?_
  refine h_put C O1 9 kd_9 (by decide) rfl wd_96 dX1_clear_22 rfl rfl (fi_9_9 hpu_at) ?_
  refine h_aload_n C dX1_clear_25 0 rfl rfl ?_
  refine h_iconst C dX1_clear_26 ?_
  refine h_put C O1 10 kd_9 (by decide) rfl wd_100 dX1_clear_27 rfl rfl (fi_9_10 hpu_at) ?_
  refine h_aload_n C dX1_clear_30 0 rfl rfl ?_
  refine h_iconst C dX1_clear_31 ?_
  refine h_put C O1 11 kd_9 (by decide) rfl wd_104 dX1_clear_32 rfl rfl (fi_9_11 hpu_at) ?_
  refine h_return C hr hk dX1_clear_35 ?_
  exact ⟨rfl, (fun j hj0 => ((hpw_ne hj0).trans ((hpw_ne hj0).trans ((hpw_ne hj0).trans ((hpw_ne hj0).trans ((hpw_ne hj0).trans ((hpw_ne hj0).trans ((hpw_ne hj0).trans rfl)))))))), ((hpw_ni (by decide)).trans ((hpw_ni (by decide)).trans ((hpw_ni (by decide)).trans hpw_eq)))⟩
abbrev rX7_nextToken : Room := { frames := 0, cells := 0, slots := 0, locals := 0 }
abbrev pX7_nextToken (z : Nat) (σ : hpMem) : Option Value → hpMem → Prop := fun r τ => r = none ∧ (∀ j : Nat, j ≠ 1 → τ j = σ j) ∧ τ 1 1 = 0 ∧ τ 1 2 = 0 ∧ τ 1 5 = 0
set_option maxHeartbeats 4000000 in
set_option maxRecDepth 20000 in
theorem tX7_nextToken (l : Launch) (D : va_G) (cy : Nat → ClassId) (z : Nat) (σ : hpMem) (h_1_1 : σ 1 1 = 0) (h_1_2 : σ 1 2 = 0) (h_1_4 : σ 1 4 = 0) : hpM l D cy z yX7_nextToken cX7_nextToken 2 none rX7_nextToken [.ref (z + 1)] σ (pX7_nextToken z σ) := by
  refine hp_met rfl (Nat.le_of_ble_eq_true rfl) (fun p e s m below meth c C hr hk => ?_)
  refine h_aload_n C dX7_nextToken_0 0 rfl rfl ?_
  refine h_get C O7 4 kd_1 (by decide) wd_39 dX7_nextToken_1 (fi_1_4 h_1_4) ?_
  refine h_aload_n C dX7_nextToken_4 0 rfl rfl ?_
  refine h_get C O7 1 kd_1 (by decide) wd_34 dX7_nextToken_5 (fi_1_1 h_1_1) ?_
  refine h_icmp_ge (tgt := 39) C dX7_nextToken_8 (by decide) ⟨by decide, by decide⟩ ⟨by decide, by decide⟩ (fun h1 => ?_) (fun h1 => ?_)
  · refine h_aload_n C dX7_nextToken_39 0 rfl rfl ?_
    refine h_aload_n C dX7_nextToken_40 0 rfl rfl ?_
    refine h_get C O7 4 kd_1 (by decide) wd_39 dX7_nextToken_41 (fi_1_4 h_1_4) ?_
    refine h_put C O7 6 kd_1 (by decide) rfl wd_41 dX7_nextToken_44 rfl rfl (fi_1_6 hpu_at) ?_
    refine h_aload_n C dX7_nextToken_47 0 rfl rfl ?_
    refine h_get C O7 4 kd_1 (by decide) wd_39 dX7_nextToken_48 (fi_1_4 ((hpw_ni (by decide)).trans h_1_4)) ?_
    refine h_aload_n C dX7_nextToken_51 0 rfl rfl ?_
    refine h_get C O7 1 kd_1 (by decide) wd_34 dX7_nextToken_52 (fi_1_1 ((hpw_ni (by decide)).trans h_1_1)) ?_
    refine h_icmp_lt (tgt := 64) C dX7_nextToken_55 (by decide) ⟨by decide, by decide⟩ ⟨by decide, by decide⟩ (fun h2 => ?_) (fun h2 => ?_)
    · exfalso; omega
    · refine h_aload_n C dX7_nextToken_58 0 rfl rfl ?_
      refine h_iconst C dX7_nextToken_59 ?_
      refine h_put C O7 5 kd_1 (by decide) rfl wd_40 dX7_nextToken_60 rfl rfl (fi_1_5 hpu_at) ?_
      refine h_return C hr hk dX7_nextToken_63 ?_
      exact ⟨rfl, (fun j hj0 => ((hpw_ne hj0).trans ((hpw_ne hj0).trans rfl))), ((hpw_ni (by decide)).trans ((hpw_ni (by decide)).trans h_1_1)), ((hpw_ni (by decide)).trans ((hpw_ni (by decide)).trans h_1_2)), hpw_eq⟩
  · exfalso; omega
abbrev rX7_readInto : Room := { frames := 1, cells := 0, slots := 0, locals := 21 }
abbrev pX7_readInto (z : Nat) (σ : hpMem) : Option Value → hpMem → Prop := fun r τ => r = some (.int (hpI 1)) ∧ (∀ j : Nat, j ≠ 1 → j ≠ 9 → τ j = σ j) ∧ τ 9 8 = 0
set_option maxHeartbeats 4000000 in
set_option maxRecDepth 20000 in
theorem tX7_readInto (l : Launch) (D : va_G) (cy : Nat → ClassId) (z : Nat) (σ : hpMem) (h_1_1 : σ 1 1 = 0) : hpM l D cy z yX7_readInto cX7_readInto 3 (some .boolean) rX7_readInto [.ref (z + 1), .ref (z + 9)] σ (pX7_readInto z σ) := by
  refine hp_met rfl (Nat.le_of_ble_eq_true rfl) (fun p e s m below meth c C hr hk => ?_)
  refine h_aload_n C dX7_readInto_0 1 rfl rfl ?_
  refine h_callVN (As := []) (rest := []) C yyX1_clear nw_418 (tX1_clear_9 l D cy z _) kd_9 rfl rfl ⟨rfl, rfl, Nat.le_of_ble_eq_true rfl, Nat.le_of_ble_eq_true rfl⟩ ⟨Nat.le_of_ble_eq_true rfl, Nat.le_of_ble_eq_true rfl⟩ (Nat.le_of_ble_eq_true rfl) dX7_readInto_1 (fun r1 τ1 hp1 => ?_)
  obtain ⟨rfl, hF1, hc1_0⟩ := hp1
  show hpV _ _ _ _ _ _ _ _ _ _ _ _ _ _ _ _ _ _ _ _ _ []
  refine h_aload_n C dX7_readInto_4 0 rfl rfl ?_
  refine h_iconst C dX7_readInto_5 ?_
  refine h_put C O7 2 kd_1 (by decide) rfl wd_35 dX7_readInto_6 rfl rfl (fi_1_2 hpu_at) ?_
  refine h_aload_n C dX7_readInto_9 0 rfl rfl ?_
  refine h_iconst C dX7_readInto_10 ?_
  refine h_put C O7 3 kd_1 (by decide) rfl wd_37 dX7_readInto_11 rfl rfl (fi_1_3 hpu_at) ?_
  refine h_aload_n C dX7_readInto_14 0 rfl rfl ?_
  refine h_iconst C dX7_readInto_15 ?_
  refine h_put C O7 4 kd_1 (by decide) rfl wd_39 dX7_readInto_16 rfl rfl (fi_1_4 hpu_at) ?_
  refine h_aload_n C dX7_readInto_19 0 rfl rfl ?_
  refine h_callV (As := []) (rest := []) C yyX7_nextToken wd_422 (tX7_nextToken l D cy z _ ((hpw_ni (by decide)).trans ((hpw_ni (by decide)).trans ((hpw_ni (by decide)).trans ((congrFun (hF1 1 (by decide)) _).trans h_1_1)))) ((hpw_ni (by decide)).trans ((hpw_ni (by decide)).trans hpw_eq)) hpw_eq) kd_1 rfl rfl ⟨rfl, rfl, Nat.le_of_ble_eq_true rfl, Nat.le_of_ble_eq_true rfl⟩ ⟨Nat.le_of_ble_eq_true rfl, Nat.le_of_ble_eq_true rfl⟩ (Nat.le_of_ble_eq_true rfl) dX7_readInto_20 (fun r2 τ2 hp2 => ?_)
  obtain ⟨rfl, hF2, hc2_0, hc2_1, hc2_2⟩ := hp2
  show hpV _ _ _ _ _ _ _ _ _ _ _ _ _ _ _ _ _ _ _ _ _ []
  refine h_iconst C dX7_readInto_23 ?_
  refine h_istore_n (lv' := [(2, .int (hpI 0)), (0, .ref (z + 1)), (1, .ref (z + 9))]) C dX7_readInto_24 rfl (by decide) rfl ?_
  refine h_iload_n C dX7_readInto_25 0 rfl rfl ?_
  refine h_sipush C dX7_readInto_26 (by decide) ?_
  refine h_icmp_ge (tgt := 57) C dX7_readInto_29 (by decide) ⟨by decide, by decide⟩ ⟨by decide, by decide⟩ (fun h3 => ?_) (fun h3 => ?_)
  · exfalso; omega
  · refine h_aload_n C dX7_readInto_32 1 rfl rfl ?_
    refine h_get C O7 5 kd_1 (by decide) wd_40 dX7_readInto_33 (fi_1_5 hc2_2) ?_
    refine h_if_eq (tgt := 57) C dX7_readInto_36 (by decide) ⟨by decide, by decide⟩ (fun h4 => ?_) (fun h4 => ?_)
    · refine h_aload_n C dX7_readInto_57 1 rfl rfl ?_
      refine h_get C O7 2 kd_1 (by decide) wd_35 dX7_readInto_58 (fi_1_2 hc2_1) ?_
      refine h_if_ne (tgt := 68) C dX7_readInto_61 (by decide) ⟨by decide, by decide⟩ (fun h5 => ?_) (fun h5 => ?_)
      · exfalso; omega
      · refine h_iconst C dX7_readInto_64 ?_
        refine h_goto (tgt := 69) C dX7_readInto_65 (by decide) ?_
        refine h_zreturn C (by omega) hr hk dX7_readInto_69 ?_
        exact ⟨rfl, (fun j hj0 hj1 => ((hF2 j hj0).trans ((hpw_ne hj0).trans ((hpw_ne hj0).trans ((hpw_ne hj0).trans ((hF1 j hj1).trans rfl)))))), ((congrFun (hF2 9 (by decide)) _).trans ((hpw_nk (by decide)).trans ((hpw_nk (by decide)).trans ((hpw_nk (by decide)).trans hc1_0))))⟩
    · exfalso; omega
abbrev rX1_become_3 : Room := { frames := 1, cells := 0, slots := 0, locals := 60 }
abbrev pX1_become_3 (z : Nat) (σ : hpMem) : Option Value → hpMem → Prop := fun r τ => r = none ∧ (∀ j : Nat, j ≠ 3 → j ≠ 4 → j ≠ 5 → j ≠ 6 → j ≠ 7 → j ≠ 8 → τ j = σ j) ∧ τ 3 8 = 0
set_option maxHeartbeats 4000000 in
set_option maxRecDepth 20000 in
theorem tX1_become_3 (l : Launch) (D : va_G) (cy : Nat → ClassId) (z : Nat) (σ : hpMem) (h_9_8 : σ 9 8 = 0) : hpM l D cy z yX1_become cX1_become 2 none rX1_become_3 [.ref (z + 3), .ref (z + 9)] σ (pX1_become_3 z σ) := by
  refine hp_met rfl (Nat.le_of_ble_eq_true rfl) (fun p e s m below meth c C hr hk => ?_)
  refine h_aload_n C dX1_become_0 0 rfl rfl ?_
  refine h_aload_n C dX1_become_1 1 rfl rfl ?_
  refine h_get C O1 5 kd_9 (by decide) wd_82 dX1_become_2 (fi_9_5 rfl) ?_
  refine hp_anyI (fun r1 hr1 => ?_)
  obtain ⟨hr1a, hr1b⟩ := hr1
  refine h_put C O1 5 kd_3 (by decide) rfl wd_82 dX1_become_5 rfl rfl (fi_3_5 hpu_at) ?_
  refine h_aload_n C dX1_become_8 0 rfl rfl ?_
  refine h_aload_n C dX1_become_9 1 rfl rfl ?_
  refine h_get C O1 6 kd_9 (by decide) wd_87 dX1_become_10 (fi_9_6 rfl) ?_
  refine hp_anyI (fun r2 hr2 => ?_)
  obtain ⟨hr2a, hr2b⟩ := hr2
  refine h_put C O1 6 kd_3 (by decide) rfl wd_87 dX1_become_13 rfl rfl (fi_3_6 hpu_at) ?_
  refine h_aload_n C dX1_become_16 0 rfl rfl ?_
  refine h_aload_n C dX1_become_17 1 rfl rfl ?_
  refine h_get C O1 7 kd_9 (by decide) wd_90 dX1_become_18 (fi_9_7 rfl) ?_
  refine hp_anyI (fun r3 hr3 => ?_)
  obtain ⟨hr3a, hr3b⟩ := hr3
  refine h_put C O1 7 kd_3 (by decide) rfl wd_90 dX1_become_21 rfl rfl (fi_3_7 hpu_at) ?_
  refine h_aload_n C dX1_become_24 0 rfl rfl ?_
  refine h_aload_n C dX1_become_25 1 rfl rfl ?_
  refine h_get C O1 8 kd_9 (by decide) wd_93 dX1_become_26 (fi_9_8 ((hpw_nk (by decide)).trans ((hpw_nk (by decide)).trans ((hpw_nk (by decide)).trans h_9_8)))) ?_
  refine h_put C O1 8 kd_3 (by decide) rfl wd_93 dX1_become_29 rfl rfl (fi_3_8 hpu_at) ?_
  refine h_aload_n C dX1_become_32 0 rfl rfl ?_
  refine h_aload_n C dX1_become_33 1 rfl rfl ?_
  refine h_get C O1 9 kd_9 (by decide) wd_96 dX1_become_34 (fi_9_9 rfl) ?_
  refine hp_anyI (fun r4 hr4 => ?_)
  obtain ⟨hr4a, hr4b⟩ := hr4
  refine h_put C O1 9 kd_3 (by decide) rfl wd_96 dX1_become_37 rfl rfl (fi_3_9 hpu_at) ?_
  refine h_aload_n C dX1_become_40 0 rfl rfl ?_
  refine h_aload_n C dX1_become_41 1 rfl rfl ?_
  refine h_get C O1 10 kd_9 (by decide) wd_100 dX1_become_42 (fi_9_10 rfl) ?_
  refine hp_anyI (fun r5 hr5 => ?_)
  obtain ⟨hr5a, hr5b⟩ := hr5
  refine h_put C O1 10 kd_3 (by decide) rfl wd_100 dX1_become_45 rfl rfl (fi_3_10 hpu_at) ?_
  refine h_aload_n C dX1_become_48 0 rfl rfl ?_
  refine h_aload_n C dX1_become_49 1 rfl rfl ?_
  refine h_get C O1 11 kd_9 (by decide) wd_104 dX1_become_50 (fi_9_11 rfl) ?_
  refine hp_anyI (fun r6 hr6 => ?_)
  obtain ⟨hr6a, hr6b⟩ := hr6
  refine h_put C O1 11 kd_3 (by decide) rfl wd_104 dX1_become_53 rfl rfl (fi_3_11 hpu_at) ?_
  refine h_aload_n C dX1_become_56 1 rfl rfl ?_
  refine h_get C O1 0 kd_9 (by decide) wd_64 dX1_become_57 fr_9_0 ?_
  refine h_iconst C dX1_become_60 ?_
  refine h_aload_n C dX1_become_61 0 rfl rfl ?_
  refine h_get C O1 0 kd_3 (by decide) wd_64 dX1_become_62 fr_3_0 ?_
  refine h_iconst C dX1_become_65 ?_
  refine h_bipush C dX1_become_66 (by decide) ?_
  refine h_copyI C wd_534 wd_536 wd_535 wd_16 dX1_become_68 kd_10 kd_4 0 0 8 rfl rfl rfl (by rw [ln_10]; decide) (by rw [ln_4]; decide) (Nat.le_of_ble_eq_true rfl) (Nat.le_of_ble_eq_true rfl) ?_
  refine h_aload_n C dX1_become_71 1 rfl rfl ?_
  refine h_get C O1 1 kd_9 (by decide) wd_68 dX1_become_72 fr_9_1 ?_
  refine h_iconst C dX1_become_75 ?_
  refine h_aload_n C dX1_become_76 0 rfl rfl ?_
  refine h_get C O1 1 kd_3 (by decide) wd_68 dX1_become_77 fr_3_1 ?_
  refine h_iconst C dX1_become_80 ?_
  refine h_bipush C dX1_become_81 (by decide) ?_
  refine h_copyI C wd_534 wd_536 wd_535 wd_16 dX1_become_83 kd_11 kd_5 0 0 6 rfl rfl rfl (by rw [ln_11]; decide) (by rw [ln_5]; decide) (Nat.le_of_ble_eq_true rfl) (Nat.le_of_ble_eq_true rfl) ?_
  refine h_aload_n C dX1_become_86 1 rfl rfl ?_
  refine h_get C O1 2 kd_9 (by decide) wd_72 dX1_become_87 fr_9_2 ?_
  refine h_iconst C dX1_become_90 ?_
  refine h_aload_n C dX1_become_91 0 rfl rfl ?_
  refine h_get C O1 2 kd_3 (by decide) wd_72 dX1_become_92 fr_3_2 ?_
  refine h_iconst C dX1_become_95 ?_
  refine h_bipush C dX1_become_96 (by decide) ?_
  refine h_copyI C wd_534 wd_536 wd_535 wd_16 dX1_become_98 kd_12 kd_6 0 0 6 rfl rfl rfl (by rw [ln_12]; decide) (by rw [ln_6]; decide) (Nat.le_of_ble_eq_true rfl) (Nat.le_of_ble_eq_true rfl) ?_
  refine h_aload_n C dX1_become_101 1 rfl rfl ?_
  refine h_get C O1 3 kd_9 (by decide) wd_76 dX1_become_102 fr_9_3 ?_
  refine h_iconst C dX1_become_105 ?_
  refine h_aload_n C dX1_become_106 0 rfl rfl ?_
  refine h_get C O1 3 kd_3 (by decide) wd_76 dX1_become_107 fr_3_3 ?_
  refine h_iconst C dX1_become_110 ?_
  refine h_bipush C dX1_become_111 (by decide) ?_
  refine h_copyI C wd_534 wd_536 wd_535 wd_16 dX1_become_113 kd_13 kd_7 0 0 20 rfl rfl rfl (by rw [ln_13]; decide) (by rw [ln_7]; decide) (Nat.le_of_ble_eq_true rfl) (Nat.le_of_ble_eq_true rfl) ?_
  refine h_aload_n C dX1_become_116 1 rfl rfl ?_
  refine h_get C O1 4 kd_9 (by decide) wd_79 dX1_become_117 fr_9_4 ?_
  refine h_iconst C dX1_become_120 ?_
  refine h_aload_n C dX1_become_121 0 rfl rfl ?_
  refine h_get C O1 4 kd_3 (by decide) wd_79 dX1_become_122 fr_3_4 ?_
  refine h_iconst C dX1_become_125 ?_
  refine h_bipush C dX1_become_126 (by decide) ?_
  refine h_copyI C wd_534 wd_536 wd_535 wd_16 dX1_become_128 kd_14 kd_8 0 0 20 rfl rfl rfl (by rw [ln_14]; decide) (by rw [ln_8]; decide) (Nat.le_of_ble_eq_true rfl) (Nat.le_of_ble_eq_true rfl) ?_
  refine h_return C hr hk dX1_become_131 ?_
  exact ⟨rfl, (fun j hj0 hj1 hj2 hj3 hj4 hj5 => ((hpwr_ne hj5).trans ((hpwr_ne hj4).trans ((hpwr_ne hj3).trans ((hpwr_ne hj2).trans ((hpwr_ne hj1).trans ((hpw_ne hj0).trans ((hpw_ne hj0).trans ((hpw_ne hj0).trans ((hpw_ne hj0).trans ((hpw_ne hj0).trans ((hpw_ne hj0).trans ((hpw_ne hj0).trans rfl))))))))))))), ((congrFun (hpwr_ne (by decide)) _).trans ((congrFun (hpwr_ne (by decide)) _).trans ((congrFun (hpwr_ne (by decide)) _).trans ((congrFun (hpwr_ne (by decide)) _).trans ((congrFun (hpwr_ne (by decide)) _).trans ((hpw_ni (by decide)).trans ((hpw_ni (by decide)).trans ((hpw_ni (by decide)).trans hpw_eq))))))))⟩
abbrev rX1_become_169 : Room := { frames := 1, cells := 0, slots := 0, locals := 60 }
abbrev pX1_become_169 (z : Nat) (σ : hpMem) : Option Value → hpMem → Prop := fun r τ => r = none ∧ (∀ j : Nat, j ≠ 169 → j ≠ 170 → j ≠ 171 → j ≠ 172 → j ≠ 173 → j ≠ 174 → τ j = σ j) ∧ τ 169 8 = 0
set_option maxHeartbeats 4000000 in
set_option maxRecDepth 20000 in
theorem tX1_become_169 (l : Launch) (D : va_G) (cy : Nat → ClassId) (z : Nat) (σ : hpMem) (h_3_8 : σ 3 8 = 0) : hpM l D cy z yX1_become cX1_become 2 none rX1_become_169 [.ref (z + 169), .ref (z + 3)] σ (pX1_become_169 z σ) := by
  refine hp_met rfl (Nat.le_of_ble_eq_true rfl) (fun p e s m below meth c C hr hk => ?_)
  refine h_aload_n C dX1_become_0 0 rfl rfl ?_
  refine h_aload_n C dX1_become_1 1 rfl rfl ?_
  refine h_get C O1 5 kd_3 (by decide) wd_82 dX1_become_2 (fi_3_5 rfl) ?_
  refine hp_anyI (fun r1 hr1 => ?_)
  obtain ⟨hr1a, hr1b⟩ := hr1
  refine h_put C O1 5 kd_169 (by decide) rfl wd_82 dX1_become_5 rfl rfl (fi_169_5 hpu_at) ?_
  refine h_aload_n C dX1_become_8 0 rfl rfl ?_
  refine h_aload_n C dX1_become_9 1 rfl rfl ?_
  refine h_get C O1 6 kd_3 (by decide) wd_87 dX1_become_10 (fi_3_6 rfl) ?_
  refine hp_anyI (fun r2 hr2 => ?_)
  obtain ⟨hr2a, hr2b⟩ := hr2
  refine h_put C O1 6 kd_169 (by decide) rfl wd_87 dX1_become_13 rfl rfl (fi_169_6 hpu_at) ?_
  refine h_aload_n C dX1_become_16 0 rfl rfl ?_
  refine h_aload_n C dX1_become_17 1 rfl rfl ?_
  refine h_get C O1 7 kd_3 (by decide) wd_90 dX1_become_18 (fi_3_7 rfl) ?_
  refine hp_anyI (fun r3 hr3 => ?_)
  obtain ⟨hr3a, hr3b⟩ := hr3
  refine h_put C O1 7 kd_169 (by decide) rfl wd_90 dX1_become_21 rfl rfl (fi_169_7 hpu_at) ?_
  refine h_aload_n C dX1_become_24 0 rfl rfl ?_
  refine h_aload_n C dX1_become_25 1 rfl rfl ?_
  refine h_get C O1 8 kd_3 (by decide) wd_93 dX1_become_26 (fi_3_8 ((hpw_nk (by decide)).trans ((hpw_nk (by decide)).trans ((hpw_nk (by decide)).trans h_3_8)))) ?_
  refine h_put C O1 8 kd_169 (by decide) rfl wd_93 dX1_become_29 rfl rfl (fi_169_8 hpu_at) ?_
  refine h_aload_n C dX1_become_32 0 rfl rfl ?_
  refine h_aload_n C dX1_become_33 1 rfl rfl ?_
  refine h_get C O1 9 kd_3 (by decide) wd_96 dX1_become_34 (fi_3_9 rfl) ?_
  refine hp_anyI (fun r4 hr4 => ?_)
  obtain ⟨hr4a, hr4b⟩ := hr4
  refine h_put C O1 9 kd_169 (by decide) rfl wd_96 dX1_become_37 rfl rfl (fi_169_9 hpu_at) ?_
  refine h_aload_n C dX1_become_40 0 rfl rfl ?_
  refine h_aload_n C dX1_become_41 1 rfl rfl ?_
  refine h_get C O1 10 kd_3 (by decide) wd_100 dX1_become_42 (fi_3_10 rfl) ?_
  refine hp_anyI (fun r5 hr5 => ?_)
  obtain ⟨hr5a, hr5b⟩ := hr5
  refine h_put C O1 10 kd_169 (by decide) rfl wd_100 dX1_become_45 rfl rfl (fi_169_10 hpu_at) ?_
  refine h_aload_n C dX1_become_48 0 rfl rfl ?_
  refine h_aload_n C dX1_become_49 1 rfl rfl ?_
  refine h_get C O1 11 kd_3 (by decide) wd_104 dX1_become_50 (fi_3_11 rfl) ?_
  refine hp_anyI (fun r6 hr6 => ?_)
  obtain ⟨hr6a, hr6b⟩ := hr6
  refine h_put C O1 11 kd_169 (by decide) rfl wd_104 dX1_become_53 rfl rfl (fi_169_11 hpu_at) ?_
  refine h_aload_n C dX1_become_56 1 rfl rfl ?_
  refine h_get C O1 0 kd_3 (by decide) wd_64 dX1_become_57 fr_3_0 ?_
  refine h_iconst C dX1_become_60 ?_
  refine h_aload_n C dX1_become_61 0 rfl rfl ?_
  refine h_get C O1 0 kd_169 (by decide) wd_64 dX1_become_62 fr_169_0 ?_
  refine h_iconst C dX1_become_65 ?_
  refine h_bipush C dX1_become_66 (by decide) ?_
  refine h_copyI C wd_534 wd_536 wd_535 wd_16 dX1_become_68 kd_4 kd_170 0 0 8 rfl rfl rfl (by rw [ln_4]; decide) (by rw [ln_170]; decide) (Nat.le_of_ble_eq_true rfl) (Nat.le_of_ble_eq_true rfl) ?_
  refine h_aload_n C dX1_become_71 1 rfl rfl ?_
  refine h_get C O1 1 kd_3 (by decide) wd_68 dX1_become_72 fr_3_1 ?_
  refine h_iconst C dX1_become_75 ?_
  refine h_aload_n C dX1_become_76 0 rfl rfl ?_
  refine h_get C O1 1 kd_169 (by decide) wd_68 dX1_become_77 fr_169_1 ?_
  refine h_iconst C dX1_become_80 ?_
  refine h_bipush C dX1_become_81 (by decide) ?_
  refine h_copyI C wd_534 wd_536 wd_535 wd_16 dX1_become_83 kd_5 kd_171 0 0 6 rfl rfl rfl (by rw [ln_5]; decide) (by rw [ln_171]; decide) (Nat.le_of_ble_eq_true rfl) (Nat.le_of_ble_eq_true rfl) ?_
  refine h_aload_n C dX1_become_86 1 rfl rfl ?_
  refine h_get C O1 2 kd_3 (by decide) wd_72 dX1_become_87 fr_3_2 ?_
  refine h_iconst C dX1_become_90 ?_
  refine h_aload_n C dX1_become_91 0 rfl rfl ?_
  refine h_get C O1 2 kd_169 (by decide) wd_72 dX1_become_92 fr_169_2 ?_
  refine h_iconst C dX1_become_95 ?_
  refine h_bipush C dX1_become_96 (by decide) ?_
  refine h_copyI C wd_534 wd_536 wd_535 wd_16 dX1_become_98 kd_6 kd_172 0 0 6 rfl rfl rfl (by rw [ln_6]; decide) (by rw [ln_172]; decide) (Nat.le_of_ble_eq_true rfl) (Nat.le_of_ble_eq_true rfl) ?_
  refine h_aload_n C dX1_become_101 1 rfl rfl ?_
  refine h_get C O1 3 kd_3 (by decide) wd_76 dX1_become_102 fr_3_3 ?_
  refine h_iconst C dX1_become_105 ?_
  refine h_aload_n C dX1_become_106 0 rfl rfl ?_
  refine h_get C O1 3 kd_169 (by decide) wd_76 dX1_become_107 fr_169_3 ?_
  refine h_iconst C dX1_become_110 ?_
  refine h_bipush C dX1_become_111 (by decide) ?_
  refine h_copyI C wd_534 wd_536 wd_535 wd_16 dX1_become_113 kd_7 kd_173 0 0 20 rfl rfl rfl (by rw [ln_7]; decide) (by rw [ln_173]; decide) (Nat.le_of_ble_eq_true rfl) (Nat.le_of_ble_eq_true rfl) ?_
  refine h_aload_n C dX1_become_116 1 rfl rfl ?_
  refine h_get C O1 4 kd_3 (by decide) wd_79 dX1_become_117 fr_3_4 ?_
  refine h_iconst C dX1_become_120 ?_
  refine h_aload_n C dX1_become_121 0 rfl rfl ?_
  refine h_get C O1 4 kd_169 (by decide) wd_79 dX1_become_122 fr_169_4 ?_
  refine h_iconst C dX1_become_125 ?_
  refine h_bipush C dX1_become_126 (by decide) ?_
  refine h_copyI C wd_534 wd_536 wd_535 wd_16 dX1_become_128 kd_8 kd_174 0 0 20 rfl rfl rfl (by rw [ln_8]; decide) (by rw [ln_174]; decide) (Nat.le_of_ble_eq_true rfl) (Nat.le_of_ble_eq_true rfl) ?_
  refine h_return C hr hk dX1_become_131 ?_
  exact ⟨rfl, (fun j hj0 hj1 hj2 hj3 hj4 hj5 => ((hpwr_ne hj5).trans ((hpwr_ne hj4).trans ((hpwr_ne hj3).trans ((hpwr_ne hj2).trans ((hpwr_ne hj1).trans ((hpw_ne hj0).trans ((hpw_ne hj0).trans ((hpw_ne hj0).trans ((hpw_ne hj0).trans ((hpw_ne hj0).trans ((hpw_ne hj0).trans ((hpw_ne hj0).trans rfl))))))))))))), ((congrFun (hpwr_ne (by decide)) _).trans ((congrFun (hpwr_ne (by decide)) _).trans ((congrFun (hpwr_ne (by decide)) _).trans ((congrFun (hpwr_ne (by decide)) _).trans ((congrFun (hpwr_ne (by decide)) _).trans ((hpw_ni (by decide)).trans ((hpw_ni (by decide)).trans ((hpw_ni (by decide)).trans hpw_eq))))))))⟩
abbrev rX1_become_175 : Room := { frames := 1, cells := 0, slots := 0, locals := 60 }
abbrev pX1_become_175 (z : Nat) (σ : hpMem) : Option Value → hpMem → Prop := fun r τ => r = none ∧ (∀ j : Nat, j ≠ 175 → j ≠ 176 → j ≠ 177 → j ≠ 178 → j ≠ 179 → j ≠ 180 → τ j = σ j) ∧ τ 175 8 = 0
set_option maxHeartbeats 4000000 in
set_option maxRecDepth 20000 in
theorem tX1_become_175 (l : Launch) (D : va_G) (cy : Nat → ClassId) (z : Nat) (σ : hpMem) (h_3_8 : σ 3 8 = 0) : hpM l D cy z yX1_become cX1_become 2 none rX1_become_175 [.ref (z + 175), .ref (z + 3)] σ (pX1_become_175 z σ) := by
  refine hp_met rfl (Nat.le_of_ble_eq_true rfl) (fun p e s m below meth c C hr hk => ?_)
  refine h_aload_n C dX1_become_0 0 rfl rfl ?_
  refine h_aload_n C dX1_become_1 1 rfl rfl ?_
  refine h_get C O1 5 kd_3 (by decide) wd_82 dX1_become_2 (fi_3_5 rfl) ?_
  refine hp_anyI (fun r1 hr1 => ?_)
  obtain ⟨hr1a, hr1b⟩ := hr1
  refine h_put C O1 5 kd_175 (by decide) rfl wd_82 dX1_become_5 rfl rfl (fi_175_5 hpu_at) ?_
  refine h_aload_n C dX1_become_8 0 rfl rfl ?_
  refine h_aload_n C dX1_become_9 1 rfl rfl ?_
  refine h_get C O1 6 kd_3 (by decide) wd_87 dX1_become_10 (fi_3_6 rfl) ?_
  refine hp_anyI (fun r2 hr2 => ?_)
  obtain ⟨hr2a, hr2b⟩ := hr2
  refine h_put C O1 6 kd_175 (by decide) rfl wd_87 dX1_become_13 rfl rfl (fi_175_6 hpu_at) ?_
  refine h_aload_n C dX1_become_16 0 rfl rfl ?_
  refine h_aload_n C dX1_become_17 1 rfl rfl ?_
  refine h_get C O1 7 kd_3 (by decide) wd_90 dX1_become_18 (fi_3_7 rfl) ?_
  refine hp_anyI (fun r3 hr3 => ?_)
  obtain ⟨hr3a, hr3b⟩ := hr3
  refine h_put C O1 7 kd_175 (by decide) rfl wd_90 dX1_become_21 rfl rfl (fi_175_7 hpu_at) ?_
  refine h_aload_n C dX1_become_24 0 rfl rfl ?_
  refine h_aload_n C dX1_become_25 1 rfl rfl ?_
  refine h_get C O1 8 kd_3 (by decide) wd_93 dX1_become_26 (fi_3_8 ((hpw_nk (by decide)).trans ((hpw_nk (by decide)).trans ((hpw_nk (by decide)).trans h_3_8)))) ?_
  refine h_put C O1 8 kd_175 (by decide) rfl wd_93 dX1_become_29 rfl rfl (fi_175_8 hpu_at) ?_
  refine h_aload_n C dX1_become_32 0 rfl rfl ?_
  refine h_aload_n C dX1_become_33 1 rfl rfl ?_
  refine h_get C O1 9 kd_3 (by decide) wd_96 dX1_become_34 (fi_3_9 rfl) ?_
  refine hp_anyI (fun r4 hr4 => ?_)
  obtain ⟨hr4a, hr4b⟩ := hr4
  refine h_put C O1 9 kd_175 (by decide) rfl wd_96 dX1_become_37 rfl rfl (fi_175_9 hpu_at) ?_
  refine h_aload_n C dX1_become_40 0 rfl rfl ?_
  refine h_aload_n C dX1_become_41 1 rfl rfl ?_
  refine h_get C O1 10 kd_3 (by decide) wd_100 dX1_become_42 (fi_3_10 rfl) ?_
  refine hp_anyI (fun r5 hr5 => ?_)
  obtain ⟨hr5a, hr5b⟩ := hr5
  refine h_put C O1 10 kd_175 (by decide) rfl wd_100 dX1_become_45 rfl rfl (fi_175_10 hpu_at) ?_
  refine h_aload_n C dX1_become_48 0 rfl rfl ?_
  refine h_aload_n C dX1_become_49 1 rfl rfl ?_
  refine h_get C O1 11 kd_3 (by decide) wd_104 dX1_become_50 (fi_3_11 rfl) ?_
  refine hp_anyI (fun r6 hr6 => ?_)
  obtain ⟨hr6a, hr6b⟩ := hr6
  refine h_put C O1 11 kd_175 (by decide) rfl wd_104 dX1_become_53 rfl rfl (fi_175_11 hpu_at) ?_
  refine h_aload_n C dX1_become_56 1 rfl rfl ?_
  refine h_get C O1 0 kd_3 (by decide) wd_64 dX1_become_57 fr_3_0 ?_
  refine h_iconst C dX1_become_60 ?_
  refine h_aload_n C dX1_become_61 0 rfl rfl ?_
  refine h_get C O1 0 kd_175 (by decide) wd_64 dX1_become_62 fr_175_0 ?_
  refine h_iconst C dX1_become_65 ?_
  refine h_bipush C dX1_become_66 (by decide) ?_
  refine h_copyI C wd_534 wd_536 wd_535 wd_16 dX1_become_68 kd_4 kd_176 0 0 8 rfl rfl rfl (by rw [ln_4]; decide) (by rw [ln_176]; decide) (Nat.le_of_ble_eq_true rfl) (Nat.le_of_ble_eq_true rfl) ?_
  refine h_aload_n C dX1_become_71 1 rfl rfl ?_
  refine h_get C O1 1 kd_3 (by decide) wd_68 dX1_become_72 fr_3_1 ?_
  refine h_iconst C dX1_become_75 ?_
  refine h_aload_n C dX1_become_76 0 rfl rfl ?_
  refine h_get C O1 1 kd_175 (by decide) wd_68 dX1_become_77 fr_175_1 ?_
  refine h_iconst C dX1_become_80 ?_
  refine h_bipush C dX1_become_81 (by decide) ?_
  refine h_copyI C wd_534 wd_536 wd_535 wd_16 dX1_become_83 kd_5 kd_177 0 0 6 rfl rfl rfl (by rw [ln_5]; decide) (by rw [ln_177]; decide) (Nat.le_of_ble_eq_true rfl) (Nat.le_of_ble_eq_true rfl) ?_
  refine h_aload_n C dX1_become_86 1 rfl rfl ?_
  refine h_get C O1 2 kd_3 (by decide) wd_72 dX1_become_87 fr_3_2 ?_
  refine h_iconst C dX1_become_90 ?_
  refine h_aload_n C dX1_become_91 0 rfl rfl ?_
  refine h_get C O1 2 kd_175 (by decide) wd_72 dX1_become_92 fr_175_2 ?_
  refine h_iconst C dX1_become_95 ?_
  refine h_bipush C dX1_become_96 (by decide) ?_
  refine h_copyI C wd_534 wd_536 wd_535 wd_16 dX1_become_98 kd_6 kd_178 0 0 6 rfl rfl rfl (by rw [ln_6]; decide) (by rw [ln_178]; decide) (Nat.le_of_ble_eq_true rfl) (Nat.le_of_ble_eq_true rfl) ?_
  refine h_aload_n C dX1_become_101 1 rfl rfl ?_
  refine h_get C O1 3 kd_3 (by decide) wd_76 dX1_become_102 fr_3_3 ?_
  refine h_iconst C dX1_become_105 ?_
  refine h_aload_n C dX1_become_106 0 rfl rfl ?_
  refine h_get C O1 3 kd_175 (by decide) wd_76 dX1_become_107 fr_175_3 ?_
  refine h_iconst C dX1_become_110 ?_
  refine h_bipush C dX1_become_111 (by decide) ?_
  refine h_copyI C wd_534 wd_536 wd_535 wd_16 dX1_become_113 kd_7 kd_179 0 0 20 rfl rfl rfl (by rw [ln_7]; decide) (by rw [ln_179]; decide) (Nat.le_of_ble_eq_true rfl) (Nat.le_of_ble_eq_true rfl) ?_
  refine h_aload_n C dX1_become_116 1 rfl rfl ?_
  refine h_get C O1 4 kd_3 (by decide) wd_79 dX1_become_117 fr_3_4 ?_
  refine h_iconst C dX1_become_120 ?_
  refine h_aload_n C dX1_become_121 0 rfl rfl ?_
  refine h_get C O1 4 kd_175 (by decide) wd_79 dX1_become_122 fr_175_4 ?_
  refine h_iconst C dX1_become_125 ?_
  refine h_bipush C dX1_become_126 (by decide) ?_
  refine h_copyI C wd_534 wd_536 wd_535 wd_16 dX1_become_128 kd_8 kd_180 0 0 20 rfl rfl rfl (by rw [ln_8]; decide) (by rw [ln_180]; decide) (Nat.le_of_ble_eq_true rfl) (Nat.le_of_ble_eq_true rfl) ?_
  refine h_return C hr hk dX1_become_131 ?_
  exact ⟨rfl, (fun j hj0 hj1 hj2 hj3 hj4 hj5 => ((hpwr_ne hj5).trans ((hpwr_ne hj4).trans ((hpwr_ne hj3).trans ((hpwr_ne hj2).trans ((hpwr_ne hj1).trans ((hpw_ne hj0).trans ((hpw_ne hj0).trans ((hpw_ne hj0).trans ((hpw_ne hj0).trans ((hpw_ne hj0).trans ((hpw_ne hj0).trans ((hpw_ne hj0).trans rfl))))))))))))), ((congrFun (hpwr_ne (by decide)) _).trans ((congrFun (hpwr_ne (by decide)) _).trans ((congrFun (hpwr_ne (by decide)) _).trans ((congrFun (hpwr_ne (by decide)) _).trans ((congrFun (hpwr_ne (by decide)) _).trans ((hpw_ni (by decide)).trans ((hpw_ni (by decide)).trans ((hpw_ni (by decide)).trans hpw_eq))))))))⟩
abbrev rX1_become_181 : Room := { frames := 1, cells := 0, slots := 0, locals := 60 }
abbrev pX1_become_181 (z : Nat) (σ : hpMem) : Option Value → hpMem → Prop := fun r τ => r = none ∧ (∀ j : Nat, j ≠ 181 → j ≠ 182 → j ≠ 183 → j ≠ 184 → j ≠ 185 → j ≠ 186 → τ j = σ j) ∧ τ 181 8 = 0
set_option maxHeartbeats 4000000 in
set_option maxRecDepth 20000 in
theorem tX1_become_181 (l : Launch) (D : va_G) (cy : Nat → ClassId) (z : Nat) (σ : hpMem) (h_3_8 : σ 3 8 = 0) : hpM l D cy z yX1_become cX1_become 2 none rX1_become_181 [.ref (z + 181), .ref (z + 3)] σ (pX1_become_181 z σ) := by
  refine hp_met rfl (Nat.le_of_ble_eq_true rfl) (fun p e s m below meth c C hr hk => ?_)
  refine h_aload_n C dX1_become_0 0 rfl rfl ?_
  refine h_aload_n C dX1_become_1 1 rfl rfl ?_
  refine h_get C O1 5 kd_3 (by decide) wd_82 dX1_become_2 (fi_3_5 rfl) ?_
  refine hp_anyI (fun r1 hr1 => ?_)
  obtain ⟨hr1a, hr1b⟩ := hr1
  refine h_put C O1 5 kd_181 (by decide) rfl wd_82 dX1_become_5 rfl rfl (fi_181_5 hpu_at) ?_
  refine h_aload_n C dX1_become_8 0 rfl rfl ?_
  refine h_aload_n C dX1_become_9 1 rfl rfl ?_
  refine h_get C O1 6 kd_3 (by decide) wd_87 dX1_become_10 (fi_3_6 rfl) ?_
  refine hp_anyI (fun r2 hr2 => ?_)
  obtain ⟨hr2a, hr2b⟩ := hr2
  refine h_put C O1 6 kd_181 (by decide) rfl wd_87 dX1_become_13 rfl rfl (fi_181_6 hpu_at) ?_
  refine h_aload_n C dX1_become_16 0 rfl rfl ?_
  refine h_aload_n C dX1_become_17 1 rfl rfl ?_
  refine h_get C O1 7 kd_3 (by decide) wd_90 dX1_become_18 (fi_3_7 rfl) ?_
  refine hp_anyI (fun r3 hr3 => ?_)
  obtain ⟨hr3a, hr3b⟩ := hr3
  refine h_put C O1 7 kd_181 (by decide) rfl wd_90 dX1_become_21 rfl rfl (fi_181_7 hpu_at) ?_
  refine h_aload_n C dX1_become_24 0 rfl rfl ?_
  refine h_aload_n C dX1_become_25 1 rfl rfl ?_
  refine h_get C O1 8 kd_3 (by decide) wd_93 dX1_become_26 (fi_3_8 ((hpw_nk (by decide)).trans ((hpw_nk (by decide)).trans ((hpw_nk (by decide)).trans h_3_8)))) ?_
  refine h_put C O1 8 kd_181 (by decide) rfl wd_93 dX1_become_29 rfl rfl (fi_181_8 hpu_at) ?_
  refine h_aload_n C dX1_become_32 0 rfl rfl ?_
  refine h_aload_n C dX1_become_33 1 rfl rfl ?_
  refine h_get C O1 9 kd_3 (by decide) wd_96 dX1_become_34 (fi_3_9 rfl) ?_
  refine hp_anyI (fun r4 hr4 => ?_)
  obtain ⟨hr4a, hr4b⟩ := hr4
  refine h_put C O1 9 kd_181 (by decide) rfl wd_96 dX1_become_37 rfl rfl (fi_181_9 hpu_at) ?_
  refine h_aload_n C dX1_become_40 0 rfl rfl ?_
  refine h_aload_n C dX1_become_41 1 rfl rfl ?_
  refine h_get C O1 10 kd_3 (by decide) wd_100 dX1_become_42 (fi_3_10 rfl) ?_
  refine hp_anyI (fun r5 hr5 => ?_)
  obtain ⟨hr5a, hr5b⟩ := hr5
  refine h_put C O1 10 kd_181 (by decide) rfl wd_100 dX1_become_45 rfl rfl (fi_181_10 hpu_at) ?_
  refine h_aload_n C dX1_become_48 0 rfl rfl ?_
  refine h_aload_n C dX1_become_49 1 rfl rfl ?_
  refine h_get C O1 11 kd_3 (by decide) wd_104 dX1_become_50 (fi_3_11 rfl) ?_
  refine hp_anyI (fun r6 hr6 => ?_)
  obtain ⟨hr6a, hr6b⟩ := hr6
  refine h_put C O1 11 kd_181 (by decide) rfl wd_104 dX1_become_53 rfl rfl (fi_181_11 hpu_at) ?_
  refine h_aload_n C dX1_become_56 1 rfl rfl ?_
  refine h_get C O1 0 kd_3 (by decide) wd_64 dX1_become_57 fr_3_0 ?_
  refine h_iconst C dX1_become_60 ?_
  refine h_aload_n C dX1_become_61 0 rfl rfl ?_
  refine h_get C O1 0 kd_181 (by decide) wd_64 dX1_become_62 fr_181_0 ?_
  refine h_iconst C dX1_become_65 ?_
  refine h_bipush C dX1_become_66 (by decide) ?_
  refine h_copyI C wd_534 wd_536 wd_535 wd_16 dX1_become_68 kd_4 kd_182 0 0 8 rfl rfl rfl (by rw [ln_4]; decide) (by rw [ln_182]; decide) (Nat.le_of_ble_eq_true rfl) (Nat.le_of_ble_eq_true rfl) ?_
  refine h_aload_n C dX1_become_71 1 rfl rfl ?_
  refine h_get C O1 1 kd_3 (by decide) wd_68 dX1_become_72 fr_3_1 ?_
  refine h_iconst C dX1_become_75 ?_
  refine h_aload_n C dX1_become_76 0 rfl rfl ?_
  refine h_get C O1 1 kd_181 (by decide) wd_68 dX1_become_77 fr_181_1 ?_
  refine h_iconst C dX1_become_80 ?_
  refine h_bipush C dX1_become_81 (by decide) ?_
  refine h_copyI C wd_534 wd_536 wd_535 wd_16 dX1_become_83 kd_5 kd_183 0 0 6 rfl rfl rfl (by rw [ln_5]; decide) (by rw [ln_183]; decide) (Nat.le_of_ble_eq_true rfl) (Nat.le_of_ble_eq_true rfl) ?_
  refine h_aload_n C dX1_become_86 1 rfl rfl ?_
  refine h_get C O1 2 kd_3 (by decide) wd_72 dX1_become_87 fr_3_2 ?_
  refine h_iconst C dX1_become_90 ?_
  refine h_aload_n C dX1_become_91 0 rfl rfl ?_
  refine h_get C O1 2 kd_181 (by decide) wd_72 dX1_become_92 fr_181_2 ?_
  refine h_iconst C dX1_become_95 ?_
  refine h_bipush C dX1_become_96 (by decide) ?_
  refine h_copyI C wd_534 wd_536 wd_535 wd_16 dX1_become_98 kd_6 kd_184 0 0 6 rfl rfl rfl (by rw [ln_6]; decide) (by rw [ln_184]; decide) (Nat.le_of_ble_eq_true rfl) (Nat.le_of_ble_eq_true rfl) ?_
  refine h_aload_n C dX1_become_101 1 rfl rfl ?_
  refine h_get C O1 3 kd_3 (by decide) wd_76 dX1_become_102 fr_3_3 ?_
  refine h_iconst C dX1_become_105 ?_
  refine h_aload_n C dX1_become_106 0 rfl rfl ?_
  refine h_get C O1 3 kd_181 (by decide) wd_76 dX1_become_107 fr_181_3 ?_
  refine h_iconst C dX1_become_110 ?_
  refine h_bipush C dX1_become_111 (by decide) ?_
  refine h_copyI C wd_534 wd_536 wd_535 wd_16 dX1_become_113 kd_7 kd_185 0 0 20 rfl rfl rfl (by rw [ln_7]; decide) (by rw [ln_185]; decide) (Nat.le_of_ble_eq_true rfl) (Nat.le_of_ble_eq_true rfl) ?_
  refine h_aload_n C dX1_become_116 1 rfl rfl ?_
  refine h_get C O1 4 kd_3 (by decide) wd_79 dX1_become_117 fr_3_4 ?_
  refine h_iconst C dX1_become_120 ?_
  refine h_aload_n C dX1_become_121 0 rfl rfl ?_
  refine h_get C O1 4 kd_181 (by decide) wd_79 dX1_become_122 fr_181_4 ?_
  refine h_iconst C dX1_become_125 ?_
  refine h_bipush C dX1_become_126 (by decide) ?_
  refine h_copyI C wd_534 wd_536 wd_535 wd_16 dX1_become_128 kd_8 kd_186 0 0 20 rfl rfl rfl (by rw [ln_8]; decide) (by rw [ln_186]; decide) (Nat.le_of_ble_eq_true rfl) (Nat.le_of_ble_eq_true rfl) ?_
  refine h_return C hr hk dX1_become_131 ?_
  exact ⟨rfl, (fun j hj0 hj1 hj2 hj3 hj4 hj5 => ((hpwr_ne hj5).trans ((hpwr_ne hj4).trans ((hpwr_ne hj3).trans ((hpwr_ne hj2).trans ((hpwr_ne hj1).trans ((hpw_ne hj0).trans ((hpw_ne hj0).trans ((hpw_ne hj0).trans ((hpw_ne hj0).trans ((hpw_ne hj0).trans ((hpw_ne hj0).trans ((hpw_ne hj0).trans rfl))))))))))))), ((congrFun (hpwr_ne (by decide)) _).trans ((congrFun (hpwr_ne (by decide)) _).trans ((congrFun (hpwr_ne (by decide)) _).trans ((congrFun (hpwr_ne (by decide)) _).trans ((congrFun (hpwr_ne (by decide)) _).trans ((hpw_ni (by decide)).trans ((hpw_ni (by decide)).trans ((hpw_ni (by decide)).trans hpw_eq))))))))⟩
abbrev rX8_moor : Room := { frames := 2, cells := 0, slots := 0, locals := 81 }
abbrev pX8_moor (z : Nat) (σ : hpMem) : Option Value → hpMem → Prop := fun r τ => r = some (.int (hpI 0)) ∧ (∀ j : Nat, j ≠ 0 → j ≠ 1 → j ≠ 3 → j ≠ 4 → j ≠ 5 → j ≠ 6 → j ≠ 7 → j ≠ 8 → j ≠ 9 → τ j = σ j)
set_option maxHeartbeats 4000000 in
set_option maxRecDepth 20000 in
theorem tX8_moor (l : Launch) (D : va_G) (cy : Nat → ClassId) (z : Nat) (σ : hpMem) (h_1_1 : σ 1 1 = 0) : hpM l D cy z yX8_moor cX8_moor 1 (some .int) rX8_moor [.ref (z + 0)] σ (pX8_moor z σ) := by
  refine hp_met rfl (Nat.le_of_ble_eq_true rfl) (fun p e s m below meth c C hr hk => ?_)
  refine h_aload_n C dX8_moor_0 0 rfl rfl ?_
  refine h_get C O8 0 kd_0 (by decide) wd_349 dX8_moor_1 fr_0_0 ?_
  refine h_aload_n C dX8_moor_4 0 rfl rfl ?_
  refine h_get C O8 2 kd_0 (by decide) wd_351 dX8_moor_5 fr_0_2 ?_
  refine h_callVN (As := [.ref (z + 9)]) (rest := []) C yyX7_readInto nw_414 (tX7_readInto l D cy z _ h_1_1) kd_1 rfl rfl ⟨rfl, rfl, Nat.le_of_ble_eq_true rfl, Nat.le_of_ble_eq_true rfl⟩ ⟨Nat.le_of_ble_eq_true rfl, Nat.le_of_ble_eq_true rfl⟩ (Nat.le_of_ble_eq_true rfl) dX8_moor_8 (fun r1 τ1 hp1 => ?_)
  obtain ⟨rfl, hF1, hc1_0⟩ := hp1
  show hpV _ _ _ _ _ _ _ _ _ _ _ _ _ _ _ _ _ _ _ _ _ (_ :: _)
  refine h_if_ne (tgt := 17) C dX8_moor_11 (by decide) ⟨by decide, by decide⟩ (fun h2 => ?_) (fun h2 => ?_)
  · refine h_aload_n C dX8_moor_17 0 rfl rfl ?_
    refine h_get C O8 0 kd_0 (by decide) wd_349 dX8_moor_18 fr_0_0 ?_
    refine h_iconst C dX8_moor_21 ?_
    refine h_putN C O7 1 kd_1 (by decide) rfl nw_33 dX8_moor_22 rfl rfl (fi_1_1 hpu_at) ?_
    refine h_aload_n C dX8_moor_25 0 rfl rfl ?_
    refine h_get C O8 1 kd_0 (by decide) wd_350 dX8_moor_26 fr_0_1 ?_
    refine h_aload_n C dX8_moor_29 0 rfl rfl ?_
    refine h_get C O8 2 kd_0 (by decide) wd_351 dX8_moor_30 fr_0_2 ?_
    refine h_callVN (As := [.ref (z + 9)]) (rest := []) C yyX1_become nw_530 (tX1_become_3 l D cy z _ ((hpw_nk (by decide)).trans hc1_0)) kd_3 rfl rfl ⟨rfl, rfl, Nat.le_of_ble_eq_true rfl, Nat.le_of_ble_eq_true rfl⟩ ⟨Nat.le_of_ble_eq_true rfl, Nat.le_of_ble_eq_true rfl⟩ (Nat.le_of_ble_eq_true rfl) dX8_moor_33 (fun r3 τ3 hp3 => ?_)
    obtain ⟨rfl, hF3, hc3_0⟩ := hp3
    show hpV _ _ _ _ _ _ _ _ _ _ _ _ _ _ _ _ _ _ _ _ _ []
    refine h_aload_n C dX8_moor_36 0 rfl rfl ?_
    refine h_callV (As := []) (rest := []) C yyX8_forget wd_537 (tX8_forget l D cy z _) kd_0 rfl rfl ⟨rfl, rfl, Nat.le_of_ble_eq_true rfl, Nat.le_of_ble_eq_true rfl⟩ ⟨Nat.le_of_ble_eq_true rfl, Nat.le_of_ble_eq_true rfl⟩ (Nat.le_of_ble_eq_true rfl) dX8_moor_37 (fun r4 τ4 hp4 => ?_)
    obtain ⟨rfl, hF4⟩ := hp4
    show hpV _ _ _ _ _ _ _ _ _ _ _ _ _ _ _ _ _ _ _ _ _ []
    refine h_aload_n C dX8_moor_40 0 rfl rfl ?_
    refine h_get C O8 1 kd_0 (by decide) wd_350 dX8_moor_41 fr_0_1 ?_
    refine h_getN C O1 8 kd_3 (by decide) nw_95 dX8_moor_44 (fi_3_8 ((congrFun (hF4 3 (by decide)) _).trans hc3_0)) ?_
    refine h_ireturn C hr hk dX8_moor_47 ?_
    exact ⟨rfl, (fun j hj0 hj1 hj2 hj3 hj4 hj5 hj6 hj7 hj8 => ((hF4 j hj0).trans ((hF3 j hj2 hj3 hj4 hj5 hj6 hj7).trans ((hpw_ne hj1).trans ((hF1 j hj1 hj8).trans rfl)))))⟩
  · exfalso; omega
abbrev rX8_fault : Room := { frames := 0, cells := 0, slots := 0, locals := 0 }
abbrev pX8_fault (z : Nat) (σ : hpMem) (n : Int) : Option Value → hpMem → Prop := fun r τ => (∃ x : Int, r = some (.int (hpI x)) ∧ hpR x ∧ ((n = 0 ∧ x = 0) ∨ (n ≠ 0 ∧ x = -1))) ∧ σ = τ
set_option maxHeartbeats 4000000 in
set_option maxRecDepth 20000 in
theorem tX8_fault (l : Launch) (D : va_G) (cy : Nat → ClassId) (z : Nat) (σ : hpMem) (n : Int) (hn : hpR n) (h_1_2 : σ 1 2 = 0) (h_1_3 : σ 1 3 = -1) : hpM l D cy z yX8_fault cX8_fault 2 (some .int) rX8_fault [.ref (z + 0), .int (hpI n)] σ (pX8_fault z σ n) := by
  obtain ⟨hn1, hn2⟩ := hn
  refine hp_met rfl (Nat.le_of_ble_eq_true rfl) (fun p e s m below meth c C hr hk => ?_)
  refine h_iload_n C dX8_fault_0 1 rfl rfl ?_
  refine h_if_ne (tgt := 12) C dX8_fault_1 (by decide) ⟨by omega, by omega⟩ (fun h1 => ?_) (fun h1 => ?_)
  · refine h_iload_n C dX8_fault_12 1 rfl rfl ?_
    refine h_iconst C dX8_fault_13 ?_
    refine h_icmp_ne (tgt := 27) C dX8_fault_14 (by decide) ⟨by omega, by omega⟩ ⟨by decide, by decide⟩ (fun h2 => ?_) (fun h2 => ?_)
    · refine h_iconst C dX8_fault_27 ?_
      refine h_ireturn C hr hk dX8_fault_28 ?_
      exact ⟨⟨_, rfl, ⟨by decide, by decide⟩, by omega⟩, rfl⟩
    · refine h_aload_n C dX8_fault_17 0 rfl rfl ?_
      refine h_get C O8 0 kd_0 (by decide) wd_349 dX8_fault_18 fr_0_0 ?_
      refine h_getN C O7 3 kd_1 (by decide) nw_38 dX8_fault_21 (fi_1_3 h_1_3) ?_
      refine h_goto (tgt := 28) C dX8_fault_24 (by decide) ?_
      refine h_ireturn C hr hk dX8_fault_28 ?_
      exact ⟨⟨_, rfl, ⟨by decide, by decide⟩, by omega⟩, rfl⟩
  · refine h_aload_n C dX8_fault_4 0 rfl rfl ?_
    refine h_get C O8 0 kd_0 (by decide) wd_349 dX8_fault_5 fr_0_0 ?_
    refine h_getN C O7 2 kd_1 (by decide) nw_36 dX8_fault_8 (fi_1_2 h_1_2) ?_
    refine h_ireturn C hr hk dX8_fault_11 ?_
    exact ⟨⟨_, rfl, ⟨by decide, by decide⟩, by omega⟩, rfl⟩
abbrev rX8_told : Room := { frames := 1, cells := 0, slots := 0, locals := 21 }
abbrev pX8_told (z : Nat) (σ : hpMem) (n : Int) : Option Value → hpMem → Prop := fun r τ => r = some (.int (hpI (-2))) ∧ σ = τ
set_option maxHeartbeats 4000000 in
set_option maxRecDepth 20000 in
theorem tX8_told (l : Launch) (D : va_G) (cy : Nat → ClassId) (z : Nat) (σ : hpMem) (n : Int) (hn : hpR n) (h_3_9 : σ 3 9 = 0) : hpM l D cy z yX8_told cX8_told 2 (some .int) rX8_told [.ref (z + 0), .int (hpI n)] σ (pX8_told z σ n) := by
  obtain ⟨hn1, hn2⟩ := hn
  refine hp_met rfl (Nat.le_of_ble_eq_true rfl) (fun p e s m below meth c C hr hk => ?_)
  refine h_aload_n C dX8_told_0 0 rfl rfl ?_
  refine h_iload_n C dX8_told_1 1 rfl rfl ?_
  refine h_callV (As := [.int (hpI n)]) (rest := []) C yyX8_isTold wd_549 (tX8_isTold l D cy z _ n ⟨by omega, by omega⟩ h_3_9) kd_0 rfl rfl ⟨rfl, rfl, Nat.le_of_ble_eq_true rfl, Nat.le_of_ble_eq_true rfl⟩ ⟨Nat.le_of_ble_eq_true rfl, Nat.le_of_ble_eq_true rfl⟩ (Nat.le_of_ble_eq_true rfl) dX8_told_2 (fun r1 τ1 hp1 => ?_)
  obtain ⟨rfl, rfl⟩ := hp1
  show hpV _ _ _ _ _ _ _ _ _ _ _ _ _ _ _ _ _ _ _ _ _ (_ :: _)
  refine h_if_eq (tgt := 20) C dX8_told_5 (by decide) ⟨by decide, by decide⟩ (fun h2 => ?_) (fun h2 => ?_)
  · refine h_bipush C dX8_told_20 (by decide) ?_
    refine h_ireturn C hr hk dX8_told_22 ?_
    exact ⟨rfl, rfl⟩
  · exfalso; omega
abbrev rX8_cart : Room := { frames := 1, cells := 0, slots := 0, locals := 21 }
abbrev pX8_cart (z : Nat) (σ : hpMem) (a : Int) (b : Int) : Option Value → hpMem → Prop := fun r τ => r = some (.int (hpI (-2))) ∧ σ = τ
set_option maxHeartbeats 4000000 in
set_option maxRecDepth 20000 in
theorem tX8_cart (l : Launch) (D : va_G) (cy : Nat → ClassId) (z : Nat) (σ : hpMem) (a : Int) (ha : hpR a) (b : Int) (hb : hpR b) (h_3_10 : σ 3 10 = 0) : hpM l D cy z yX8_cart cX8_cart 3 (some .int) rX8_cart [.ref (z + 0), .int (hpI a), .int (hpI b)] σ (pX8_cart z σ a b) := by
  obtain ⟨ha1, ha2⟩ := ha
  obtain ⟨hb1, hb2⟩ := hb
  refine hp_met rfl (Nat.le_of_ble_eq_true rfl) (fun p e s m below meth c C hr hk => ?_)
  refine h_aload_n C dX8_cart_0 0 rfl rfl ?_
  refine h_iload_n C dX8_cart_1 1 rfl rfl ?_
  refine h_callV (As := [.int (hpI a)]) (rest := []) C yyX8_isCart wd_557 (tX8_isCart l D cy z _ a ⟨by omega, by omega⟩ h_3_10) kd_0 rfl rfl ⟨rfl, rfl, Nat.le_of_ble_eq_true rfl, Nat.le_of_ble_eq_true rfl⟩ ⟨Nat.le_of_ble_eq_true rfl, Nat.le_of_ble_eq_true rfl⟩ (Nat.le_of_ble_eq_true rfl) dX8_cart_2 (fun r1 τ1 hp1 => ?_)
  obtain ⟨rfl, rfl⟩ := hp1
  show hpV _ _ _ _ _ _ _ _ _ _ _ _ _ _ _ _ _ _ _ _ _ (_ :: _)
  refine h_if_eq (tgt := 15) C dX8_cart_5 (by decide) ⟨by decide, by decide⟩ (fun h2 => ?_) (fun h2 => ?_)
  · refine h_bipush C dX8_cart_15 (by decide) ?_
    refine h_ireturn C hr hk dX8_cart_17 ?_
    exact ⟨rfl, rfl⟩
  · exfalso; omega
abbrev rX8_most : Room := { frames := 1, cells := 0, slots := 0, locals := 20 }
abbrev pX8_most (z : Nat) (σ : hpMem) : Option Value → hpMem → Prop := fun r τ => r = some (.int (hpI (-2))) ∧ σ = τ
set_option maxHeartbeats 4000000 in
set_option maxRecDepth 20000 in
theorem tX8_most (l : Launch) (D : va_G) (cy : Nat → ClassId) (z : Nat) (σ : hpMem) (h_3_8 : σ 3 8 = 0) : hpM l D cy z yX8_most cX8_most 3 (some .int) rX8_most [.ref (z + 0)] σ (pX8_most z σ) := by
  refine hp_met rfl (Nat.le_of_ble_eq_true rfl) (fun p e s m below meth c C hr hk => ?_)
  refine h_aload_n C dX8_most_0 0 rfl rfl ?_
  refine h_callV (As := []) (rest := []) C yyX8_noMoor wd_572 (tX8_noMoor l D cy z _ h_3_8) kd_0 rfl rfl ⟨rfl, rfl, Nat.le_of_ble_eq_true rfl, Nat.le_of_ble_eq_true rfl⟩ ⟨Nat.le_of_ble_eq_true rfl, Nat.le_of_ble_eq_true rfl⟩ (Nat.le_of_ble_eq_true rfl) dX8_most_1 (fun r1 τ1 hp1 => ?_)
  obtain ⟨rfl, rfl⟩ := hp1
  show hpV _ _ _ _ _ _ _ _ _ _ _ _ _ _ _ _ _ _ _ _ _ (_ :: _)
  refine h_if_eq (tgt := 10) C dX8_most_4 (by decide) ⟨by decide, by decide⟩ (fun h2 => ?_) (fun h2 => ?_)
  · exfalso; omega
  · refine h_bipush C dX8_most_7 (by decide) ?_
    refine h_ireturn C hr hk dX8_most_9 ?_
    exact ⟨rfl, rfl⟩
abbrev rX8_peak : Room := { frames := 1, cells := 0, slots := 0, locals := 20 }
abbrev pX8_peak (z : Nat) (σ : hpMem) : Option Value → hpMem → Prop := fun r τ => r = some (.int (hpI (-2))) ∧ σ = τ
set_option maxHeartbeats 4000000 in
set_option maxRecDepth 20000 in
theorem tX8_peak (l : Launch) (D : va_G) (cy : Nat → ClassId) (z : Nat) (σ : hpMem) (h_3_8 : σ 3 8 = 0) : hpM l D cy z yX8_peak cX8_peak 3 (some .int) rX8_peak [.ref (z + 0)] σ (pX8_peak z σ) := by
  refine hp_met rfl (Nat.le_of_ble_eq_true rfl) (fun p e s m below meth c C hr hk => ?_)
  refine h_aload_n C dX8_peak_0 0 rfl rfl ?_
  refine h_callV (As := []) (rest := []) C yyX8_noMoor wd_572 (tX8_noMoor l D cy z _ h_3_8) kd_0 rfl rfl ⟨rfl, rfl, Nat.le_of_ble_eq_true rfl, Nat.le_of_ble_eq_true rfl⟩ ⟨Nat.le_of_ble_eq_true rfl, Nat.le_of_ble_eq_true rfl⟩ (Nat.le_of_ble_eq_true rfl) dX8_peak_1 (fun r1 τ1 hp1 => ?_)
  obtain ⟨rfl, rfl⟩ := hp1
  show hpV _ _ _ _ _ _ _ _ _ _ _ _ _ _ _ _ _ _ _ _ _ (_ :: _)
  refine h_if_eq (tgt := 10) C dX8_peak_4 (by decide) ⟨by decide, by decide⟩ (fun h2 => ?_) (fun h2 => ?_)
  · exfalso; omega
  · refine h_bipush C dX8_peak_7 (by decide) ?_
    refine h_ireturn C hr hk dX8_peak_9 ?_
    exact ⟨rfl, rfl⟩
abbrev rX8_still : Room := { frames := 1, cells := 0, slots := 0, locals := 20 }
abbrev pX8_still (z : Nat) (σ : hpMem) : Option Value → hpMem → Prop := fun r τ => r = some (.int (hpI (-2))) ∧ σ = τ
set_option maxHeartbeats 4000000 in
set_option maxRecDepth 20000 in
theorem tX8_still (l : Launch) (D : va_G) (cy : Nat → ClassId) (z : Nat) (σ : hpMem) (h_3_8 : σ 3 8 = 0) : hpM l D cy z yX8_still cX8_still 2 (some .int) rX8_still [.ref (z + 0)] σ (pX8_still z σ) := by
  refine hp_met rfl (Nat.le_of_ble_eq_true rfl) (fun p e s m below meth c C hr hk => ?_)
  refine h_aload_n C dX8_still_0 0 rfl rfl ?_
  refine h_callV (As := []) (rest := []) C yyX8_noMoor wd_572 (tX8_noMoor l D cy z _ h_3_8) kd_0 rfl rfl ⟨rfl, rfl, Nat.le_of_ble_eq_true rfl, Nat.le_of_ble_eq_true rfl⟩ ⟨Nat.le_of_ble_eq_true rfl, Nat.le_of_ble_eq_true rfl⟩ (Nat.le_of_ble_eq_true rfl) dX8_still_1 (fun r1 τ1 hp1 => ?_)
  obtain ⟨rfl, rfl⟩ := hp1
  show hpV _ _ _ _ _ _ _ _ _ _ _ _ _ _ _ _ _ _ _ _ _ (_ :: _)
  refine h_if_eq (tgt := 10) C dX8_still_4 (by decide) ⟨by decide, by decide⟩ (fun h2 => ?_) (fun h2 => ?_)
  · exfalso; omega
  · refine h_bipush C dX8_still_7 (by decide) ?_
    refine h_ireturn C hr hk dX8_still_9 ?_
    exact ⟨rfl, rfl⟩
abbrev rX8_rows : Room := { frames := 1, cells := 0, slots := 0, locals := 20 }
abbrev pX8_rows (z : Nat) (σ : hpMem) : Option Value → hpMem → Prop := fun r τ => r = some (.int (hpI (-2))) ∧ σ = τ
set_option maxHeartbeats 4000000 in
set_option maxRecDepth 20000 in
theorem tX8_rows (l : Launch) (D : va_G) (cy : Nat → ClassId) (z : Nat) (σ : hpMem) (h_3_8 : σ 3 8 = 0) : hpM l D cy z yX8_rows cX8_rows 3 (some .int) rX8_rows [.ref (z + 0)] σ (pX8_rows z σ) := by
  refine hp_met rfl (Nat.le_of_ble_eq_true rfl) (fun p e s m below meth c C hr hk => ?_)
  refine h_aload_n C dX8_rows_0 0 rfl rfl ?_
  refine h_callV (As := []) (rest := []) C yyX8_noMoor wd_572 (tX8_noMoor l D cy z _ h_3_8) kd_0 rfl rfl ⟨rfl, rfl, Nat.le_of_ble_eq_true rfl, Nat.le_of_ble_eq_true rfl⟩ ⟨Nat.le_of_ble_eq_true rfl, Nat.le_of_ble_eq_true rfl⟩ (Nat.le_of_ble_eq_true rfl) dX8_rows_1 (fun r1 τ1 hp1 => ?_)
  obtain ⟨rfl, rfl⟩ := hp1
  show hpV _ _ _ _ _ _ _ _ _ _ _ _ _ _ _ _ _ _ _ _ _ (_ :: _)
  refine h_if_eq (tgt := 10) C dX8_rows_4 (by decide) ⟨by decide, by decide⟩ (fun h2 => ?_) (fun h2 => ?_)
  · exfalso; omega
  · refine h_bipush C dX8_rows_7 (by decide) ?_
    refine h_ireturn C hr hk dX8_rows_9 ?_
    exact ⟨rfl, rfl⟩
abbrev rX8_stairs : Room := { frames := 1, cells := 0, slots := 0, locals := 20 }
abbrev pX8_stairs (z : Nat) (σ : hpMem) : Option Value → hpMem → Prop := fun r τ => r = some (.int (hpI (-2))) ∧ σ = τ
set_option maxHeartbeats 4000000 in
set_option maxRecDepth 20000 in
theorem tX8_stairs (l : Launch) (D : va_G) (cy : Nat → ClassId) (z : Nat) (σ : hpMem) (h_3_8 : σ 3 8 = 0) : hpM l D cy z yX8_stairs cX8_stairs 2 (some .int) rX8_stairs [.ref (z + 0)] σ (pX8_stairs z σ) := by
  refine hp_met rfl (Nat.le_of_ble_eq_true rfl) (fun p e s m below meth c C hr hk => ?_)
  refine h_aload_n C dX8_stairs_0 0 rfl rfl ?_
  refine h_callV (As := []) (rest := []) C yyX8_noMoor wd_572 (tX8_noMoor l D cy z _ h_3_8) kd_0 rfl rfl ⟨rfl, rfl, Nat.le_of_ble_eq_true rfl, Nat.le_of_ble_eq_true rfl⟩ ⟨Nat.le_of_ble_eq_true rfl, Nat.le_of_ble_eq_true rfl⟩ (Nat.le_of_ble_eq_true rfl) dX8_stairs_1 (fun r1 τ1 hp1 => ?_)
  obtain ⟨rfl, rfl⟩ := hp1
  show hpV _ _ _ _ _ _ _ _ _ _ _ _ _ _ _ _ _ _ _ _ _ (_ :: _)
  refine h_if_eq (tgt := 10) C dX8_stairs_4 (by decide) ⟨by decide, by decide⟩ (fun h2 => ?_) (fun h2 => ?_)
  · exfalso; omega
  · refine h_bipush C dX8_stairs_7 (by decide) ?_
    refine h_ireturn C hr hk dX8_stairs_9 ?_
    exact ⟨rfl, rfl⟩
abbrev rX8_spare : Room := { frames := 1, cells := 0, slots := 0, locals := 20 }
abbrev pX8_spare (z : Nat) (σ : hpMem) : Option Value → hpMem → Prop := fun r τ => r = some (.int (hpI (-2))) ∧ σ = τ
set_option maxHeartbeats 4000000 in
set_option maxRecDepth 20000 in
theorem tX8_spare (l : Launch) (D : va_G) (cy : Nat → ClassId) (z : Nat) (σ : hpMem) (h_3_8 : σ 3 8 = 0) : hpM l D cy z yX8_spare cX8_spare 5 (some .int) rX8_spare [.ref (z + 0)] σ (pX8_spare z σ) := by
  refine hp_met rfl (Nat.le_of_ble_eq_true rfl) (fun p e s m below meth c C hr hk => ?_)
  refine h_aload_n C dX8_spare_0 0 rfl rfl ?_
  refine h_callV (As := []) (rest := []) C yyX8_noMoor wd_572 (tX8_noMoor l D cy z _ h_3_8) kd_0 rfl rfl ⟨rfl, rfl, Nat.le_of_ble_eq_true rfl, Nat.le_of_ble_eq_true rfl⟩ ⟨Nat.le_of_ble_eq_true rfl, Nat.le_of_ble_eq_true rfl⟩ (Nat.le_of_ble_eq_true rfl) dX8_spare_1 (fun r1 τ1 hp1 => ?_)
  obtain ⟨rfl, rfl⟩ := hp1
  show hpV _ _ _ _ _ _ _ _ _ _ _ _ _ _ _ _ _ _ _ _ _ (_ :: _)
  refine h_if_eq (tgt := 10) C dX8_spare_4 (by decide) ⟨by decide, by decide⟩ (fun h2 => ?_) (fun h2 => ?_)
  · exfalso; omega
  · refine h_bipush C dX8_spare_7 (by decide) ?_
    refine h_ireturn C hr hk dX8_spare_9 ?_
    exact ⟨rfl, rfl⟩
abbrev rX8_law : Room := { frames := 1, cells := 0, slots := 0, locals := 20 }
abbrev pX8_law (z : Nat) (σ : hpMem) : Option Value → hpMem → Prop := fun r τ => r = some (.int (hpI (-2))) ∧ σ = τ
set_option maxHeartbeats 4000000 in
set_option maxRecDepth 20000 in
theorem tX8_law (l : Launch) (D : va_G) (cy : Nat → ClassId) (z : Nat) (σ : hpMem) (h_3_8 : σ 3 8 = 0) : hpM l D cy z yX8_law cX8_law 5 (some .int) rX8_law [.ref (z + 0)] σ (pX8_law z σ) := by
  refine hp_met rfl (Nat.le_of_ble_eq_true rfl) (fun p e s m below meth c C hr hk => ?_)
  refine h_aload_n C dX8_law_0 0 rfl rfl ?_
  refine h_callV (As := []) (rest := []) C yyX8_noMoor wd_572 (tX8_noMoor l D cy z _ h_3_8) kd_0 rfl rfl ⟨rfl, rfl, Nat.le_of_ble_eq_true rfl, Nat.le_of_ble_eq_true rfl⟩ ⟨Nat.le_of_ble_eq_true rfl, Nat.le_of_ble_eq_true rfl⟩ (Nat.le_of_ble_eq_true rfl) dX8_law_1 (fun r1 τ1 hp1 => ?_)
  obtain ⟨rfl, rfl⟩ := hp1
  show hpV _ _ _ _ _ _ _ _ _ _ _ _ _ _ _ _ _ _ _ _ _ (_ :: _)
  refine h_if_eq (tgt := 10) C dX8_law_4 (by decide) ⟨by decide, by decide⟩ (fun h2 => ?_) (fun h2 => ?_)
  · exfalso; omega
  · refine h_bipush C dX8_law_7 (by decide) ?_
    refine h_ireturn C hr hk dX8_law_9 ?_
    exact ⟨rfl, rfl⟩
abbrev rX8_undo : Room := { frames := 1, cells := 0, slots := 0, locals := 20 }
abbrev pX8_undo (z : Nat) (σ : hpMem) : Option Value → hpMem → Prop := fun r τ => r = some (.int (hpI (-2))) ∧ σ = τ
set_option maxHeartbeats 4000000 in
set_option maxRecDepth 20000 in
theorem tX8_undo (l : Launch) (D : va_G) (cy : Nat → ClassId) (z : Nat) (σ : hpMem) (h_3_8 : σ 3 8 = 0) : hpM l D cy z yX8_undo cX8_undo 1 (some .int) rX8_undo [.ref (z + 0)] σ (pX8_undo z σ) := by
  refine hp_met rfl (Nat.le_of_ble_eq_true rfl) (fun p e s m below meth c C hr hk => ?_)
  refine h_aload_n C dX8_undo_0 0 rfl rfl ?_
  refine h_callV (As := []) (rest := []) C yyX8_noMoor wd_572 (tX8_noMoor l D cy z _ h_3_8) kd_0 rfl rfl ⟨rfl, rfl, Nat.le_of_ble_eq_true rfl, Nat.le_of_ble_eq_true rfl⟩ ⟨Nat.le_of_ble_eq_true rfl, Nat.le_of_ble_eq_true rfl⟩ (Nat.le_of_ble_eq_true rfl) dX8_undo_1 (fun r1 τ1 hp1 => ?_)
  obtain ⟨rfl, rfl⟩ := hp1
  show hpV _ _ _ _ _ _ _ _ _ _ _ _ _ _ _ _ _ _ _ _ _ (_ :: _)
  refine h_if_eq (tgt := 10) C dX8_undo_4 (by decide) ⟨by decide, by decide⟩ (fun h2 => ?_) (fun h2 => ?_)
  · exfalso; omega
  · refine h_bipush C dX8_undo_7 (by decide) ?_
    refine h_ireturn C hr hk dX8_undo_9 ?_
    exact ⟨rfl, rfl⟩
abbrev rX8_anew : Room := { frames := 1, cells := 0, slots := 0, locals := 20 }
abbrev pX8_anew (z : Nat) (σ : hpMem) : Option Value → hpMem → Prop := fun r τ => r = some (.int (hpI (-2))) ∧ σ = τ
set_option maxHeartbeats 4000000 in
set_option maxRecDepth 20000 in
theorem tX8_anew (l : Launch) (D : va_G) (cy : Nat → ClassId) (z : Nat) (σ : hpMem) (h_3_8 : σ 3 8 = 0) : hpM l D cy z yX8_anew cX8_anew 2 (some .int) rX8_anew [.ref (z + 0)] σ (pX8_anew z σ) := by
  refine hp_met rfl (Nat.le_of_ble_eq_true rfl) (fun p e s m below meth c C hr hk => ?_)
  refine h_aload_n C dX8_anew_0 0 rfl rfl ?_
  refine h_callV (As := []) (rest := []) C yyX8_noMoor wd_572 (tX8_noMoor l D cy z _ h_3_8) kd_0 rfl rfl ⟨rfl, rfl, Nat.le_of_ble_eq_true rfl, Nat.le_of_ble_eq_true rfl⟩ ⟨Nat.le_of_ble_eq_true rfl, Nat.le_of_ble_eq_true rfl⟩ (Nat.le_of_ble_eq_true rfl) dX8_anew_1 (fun r1 τ1 hp1 => ?_)
  obtain ⟨rfl, rfl⟩ := hp1
  show hpV _ _ _ _ _ _ _ _ _ _ _ _ _ _ _ _ _ _ _ _ _ (_ :: _)
  refine h_if_eq (tgt := 10) C dX8_anew_4 (by decide) ⟨by decide, by decide⟩ (fun h2 => ?_) (fun h2 => ?_)
  · exfalso; omega
  · refine h_bipush C dX8_anew_7 (by decide) ?_
    refine h_ireturn C hr hk dX8_anew_9 ?_
    exact ⟨rfl, rfl⟩
abbrev rX8_heaps : Room := { frames := 2, cells := 0, slots := 0, locals := 41 }
abbrev pX8_heaps (z : Nat) (σ : hpMem) (a : Int) : Option Value → hpMem → Prop := fun r τ => r = some (.int (hpI (-2))) ∧ σ = τ
set_option maxHeartbeats 4000000 in
set_option maxRecDepth 20000 in
theorem tX8_heaps (l : Launch) (D : va_G) (cy : Nat → ClassId) (z : Nat) (σ : hpMem) (a : Int) (ha : hpR a) (h_3_8 : σ 3 8 = 0) : hpM l D cy z yX8_heaps cX8_heaps 2 (some .int) rX8_heaps [.ref (z + 0), .int (hpI a)] σ (pX8_heaps z σ a) := by
  obtain ⟨ha1, ha2⟩ := ha
  refine hp_met rfl (Nat.le_of_ble_eq_true rfl) (fun p e s m below meth c C hr hk => ?_)
  refine h_aload_n C dX8_heaps_0 0 rfl rfl ?_
  refine h_iload_n C dX8_heaps_1 1 rfl rfl ?_
  refine h_callV (As := [.int (hpI a)]) (rest := []) C yyX8_isDay wd_568 (tX8_isDay l D cy z _ a ⟨by omega, by omega⟩ h_3_8) kd_0 rfl rfl ⟨rfl, rfl, Nat.le_of_ble_eq_true rfl, Nat.le_of_ble_eq_true rfl⟩ ⟨Nat.le_of_ble_eq_true rfl, Nat.le_of_ble_eq_true rfl⟩ (Nat.le_of_ble_eq_true rfl) dX8_heaps_2 (fun r1 τ1 hp1 => ?_)
  obtain ⟨rfl, rfl⟩ := hp1
  show hpV _ _ _ _ _ _ _ _ _ _ _ _ _ _ _ _ _ _ _ _ _ (_ :: _)
  refine h_if_eq (tgt := 19) C dX8_heaps_5 (by decide) ⟨by decide, by decide⟩ (fun h2 => ?_) (fun h2 => ?_)
  · refine h_bipush C dX8_heaps_19 (by decide) ?_
    refine h_ireturn C hr hk dX8_heaps_21 ?_
    exact ⟨rfl, rfl⟩
  · exfalso; omega
abbrev rX8_all : Room := { frames := 2, cells := 0, slots := 0, locals := 41 }
abbrev pX8_all (z : Nat) (σ : hpMem) (a : Int) : Option Value → hpMem → Prop := fun r τ => r = some (.int (hpI (-2))) ∧ σ = τ
set_option maxHeartbeats 4000000 in
set_option maxRecDepth 20000 in
theorem tX8_all (l : Launch) (D : va_G) (cy : Nat → ClassId) (z : Nat) (σ : hpMem) (a : Int) (ha : hpR a) (h_3_8 : σ 3 8 = 0) : hpM l D cy z yX8_all cX8_all 2 (some .int) rX8_all [.ref (z + 0), .int (hpI a)] σ (pX8_all z σ a) := by
  obtain ⟨ha1, ha2⟩ := ha
  refine hp_met rfl (Nat.le_of_ble_eq_true rfl) (fun p e s m below meth c C hr hk => ?_)
  refine h_aload_n C dX8_all_0 0 rfl rfl ?_
  refine h_iload_n C dX8_all_1 1 rfl rfl ?_
  refine h_callV (As := [.int (hpI a)]) (rest := []) C yyX8_isDay wd_568 (tX8_isDay l D cy z _ a ⟨by omega, by omega⟩ h_3_8) kd_0 rfl rfl ⟨rfl, rfl, Nat.le_of_ble_eq_true rfl, Nat.le_of_ble_eq_true rfl⟩ ⟨Nat.le_of_ble_eq_true rfl, Nat.le_of_ble_eq_true rfl⟩ (Nat.le_of_ble_eq_true rfl) dX8_all_2 (fun r1 τ1 hp1 => ?_)
  obtain ⟨rfl, rfl⟩ := hp1
  show hpV _ _ _ _ _ _ _ _ _ _ _ _ _ _ _ _ _ _ _ _ _ (_ :: _)
  refine h_if_eq (tgt := 19) C dX8_all_5 (by decide) ⟨by decide, by decide⟩ (fun h2 => ?_) (fun h2 => ?_)
  · refine h_bipush C dX8_all_19 (by decide) ?_
    refine h_ireturn C hr hk dX8_all_21 ?_
    exact ⟨rfl, rfl⟩
  · exfalso; omega
abbrev rX8_sorts : Room := { frames := 2, cells := 0, slots := 0, locals := 41 }
abbrev pX8_sorts (z : Nat) (σ : hpMem) (a : Int) : Option Value → hpMem → Prop := fun r τ => r = some (.int (hpI (-2))) ∧ σ = τ
set_option maxHeartbeats 4000000 in
set_option maxRecDepth 20000 in
theorem tX8_sorts (l : Launch) (D : va_G) (cy : Nat → ClassId) (z : Nat) (σ : hpMem) (a : Int) (ha : hpR a) (h_3_8 : σ 3 8 = 0) : hpM l D cy z yX8_sorts cX8_sorts 2 (some .int) rX8_sorts [.ref (z + 0), .int (hpI a)] σ (pX8_sorts z σ a) := by
  obtain ⟨ha1, ha2⟩ := ha
  refine hp_met rfl (Nat.le_of_ble_eq_true rfl) (fun p e s m below meth c C hr hk => ?_)
  refine h_aload_n C dX8_sorts_0 0 rfl rfl ?_
  refine h_iload_n C dX8_sorts_1 1 rfl rfl ?_
  refine h_callV (As := [.int (hpI a)]) (rest := []) C yyX8_isDay wd_568 (tX8_isDay l D cy z _ a ⟨by omega, by omega⟩ h_3_8) kd_0 rfl rfl ⟨rfl, rfl, Nat.le_of_ble_eq_true rfl, Nat.le_of_ble_eq_true rfl⟩ ⟨Nat.le_of_ble_eq_true rfl, Nat.le_of_ble_eq_true rfl⟩ (Nat.le_of_ble_eq_true rfl) dX8_sorts_2 (fun r1 τ1 hp1 => ?_)
  obtain ⟨rfl, rfl⟩ := hp1
  show hpV _ _ _ _ _ _ _ _ _ _ _ _ _ _ _ _ _ _ _ _ _ (_ :: _)
  refine h_if_eq (tgt := 19) C dX8_sorts_5 (by decide) ⟨by decide, by decide⟩ (fun h2 => ?_) (fun h2 => ?_)
  · refine h_bipush C dX8_sorts_19 (by decide) ?_
    refine h_ireturn C hr hk dX8_sorts_21 ?_
    exact ⟨rfl, rfl⟩
  · exfalso; omega
abbrev rX8_spread : Room := { frames := 2, cells := 0, slots := 0, locals := 41 }
abbrev pX8_spread (z : Nat) (σ : hpMem) (a : Int) : Option Value → hpMem → Prop := fun r τ => r = some (.int (hpI (-2))) ∧ σ = τ
set_option maxHeartbeats 4000000 in
set_option maxRecDepth 20000 in
theorem tX8_spread (l : Launch) (D : va_G) (cy : Nat → ClassId) (z : Nat) (σ : hpMem) (a : Int) (ha : hpR a) (h_3_8 : σ 3 8 = 0) : hpM l D cy z yX8_spread cX8_spread 2 (some .int) rX8_spread [.ref (z + 0), .int (hpI a)] σ (pX8_spread z σ a) := by
  obtain ⟨ha1, ha2⟩ := ha
  refine hp_met rfl (Nat.le_of_ble_eq_true rfl) (fun p e s m below meth c C hr hk => ?_)
  refine h_aload_n C dX8_spread_0 0 rfl rfl ?_
  refine h_iload_n C dX8_spread_1 1 rfl rfl ?_
  refine h_callV (As := [.int (hpI a)]) (rest := []) C yyX8_isDay wd_568 (tX8_isDay l D cy z _ a ⟨by omega, by omega⟩ h_3_8) kd_0 rfl rfl ⟨rfl, rfl, Nat.le_of_ble_eq_true rfl, Nat.le_of_ble_eq_true rfl⟩ ⟨Nat.le_of_ble_eq_true rfl, Nat.le_of_ble_eq_true rfl⟩ (Nat.le_of_ble_eq_true rfl) dX8_spread_2 (fun r1 τ1 hp1 => ?_)
  obtain ⟨rfl, rfl⟩ := hp1
  show hpV _ _ _ _ _ _ _ _ _ _ _ _ _ _ _ _ _ _ _ _ _ (_ :: _)
  refine h_if_eq (tgt := 28) C dX8_spread_5 (by decide) ⟨by decide, by decide⟩ (fun h2 => ?_) (fun h2 => ?_)
  · refine h_bipush C dX8_spread_28 (by decide) ?_
    refine h_ireturn C hr hk dX8_spread_30 ?_
    exact ⟨rfl, rfl⟩
  · exfalso; omega
abbrev rX8_odd : Room := { frames := 2, cells := 0, slots := 0, locals := 41 }
abbrev pX8_odd (z : Nat) (σ : hpMem) (a : Int) : Option Value → hpMem → Prop := fun r τ => r = some (.int (hpI (-2))) ∧ σ = τ
set_option maxHeartbeats 4000000 in
set_option maxRecDepth 20000 in
theorem tX8_odd (l : Launch) (D : va_G) (cy : Nat → ClassId) (z : Nat) (σ : hpMem) (a : Int) (ha : hpR a) (h_3_8 : σ 3 8 = 0) : hpM l D cy z yX8_odd cX8_odd 2 (some .int) rX8_odd [.ref (z + 0), .int (hpI a)] σ (pX8_odd z σ a) := by
  obtain ⟨ha1, ha2⟩ := ha
  refine hp_met rfl (Nat.le_of_ble_eq_true rfl) (fun p e s m below meth c C hr hk => ?_)
  refine h_aload_n C dX8_odd_0 0 rfl rfl ?_
  refine h_iload_n C dX8_odd_1 1 rfl rfl ?_
  refine h_callV (As := [.int (hpI a)]) (rest := []) C yyX8_isDay wd_568 (tX8_isDay l D cy z _ a ⟨by omega, by omega⟩ h_3_8) kd_0 rfl rfl ⟨rfl, rfl, Nat.le_of_ble_eq_true rfl, Nat.le_of_ble_eq_true rfl⟩ ⟨Nat.le_of_ble_eq_true rfl, Nat.le_of_ble_eq_true rfl⟩ (Nat.le_of_ble_eq_true rfl) dX8_odd_2 (fun r1 τ1 hp1 => ?_)
  obtain ⟨rfl, rfl⟩ := hp1
  show hpV _ _ _ _ _ _ _ _ _ _ _ _ _ _ _ _ _ _ _ _ _ (_ :: _)
  refine h_if_eq (tgt := 19) C dX8_odd_5 (by decide) ⟨by decide, by decide⟩ (fun h2 => ?_) (fun h2 => ?_)
  · refine h_bipush C dX8_odd_19 (by decide) ?_
    refine h_ireturn C hr hk dX8_odd_21 ?_
    exact ⟨rfl, rfl⟩
  · exfalso; omega
abbrev rX8_taken : Room := { frames := 3, cells := 0, slots := 0, locals := 62 }
abbrev pX8_taken (z : Nat) (σ : hpMem) (a : Int) : Option Value → hpMem → Prop := fun r τ => r = some (.int (hpI (-2))) ∧ σ = τ
set_option maxHeartbeats 4000000 in
set_option maxRecDepth 20000 in
theorem tX8_taken (l : Launch) (D : va_G) (cy : Nat → ClassId) (z : Nat) (σ : hpMem) (a : Int) (ha : hpR a) (h_3_8 : σ 3 8 = 0) : hpM l D cy z yX8_taken cX8_taken 2 (some .int) rX8_taken [.ref (z + 0), .int (hpI a)] σ (pX8_taken z σ a) := by
  obtain ⟨ha1, ha2⟩ := ha
  refine hp_met rfl (Nat.le_of_ble_eq_true rfl) (fun p e s m below meth c C hr hk => ?_)
  refine h_aload_n C dX8_taken_0 0 rfl rfl ?_
  refine h_iload_n C dX8_taken_1 1 rfl rfl ?_
  refine h_callV (As := [.int (hpI a)]) (rest := []) C yyX8_isDayAheadOfLast wd_683 (tX8_isDayAheadOfLast l D cy z _ a ⟨by omega, by omega⟩ h_3_8) kd_0 rfl rfl ⟨rfl, rfl, Nat.le_of_ble_eq_true rfl, Nat.le_of_ble_eq_true rfl⟩ ⟨Nat.le_of_ble_eq_true rfl, Nat.le_of_ble_eq_true rfl⟩ (Nat.le_of_ble_eq_true rfl) dX8_taken_2 (fun r1 τ1 hp1 => ?_)
  obtain ⟨rfl, rfl⟩ := hp1
  show hpV _ _ _ _ _ _ _ _ _ _ _ _ _ _ _ _ _ _ _ _ _ (_ :: _)
  refine h_if_eq (tgt := 26) C dX8_taken_5 (by decide) ⟨by decide, by decide⟩ (fun h2 => ?_) (fun h2 => ?_)
  · refine h_bipush C dX8_taken_26 (by decide) ?_
    refine h_ireturn C hr hk dX8_taken_28 ?_
    exact ⟨rfl, rfl⟩
  · exfalso; omega
abbrev rX8_gone : Room := { frames := 3, cells := 0, slots := 0, locals := 62 }
abbrev pX8_gone (z : Nat) (σ : hpMem) (a : Int) : Option Value → hpMem → Prop := fun r τ => r = some (.int (hpI (-2))) ∧ σ = τ
set_option maxHeartbeats 4000000 in
set_option maxRecDepth 20000 in
theorem tX8_gone (l : Launch) (D : va_G) (cy : Nat → ClassId) (z : Nat) (σ : hpMem) (a : Int) (ha : hpR a) (h_3_8 : σ 3 8 = 0) : hpM l D cy z yX8_gone cX8_gone 2 (some .int) rX8_gone [.ref (z + 0), .int (hpI a)] σ (pX8_gone z σ a) := by
  obtain ⟨ha1, ha2⟩ := ha
  refine hp_met rfl (Nat.le_of_ble_eq_true rfl) (fun p e s m below meth c C hr hk => ?_)
  refine h_aload_n C dX8_gone_0 0 rfl rfl ?_
  refine h_iload_n C dX8_gone_1 1 rfl rfl ?_
  refine h_callV (As := [.int (hpI a)]) (rest := []) C yyX8_isDayAheadOfLast wd_683 (tX8_isDayAheadOfLast l D cy z _ a ⟨by omega, by omega⟩ h_3_8) kd_0 rfl rfl ⟨rfl, rfl, Nat.le_of_ble_eq_true rfl, Nat.le_of_ble_eq_true rfl⟩ ⟨Nat.le_of_ble_eq_true rfl, Nat.le_of_ble_eq_true rfl⟩ (Nat.le_of_ble_eq_true rfl) dX8_gone_2 (fun r1 τ1 hp1 => ?_)
  obtain ⟨rfl, rfl⟩ := hp1
  show hpV _ _ _ _ _ _ _ _ _ _ _ _ _ _ _ _ _ _ _ _ _ (_ :: _)
  refine h_if_eq (tgt := 26) C dX8_gone_5 (by decide) ⟨by decide, by decide⟩ (fun h2 => ?_) (fun h2 => ?_)
  · refine h_bipush C dX8_gone_26 (by decide) ?_
    refine h_ireturn C hr hk dX8_gone_28 ?_
    exact ⟨rfl, rfl⟩
  · exfalso; omega
abbrev rX8_same : Room := { frames := 2, cells := 0, slots := 0, locals := 41 }
abbrev pX8_same (z : Nat) (σ : hpMem) (a : Int) : Option Value → hpMem → Prop := fun r τ => r = some (.int (hpI (-2))) ∧ σ = τ
set_option maxHeartbeats 4000000 in
set_option maxRecDepth 20000 in
theorem tX8_same (l : Launch) (D : va_G) (cy : Nat → ClassId) (z : Nat) (σ : hpMem) (a : Int) (ha : hpR a) (h_3_8 : σ 3 8 = 0) : hpM l D cy z yX8_same cX8_same 2 (some .int) rX8_same [.ref (z + 0), .int (hpI a)] σ (pX8_same z σ a) := by
  obtain ⟨ha1, ha2⟩ := ha
  refine hp_met rfl (Nat.le_of_ble_eq_true rfl) (fun p e s m below meth c C hr hk => ?_)
  refine h_aload_n C dX8_same_0 0 rfl rfl ?_
  refine h_iload_n C dX8_same_1 1 rfl rfl ?_
  refine h_callV (As := [.int (hpI a)]) (rest := []) C yyX8_isDay wd_568 (tX8_isDay l D cy z _ a ⟨by omega, by omega⟩ h_3_8) kd_0 rfl rfl ⟨rfl, rfl, Nat.le_of_ble_eq_true rfl, Nat.le_of_ble_eq_true rfl⟩ ⟨Nat.le_of_ble_eq_true rfl, Nat.le_of_ble_eq_true rfl⟩ (Nat.le_of_ble_eq_true rfl) dX8_same_2 (fun r1 τ1 hp1 => ?_)
  obtain ⟨rfl, rfl⟩ := hp1
  show hpV _ _ _ _ _ _ _ _ _ _ _ _ _ _ _ _ _ _ _ _ _ (_ :: _)
  refine h_if_eq (tgt := 16) C dX8_same_5 (by decide) ⟨by decide, by decide⟩ (fun h2 => ?_) (fun h2 => ?_)
  · refine h_bipush C dX8_same_16 (by decide) ?_
    refine h_ireturn C hr hk dX8_same_18 ?_
    exact ⟨rfl, rfl⟩
  · exfalso; omega
abbrev rX8_stair : Room := { frames := 2, cells := 0, slots := 0, locals := 41 }
abbrev pX8_stair (z : Nat) (σ : hpMem) (a : Int) : Option Value → hpMem → Prop := fun r τ => r = some (.int (hpI (-2))) ∧ σ = τ
set_option maxHeartbeats 4000000 in
set_option maxRecDepth 20000 in
theorem tX8_stair (l : Launch) (D : va_G) (cy : Nat → ClassId) (z : Nat) (σ : hpMem) (a : Int) (ha : hpR a) (h_3_8 : σ 3 8 = 0) : hpM l D cy z yX8_stair cX8_stair 2 (some .int) rX8_stair [.ref (z + 0), .int (hpI a)] σ (pX8_stair z σ a) := by
  obtain ⟨ha1, ha2⟩ := ha
  refine hp_met rfl (Nat.le_of_ble_eq_true rfl) (fun p e s m below meth c C hr hk => ?_)
  refine h_aload_n C dX8_stair_0 0 rfl rfl ?_
  refine h_iload_n C dX8_stair_1 1 rfl rfl ?_
  refine h_callV (As := [.int (hpI a)]) (rest := []) C yyX8_isDay wd_568 (tX8_isDay l D cy z _ a ⟨by omega, by omega⟩ h_3_8) kd_0 rfl rfl ⟨rfl, rfl, Nat.le_of_ble_eq_true rfl, Nat.le_of_ble_eq_true rfl⟩ ⟨Nat.le_of_ble_eq_true rfl, Nat.le_of_ble_eq_true rfl⟩ (Nat.le_of_ble_eq_true rfl) dX8_stair_2 (fun r1 τ1 hp1 => ?_)
  obtain ⟨rfl, rfl⟩ := hp1
  show hpV _ _ _ _ _ _ _ _ _ _ _ _ _ _ _ _ _ _ _ _ _ (_ :: _)
  refine h_if_eq (tgt := 22) C dX8_stair_5 (by decide) ⟨by decide, by decide⟩ (fun h2 => ?_) (fun h2 => ?_)
  · refine h_bipush C dX8_stair_22 (by decide) ?_
    refine h_ireturn C hr hk dX8_stair_24 ?_
    exact ⟨rfl, rfl⟩
  · exfalso; omega
abbrev rX8_square : Room := { frames := 2, cells := 0, slots := 0, locals := 41 }
abbrev pX8_square (z : Nat) (σ : hpMem) (a : Int) : Option Value → hpMem → Prop := fun r τ => r = some (.int (hpI (-2))) ∧ σ = τ
set_option maxHeartbeats 4000000 in
set_option maxRecDepth 20000 in
theorem tX8_square (l : Launch) (D : va_G) (cy : Nat → ClassId) (z : Nat) (σ : hpMem) (a : Int) (ha : hpR a) (h_3_8 : σ 3 8 = 0) : hpM l D cy z yX8_square cX8_square 2 (some .int) rX8_square [.ref (z + 0), .int (hpI a)] σ (pX8_square z σ a) := by
  obtain ⟨ha1, ha2⟩ := ha
  refine hp_met rfl (Nat.le_of_ble_eq_true rfl) (fun p e s m below meth c C hr hk => ?_)
  refine h_aload_n C dX8_square_0 0 rfl rfl ?_
  refine h_iload_n C dX8_square_1 1 rfl rfl ?_
  refine h_callV (As := [.int (hpI a)]) (rest := []) C yyX8_isDay wd_568 (tX8_isDay l D cy z _ a ⟨by omega, by omega⟩ h_3_8) kd_0 rfl rfl ⟨rfl, rfl, Nat.le_of_ble_eq_true rfl, Nat.le_of_ble_eq_true rfl⟩ ⟨Nat.le_of_ble_eq_true rfl, Nat.le_of_ble_eq_true rfl⟩ (Nat.le_of_ble_eq_true rfl) dX8_square_2 (fun r1 τ1 hp1 => ?_)
  obtain ⟨rfl, rfl⟩ := hp1
  show hpV _ _ _ _ _ _ _ _ _ _ _ _ _ _ _ _ _ _ _ _ _ (_ :: _)
  refine h_if_eq (tgt := 19) C dX8_square_5 (by decide) ⟨by decide, by decide⟩ (fun h2 => ?_) (fun h2 => ?_)
  · refine h_bipush C dX8_square_19 (by decide) ?_
    refine h_ireturn C hr hk dX8_square_21 ?_
    exact ⟨rfl, rfl⟩
  · exfalso; omega
abbrev rX8_even : Room := { frames := 2, cells := 0, slots := 0, locals := 41 }
abbrev pX8_even (z : Nat) (σ : hpMem) (a : Int) : Option Value → hpMem → Prop := fun r τ => r = some (.int (hpI (-2))) ∧ σ = τ
set_option maxHeartbeats 4000000 in
set_option maxRecDepth 20000 in
theorem tX8_even (l : Launch) (D : va_G) (cy : Nat → ClassId) (z : Nat) (σ : hpMem) (a : Int) (ha : hpR a) (h_3_8 : σ 3 8 = 0) : hpM l D cy z yX8_even cX8_even 2 (some .int) rX8_even [.ref (z + 0), .int (hpI a)] σ (pX8_even z σ a) := by
  obtain ⟨ha1, ha2⟩ := ha
  refine hp_met rfl (Nat.le_of_ble_eq_true rfl) (fun p e s m below meth c C hr hk => ?_)
  refine h_aload_n C dX8_even_0 0 rfl rfl ?_
  refine h_iload_n C dX8_even_1 1 rfl rfl ?_
  refine h_callV (As := [.int (hpI a)]) (rest := []) C yyX8_isDay wd_568 (tX8_isDay l D cy z _ a ⟨by omega, by omega⟩ h_3_8) kd_0 rfl rfl ⟨rfl, rfl, Nat.le_of_ble_eq_true rfl, Nat.le_of_ble_eq_true rfl⟩ ⟨Nat.le_of_ble_eq_true rfl, Nat.le_of_ble_eq_true rfl⟩ (Nat.le_of_ble_eq_true rfl) dX8_even_2 (fun r1 τ1 hp1 => ?_)
  obtain ⟨rfl, rfl⟩ := hp1
  show hpV _ _ _ _ _ _ _ _ _ _ _ _ _ _ _ _ _ _ _ _ _ (_ :: _)
  refine h_if_eq (tgt := 22) C dX8_even_5 (by decide) ⟨by decide, by decide⟩ (fun h2 => ?_) (fun h2 => ?_)
  · refine h_bipush C dX8_even_22 (by decide) ?_
    refine h_ireturn C hr hk dX8_even_24 ?_
    exact ⟨rfl, rfl⟩
  · exfalso; omega
abbrev rX8_tail : Room := { frames := 2, cells := 0, slots := 0, locals := 41 }
abbrev pX8_tail (z : Nat) (σ : hpMem) (a : Int) : Option Value → hpMem → Prop := fun r τ => r = some (.int (hpI (-2))) ∧ σ = τ
set_option maxHeartbeats 4000000 in
set_option maxRecDepth 20000 in
theorem tX8_tail (l : Launch) (D : va_G) (cy : Nat → ClassId) (z : Nat) (σ : hpMem) (a : Int) (ha : hpR a) (h_3_8 : σ 3 8 = 0) : hpM l D cy z yX8_tail cX8_tail 2 (some .int) rX8_tail [.ref (z + 0), .int (hpI a)] σ (pX8_tail z σ a) := by
  obtain ⟨ha1, ha2⟩ := ha
  refine hp_met rfl (Nat.le_of_ble_eq_true rfl) (fun p e s m below meth c C hr hk => ?_)
  refine h_aload_n C dX8_tail_0 0 rfl rfl ?_
  refine h_iload_n C dX8_tail_1 1 rfl rfl ?_
  refine h_callV (As := [.int (hpI a)]) (rest := []) C yyX8_isDay wd_568 (tX8_isDay l D cy z _ a ⟨by omega, by omega⟩ h_3_8) kd_0 rfl rfl ⟨rfl, rfl, Nat.le_of_ble_eq_true rfl, Nat.le_of_ble_eq_true rfl⟩ ⟨Nat.le_of_ble_eq_true rfl, Nat.le_of_ble_eq_true rfl⟩ (Nat.le_of_ble_eq_true rfl) dX8_tail_2 (fun r1 τ1 hp1 => ?_)
  obtain ⟨rfl, rfl⟩ := hp1
  show hpV _ _ _ _ _ _ _ _ _ _ _ _ _ _ _ _ _ _ _ _ _ (_ :: _)
  refine h_if_eq (tgt := 19) C dX8_tail_5 (by decide) ⟨by decide, by decide⟩ (fun h2 => ?_) (fun h2 => ?_)
  · refine h_bipush C dX8_tail_19 (by decide) ?_
    refine h_ireturn C hr hk dX8_tail_21 ?_
    exact ⟨rfl, rfl⟩
  · exfalso; omega
abbrev rX8_length : Room := { frames := 2, cells := 0, slots := 0, locals := 41 }
abbrev pX8_length (z : Nat) (σ : hpMem) (a : Int) : Option Value → hpMem → Prop := fun r τ => r = some (.int (hpI (-2))) ∧ σ = τ
set_option maxHeartbeats 4000000 in
set_option maxRecDepth 20000 in
theorem tX8_length (l : Launch) (D : va_G) (cy : Nat → ClassId) (z : Nat) (σ : hpMem) (a : Int) (ha : hpR a) (h_3_8 : σ 3 8 = 0) : hpM l D cy z yX8_length cX8_length 2 (some .int) rX8_length [.ref (z + 0), .int (hpI a)] σ (pX8_length z σ a) := by
  obtain ⟨ha1, ha2⟩ := ha
  refine hp_met rfl (Nat.le_of_ble_eq_true rfl) (fun p e s m below meth c C hr hk => ?_)
  refine h_aload_n C dX8_length_0 0 rfl rfl ?_
  refine h_iload_n C dX8_length_1 1 rfl rfl ?_
  refine h_callV (As := [.int (hpI a)]) (rest := []) C yyX8_isDay wd_568 (tX8_isDay l D cy z _ a ⟨by omega, by omega⟩ h_3_8) kd_0 rfl rfl ⟨rfl, rfl, Nat.le_of_ble_eq_true rfl, Nat.le_of_ble_eq_true rfl⟩ ⟨Nat.le_of_ble_eq_true rfl, Nat.le_of_ble_eq_true rfl⟩ (Nat.le_of_ble_eq_true rfl) dX8_length_2 (fun r1 τ1 hp1 => ?_)
  obtain ⟨rfl, rfl⟩ := hp1
  show hpV _ _ _ _ _ _ _ _ _ _ _ _ _ _ _ _ _ _ _ _ _ (_ :: _)
  refine h_if_eq (tgt := 19) C dX8_length_5 (by decide) ⟨by decide, by decide⟩ (fun h2 => ?_) (fun h2 => ?_)
  · refine h_bipush C dX8_length_19 (by decide) ?_
    refine h_ireturn C hr hk dX8_length_21 ?_
    exact ⟨rfl, rfl⟩
  · exfalso; omega
abbrev rX8_ring : Room := { frames := 2, cells := 0, slots := 0, locals := 41 }
abbrev pX8_ring (z : Nat) (σ : hpMem) (a : Int) : Option Value → hpMem → Prop := fun r τ => r = some (.int (hpI (-2))) ∧ σ = τ
set_option maxHeartbeats 4000000 in
set_option maxRecDepth 20000 in
theorem tX8_ring (l : Launch) (D : va_G) (cy : Nat → ClassId) (z : Nat) (σ : hpMem) (a : Int) (ha : hpR a) (h_3_8 : σ 3 8 = 0) : hpM l D cy z yX8_ring cX8_ring 2 (some .int) rX8_ring [.ref (z + 0), .int (hpI a)] σ (pX8_ring z σ a) := by
  obtain ⟨ha1, ha2⟩ := ha
  refine hp_met rfl (Nat.le_of_ble_eq_true rfl) (fun p e s m below meth c C hr hk => ?_)
  refine h_aload_n C dX8_ring_0 0 rfl rfl ?_
  refine h_iload_n C dX8_ring_1 1 rfl rfl ?_
  refine h_callV (As := [.int (hpI a)]) (rest := []) C yyX8_isDay wd_568 (tX8_isDay l D cy z _ a ⟨by omega, by omega⟩ h_3_8) kd_0 rfl rfl ⟨rfl, rfl, Nat.le_of_ble_eq_true rfl, Nat.le_of_ble_eq_true rfl⟩ ⟨Nat.le_of_ble_eq_true rfl, Nat.le_of_ble_eq_true rfl⟩ (Nat.le_of_ble_eq_true rfl) dX8_ring_2 (fun r1 τ1 hp1 => ?_)
  obtain ⟨rfl, rfl⟩ := hp1
  show hpV _ _ _ _ _ _ _ _ _ _ _ _ _ _ _ _ _ _ _ _ _ (_ :: _)
  refine h_if_eq (tgt := 19) C dX8_ring_5 (by decide) ⟨by decide, by decide⟩ (fun h2 => ?_) (fun h2 => ?_)
  · refine h_bipush C dX8_ring_19 (by decide) ?_
    refine h_ireturn C hr hk dX8_ring_21 ?_
    exact ⟨rfl, rfl⟩
  · exfalso; omega
abbrev rX8_soon : Room := { frames := 2, cells := 0, slots := 0, locals := 41 }
abbrev pX8_soon (z : Nat) (σ : hpMem) (a : Int) : Option Value → hpMem → Prop := fun r τ => r = some (.int (hpI (-2))) ∧ σ = τ
set_option maxHeartbeats 4000000 in
set_option maxRecDepth 20000 in
theorem tX8_soon (l : Launch) (D : va_G) (cy : Nat → ClassId) (z : Nat) (σ : hpMem) (a : Int) (ha : hpR a) (h_3_8 : σ 3 8 = 0) : hpM l D cy z yX8_soon cX8_soon 2 (some .int) rX8_soon [.ref (z + 0), .int (hpI a)] σ (pX8_soon z σ a) := by
  obtain ⟨ha1, ha2⟩ := ha
  refine hp_met rfl (Nat.le_of_ble_eq_true rfl) (fun p e s m below meth c C hr hk => ?_)
  refine h_aload_n C dX8_soon_0 0 rfl rfl ?_
  refine h_iload_n C dX8_soon_1 1 rfl rfl ?_
  refine h_callV (As := [.int (hpI a)]) (rest := []) C yyX8_isDay wd_568 (tX8_isDay l D cy z _ a ⟨by omega, by omega⟩ h_3_8) kd_0 rfl rfl ⟨rfl, rfl, Nat.le_of_ble_eq_true rfl, Nat.le_of_ble_eq_true rfl⟩ ⟨Nat.le_of_ble_eq_true rfl, Nat.le_of_ble_eq_true rfl⟩ (Nat.le_of_ble_eq_true rfl) dX8_soon_2 (fun r1 τ1 hp1 => ?_)
  obtain ⟨rfl, rfl⟩ := hp1
  show hpV _ _ _ _ _ _ _ _ _ _ _ _ _ _ _ _ _ _ _ _ _ (_ :: _)
  refine h_if_eq (tgt := 19) C dX8_soon_5 (by decide) ⟨by decide, by decide⟩ (fun h2 => ?_) (fun h2 => ?_)
  · refine h_bipush C dX8_soon_19 (by decide) ?_
    refine h_ireturn C hr hk dX8_soon_21 ?_
    exact ⟨rfl, rfl⟩
  · exfalso; omega
abbrev rX8_rowsOf : Room := { frames := 2, cells := 0, slots := 0, locals := 41 }
abbrev pX8_rowsOf (z : Nat) (σ : hpMem) (a : Int) : Option Value → hpMem → Prop := fun r τ => r = some (.int (hpI (-2))) ∧ σ = τ
set_option maxHeartbeats 4000000 in
set_option maxRecDepth 20000 in
theorem tX8_rowsOf (l : Launch) (D : va_G) (cy : Nat → ClassId) (z : Nat) (σ : hpMem) (a : Int) (ha : hpR a) (h_3_8 : σ 3 8 = 0) : hpM l D cy z yX8_rowsOf cX8_rowsOf 2 (some .int) rX8_rowsOf [.ref (z + 0), .int (hpI a)] σ (pX8_rowsOf z σ a) := by
  obtain ⟨ha1, ha2⟩ := ha
  refine hp_met rfl (Nat.le_of_ble_eq_true rfl) (fun p e s m below meth c C hr hk => ?_)
  refine h_aload_n C dX8_rowsOf_0 0 rfl rfl ?_
  refine h_iload_n C dX8_rowsOf_1 1 rfl rfl ?_
  refine h_callV (As := [.int (hpI a)]) (rest := []) C yyX8_isOfAll wd_836 (tX8_isOfAll l D cy z _ a ⟨by omega, by omega⟩ h_3_8) kd_0 rfl rfl ⟨rfl, rfl, Nat.le_of_ble_eq_true rfl, Nat.le_of_ble_eq_true rfl⟩ ⟨Nat.le_of_ble_eq_true rfl, Nat.le_of_ble_eq_true rfl⟩ (Nat.le_of_ble_eq_true rfl) dX8_rowsOf_2 (fun r1 τ1 hp1 => ?_)
  obtain ⟨rfl, rfl⟩ := hp1
  show hpV _ _ _ _ _ _ _ _ _ _ _ _ _ _ _ _ _ _ _ _ _ (_ :: _)
  refine h_if_eq (tgt := 19) C dX8_rowsOf_5 (by decide) ⟨by decide, by decide⟩ (fun h2 => ?_) (fun h2 => ?_)
  · refine h_bipush C dX8_rowsOf_19 (by decide) ?_
    refine h_ireturn C hr hk dX8_rowsOf_21 ?_
    exact ⟨rfl, rfl⟩
  · exfalso; omega
abbrev rX8_ringed : Room := { frames := 2, cells := 0, slots := 0, locals := 41 }
abbrev pX8_ringed (z : Nat) (σ : hpMem) (a : Int) : Option Value → hpMem → Prop := fun r τ => r = some (.int (hpI (-2))) ∧ σ = τ
set_option maxHeartbeats 4000000 in
set_option maxRecDepth 20000 in
theorem tX8_ringed (l : Launch) (D : va_G) (cy : Nat → ClassId) (z : Nat) (σ : hpMem) (a : Int) (ha : hpR a) (h_3_8 : σ 3 8 = 0) : hpM l D cy z yX8_ringed cX8_ringed 2 (some .int) rX8_ringed [.ref (z + 0), .int (hpI a)] σ (pX8_ringed z σ a) := by
  obtain ⟨ha1, ha2⟩ := ha
  refine hp_met rfl (Nat.le_of_ble_eq_true rfl) (fun p e s m below meth c C hr hk => ?_)
  refine h_aload_n C dX8_ringed_0 0 rfl rfl ?_
  refine h_iload_n C dX8_ringed_1 1 rfl rfl ?_
  refine h_callV (As := [.int (hpI a)]) (rest := []) C yyX8_isOfAll wd_836 (tX8_isOfAll l D cy z _ a ⟨by omega, by omega⟩ h_3_8) kd_0 rfl rfl ⟨rfl, rfl, Nat.le_of_ble_eq_true rfl, Nat.le_of_ble_eq_true rfl⟩ ⟨Nat.le_of_ble_eq_true rfl, Nat.le_of_ble_eq_true rfl⟩ (Nat.le_of_ble_eq_true rfl) dX8_ringed_2 (fun r1 τ1 hp1 => ?_)
  obtain ⟨rfl, rfl⟩ := hp1
  show hpV _ _ _ _ _ _ _ _ _ _ _ _ _ _ _ _ _ _ _ _ _ (_ :: _)
  refine h_if_eq (tgt := 19) C dX8_ringed_5 (by decide) ⟨by decide, by decide⟩ (fun h2 => ?_) (fun h2 => ?_)
  · refine h_bipush C dX8_ringed_19 (by decide) ?_
    refine h_ireturn C hr hk dX8_ringed_21 ?_
    exact ⟨rfl, rfl⟩
  · exfalso; omega
abbrev rX8_rings : Room := { frames := 2, cells := 0, slots := 0, locals := 41 }
abbrev pX8_rings (z : Nat) (σ : hpMem) (a : Int) : Option Value → hpMem → Prop := fun r τ => r = some (.int (hpI (-2))) ∧ σ = τ
set_option maxHeartbeats 4000000 in
set_option maxRecDepth 20000 in
theorem tX8_rings (l : Launch) (D : va_G) (cy : Nat → ClassId) (z : Nat) (σ : hpMem) (a : Int) (ha : hpR a) (h_3_8 : σ 3 8 = 0) : hpM l D cy z yX8_rings cX8_rings 2 (some .int) rX8_rings [.ref (z + 0), .int (hpI a)] σ (pX8_rings z σ a) := by
  obtain ⟨ha1, ha2⟩ := ha
  refine hp_met rfl (Nat.le_of_ble_eq_true rfl) (fun p e s m below meth c C hr hk => ?_)
  refine h_aload_n C dX8_rings_0 0 rfl rfl ?_
  refine h_iload_n C dX8_rings_1 1 rfl rfl ?_
  refine h_callV (As := [.int (hpI a)]) (rest := []) C yyX8_isOfAll wd_836 (tX8_isOfAll l D cy z _ a ⟨by omega, by omega⟩ h_3_8) kd_0 rfl rfl ⟨rfl, rfl, Nat.le_of_ble_eq_true rfl, Nat.le_of_ble_eq_true rfl⟩ ⟨Nat.le_of_ble_eq_true rfl, Nat.le_of_ble_eq_true rfl⟩ (Nat.le_of_ble_eq_true rfl) dX8_rings_2 (fun r1 τ1 hp1 => ?_)
  obtain ⟨rfl, rfl⟩ := hp1
  show hpV _ _ _ _ _ _ _ _ _ _ _ _ _ _ _ _ _ _ _ _ _ (_ :: _)
  refine h_if_eq (tgt := 19) C dX8_rings_5 (by decide) ⟨by decide, by decide⟩ (fun h2 => ?_) (fun h2 => ?_)
  · refine h_bipush C dX8_rings_19 (by decide) ?_
    refine h_ireturn C hr hk dX8_rings_21 ?_
    exact ⟨rfl, rfl⟩
  · exfalso; omega
abbrev rX8_gardens : Room := { frames := 2, cells := 0, slots := 0, locals := 41 }
abbrev pX8_gardens (z : Nat) (σ : hpMem) (a : Int) : Option Value → hpMem → Prop := fun r τ => r = some (.int (hpI (-2))) ∧ σ = τ
set_option maxHeartbeats 4000000 in
set_option maxRecDepth 20000 in
theorem tX8_gardens (l : Launch) (D : va_G) (cy : Nat → ClassId) (z : Nat) (σ : hpMem) (a : Int) (ha : hpR a) (h_3_8 : σ 3 8 = 0) : hpM l D cy z yX8_gardens cX8_gardens 2 (some .int) rX8_gardens [.ref (z + 0), .int (hpI a)] σ (pX8_gardens z σ a) := by
  obtain ⟨ha1, ha2⟩ := ha
  refine hp_met rfl (Nat.le_of_ble_eq_true rfl) (fun p e s m below meth c C hr hk => ?_)
  refine h_aload_n C dX8_gardens_0 0 rfl rfl ?_
  refine h_iload_n C dX8_gardens_1 1 rfl rfl ?_
  refine h_callV (As := [.int (hpI a)]) (rest := []) C yyX8_isOfAll wd_836 (tX8_isOfAll l D cy z _ a ⟨by omega, by omega⟩ h_3_8) kd_0 rfl rfl ⟨rfl, rfl, Nat.le_of_ble_eq_true rfl, Nat.le_of_ble_eq_true rfl⟩ ⟨Nat.le_of_ble_eq_true rfl, Nat.le_of_ble_eq_true rfl⟩ (Nat.le_of_ble_eq_true rfl) dX8_gardens_2 (fun r1 τ1 hp1 => ?_)
  obtain ⟨rfl, rfl⟩ := hp1
  show hpV _ _ _ _ _ _ _ _ _ _ _ _ _ _ _ _ _ _ _ _ _ (_ :: _)
  refine h_if_eq (tgt := 19) C dX8_gardens_5 (by decide) ⟨by decide, by decide⟩ (fun h2 => ?_) (fun h2 => ?_)
  · refine h_bipush C dX8_gardens_19 (by decide) ?_
    refine h_ireturn C hr hk dX8_gardens_21 ?_
    exact ⟨rfl, rfl⟩
  · exfalso; omega
abbrev rX8_longest : Room := { frames := 2, cells := 0, slots := 0, locals := 41 }
abbrev pX8_longest (z : Nat) (σ : hpMem) (a : Int) : Option Value → hpMem → Prop := fun r τ => r = some (.int (hpI (-2))) ∧ σ = τ
set_option maxHeartbeats 4000000 in
set_option maxRecDepth 20000 in
theorem tX8_longest (l : Launch) (D : va_G) (cy : Nat → ClassId) (z : Nat) (σ : hpMem) (a : Int) (ha : hpR a) (h_3_8 : σ 3 8 = 0) : hpM l D cy z yX8_longest cX8_longest 2 (some .int) rX8_longest [.ref (z + 0), .int (hpI a)] σ (pX8_longest z σ a) := by
  obtain ⟨ha1, ha2⟩ := ha
  refine hp_met rfl (Nat.le_of_ble_eq_true rfl) (fun p e s m below meth c C hr hk => ?_)
  refine h_aload_n C dX8_longest_0 0 rfl rfl ?_
  refine h_iload_n C dX8_longest_1 1 rfl rfl ?_
  refine h_callV (As := [.int (hpI a)]) (rest := []) C yyX8_isOfAll wd_836 (tX8_isOfAll l D cy z _ a ⟨by omega, by omega⟩ h_3_8) kd_0 rfl rfl ⟨rfl, rfl, Nat.le_of_ble_eq_true rfl, Nat.le_of_ble_eq_true rfl⟩ ⟨Nat.le_of_ble_eq_true rfl, Nat.le_of_ble_eq_true rfl⟩ (Nat.le_of_ble_eq_true rfl) dX8_longest_2 (fun r1 τ1 hp1 => ?_)
  obtain ⟨rfl, rfl⟩ := hp1
  show hpV _ _ _ _ _ _ _ _ _ _ _ _ _ _ _ _ _ _ _ _ _ (_ :: _)
  refine h_if_eq (tgt := 19) C dX8_longest_5 (by decide) ⟨by decide, by decide⟩ (fun h2 => ?_) (fun h2 => ?_)
  · refine h_bipush C dX8_longest_19 (by decide) ?_
    refine h_ireturn C hr hk dX8_longest_21 ?_
    exact ⟨rfl, rfl⟩
  · exfalso; omega
abbrev rX8_ahead : Room := { frames := 2, cells := 0, slots := 0, locals := 41 }
abbrev pX8_ahead (z : Nat) (σ : hpMem) (a : Int) : Option Value → hpMem → Prop := fun r τ => r = some (.int (hpI (-2))) ∧ σ = τ
set_option maxHeartbeats 4000000 in
set_option maxRecDepth 20000 in
theorem tX8_ahead (l : Launch) (D : va_G) (cy : Nat → ClassId) (z : Nat) (σ : hpMem) (a : Int) (ha : hpR a) (h_3_8 : σ 3 8 = 0) : hpM l D cy z yX8_ahead cX8_ahead 3 (some .int) rX8_ahead [.ref (z + 0), .int (hpI a)] σ (pX8_ahead z σ a) := by
  obtain ⟨ha1, ha2⟩ := ha
  refine hp_met rfl (Nat.le_of_ble_eq_true rfl) (fun p e s m below meth c C hr hk => ?_)
  refine h_aload_n C dX8_ahead_0 0 rfl rfl ?_
  refine h_iload_n C dX8_ahead_1 1 rfl rfl ?_
  refine h_callV (As := [.int (hpI a)]) (rest := []) C yyX8_smallRowFault wd_916 (tX8_smallRowFault l D cy z _ a ⟨by omega, by omega⟩ h_3_8) kd_0 rfl rfl ⟨rfl, rfl, Nat.le_of_ble_eq_true rfl, Nat.le_of_ble_eq_true rfl⟩ ⟨Nat.le_of_ble_eq_true rfl, Nat.le_of_ble_eq_true rfl⟩ (Nat.le_of_ble_eq_true rfl) dX8_ahead_2 (fun r1 τ1 hp1 => ?_)
  obtain ⟨rfl, rfl⟩ := hp1
  show hpV _ _ _ _ _ _ _ _ _ _ _ _ _ _ _ _ _ _ _ _ _ (_ :: _)
  refine h_istore_n (lv' := [(2, .int (hpI (-2))), (0, .ref (z + 0)), (1, .int (hpI a))]) C dX8_ahead_5 rfl (by decide) rfl ?_
  refine h_iload_n C dX8_ahead_6 0 rfl rfl ?_
  refine h_if_eq (tgt := 12) C dX8_ahead_7 (by decide) ⟨by decide, by decide⟩ (fun h2 => ?_) (fun h2 => ?_)
  · exfalso; omega
  · refine h_iload_n C dX8_ahead_10 0 rfl rfl ?_
    refine h_ireturn C hr hk dX8_ahead_11 ?_
    exact ⟨rfl, rfl⟩
abbrev rX8_way : Room := { frames := 2, cells := 0, slots := 0, locals := 41 }
abbrev pX8_way (z : Nat) (σ : hpMem) (a : Int) : Option Value → hpMem → Prop := fun r τ => r = some (.int (hpI (-2))) ∧ σ = τ
set_option maxHeartbeats 4000000 in
set_option maxRecDepth 20000 in
theorem tX8_way (l : Launch) (D : va_G) (cy : Nat → ClassId) (z : Nat) (σ : hpMem) (a : Int) (ha : hpR a) (h_3_8 : σ 3 8 = 0) : hpM l D cy z yX8_way cX8_way 3 (some .int) rX8_way [.ref (z + 0), .int (hpI a)] σ (pX8_way z σ a) := by
  obtain ⟨ha1, ha2⟩ := ha
  refine hp_met rfl (Nat.le_of_ble_eq_true rfl) (fun p e s m below meth c C hr hk => ?_)
  refine h_aload_n C dX8_way_0 0 rfl rfl ?_
  refine h_iload_n C dX8_way_1 1 rfl rfl ?_
  refine h_callV (As := [.int (hpI a)]) (rest := []) C yyX8_smallRowFault wd_916 (tX8_smallRowFault l D cy z _ a ⟨by omega, by omega⟩ h_3_8) kd_0 rfl rfl ⟨rfl, rfl, Nat.le_of_ble_eq_true rfl, Nat.le_of_ble_eq_true rfl⟩ ⟨Nat.le_of_ble_eq_true rfl, Nat.le_of_ble_eq_true rfl⟩ (Nat.le_of_ble_eq_true rfl) dX8_way_2 (fun r1 τ1 hp1 => ?_)
  obtain ⟨rfl, rfl⟩ := hp1
  show hpV _ _ _ _ _ _ _ _ _ _ _ _ _ _ _ _ _ _ _ _ _ (_ :: _)
  refine h_istore_n (lv' := [(2, .int (hpI (-2))), (0, .ref (z + 0)), (1, .int (hpI a))]) C dX8_way_5 rfl (by decide) rfl ?_
  refine h_iload_n C dX8_way_6 0 rfl rfl ?_
  refine h_if_eq (tgt := 12) C dX8_way_7 (by decide) ⟨by decide, by decide⟩ (fun h2 => ?_) (fun h2 => ?_)
  · exfalso; omega
  · refine h_iload_n C dX8_way_10 0 rfl rfl ?_
    refine h_ireturn C hr hk dX8_way_11 ?_
    exact ⟨rfl, rfl⟩
abbrev rX8_latest : Room := { frames := 1, cells := 0, slots := 0, locals := 20 }
abbrev pX8_latest (z : Nat) (σ : hpMem) (a : Int) : Option Value → hpMem → Prop := fun r τ => r = some (.int (hpI (-2))) ∧ σ = τ
set_option maxHeartbeats 4000000 in
set_option maxRecDepth 20000 in
theorem tX8_latest (l : Launch) (D : va_G) (cy : Nat → ClassId) (z : Nat) (σ : hpMem) (a : Int) (ha : hpR a) (h_3_8 : σ 3 8 = 0) : hpM l D cy z yX8_latest cX8_latest 3 (some .int) rX8_latest [.ref (z + 0), .int (hpI a)] σ (pX8_latest z σ a) := by
  obtain ⟨ha1, ha2⟩ := ha
  refine hp_met rfl (Nat.le_of_ble_eq_true rfl) (fun p e s m below meth c C hr hk => ?_)
  refine h_aload_n C dX8_latest_0 0 rfl rfl ?_
  refine h_callV (As := []) (rest := []) C yyX8_noMoor wd_572 (tX8_noMoor l D cy z _ h_3_8) kd_0 rfl rfl ⟨rfl, rfl, Nat.le_of_ble_eq_true rfl, Nat.le_of_ble_eq_true rfl⟩ ⟨Nat.le_of_ble_eq_true rfl, Nat.le_of_ble_eq_true rfl⟩ (Nat.le_of_ble_eq_true rfl) dX8_latest_1 (fun r1 τ1 hp1 => ?_)
  obtain ⟨rfl, rfl⟩ := hp1
  show hpV _ _ _ _ _ _ _ _ _ _ _ _ _ _ _ _ _ _ _ _ _ (_ :: _)
  refine h_if_ne (tgt := 17) C dX8_latest_4 (by decide) ⟨by decide, by decide⟩ (fun h2 => ?_) (fun h2 => ?_)
  · refine h_bipush C dX8_latest_17 (by decide) ?_
    refine h_ireturn C hr hk dX8_latest_19 ?_
    exact ⟨rfl, rfl⟩
  · exfalso; omega
abbrev rX8_by : Room := { frames := 1, cells := 0, slots := 0, locals := 20 }
abbrev pX8_by (z : Nat) (σ : hpMem) (a : Int) : Option Value → hpMem → Prop := fun r τ => r = some (.int (hpI (-2))) ∧ σ = τ
set_option maxHeartbeats 4000000 in
set_option maxRecDepth 20000 in
theorem tX8_by (l : Launch) (D : va_G) (cy : Nat → ClassId) (z : Nat) (σ : hpMem) (a : Int) (ha : hpR a) (h_3_8 : σ 3 8 = 0) : hpM l D cy z yX8_by cX8_by 2 (some .int) rX8_by [.ref (z + 0), .int (hpI a)] σ (pX8_by z σ a) := by
  obtain ⟨ha1, ha2⟩ := ha
  refine hp_met rfl (Nat.le_of_ble_eq_true rfl) (fun p e s m below meth c C hr hk => ?_)
  refine h_aload_n C dX8_by_0 0 rfl rfl ?_
  refine h_callV (As := []) (rest := []) C yyX8_noMoor wd_572 (tX8_noMoor l D cy z _ h_3_8) kd_0 rfl rfl ⟨rfl, rfl, Nat.le_of_ble_eq_true rfl, Nat.le_of_ble_eq_true rfl⟩ ⟨Nat.le_of_ble_eq_true rfl, Nat.le_of_ble_eq_true rfl⟩ (Nat.le_of_ble_eq_true rfl) dX8_by_1 (fun r1 τ1 hp1 => ?_)
  obtain ⟨rfl, rfl⟩ := hp1
  show hpV _ _ _ _ _ _ _ _ _ _ _ _ _ _ _ _ _ _ _ _ _ (_ :: _)
  refine h_if_ne (tgt := 16) C dX8_by_4 (by decide) ⟨by decide, by decide⟩ (fun h2 => ?_) (fun h2 => ?_)
  · refine h_bipush C dX8_by_16 (by decide) ?_
    refine h_ireturn C hr hk dX8_by_18 ?_
    exact ⟨rfl, rfl⟩
  · exfalso; omega
abbrev rX8_worth : Room := { frames := 1, cells := 0, slots := 0, locals := 20 }
abbrev pX8_worth (z : Nat) (σ : hpMem) (a : Int) : Option Value → hpMem → Prop := fun r τ => r = some (.int (hpI (-2))) ∧ σ = τ
set_option maxHeartbeats 4000000 in
set_option maxRecDepth 20000 in
theorem tX8_worth (l : Launch) (D : va_G) (cy : Nat → ClassId) (z : Nat) (σ : hpMem) (a : Int) (ha : hpR a) (h_3_8 : σ 3 8 = 0) : hpM l D cy z yX8_worth cX8_worth 2 (some .int) rX8_worth [.ref (z + 0), .int (hpI a)] σ (pX8_worth z σ a) := by
  obtain ⟨ha1, ha2⟩ := ha
  refine hp_met rfl (Nat.le_of_ble_eq_true rfl) (fun p e s m below meth c C hr hk => ?_)
  refine h_aload_n C dX8_worth_0 0 rfl rfl ?_
  refine h_callV (As := []) (rest := []) C yyX8_noMoor wd_572 (tX8_noMoor l D cy z _ h_3_8) kd_0 rfl rfl ⟨rfl, rfl, Nat.le_of_ble_eq_true rfl, Nat.le_of_ble_eq_true rfl⟩ ⟨Nat.le_of_ble_eq_true rfl, Nat.le_of_ble_eq_true rfl⟩ (Nat.le_of_ble_eq_true rfl) dX8_worth_1 (fun r1 τ1 hp1 => ?_)
  obtain ⟨rfl, rfl⟩ := hp1
  show hpV _ _ _ _ _ _ _ _ _ _ _ _ _ _ _ _ _ _ _ _ _ (_ :: _)
  refine h_if_ne (tgt := 24) C dX8_worth_4 (by decide) ⟨by decide, by decide⟩ (fun h2 => ?_) (fun h2 => ?_)
  · refine h_bipush C dX8_worth_24 (by decide) ?_
    refine h_ireturn C hr hk dX8_worth_26 ?_
    exact ⟨rfl, rfl⟩
  · exfalso; omega
abbrev rX8_away : Room := { frames := 2, cells := 0, slots := 0, locals := 41 }
abbrev pX8_away (z : Nat) (σ : hpMem) (a : Int) : Option Value → hpMem → Prop := fun r τ => r = some (.int (hpI (-2))) ∧ σ = τ
set_option maxHeartbeats 4000000 in
set_option maxRecDepth 20000 in
theorem tX8_away (l : Launch) (D : va_G) (cy : Nat → ClassId) (z : Nat) (σ : hpMem) (a : Int) (ha : hpR a) (h_3_8 : σ 3 8 = 0) : hpM l D cy z yX8_away cX8_away 2 (some .int) rX8_away [.ref (z + 0), .int (hpI a)] σ (pX8_away z σ a) := by
  obtain ⟨ha1, ha2⟩ := ha
  refine hp_met rfl (Nat.le_of_ble_eq_true rfl) (fun p e s m below meth c C hr hk => ?_)
  refine h_aload_n C dX8_away_0 0 rfl rfl ?_
  refine h_iload_n C dX8_away_1 1 rfl rfl ?_
  refine h_callV (As := [.int (hpI a)]) (rest := []) C yyX8_isDay wd_568 (tX8_isDay l D cy z _ a ⟨by omega, by omega⟩ h_3_8) kd_0 rfl rfl ⟨rfl, rfl, Nat.le_of_ble_eq_true rfl, Nat.le_of_ble_eq_true rfl⟩ ⟨Nat.le_of_ble_eq_true rfl, Nat.le_of_ble_eq_true rfl⟩ (Nat.le_of_ble_eq_true rfl) dX8_away_2 (fun r1 τ1 hp1 => ?_)
  obtain ⟨rfl, rfl⟩ := hp1
  show hpV _ _ _ _ _ _ _ _ _ _ _ _ _ _ _ _ _ _ _ _ _ (_ :: _)
  refine h_if_eq (tgt := 17) C dX8_away_5 (by decide) ⟨by decide, by decide⟩ (fun h2 => ?_) (fun h2 => ?_)
  · refine h_bipush C dX8_away_17 (by decide) ?_
    refine h_ireturn C hr hk dX8_away_19 ?_
    exact ⟨rfl, rfl⟩
  · exfalso; omega
abbrev rX8_heap : Room := { frames := 2, cells := 0, slots := 0, locals := 41 }
abbrev pX8_heap (z : Nat) (σ : hpMem) (a : Int) (b : Int) : Option Value → hpMem → Prop := fun r τ => r = some (.int (hpI (-2))) ∧ σ = τ
set_option maxHeartbeats 4000000 in
set_option maxRecDepth 20000 in
theorem tX8_heap (l : Launch) (D : va_G) (cy : Nat → ClassId) (z : Nat) (σ : hpMem) (a : Int) (ha : hpR a) (b : Int) (hb : hpR b) (h_3_8 : σ 3 8 = 0) : hpM l D cy z yX8_heap cX8_heap 3 (some .int) rX8_heap [.ref (z + 0), .int (hpI a), .int (hpI b)] σ (pX8_heap z σ a b) := by
  obtain ⟨ha1, ha2⟩ := ha
  obtain ⟨hb1, hb2⟩ := hb
  refine hp_met rfl (Nat.le_of_ble_eq_true rfl) (fun p e s m below meth c C hr hk => ?_)
  refine h_aload_n C dX8_heap_0 0 rfl rfl ?_
  refine h_iload_n C dX8_heap_1 1 rfl rfl ?_
  refine h_callV (As := [.int (hpI a)]) (rest := []) C yyX8_isDay wd_568 (tX8_isDay l D cy z _ a ⟨by omega, by omega⟩ h_3_8) kd_0 rfl rfl ⟨rfl, rfl, Nat.le_of_ble_eq_true rfl, Nat.le_of_ble_eq_true rfl⟩ ⟨Nat.le_of_ble_eq_true rfl, Nat.le_of_ble_eq_true rfl⟩ (Nat.le_of_ble_eq_true rfl) dX8_heap_2 (fun r1 τ1 hp1 => ?_)
  obtain ⟨rfl, rfl⟩ := hp1
  show hpV _ _ _ _ _ _ _ _ _ _ _ _ _ _ _ _ _ _ _ _ _ (_ :: _)
  refine h_if_eq (tgt := 12) C dX8_heap_5 (by decide) ⟨by decide, by decide⟩ (fun h2 => ?_) (fun h2 => ?_)
  · refine h_bipush C dX8_heap_12 (by decide) ?_
    refine h_ireturn C hr hk dX8_heap_14 ?_
    exact ⟨rfl, rfl⟩
  · exfalso; omega
abbrev rX8_many : Room := { frames := 2, cells := 0, slots := 0, locals := 41 }
abbrev pX8_many (z : Nat) (σ : hpMem) (a : Int) (b : Int) : Option Value → hpMem → Prop := fun r τ => r = some (.int (hpI (-2))) ∧ σ = τ
set_option maxHeartbeats 4000000 in
set_option maxRecDepth 20000 in
theorem tX8_many (l : Launch) (D : va_G) (cy : Nat → ClassId) (z : Nat) (σ : hpMem) (a : Int) (ha : hpR a) (b : Int) (hb : hpR b) (h_3_8 : σ 3 8 = 0) : hpM l D cy z yX8_many cX8_many 3 (some .int) rX8_many [.ref (z + 0), .int (hpI a), .int (hpI b)] σ (pX8_many z σ a b) := by
  obtain ⟨ha1, ha2⟩ := ha
  obtain ⟨hb1, hb2⟩ := hb
  refine hp_met rfl (Nat.le_of_ble_eq_true rfl) (fun p e s m below meth c C hr hk => ?_)
  refine h_aload_n C dX8_many_0 0 rfl rfl ?_
  refine h_iload_n C dX8_many_1 1 rfl rfl ?_
  refine h_callV (As := [.int (hpI a)]) (rest := []) C yyX8_isDay wd_568 (tX8_isDay l D cy z _ a ⟨by omega, by omega⟩ h_3_8) kd_0 rfl rfl ⟨rfl, rfl, Nat.le_of_ble_eq_true rfl, Nat.le_of_ble_eq_true rfl⟩ ⟨Nat.le_of_ble_eq_true rfl, Nat.le_of_ble_eq_true rfl⟩ (Nat.le_of_ble_eq_true rfl) dX8_many_2 (fun r1 τ1 hp1 => ?_)
  obtain ⟨rfl, rfl⟩ := hp1
  show hpV _ _ _ _ _ _ _ _ _ _ _ _ _ _ _ _ _ _ _ _ _ (_ :: _)
  refine h_if_eq (tgt := 20) C dX8_many_5 (by decide) ⟨by decide, by decide⟩ (fun h2 => ?_) (fun h2 => ?_)
  · refine h_bipush C dX8_many_20 (by decide) ?_
    refine h_ireturn C hr hk dX8_many_22 ?_
    exact ⟨rfl, rfl⟩
  · exfalso; omega
abbrev rX8_flip : Room := { frames := 2, cells := 0, slots := 0, locals := 41 }
abbrev pX8_flip (z : Nat) (σ : hpMem) (a : Int) (b : Int) : Option Value → hpMem → Prop := fun r τ => r = some (.int (hpI (-2))) ∧ σ = τ
set_option maxHeartbeats 4000000 in
set_option maxRecDepth 20000 in
theorem tX8_flip (l : Launch) (D : va_G) (cy : Nat → ClassId) (z : Nat) (σ : hpMem) (a : Int) (ha : hpR a) (b : Int) (hb : hpR b) (h_3_8 : σ 3 8 = 0) : hpM l D cy z yX8_flip cX8_flip 4 (some .int) rX8_flip [.ref (z + 0), .int (hpI a), .int (hpI b)] σ (pX8_flip z σ a b) := by
  obtain ⟨ha1, ha2⟩ := ha
  obtain ⟨hb1, hb2⟩ := hb
  refine hp_met rfl (Nat.le_of_ble_eq_true rfl) (fun p e s m below meth c C hr hk => ?_)
  refine h_aload_n C dX8_flip_0 0 rfl rfl ?_
  refine h_iload_n C dX8_flip_1 1 rfl rfl ?_
  refine h_callV (As := [.int (hpI a)]) (rest := []) C yyX8_isDay wd_568 (tX8_isDay l D cy z _ a ⟨by omega, by omega⟩ h_3_8) kd_0 rfl rfl ⟨rfl, rfl, Nat.le_of_ble_eq_true rfl, Nat.le_of_ble_eq_true rfl⟩ ⟨Nat.le_of_ble_eq_true rfl, Nat.le_of_ble_eq_true rfl⟩ (Nat.le_of_ble_eq_true rfl) dX8_flip_2 (fun r1 τ1 hp1 => ?_)
  obtain ⟨rfl, rfl⟩ := hp1
  show hpV _ _ _ _ _ _ _ _ _ _ _ _ _ _ _ _ _ _ _ _ _ (_ :: _)
  refine h_if_eq (tgt := 12) C dX8_flip_5 (by decide) ⟨by decide, by decide⟩ (fun h2 => ?_) (fun h2 => ?_)
  · refine h_bipush C dX8_flip_12 (by decide) ?_
    refine h_ireturn C hr hk dX8_flip_14 ?_
    exact ⟨rfl, rfl⟩
  · exfalso; omega
abbrev rX8_above : Room := { frames := 2, cells := 0, slots := 0, locals := 41 }
abbrev pX8_above (z : Nat) (σ : hpMem) (a : Int) (b : Int) : Option Value → hpMem → Prop := fun r τ => r = some (.int (hpI (-2))) ∧ σ = τ
set_option maxHeartbeats 4000000 in
set_option maxRecDepth 20000 in
theorem tX8_above (l : Launch) (D : va_G) (cy : Nat → ClassId) (z : Nat) (σ : hpMem) (a : Int) (ha : hpR a) (b : Int) (hb : hpR b) (h_3_8 : σ 3 8 = 0) : hpM l D cy z yX8_above cX8_above 3 (some .int) rX8_above [.ref (z + 0), .int (hpI a), .int (hpI b)] σ (pX8_above z σ a b) := by
  obtain ⟨ha1, ha2⟩ := ha
  obtain ⟨hb1, hb2⟩ := hb
  refine hp_met rfl (Nat.le_of_ble_eq_true rfl) (fun p e s m below meth c C hr hk => ?_)
  refine h_aload_n C dX8_above_0 0 rfl rfl ?_
  refine h_iload_n C dX8_above_1 1 rfl rfl ?_
  refine h_callV (As := [.int (hpI a)]) (rest := []) C yyX8_isDay wd_568 (tX8_isDay l D cy z _ a ⟨by omega, by omega⟩ h_3_8) kd_0 rfl rfl ⟨rfl, rfl, Nat.le_of_ble_eq_true rfl, Nat.le_of_ble_eq_true rfl⟩ ⟨Nat.le_of_ble_eq_true rfl, Nat.le_of_ble_eq_true rfl⟩ (Nat.le_of_ble_eq_true rfl) dX8_above_2 (fun r1 τ1 hp1 => ?_)
  obtain ⟨rfl, rfl⟩ := hp1
  show hpV _ _ _ _ _ _ _ _ _ _ _ _ _ _ _ _ _ _ _ _ _ (_ :: _)
  refine h_if_eq (tgt := 16) C dX8_above_5 (by decide) ⟨by decide, by decide⟩ (fun h2 => ?_) (fun h2 => ?_)
  · refine h_bipush C dX8_above_16 (by decide) ?_
    refine h_ireturn C hr hk dX8_above_18 ?_
    exact ⟨rfl, rfl⟩
  · exfalso; omega
abbrev rX8_bring : Room := { frames := 3, cells := 0, slots := 0, locals := 62 }
abbrev pX8_bring (z : Nat) (σ : hpMem) (a : Int) (b : Int) : Option Value → hpMem → Prop := fun r τ => r = some (.int (hpI (-2))) ∧ σ = τ
set_option maxHeartbeats 4000000 in
set_option maxRecDepth 20000 in
theorem tX8_bring (l : Launch) (D : va_G) (cy : Nat → ClassId) (z : Nat) (σ : hpMem) (a : Int) (ha : hpR a) (b : Int) (hb : hpR b) (h_3_8 : σ 3 8 = 0) : hpM l D cy z yX8_bring cX8_bring 4 (some .int) rX8_bring [.ref (z + 0), .int (hpI a), .int (hpI b)] σ (pX8_bring z σ a b) := by
  obtain ⟨ha1, ha2⟩ := ha
  obtain ⟨hb1, hb2⟩ := hb
  refine hp_met rfl (Nat.le_of_ble_eq_true rfl) (fun p e s m below meth c C hr hk => ?_)
  refine h_aload_n C dX8_bring_0 0 rfl rfl ?_
  refine h_iload_n C dX8_bring_1 1 rfl rfl ?_
  refine h_callV (As := [.int (hpI a)]) (rest := []) C yyX8_isDayAheadOfLast wd_683 (tX8_isDayAheadOfLast l D cy z _ a ⟨by omega, by omega⟩ h_3_8) kd_0 rfl rfl ⟨rfl, rfl, Nat.le_of_ble_eq_true rfl, Nat.le_of_ble_eq_true rfl⟩ ⟨Nat.le_of_ble_eq_true rfl, Nat.le_of_ble_eq_true rfl⟩ (Nat.le_of_ble_eq_true rfl) dX8_bring_2 (fun r1 τ1 hp1 => ?_)
  obtain ⟨rfl, rfl⟩ := hp1
  show hpV _ _ _ _ _ _ _ _ _ _ _ _ _ _ _ _ _ _ _ _ _ (_ :: _)
  refine h_if_eq (tgt := 18) C dX8_bring_5 (by decide) ⟨by decide, by decide⟩ (fun h2 => ?_) (fun h2 => ?_)
  · refine h_bipush C dX8_bring_18 (by decide) ?_
    refine h_ireturn C hr hk dX8_bring_20 ?_
    exact ⟨rfl, rfl⟩
  · exfalso; omega
abbrev rX8_wins : Room := { frames := 2, cells := 0, slots := 0, locals := 41 }
abbrev pX8_wins (z : Nat) (σ : hpMem) (a : Int) (b : Int) : Option Value → hpMem → Prop := fun r τ => r = some (.int (hpI (-2))) ∧ σ = τ
set_option maxHeartbeats 4000000 in
set_option maxRecDepth 20000 in
theorem tX8_wins (l : Launch) (D : va_G) (cy : Nat → ClassId) (z : Nat) (σ : hpMem) (a : Int) (ha : hpR a) (b : Int) (hb : hpR b) (h_3_8 : σ 3 8 = 0) : hpM l D cy z yX8_wins cX8_wins 3 (some .int) rX8_wins [.ref (z + 0), .int (hpI a), .int (hpI b)] σ (pX8_wins z σ a b) := by
  obtain ⟨ha1, ha2⟩ := ha
  obtain ⟨hb1, hb2⟩ := hb
  refine hp_met rfl (Nat.le_of_ble_eq_true rfl) (fun p e s m below meth c C hr hk => ?_)
  refine h_aload_n C dX8_wins_0 0 rfl rfl ?_
  refine h_iload_n C dX8_wins_1 1 rfl rfl ?_
  refine h_callV (As := [.int (hpI a)]) (rest := []) C yyX8_isDay wd_568 (tX8_isDay l D cy z _ a ⟨by omega, by omega⟩ h_3_8) kd_0 rfl rfl ⟨rfl, rfl, Nat.le_of_ble_eq_true rfl, Nat.le_of_ble_eq_true rfl⟩ ⟨Nat.le_of_ble_eq_true rfl, Nat.le_of_ble_eq_true rfl⟩ (Nat.le_of_ble_eq_true rfl) dX8_wins_2 (fun r1 τ1 hp1 => ?_)
  obtain ⟨rfl, rfl⟩ := hp1
  show hpV _ _ _ _ _ _ _ _ _ _ _ _ _ _ _ _ _ _ _ _ _ (_ :: _)
  refine h_if_eq (tgt := 20) C dX8_wins_5 (by decide) ⟨by decide, by decide⟩ (fun h2 => ?_) (fun h2 => ?_)
  · refine h_bipush C dX8_wins_20 (by decide) ?_
    refine h_ireturn C hr hk dX8_wins_22 ?_
    exact ⟨rfl, rfl⟩
  · exfalso; omega
abbrev rX8_moves : Room := { frames := 2, cells := 0, slots := 0, locals := 41 }
abbrev pX8_moves (z : Nat) (σ : hpMem) (a : Int) (b : Int) : Option Value → hpMem → Prop := fun r τ => r = some (.int (hpI (-2))) ∧ σ = τ
set_option maxHeartbeats 4000000 in
set_option maxRecDepth 20000 in
theorem tX8_moves (l : Launch) (D : va_G) (cy : Nat → ClassId) (z : Nat) (σ : hpMem) (a : Int) (ha : hpR a) (b : Int) (hb : hpR b) (h_3_8 : σ 3 8 = 0) : hpM l D cy z yX8_moves cX8_moves 6 (some .int) rX8_moves [.ref (z + 0), .int (hpI a), .int (hpI b)] σ (pX8_moves z σ a b) := by
  obtain ⟨ha1, ha2⟩ := ha
  obtain ⟨hb1, hb2⟩ := hb
  refine hp_met rfl (Nat.le_of_ble_eq_true rfl) (fun p e s m below meth c C hr hk => ?_)
  refine h_aload_n C dX8_moves_0 0 rfl rfl ?_
  refine h_iload_n C dX8_moves_1 1 rfl rfl ?_
  refine h_callV (As := [.int (hpI a)]) (rest := []) C yyX8_isDay wd_568 (tX8_isDay l D cy z _ a ⟨by omega, by omega⟩ h_3_8) kd_0 rfl rfl ⟨rfl, rfl, Nat.le_of_ble_eq_true rfl, Nat.le_of_ble_eq_true rfl⟩ ⟨Nat.le_of_ble_eq_true rfl, Nat.le_of_ble_eq_true rfl⟩ (Nat.le_of_ble_eq_true rfl) dX8_moves_2 (fun r1 τ1 hp1 => ?_)
  obtain ⟨rfl, rfl⟩ := hp1
  show hpV _ _ _ _ _ _ _ _ _ _ _ _ _ _ _ _ _ _ _ _ _ (_ :: _)
  refine h_if_eq (tgt := 20) C dX8_moves_5 (by decide) ⟨by decide, by decide⟩ (fun h2 => ?_) (fun h2 => ?_)
  · refine h_bipush C dX8_moves_20 (by decide) ?_
    refine h_ireturn C hr hk dX8_moves_22 ?_
    exact ⟨rfl, rfl⟩
  · exfalso; omega
abbrev rX8_move : Room := { frames := 2, cells := 0, slots := 0, locals := 41 }
abbrev pX8_move (z : Nat) (σ : hpMem) (a : Int) (b : Int) : Option Value → hpMem → Prop := fun r τ => r = some (.int (hpI (-2))) ∧ σ = τ
set_option maxHeartbeats 4000000 in
set_option maxRecDepth 20000 in
theorem tX8_move (l : Launch) (D : va_G) (cy : Nat → ClassId) (z : Nat) (σ : hpMem) (a : Int) (ha : hpR a) (b : Int) (hb : hpR b) (h_3_8 : σ 3 8 = 0) : hpM l D cy z yX8_move cX8_move 6 (some .int) rX8_move [.ref (z + 0), .int (hpI a), .int (hpI b)] σ (pX8_move z σ a b) := by
  obtain ⟨ha1, ha2⟩ := ha
  obtain ⟨hb1, hb2⟩ := hb
  refine hp_met rfl (Nat.le_of_ble_eq_true rfl) (fun p e s m below meth c C hr hk => ?_)
  refine h_aload_n C dX8_move_0 0 rfl rfl ?_
  refine h_iload_n C dX8_move_1 1 rfl rfl ?_
  refine h_callV (As := [.int (hpI a)]) (rest := []) C yyX8_isDay wd_568 (tX8_isDay l D cy z _ a ⟨by omega, by omega⟩ h_3_8) kd_0 rfl rfl ⟨rfl, rfl, Nat.le_of_ble_eq_true rfl, Nat.le_of_ble_eq_true rfl⟩ ⟨Nat.le_of_ble_eq_true rfl, Nat.le_of_ble_eq_true rfl⟩ (Nat.le_of_ble_eq_true rfl) dX8_move_2 (fun r1 τ1 hp1 => ?_)
  obtain ⟨rfl, rfl⟩ := hp1
  show hpV _ _ _ _ _ _ _ _ _ _ _ _ _ _ _ _ _ _ _ _ _ (_ :: _)
  refine h_if_eq (tgt := 20) C dX8_move_5 (by decide) ⟨by decide, by decide⟩ (fun h2 => ?_) (fun h2 => ?_)
  · refine h_bipush C dX8_move_20 (by decide) ?_
    refine h_ireturn C hr hk dX8_move_22 ?_
    exact ⟨rfl, rfl⟩
  · exfalso; omega
abbrev rX8_brings : Room := { frames := 2, cells := 0, slots := 0, locals := 41 }
abbrev pX8_brings (z : Nat) (σ : hpMem) (a : Int) (b : Int) : Option Value → hpMem → Prop := fun r τ => r = some (.int (hpI (-2))) ∧ σ = τ
set_option maxHeartbeats 4000000 in
set_option maxRecDepth 20000 in
theorem tX8_brings (l : Launch) (D : va_G) (cy : Nat → ClassId) (z : Nat) (σ : hpMem) (a : Int) (ha : hpR a) (b : Int) (hb : hpR b) (h_3_8 : σ 3 8 = 0) : hpM l D cy z yX8_brings cX8_brings 3 (some .int) rX8_brings [.ref (z + 0), .int (hpI a), .int (hpI b)] σ (pX8_brings z σ a b) := by
  obtain ⟨ha1, ha2⟩ := ha
  obtain ⟨hb1, hb2⟩ := hb
  refine hp_met rfl (Nat.le_of_ble_eq_true rfl) (fun p e s m below meth c C hr hk => ?_)
  refine h_aload_n C dX8_brings_0 0 rfl rfl ?_
  refine h_iload_n C dX8_brings_1 2 rfl rfl ?_
  refine h_callV (As := [.int (hpI b)]) (rest := []) C yyX8_isDay wd_568 (tX8_isDay l D cy z _ b ⟨by omega, by omega⟩ h_3_8) kd_0 rfl rfl ⟨rfl, rfl, Nat.le_of_ble_eq_true rfl, Nat.le_of_ble_eq_true rfl⟩ ⟨Nat.le_of_ble_eq_true rfl, Nat.le_of_ble_eq_true rfl⟩ (Nat.le_of_ble_eq_true rfl) dX8_brings_2 (fun r1 τ1 hp1 => ?_)
  obtain ⟨rfl, rfl⟩ := hp1
  show hpV _ _ _ _ _ _ _ _ _ _ _ _ _ _ _ _ _ _ _ _ _ (_ :: _)
  refine h_if_eq (tgt := 19) C dX8_brings_5 (by decide) ⟨by decide, by decide⟩ (fun h2 => ?_) (fun h2 => ?_)
  · refine h_bipush C dX8_brings_19 (by decide) ?_
    refine h_ireturn C hr hk dX8_brings_21 ?_
    exact ⟨rfl, rfl⟩
  · exfalso; omega
abbrev rX8_later : Room := { frames := 2, cells := 0, slots := 0, locals := 41 }
abbrev pX8_later (z : Nat) (σ : hpMem) (a : Int) (b : Int) (c0 : Int) : Option Value → hpMem → Prop := fun r τ => r = some (.int (hpI (-2))) ∧ σ = τ
set_option maxHeartbeats 4000000 in
set_option maxRecDepth 20000 in
theorem tX8_later (l : Launch) (D : va_G) (cy : Nat → ClassId) (z : Nat) (σ : hpMem) (a : Int) (ha : hpR a) (b : Int) (hb : hpR b) (c0 : Int) (hc0 : hpR c0) (h_3_8 : σ 3 8 = 0) : hpM l D cy z yX8_later cX8_later 5 (some .int) rX8_later [.ref (z + 0), .int (hpI a), .int (hpI b), .int (hpI c0)] σ (pX8_later z σ a b c0) := by
  obtain ⟨ha1, ha2⟩ := ha
  obtain ⟨hb1, hb2⟩ := hb
  obtain ⟨hc01, hc02⟩ := hc0
  refine hp_met rfl (Nat.le_of_ble_eq_true rfl) (fun p e s m below meth c C hr hk => ?_)
  refine h_aload_n C dX8_later_0 0 rfl rfl ?_
  refine h_iload_n C dX8_later_1 1 rfl rfl ?_
  refine h_callV (As := [.int (hpI a)]) (rest := []) C yyX8_isDay wd_568 (tX8_isDay l D cy z _ a ⟨by omega, by omega⟩ h_3_8) kd_0 rfl rfl ⟨rfl, rfl, Nat.le_of_ble_eq_true rfl, Nat.le_of_ble_eq_true rfl⟩ ⟨Nat.le_of_ble_eq_true rfl, Nat.le_of_ble_eq_true rfl⟩ (Nat.le_of_ble_eq_true rfl) dX8_later_2 (fun r1 τ1 hp1 => ?_)
  obtain ⟨rfl, rfl⟩ := hp1
  show hpV _ _ _ _ _ _ _ _ _ _ _ _ _ _ _ _ _ _ _ _ _ (_ :: _)
  refine h_if_eq (tgt := 23) C dX8_later_5 (by decide) ⟨by decide, by decide⟩ (fun h2 => ?_) (fun h2 => ?_)
  · refine h_bipush C dX8_later_23 (by decide) ?_
    refine h_ireturn C hr hk dX8_later_25 ?_
    exact ⟨rfl, rfl⟩
  · exfalso; omega
abbrev rX8_from : Room := { frames := 2, cells := 0, slots := 0, locals := 41 }
abbrev pX8_from (z : Nat) (σ : hpMem) (a : Int) (b : Int) : Option Value → hpMem → Prop := fun r τ => r = some (.int (hpI (-2))) ∧ σ = τ
set_option maxHeartbeats 4000000 in
set_option maxRecDepth 20000 in
theorem tX8_from (l : Launch) (D : va_G) (cy : Nat → ClassId) (z : Nat) (σ : hpMem) (a : Int) (ha : hpR a) (b : Int) (hb : hpR b) (h_3_8 : σ 3 8 = 0) : hpM l D cy z yX8_from cX8_from 4 (some .int) rX8_from [.ref (z + 0), .int (hpI a), .int (hpI b)] σ (pX8_from z σ a b) := by
  obtain ⟨ha1, ha2⟩ := ha
  obtain ⟨hb1, hb2⟩ := hb
  refine hp_met rfl (Nat.le_of_ble_eq_true rfl) (fun p e s m below meth c C hr hk => ?_)
  refine h_iload_n C dX8_from_0 2 rfl rfl ?_
  refine h_if_ge (tgt := 9) C dX8_from_1 (by decide) ⟨by omega, by omega⟩ (fun h1 => ?_) (fun h1 => ?_)
  · refine h_aload_n C dX8_from_9 0 rfl rfl ?_
    refine h_iload_n C dX8_from_10 1 rfl rfl ?_
    refine h_callV (As := [.int (hpI a)]) (rest := []) C yyX8_smallRowFault wd_916 (tX8_smallRowFault l D cy z _ a ⟨by omega, by omega⟩ h_3_8) kd_0 rfl rfl ⟨rfl, rfl, Nat.le_of_ble_eq_true rfl, Nat.le_of_ble_eq_true rfl⟩ ⟨Nat.le_of_ble_eq_true rfl, Nat.le_of_ble_eq_true rfl⟩ (Nat.le_of_ble_eq_true rfl) dX8_from_11 (fun r2 τ2 hp2 => ?_)
    obtain ⟨rfl, rfl⟩ := hp2
    show hpV _ _ _ _ _ _ _ _ _ _ _ _ _ _ _ _ _ _ _ _ _ (_ :: _)
    refine h_istore_n (lv' := [(3, .int (hpI (-2))), (0, .ref (z + 0)), (1, .int (hpI a)), (2, .int (hpI b))]) C dX8_from_14 rfl (by decide) rfl ?_
    refine h_iload_n C dX8_from_15 0 rfl rfl ?_
    refine h_if_eq (tgt := 21) C dX8_from_16 (by decide) ⟨by decide, by decide⟩ (fun h3 => ?_) (fun h3 => ?_)
    · exfalso; omega
    · refine h_iload_n C dX8_from_19 0 rfl rfl ?_
      refine h_ireturn C hr hk dX8_from_20 ?_
      exact ⟨rfl, rfl⟩
  · refine h_bipush C dX8_from_4 (by decide) ?_
    refine h_goto (tgt := 14) C dX8_from_6 (by decide) ?_
    refine h_istore_n (lv' := [(3, .int (hpI (-2))), (0, .ref (z + 0)), (1, .int (hpI a)), (2, .int (hpI b))]) C dX8_from_14 rfl (by decide) rfl ?_
    refine h_iload_n C dX8_from_15 0 rfl rfl ?_
    refine h_if_eq (tgt := 21) C dX8_from_16 (by decide) ⟨by decide, by decide⟩ (fun h4 => ?_) (fun h4 => ?_)
    · exfalso; omega
    · refine h_iload_n C dX8_from_19 0 rfl rfl ?_
      refine h_ireturn C hr hk dX8_from_20 ?_
      exact ⟨rfl, rfl⟩
abbrev rX8_heights : Room := { frames := 2, cells := 0, slots := 0, locals := 42 }
abbrev pX8_heights (z : Nat) (σ : hpMem) (a : Int) (b : Int) : Option Value → hpMem → Prop := fun r τ => r = some (.int (hpI (-2))) ∧ σ = τ
set_option maxHeartbeats 4000000 in
set_option maxRecDepth 20000 in
theorem tX8_heights (l : Launch) (D : va_G) (cy : Nat → ClassId) (z : Nat) (σ : hpMem) (a : Int) (ha : hpR a) (b : Int) (hb : hpR b) (h_3_9 : σ 3 9 = 0) : hpM l D cy z yX8_heights cX8_heights 4 (some .int) rX8_heights [.ref (z + 0), .int (hpI a), .int (hpI b)] σ (pX8_heights z σ a b) := by
  obtain ⟨ha1, ha2⟩ := ha
  obtain ⟨hb1, hb2⟩ := hb
  refine hp_met rfl (Nat.le_of_ble_eq_true rfl) (fun p e s m below meth c C hr hk => ?_)
  refine h_aload_n C dX8_heights_0 0 rfl rfl ?_
  refine h_iload_n C dX8_heights_1 1 rfl rfl ?_
  refine h_aload_n C dX8_heights_2 0 rfl rfl ?_
  refine h_iload_n C dX8_heights_3 2 rfl rfl ?_
  refine h_callV (As := [.int (hpI b)]) (rest := [.int (hpI a), .ref (z + 0)]) C yyX8_isTold wd_549 (tX8_isTold l D cy z _ b ⟨by omega, by omega⟩ h_3_9) kd_0 rfl rfl ⟨rfl, rfl, Nat.le_of_ble_eq_true rfl, Nat.le_of_ble_eq_true rfl⟩ ⟨Nat.le_of_ble_eq_true rfl, Nat.le_of_ble_eq_true rfl⟩ (Nat.le_of_ble_eq_true rfl) dX8_heights_4 (fun r1 τ1 hp1 => ?_)
  obtain ⟨rfl, rfl⟩ := hp1
  show hpV _ _ _ _ _ _ _ _ _ _ _ _ _ _ _ _ _ _ _ _ _ (_ :: _)
  refine h_callV (As := [.int (hpI a), .int (hpI 0)]) (rest := []) C yyX8_seenFault wd_977 (tX8_seenFault l D cy z _ a ⟨by omega, by omega⟩) kd_0 rfl rfl ⟨rfl, rfl, Nat.le_of_ble_eq_true rfl, Nat.le_of_ble_eq_true rfl⟩ ⟨Nat.le_of_ble_eq_true rfl, Nat.le_of_ble_eq_true rfl⟩ (Nat.le_of_ble_eq_true rfl) dX8_heights_7 (fun r2 τ2 hp2 => ?_)
  obtain ⟨rfl, rfl⟩ := hp2
  show hpV _ _ _ _ _ _ _ _ _ _ _ _ _ _ _ _ _ _ _ _ _ (_ :: _)
  refine h_istore_n (lv' := [(3, .int (hpI (-2))), (0, .ref (z + 0)), (1, .int (hpI a)), (2, .int (hpI b))]) C dX8_heights_10 rfl (by decide) rfl ?_
  refine h_iload_n C dX8_heights_11 0 rfl rfl ?_
  refine h_if_eq (tgt := 19) C dX8_heights_12 (by decide) ⟨by decide, by decide⟩ (fun h3 => ?_) (fun h3 => ?_)
  · exfalso; omega
  · refine h_iload_n C dX8_heights_15 0 rfl rfl ?_
    refine h_goto (tgt := 28) C dX8_heights_16 (by decide) ?_
    refine h_ireturn C hr hk dX8_heights_28 ?_
    exact ⟨rfl, rfl⟩
abbrev rX8_least : Room := { frames := 2, cells := 0, slots := 0, locals := 42 }
abbrev pX8_least (z : Nat) (σ : hpMem) (a : Int) (b : Int) : Option Value → hpMem → Prop := fun r τ => r = some (.int (hpI (-2))) ∧ σ = τ
set_option maxHeartbeats 4000000 in
set_option maxRecDepth 20000 in
theorem tX8_least (l : Launch) (D : va_G) (cy : Nat → ClassId) (z : Nat) (σ : hpMem) (a : Int) (ha : hpR a) (b : Int) (hb : hpR b) (h_3_9 : σ 3 9 = 0) : hpM l D cy z yX8_least cX8_least 4 (some .int) rX8_least [.ref (z + 0), .int (hpI a), .int (hpI b)] σ (pX8_least z σ a b) := by
  obtain ⟨ha1, ha2⟩ := ha
  obtain ⟨hb1, hb2⟩ := hb
  refine hp_met rfl (Nat.le_of_ble_eq_true rfl) (fun p e s m below meth c C hr hk => ?_)
  refine h_aload_n C dX8_least_0 0 rfl rfl ?_
  refine h_iload_n C dX8_least_1 1 rfl rfl ?_
  refine h_aload_n C dX8_least_2 0 rfl rfl ?_
  refine h_iload_n C dX8_least_3 2 rfl rfl ?_
  refine h_callV (As := [.int (hpI b)]) (rest := [.int (hpI a), .ref (z + 0)]) C yyX8_isTold wd_549 (tX8_isTold l D cy z _ b ⟨by omega, by omega⟩ h_3_9) kd_0 rfl rfl ⟨rfl, rfl, Nat.le_of_ble_eq_true rfl, Nat.le_of_ble_eq_true rfl⟩ ⟨Nat.le_of_ble_eq_true rfl, Nat.le_of_ble_eq_true rfl⟩ (Nat.le_of_ble_eq_true rfl) dX8_least_4 (fun r1 τ1 hp1 => ?_)
  obtain ⟨rfl, rfl⟩ := hp1
  show hpV _ _ _ _ _ _ _ _ _ _ _ _ _ _ _ _ _ _ _ _ _ (_ :: _)
  refine h_callV (As := [.int (hpI a), .int (hpI 0)]) (rest := []) C yyX8_seenFault wd_977 (tX8_seenFault l D cy z _ a ⟨by omega, by omega⟩) kd_0 rfl rfl ⟨rfl, rfl, Nat.le_of_ble_eq_true rfl, Nat.le_of_ble_eq_true rfl⟩ ⟨Nat.le_of_ble_eq_true rfl, Nat.le_of_ble_eq_true rfl⟩ (Nat.le_of_ble_eq_true rfl) dX8_least_7 (fun r2 τ2 hp2 => ?_)
  obtain ⟨rfl, rfl⟩ := hp2
  show hpV _ _ _ _ _ _ _ _ _ _ _ _ _ _ _ _ _ _ _ _ _ (_ :: _)
  refine h_istore_n (lv' := [(3, .int (hpI (-2))), (0, .ref (z + 0)), (1, .int (hpI a)), (2, .int (hpI b))]) C dX8_least_10 rfl (by decide) rfl ?_
  refine h_iload_n C dX8_least_11 0 rfl rfl ?_
  refine h_if_eq (tgt := 19) C dX8_least_12 (by decide) ⟨by decide, by decide⟩ (fun h3 => ?_) (fun h3 => ?_)
  · exfalso; omega
  · refine h_iload_n C dX8_least_15 0 rfl rfl ?_
    refine h_goto (tgt := 28) C dX8_least_16 (by decide) ?_
    refine h_ireturn C hr hk dX8_least_28 ?_
    exact ⟨rfl, rfl⟩
abbrev rX8_greatest : Room := { frames := 2, cells := 0, slots := 0, locals := 42 }
abbrev pX8_greatest (z : Nat) (σ : hpMem) (a : Int) (b : Int) : Option Value → hpMem → Prop := fun r τ => r = some (.int (hpI (-2))) ∧ σ = τ
set_option maxHeartbeats 4000000 in
set_option maxRecDepth 20000 in
theorem tX8_greatest (l : Launch) (D : va_G) (cy : Nat → ClassId) (z : Nat) (σ : hpMem) (a : Int) (ha : hpR a) (b : Int) (hb : hpR b) (h_3_9 : σ 3 9 = 0) : hpM l D cy z yX8_greatest cX8_greatest 4 (some .int) rX8_greatest [.ref (z + 0), .int (hpI a), .int (hpI b)] σ (pX8_greatest z σ a b) := by
  obtain ⟨ha1, ha2⟩ := ha
  obtain ⟨hb1, hb2⟩ := hb
  refine hp_met rfl (Nat.le_of_ble_eq_true rfl) (fun p e s m below meth c C hr hk => ?_)
  refine h_aload_n C dX8_greatest_0 0 rfl rfl ?_
  refine h_iload_n C dX8_greatest_1 1 rfl rfl ?_
  refine h_aload_n C dX8_greatest_2 0 rfl rfl ?_
  refine h_iload_n C dX8_greatest_3 2 rfl rfl ?_
  refine h_callV (As := [.int (hpI b)]) (rest := [.int (hpI a), .ref (z + 0)]) C yyX8_isTold wd_549 (tX8_isTold l D cy z _ b ⟨by omega, by omega⟩ h_3_9) kd_0 rfl rfl ⟨rfl, rfl, Nat.le_of_ble_eq_true rfl, Nat.le_of_ble_eq_true rfl⟩ ⟨Nat.le_of_ble_eq_true rfl, Nat.le_of_ble_eq_true rfl⟩ (Nat.le_of_ble_eq_true rfl) dX8_greatest_4 (fun r1 τ1 hp1 => ?_)
  obtain ⟨rfl, rfl⟩ := hp1
  show hpV _ _ _ _ _ _ _ _ _ _ _ _ _ _ _ _ _ _ _ _ _ (_ :: _)
  refine h_callV (As := [.int (hpI a), .int (hpI 0)]) (rest := []) C yyX8_seenFault wd_977 (tX8_seenFault l D cy z _ a ⟨by omega, by omega⟩) kd_0 rfl rfl ⟨rfl, rfl, Nat.le_of_ble_eq_true rfl, Nat.le_of_ble_eq_true rfl⟩ ⟨Nat.le_of_ble_eq_true rfl, Nat.le_of_ble_eq_true rfl⟩ (Nat.le_of_ble_eq_true rfl) dX8_greatest_7 (fun r2 τ2 hp2 => ?_)
  obtain ⟨rfl, rfl⟩ := hp2
  show hpV _ _ _ _ _ _ _ _ _ _ _ _ _ _ _ _ _ _ _ _ _ (_ :: _)
  refine h_istore_n (lv' := [(3, .int (hpI (-2))), (0, .ref (z + 0)), (1, .int (hpI a)), (2, .int (hpI b))]) C dX8_greatest_10 rfl (by decide) rfl ?_
  refine h_iload_n C dX8_greatest_11 0 rfl rfl ?_
  refine h_if_eq (tgt := 19) C dX8_greatest_12 (by decide) ⟨by decide, by decide⟩ (fun h3 => ?_) (fun h3 => ?_)
  · exfalso; omega
  · refine h_iload_n C dX8_greatest_15 0 rfl rfl ?_
    refine h_goto (tgt := 28) C dX8_greatest_16 (by decide) ?_
    refine h_ireturn C hr hk dX8_greatest_28 ?_
    exact ⟨rfl, rfl⟩
abbrev rX8_ask : Room := { frames := 2, cells := 0, slots := 0, locals := 42 }
abbrev pX8_ask (z : Nat) (σ : hpMem) (a : Int) (b : Int) : Option Value → hpMem → Prop := fun r τ => r = some (.int (hpI (-2))) ∧ σ = τ
set_option maxHeartbeats 4000000 in
set_option maxRecDepth 20000 in
theorem tX8_ask (l : Launch) (D : va_G) (cy : Nat → ClassId) (z : Nat) (σ : hpMem) (a : Int) (ha : hpR a) (b : Int) (hb : hpR b) (h_3_9 : σ 3 9 = 0) : hpM l D cy z yX8_ask cX8_ask 4 (some .int) rX8_ask [.ref (z + 0), .int (hpI a), .int (hpI b)] σ (pX8_ask z σ a b) := by
  obtain ⟨ha1, ha2⟩ := ha
  obtain ⟨hb1, hb2⟩ := hb
  refine hp_met rfl (Nat.le_of_ble_eq_true rfl) (fun p e s m below meth c C hr hk => ?_)
  refine h_aload_n C dX8_ask_0 0 rfl rfl ?_
  refine h_iload_n C dX8_ask_1 1 rfl rfl ?_
  refine h_aload_n C dX8_ask_2 0 rfl rfl ?_
  refine h_iload_n C dX8_ask_3 2 rfl rfl ?_
  refine h_callV (As := [.int (hpI b)]) (rest := [.int (hpI a), .ref (z + 0)]) C yyX8_isTold wd_549 (tX8_isTold l D cy z _ b ⟨by omega, by omega⟩ h_3_9) kd_0 rfl rfl ⟨rfl, rfl, Nat.le_of_ble_eq_true rfl, Nat.le_of_ble_eq_true rfl⟩ ⟨Nat.le_of_ble_eq_true rfl, Nat.le_of_ble_eq_true rfl⟩ (Nat.le_of_ble_eq_true rfl) dX8_ask_4 (fun r1 τ1 hp1 => ?_)
  obtain ⟨rfl, rfl⟩ := hp1
  show hpV _ _ _ _ _ _ _ _ _ _ _ _ _ _ _ _ _ _ _ _ _ (_ :: _)
  refine h_callV (As := [.int (hpI a), .int (hpI 0)]) (rest := []) C yyX8_seenFault wd_977 (tX8_seenFault l D cy z _ a ⟨by omega, by omega⟩) kd_0 rfl rfl ⟨rfl, rfl, Nat.le_of_ble_eq_true rfl, Nat.le_of_ble_eq_true rfl⟩ ⟨Nat.le_of_ble_eq_true rfl, Nat.le_of_ble_eq_true rfl⟩ (Nat.le_of_ble_eq_true rfl) dX8_ask_7 (fun r2 τ2 hp2 => ?_)
  obtain ⟨rfl, rfl⟩ := hp2
  show hpV _ _ _ _ _ _ _ _ _ _ _ _ _ _ _ _ _ _ _ _ _ (_ :: _)
  refine h_istore_n (lv' := [(3, .int (hpI (-2))), (0, .ref (z + 0)), (1, .int (hpI a)), (2, .int (hpI b))]) C dX8_ask_10 rfl (by decide) rfl ?_
  refine h_iload_n C dX8_ask_11 0 rfl rfl ?_
  refine h_if_eq (tgt := 19) C dX8_ask_12 (by decide) ⟨by decide, by decide⟩ (fun h3 => ?_) (fun h3 => ?_)
  · exfalso; omega
  · refine h_iload_n C dX8_ask_15 0 rfl rfl ?_
    refine h_goto (tgt := 35) C dX8_ask_16 (by decide) ?_
    refine h_ireturn C hr hk dX8_ask_35 ?_
    exact ⟨rfl, rfl⟩
abbrev rX8_leaves : Room := { frames := 2, cells := 0, slots := 0, locals := 42 }
abbrev pX8_leaves (z : Nat) (σ : hpMem) (a : Int) (b : Int) : Option Value → hpMem → Prop := fun r τ => r = some (.int (hpI (-2))) ∧ σ = τ
set_option maxHeartbeats 4000000 in
set_option maxRecDepth 20000 in
theorem tX8_leaves (l : Launch) (D : va_G) (cy : Nat → ClassId) (z : Nat) (σ : hpMem) (a : Int) (ha : hpR a) (b : Int) (hb : hpR b) (h_3_9 : σ 3 9 = 0) : hpM l D cy z yX8_leaves cX8_leaves 4 (some .int) rX8_leaves [.ref (z + 0), .int (hpI a), .int (hpI b)] σ (pX8_leaves z σ a b) := by
  obtain ⟨ha1, ha2⟩ := ha
  obtain ⟨hb1, hb2⟩ := hb
  refine hp_met rfl (Nat.le_of_ble_eq_true rfl) (fun p e s m below meth c C hr hk => ?_)
  refine h_aload_n C dX8_leaves_0 0 rfl rfl ?_
  refine h_iload_n C dX8_leaves_1 1 rfl rfl ?_
  refine h_aload_n C dX8_leaves_2 0 rfl rfl ?_
  refine h_iload_n C dX8_leaves_3 2 rfl rfl ?_
  refine h_callV (As := [.int (hpI b)]) (rest := [.int (hpI a), .ref (z + 0)]) C yyX8_isTold wd_549 (tX8_isTold l D cy z _ b ⟨by omega, by omega⟩ h_3_9) kd_0 rfl rfl ⟨rfl, rfl, Nat.le_of_ble_eq_true rfl, Nat.le_of_ble_eq_true rfl⟩ ⟨Nat.le_of_ble_eq_true rfl, Nat.le_of_ble_eq_true rfl⟩ (Nat.le_of_ble_eq_true rfl) dX8_leaves_4 (fun r1 τ1 hp1 => ?_)
  obtain ⟨rfl, rfl⟩ := hp1
  show hpV _ _ _ _ _ _ _ _ _ _ _ _ _ _ _ _ _ _ _ _ _ (_ :: _)
  refine h_callV (As := [.int (hpI a), .int (hpI 0)]) (rest := []) C yyX8_seenFault wd_977 (tX8_seenFault l D cy z _ a ⟨by omega, by omega⟩) kd_0 rfl rfl ⟨rfl, rfl, Nat.le_of_ble_eq_true rfl, Nat.le_of_ble_eq_true rfl⟩ ⟨Nat.le_of_ble_eq_true rfl, Nat.le_of_ble_eq_true rfl⟩ (Nat.le_of_ble_eq_true rfl) dX8_leaves_7 (fun r2 τ2 hp2 => ?_)
  obtain ⟨rfl, rfl⟩ := hp2
  show hpV _ _ _ _ _ _ _ _ _ _ _ _ _ _ _ _ _ _ _ _ _ (_ :: _)
  refine h_istore_n (lv' := [(3, .int (hpI (-2))), (0, .ref (z + 0)), (1, .int (hpI a)), (2, .int (hpI b))]) C dX8_leaves_10 rfl (by decide) rfl ?_
  refine h_iload_n C dX8_leaves_11 0 rfl rfl ?_
  refine h_if_eq (tgt := 19) C dX8_leaves_12 (by decide) ⟨by decide, by decide⟩ (fun h3 => ?_) (fun h3 => ?_)
  · exfalso; omega
  · refine h_iload_n C dX8_leaves_15 0 rfl rfl ?_
    refine h_goto (tgt := 35) C dX8_leaves_16 (by decide) ?_
    refine h_ireturn C hr hk dX8_leaves_35 ?_
    exact ⟨rfl, rfl⟩
abbrev rX8_laws : Room := { frames := 2, cells := 0, slots := 0, locals := 42 }
abbrev pX8_laws (z : Nat) (σ : hpMem) (a : Int) : Option Value → hpMem → Prop := fun r τ => r = some (.int (hpI (-2))) ∧ σ = τ
set_option maxHeartbeats 4000000 in
set_option maxRecDepth 20000 in
theorem tX8_laws (l : Launch) (D : va_G) (cy : Nat → ClassId) (z : Nat) (σ : hpMem) (a : Int) (ha : hpR a) (h_3_8 : σ 3 8 = 0) : hpM l D cy z yX8_laws cX8_laws 5 (some .int) rX8_laws [.ref (z + 0), .int (hpI a)] σ (pX8_laws z σ a) := by
  obtain ⟨ha1, ha2⟩ := ha
  refine hp_met rfl (Nat.le_of_ble_eq_true rfl) (fun p e s m below meth c C hr hk => ?_)
  refine h_aload_n C dX8_laws_0 0 rfl rfl ?_
  refine h_iload_n C dX8_laws_1 1 rfl rfl ?_
  refine h_aload_n C dX8_laws_2 0 rfl rfl ?_
  refine h_callV (As := []) (rest := [.int (hpI a), .ref (z + 0)]) C yyX8_noMoor wd_572 (tX8_noMoor l D cy z _ h_3_8) kd_0 rfl rfl ⟨rfl, rfl, Nat.le_of_ble_eq_true rfl, Nat.le_of_ble_eq_true rfl⟩ ⟨Nat.le_of_ble_eq_true rfl, Nat.le_of_ble_eq_true rfl⟩ (Nat.le_of_ble_eq_true rfl) dX8_laws_3 (fun r1 τ1 hp1 => ?_)
  obtain ⟨rfl, rfl⟩ := hp1
  show hpV _ _ _ _ _ _ _ _ _ _ _ _ _ _ _ _ _ _ _ _ _ (_ :: _)
  refine h_if_ne (tgt := 13) C dX8_laws_6 (by decide) ⟨by decide, by decide⟩ (fun h2 => ?_) (fun h2 => ?_)
  · refine h_iconst C dX8_laws_13 ?_
    refine h_callV (As := [.int (hpI a), .int (hpI 0)]) (rest := []) C yyX8_seenFault wd_977 (tX8_seenFault l D cy z _ a ⟨by omega, by omega⟩) kd_0 rfl rfl ⟨rfl, rfl, Nat.le_of_ble_eq_true rfl, Nat.le_of_ble_eq_true rfl⟩ ⟨Nat.le_of_ble_eq_true rfl, Nat.le_of_ble_eq_true rfl⟩ (Nat.le_of_ble_eq_true rfl) dX8_laws_14 (fun r3 τ3 hp3 => ?_)
    obtain ⟨rfl, rfl⟩ := hp3
    show hpV _ _ _ _ _ _ _ _ _ _ _ _ _ _ _ _ _ _ _ _ _ (_ :: _)
    refine h_istore_n (lv' := [(2, .int (hpI (-2))), (0, .ref (z + 0)), (1, .int (hpI a))]) C dX8_laws_17 rfl (by decide) rfl ?_
    refine h_iload_n C dX8_laws_18 0 rfl rfl ?_
    refine h_if_eq (tgt := 24) C dX8_laws_19 (by decide) ⟨by decide, by decide⟩ (fun h4 => ?_) (fun h4 => ?_)
    · exfalso; omega
    · refine h_iload_n C dX8_laws_22 0 rfl rfl ?_
      refine h_ireturn C hr hk dX8_laws_23 ?_
      exact ⟨rfl, rfl⟩
  · exfalso; omega
abbrev rX8_share : Room := { frames := 1, cells := 0, slots := 0, locals := 21 }
abbrev pX8_share (z : Nat) (σ : hpMem) (a : Int) (b : Int) : Option Value → hpMem → Prop := fun r τ => r = some (.int (hpI (-1000))) ∧ σ = τ
set_option maxHeartbeats 4000000 in
set_option maxRecDepth 20000 in
theorem tX8_share (l : Launch) (D : va_G) (cy : Nat → ClassId) (z : Nat) (σ : hpMem) (a : Int) (ha : hpR a) (b : Int) (hb : hpR b) (h_3_10 : σ 3 10 = 0) : hpM l D cy z yX8_share cX8_share 3 (some .int) rX8_share [.ref (z + 0), .int (hpI a), .int (hpI b)] σ (pX8_share z σ a b) := by
  obtain ⟨ha1, ha2⟩ := ha
  obtain ⟨hb1, hb2⟩ := hb
  refine hp_met rfl (Nat.le_of_ble_eq_true rfl) (fun p e s m below meth c C hr hk => ?_)
  refine h_aload_n C dX8_share_0 0 rfl rfl ?_
  refine h_iload_n C dX8_share_1 1 rfl rfl ?_
  refine h_callV (As := [.int (hpI a)]) (rest := []) C yyX8_isCart wd_557 (tX8_isCart l D cy z _ a ⟨by omega, by omega⟩ h_3_10) kd_0 rfl rfl ⟨rfl, rfl, Nat.le_of_ble_eq_true rfl, Nat.le_of_ble_eq_true rfl⟩ ⟨Nat.le_of_ble_eq_true rfl, Nat.le_of_ble_eq_true rfl⟩ (Nat.le_of_ble_eq_true rfl) dX8_share_2 (fun r1 τ1 hp1 => ?_)
  obtain ⟨rfl, rfl⟩ := hp1
  show hpV _ _ _ _ _ _ _ _ _ _ _ _ _ _ _ _ _ _ _ _ _ (_ :: _)
  refine h_if_eq (tgt := 15) C dX8_share_5 (by decide) ⟨by decide, by decide⟩ (fun h2 => ?_) (fun h2 => ?_)
  · refine h_sipush C dX8_share_15 (by decide) ?_
    refine h_ireturn C hr hk dX8_share_18 ?_
    exact ⟨rfl, rfl⟩
  · exfalso; omega
abbrev rX8_rests : Room := { frames := 1, cells := 0, slots := 0, locals := 21 }
abbrev pX8_rests (z : Nat) (σ : hpMem) (a : Int) (b : Int) : Option Value → hpMem → Prop := fun r τ => r = some (.int (hpI (-2))) ∧ σ = τ
set_option maxHeartbeats 4000000 in
set_option maxRecDepth 20000 in
theorem tX8_rests (l : Launch) (D : va_G) (cy : Nat → ClassId) (z : Nat) (σ : hpMem) (a : Int) (ha : hpR a) (b : Int) (hb : hpR b) (h_3_10 : σ 3 10 = 0) : hpM l D cy z yX8_rests cX8_rests 5 (some .int) rX8_rests [.ref (z + 0), .int (hpI a), .int (hpI b)] σ (pX8_rests z σ a b) := by
  obtain ⟨ha1, ha2⟩ := ha
  obtain ⟨hb1, hb2⟩ := hb
  refine hp_met rfl (Nat.le_of_ble_eq_true rfl) (fun p e s m below meth c C hr hk => ?_)
  refine h_aload_n C dX8_rests_0 0 rfl rfl ?_
  refine h_iload_n C dX8_rests_1 1 rfl rfl ?_
  refine h_callV (As := [.int (hpI a)]) (rest := []) C yyX8_isCart wd_557 (tX8_isCart l D cy z _ a ⟨by omega, by omega⟩ h_3_10) kd_0 rfl rfl ⟨rfl, rfl, Nat.le_of_ble_eq_true rfl, Nat.le_of_ble_eq_true rfl⟩ ⟨Nat.le_of_ble_eq_true rfl, Nat.le_of_ble_eq_true rfl⟩ (Nat.le_of_ble_eq_true rfl) dX8_rests_2 (fun r1 τ1 hp1 => ?_)
  obtain ⟨rfl, rfl⟩ := hp1
  show hpV _ _ _ _ _ _ _ _ _ _ _ _ _ _ _ _ _ _ _ _ _ (_ :: _)
  refine h_if_eq (tgt := 21) C dX8_rests_5 (by decide) ⟨by decide, by decide⟩ (fun h2 => ?_) (fun h2 => ?_)
  · refine h_bipush C dX8_rests_21 (by decide) ?_
    refine h_ireturn C hr hk dX8_rests_23 ?_
    exact ⟨rfl, rfl⟩
  · exfalso; omega
abbrev rX8_gets : Room := { frames := 1, cells := 0, slots := 0, locals := 21 }
abbrev pX8_gets (z : Nat) (σ : hpMem) (a : Int) (b : Int) (c0 : Int) (d0 : Int) (e0 : Int) : Option Value → hpMem → Prop := fun r τ => r = some (.int (hpI (-1000))) ∧ σ = τ
set_option maxHeartbeats 4000000 in
set_option maxRecDepth 20000 in
theorem tX8_gets (l : Launch) (D : va_G) (cy : Nat → ClassId) (z : Nat) (σ : hpMem) (a : Int) (ha : hpR a) (b : Int) (hb : hpR b) (c0 : Int) (hc0 : hpR c0) (d0 : Int) (hd0 : hpR d0) (e0 : Int) (he0 : hpR e0) (h_3_10 : σ 3 10 = 0) : hpM l D cy z yX8_gets cX8_gets 8 (some .int) rX8_gets [.ref (z + 0), .int (hpI a), .int (hpI b), .int (hpI c0), .int (hpI d0), .int (hpI e0)] σ (pX8_gets z σ a b c0 d0 e0) := by
  obtain ⟨ha1, ha2⟩ := ha
  obtain ⟨hb1, hb2⟩ := hb
  obtain ⟨hc01, hc02⟩ := hc0
  obtain ⟨hd01, hd02⟩ := hd0
  obtain ⟨he01, he02⟩ := he0
  refine hp_met rfl (Nat.le_of_ble_eq_true rfl) (fun p e s m below meth c C hr hk => ?_)
  refine h_aload_n C dX8_gets_0 0 rfl rfl ?_
  refine h_iload_n C dX8_gets_1 1 rfl rfl ?_
  refine h_callV (As := [.int (hpI a)]) (rest := []) C yyX8_isCart wd_557 (tX8_isCart l D cy z _ a ⟨by omega, by omega⟩ h_3_10) kd_0 rfl rfl ⟨rfl, rfl, Nat.le_of_ble_eq_true rfl, Nat.le_of_ble_eq_true rfl⟩ ⟨Nat.le_of_ble_eq_true rfl, Nat.le_of_ble_eq_true rfl⟩ (Nat.le_of_ble_eq_true rfl) dX8_gets_2 (fun r1 τ1 hp1 => ?_)
  obtain ⟨rfl, rfl⟩ := hp1
  show hpV _ _ _ _ _ _ _ _ _ _ _ _ _ _ _ _ _ _ _ _ _ (_ :: _)
  refine h_if_eq (tgt := 25) C dX8_gets_5 (by decide) ⟨by decide, by decide⟩ (fun h2 => ?_) (fun h2 => ?_)
  · refine h_iconst C dX8_gets_25 ?_
    refine h_istore (lv' := [(6, .int (hpI 0)), (0, .ref (z + 0)), (1, .int (hpI a)), (2, .int (hpI b)), (3, .int (hpI c0)), (4, .int (hpI d0)), (5, .int (hpI e0))]) C dX8_gets_26 (by decide) rfl ?_
    refine h_iload C dX8_gets_28 0 rfl ?_
    refine h_if_eq (tgt := 56) C dX8_gets_30 (by decide) ⟨by decide, by decide⟩ (fun h3 => ?_) (fun h3 => ?_)
    · refine h_sipush C dX8_gets_56 (by decide) ?_
      refine h_ireturn C hr hk dX8_gets_59 ?_
      exact ⟨rfl, rfl⟩
    · exfalso; omega
  · exfalso; omega
abbrev rX8_chance : Room := { frames := 4, cells := 0, slots := 0, locals := 83 }
abbrev pX8_chance (z : Nat) (σ : hpMem) (a : Int) (b : Int) (c0 : Int) : Option Value → hpMem → Prop := fun r τ => r = some (.long (hpJ (-2))) ∧ σ = τ
set_option maxHeartbeats 4000000 in
set_option maxRecDepth 20000 in
theorem tX8_chance (l : Launch) (D : va_G) (cy : Nat → ClassId) (z : Nat) (σ : hpMem) (a : Int) (ha : hpR a) (b : Int) (hb : hpR b) (c0 : Int) (hc0 : hpR c0) (h_3_8 : σ 3 8 = 0) : hpM l D cy z yX8_chance cX8_chance 4 (some .long) rX8_chance [.ref (z + 0), .int (hpI a), .int (hpI b), .int (hpI c0)] σ (pX8_chance z σ a b c0) := by
  obtain ⟨ha1, ha2⟩ := ha
  obtain ⟨hb1, hb2⟩ := hb
  obtain ⟨hc01, hc02⟩ := hc0
  refine hp_met rfl (Nat.le_of_ble_eq_true rfl) (fun p e s m below meth c C hr hk => ?_)
  refine h_aload_n C dX8_chance_0 0 rfl rfl ?_
  refine h_iload_n C dX8_chance_1 1 rfl rfl ?_
  refine h_callV (As := [.int (hpI a)]) (rest := []) C yyX8_isChanceDay wd_1135 (tX8_isChanceDay l D cy z _ a ⟨by omega, by omega⟩ h_3_8) kd_0 rfl rfl ⟨rfl, rfl, Nat.le_of_ble_eq_true rfl, Nat.le_of_ble_eq_true rfl⟩ ⟨Nat.le_of_ble_eq_true rfl, Nat.le_of_ble_eq_true rfl⟩ (Nat.le_of_ble_eq_true rfl) dX8_chance_2 (fun r1 τ1 hp1 => ?_)
  obtain ⟨rfl, rfl⟩ := hp1
  show hpV _ _ _ _ _ _ _ _ _ _ _ _ _ _ _ _ _ _ _ _ _ (_ :: _)
  refine h_if_eq (tgt := 26) C dX8_chance_5 (by decide) ⟨by decide, by decide⟩ (fun h2 => ?_) (fun h2 => ?_)
  · refine h_ldc2 C (-2) wd_1139 (by decide) dX8_chance_26 ?_
    refine h_lreturn C hr hk dX8_chance_29 ?_
    exact ⟨rfl, rfl⟩
  · exfalso; omega
abbrev rX8_mean : Room := { frames := 4, cells := 0, slots := 0, locals := 83 }
abbrev pX8_mean (z : Nat) (σ : hpMem) (a : Int) (b : Int) : Option Value → hpMem → Prop := fun r τ => r = some (.long (hpJ (-2))) ∧ σ = τ
set_option maxHeartbeats 4000000 in
set_option maxRecDepth 20000 in
theorem tX8_mean (l : Launch) (D : va_G) (cy : Nat → ClassId) (z : Nat) (σ : hpMem) (a : Int) (ha : hpR a) (b : Int) (hb : hpR b) (h_3_8 : σ 3 8 = 0) : hpM l D cy z yX8_mean cX8_mean 3 (some .long) rX8_mean [.ref (z + 0), .int (hpI a), .int (hpI b)] σ (pX8_mean z σ a b) := by
  obtain ⟨ha1, ha2⟩ := ha
  obtain ⟨hb1, hb2⟩ := hb
  refine hp_met rfl (Nat.le_of_ble_eq_true rfl) (fun p e s m below meth c C hr hk => ?_)
  refine h_aload_n C dX8_mean_0 0 rfl rfl ?_
  refine h_iload_n C dX8_mean_1 1 rfl rfl ?_
  refine h_callV (As := [.int (hpI a)]) (rest := []) C yyX8_isChanceDay wd_1135 (tX8_isChanceDay l D cy z _ a ⟨by omega, by omega⟩ h_3_8) kd_0 rfl rfl ⟨rfl, rfl, Nat.le_of_ble_eq_true rfl, Nat.le_of_ble_eq_true rfl⟩ ⟨Nat.le_of_ble_eq_true rfl, Nat.le_of_ble_eq_true rfl⟩ (Nat.le_of_ble_eq_true rfl) dX8_mean_2 (fun r1 τ1 hp1 => ?_)
  obtain ⟨rfl, rfl⟩ := hp1
  show hpV _ _ _ _ _ _ _ _ _ _ _ _ _ _ _ _ _ _ _ _ _ (_ :: _)
  refine h_if_eq (tgt := 15) C dX8_mean_5 (by decide) ⟨by decide, by decide⟩ (fun h2 => ?_) (fun h2 => ?_)
  · refine h_ldc2 C (-2) wd_1139 (by decide) dX8_mean_15 ?_
    refine h_lreturn C hr hk dX8_mean_18 ?_
    exact ⟨rfl, rfl⟩
  · exfalso; omega
abbrev rX8_drawn : Room := { frames := 1, cells := 0, slots := 0, locals := 20 }
abbrev pX8_drawn (z : Nat) (σ : hpMem) (a : Int) (b : Int) : Option Value → hpMem → Prop := fun r τ => r = some (.int (hpI (-2))) ∧ σ = τ
set_option maxHeartbeats 4000000 in
set_option maxRecDepth 20000 in
theorem tX8_drawn (l : Launch) (D : va_G) (cy : Nat → ClassId) (z : Nat) (σ : hpMem) (a : Int) (ha : hpR a) (b : Int) (hb : hpR b) (h_3_8 : σ 3 8 = 0) : hpM l D cy z yX8_drawn cX8_drawn 4 (some .int) rX8_drawn [.ref (z + 0), .int (hpI a), .int (hpI b)] σ (pX8_drawn z σ a b) := by
  obtain ⟨ha1, ha2⟩ := ha
  obtain ⟨hb1, hb2⟩ := hb
  refine hp_met rfl (Nat.le_of_ble_eq_true rfl) (fun p e s m below meth c C hr hk => ?_)
  refine h_aload_n C dX8_drawn_0 0 rfl rfl ?_
  refine h_callV (As := []) (rest := []) C yyX8_noMoor wd_572 (tX8_noMoor l D cy z _ h_3_8) kd_0 rfl rfl ⟨rfl, rfl, Nat.le_of_ble_eq_true rfl, Nat.le_of_ble_eq_true rfl⟩ ⟨Nat.le_of_ble_eq_true rfl, Nat.le_of_ble_eq_true rfl⟩ (Nat.le_of_ble_eq_true rfl) dX8_drawn_1 (fun r1 τ1 hp1 => ?_)
  obtain ⟨rfl, rfl⟩ := hp1
  show hpV _ _ _ _ _ _ _ _ _ _ _ _ _ _ _ _ _ _ _ _ _ (_ :: _)
  refine h_if_ne (tgt := 25) C dX8_drawn_4 (by decide) ⟨by decide, by decide⟩ (fun h2 => ?_) (fun h2 => ?_)
  · refine h_bipush C dX8_drawn_25 (by decide) ?_
    refine h_ireturn C hr hk dX8_drawn_27 ?_
    exact ⟨rfl, rfl⟩
  · exfalso; omega
abbrev rX8_luck : Room := { frames := 1, cells := 0, slots := 0, locals := 20 }
abbrev pX8_luck (z : Nat) (σ : hpMem) (a : Int) (b : Int) (c0 : Int) : Option Value → hpMem → Prop := fun r τ => r = some (.int (hpI (-2))) ∧ σ = τ
set_option maxHeartbeats 4000000 in
set_option maxRecDepth 20000 in
theorem tX8_luck (l : Launch) (D : va_G) (cy : Nat → ClassId) (z : Nat) (σ : hpMem) (a : Int) (ha : hpR a) (b : Int) (hb : hpR b) (c0 : Int) (hc0 : hpR c0) (h_3_8 : σ 3 8 = 0) : hpM l D cy z yX8_luck cX8_luck 7 (some .int) rX8_luck [.ref (z + 0), .int (hpI a), .int (hpI b), .int (hpI c0)] σ (pX8_luck z σ a b c0) := by
  obtain ⟨ha1, ha2⟩ := ha
  obtain ⟨hb1, hb2⟩ := hb
  obtain ⟨hc01, hc02⟩ := hc0
  refine hp_met rfl (Nat.le_of_ble_eq_true rfl) (fun p e s m below meth c C hr hk => ?_)
  refine h_iload_n C dX8_luck_0 1 rfl rfl ?_
  refine h_if_lt (tgt := 26) C dX8_luck_1 (by decide) ⟨by omega, by omega⟩ (fun h1 => ?_) (fun h1 => ?_)
  · refine h_iconst C dX8_luck_26 ?_
    refine h_istore (lv' := [(4, .int (hpI 0)), (0, .ref (z + 0)), (1, .int (hpI a)), (2, .int (hpI b)), (3, .int (hpI c0))]) C dX8_luck_27 (by decide) rfl ?_
    refine h_aload_n C dX8_luck_29 1 rfl rfl ?_
    refine h_callV (As := []) (rest := []) C yyX8_noMoor wd_572 (tX8_noMoor l D cy z _ h_3_8) kd_0 rfl rfl ⟨rfl, rfl, Nat.le_of_ble_eq_true rfl, Nat.le_of_ble_eq_true rfl⟩ ⟨Nat.le_of_ble_eq_true rfl, Nat.le_of_ble_eq_true rfl⟩ (Nat.le_of_ble_eq_true rfl) dX8_luck_30 (fun r2 τ2 hp2 => ?_)
    obtain ⟨rfl, rfl⟩ := hp2
    show hpV _ _ _ _ _ _ _ _ _ _ _ _ _ _ _ _ _ _ _ _ _ (_ :: _)
    refine h_if_ne (tgt := 52) C dX8_luck_33 (by decide) ⟨by decide, by decide⟩ (fun h3 => ?_) (fun h3 => ?_)
    · refine h_bipush C dX8_luck_52 (by decide) ?_
      refine h_ireturn C hr hk dX8_luck_54 ?_
      exact ⟨rfl, rfl⟩
    · exfalso; omega
  · refine h_iload_n C dX8_luck_4 1 rfl rfl ?_
    refine h_ldcw C 2000000000 wd_1190 (by decide) dX8_luck_5 ?_
    refine h_icmp_gt (tgt := 26) C dX8_luck_8 (by decide) ⟨by omega, by omega⟩ ⟨by decide, by decide⟩ (fun h4 => ?_) (fun h4 => ?_)
    · refine h_iconst C dX8_luck_26 ?_
      refine h_istore (lv' := [(4, .int (hpI 0)), (0, .ref (z + 0)), (1, .int (hpI a)), (2, .int (hpI b)), (3, .int (hpI c0))]) C dX8_luck_27 (by decide) rfl ?_
      refine h_aload_n C dX8_luck_29 1 rfl rfl ?_
      refine h_callV (As := []) (rest := []) C yyX8_noMoor wd_572 (tX8_noMoor l D cy z _ h_3_8) kd_0 rfl rfl ⟨rfl, rfl, Nat.le_of_ble_eq_true rfl, Nat.le_of_ble_eq_true rfl⟩ ⟨Nat.le_of_ble_eq_true rfl, Nat.le_of_ble_eq_true rfl⟩ (Nat.le_of_ble_eq_true rfl) dX8_luck_30 (fun r5 τ5 hp5 => ?_)
      obtain ⟨rfl, rfl⟩ := hp5
      show hpV _ _ _ _ _ _ _ _ _ _ _ _ _ _ _ _ _ _ _ _ _ (_ :: _)
      refine h_if_ne (tgt := 52) C dX8_luck_33 (by decide) ⟨by decide, by decide⟩ (fun h6 => ?_) (fun h6 => ?_)
      · refine h_bipush C dX8_luck_52 (by decide) ?_
        refine h_ireturn C hr hk dX8_luck_54 ?_
        exact ⟨rfl, rfl⟩
      · exfalso; omega
    · refine h_iload_n C dX8_luck_11 2 rfl rfl ?_
      refine h_iconst C dX8_luck_12 ?_
      refine h_icmp_lt (tgt := 26) C dX8_luck_13 (by decide) ⟨by omega, by omega⟩ ⟨by decide, by decide⟩ (fun h7 => ?_) (fun h7 => ?_)
      · refine h_iconst C dX8_luck_26 ?_
        refine h_istore (lv' := [(4, .int (hpI 0)), (0, .ref (z + 0)), (1, .int (hpI a)), (2, .int (hpI b)), (3, .int (hpI c0))]) C dX8_luck_27 (by decide) rfl ?_
        refine h_aload_n C dX8_luck_29 1 rfl rfl ?_
        refine h_callV (As := []) (rest := []) C yyX8_noMoor wd_572 (tX8_noMoor l D cy z _ h_3_8) kd_0 rfl rfl ⟨rfl, rfl, Nat.le_of_ble_eq_true rfl, Nat.le_of_ble_eq_true rfl⟩ ⟨Nat.le_of_ble_eq_true rfl, Nat.le_of_ble_eq_true rfl⟩ (Nat.le_of_ble_eq_true rfl) dX8_luck_30 (fun r8 τ8 hp8 => ?_)
        obtain ⟨rfl, rfl⟩ := hp8
        show hpV _ _ _ _ _ _ _ _ _ _ _ _ _ _ _ _ _ _ _ _ _ (_ :: _)
        refine h_if_ne (tgt := 52) C dX8_luck_33 (by decide) ⟨by decide, by decide⟩ (fun h9 => ?_) (fun h9 => ?_)
        · refine h_bipush C dX8_luck_52 (by decide) ?_
          refine h_ireturn C hr hk dX8_luck_54 ?_
          exact ⟨rfl, rfl⟩
        · exfalso; omega
      · refine h_iload_n C dX8_luck_16 2 rfl rfl ?_
        refine h_bipush C dX8_luck_17 (by decide) ?_
        refine h_icmp_gt (tgt := 26) C dX8_luck_19 (by decide) ⟨by omega, by omega⟩ ⟨by decide, by decide⟩ (fun h10 => ?_) (fun h10 => ?_)
        · refine h_iconst C dX8_luck_26 ?_
          refine h_istore (lv' := [(4, .int (hpI 0)), (0, .ref (z + 0)), (1, .int (hpI a)), (2, .int (hpI b)), (3, .int (hpI c0))]) C dX8_luck_27 (by decide) rfl ?_
          refine h_aload_n C dX8_luck_29 1 rfl rfl ?_
          refine h_callV (As := []) (rest := []) C yyX8_noMoor wd_572 (tX8_noMoor l D cy z _ h_3_8) kd_0 rfl rfl ⟨rfl, rfl, Nat.le_of_ble_eq_true rfl, Nat.le_of_ble_eq_true rfl⟩ ⟨Nat.le_of_ble_eq_true rfl, Nat.le_of_ble_eq_true rfl⟩ (Nat.le_of_ble_eq_true rfl) dX8_luck_30 (fun r11 τ11 hp11 => ?_)
          obtain ⟨rfl, rfl⟩ := hp11
          show hpV _ _ _ _ _ _ _ _ _ _ _ _ _ _ _ _ _ _ _ _ _ (_ :: _)
          refine h_if_ne (tgt := 52) C dX8_luck_33 (by decide) ⟨by decide, by decide⟩ (fun h12 => ?_) (fun h12 => ?_)
          · refine h_bipush C dX8_luck_52 (by decide) ?_
            refine h_ireturn C hr hk dX8_luck_54 ?_
            exact ⟨rfl, rfl⟩
          · exfalso; omega
        · refine h_iconst C dX8_luck_22 ?_
          refine h_goto (tgt := 27) C dX8_luck_23 (by decide) ?_
          refine h_istore (lv' := [(4, .int (hpI 1)), (0, .ref (z + 0)), (1, .int (hpI a)), (2, .int (hpI b)), (3, .int (hpI c0))]) C dX8_luck_27 (by decide) rfl ?_
          refine h_aload_n C dX8_luck_29 1 rfl rfl ?_
          refine h_callV (As := []) (rest := []) C yyX8_noMoor wd_572 (tX8_noMoor l D cy z _ h_3_8) kd_0 rfl rfl ⟨rfl, rfl, Nat.le_of_ble_eq_true rfl, Nat.le_of_ble_eq_true rfl⟩ ⟨Nat.le_of_ble_eq_true rfl, Nat.le_of_ble_eq_true rfl⟩ (Nat.le_of_ble_eq_true rfl) dX8_luck_30 (fun r13 τ13 hp13 => ?_)
          obtain ⟨rfl, rfl⟩ := hp13
          show hpV _ _ _ _ _ _ _ _ _ _ _ _ _ _ _ _ _ _ _ _ _ (_ :: _)
          refine h_if_ne (tgt := 52) C dX8_luck_33 (by decide) ⟨by decide, by decide⟩ (fun h14 => ?_) (fun h14 => ?_)
          · refine h_bipush C dX8_luck_52 (by decide) ?_
            refine h_ireturn C hr hk dX8_luck_54 ?_
            exact ⟨rfl, rfl⟩
          · exfalso; omega
abbrev rX8_rate : Room := { frames := 1, cells := 0, slots := 0, locals := 21 }
abbrev pX8_rate (z : Nat) (σ : hpMem) (a : Int) (b : Int) : Option Value → hpMem → Prop := fun r τ => r = some (.int (hpI (-2))) ∧ σ = τ
set_option maxHeartbeats 4000000 in
set_option maxRecDepth 20000 in
theorem tX8_rate (l : Launch) (D : va_G) (cy : Nat → ClassId) (z : Nat) (σ : hpMem) (a : Int) (ha : hpR a) (b : Int) (hb : hpR b) (h_3_9 : σ 3 9 = 0) : hpM l D cy z yX8_rate cX8_rate 4 (some .int) rX8_rate [.ref (z + 0), .int (hpI a), .int (hpI b)] σ (pX8_rate z σ a b) := by
  obtain ⟨ha1, ha2⟩ := ha
  obtain ⟨hb1, hb2⟩ := hb
  refine hp_met rfl (Nat.le_of_ble_eq_true rfl) (fun p e s m below meth c C hr hk => ?_)
  refine h_aload_n C dX8_rate_0 0 rfl rfl ?_
  refine h_iload_n C dX8_rate_1 1 rfl rfl ?_
  refine h_callV (As := [.int (hpI a)]) (rest := []) C yyX8_isTold wd_549 (tX8_isTold l D cy z _ a ⟨by omega, by omega⟩ h_3_9) kd_0 rfl rfl ⟨rfl, rfl, Nat.le_of_ble_eq_true rfl, Nat.le_of_ble_eq_true rfl⟩ ⟨Nat.le_of_ble_eq_true rfl, Nat.le_of_ble_eq_true rfl⟩ (Nat.le_of_ble_eq_true rfl) dX8_rate_2 (fun r1 τ1 hp1 => ?_)
  obtain ⟨rfl, rfl⟩ := hp1
  show hpV _ _ _ _ _ _ _ _ _ _ _ _ _ _ _ _ _ _ _ _ _ (_ :: _)
  refine h_if_eq (tgt := 19) C dX8_rate_5 (by decide) ⟨by decide, by decide⟩ (fun h2 => ?_) (fun h2 => ?_)
  · refine h_bipush C dX8_rate_19 (by decide) ?_
    refine h_ireturn C hr hk dX8_rate_21 ?_
    exact ⟨rfl, rfl⟩
  · exfalso; omega
abbrev rX8_count : Room := { frames := 2, cells := 0, slots := 0, locals := 42 }
abbrev pX8_count (z : Nat) (σ : hpMem) (n : Int) : Option Value → hpMem → Prop := fun r τ => (∃ x : Int, r = some (.int (hpI x)) ∧ hpR x ∧ ((0 ≤ n ∧ n ≤ 8 ∧ x = 0) ∨ ((n < 0 ∨ 8 < n) ∧ x = -1))) ∧ σ = τ
set_option maxHeartbeats 4000000 in
set_option maxRecDepth 20000 in
theorem tX8_count (l : Launch) (D : va_G) (cy : Nat → ClassId) (z : Nat) (σ : hpMem) (n : Int) (hn : hpR n) (h_3_5 : σ 3 5 = 0) (h_3_6 : σ 3 6 = 0) (h_3_7 : σ 3 7 = 0) (h_3_8 : σ 3 8 = 0) (h_3_9 : σ 3 9 = 0) (h_3_10 : σ 3 10 = 0) (h_3_11 : σ 3 11 = 0) (h_1_1 : σ 1 1 = 0) (h_187_1 : σ 187 1 = 0) (h_189_1 : σ 189 1 = 0) (h_191_1 : σ 191 1 = 0) (h_193_1 : σ 193 1 = 0) : hpM l D cy z yX8_count cX8_count 2 (some .int) rX8_count [.ref (z + 0), .int (hpI n)] σ (pX8_count z σ n) := by
  obtain ⟨hn1, hn2⟩ := hn
  refine hp_met rfl (Nat.le_of_ble_eq_true rfl) (fun p e s m below meth c C hr hk => ?_)
  refine h_iload_n C dX8_count_0 1 rfl rfl ?_
  rcases (show n = 0 ∨ n = 1 ∨ n = 2 ∨ n = 3 ∨ n = 4 ∨ n = 5 ∨ n = 6 ∨ n = 7 ∨ n = 8 ∨ (n < 0 ∨ 8 < n) by omega) with rfl | rfl | rfl | rfl | rfl | rfl | rfl | rfl | rfl | h_out
  · refine h_tableIn (tgt := 52) C dX8_count_1 ⟨by decide, by decide⟩ (by decide) (by decide) rfl (by decide) ?_
    refine h_aload_n C dX8_count_52 0 rfl rfl ?_
    refine h_get C O8 1 kd_0 (by decide) wd_350 dX8_count_53 fr_0_1 ?_
    refine h_getN C O1 5 kd_3 (by decide) nw_85 dX8_count_56 (fi_3_5 h_3_5) ?_
    refine h_ireturn C hr hk dX8_count_59 ?_
    exact ⟨⟨_, rfl, ⟨by decide, by decide⟩, by omega⟩, rfl⟩
  · refine h_tableIn (tgt := 60) C dX8_count_1 ⟨by decide, by decide⟩ (by decide) (by decide) rfl (by decide) ?_
    refine h_aload_n C dX8_count_60 0 rfl rfl ?_
    refine h_get C O8 1 kd_0 (by decide) wd_350 dX8_count_61 fr_0_1 ?_
    refine h_getN C O1 6 kd_3 (by decide) nw_89 dX8_count_64 (fi_3_6 h_3_6) ?_
    refine h_ireturn C hr hk dX8_count_67 ?_
    exact ⟨⟨_, rfl, ⟨by decide, by decide⟩, by omega⟩, rfl⟩
  · refine h_tableIn (tgt := 68) C dX8_count_1 ⟨by decide, by decide⟩ (by decide) (by decide) rfl (by decide) ?_
    refine h_aload_n C dX8_count_68 0 rfl rfl ?_
    refine h_get C O8 1 kd_0 (by decide) wd_350 dX8_count_69 fr_0_1 ?_
    refine h_getN C O1 7 kd_3 (by decide) nw_92 dX8_count_72 (fi_3_7 h_3_7) ?_
    refine h_ireturn C hr hk dX8_count_75 ?_
    exact ⟨⟨_, rfl, ⟨by decide, by decide⟩, by omega⟩, rfl⟩
  · refine h_tableIn (tgt := 76) C dX8_count_1 ⟨by decide, by decide⟩ (by decide) (by decide) rfl (by decide) ?_
    refine h_aload_n C dX8_count_76 0 rfl rfl ?_
    refine h_get C O8 1 kd_0 (by decide) wd_350 dX8_count_77 fr_0_1 ?_
    refine h_getN C O1 9 kd_3 (by decide) nw_99 dX8_count_80 (fi_3_9 h_3_9) ?_
    refine h_ireturn C hr hk dX8_count_83 ?_
    exact ⟨⟨_, rfl, ⟨by decide, by decide⟩, by omega⟩, rfl⟩
  · refine h_tableIn (tgt := 84) C dX8_count_1 ⟨by decide, by decide⟩ (by decide) (by decide) rfl (by decide) ?_
    refine h_aload_n C dX8_count_84 0 rfl rfl ?_
    refine h_get C O8 1 kd_0 (by decide) wd_350 dX8_count_85 fr_0_1 ?_
    refine h_getN C O1 10 kd_3 (by decide) nw_103 dX8_count_88 (fi_3_10 h_3_10) ?_
    refine h_ireturn C hr hk dX8_count_91 ?_
    exact ⟨⟨_, rfl, ⟨by decide, by decide⟩, by omega⟩, rfl⟩
  · refine h_tableIn (tgt := 92) C dX8_count_1 ⟨by decide, by decide⟩ (by decide) (by decide) rfl (by decide) ?_
    refine h_aload_n C dX8_count_92 0 rfl rfl ?_
    refine h_get C O8 1 kd_0 (by decide) wd_350 dX8_count_93 fr_0_1 ?_
    refine h_getN C O1 11 kd_3 (by decide) nw_106 dX8_count_96 (fi_3_11 h_3_11) ?_
    refine h_ireturn C hr hk dX8_count_99 ?_
    exact ⟨⟨_, rfl, ⟨by decide, by decide⟩, by omega⟩, rfl⟩
  · refine h_tableIn (tgt := 100) C dX8_count_1 ⟨by decide, by decide⟩ (by decide) (by decide) rfl (by decide) ?_
    refine h_aload_n C dX8_count_100 0 rfl rfl ?_
    refine h_get C O8 1 kd_0 (by decide) wd_350 dX8_count_101 fr_0_1 ?_
    refine h_getN C O1 8 kd_3 (by decide) nw_95 dX8_count_104 (fi_3_8 h_3_8) ?_
    refine h_ireturn C hr hk dX8_count_107 ?_
    exact ⟨⟨_, rfl, ⟨by decide, by decide⟩, by omega⟩, rfl⟩
  · refine h_tableIn (tgt := 108) C dX8_count_1 ⟨by decide, by decide⟩ (by decide) (by decide) rfl (by decide) ?_
    refine h_aload_n C dX8_count_108 0 rfl rfl ?_
    refine h_get C O8 0 kd_0 (by decide) wd_349 dX8_count_109 fr_0_0 ?_
    refine h_getN C O7 1 kd_1 (by decide) nw_33 dX8_count_112 (fi_1_1 h_1_1) ?_
    refine h_ireturn C hr hk dX8_count_115 ?_
    exact ⟨⟨_, rfl, ⟨by decide, by decide⟩, by omega⟩, rfl⟩
  · refine h_tableIn (tgt := 116) C dX8_count_1 ⟨by decide, by decide⟩ (by decide) (by decide) rfl (by decide) ?_
    refine h_aload_n C dX8_count_116 0 rfl rfl ?_
    refine h_callV (As := []) (rest := []) C yyX8_slotsWithRow wd_1215 (tX8_slotsWithRow l D cy z _ h_187_1 h_189_1 h_191_1 h_193_1) kd_0 rfl rfl ⟨rfl, rfl, Nat.le_of_ble_eq_true rfl, Nat.le_of_ble_eq_true rfl⟩ ⟨Nat.le_of_ble_eq_true rfl, Nat.le_of_ble_eq_true rfl⟩ (Nat.le_of_ble_eq_true rfl) dX8_count_117 (fun r1 τ1 hp1 => ?_)
    obtain ⟨rfl, rfl⟩ := hp1
    show hpV _ _ _ _ _ _ _ _ _ _ _ _ _ _ _ _ _ _ _ _ _ (_ :: _)
    refine h_ireturn C hr hk dX8_count_120 ?_
    exact ⟨⟨_, rfl, ⟨by decide, by decide⟩, by omega⟩, rfl⟩
  · refine h_tableOut (tgt := 121) C dX8_count_1 ⟨by omega, by omega⟩ h_out (by decide) ?_
    refine h_iconst C dX8_count_121 ?_
    refine h_ireturn C hr hk dX8_count_122 ?_
    exact ⟨⟨_, rfl, ⟨by decide, by decide⟩, by omega⟩, rfl⟩
abbrev rX8_image : Room := { frames := 2, cells := 0, slots := 0, locals := 81 }
abbrev pX8_image (z : Nat) (σ : hpMem) (n : Int) : Option Value → hpMem → Prop := fun r τ => (∃ x : Int, r = some (.int (hpI x)) ∧ hpR x ∧ ((0 ≤ n ∧ n ≤ 2 ∧ x = 0) ∨ ((n < 0 ∨ 2 < n) ∧ x = -2))) ∧ (∀ j : Nat, j ≠ 169 → j ≠ 170 → j ≠ 171 → j ≠ 172 → j ≠ 173 → j ≠ 174 → j ≠ 175 → j ≠ 176 → j ≠ 177 → j ≠ 178 → j ≠ 179 → j ≠ 180 → j ≠ 181 → j ≠ 182 → j ≠ 183 → j ≠ 184 → j ≠ 185 → j ≠ 186 → τ j = σ j)
set_option maxHeartbeats 4000000 in
set_option maxRecDepth 20000 in
theorem tX8_image (l : Launch) (D : va_G) (cy : Nat → ClassId) (z : Nat) (σ : hpMem) (n : Int) (hn : hpR n) (h_3_8 : σ 3 8 = 0) : hpM l D cy z yX8_image cX8_image 2 (some .int) rX8_image [.ref (z + 0), .int (hpI n)] σ (pX8_image z σ n) := by
  obtain ⟨hn1, hn2⟩ := hn
  refine hp_met rfl (Nat.le_of_ble_eq_true rfl) (fun p e s m below meth c C hr hk => ?_)
  refine h_iload_n C dX8_image_0 1 rfl rfl ?_
  refine h_if_lt (tgt := 9) C dX8_image_1 (by decide) ⟨by omega, by omega⟩ (fun h1 => ?_) (fun h1 => ?_)
  · refine h_bipush C dX8_image_9 (by decide) ?_
    refine h_ireturn C hr hk dX8_image_11 ?_
    exact ⟨⟨_, rfl, ⟨by decide, by decide⟩, by omega⟩, (fun j hj0 hj1 hj2 hj3 hj4 hj5 hj6 hj7 hj8 hj9 hj10 hj11 hj12 hj13 hj14 hj15 hj16 hj17 => rfl)⟩
  · refine h_iload_n C dX8_image_4 1 rfl rfl ?_
    refine h_iconst C dX8_image_5 ?_
    refine h_icmp_lt (tgt := 12) C dX8_image_6 (by decide) ⟨by omega, by omega⟩ ⟨by decide, by decide⟩ (fun h2 => ?_) (fun h2 => ?_)
    · refine h_aload_n C dX8_image_12 0 rfl rfl ?_
      refine h_get C O8 3 kd_0 (by decide) wd_352 dX8_image_13 fr_0_3 ?_
      refine h_iload_n C dX8_image_16 1 rfl rfl ?_
      rcases (show n = 0 ∨ n = 1 ∨ n = 2 by omega) with rfl | rfl | rfl
      · refine h_aaload (t0 := 4) C dX8_image_17 kd_15 (by decide) (by decide) rfl 0 rfl (by rw [ln_15]; decide) (by decide +kernel : hprf 15 0 = 169) ?_
        refine h_aload_n C dX8_image_18 0 rfl rfl ?_
        refine h_get C O8 1 kd_0 (by decide) wd_350 dX8_image_19 fr_0_1 ?_
        refine h_callVN (As := [.ref (z + 3)]) (rest := []) C yyX1_become nw_530 (tX1_become_169 l D cy z _ h_3_8) kd_169 rfl rfl ⟨rfl, rfl, Nat.le_of_ble_eq_true rfl, Nat.le_of_ble_eq_true rfl⟩ ⟨Nat.le_of_ble_eq_true rfl, Nat.le_of_ble_eq_true rfl⟩ (Nat.le_of_ble_eq_true rfl) dX8_image_22 (fun r3 τ3 hp3 => ?_)
        obtain ⟨rfl, hF3, hc3_0⟩ := hp3
        show hpV _ _ _ _ _ _ _ _ _ _ _ _ _ _ _ _ _ _ _ _ _ []
        refine h_aload_n C dX8_image_25 0 rfl rfl ?_
        refine h_get C O8 3 kd_0 (by decide) wd_352 dX8_image_26 fr_0_3 ?_
        refine h_iload_n C dX8_image_29 1 rfl rfl ?_
        refine h_aaload (t0 := 4) C dX8_image_30 kd_15 (by decide) (by decide) rfl 0 rfl (by rw [ln_15]; decide) (by decide +kernel : hprf 15 0 = 169) ?_
        refine h_iconst C dX8_image_31 ?_
        refine h_putN C O1 12 kd_169 (by decide) rfl nw_107 dX8_image_32 (by decide) rfl (fi_169_12 hpu_at) ?_
        refine h_iconst C dX8_image_35 ?_
        refine h_ireturn C hr hk dX8_image_36 ?_
        exact ⟨⟨_, rfl, ⟨by decide, by decide⟩, by omega⟩, (fun j hj0 hj1 hj2 hj3 hj4 hj5 hj6 hj7 hj8 hj9 hj10 hj11 hj12 hj13 hj14 hj15 hj16 hj17 => ((hpw_ne hj0).trans ((hF3 j hj0 hj1 hj2 hj3 hj4 hj5).trans rfl)))⟩
      · refine h_aaload (t0 := 4) C dX8_image_17 kd_15 (by decide) (by decide) rfl 1 rfl (by rw [ln_15]; decide) (by decide +kernel : hprf 15 1 = 175) ?_
        refine h_aload_n C dX8_image_18 0 rfl rfl ?_
        refine h_get C O8 1 kd_0 (by decide) wd_350 dX8_image_19 fr_0_1 ?_
        refine h_callVN (As := [.ref (z + 3)]) (rest := []) C yyX1_become nw_530 (tX1_become_175 l D cy z _ h_3_8) kd_175 rfl rfl ⟨rfl, rfl, Nat.le_of_ble_eq_true rfl, Nat.le_of_ble_eq_true rfl⟩ ⟨Nat.le_of_ble_eq_true rfl, Nat.le_of_ble_eq_true rfl⟩ (Nat.le_of_ble_eq_true rfl) dX8_image_22 (fun r4 τ4 hp4 => ?_)
        obtain ⟨rfl, hF4, hc4_0⟩ := hp4
        show hpV _ _ _ _ _ _ _ _ _ _ _ _ _ _ _ _ _ _ _ _ _ []
        refine h_aload_n C dX8_image_25 0 rfl rfl ?_
        refine h_get C O8 3 kd_0 (by decide) wd_352 dX8_image_26 fr_0_3 ?_
        refine h_iload_n C dX8_image_29 1 rfl rfl ?_
        refine h_aaload (t0 := 4) C dX8_image_30 kd_15 (by decide) (by decide) rfl 1 rfl (by rw [ln_15]; decide) (by decide +kernel : hprf 15 1 = 175) ?_
        refine h_iconst C dX8_image_31 ?_
        refine h_putN C O1 12 kd_175 (by decide) rfl nw_107 dX8_image_32 (by decide) rfl (fi_175_12 hpu_at) ?_
        refine h_iconst C dX8_image_35 ?_
        refine h_ireturn C hr hk dX8_image_36 ?_
        exact ⟨⟨_, rfl, ⟨by decide, by decide⟩, by omega⟩, (fun j hj0 hj1 hj2 hj3 hj4 hj5 hj6 hj7 hj8 hj9 hj10 hj11 hj12 hj13 hj14 hj15 hj16 hj17 => ((hpw_ne hj6).trans ((hF4 j hj6 hj7 hj8 hj9 hj10 hj11).trans rfl)))⟩
      · refine h_aaload (t0 := 4) C dX8_image_17 kd_15 (by decide) (by decide) rfl 2 rfl (by rw [ln_15]; decide) (by decide +kernel : hprf 15 2 = 181) ?_
        refine h_aload_n C dX8_image_18 0 rfl rfl ?_
        refine h_get C O8 1 kd_0 (by decide) wd_350 dX8_image_19 fr_0_1 ?_
        refine h_callVN (As := [.ref (z + 3)]) (rest := []) C yyX1_become nw_530 (tX1_become_181 l D cy z _ h_3_8) kd_181 rfl rfl ⟨rfl, rfl, Nat.le_of_ble_eq_true rfl, Nat.le_of_ble_eq_true rfl⟩ ⟨Nat.le_of_ble_eq_true rfl, Nat.le_of_ble_eq_true rfl⟩ (Nat.le_of_ble_eq_true rfl) dX8_image_22 (fun r5 τ5 hp5 => ?_)
        obtain ⟨rfl, hF5, hc5_0⟩ := hp5
        show hpV _ _ _ _ _ _ _ _ _ _ _ _ _ _ _ _ _ _ _ _ _ []
        refine h_aload_n C dX8_image_25 0 rfl rfl ?_
        refine h_get C O8 3 kd_0 (by decide) wd_352 dX8_image_26 fr_0_3 ?_
        refine h_iload_n C dX8_image_29 1 rfl rfl ?_
        refine h_aaload (t0 := 4) C dX8_image_30 kd_15 (by decide) (by decide) rfl 2 rfl (by rw [ln_15]; decide) (by decide +kernel : hprf 15 2 = 181) ?_
        refine h_iconst C dX8_image_31 ?_
        refine h_putN C O1 12 kd_181 (by decide) rfl nw_107 dX8_image_32 (by decide) rfl (fi_181_12 hpu_at) ?_
        refine h_iconst C dX8_image_35 ?_
        refine h_ireturn C hr hk dX8_image_36 ?_
        exact ⟨⟨_, rfl, ⟨by decide, by decide⟩, by omega⟩, (fun j hj0 hj1 hj2 hj3 hj4 hj5 hj6 hj7 hj8 hj9 hj10 hj11 hj12 hj13 hj14 hj15 hj16 hj17 => ((hpw_ne hj12).trans ((hF5 j hj12 hj13 hj14 hj15 hj16 hj17).trans rfl)))⟩
    · refine h_bipush C dX8_image_9 (by decide) ?_
      refine h_ireturn C hr hk dX8_image_11 ?_
      exact ⟨⟨_, rfl, ⟨by decide, by decide⟩, by omega⟩, (fun j hj0 hj1 hj2 hj3 hj4 hj5 hj6 hj7 hj8 hj9 hj10 hj11 hj12 hj13 hj14 hj15 hj16 hj17 => rfl)⟩
abbrev rX8_back : Room := { frames := 0, cells := 0, slots := 0, locals := 0 }
abbrev pX8_back (z : Nat) (σ : hpMem) (n : Int) : Option Value → hpMem → Prop := fun r τ => (∃ x : Int, r = some (.int (hpI x)) ∧ hpR x ∧ ((0 ≤ n ∧ n ≤ 2 ∧ x = -6) ∨ ((n < 0 ∨ 2 < n) ∧ x = -2))) ∧ σ = τ
set_option maxHeartbeats 4000000 in
set_option maxRecDepth 20000 in
theorem tX8_back (l : Launch) (D : va_G) (cy : Nat → ClassId) (z : Nat) (σ : hpMem) (n : Int) (hn : hpR n) (h_169_12 : σ 169 12 = 0) (h_175_12 : σ 175 12 = 0) (h_181_12 : σ 181 12 = 0) : hpM l D cy z yX8_back cX8_back 2 (some .int) rX8_back [.ref (z + 0), .int (hpI n)] σ (pX8_back z σ n) := by
  obtain ⟨hn1, hn2⟩ := hn
  refine hp_met rfl (Nat.le_of_ble_eq_true rfl) (fun p e s m below meth c C hr hk => ?_)
  refine h_iload_n C dX8_back_0 1 rfl rfl ?_
  refine h_if_lt (tgt := 9) C dX8_back_1 (by decide) ⟨by omega, by omega⟩ (fun h1 => ?_) (fun h1 => ?_)
  · refine h_bipush C dX8_back_9 (by decide) ?_
    refine h_ireturn C hr hk dX8_back_11 ?_
    exact ⟨⟨_, rfl, ⟨by decide, by decide⟩, by omega⟩, rfl⟩
  · refine h_iload_n C dX8_back_4 1 rfl rfl ?_
    refine h_iconst C dX8_back_5 ?_
    refine h_icmp_lt (tgt := 12) C dX8_back_6 (by decide) ⟨by omega, by omega⟩ ⟨by decide, by decide⟩ (fun h2 => ?_) (fun h2 => ?_)
    · refine h_aload_n C dX8_back_12 0 rfl rfl ?_
      refine h_get C O8 3 kd_0 (by decide) wd_352 dX8_back_13 fr_0_3 ?_
      refine h_iload_n C dX8_back_16 1 rfl rfl ?_
      rcases (show n = 0 ∨ n = 1 ∨ n = 2 by omega) with rfl | rfl | rfl
      · refine h_aaload (t0 := 4) C dX8_back_17 kd_15 (by decide) (by decide) rfl 0 rfl (by rw [ln_15]; decide) (by decide +kernel : hprf 15 0 = 169) ?_
        refine h_getN C O1 12 kd_169 (by decide) nw_107 dX8_back_18 (fi_169_12 h_169_12) ?_
        refine h_if_ne (tgt := 27) C dX8_back_21 (by decide) ⟨by decide, by decide⟩ (fun h3 => ?_) (fun h3 => ?_)
        · exfalso; omega
        · refine h_bipush C dX8_back_24 (by decide) ?_
          refine h_ireturn C hr hk dX8_back_26 ?_
          exact ⟨⟨_, rfl, ⟨by decide, by decide⟩, by omega⟩, rfl⟩
      · refine h_aaload (t0 := 4) C dX8_back_17 kd_15 (by decide) (by decide) rfl 1 rfl (by rw [ln_15]; decide) (by decide +kernel : hprf 15 1 = 175) ?_
        refine h_getN C O1 12 kd_175 (by decide) nw_107 dX8_back_18 (fi_175_12 h_175_12) ?_
        refine h_if_ne (tgt := 27) C dX8_back_21 (by decide) ⟨by decide, by decide⟩ (fun h4 => ?_) (fun h4 => ?_)
        · exfalso; omega
        · refine h_bipush C dX8_back_24 (by decide) ?_
          refine h_ireturn C hr hk dX8_back_26 ?_
          exact ⟨⟨_, rfl, ⟨by decide, by decide⟩, by omega⟩, rfl⟩
      · refine h_aaload (t0 := 4) C dX8_back_17 kd_15 (by decide) (by decide) rfl 2 rfl (by rw [ln_15]; decide) (by decide +kernel : hprf 15 2 = 181) ?_
        refine h_getN C O1 12 kd_181 (by decide) nw_107 dX8_back_18 (fi_181_12 h_181_12) ?_
        refine h_if_ne (tgt := 27) C dX8_back_21 (by decide) ⟨by decide, by decide⟩ (fun h5 => ?_) (fun h5 => ?_)
        · exfalso; omega
        · refine h_bipush C dX8_back_24 (by decide) ?_
          refine h_ireturn C hr hk dX8_back_26 ?_
          exact ⟨⟨_, rfl, ⟨by decide, by decide⟩, by omega⟩, rfl⟩
    · refine h_bipush C dX8_back_9 (by decide) ?_
      refine h_ireturn C hr hk dX8_back_11 ?_
      exact ⟨⟨_, rfl, ⟨by decide, by decide⟩, by omega⟩, rfl⟩
abbrev rX6_lay_187 : Room := { frames := 0, cells := 0, slots := 0, locals := 0 }
abbrev pX6_lay_187 (z : Nat) (σ : hpMem) (a : Int) (b : Int) : Option Value → hpMem → Prop := fun r τ => r = none ∧ (∀ j : Nat, j ≠ 187 → j ≠ 188 → τ j = σ j)
set_option maxHeartbeats 4000000 in
set_option maxRecDepth 20000 in
theorem tX6_lay_187 (l : Launch) (D : va_G) (cy : Nat → ClassId) (z : Nat) (σ : hpMem) (a : Int) (ha : hpR a) (b : Int) (hb : hpR b) (hb0 : b ≤ 60) : hpM l D cy z yX6_lay cX6_lay 4 none rX6_lay_187 [.ref (z + 187), .int (hpI a), .int (hpI b)] σ (pX6_lay_187 z σ a b) := by
  obtain ⟨ha1, ha2⟩ := ha
  obtain ⟨hb1, hb2⟩ := hb
  refine hp_met rfl (Nat.le_of_ble_eq_true rfl) (fun p e s m below meth c C hr hk => ?_)
  refine h_aload_n C dX6_lay_0 0 rfl rfl ?_
  refine h_iconst C dX6_lay_1 ?_
  refine h_put C O6 1 kd_187 (by decide) rfl wd_334 dX6_lay_2 (by decide) rfl (fi_187_1 hpu_at) ?_
  refine h_aload_n C dX6_lay_5 0 rfl rfl ?_
  refine h_iload_n C dX6_lay_6 1 rfl rfl ?_
  refine h_put C O6 2 kd_187 (by decide) rfl wd_336 dX6_lay_7 rfl rfl (fi_187_2 hpu_at) ?_
  refine h_aload_n C dX6_lay_10 0 rfl rfl ?_
  refine h_iload_n C dX6_lay_11 2 rfl rfl ?_
  refine h_put C O6 3 kd_187 (by decide) rfl wd_338 dX6_lay_12 rfl rfl (fi_187_3 hpu_at) ?_
  refine h_iconst C dX6_lay_15 ?_
  refine h_istore_n (lv' := [(3, .int (hpI 0)), (0, .ref (z + 187)), (1, .int (hpI a)), (2, .int (hpI b))]) C dX6_lay_16 rfl (by decide) rfl ?_
  have L1 : ∀ (n1 : Nat) (τ1 : hpMem) (i : Int), 0 ≤ i → i ≤ 60 → (∀ j : Nat, j ≠ 187 → j ≠ 188 → τ1 j = σ j) → (60 - i) < (n1 : Int) → hpF p l e rX6_lay_187 s m [.ref (z + 187), .int (hpI a), .int (hpI b)] below meth c 4 D cy z (pX6_lay_187 z σ a b) τ1 17 [(0, .ref (z + 187)), (1, .int (hpI a)), (2, .int (hpI b)), (3, .int (hpI i))] [] := by
    intro n1
    induction n1 with
    | zero => intro τ1 i hi1_0 hi1_1 hF1 hm1; exfalso; omega
    | succ n1 ih1 =>
      intro τ1 i hi1_0 hi1_1 hF1 hm1
      refine h_iload_n C dX6_lay_17 3 rfl rfl ?_
      refine h_iload_n C dX6_lay_18 2 rfl rfl ?_
      refine h_icmp_ge (tgt := 35) C dX6_lay_19 (by decide) ⟨by omega, by omega⟩ ⟨by omega, by omega⟩ (fun h2 => ?_) (fun h2 => ?_)
      · refine h_return C hr hk dX6_lay_35 ?_
        exact ⟨rfl, (fun j hj0 hj1 => ((hF1 j hj0 hj1).trans rfl))⟩
      · refine h_aload_n C dX6_lay_22 0 rfl rfl ?_
        refine h_get C O6 0 kd_187 (by decide) wd_332 dX6_lay_23 fr_187_0 ?_
        refine h_iload_n C dX6_lay_26 3 rfl rfl ?_
        refine h_lconst C 0 dX6_lay_27 (by decide) ?_
        refine h_lastore C dX6_lay_28 kd_188 (i).toNat (Int.toNat_of_nonneg (by omega)) (by rw [ln_188]; omega) ?_
        refine h_iinc (lv' := [(3, .int (hpI (i + 1))), (0, .ref (z + 187)), (1, .int (hpI a)), (2, .int (hpI b))]) C dX6_lay_29 3 rfl rfl (by decide) rfl ?_
        refine h_goto (tgt := 17) C dX6_lay_32 (by decide) ?_
        exact hp_sub [1, 2, 3, 0] rfl (ih1 _ (i + 1) (by omega) (by omega) (fun j hj0 hj1 => ((hpw_ne hj1).trans ((hF1 j hj0 hj1).trans rfl))) (by omega))
  exact hp_sub [1, 2, 3, 0] rfl (L1 61 _ 0 (by omega) (by omega) (fun j hj0 hj1 => ((hpw_ne hj0).trans ((hpw_ne hj0).trans ((hpw_ne hj0).trans rfl)))) (by omega))
abbrev rX6_lay_189 : Room := { frames := 0, cells := 0, slots := 0, locals := 0 }
abbrev pX6_lay_189 (z : Nat) (σ : hpMem) (a : Int) (b : Int) : Option Value → hpMem → Prop := fun r τ => r = none ∧ (∀ j : Nat, j ≠ 189 → j ≠ 190 → τ j = σ j)
set_option maxHeartbeats 4000000 in
set_option maxRecDepth 20000 in
theorem tX6_lay_189 (l : Launch) (D : va_G) (cy : Nat → ClassId) (z : Nat) (σ : hpMem) (a : Int) (ha : hpR a) (b : Int) (hb : hpR b) (hb0 : b ≤ 60) : hpM l D cy z yX6_lay cX6_lay 4 none rX6_lay_189 [.ref (z + 189), .int (hpI a), .int (hpI b)] σ (pX6_lay_189 z σ a b) := by
  obtain ⟨ha1, ha2⟩ := ha
  obtain ⟨hb1, hb2⟩ := hb
  refine hp_met rfl (Nat.le_of_ble_eq_true rfl) (fun p e s m below meth c C hr hk => ?_)
  refine h_aload_n C dX6_lay_0 0 rfl rfl ?_
  refine h_iconst C dX6_lay_1 ?_
  refine h_put C O6 1 kd_189 (by decide) rfl wd_334 dX6_lay_2 (by decide) rfl (fi_189_1 hpu_at) ?_
  refine h_aload_n C dX6_lay_5 0 rfl rfl ?_
  refine h_iload_n C dX6_lay_6 1 rfl rfl ?_
  refine h_put C O6 2 kd_189 (by decide) rfl wd_336 dX6_lay_7 rfl rfl (fi_189_2 hpu_at) ?_
  refine h_aload_n C dX6_lay_10 0 rfl rfl ?_
  refine h_iload_n C dX6_lay_11 2 rfl rfl ?_
  refine h_put C O6 3 kd_189 (by decide) rfl wd_338 dX6_lay_12 rfl rfl (fi_189_3 hpu_at) ?_
  refine h_iconst C dX6_lay_15 ?_
  refine h_istore_n (lv' := [(3, .int (hpI 0)), (0, .ref (z + 189)), (1, .int (hpI a)), (2, .int (hpI b))]) C dX6_lay_16 rfl (by decide) rfl ?_
  have L1 : ∀ (n1 : Nat) (τ1 : hpMem) (i : Int), 0 ≤ i → i ≤ 60 → (∀ j : Nat, j ≠ 189 → j ≠ 190 → τ1 j = σ j) → (60 - i) < (n1 : Int) → hpF p l e rX6_lay_189 s m [.ref (z + 189), .int (hpI a), .int (hpI b)] below meth c 4 D cy z (pX6_lay_189 z σ a b) τ1 17 [(0, .ref (z + 189)), (1, .int (hpI a)), (2, .int (hpI b)), (3, .int (hpI i))] [] := by
    intro n1
    induction n1 with
    | zero => intro τ1 i hi1_0 hi1_1 hF1 hm1; exfalso; omega
    | succ n1 ih1 =>
      intro τ1 i hi1_0 hi1_1 hF1 hm1
      refine h_iload_n C dX6_lay_17 3 rfl rfl ?_
      refine h_iload_n C dX6_lay_18 2 rfl rfl ?_
      refine h_icmp_ge (tgt := 35) C dX6_lay_19 (by decide) ⟨by omega, by omega⟩ ⟨by omega, by omega⟩ (fun h2 => ?_) (fun h2 => ?_)
      · refine h_return C hr hk dX6_lay_35 ?_
        exact ⟨rfl, (fun j hj0 hj1 => ((hF1 j hj0 hj1).trans rfl))⟩
      · refine h_aload_n C dX6_lay_22 0 rfl rfl ?_
        refine h_get C O6 0 kd_189 (by decide) wd_332 dX6_lay_23 fr_189_0 ?_
        refine h_iload_n C dX6_lay_26 3 rfl rfl ?_
        refine h_lconst C 0 dX6_lay_27 (by decide) ?_
        refine h_lastore C dX6_lay_28 kd_190 (i).toNat (Int.toNat_of_nonneg (by omega)) (by rw [ln_190]; omega) ?_
        refine h_iinc (lv' := [(3, .int (hpI (i + 1))), (0, .ref (z + 189)), (1, .int (hpI a)), (2, .int (hpI b))]) C dX6_lay_29 3 rfl rfl (by decide) rfl ?_
        refine h_goto (tgt := 17) C dX6_lay_32 (by decide) ?_
        exact hp_sub [1, 2, 3, 0] rfl (ih1 _ (i + 1) (by omega) (by omega) (fun j hj0 hj1 => ((hpw_ne hj1).trans ((hF1 j hj0 hj1).trans rfl))) (by omega))
  exact hp_sub [1, 2, 3, 0] rfl (L1 61 _ 0 (by omega) (by omega) (fun j hj0 hj1 => ((hpw_ne hj0).trans ((hpw_ne hj0).trans ((hpw_ne hj0).trans rfl)))) (by omega))
abbrev rX6_lay_191 : Room := { frames := 0, cells := 0, slots := 0, locals := 0 }
abbrev pX6_lay_191 (z : Nat) (σ : hpMem) (a : Int) (b : Int) : Option Value → hpMem → Prop := fun r τ => r = none ∧ (∀ j : Nat, j ≠ 191 → j ≠ 192 → τ j = σ j)
set_option maxHeartbeats 4000000 in
set_option maxRecDepth 20000 in
theorem tX6_lay_191 (l : Launch) (D : va_G) (cy : Nat → ClassId) (z : Nat) (σ : hpMem) (a : Int) (ha : hpR a) (b : Int) (hb : hpR b) (hb0 : b ≤ 60) : hpM l D cy z yX6_lay cX6_lay 4 none rX6_lay_191 [.ref (z + 191), .int (hpI a), .int (hpI b)] σ (pX6_lay_191 z σ a b) := by
  obtain ⟨ha1, ha2⟩ := ha
  obtain ⟨hb1, hb2⟩ := hb
  refine hp_met rfl (Nat.le_of_ble_eq_true rfl) (fun p e s m below meth c C hr hk => ?_)
  refine h_aload_n C dX6_lay_0 0 rfl rfl ?_
  refine h_iconst C dX6_lay_1 ?_
  refine h_put C O6 1 kd_191 (by decide) rfl wd_334 dX6_lay_2 (by decide) rfl (fi_191_1 hpu_at) ?_
  refine h_aload_n C dX6_lay_5 0 rfl rfl ?_
  refine h_iload_n C dX6_lay_6 1 rfl rfl ?_
  refine h_put C O6 2 kd_191 (by decide) rfl wd_336 dX6_lay_7 rfl rfl (fi_191_2 hpu_at) ?_
  refine h_aload_n C dX6_lay_10 0 rfl rfl ?_
  refine h_iload_n C dX6_lay_11 2 rfl rfl ?_
  refine h_put C O6 3 kd_191 (by decide) rfl wd_338 dX6_lay_12 rfl rfl (fi_191_3 hpu_at) ?_
  refine h_iconst C dX6_lay_15 ?_
  refine h_istore_n (lv' := [(3, .int (hpI 0)), (0, .ref (z + 191)), (1, .int (hpI a)), (2, .int (hpI b))]) C dX6_lay_16 rfl (by decide) rfl ?_
  have L1 : ∀ (n1 : Nat) (τ1 : hpMem) (i : Int), 0 ≤ i → i ≤ 60 → (∀ j : Nat, j ≠ 191 → j ≠ 192 → τ1 j = σ j) → (60 - i) < (n1 : Int) → hpF p l e rX6_lay_191 s m [.ref (z + 191), .int (hpI a), .int (hpI b)] below meth c 4 D cy z (pX6_lay_191 z σ a b) τ1 17 [(0, .ref (z + 191)), (1, .int (hpI a)), (2, .int (hpI b)), (3, .int (hpI i))] [] := by
    intro n1
    induction n1 with
    | zero => intro τ1 i hi1_0 hi1_1 hF1 hm1; exfalso; omega
    | succ n1 ih1 =>
      intro τ1 i hi1_0 hi1_1 hF1 hm1
      refine h_iload_n C dX6_lay_17 3 rfl rfl ?_
      refine h_iload_n C dX6_lay_18 2 rfl rfl ?_
      refine h_icmp_ge (tgt := 35) C dX6_lay_19 (by decide) ⟨by omega, by omega⟩ ⟨by omega, by omega⟩ (fun h2 => ?_) (fun h2 => ?_)
      · refine h_return C hr hk dX6_lay_35 ?_
        exact ⟨rfl, (fun j hj0 hj1 => ((hF1 j hj0 hj1).trans rfl))⟩
      · refine h_aload_n C dX6_lay_22 0 rfl rfl ?_
        refine h_get C O6 0 kd_191 (by decide) wd_332 dX6_lay_23 fr_191_0 ?_
        refine h_iload_n C dX6_lay_26 3 rfl rfl ?_
        refine h_lconst C 0 dX6_lay_27 (by decide) ?_
        refine h_lastore C dX6_lay_28 kd_192 (i).toNat (Int.toNat_of_nonneg (by omega)) (by rw [ln_192]; omega) ?_
        refine h_iinc (lv' := [(3, .int (hpI (i + 1))), (0, .ref (z + 191)), (1, .int (hpI a)), (2, .int (hpI b))]) C dX6_lay_29 3 rfl rfl (by decide) rfl ?_
        refine h_goto (tgt := 17) C dX6_lay_32 (by decide) ?_
        exact hp_sub [1, 2, 3, 0] rfl (ih1 _ (i + 1) (by omega) (by omega) (fun j hj0 hj1 => ((hpw_ne hj1).trans ((hF1 j hj0 hj1).trans rfl))) (by omega))
  exact hp_sub [1, 2, 3, 0] rfl (L1 61 _ 0 (by omega) (by omega) (fun j hj0 hj1 => ((hpw_ne hj0).trans ((hpw_ne hj0).trans ((hpw_ne hj0).trans rfl)))) (by omega))
abbrev rX6_lay_193 : Room := { frames := 0, cells := 0, slots := 0, locals := 0 }
abbrev pX6_lay_193 (z : Nat) (σ : hpMem) (a : Int) (b : Int) : Option Value → hpMem → Prop := fun r τ => r = none ∧ (∀ j : Nat, j ≠ 193 → j ≠ 194 → τ j = σ j)
set_option maxHeartbeats 4000000 in
set_option maxRecDepth 20000 in
theorem tX6_lay_193 (l : Launch) (D : va_G) (cy : Nat → ClassId) (z : Nat) (σ : hpMem) (a : Int) (ha : hpR a) (b : Int) (hb : hpR b) (hb0 : b ≤ 60) : hpM l D cy z yX6_lay cX6_lay 4 none rX6_lay_193 [.ref (z + 193), .int (hpI a), .int (hpI b)] σ (pX6_lay_193 z σ a b) := by
  obtain ⟨ha1, ha2⟩ := ha
  obtain ⟨hb1, hb2⟩ := hb
  refine hp_met rfl (Nat.le_of_ble_eq_true rfl) (fun p e s m below meth c C hr hk => ?_)
  refine h_aload_n C dX6_lay_0 0 rfl rfl ?_
  refine h_iconst C dX6_lay_1 ?_
  refine h_put C O6 1 kd_193 (by decide) rfl wd_334 dX6_lay_2 (by decide) rfl (fi_193_1 hpu_at) ?_
  refine h_aload_n C dX6_lay_5 0 rfl rfl ?_
  refine h_iload_n C dX6_lay_6 1 rfl rfl ?_
  refine h_put C O6 2 kd_193 (by decide) rfl wd_336 dX6_lay_7 rfl rfl (fi_193_2 hpu_at) ?_
  refine h_aload_n C dX6_lay_10 0 rfl rfl ?_
  refine h_iload_n C dX6_lay_11 2 rfl rfl ?_
  refine h_put C O6 3 kd_193 (by decide) rfl wd_338 dX6_lay_12 rfl rfl (fi_193_3 hpu_at) ?_
  refine h_iconst C dX6_lay_15 ?_
  refine h_istore_n (lv' := [(3, .int (hpI 0)), (0, .ref (z + 193)), (1, .int (hpI a)), (2, .int (hpI b))]) C dX6_lay_16 rfl (by decide) rfl ?_
  have L1 : ∀ (n1 : Nat) (τ1 : hpMem) (i : Int), 0 ≤ i → i ≤ 60 → (∀ j : Nat, j ≠ 193 → j ≠ 194 → τ1 j = σ j) → (60 - i) < (n1 : Int) → hpF p l e rX6_lay_193 s m [.ref (z + 193), .int (hpI a), .int (hpI b)] below meth c 4 D cy z (pX6_lay_193 z σ a b) τ1 17 [(0, .ref (z + 193)), (1, .int (hpI a)), (2, .int (hpI b)), (3, .int (hpI i))] [] := by
    intro n1
    induction n1 with
    | zero => intro τ1 i hi1_0 hi1_1 hF1 hm1; exfalso; omega
    | succ n1 ih1 =>
      intro τ1 i hi1_0 hi1_1 hF1 hm1
      refine h_iload_n C dX6_lay_17 3 rfl rfl ?_
      refine h_iload_n C dX6_lay_18 2 rfl rfl ?_
      refine h_icmp_ge (tgt := 35) C dX6_lay_19 (by decide) ⟨by omega, by omega⟩ ⟨by omega, by omega⟩ (fun h2 => ?_) (fun h2 => ?_)
      · refine h_return C hr hk dX6_lay_35 ?_
        exact ⟨rfl, (fun j hj0 hj1 => ((hF1 j hj0 hj1).trans rfl))⟩
      · refine h_aload_n C dX6_lay_22 0 rfl rfl ?_
        refine h_get C O6 0 kd_193 (by decide) wd_332 dX6_lay_23 fr_193_0 ?_
        refine h_iload_n C dX6_lay_26 3 rfl rfl ?_
        refine h_lconst C 0 dX6_lay_27 (by decide) ?_
        refine h_lastore C dX6_lay_28 kd_194 (i).toNat (Int.toNat_of_nonneg (by omega)) (by rw [ln_194]; omega) ?_
        refine h_iinc (lv' := [(3, .int (hpI (i + 1))), (0, .ref (z + 193)), (1, .int (hpI a)), (2, .int (hpI b))]) C dX6_lay_29 3 rfl rfl (by decide) rfl ?_
        refine h_goto (tgt := 17) C dX6_lay_32 (by decide) ?_
        exact hp_sub [1, 2, 3, 0] rfl (ih1 _ (i + 1) (by omega) (by omega) (fun j hj0 hj1 => ((hpw_ne hj1).trans ((hF1 j hj0 hj1).trans rfl))) (by omega))
  exact hp_sub [1, 2, 3, 0] rfl (L1 61 _ 0 (by omega) (by omega) (fun j hj0 hj1 => ((hpw_ne hj0).trans ((hpw_ne hj0).trans ((hpw_ne hj0).trans rfl)))) (by omega))
abbrev rX8_row : Room := { frames := 1, cells := 0, slots := 0, locals := 23 }
abbrev pX8_row (z : Nat) (σ : hpMem) (a : Int) (b : Int) (c0 : Int) : Option Value → hpMem → Prop := fun r τ => (∃ x : Int, r = some (.int (hpI x)) ∧ hpR x ∧ ((((a < 0 ∨ 3 < a) ∨ (b < 0 ∨ 3 < b) ∨ 60 < c0) ∧ x = -2) ∨ (0 ≤ a ∧ a ≤ 3 ∧ 0 ≤ b ∧ b ≤ 3 ∧ c0 < 0 ∧ x = -3) ∨ (0 ≤ a ∧ a ≤ 3 ∧ 0 ≤ b ∧ b ≤ 3 ∧ 0 ≤ c0 ∧ c0 ≤ 60 ∧ x = 0))) ∧ (∀ j : Nat, j ≠ 187 → j ≠ 188 → j ≠ 189 → j ≠ 190 → j ≠ 191 → j ≠ 192 → j ≠ 193 → j ≠ 194 → τ j = σ j)
set_option maxHeartbeats 4000000 in
set_option maxRecDepth 20000 in
theorem tX8_row (l : Launch) (D : va_G) (cy : Nat → ClassId) (z : Nat) (σ : hpMem) (a : Int) (ha : hpR a) (b : Int) (hb : hpR b) (c0 : Int) (hc0 : hpR c0) : hpM l D cy z yX8_row cX8_row 4 (some .int) rX8_row [.ref (z + 0), .int (hpI a), .int (hpI b), .int (hpI c0)] σ (pX8_row z σ a b c0) := by
  obtain ⟨ha1, ha2⟩ := ha
  obtain ⟨hb1, hb2⟩ := hb
  obtain ⟨hc01, hc02⟩ := hc0
  refine hp_met rfl (Nat.le_of_ble_eq_true rfl) (fun p e s m below meth c C hr hk => ?_)
  refine h_iload_n C dX8_row_0 1 rfl rfl ?_
  refine h_callS (As := [.int (hpI a)]) (rest := []) C yyX8_isSlot rfl wd_920 (tX8_isSlot l D cy z _ a ⟨by omega, by omega⟩) rfl rfl ⟨rfl, rfl, Nat.le_of_ble_eq_true rfl, Nat.le_of_ble_eq_true rfl⟩ ⟨Nat.le_of_ble_eq_true rfl, Nat.le_of_ble_eq_true rfl⟩ (Nat.le_of_ble_eq_true rfl) dX8_row_1 (fun r1 τ1 hp1 => ?_)
  obtain ⟨⟨x1, rfl, ⟨hx1a, hx1b⟩, hx1⟩, rfl⟩ := hp1
  show hpV _ _ _ _ _ _ _ _ _ _ _ _ _ _ _ _ _ _ _ _ _ (_ :: _)
  refine h_if_eq (tgt := 22) C dX8_row_4 (by decide) ⟨by omega, by omega⟩ (fun h2 => ?_) (fun h2 => ?_)
  · refine h_bipush C dX8_row_22 (by decide) ?_
    refine h_ireturn C hr hk dX8_row_24 ?_
    exact ⟨⟨_, rfl, ⟨by decide, by decide⟩, by omega⟩, (fun j hj0 hj1 hj2 hj3 hj4 hj5 hj6 hj7 => rfl)⟩
  · refine h_iload_n C dX8_row_7 2 rfl rfl ?_
    refine h_if_lt (tgt := 22) C dX8_row_8 (by decide) ⟨by omega, by omega⟩ (fun h3 => ?_) (fun h3 => ?_)
    · refine h_bipush C dX8_row_22 (by decide) ?_
      refine h_ireturn C hr hk dX8_row_24 ?_
      exact ⟨⟨_, rfl, ⟨by decide, by decide⟩, by omega⟩, (fun j hj0 hj1 hj2 hj3 hj4 hj5 hj6 hj7 => rfl)⟩
    · refine h_iload_n C dX8_row_11 2 rfl rfl ?_
      refine h_iconst C dX8_row_12 ?_
      refine h_icmp_ge (tgt := 22) C dX8_row_13 (by decide) ⟨by omega, by omega⟩ ⟨by decide, by decide⟩ (fun h4 => ?_) (fun h4 => ?_)
      · refine h_bipush C dX8_row_22 (by decide) ?_
        refine h_ireturn C hr hk dX8_row_24 ?_
        exact ⟨⟨_, rfl, ⟨by decide, by decide⟩, by omega⟩, (fun j hj0 hj1 hj2 hj3 hj4 hj5 hj6 hj7 => rfl)⟩
      · refine h_iload_n C dX8_row_16 3 rfl rfl ?_
        refine h_bipush C dX8_row_17 (by decide) ?_
        refine h_icmp_le (tgt := 25) C dX8_row_19 (by decide) ⟨by omega, by omega⟩ ⟨by decide, by decide⟩ (fun h5 => ?_) (fun h5 => ?_)
        · refine h_iload_n C dX8_row_25 3 rfl rfl ?_
          refine h_if_ge (tgt := 32) C dX8_row_26 (by decide) ⟨by omega, by omega⟩ (fun h6 => ?_) (fun h6 => ?_)
          · refine h_aload_n C dX8_row_32 0 rfl rfl ?_
            refine h_get C O8 4 kd_0 (by decide) wd_353 dX8_row_33 fr_0_4 ?_
            refine h_iload_n C dX8_row_36 1 rfl rfl ?_
            rcases (show a = 0 ∨ a = 1 ∨ a = 2 ∨ a = 3 by omega) with rfl | rfl | rfl | rfl
            · refine h_aaload (t0 := 6) C dX8_row_37 kd_16 (by decide) (by decide) rfl 0 rfl (by rw [ln_16]; decide) (by decide +kernel : hprf 16 0 = 187) ?_
              refine h_iload_n C dX8_row_38 2 rfl rfl ?_
              refine h_iload_n C dX8_row_39 3 rfl rfl ?_
              refine h_callVN (As := [.int (hpI b), .int (hpI c0)]) (rest := []) C yyX6_lay nw_1231 (tX6_lay_187 l D cy z _ b ⟨by omega, by omega⟩ c0 ⟨by omega, by omega⟩ (by omega)) kd_187 rfl rfl ⟨rfl, rfl, Nat.le_of_ble_eq_true rfl, Nat.le_of_ble_eq_true rfl⟩ ⟨Nat.le_of_ble_eq_true rfl, Nat.le_of_ble_eq_true rfl⟩ (Nat.le_of_ble_eq_true rfl) dX8_row_40 (fun r7 τ7 hp7 => ?_)
              obtain ⟨rfl, hF7⟩ := hp7
              show hpV _ _ _ _ _ _ _ _ _ _ _ _ _ _ _ _ _ _ _ _ _ []
              refine h_iconst C dX8_row_43 ?_
              refine h_ireturn C hr hk dX8_row_44 ?_
              exact ⟨⟨_, rfl, ⟨by decide, by decide⟩, by omega⟩, (fun j hj0 hj1 hj2 hj3 hj4 hj5 hj6 hj7 => ((hF7 j hj0 hj1).trans rfl))⟩
            · refine h_aaload (t0 := 6) C dX8_row_37 kd_16 (by decide) (by decide) rfl 1 rfl (by rw [ln_16]; decide) (by decide +kernel : hprf 16 1 = 189) ?_
              refine h_iload_n C dX8_row_38 2 rfl rfl ?_
              refine h_iload_n C dX8_row_39 3 rfl rfl ?_
              refine h_callVN (As := [.int (hpI b), .int (hpI c0)]) (rest := []) C yyX6_lay nw_1231 (tX6_lay_189 l D cy z _ b ⟨by omega, by omega⟩ c0 ⟨by omega, by omega⟩ (by omega)) kd_189 rfl rfl ⟨rfl, rfl, Nat.le_of_ble_eq_true rfl, Nat.le_of_ble_eq_true rfl⟩ ⟨Nat.le_of_ble_eq_true rfl, Nat.le_of_ble_eq_true rfl⟩ (Nat.le_of_ble_eq_true rfl) dX8_row_40 (fun r8 τ8 hp8 => ?_)
              obtain ⟨rfl, hF8⟩ := hp8
              show hpV _ _ _ _ _ _ _ _ _ _ _ _ _ _ _ _ _ _ _ _ _ []
              refine h_iconst C dX8_row_43 ?_
              refine h_ireturn C hr hk dX8_row_44 ?_
              exact ⟨⟨_, rfl, ⟨by decide, by decide⟩, by omega⟩, (fun j hj0 hj1 hj2 hj3 hj4 hj5 hj6 hj7 => ((hF8 j hj2 hj3).trans rfl))⟩
            · refine h_aaload (t0 := 6) C dX8_row_37 kd_16 (by decide) (by decide) rfl 2 rfl (by rw [ln_16]; decide) (by decide +kernel : hprf 16 2 = 191) ?_
              refine h_iload_n C dX8_row_38 2 rfl rfl ?_
              refine h_iload_n C dX8_row_39 3 rfl rfl ?_
              refine h_callVN (As := [.int (hpI b), .int (hpI c0)]) (rest := []) C yyX6_lay nw_1231 (tX6_lay_191 l D cy z _ b ⟨by omega, by omega⟩ c0 ⟨by omega, by omega⟩ (by omega)) kd_191 rfl rfl ⟨rfl, rfl, Nat.le_of_ble_eq_true rfl, Nat.le_of_ble_eq_true rfl⟩ ⟨Nat.le_of_ble_eq_true rfl, Nat.le_of_ble_eq_true rfl⟩ (Nat.le_of_ble_eq_true rfl) dX8_row_40 (fun r9 τ9 hp9 => ?_)
              obtain ⟨rfl, hF9⟩ := hp9
              show hpV _ _ _ _ _ _ _ _ _ _ _ _ _ _ _ _ _ _ _ _ _ []
              refine h_iconst C dX8_row_43 ?_
              refine h_ireturn C hr hk dX8_row_44 ?_
              exact ⟨⟨_, rfl, ⟨by decide, by decide⟩, by omega⟩, (fun j hj0 hj1 hj2 hj3 hj4 hj5 hj6 hj7 => ((hF9 j hj4 hj5).trans rfl))⟩
            · refine h_aaload (t0 := 6) C dX8_row_37 kd_16 (by decide) (by decide) rfl 3 rfl (by rw [ln_16]; decide) (by decide +kernel : hprf 16 3 = 193) ?_
              refine h_iload_n C dX8_row_38 2 rfl rfl ?_
              refine h_iload_n C dX8_row_39 3 rfl rfl ?_
              refine h_callVN (As := [.int (hpI b), .int (hpI c0)]) (rest := []) C yyX6_lay nw_1231 (tX6_lay_193 l D cy z _ b ⟨by omega, by omega⟩ c0 ⟨by omega, by omega⟩ (by omega)) kd_193 rfl rfl ⟨rfl, rfl, Nat.le_of_ble_eq_true rfl, Nat.le_of_ble_eq_true rfl⟩ ⟨Nat.le_of_ble_eq_true rfl, Nat.le_of_ble_eq_true rfl⟩ (Nat.le_of_ble_eq_true rfl) dX8_row_40 (fun r10 τ10 hp10 => ?_)
              obtain ⟨rfl, hF10⟩ := hp10
              show hpV _ _ _ _ _ _ _ _ _ _ _ _ _ _ _ _ _ _ _ _ _ []
              refine h_iconst C dX8_row_43 ?_
              refine h_ireturn C hr hk dX8_row_44 ?_
              exact ⟨⟨_, rfl, ⟨by decide, by decide⟩, by omega⟩, (fun j hj0 hj1 hj2 hj3 hj4 hj5 hj6 hj7 => ((hF10 j hj6 hj7).trans rfl))⟩
          · refine h_bipush C dX8_row_29 (by decide) ?_
            refine h_ireturn C hr hk dX8_row_31 ?_
            exact ⟨⟨_, rfl, ⟨by decide, by decide⟩, by omega⟩, (fun j hj0 hj1 hj2 hj3 hj4 hj5 hj6 hj7 => rfl)⟩
        · refine h_bipush C dX8_row_22 (by decide) ?_
          refine h_ireturn C hr hk dX8_row_24 ?_
          exact ⟨⟨_, rfl, ⟨by decide, by decide⟩, by omega⟩, (fun j hj0 hj1 hj2 hj3 hj4 hj5 hj6 hj7 => rfl)⟩
abbrev rX8_write : Room := { frames := 1, cells := 0, slots := 0, locals := 20 }
abbrev pX8_write (z : Nat) (σ : hpMem) (a : Int) (b : Int) (v : Int) : Option Value → hpMem → Prop := fun r τ => (∃ x : Int, r = some (.int (hpI x)) ∧ hpR x ∧ (((a < 0 ∨ 3 < a) ∧ x = -2) ∨ (0 ≤ a ∧ a ≤ 3 ∧ x = -6))) ∧ σ = τ
set_option maxHeartbeats 4000000 in
set_option maxRecDepth 20000 in
theorem tX8_write (l : Launch) (D : va_G) (cy : Nat → ClassId) (z : Nat) (σ : hpMem) (a : Int) (ha : hpR a) (b : Int) (hb : hpR b) (v : Int) (hv : hpRL v) (h_187_1 : σ 187 1 = 0) (h_189_1 : σ 189 1 = 0) (h_191_1 : σ 191 1 = 0) (h_193_1 : σ 193 1 = 0) : hpM l D cy z yX8_write cX8_write 6 (some .int) rX8_write [.ref (z + 0), .int (hpI a), .int (hpI b), .long (hpJ v)] σ (pX8_write z σ a b v) := by
  obtain ⟨ha1, ha2⟩ := ha
  obtain ⟨hb1, hb2⟩ := hb
  obtain ⟨hv1, hv2⟩ := hv
  refine hp_met rfl (Nat.le_of_ble_eq_true rfl) (fun p e s m below meth c C hr hk => ?_)
  refine h_iload_n C dX8_write_0 1 rfl rfl ?_
  refine h_callS (As := [.int (hpI a)]) (rest := []) C yyX8_isSlot rfl wd_920 (tX8_isSlot l D cy z _ a ⟨by omega, by omega⟩) rfl rfl ⟨rfl, rfl, Nat.le_of_ble_eq_true rfl, Nat.le_of_ble_eq_true rfl⟩ ⟨Nat.le_of_ble_eq_true rfl, Nat.le_of_ble_eq_true rfl⟩ (Nat.le_of_ble_eq_true rfl) dX8_write_1 (fun r1 τ1 hp1 => ?_)
  obtain ⟨⟨x1, rfl, ⟨hx1a, hx1b⟩, hx1⟩, rfl⟩ := hp1
  show hpV _ _ _ _ _ _ _ _ _ _ _ _ _ _ _ _ _ _ _ _ _ (_ :: _)
  refine h_if_ne (tgt := 10) C dX8_write_4 (by decide) ⟨by omega, by omega⟩ (fun h2 => ?_) (fun h2 => ?_)
  · refine h_aload_n C dX8_write_10 0 rfl rfl ?_
    refine h_get C O8 4 kd_0 (by decide) wd_353 dX8_write_11 fr_0_4 ?_
    refine h_iload_n C dX8_write_14 1 rfl rfl ?_
    rcases (show a = 0 ∨ a = 1 ∨ a = 2 ∨ a = 3 by omega) with rfl | rfl | rfl | rfl
    · refine h_aaload (t0 := 6) C dX8_write_15 kd_16 (by decide) (by decide) rfl 0 rfl (by rw [ln_16]; decide) (by decide +kernel : hprf 16 0 = 187) ?_
      refine h_astore (lv' := [(5, .ref (z + 187)), (0, .ref (z + 0)), (1, .int (hpI 0)), (2, .int (hpI b)), (3, .long (hpJ v))]) C dX8_write_16 (by decide) rfl ?_
      refine h_aload C dX8_write_18 0 rfl ?_
      refine h_getN C O6 1 kd_187 (by decide) nw_335 dX8_write_20 (fi_187_1 h_187_1) ?_
      refine h_if_ne (tgt := 29) C dX8_write_23 (by decide) ⟨by decide, by decide⟩ (fun h3 => ?_) (fun h3 => ?_)
      · exfalso; omega
      · refine h_bipush C dX8_write_26 (by decide) ?_
        refine h_ireturn C hr hk dX8_write_28 ?_
        exact ⟨⟨_, rfl, ⟨by decide, by decide⟩, by omega⟩, rfl⟩
    · refine h_aaload (t0 := 6) C dX8_write_15 kd_16 (by decide) (by decide) rfl 1 rfl (by rw [ln_16]; decide) (by decide +kernel : hprf 16 1 = 189) ?_
      refine h_astore (lv' := [(5, .ref (z + 189)), (0, .ref (z + 0)), (1, .int (hpI 1)), (2, .int (hpI b)), (3, .long (hpJ v))]) C dX8_write_16 (by decide) rfl ?_
      refine h_aload C dX8_write_18 0 rfl ?_
      refine h_getN C O6 1 kd_189 (by decide) nw_335 dX8_write_20 (fi_189_1 h_189_1) ?_
      refine h_if_ne (tgt := 29) C dX8_write_23 (by decide) ⟨by decide, by decide⟩ (fun h4 => ?_) (fun h4 => ?_)
      · exfalso; omega
      · refine h_bipush C dX8_write_26 (by decide) ?_
        refine h_ireturn C hr hk dX8_write_28 ?_
        exact ⟨⟨_, rfl, ⟨by decide, by decide⟩, by omega⟩, rfl⟩
    · refine h_aaload (t0 := 6) C dX8_write_15 kd_16 (by decide) (by decide) rfl 2 rfl (by rw [ln_16]; decide) (by decide +kernel : hprf 16 2 = 191) ?_
      refine h_astore (lv' := [(5, .ref (z + 191)), (0, .ref (z + 0)), (1, .int (hpI 2)), (2, .int (hpI b)), (3, .long (hpJ v))]) C dX8_write_16 (by decide) rfl ?_
      refine h_aload C dX8_write_18 0 rfl ?_
      refine h_getN C O6 1 kd_191 (by decide) nw_335 dX8_write_20 (fi_191_1 h_191_1) ?_
      refine h_if_ne (tgt := 29) C dX8_write_23 (by decide) ⟨by decide, by decide⟩ (fun h5 => ?_) (fun h5 => ?_)
      · exfalso; omega
      · refine h_bipush C dX8_write_26 (by decide) ?_
        refine h_ireturn C hr hk dX8_write_28 ?_
        exact ⟨⟨_, rfl, ⟨by decide, by decide⟩, by omega⟩, rfl⟩
    · refine h_aaload (t0 := 6) C dX8_write_15 kd_16 (by decide) (by decide) rfl 3 rfl (by rw [ln_16]; decide) (by decide +kernel : hprf 16 3 = 193) ?_
      refine h_astore (lv' := [(5, .ref (z + 193)), (0, .ref (z + 0)), (1, .int (hpI 3)), (2, .int (hpI b)), (3, .long (hpJ v))]) C dX8_write_16 (by decide) rfl ?_
      refine h_aload C dX8_write_18 0 rfl ?_
      refine h_getN C O6 1 kd_193 (by decide) nw_335 dX8_write_20 (fi_193_1 h_193_1) ?_
      refine h_if_ne (tgt := 29) C dX8_write_23 (by decide) ⟨by decide, by decide⟩ (fun h6 => ?_) (fun h6 => ?_)
      · exfalso; omega
      · refine h_bipush C dX8_write_26 (by decide) ?_
        refine h_ireturn C hr hk dX8_write_28 ?_
        exact ⟨⟨_, rfl, ⟨by decide, by decide⟩, by omega⟩, rfl⟩
  · refine h_bipush C dX8_write_7 (by decide) ?_
    refine h_ireturn C hr hk dX8_write_9 ?_
    exact ⟨⟨_, rfl, ⟨by decide, by decide⟩, by omega⟩, rfl⟩
abbrev rX8_paste : Room := { frames := 1, cells := 0, slots := 0, locals := 20 }
abbrev pX8_paste (z : Nat) (σ : hpMem) (a : Int) (b : Int) (c0 : Int) (d0 : Int) (e0 : Int) : Option Value → hpMem → Prop := fun r τ => (∃ x : Int, r = some (.int (hpI x)) ∧ hpR x ∧ ((((a < 0 ∨ 3 < a) ∨ (c0 < 0 ∨ 3 < c0)) ∧ x = -2) ∨ (0 ≤ a ∧ a ≤ 3 ∧ 0 ≤ c0 ∧ c0 ≤ 3 ∧ x = -6))) ∧ σ = τ
set_option maxHeartbeats 4000000 in
set_option maxRecDepth 20000 in
theorem tX8_paste (l : Launch) (D : va_G) (cy : Nat → ClassId) (z : Nat) (σ : hpMem) (a : Int) (ha : hpR a) (b : Int) (hb : hpR b) (c0 : Int) (hc0 : hpR c0) (d0 : Int) (hd0 : hpR d0) (e0 : Int) (he0 : hpR e0) (h_187_1 : σ 187 1 = 0) (h_189_1 : σ 189 1 = 0) (h_191_1 : σ 191 1 = 0) (h_193_1 : σ 193 1 = 0) : hpM l D cy z yX8_paste cX8_paste 8 (some .int) rX8_paste [.ref (z + 0), .int (hpI a), .int (hpI b), .int (hpI c0), .int (hpI d0), .int (hpI e0)] σ (pX8_paste z σ a b c0 d0 e0) := by
  obtain ⟨ha1, ha2⟩ := ha
  obtain ⟨hb1, hb2⟩ := hb
  obtain ⟨hc01, hc02⟩ := hc0
  obtain ⟨hd01, hd02⟩ := hd0
  obtain ⟨he01, he02⟩ := he0
  refine hp_met rfl (Nat.le_of_ble_eq_true rfl) (fun p e s m below meth c C hr hk => ?_)
  refine h_iload_n C dX8_paste_0 1 rfl rfl ?_
  refine h_callS (As := [.int (hpI a)]) (rest := []) C yyX8_isSlot rfl wd_920 (tX8_isSlot l D cy z _ a ⟨by omega, by omega⟩) rfl rfl ⟨rfl, rfl, Nat.le_of_ble_eq_true rfl, Nat.le_of_ble_eq_true rfl⟩ ⟨Nat.le_of_ble_eq_true rfl, Nat.le_of_ble_eq_true rfl⟩ (Nat.le_of_ble_eq_true rfl) dX8_paste_1 (fun r1 τ1 hp1 => ?_)
  obtain ⟨⟨x1, rfl, ⟨hx1a, hx1b⟩, hx1⟩, rfl⟩ := hp1
  show hpV _ _ _ _ _ _ _ _ _ _ _ _ _ _ _ _ _ _ _ _ _ (_ :: _)
  refine h_if_eq (tgt := 14) C dX8_paste_4 (by decide) ⟨by omega, by omega⟩ (fun h2 => ?_) (fun h2 => ?_)
  · refine h_bipush C dX8_paste_14 (by decide) ?_
    refine h_ireturn C hr hk dX8_paste_16 ?_
    exact ⟨⟨_, rfl, ⟨by decide, by decide⟩, by omega⟩, rfl⟩
  · refine h_iload_n C dX8_paste_7 3 rfl rfl ?_
    refine h_callS (As := [.int (hpI c0)]) (rest := []) C yyX8_isSlot rfl wd_920 (tX8_isSlot l D cy z _ c0 ⟨by omega, by omega⟩) rfl rfl ⟨rfl, rfl, Nat.le_of_ble_eq_true rfl, Nat.le_of_ble_eq_true rfl⟩ ⟨Nat.le_of_ble_eq_true rfl, Nat.le_of_ble_eq_true rfl⟩ (Nat.le_of_ble_eq_true rfl) dX8_paste_8 (fun r3 τ3 hp3 => ?_)
    obtain ⟨⟨x3, rfl, ⟨hx3a, hx3b⟩, hx3⟩, rfl⟩ := hp3
    show hpV _ _ _ _ _ _ _ _ _ _ _ _ _ _ _ _ _ _ _ _ _ (_ :: _)
    refine h_if_ne (tgt := 17) C dX8_paste_11 (by decide) ⟨by omega, by omega⟩ (fun h4 => ?_) (fun h4 => ?_)
    · refine h_aload_n C dX8_paste_17 0 rfl rfl ?_
      refine h_get C O8 4 kd_0 (by decide) wd_353 dX8_paste_18 fr_0_4 ?_
      refine h_iload_n C dX8_paste_21 1 rfl rfl ?_
      rcases (show a = 0 ∨ a = 1 ∨ a = 2 ∨ a = 3 by omega) with rfl | rfl | rfl | rfl
      · refine h_aaload (t0 := 6) C dX8_paste_22 kd_16 (by decide) (by decide) rfl 0 rfl (by rw [ln_16]; decide) (by decide +kernel : hprf 16 0 = 187) ?_
        refine h_astore (lv' := [(6, .ref (z + 187)), (0, .ref (z + 0)), (1, .int (hpI 0)), (2, .int (hpI b)), (3, .int (hpI c0)), (4, .int (hpI d0)), (5, .int (hpI e0))]) C dX8_paste_23 (by decide) rfl ?_
        refine h_aload_n C dX8_paste_25 1 rfl rfl ?_
        refine h_get C O8 4 kd_0 (by decide) wd_353 dX8_paste_26 fr_0_4 ?_
        refine h_iload_n C dX8_paste_29 4 rfl rfl ?_
        rcases (show c0 = 0 ∨ c0 = 1 ∨ c0 = 2 ∨ c0 = 3 by omega) with rfl | rfl | rfl | rfl
        · refine h_aaload (t0 := 6) C dX8_paste_30 kd_16 (by decide) (by decide) rfl 0 rfl (by rw [ln_16]; decide) (by decide +kernel : hprf 16 0 = 187) ?_
          refine h_astore (lv' := [(7, .ref (z + 187)), (6, .ref (z + 187)), (0, .ref (z + 0)), (1, .int (hpI 0)), (2, .int (hpI b)), (3, .int (hpI 0)), (4, .int (hpI d0)), (5, .int (hpI e0))]) C dX8_paste_31 (by decide) rfl ?_
          refine h_aload C dX8_paste_33 1 rfl ?_
          refine h_getN C O6 1 kd_187 (by decide) nw_335 dX8_paste_35 (fi_187_1 h_187_1) ?_
          refine h_if_eq (tgt := 49) C dX8_paste_38 (by decide) ⟨by decide, by decide⟩ (fun h5 => ?_) (fun h5 => ?_)
          · refine h_bipush C dX8_paste_49 (by decide) ?_
            refine h_ireturn C hr hk dX8_paste_51 ?_
            exact ⟨⟨_, rfl, ⟨by decide, by decide⟩, by omega⟩, rfl⟩
          · exfalso; omega
        · refine h_aaload (t0 := 6) C dX8_paste_30 kd_16 (by decide) (by decide) rfl 1 rfl (by rw [ln_16]; decide) (by decide +kernel : hprf 16 1 = 189) ?_
          refine h_astore (lv' := [(7, .ref (z + 189)), (6, .ref (z + 187)), (0, .ref (z + 0)), (1, .int (hpI 0)), (2, .int (hpI b)), (3, .int (hpI 1)), (4, .int (hpI d0)), (5, .int (hpI e0))]) C dX8_paste_31 (by decide) rfl ?_
          refine h_aload C dX8_paste_33 1 rfl ?_
          refine h_getN C O6 1 kd_187 (by decide) nw_335 dX8_paste_35 (fi_187_1 h_187_1) ?_
          refine h_if_eq (tgt := 49) C dX8_paste_38 (by decide) ⟨by decide, by decide⟩ (fun h6 => ?_) (fun h6 => ?_)
          · refine h_bipush C dX8_paste_49 (by decide) ?_
            refine h_ireturn C hr hk dX8_paste_51 ?_
            exact ⟨⟨_, rfl, ⟨by decide, by decide⟩, by omega⟩, rfl⟩
          · exfalso; omega
        · refine h_aaload (t0 := 6) C dX8_paste_30 kd_16 (by decide) (by decide) rfl 2 rfl (by rw [ln_16]; decide) (by decide +kernel : hprf 16 2 = 191) ?_
          refine h_astore (lv' := [(7, .ref (z + 191)), (6, .ref (z + 187)), (0, .ref (z + 0)), (1, .int (hpI 0)), (2, .int (hpI b)), (3, .int (hpI 2)), (4, .int (hpI d0)), (5, .int (hpI e0))]) C dX8_paste_31 (by decide) rfl ?_
          refine h_aload C dX8_paste_33 1 rfl ?_
          refine h_getN C O6 1 kd_187 (by decide) nw_335 dX8_paste_35 (fi_187_1 h_187_1) ?_
          refine h_if_eq (tgt := 49) C dX8_paste_38 (by decide) ⟨by decide, by decide⟩ (fun h7 => ?_) (fun h7 => ?_)
          · refine h_bipush C dX8_paste_49 (by decide) ?_
            refine h_ireturn C hr hk dX8_paste_51 ?_
            exact ⟨⟨_, rfl, ⟨by decide, by decide⟩, by omega⟩, rfl⟩
          · exfalso; omega
        · refine h_aaload (t0 := 6) C dX8_paste_30 kd_16 (by decide) (by decide) rfl 3 rfl (by rw [ln_16]; decide) (by decide +kernel : hprf 16 3 = 193) ?_
          refine h_astore (lv' := [(7, .ref (z + 193)), (6, .ref (z + 187)), (0, .ref (z + 0)), (1, .int (hpI 0)), (2, .int (hpI b)), (3, .int (hpI 3)), (4, .int (hpI d0)), (5, .int (hpI e0))]) C dX8_paste_31 (by decide) rfl ?_
          refine h_aload C dX8_paste_33 1 rfl ?_
          refine h_getN C O6 1 kd_187 (by decide) nw_335 dX8_paste_35 (fi_187_1 h_187_1) ?_
          refine h_if_eq (tgt := 49) C dX8_paste_38 (by decide) ⟨by decide, by decide⟩ (fun h8 => ?_) (fun h8 => ?_)
          · refine h_bipush C dX8_paste_49 (by decide) ?_
            refine h_ireturn C hr hk dX8_paste_51 ?_
            exact ⟨⟨_, rfl, ⟨by decide, by decide⟩, by omega⟩, rfl⟩
          · exfalso; omega
      · refine h_aaload (t0 := 6) C dX8_paste_22 kd_16 (by decide) (by decide) rfl 1 rfl (by rw [ln_16]; decide) (by decide +kernel : hprf 16 1 = 189) ?_
        refine h_astore (lv' := [(6, .ref (z + 189)), (0, .ref (z + 0)), (1, .int (hpI 1)), (2, .int (hpI b)), (3, .int (hpI c0)), (4, .int (hpI d0)), (5, .int (hpI e0))]) C dX8_paste_23 (by decide) rfl ?_
        refine h_aload_n C dX8_paste_25 1 rfl rfl ?_
        refine h_get C O8 4 kd_0 (by decide) wd_353 dX8_paste_26 fr_0_4 ?_
        refine h_iload_n C dX8_paste_29 4 rfl rfl ?_
        rcases (show c0 = 0 ∨ c0 = 1 ∨ c0 = 2 ∨ c0 = 3 by omega) with rfl | rfl | rfl | rfl
        · refine h_aaload (t0 := 6) C dX8_paste_30 kd_16 (by decide) (by decide) rfl 0 rfl (by rw [ln_16]; decide) (by decide +kernel : hprf 16 0 = 187) ?_
          refine h_astore (lv' := [(7, .ref (z + 187)), (6, .ref (z + 189)), (0, .ref (z + 0)), (1, .int (hpI 1)), (2, .int (hpI b)), (3, .int (hpI 0)), (4, .int (hpI d0)), (5, .int (hpI e0))]) C dX8_paste_31 (by decide) rfl ?_
          refine h_aload C dX8_paste_33 1 rfl ?_
          refine h_getN C O6 1 kd_189 (by decide) nw_335 dX8_paste_35 (fi_189_1 h_189_1) ?_
          refine h_if_eq (tgt := 49) C dX8_paste_38 (by decide) ⟨by decide, by decide⟩ (fun h9 => ?_) (fun h9 => ?_)
          · refine h_bipush C dX8_paste_49 (by decide) ?_
            refine h_ireturn C hr hk dX8_paste_51 ?_
            exact ⟨⟨_, rfl, ⟨by decide, by decide⟩, by omega⟩, rfl⟩
          · exfalso; omega
        · refine h_aaload (t0 := 6) C dX8_paste_30 kd_16 (by decide) (by decide) rfl 1 rfl (by rw [ln_16]; decide) (by decide +kernel : hprf 16 1 = 189) ?_
          refine h_astore (lv' := [(7, .ref (z + 189)), (6, .ref (z + 189)), (0, .ref (z + 0)), (1, .int (hpI 1)), (2, .int (hpI b)), (3, .int (hpI 1)), (4, .int (hpI d0)), (5, .int (hpI e0))]) C dX8_paste_31 (by decide) rfl ?_
          refine h_aload C dX8_paste_33 1 rfl ?_
          refine h_getN C O6 1 kd_189 (by decide) nw_335 dX8_paste_35 (fi_189_1 h_189_1) ?_
          refine h_if_eq (tgt := 49) C dX8_paste_38 (by decide) ⟨by decide, by decide⟩ (fun h10 => ?_) (fun h10 => ?_)
          · refine h_bipush C dX8_paste_49 (by decide) ?_
            refine h_ireturn C hr hk dX8_paste_51 ?_
            exact ⟨⟨_, rfl, ⟨by decide, by decide⟩, by omega⟩, rfl⟩
          · exfalso; omega
        · refine h_aaload (t0 := 6) C dX8_paste_30 kd_16 (by decide) (by decide) rfl 2 rfl (by rw [ln_16]; decide) (by decide +kernel : hprf 16 2 = 191) ?_
          refine h_astore (lv' := [(7, .ref (z + 191)), (6, .ref (z + 189)), (0, .ref (z + 0)), (1, .int (hpI 1)), (2, .int (hpI b)), (3, .int (hpI 2)), (4, .int (hpI d0)), (5, .int (hpI e0))]) C dX8_paste_31 (by decide) rfl ?_
          refine h_aload C dX8_paste_33 1 rfl ?_
          refine h_getN C O6 1 kd_189 (by decide) nw_335 dX8_paste_35 (fi_189_1 h_189_1) ?_
          refine h_if_eq (tgt := 49) C dX8_paste_38 (by decide) ⟨by decide, by decide⟩ (fun h11 => ?_) (fun h11 => ?_)
          · refine h_bipush C dX8_paste_49 (by decide) ?_
            refine h_ireturn C hr hk dX8_paste_51 ?_
            exact ⟨⟨_, rfl, ⟨by decide, by decide⟩, by omega⟩, rfl⟩
          · exfalso; omega
        · refine h_aaload (t0 := 6) C dX8_paste_30 kd_16 (by decide) (by decide) rfl 3 rfl (by rw [ln_16]; decide) (by decide +kernel : hprf 16 3 = 193) ?_
          refine h_astore (lv' := [(7, .ref (z + 193)), (6, .ref (z + 189)), (0, .ref (z + 0)), (1, .int (hpI 1)), (2, .int (hpI b)), (3, .int (hpI 3)), (4, .int (hpI d0)), (5, .int (hpI e0))]) C dX8_paste_31 (by decide) rfl ?_
          refine h_aload C dX8_paste_33 1 rfl ?_
          refine h_getN C O6 1 kd_189 (by decide) nw_335 dX8_paste_35 (fi_189_1 h_189_1) ?_
          refine h_if_eq (tgt := 49) C dX8_paste_38 (by decide) ⟨by decide, by decide⟩ (fun h12 => ?_) (fun h12 => ?_)
          · refine h_bipush C dX8_paste_49 (by decide) ?_
            refine h_ireturn C hr hk dX8_paste_51 ?_
            exact ⟨⟨_, rfl, ⟨by decide, by decide⟩, by omega⟩, rfl⟩
          · exfalso; omega
      · refine h_aaload (t0 := 6) C dX8_paste_22 kd_16 (by decide) (by decide) rfl 2 rfl (by rw [ln_16]; decide) (by decide +kernel : hprf 16 2 = 191) ?_
        refine h_astore (lv' := [(6, .ref (z + 191)), (0, .ref (z + 0)), (1, .int (hpI 2)), (2, .int (hpI b)), (3, .int (hpI c0)), (4, .int (hpI d0)), (5, .int (hpI e0))]) C dX8_paste_23 (by decide) rfl ?_
        refine h_aload_n C dX8_paste_25 1 rfl rfl ?_
        refine h_get C O8 4 kd_0 (by decide) wd_353 dX8_paste_26 fr_0_4 ?_
        refine h_iload_n C dX8_paste_29 4 rfl rfl ?_
        rcases (show c0 = 0 ∨ c0 = 1 ∨ c0 = 2 ∨ c0 = 3 by omega) with rfl | rfl | rfl | rfl
        · refine h_aaload (t0 := 6) C dX8_paste_30 kd_16 (by decide) (by decide) rfl 0 rfl (by rw [ln_16]; decide) (by decide +kernel : hprf 16 0 = 187) ?_
          refine h_astore (lv' := [(7, .ref (z + 187)), (6, .ref (z + 191)), (0, .ref (z + 0)), (1, .int (hpI 2)), (2, .int (hpI b)), (3, .int (hpI 0)), (4, .int (hpI d0)), (5, .int (hpI e0))]) C dX8_paste_31 (by decide) rfl ?_
          refine h_aload C dX8_paste_33 1 rfl ?_
          refine h_getN C O6 1 kd_191 (by decide) nw_335 dX8_paste_35 (fi_191_1 h_191_1) ?_
          refine h_if_eq (tgt := 49) C dX8_paste_38 (by decide) ⟨by decide, by decide⟩ (fun h13 => ?_) (fun h13 => ?_)
          · refine h_bipush C dX8_paste_49 (by decide) ?_
            refine h_ireturn C hr hk dX8_paste_51 ?_
            exact ⟨⟨_, rfl, ⟨by decide, by decide⟩, by omega⟩, rfl⟩
          · exfalso; omega
        · refine h_aaload (t0 := 6) C dX8_paste_30 kd_16 (by decide) (by decide) rfl 1 rfl (by rw [ln_16]; decide) (by decide +kernel : hprf 16 1 = 189) ?_
          refine h_astore (lv' := [(7, .ref (z + 189)), (6, .ref (z + 191)), (0, .ref (z + 0)), (1, .int (hpI 2)), (2, .int (hpI b)), (3, .int (hpI 1)), (4, .int (hpI d0)), (5, .int (hpI e0))]) C dX8_paste_31 (by decide) rfl ?_
          refine h_aload C dX8_paste_33 1 rfl ?_
          refine h_getN C O6 1 kd_191 (by decide) nw_335 dX8_paste_35 (fi_191_1 h_191_1) ?_
          refine h_if_eq (tgt := 49) C dX8_paste_38 (by decide) ⟨by decide, by decide⟩ (fun h14 => ?_) (fun h14 => ?_)
          · refine h_bipush C dX8_paste_49 (by decide) ?_
            refine h_ireturn C hr hk dX8_paste_51 ?_
            exact ⟨⟨_, rfl, ⟨by decide, by decide⟩, by omega⟩, rfl⟩
          · exfalso; omega
        · refine h_aaload (t0 := 6) C dX8_paste_30 kd_16 (by decide) (by decide) rfl 2 rfl (by rw [ln_16]; decide) (by decide +kernel : hprf 16 2 = 191) ?_
          refine h_astore (lv' := [(7, .ref (z + 191)), (6, .ref (z + 191)), (0, .ref (z + 0)), (1, .int (hpI 2)), (2, .int (hpI b)), (3, .int (hpI 2)), (4, .int (hpI d0)), (5, .int (hpI e0))]) C dX8_paste_31 (by decide) rfl ?_
          refine h_aload C dX8_paste_33 1 rfl ?_
          refine h_getN C O6 1 kd_191 (by decide) nw_335 dX8_paste_35 (fi_191_1 h_191_1) ?_
          refine h_if_eq (tgt := 49) C dX8_paste_38 (by decide) ⟨by decide, by decide⟩ (fun h15 => ?_) (fun h15 => ?_)
          · refine h_bipush C dX8_paste_49 (by decide) ?_
            refine h_ireturn C hr hk dX8_paste_51 ?_
            exact ⟨⟨_, rfl, ⟨by decide, by decide⟩, by omega⟩, rfl⟩
          · exfalso; omega
        · refine h_aaload (t0 := 6) C dX8_paste_30 kd_16 (by decide) (by decide) rfl 3 rfl (by rw [ln_16]; decide) (by decide +kernel : hprf 16 3 = 193) ?_
          refine h_astore (lv' := [(7, .ref (z + 193)), (6, .ref (z + 191)), (0, .ref (z + 0)), (1, .int (hpI 2)), (2, .int (hpI b)), (3, .int (hpI 3)), (4, .int (hpI d0)), (5, .int (hpI e0))]) C dX8_paste_31 (by decide) rfl ?_
          refine h_aload C dX8_paste_33 1 rfl ?_
          refine h_getN C O6 1 kd_191 (by decide) nw_335 dX8_paste_35 (fi_191_1 h_191_1) ?_
          refine h_if_eq (tgt := 49) C dX8_paste_38 (by decide) ⟨by decide, by decide⟩ (fun h16 => ?_) (fun h16 => ?_)
          · refine h_bipush C dX8_paste_49 (by decide) ?_
            refine h_ireturn C hr hk dX8_paste_51 ?_
            exact ⟨⟨_, rfl, ⟨by decide, by decide⟩, by omega⟩, rfl⟩
          · exfalso; omega
      · refine h_aaload (t0 := 6) C dX8_paste_22 kd_16 (by decide) (by decide) rfl 3 rfl (by rw [ln_16]; decide) (by decide +kernel : hprf 16 3 = 193) ?_
        refine h_astore (lv' := [(6, .ref (z + 193)), (0, .ref (z + 0)), (1, .int (hpI 3)), (2, .int (hpI b)), (3, .int (hpI c0)), (4, .int (hpI d0)), (5, .int (hpI e0))]) C dX8_paste_23 (by decide) rfl ?_
        refine h_aload_n C dX8_paste_25 1 rfl rfl ?_
        refine h_get C O8 4 kd_0 (by decide) wd_353 dX8_paste_26 fr_0_4 ?_
        refine h_iload_n C dX8_paste_29 4 rfl rfl ?_
        rcases (show c0 = 0 ∨ c0 = 1 ∨ c0 = 2 ∨ c0 = 3 by omega) with rfl | rfl | rfl | rfl
        · refine h_aaload (t0 := 6) C dX8_paste_30 kd_16 (by decide) (by decide) rfl 0 rfl (by rw [ln_16]; decide) (by decide +kernel : hprf 16 0 = 187) ?_
          refine h_astore (lv' := [(7, .ref (z + 187)), (6, .ref (z + 193)), (0, .ref (z + 0)), (1, .int (hpI 3)), (2, .int (hpI b)), (3, .int (hpI 0)), (4, .int (hpI d0)), (5, .int (hpI e0))]) C dX8_paste_31 (by decide) rfl ?_
          refine h_aload C dX8_paste_33 1 rfl ?_
          refine h_getN C O6 1 kd_193 (by decide) nw_335 dX8_paste_35 (fi_193_1 h_193_1) ?_
          refine h_if_eq (tgt := 49) C dX8_paste_38 (by decide) ⟨by decide, by decide⟩ (fun h17 => ?_) (fun h17 => ?_)
          · refine h_bipush C dX8_paste_49 (by decide) ?_
            refine h_ireturn C hr hk dX8_paste_51 ?_
            exact ⟨⟨_, rfl, ⟨by decide, by decide⟩, by omega⟩, rfl⟩
          · exfalso; omega
        · refine h_aaload (t0 := 6) C dX8_paste_30 kd_16 (by decide) (by decide) rfl 1 rfl (by rw [ln_16]; decide) (by decide +kernel : hprf 16 1 = 189) ?_
          refine h_astore (lv' := [(7, .ref (z + 189)), (6, .ref (z + 193)), (0, .ref (z + 0)), (1, .int (hpI 3)), (2, .int (hpI b)), (3, .int (hpI 1)), (4, .int (hpI d0)), (5, .int (hpI e0))]) C dX8_paste_31 (by decide) rfl ?_
          refine h_aload C dX8_paste_33 1 rfl ?_
          refine h_getN C O6 1 kd_193 (by decide) nw_335 dX8_paste_35 (fi_193_1 h_193_1) ?_
          refine h_if_eq (tgt := 49) C dX8_paste_38 (by decide) ⟨by decide, by decide⟩ (fun h18 => ?_) (fun h18 => ?_)
          · refine h_bipush C dX8_paste_49 (by decide) ?_
            refine h_ireturn C hr hk dX8_paste_51 ?_
            exact ⟨⟨_, rfl, ⟨by decide, by decide⟩, by omega⟩, rfl⟩
          · exfalso; omega
        · refine h_aaload (t0 := 6) C dX8_paste_30 kd_16 (by decide) (by decide) rfl 2 rfl (by rw [ln_16]; decide) (by decide +kernel : hprf 16 2 = 191) ?_
          refine h_astore (lv' := [(7, .ref (z + 191)), (6, .ref (z + 193)), (0, .ref (z + 0)), (1, .int (hpI 3)), (2, .int (hpI b)), (3, .int (hpI 2)), (4, .int (hpI d0)), (5, .int (hpI e0))]) C dX8_paste_31 (by decide) rfl ?_
          refine h_aload C dX8_paste_33 1 rfl ?_
          refine h_getN C O6 1 kd_193 (by decide) nw_335 dX8_paste_35 (fi_193_1 h_193_1) ?_
          refine h_if_eq (tgt := 49) C dX8_paste_38 (by decide) ⟨by decide, by decide⟩ (fun h19 => ?_) (fun h19 => ?_)
          · refine h_bipush C dX8_paste_49 (by decide) ?_
            refine h_ireturn C hr hk dX8_paste_51 ?_
            exact ⟨⟨_, rfl, ⟨by decide, by decide⟩, by omega⟩, rfl⟩
          · exfalso; omega
        · refine h_aaload (t0 := 6) C dX8_paste_30 kd_16 (by decide) (by decide) rfl 3 rfl (by rw [ln_16]; decide) (by decide +kernel : hprf 16 3 = 193) ?_
          refine h_astore (lv' := [(7, .ref (z + 193)), (6, .ref (z + 193)), (0, .ref (z + 0)), (1, .int (hpI 3)), (2, .int (hpI b)), (3, .int (hpI 3)), (4, .int (hpI d0)), (5, .int (hpI e0))]) C dX8_paste_31 (by decide) rfl ?_
          refine h_aload C dX8_paste_33 1 rfl ?_
          refine h_getN C O6 1 kd_193 (by decide) nw_335 dX8_paste_35 (fi_193_1 h_193_1) ?_
          refine h_if_eq (tgt := 49) C dX8_paste_38 (by decide) ⟨by decide, by decide⟩ (fun h20 => ?_) (fun h20 => ?_)
          · refine h_bipush C dX8_paste_49 (by decide) ?_
            refine h_ireturn C hr hk dX8_paste_51 ?_
            exact ⟨⟨_, rfl, ⟨by decide, by decide⟩, by omega⟩, rfl⟩
          · exfalso; omega
    · refine h_bipush C dX8_paste_14 (by decide) ?_
      refine h_ireturn C hr hk dX8_paste_16 ?_
      exact ⟨⟨_, rfl, ⟨by decide, by decide⟩, by omega⟩, rfl⟩

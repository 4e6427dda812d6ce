abbrev rX9_in : Room := { frames := 0, cells := 0, slots := 0, locals := 0 }
abbrev pX9_in (z : Nat) (σ : hpMem) (v : Int) (a : Int) (b : Int) : Option Value → hpMem → Prop := fun r τ => (∃ x : Int, r = some (.int (hpI x)) ∧ hpR x ∧ ((a ≤ v ∧ v ≤ b ∧ x = 1) ∨ ((v < a ∨ b < v) ∧ x = 0))) ∧ σ = τ
set_option maxHeartbeats 4000000 in
set_option maxRecDepth 20000 in
theorem tX9_in (l : Launch) (D : va_G) (cy : Nat → ClassId) (z : Nat) (σ : hpMem) (v : Int) (hv : hpRL v) (a : Int) (ha : hpRL a) (b : Int) (hb : hpRL b) : hpM l D cy z yX9_in cX9_in 6 (some .boolean) rX9_in [.long (hpJ v), .long (hpJ a), .long (hpJ b)] σ (pX9_in z σ v a b) := by
  obtain ⟨hv1, hv2⟩ := hv
  obtain ⟨ha1, ha2⟩ := ha
  obtain ⟨hb1, hb2⟩ := hb
  refine hp_met rfl (Nat.le_of_ble_eq_true rfl) (fun p e s m below meth c C hr hk => ?_)
  refine h_lload_n C dX9_in_0 0 rfl rfl ?_
  refine h_lload_n C dX9_in_1 1 rfl rfl ?_
  refine h_lcmp C dX9_in_2 ⟨by omega, by omega⟩ ⟨by omega, by omega⟩ (fun r1 hr1 => ?_)
  refine h_if_lt (tgt := 17) C dX9_in_3 (by decide) ⟨by omega, by omega⟩ (fun h2 => ?_) (fun h2 => ?_)
  · refine h_iconst C dX9_in_17 ?_
    refine h_zreturn C (by omega) hr hk dX9_in_18 ?_
    exact ⟨⟨_, rfl, ⟨by decide, by decide⟩, by omega⟩, rfl⟩
  · refine h_lload_n C dX9_in_6 0 rfl rfl ?_
    refine h_lload C dX9_in_7 2 rfl ?_
    refine h_lcmp C dX9_in_9 ⟨by omega, by omega⟩ ⟨by omega, by omega⟩ (fun r3 hr3 => ?_)
    refine h_if_gt (tgt := 17) C dX9_in_10 (by decide) ⟨by omega, by omega⟩ (fun h4 => ?_) (fun h4 => ?_)
    · refine h_iconst C dX9_in_17 ?_
      refine h_zreturn C (by omega) hr hk dX9_in_18 ?_
      exact ⟨⟨_, rfl, ⟨by decide, by decide⟩, by omega⟩, rfl⟩
    · refine h_iconst C dX9_in_13 ?_
      refine h_goto (tgt := 18) C dX9_in_14 (by decide) ?_
      refine h_zreturn C (by omega) hr hk dX9_in_18 ?_
      exact ⟨⟨_, rfl, ⟨by decide, by decide⟩, by omega⟩, rfl⟩
abbrev rX9_isMoor : Room := { frames := 0, cells := 0, slots := 0, locals := 0 }
abbrev pX9_isMoor (z : Nat) (σ : hpMem) : Option Value → hpMem → Prop := fun r τ => r = some (.int (hpI 0)) ∧ σ = τ
set_option maxHeartbeats 4000000 in
set_option maxRecDepth 20000 in
theorem tX9_isMoor (l : Launch) (D : va_G) (cy : Nat → ClassId) (z : Nat) (σ : hpMem) (hz_196 : ∀ i : Nat, σ 196 i = 0) : hpM l D cy z yX9_isMoor cX9_isMoor 1 (some .boolean) rX9_isMoor [.ref (z + 195)] σ (pX9_isMoor z σ) := by
  refine hp_met rfl (Nat.le_of_ble_eq_true rfl) (fun p e s m below meth c C hr hk => ?_)
  refine h_aload_n C dX9_isMoor_0 0 rfl rfl ?_
  refine h_get C O9 1 kd_195 (by decide) wd_1257 dX9_isMoor_1 fr_195_1 ?_
  refine h_bipush C dX9_isMoor_4 (by decide) ?_
  refine h_iaload C dX9_isMoor_6 kd_196 6 rfl (by rw [ln_196]; decide) (hz_196 _) ?_
  refine h_if_le (tgt := 14) C dX9_isMoor_7 (by decide) ⟨by decide, by decide⟩ (fun h1 => ?_) (fun h1 => ?_)
  · refine h_iconst C dX9_isMoor_14 ?_
    refine h_zreturn C (by omega) hr hk dX9_isMoor_15 ?_
    exact ⟨rfl, rfl⟩
  · exfalso; omega
abbrev rX9_days : Room := { frames := 0, cells := 0, slots := 0, locals := 0 }
abbrev pX9_days (z : Nat) (σ : hpMem) : Option Value → hpMem → Prop := fun r τ => r = some (.int (hpI 0)) ∧ σ = τ
set_option maxHeartbeats 4000000 in
set_option maxRecDepth 20000 in
theorem tX9_days (l : Launch) (D : va_G) (cy : Nat → ClassId) (z : Nat) (σ : hpMem) (hz_196 : ∀ i : Nat, σ 196 i = 0) : hpM l D cy z yX9_days cX9_days 1 (some .int) rX9_days [.ref (z + 195)] σ (pX9_days z σ) := by
  refine hp_met rfl (Nat.le_of_ble_eq_true rfl) (fun p e s m below meth c C hr hk => ?_)
  refine h_aload_n C dX9_days_0 0 rfl rfl ?_
  refine h_get C O9 1 kd_195 (by decide) wd_1257 dX9_days_1 fr_195_1 ?_
  refine h_iconst C dX9_days_4 ?_
  refine h_iaload C dX9_days_5 kd_196 0 rfl (by rw [ln_196]; decide) (hz_196 _) ?_
  refine h_ireturn C hr hk dX9_days_6 ?_
  exact ⟨rfl, rfl⟩
abbrev rX9_cartMany : Room := { frames := 0, cells := 0, slots := 0, locals := 0 }
abbrev pX9_cartMany (z : Nat) (σ : hpMem) : Option Value → hpMem → Prop := fun r τ => r = some (.int (hpI 0)) ∧ σ = τ
set_option maxHeartbeats 4000000 in
set_option maxRecDepth 20000 in
theorem tX9_cartMany (l : Launch) (D : va_G) (cy : Nat → ClassId) (z : Nat) (σ : hpMem) (hz_196 : ∀ i : Nat, σ 196 i = 0) : hpM l D cy z yX9_cartMany cX9_cartMany 1 (some .int) rX9_cartMany [.ref (z + 195)] σ (pX9_cartMany z σ) := by
  refine hp_met rfl (Nat.le_of_ble_eq_true rfl) (fun p e s m below meth c C hr hk => ?_)
  refine h_aload_n C dX9_cartMany_0 0 rfl rfl ?_
  refine h_get C O9 1 kd_195 (by decide) wd_1257 dX9_cartMany_1 fr_195_1 ?_
  refine h_iconst C dX9_cartMany_4 ?_
  refine h_iaload C dX9_cartMany_5 kd_196 4 rfl (by rw [ln_196]; decide) (hz_196 _) ?_
  refine h_ireturn C hr hk dX9_cartMany_6 ?_
  exact ⟨rfl, rfl⟩
abbrev rX9_isDay : Room := { frames := 1, cells := 0, slots := 0, locals := 20 }
abbrev pX9_isDay (z : Nat) (σ : hpMem) (d : Int) : Option Value → hpMem → Prop := fun r τ => r = some (.int (hpI 0)) ∧ σ = τ
set_option maxHeartbeats 4000000 in
set_option maxRecDepth 20000 in
theorem tX9_isDay (l : Launch) (D : va_G) (cy : Nat → ClassId) (z : Nat) (σ : hpMem) (d : Int) (hd : hpRL d) (hz_196 : ∀ i : Nat, σ 196 i = 0) : hpM l D cy z yX9_isDay cX9_isDay 3 (some .boolean) rX9_isDay [.ref (z + 195), .long (hpJ d)] σ (pX9_isDay z σ d) := by
  obtain ⟨hd1, hd2⟩ := hd
  refine hp_met rfl (Nat.le_of_ble_eq_true rfl) (fun p e s m below meth c C hr hk => ?_)
  refine h_aload_n C dX9_isDay_0 0 rfl rfl ?_
  refine h_callV (As := []) (rest := []) C yyX9_isMoor wd_1571 (tX9_isMoor l D cy z _ (fun i => (hz_196 i))) kd_195 rfl rfl ⟨rfl, rfl, Nat.le_of_ble_eq_true rfl, Nat.le_of_ble_eq_true rfl⟩ ⟨Nat.le_of_ble_eq_true rfl, Nat.le_of_ble_eq_true rfl⟩ (Nat.le_of_ble_eq_true rfl) dX9_isDay_1 (fun r1 τ1 hp1 => ?_)
  obtain ⟨rfl, rfl⟩ := hp1
  show hpV _ _ _ _ _ _ _ _ _ _ _ _ _ _ _ _ _ _ _ _ _ (_ :: _)
  refine h_if_eq (tgt := 24) C dX9_isDay_4 (by decide) ⟨by decide, by decide⟩ (fun h2 => ?_) (fun h2 => ?_)
  · refine h_iconst C dX9_isDay_24 ?_
    refine h_zreturn C (by omega) hr hk dX9_isDay_25 ?_
    exact ⟨rfl, rfl⟩
  · exfalso; omega
abbrev rX9_isAhead : Room := { frames := 1, cells := 0, slots := 0, locals := 20 }
abbrev pX9_isAhead (z : Nat) (σ : hpMem) (d : Int) : Option Value → hpMem → Prop := fun r τ => r = some (.int (hpI 0)) ∧ σ = τ
set_option maxHeartbeats 4000000 in
set_option maxRecDepth 20000 in
theorem tX9_isAhead (l : Launch) (D : va_G) (cy : Nat → ClassId) (z : Nat) (σ : hpMem) (d : Int) (hd : hpRL d) (hz_196 : ∀ i : Nat, σ 196 i = 0) : hpM l D cy z yX9_isAhead cX9_isAhead 3 (some .boolean) rX9_isAhead [.ref (z + 195), .long (hpJ d)] σ (pX9_isAhead z σ d) := by
  obtain ⟨hd1, hd2⟩ := hd
  refine hp_met rfl (Nat.le_of_ble_eq_true rfl) (fun p e s m below meth c C hr hk => ?_)
  refine h_aload_n C dX9_isAhead_0 0 rfl rfl ?_
  refine h_callV (As := []) (rest := []) C yyX9_isMoor wd_1571 (tX9_isMoor l D cy z _ (fun i => (hz_196 i))) kd_195 rfl rfl ⟨rfl, rfl, Nat.le_of_ble_eq_true rfl, Nat.le_of_ble_eq_true rfl⟩ ⟨Nat.le_of_ble_eq_true rfl, Nat.le_of_ble_eq_true rfl⟩ (Nat.le_of_ble_eq_true rfl) dX9_isAhead_1 (fun r1 τ1 hp1 => ?_)
  obtain ⟨rfl, rfl⟩ := hp1
  show hpV _ _ _ _ _ _ _ _ _ _ _ _ _ _ _ _ _ _ _ _ _ (_ :: _)
  refine h_if_eq (tgt := 26) C dX9_isAhead_4 (by decide) ⟨by decide, by decide⟩ (fun h2 => ?_) (fun h2 => ?_)
  · refine h_iconst C dX9_isAhead_26 ?_
    refine h_zreturn C (by omega) hr hk dX9_isAhead_27 ?_
    exact ⟨rfl, rfl⟩
  · exfalso; omega
abbrev rX9_isHeap : Room := { frames := 1, cells := 0, slots := 0, locals := 25 }
abbrev pX9_isHeap (z : Nat) (σ : hpMem) (n : Int) : Option Value → hpMem → Prop := fun r τ => r = some (.int (hpI 0)) ∧ σ = τ
set_option maxHeartbeats 4000000 in
set_option maxRecDepth 20000 in
theorem tX9_isHeap (l : Launch) (D : va_G) (cy : Nat → ClassId) (z : Nat) (σ : hpMem) (n : Int) (hn : hpR n) (hz_196 : ∀ i : Nat, σ 196 i = 0) : hpM l D cy z yX9_isHeap cX9_isHeap 2 (some .boolean) rX9_isHeap [.ref (z + 195), .int (hpI n)] σ (pX9_isHeap z σ n) := by
  obtain ⟨hn1, hn2⟩ := hn
  refine hp_met rfl (Nat.le_of_ble_eq_true rfl) (fun p e s m below meth c C hr hk => ?_)
  refine h_iload_n C dX9_isHeap_0 1 rfl rfl ?_
  refine h_i2l C dX9_isHeap_1 ⟨by omega, by omega⟩ ?_
  refine h_lconst C 0 dX9_isHeap_2 (by decide) ?_
  refine h_aload_n C dX9_isHeap_3 0 rfl rfl ?_
  refine h_get C O9 1 kd_195 (by decide) wd_1257 dX9_isHeap_4 fr_195_1 ?_
  refine h_iconst C dX9_isHeap_7 ?_
  refine h_iaload C dX9_isHeap_8 kd_196 3 rfl (by rw [ln_196]; decide) (hz_196 _) ?_
  refine h_iconst C dX9_isHeap_9 ?_
  refine h_isub (r := (-1)) C dX9_isHeap_10 (by decide) ?_
  refine h_i2l C dX9_isHeap_11 ⟨by decide, by decide⟩ ?_
  refine h_callS (As := [.long (hpJ n), .long (hpJ 0), .long (hpJ (-1))]) (rest := []) C yyX9_in rfl wd_1401 (tX9_in l D cy z _ n ⟨by omega, by omega⟩ 0 ⟨by decide, by decide⟩ (-1) ⟨by decide, by decide⟩) rfl rfl ⟨rfl, rfl, Nat.le_of_ble_eq_true rfl, Nat.le_of_ble_eq_true rfl⟩ ⟨Nat.le_of_ble_eq_true rfl, Nat.le_of_ble_eq_true rfl⟩ (Nat.le_of_ble_eq_true rfl) dX9_isHeap_12 (fun r1 τ1 hp1 => ?_)
  obtain ⟨⟨x1, rfl, ⟨hx1a, hx1b⟩, hx1⟩, rfl⟩ := hp1
  show hpV _ _ _ _ _ _ _ _ _ _ _ _ _ _ _ _ _ _ _ _ _ (_ :: _)
  refine h_zreturn C (by omega) hr hk dX9_isHeap_15 ?_
  exact ⟨(by rw [show (x1 : Int) = 0 by omega]), rfl⟩
abbrev rX9_isCart : Room := { frames := 1, cells := 0, slots := 0, locals := 25 }
abbrev pX9_isCart (z : Nat) (σ : hpMem) (n : Int) : Option Value → hpMem → Prop := fun r τ => r = some (.int (hpI 0)) ∧ σ = τ
set_option maxHeartbeats 4000000 in
set_option maxRecDepth 20000 in
theorem tX9_isCart (l : Launch) (D : va_G) (cy : Nat → ClassId) (z : Nat) (σ : hpMem) (n : Int) (hn : hpR n) (hz_196 : ∀ i : Nat, σ 196 i = 0) : hpM l D cy z yX9_isCart cX9_isCart 2 (some .boolean) rX9_isCart [.ref (z + 195), .int (hpI n)] σ (pX9_isCart z σ n) := by
  obtain ⟨hn1, hn2⟩ := hn
  refine hp_met rfl (Nat.le_of_ble_eq_true rfl) (fun p e s m below meth c C hr hk => ?_)
  refine h_iload_n C dX9_isCart_0 1 rfl rfl ?_
  refine h_i2l C dX9_isCart_1 ⟨by omega, by omega⟩ ?_
  refine h_lconst C 0 dX9_isCart_2 (by decide) ?_
  refine h_aload_n C dX9_isCart_3 0 rfl rfl ?_
  refine h_callV (As := []) (rest := [.long (hpJ 0), .long (hpJ n)]) C yyX9_cartMany wd_1504 (tX9_cartMany l D cy z _ (fun i => (hz_196 i))) kd_195 rfl rfl ⟨rfl, rfl, Nat.le_of_ble_eq_true rfl, Nat.le_of_ble_eq_true rfl⟩ ⟨Nat.le_of_ble_eq_true rfl, Nat.le_of_ble_eq_true rfl⟩ (Nat.le_of_ble_eq_true rfl) dX9_isCart_4 (fun r1 τ1 hp1 => ?_)
  obtain ⟨rfl, rfl⟩ := hp1
  show hpV _ _ _ _ _ _ _ _ _ _ _ _ _ _ _ _ _ _ _ _ _ (_ :: _)
  refine h_iconst C dX9_isCart_7 ?_
  refine h_isub (r := (-1)) C dX9_isCart_8 (by decide) ?_
  refine h_i2l C dX9_isCart_9 ⟨by decide, by decide⟩ ?_
  refine h_callS (As := [.long (hpJ n), .long (hpJ 0), .long (hpJ (-1))]) (rest := []) C yyX9_in rfl wd_1401 (tX9_in l D cy z _ n ⟨by omega, by omega⟩ 0 ⟨by decide, by decide⟩ (-1) ⟨by decide, by decide⟩) rfl rfl ⟨rfl, rfl, Nat.le_of_ble_eq_true rfl, Nat.le_of_ble_eq_true rfl⟩ ⟨Nat.le_of_ble_eq_true rfl, Nat.le_of_ble_eq_true rfl⟩ (Nat.le_of_ble_eq_true rfl) dX9_isCart_10 (fun r2 τ2 hp2 => ?_)
  obtain ⟨⟨x2, rfl, ⟨hx2a, hx2b⟩, hx2⟩, rfl⟩ := hp2
  show hpV _ _ _ _ _ _ _ _ _ _ _ _ _ _ _ _ _ _ _ _ _ (_ :: _)
  refine h_zreturn C (by omega) hr hk dX9_isCart_13 ?_
  exact ⟨(by rw [show (x2 : Int) = 0 by omega]), rfl⟩
abbrev rX9_isSlot : Room := { frames := 1, cells := 0, slots := 0, locals := 25 }
abbrev pX9_isSlot (z : Nat) (σ : hpMem) (n : Int) : Option Value → hpMem → Prop := fun r τ => (∃ x : Int, r = some (.int (hpI x)) ∧ hpR x ∧ ((0 ≤ n ∧ n < 4 ∧ x = 1) ∨ ((n < 0 ∨ 4 ≤ n) ∧ x = 0))) ∧ σ = τ
set_option maxHeartbeats 4000000 in
set_option maxRecDepth 20000 in
theorem tX9_isSlot (l : Launch) (D : va_G) (cy : Nat → ClassId) (z : Nat) (σ : hpMem) (n : Int) (hn : hpR n) : hpM l D cy z yX9_isSlot cX9_isSlot 1 (some .boolean) rX9_isSlot [.int (hpI n)] σ (pX9_isSlot z σ n) := by
  obtain ⟨hn1, hn2⟩ := hn
  refine hp_met rfl (Nat.le_of_ble_eq_true rfl) (fun p e s m below meth c C hr hk => ?_)
  refine h_iload_n C dX9_isSlot_0 0 rfl rfl ?_
  refine h_i2l C dX9_isSlot_1 ⟨by omega, by omega⟩ ?_
  refine h_lconst C 0 dX9_isSlot_2 (by decide) ?_
  refine h_ldc2 C 3 wd_1782 (by decide) dX9_isSlot_3 ?_
  refine h_callS (As := [.long (hpJ n), .long (hpJ 0), .long (hpJ 3)]) (rest := []) C yyX9_in rfl wd_1401 (tX9_in l D cy z _ n ⟨by omega, by omega⟩ 0 ⟨by decide, by decide⟩ 3 ⟨by decide, by decide⟩) rfl rfl ⟨rfl, rfl, Nat.le_of_ble_eq_true rfl, Nat.le_of_ble_eq_true rfl⟩ ⟨Nat.le_of_ble_eq_true rfl, Nat.le_of_ble_eq_true rfl⟩ (Nat.le_of_ble_eq_true rfl) dX9_isSlot_6 (fun r1 τ1 hp1 => ?_)
  obtain ⟨⟨x1, rfl, ⟨hx1a, hx1b⟩, hx1⟩, rfl⟩ := hp1
  show hpV _ _ _ _ _ _ _ _ _ _ _ _ _ _ _ _ _ _ _ _ _ (_ :: _)
  refine h_zreturn C (by omega) hr hk dX9_isSlot_9 ?_
  exact ⟨⟨_, rfl, ⟨by omega, by omega⟩, by omega⟩, rfl⟩
abbrev rX9_asItIs : Room := { frames := 0, cells := 0, slots := 0, locals := 0 }
abbrev pX9_asItIs (z : Nat) (σ : hpMem) : Option Value → hpMem → Prop := fun r τ => r = none ∧ (∀ j : Nat, j ≠ 195 → j ≠ 203 → j ≠ 204 → τ j = σ j) ∧ τ 195 23 = -1
set_option maxHeartbeats 4000000 in
set_option maxRecDepth 20000 in
theorem tX9_asItIs (l : Launch) (D : va_G) (cy : Nat → ClassId) (z : Nat) (σ : hpMem) (hz_196 : ∀ i : Nat, σ 196 i = 0) : hpM l D cy z yX9_asItIs cX9_asItIs 2 none rX9_asItIs [.ref (z + 195)] σ (pX9_asItIs z σ) := by
  refine hp_met rfl (Nat.le_of_ble_eq_true rfl) (fun p e s m below meth c C hr hk => ?_)
  refine h_aload_n C dX9_asItIs_0 0 rfl rfl ?_
  refine h_aload_n C dX9_asItIs_1 0 rfl rfl ?_
  refine h_get C O9 1 kd_195 (by decide) wd_1257 dX9_asItIs_2 fr_195_1 ?_
  refine h_iconst C dX9_asItIs_5 ?_
  refine h_iaload C dX9_asItIs_6 kd_196 1 rfl (by rw [ln_196]; decide) (hz_196 _) ?_
  refine h_put C O9 16 kd_195 (by decide) rfl wd_1272 dX9_asItIs_7 rfl rfl (fi_195_16 hpu_at) ?_
  refine h_aload_n C dX9_asItIs_10 0 rfl rfl ?_
  refine h_iconst C dX9_asItIs_11 ?_
  refine h_put C O9 21 kd_195 (by decide) rfl wd_1277 dX9_asItIs_12 rfl rfl (fi_195_21 hpu_at) ?_
  refine h_aload_n C dX9_asItIs_15 0 rfl rfl ?_
  refine h_bipush C dX9_asItIs_16 (by decide) ?_
  refine h_put C O9 22 kd_195 (by decide) rfl wd_1278 dX9_asItIs_18 rfl rfl (fi_195_22 hpu_at) ?_
  refine h_aload_n C dX9_asItIs_21 0 rfl rfl ?_
  refine h_iconst C dX9_asItIs_22 ?_
  refine h_put C O9 23 kd_195 (by decide) rfl wd_1279 dX9_asItIs_23 rfl rfl (fi_195_23 hpu_at) ?_
  refine h_iconst C dX9_asItIs_26 ?_
  refine h_istore_n (lv' := [(1, .int (hpI 0)), (0, .ref (z + 195))]) C dX9_asItIs_27 rfl (by decide) rfl ?_
  refine h_iload_n C dX9_asItIs_28 0 rfl rfl ?_
  refine h_bipush C dX9_asItIs_29 (by decide) ?_
  refine h_icmp_ge (tgt := 55) C dX9_asItIs_31 (by decide) ⟨by decide, by decide⟩ ⟨by decide, by decide⟩ (fun h1 => ?_) (fun h1 => ?_)
  · exfalso; omega
  · refine h_aload_n C dX9_asItIs_34 1 rfl rfl ?_
    refine h_get C O9 19 kd_195 (by decide) wd_1275 dX9_asItIs_35 fr_195_19 ?_
    refine h_iload_n C dX9_asItIs_38 0 rfl rfl ?_
    refine h_aload_n C dX9_asItIs_39 1 rfl rfl ?_
    refine h_get C O9 1 kd_195 (by decide) wd_1257 dX9_asItIs_40 fr_195_1 ?_
    refine h_bipush C dX9_asItIs_43 (by decide) ?_
    refine h_iload_n C dX9_asItIs_45 0 rfl rfl ?_
    refine h_iadd (r := 7) C dX9_asItIs_46 (by decide) ?_
    refine h_iaload C dX9_asItIs_47 kd_196 7 rfl (by rw [ln_196]; decide) ((hpw_nk (by decide)).trans ((hpw_nk (by decide)).trans ((hpw_nk (by decide)).trans ((hpw_nk (by decide)).trans (hz_196 _))))) ?_
    refine h_iastore C dX9_asItIs_48 kd_203 0 rfl (by rw [ln_203]; decide) ?_
    refine h_iinc (lv' := [(1, .int (hpI 1)), (0, .ref (z + 195))]) C dX9_asItIs_49 0 rfl rfl (by decide) rfl ?_
    refine h_goto (tgt := 28) C dX9_asItIs_52 (by decide) ?_
    refine h_iload_n C dX9_asItIs_28 0 rfl rfl ?_
    refine h_bipush C dX9_asItIs_29 (by decide) ?_
    refine h_icmp_ge (tgt := 55) C dX9_asItIs_31 (by decide) ⟨by decide, by decide⟩ ⟨by decide, by decide⟩ (fun h2 => ?_) (fun h2 => ?_)
    · exfalso; omega
    · refine h_aload_n C dX9_asItIs_34 1 rfl rfl ?_
      refine h_get C O9 19 kd_195 (by decide) wd_1275 dX9_asItIs_35 fr_195_19 ?_
      refine h_iload_n C dX9_asItIs_38 0 rfl rfl ?_
      refine h_aload_n C dX9_asItIs_39 1 rfl rfl ?_
      refine h_get C O9 1 kd_195 (by decide) wd_1257 dX9_asItIs_40 fr_195_1 ?_
      refine h_bipush C dX9_asItIs_43 (by decide) ?_
      refine h_iload_n C dX9_asItIs_45 0 rfl rfl ?_
      refine h_iadd (r := 8) C dX9_asItIs_46 (by decide) ?_
      refine h_iaload C dX9_asItIs_47 kd_196 8 rfl (by rw [ln_196]; decide) ((hpw_nk (by decide)).trans ((hpw_nk (by decide)).trans ((hpw_nk (by decide)).trans ((hpw_nk (by decide)).trans ((hpw_nk (by decide)).trans (hz_196 _)))))) ?_
      refine h_iastore C dX9_asItIs_48 kd_203 1 rfl (by rw [ln_203]; decide) ?_
      refine h_iinc (lv' := [(1, .int (hpI 2)), (0, .ref (z + 195))]) C dX9_asItIs_49 0 rfl rfl (by decide) rfl ?_
      refine h_goto (tgt := 28) C dX9_asItIs_52 (by decide) ?_
      refine h_iload_n C dX9_asItIs_28 0 rfl rfl ?_
      refine h_bipush C dX9_asItIs_29 (by decide) ?_
      refine h_icmp_ge (tgt := 55) C dX9_asItIs_31 (by decide) ⟨by decide, by decide⟩ ⟨by decide, by decide⟩ (fun h3 => ?_) (fun h3 => ?_)
      · exfalso; omega
      · refine h_aload_n C dX9_asItIs_34 1 rfl rfl ?_
        refine h_get C O9 19 kd_195 (by decide) wd_1275 dX9_asItIs_35 fr_195_19 ?_
        refine h_iload_n C dX9_asItIs_38 0 rfl rfl ?_
        refine h_aload_n C dX9_asItIs_39 1 rfl rfl ?_
        refine h_get C O9 1 kd_195 (by decide) wd_1257 dX9_asItIs_40 fr_195_1 ?_
        refine h_bipush C dX9_asItIs_43 (by decide) ?_
        refine h_iload_n C dX9_asItIs_45 0 rfl rfl ?_
        refine h_iadd (r := 9) C dX9_asItIs_46 (by decide) ?_
        refine h_iaload C dX9_asItIs_47 kd_196 9 rfl (by rw [ln_196]; decide) ((hpw_nk (by decide)).trans ((hpw_nk (by decide)).trans ((hpw_nk (by decide)).trans ((hpw_nk (by decide)).trans ((hpw_nk (by decide)).trans ((hpw_nk (by decide)).trans (hz_196 _))))))) ?_
        refine h_iastore C dX9_asItIs_48 kd_203 2 rfl (by rw [ln_203]; decide) ?_
        refine h_iinc (lv' := [(1, .int (hpI 3)), (0, .ref (z + 195))]) C dX9_asItIs_49 0 rfl rfl (by decide) rfl ?_
        refine h_goto (tgt := 28) C dX9_asItIs_52 (by decide) ?_
        refine h_iload_n C dX9_asItIs_28 0 rfl rfl ?_
        refine h_bipush C dX9_asItIs_29 (by decide) ?_
        refine h_icmp_ge (tgt := 55) C dX9_asItIs_31 (by decide) ⟨by decide, by decide⟩ ⟨by decide, by decide⟩ (fun h4 => ?_) (fun h4 => ?_)
        · exfalso; omega
        · refine h_aload_n C dX9_asItIs_34 1 rfl rfl ?_
          refine h_get C O9 19 kd_195 (by decide) wd_1275 dX9_asItIs_35 fr_195_19 ?_
          refine h_iload_n C dX9_asItIs_38 0 rfl rfl ?_
          refine h_aload_n C dX9_asItIs_39 1 rfl rfl ?_
          refine h_get C O9 1 kd_195 (by decide) wd_1257 dX9_asItIs_40 fr_195_1 ?_
          refine h_bipush C dX9_asItIs_43 (by decide) ?_
          refine h_iload_n C dX9_asItIs_45 0 rfl rfl ?_
          refine h_iadd (r := 10) C dX9_asItIs_46 (by decide) ?_
          refine h_iaload C dX9_asItIs_47 kd_196 10 rfl (by rw [ln_196]; decide) ((hpw_nk (by decide)).trans ((hpw_nk (by decide)).trans ((hpw_nk (by decide)).trans ((hpw_nk (by decide)).trans ((hpw_nk (by decide)).trans ((hpw_nk (by decide)).trans ((hpw_nk (by decide)).trans (hz_196 _)))))))) ?_
          refine h_iastore C dX9_asItIs_48 kd_203 3 rfl (by rw [ln_203]; decide) ?_
          refine h_iinc (lv' := [(1, .int (hpI 4)), (0, .ref (z + 195))]) C dX9_asItIs_49 0 rfl rfl (by decide) rfl ?_
          refine h_goto (tgt := 28) C dX9_asItIs_52 (by decide) ?_
          refine h_iload_n C dX9_asItIs_28 0 rfl rfl ?_
          refine h_bipush C dX9_asItIs_29 (by decide) ?_
          refine h_icmp_ge (tgt := 55) C dX9_asItIs_31 (by decide) ⟨by decide, by decide⟩ ⟨by decide, by decide⟩ (fun h5 => ?_) (fun h5 => ?_)
          · exfalso; omega
          · refine h_aload_n C dX9_asItIs_34 1 rfl rfl ?_
            refine h_get C O9 19 kd_195 (by decide) wd_1275 dX9_asItIs_35 fr_195_19 ?_
            refine h_iload_n C dX9_asItIs_38 0 rfl rfl ?_
            refine h_aload_n C dX9_asItIs_39 1 rfl rfl ?_
            refine h_get C O9 1 kd_195 (by decide) wd_1257 dX9_asItIs_40 fr_195_1 ?_
            refine h_bipush C dX9_asItIs_43 (by decide) ?_
            refine h_iload_n C dX9_asItIs_45 0 rfl rfl ?_
            refine h_iadd (r := 11) C dX9_asItIs_46 (by decide) ?_
            refine h_iaload C dX9_asItIs_47 kd_196 11 rfl (by rw [ln_196]; decide) ((hpw_nk (by decide)).trans ((hpw_nk (by decide)).trans ((hpw_nk (by decide)).trans ((hpw_nk (by decide)).trans ((hpw_nk (by decide)).trans ((hpw_nk (by decide)).trans ((hpw_nk (by decide)).trans ((hpw_nk (by decide)).trans (hz_196 _))))))))) ?_
            refine h_iastore C dX9_asItIs_48 kd_203 4 rfl (by rw [ln_203]; decide) ?_
            refine h_iinc (lv' := [(1, .int (hpI 5)), (0, .ref (z + 195))]) C dX9_asItIs_49 0 rfl rfl (by decide) rfl ?_
            refine h_goto (tgt := 28) C dX9_asItIs_52 (by decide) ?_
            refine h_iload_n C dX9_asItIs_28 0 rfl rfl ?_
            refine h_bipush C dX9_asItIs_29 (by decide) ?_
            refine h_icmp_ge (tgt := 55) C dX9_asItIs_31 (by decide) ⟨by decide, by decide⟩ ⟨by decide, by decide⟩ (fun h6 => ?_) (fun h6 => ?_)
            · exfalso; omega
            · refine h_aload_n C dX9_asItIs_34 1 rfl rfl ?_
              refine h_get C O9 19 kd_195 (by decide) wd_1275 dX9_asItIs_35 fr_195_19 ?_
              refine h_iload_n C dX9_asItIs_38 0 rfl rfl ?_
              refine h_aload_n C dX9_asItIs_39 1 rfl rfl ?_
              refine h_get C O9 1 kd_195 (by decide) wd_1257 dX9_asItIs_40 fr_195_1 ?_
              refine h_bipush C dX9_asItIs_43 (by decide) ?_
              refine h_iload_n C dX9_asItIs_45 0 rfl rfl ?_
              refine h_iadd (r := 12) C dX9_asItIs_46 (by decide) ?_
              refine h_iaload C dX9_asItIs_47 kd_196 12 rfl (by rw [ln_196]; decide) ((hpw_nk (by decide)).trans ((hpw_nk (by decide)).trans ((hpw_nk (by decide)).trans ((hpw_nk (by decide)).trans ((hpw_nk (by decide)).trans ((hpw_nk (by decide)).trans ((hpw_nk (by decide)).trans ((hpw_nk (by decide)).trans ((hpw_nk (by decide)).trans (hz_196 _)))))))))) ?_
              refine h_iastore C dX9_asItIs_48 kd_203 5 rfl (by rw [ln_203]; decide) ?_
              refine h_iinc (lv' := [(1, .int (hpI 6)), (0, .ref (z + 195))]) C dX9_asItIs_49 0 rfl rfl (by decide) rfl ?_
              refine h_goto (tgt := 28) C dX9_asItIs_52 (by decide) ?_
              refine h_iload_n C dX9_asItIs_28 0 rfl rfl ?_
              refine h_bipush C dX9_asItIs_29 (by decide) ?_
              refine h_icmp_ge (tgt := 55) C dX9_asItIs_31 (by decide) ⟨by decide, by decide⟩ ⟨by decide, by decide⟩ (fun h7 => ?_) (fun h7 => ?_)
              · exfalso; omega
              · refine h_aload_n C dX9_asItIs_34 1 rfl rfl ?_
                refine h_get C O9 19 kd_195 (by decide) wd_1275 dX9_asItIs_35 fr_195_19 ?_
                refine h_iload_n C dX9_asItIs_38 0 rfl rfl ?_
                refine h_aload_n C dX9_asItIs_39 1 rfl rfl ?_
                refine h_get C O9 1 kd_195 (by decide) wd_1257 dX9_asItIs_40 fr_195_1 ?_
                refine h_bipush C dX9_asItIs_43 (by decide) ?_
                refine h_iload_n C dX9_asItIs_45 0 rfl rfl ?_
                refine h_iadd (r := 13) C dX9_asItIs_46 (by decide) ?_
                refine h_iaload C dX9_asItIs_47 kd_196 13 rfl (by rw [ln_196]; decide) ((hpw_nk (by decide)).trans ((hpw_nk (by decide)).trans ((hpw_nk (by decide)).trans ((hpw_nk (by decide)).trans ((hpw_nk (by decide)).trans ((hpw_nk (by decide)).trans ((hpw_nk (by decide)).trans ((hpw_nk (by decide)).trans ((hpw_nk (by decide)).trans ((hpw_nk (by decide)).trans (hz_196 _))))))))))) ?_
                refine h_iastore C dX9_asItIs_48 kd_203 6 rfl (by rw [ln_203]; decide) ?_
                refine h_iinc (lv' := [(1, .int (hpI 7)), (0, .ref (z + 195))]) C dX9_asItIs_49 0 rfl rfl (by decide) rfl ?_
                refine h_goto (tgt := 28) C dX9_asItIs_52 (by decide) ?_
                refine h_iload_n C dX9_asItIs_28 0 rfl rfl ?_
                refine h_bipush C dX9_asItIs_29 (by decide) ?_
                refine h_icmp_ge (tgt := 55) C dX9_asItIs_31 (by decide) ⟨by decide, by decide⟩ ⟨by decide, by decide⟩ (fun h8 => ?_) (fun h8 => ?_)
                · exfalso; omega
                · refine h_aload_n C dX9_asItIs_34 1 rfl rfl ?_
                  refine h_get C O9 19 kd_195 (by decide) wd_1275 dX9_asItIs_35 fr_195_19 ?_
                  refine h_iload_n C dX9_asItIs_38 0 rfl rfl ?_
                  refine h_aload_n C dX9_asItIs_39 1 rfl rfl ?_
                  refine h_get C O9 1 kd_195 (by decide) wd_1257 dX9_asItIs_40 fr_195_1 ?_
                  refine h_bipush C dX9_asItIs_43 (by decide) ?_
                  refine h_iload_n C dX9_asItIs_45 0 rfl rfl ?_
                  refine h_iadd (r := 14) C dX9_asItIs_46 (by decide) ?_
                  refine h_iaload C dX9_asItIs_47 kd_196 14 rfl (by rw [ln_196]; decide) ((hpw_nk (by decide)).trans ((hpw_nk (by decide)).trans ((hpw_nk (by decide)).trans ((hpw_nk (by decide)).trans ((hpw_nk (by decide)).trans ((hpw_nk (by decide)).trans ((hpw_nk (by decide)).trans ((hpw_nk (by decide)).trans ((hpw_nk (by decide)).trans ((hpw_nk (by decide)).trans ((hpw_nk (by decide)).trans (hz_196 _)))))))))))) ?_
                  refine h_iastore C dX9_asItIs_48 kd_203 7 rfl (by rw [ln_203]; decide) ?_
                  refine h_iinc (lv' := [(1, .int (hpI 8)), (0, .ref (z + 195))]) C dX9_asItIs_49 0 rfl rfl (by decide) rfl ?_
                  refine h_goto (tgt := 28) C dX9_asItIs_52 (by decide) ?_
                  refine h_iload_n C dX9_asItIs_28 0 rfl rfl ?_
                  refine h_bipush C dX9_asItIs_29 (by decide) ?_
                  refine h_icmp_ge (tgt := 55) C dX9_asItIs_31 (by decide) ⟨by decide, by decide⟩ ⟨by decide, by decide⟩ (fun h9 => ?_) (fun h9 => ?_)
                  · refine h_iconst C dX9_asItIs_55 ?_
                    refine h_istore_n (lv' := [(1, .int (hpI 0)), (0, .ref (z + 195))]) C dX9_asItIs_56 rfl (by decide) rfl ?_
                    refine h_iload_n C dX9_asItIs_57 0 rfl rfl ?_
                    refine h_bipush C dX9_asItIs_58 (by decide) ?_
                    refine h_icmp_ge (tgt := 88) C dX9_asItIs_60 (by decide) ⟨by decide, by decide⟩ ⟨by decide, by decide⟩ (fun h10 => ?_) (fun h10 => ?_)
                    · exfalso; omega
                    · refine h_aload_n C dX9_asItIs_63 1 rfl rfl ?_
                      refine h_get C O9 20 kd_195 (by decide) wd_1276 dX9_asItIs_64 fr_195_20 ?_
                      refine h_iload_n C dX9_asItIs_67 0 rfl rfl ?_
                      refine h_aload_n C dX9_asItIs_68 1 rfl rfl ?_
                      refine h_get C O9 1 kd_195 (by decide) wd_1257 dX9_asItIs_69 fr_195_1 ?_
                      refine h_bipush C dX9_asItIs_72 (by decide) ?_
                      refine h_iconst C dX9_asItIs_74 ?_
                      refine h_iload_n C dX9_asItIs_75 0 rfl rfl ?_
                      refine h_imul (r := 0) C dX9_asItIs_76 (by decide) ?_
                      refine h_iadd (r := 15) C dX9_asItIs_77 (by decide) ?_
                      refine h_iconst C dX9_asItIs_78 ?_
                      refine h_iadd (r := 16) C dX9_asItIs_79 (by decide) ?_
                      refine h_iaload C dX9_asItIs_80 kd_196 16 rfl (by rw [ln_196]; decide) ((hpw_nk (by decide)).trans ((hpw_nk (by decide)).trans ((hpw_nk (by decide)).trans ((hpw_nk (by decide)).trans ((hpw_nk (by decide)).trans ((hpw_nk (by decide)).trans ((hpw_nk (by decide)).trans ((hpw_nk (by decide)).trans ((hpw_nk (by decide)).trans ((hpw_nk (by decide)).trans ((hpw_nk (by decide)).trans ((hpw_nk (by decide)).trans (hz_196 _))))))))))))) ?_
                      refine h_iastore C dX9_asItIs_81 kd_204 0 rfl (by rw [ln_204]; decide) ?_
                      refine h_iinc (lv' := [(1, .int (hpI 1)), (0, .ref (z + 195))]) C dX9_asItIs_82 0 rfl rfl (by decide) rfl ?_
                      refine h_goto (tgt := 57) C dX9_asItIs_85 (by decide) ?_
                      refine h_iload_n C dX9_asItIs_57 0 rfl rfl ?_
                      refine h_bipush C dX9_asItIs_58 (by decide) ?_
                      refine h_icmp_ge (tgt := 88) C dX9_asItIs_60 (by decide) ⟨by decide, by decide⟩ ⟨by decide, by decide⟩ (fun h11 => ?_) (fun h11 => ?_)
                      · exfalso; omega
                      · refine h_aload_n C dX9_asItIs_63 1 rfl rfl ?_
                        refine h_get C O9 20 kd_195 (by decide) wd_1276 dX9_asItIs_64 fr_195_20 ?_
                        refine h_iload_n C dX9_asItIs_67 0 rfl rfl ?_
                        refine h_aload_n C dX9_asItIs_68 1 rfl rfl ?_
                        refine h_get C O9 1 kd_195 (by decide) wd_1257 dX9_asItIs_69 fr_195_1 ?_
                        refine h_bipush C dX9_asItIs_72 (by decide) ?_
                        refine h_iconst C dX9_asItIs_74 ?_
                        refine h_iload_n C dX9_asItIs_75 0 rfl rfl ?_
                        refine h_imul (r := 2) C dX9_asItIs_76 (by decide) ?_
                        refine h_iadd (r := 17) C dX9_asItIs_77 (by decide) ?_
                        refine h_iconst C dX9_asItIs_78 ?_
                        refine h_iadd (r := 18) C dX9_asItIs_79 (by decide) ?_
                        refine h_iaload C dX9_asItIs_80 kd_196 18 rfl (by rw [ln_196]; decide) ((hpw_nk (by decide)).trans ((hpw_nk (by decide)).trans ((hpw_nk (by decide)).trans ((hpw_nk (by decide)).trans ((hpw_nk (by decide)).trans ((hpw_nk (by decide)).trans ((hpw_nk (by decide)).trans ((hpw_nk (by decide)).trans ((hpw_nk (by decide)).trans ((hpw_nk (by decide)).trans ((hpw_nk (by decide)).trans ((hpw_nk (by decide)).trans ((hpw_nk (by decide)).trans (hz_196 _)))))))))))))) ?_
                        refine h_iastore C dX9_asItIs_81 kd_204 1 rfl (by rw [ln_204]; decide) ?_
                        refine h_iinc (lv' := [(1, .int (hpI 2)), (0, .ref (z + 195))]) C dX9_asItIs_82 0 rfl rfl (by decide) rfl ?_
                        refine h_goto (tgt := 57) C dX9_asItIs_85 (by decide) ?_
                        refine h_iload_n C dX9_asItIs_57 0 rfl rfl ?_
                        refine h_bipush C dX9_asItIs_58 (by decide) ?_
                        refine h_icmp_ge (tgt := 88) C dX9_asItIs_60 (by decide) ⟨by decide, by decide⟩ ⟨by decide, by decide⟩ (fun h12 => ?_) (fun h12 => ?_)
                        · exfalso; omega
                        · refine h_aload_n C dX9_asItIs_63 1 rfl rfl ?_
                          refine h_get C O9 20 kd_195 (by decide) wd_1276 dX9_asItIs_64 fr_195_20 ?_
                          refine h_iload_n C dX9_asItIs_67 0 rfl rfl ?_
                          refine h_aload_n C dX9_asItIs_68 1 rfl rfl ?_
                          refine h_get C O9 1 kd_195 (by decide) wd_1257 dX9_asItIs_69 fr_195_1 ?_
                          refine h_bipush C dX9_asItIs_72 (by decide) ?_
                          refine h_iconst C dX9_asItIs_74 ?_
                          refine h_iload_n C dX9_asItIs_75 0 rfl rfl ?_
                          refine h_imul (r := 4) C dX9_asItIs_76 (by decide) ?_
                          refine h_iadd (r := 19) C dX9_asItIs_77 (by decide) ?_
                          refine h_iconst C dX9_asItIs_78 ?_
                          refine h_iadd (r := 20) C dX9_asItIs_79 (by decide) ?_
                          refine h_iaload C dX9_asItIs_80 kd_196 20 rfl (by rw [ln_196]; decide) ((hpw_nk (by decide)).trans ((hpw_nk (by decide)).trans ((hpw_nk (by decide)).trans ((hpw_nk (by decide)).trans ((hpw_nk (by decide)).trans ((hpw_nk (by decide)).trans ((hpw_nk (by decide)).trans ((hpw_nk (by decide)).trans ((hpw_nk (by decide)).trans ((hpw_nk (by decide)).trans ((hpw_nk (by decide)).trans ((hpw_nk (by decide)).trans ((hpw_nk (by decide)).trans ((hpw_nk (by decide)).trans (hz_196 _))))))))))))))) ?_
                          refine h_iastore C dX9_asItIs_81 kd_204 2 rfl (by rw [ln_204]; decide) ?_
                          refine h_iinc (lv' := [(1, .int (hpI 3)), (0, .ref (z + 195))]) C dX9_asItIs_82 0 rfl rfl (by decide) rfl ?_
                          refine h_goto (tgt := 57) C dX9_asItIs_85 (by decide) ?_
                          refine h_iload_n C dX9_asItIs_57 0 rfl rfl ?_
                          refine h_bipush C dX9_asItIs_58 (by decide) ?_
                          refine h_icmp_ge (tgt := 88) C dX9_asItIs_60 (by decide) ⟨by decide, by decide⟩ ⟨by decide, by decide⟩ (fun h13 => ?_) (fun h13 => ?_)
                          · exfalso; omega
                          · refine h_aload_n C dX9_asItIs_63 1 rfl rfl ?_
                            refine h_get C O9 20 kd_195 (by decide) wd_1276 dX9_asItIs_64 fr_195_20 ?_
                            refine h_iload_n C dX9_asItIs_67 0 rfl rfl ?_
                            refine h_aload_n C dX9_asItIs_68 1 rfl rfl ?_
                            refine h_get C O9 1 kd_195 (by decide) wd_1257 dX9_asItIs_69 fr_195_1 ?_
                            refine h_bipush C dX9_asItIs_72 (by decide) ?_
                            refine h_iconst C dX9_asItIs_74 ?_
                            refine h_iload_n C dX9_asItIs_75 0 rfl rfl ?_
                            refine h_imul (r := 6) C dX9_asItIs_76 (by decide) ?_
                            refine h_iadd (r := 21) C dX9_asItIs_77 (by decide) ?_
                            refine h_iconst C dX9_asItIs_78 ?_
                            refine h_iadd (r := 22) C dX9_asItIs_79 (by decide) ?_
                            refine h_iaload C dX9_asItIs_80 kd_196 22 rfl (by rw [ln_196]; decide) ((hpw_nk (by decide)).trans ((hpw_nk (by decide)).trans ((hpw_nk (by decide)).trans ((hpw_nk (by decide)).trans ((hpw_nk (by decide)).trans ((hpw_nk (by decide)).trans ((hpw_nk (by decide)).trans ((hpw_nk (by decide)).trans ((hpw_nk (by decide)).trans ((hpw_nk (by decide)).trans ((hpw_nk (by decide)).trans ((hpw_nk (by decide)).trans ((hpw_nk (by decide)).trans ((hpw_nk (by decide)).trans ((hpw_nk (by decide)).trans (hz_196 _)))))))))))))))) ?_
                            refine h_iastore C dX9_asItIs_81 kd_204 3 rfl (by rw [ln_204]; decide) ?_
                            refine h_iinc (lv' := [(1, .int (hpI 4)), (0, .ref (z + 195))]) C dX9_asItIs_82 0 rfl rfl (by decide) rfl ?_
                            refine h_goto (tgt := 57) C dX9_asItIs_85 (by decide) ?_
                            refine h_iload_n C dX9_asItIs_57 0 rfl rfl ?_
                            refine h_bipush C dX9_asItIs_58 (by decide) ?_
                            refine h_icmp_ge (tgt := 88) C dX9_asItIs_60 (by decide) ⟨by decide, by decide⟩ ⟨by decide, by decide⟩ (fun h14 => ?_) (fun h14 => ?_)
                            · exfalso; omega
                            · refine h_aload_n C dX9_asItIs_63 1 rfl rfl ?_
                              refine h_get C O9 20 kd_195 (by decide) wd_1276 dX9_asItIs_64 fr_195_20 ?_
                              refine h_iload_n C dX9_asItIs_67 0 rfl rfl ?_
                              refine h_aload_n C dX9_asItIs_68 1 rfl rfl ?_
                              refine h_get C O9 1 kd_195 (by decide) wd_1257 dX9_asItIs_69 fr_195_1 ?_
                              refine h_bipush C dX9_asItIs_72 (by decide) ?_
                              refine h_iconst C dX9_asItIs_74 ?_
                              refine h_iload_n C dX9_asItIs_75 0 rfl rfl ?_
                              refine h_imul (r := 8) C dX9_asItIs_76 (by decide) ?_
                              refine h_iadd (r := 23) C dX9_asItIs_77 (by decide) ?_
                              refine h_iconst C dX9_asItIs_78 ?_
                              refine h_iadd (r := 24) C dX9_asItIs_79 (by decide) ?_
                              refine h_iaload C dX9_asItIs_80 kd_196 24 rfl (by rw [ln_196]; decide) ((hpw_nk (by decide)).trans ((hpw_nk (by decide)).trans ((hpw_nk (by decide)).trans ((hpw_nk (by decide)).trans ((hpw_nk (by decide)).trans ((hpw_nk (by decide)).trans ((hpw_nk (by decide)).trans ((hpw_nk (by decide)).trans ((hpw_nk (by decide)).trans ((hpw_nk (by decide)).trans ((hpw_nk (by decide)).trans ((hpw_nk (by decide)).trans ((hpw_nk (by decide)).trans ((hpw_nk (by decide)).trans ((hpw_nk (by decide)).trans ((hpw_nk (by decide)).trans (hz_196 _))))))))))))))))) ?_
                              refine h_iastore C dX9_asItIs_81 kd_204 4 rfl (by rw [ln_204]; decide) ?_
                              refine h_iinc (lv' := [(1, .int (hpI 5)), (0, .ref (z + 195))]) C dX9_asItIs_82 0 rfl rfl (by decide) rfl ?_
                              refine h_goto (tgt := 57) C dX9_asItIs_85 (by decide) ?_
                              refine h_iload_n C dX9_asItIs_57 0 rfl rfl ?_
                              refine h_bipush C dX9_asItIs_58 (by decide) ?_
                              refine h_icmp_ge (tgt := 88) C dX9_asItIs_60 (by decide) ⟨by decide, by decide⟩ ⟨by decide, by decide⟩ (fun h15 => ?_) (fun h15 => ?_)
                              · exfalso; omega
                              · refine h_aload_n C dX9_asItIs_63 1 rfl rfl ?_
                                refine h_get C O9 20 kd_195 (by decide) wd_1276 dX9_asItIs_64 fr_195_20 ?_
                                refine h_iload_n C dX9_asItIs_67 0 rfl rfl ?_
                                refine h_aload_n C dX9_asItIs_68 1 rfl rfl ?_
                                refine h_get C O9 1 kd_195 (by decide) wd_1257 dX9_asItIs_69 fr_195_1 ?_
                                refine h_bipush C dX9_asItIs_72 (by decide) ?_
                                refine h_iconst C dX9_asItIs_74 ?_
                                refine h_iload_n C dX9_asItIs_75 0 rfl rfl ?_
                                refine h_imul (r := 10) C dX9_asItIs_76 (by decide) ?_
                                refine h_iadd (r := 25) C dX9_asItIs_77 (by decide) ?_
                                refine h_iconst C dX9_asItIs_78 ?_
                                refine h_iadd (r := 26) C dX9_asItIs_79 (by decide) ?_
                                refine h_iaload C dX9_asItIs_80 kd_196 26 rfl (by rw [ln_196]; decide) ((hpw_nk (by decide)).trans ((hpw_nk (by decide)).trans ((hpw_nk (by decide)).trans ((hpw_nk (by decide)).trans ((hpw_nk (by decide)).trans ((hpw_nk (by decide)).trans ((hpw_nk (by decide)).trans ((hpw_nk (by decide)).trans ((hpw_nk (by decide)).trans ((hpw_nk (by decide)).trans ((hpw_nk (by decide)).trans ((hpw_nk (by decide)).trans ((hpw_nk (by decide)).trans ((hpw_nk (by decide)).trans ((hpw_nk (by decide)).trans ((hpw_nk (by decide)).trans ((hpw_nk (by decide)).trans (hz_196 _)))))))))))))))))) ?_
                                refine h_iastore C dX9_asItIs_81 kd_204 5 rfl (by rw [ln_204]; decide) ?_
                                refine h_iinc (lv' := [(1, .int (hpI 6)), (0, .ref (z + 195))]) C dX9_asItIs_82 0 rfl rfl (by decide) rfl ?_
                                refine h_goto (tgt := 57) C dX9_asItIs_85 (by decide) ?_
                                refine h_iload_n C dX9_asItIs_57 0 rfl rfl ?_
                                refine h_bipush C dX9_asItIs_58 (by decide) ?_
                                refine h_icmp_ge (tgt := 88) C dX9_asItIs_60 (by decide) ⟨by decide, by decide⟩ ⟨by decide, by decide⟩ (fun h16 => ?_) (fun h16 => ?_)
                                · refine h_return C hr hk dX9_asItIs_88 ?_
                                  exact ⟨rfl, (fun j hj0 hj1 hj2 => ((hpw_ne hj2).trans ((hpw_ne hj2).trans ((hpw_ne hj2).trans ((hpw_ne hj2).trans ((hpw_ne hj2).trans ((hpw_ne hj2).trans ((hpw_ne hj1).trans ((hpw_ne hj1).trans ((hpw_ne hj1).trans ((hpw_ne hj1).trans ((hpw_ne hj1).trans ((hpw_ne hj1).trans ((hpw_ne hj1).trans ((hpw_ne hj1).trans ((hpw_ne hj0).trans ((hpw_ne hj0).trans ((hpw_ne hj0).trans ((hpw_ne hj0).trans rfl))))))))))))))))))), ((((hpw_nk (by decide)).trans ((hpw_nk (by decide)).trans ((hpw_nk (by decide)).trans ((hpw_nk (by decide)).trans ((hpw_nk (by decide)).trans ((hpw_nk (by decide)).trans ((hpw_nk (by decide)).trans ((hpw_nk (by decide)).trans ((hpw_nk (by decide)).trans ((hpw_nk (by decide)).trans ((hpw_nk (by decide)).trans ((hpw_nk (by decide)).trans ((hpw_nk (by decide)).trans ((hpw_nk (by decide)).trans hpw_eq))))))))))))))).trans (by omega))⟩
                                · exfalso; omega
                  · exfalso; omega
abbrev rX9_manyOf : Room := { frames := 0, cells := 0, slots := 0, locals := 0 }
abbrev pX9_manyOf (z : Nat) (σ : hpMem) : Option Value → hpMem → Prop := fun r τ => r = some (.int (hpI 0)) ∧ σ = τ
set_option maxHeartbeats 4000000 in
set_option maxRecDepth 20000 in
theorem tX9_manyOf (l : Launch) (D : va_G) (cy : Nat → ClassId) (z : Nat) (σ : hpMem) (h_202_11917 : σ 202 11917 = 0) : hpM l D cy z yX9_manyOf cX9_manyOf 2 (some .int) rX9_manyOf [.ref (z + 195), .int (hpI 17)] σ (pX9_manyOf z σ) := by
  refine hp_met rfl (Nat.le_of_ble_eq_true rfl) (fun p e s m below meth c C hr hk => ?_)
  refine h_aload_n C dX9_manyOf_0 0 rfl rfl ?_
  refine h_get C O9 15 kd_195 (by decide) wd_1271 dX9_manyOf_1 fr_195_15 ?_
  refine h_sipush C dX9_manyOf_4 (by decide) ?_
  refine h_iload_n C dX9_manyOf_7 1 rfl rfl ?_
  refine h_imul (r := 11917) C dX9_manyOf_8 (by decide) ?_
  refine h_iaload C dX9_manyOf_9 kd_202 11917 rfl (by rw [ln_202]; decide) h_202_11917 ?_
  refine h_ireturn C hr hk dX9_manyOf_10 ?_
  exact ⟨rfl, rfl⟩
abbrev rX9_empty : Room := { frames := 0, cells := 0, slots := 0, locals := 0 }
abbrev pX9_empty (z : Nat) (σ : hpMem) : Option Value → hpMem → Prop := fun r τ => r = none ∧ (∀ j : Nat, j ≠ 202 → τ j = σ j) ∧ τ 202 11917 = 0
set_option maxHeartbeats 4000000 in
set_option maxRecDepth 20000 in
theorem tX9_empty (l : Launch) (D : va_G) (cy : Nat → ClassId) (z : Nat) (σ : hpMem) : hpM l D cy z yX9_empty cX9_empty 2 none rX9_empty [.ref (z + 195), .int (hpI 17)] σ (pX9_empty z σ) := by
  refine hp_met rfl (Nat.le_of_ble_eq_true rfl) (fun p e s m below meth c C hr hk => ?_)
  refine h_aload_n C dX9_empty_0 0 rfl rfl ?_
  refine h_get C O9 15 kd_195 (by decide) wd_1271 dX9_empty_1 fr_195_15 ?_
  refine h_sipush C dX9_empty_4 (by decide) ?_
  refine h_iload_n C dX9_empty_7 1 rfl rfl ?_
  refine h_imul (r := 11917) C dX9_empty_8 (by decide) ?_
  refine h_iconst C dX9_empty_9 ?_
  refine h_iastore C dX9_empty_10 kd_202 11917 rfl (by rw [ln_202]; decide) ?_
  refine h_return C hr hk dX9_empty_11 ?_
  exact ⟨rfl, (fun j hj0 => ((hpw_ne hj0).trans rfl)), hpw_eq⟩
abbrev rX9_copyRow : Room := { frames := 1, cells := 0, slots := 0, locals := 21 }
abbrev pX9_copyRow (z : Nat) (σ : hpMem) : Option Value → hpMem → Prop := fun r τ => r = none ∧ (∀ j : Nat, j ≠ 202 → τ j = σ j)
set_option maxHeartbeats 4000000 in
set_option maxRecDepth 20000 in
theorem tX9_copyRow (l : Launch) (D : va_G) (cy : Nat → ClassId) (z : Nat) (σ : hpMem) (h_202_11917 : σ 202 11917 = 0) : hpM l D cy z yX9_copyRow cX9_copyRow 4 none rX9_copyRow [.ref (z + 195), .int (hpI 17), .int (hpI 0)] σ (pX9_copyRow z σ) := by
  refine hp_met rfl (Nat.le_of_ble_eq_true rfl) (fun p e s m below meth c C hr hk => ?_)
  refine h_iconst C dX9_copyRow_0 ?_
  refine h_istore_n (lv' := [(3, .int (hpI 0)), (0, .ref (z + 195)), (1, .int (hpI 17)), (2, .int (hpI 0))]) C dX9_copyRow_1 rfl (by decide) rfl ?_
  refine h_iload_n C dX9_copyRow_2 0 rfl rfl ?_
  refine h_aload_n C dX9_copyRow_3 1 rfl rfl ?_
  refine h_iload_n C dX9_copyRow_4 2 rfl rfl ?_
  refine h_callV (As := [.int (hpI 17)]) (rest := [.int (hpI 0)]) C yyX9_manyOf wd_1536 (tX9_manyOf l D cy z _ h_202_11917) kd_195 rfl rfl ⟨rfl, rfl, Nat.le_of_ble_eq_true rfl, Nat.le_of_ble_eq_true rfl⟩ ⟨Nat.le_of_ble_eq_true rfl, Nat.le_of_ble_eq_true rfl⟩ (Nat.le_of_ble_eq_true rfl) dX9_copyRow_5 (fun r1 τ1 hp1 => ?_)
  obtain ⟨rfl, rfl⟩ := hp1
  show hpV _ _ _ _ _ _ _ _ _ _ _ _ _ _ _ _ _ _ _ _ _ (_ :: _)
  refine h_icmp_gt (tgt := 41) C dX9_copyRow_8 (by decide) ⟨by decide, by decide⟩ ⟨by decide, by decide⟩ (fun h2 => ?_) (fun h2 => ?_)
  · exfalso; omega
  · refine h_aload_n C dX9_copyRow_11 1 rfl rfl ?_
    refine h_get C O9 15 kd_195 (by decide) wd_1271 dX9_copyRow_12 fr_195_15 ?_
    refine h_sipush C dX9_copyRow_15 (by decide) ?_
    refine h_iload_n C dX9_copyRow_18 3 rfl rfl ?_
    refine h_imul (r := 0) C dX9_copyRow_19 (by decide) ?_
    refine h_iload_n C dX9_copyRow_20 0 rfl rfl ?_
    refine h_iadd (r := 0) C dX9_copyRow_21 (by decide) ?_
    refine h_aload_n C dX9_copyRow_22 1 rfl rfl ?_
    refine h_get C O9 15 kd_195 (by decide) wd_1271 dX9_copyRow_23 fr_195_15 ?_
    refine h_sipush C dX9_copyRow_26 (by decide) ?_
    refine h_iload_n C dX9_copyRow_29 2 rfl rfl ?_
    refine h_imul (r := 11917) C dX9_copyRow_30 (by decide) ?_
    refine h_iload_n C dX9_copyRow_31 0 rfl rfl ?_
    refine h_iadd (r := 11917) C dX9_copyRow_32 (by decide) ?_
    refine h_iaload C dX9_copyRow_33 kd_202 11917 rfl (by rw [ln_202]; decide) h_202_11917 ?_
    refine h_iastore C dX9_copyRow_34 kd_202 0 rfl (by rw [ln_202]; decide) ?_
    refine h_iinc (lv' := [(3, .int (hpI 1)), (0, .ref (z + 195)), (1, .int (hpI 17)), (2, .int (hpI 0))]) C dX9_copyRow_35 0 rfl rfl (by decide) rfl ?_
    refine h_goto (tgt := 2) C dX9_copyRow_38 (by decide) ?_
    refine h_iload_n C dX9_copyRow_2 0 rfl rfl ?_
    refine h_aload_n C dX9_copyRow_3 1 rfl rfl ?_
    refine h_iload_n C dX9_copyRow_4 2 rfl rfl ?_
    refine h_callV (As := [.int (hpI 17)]) (rest := [.int (hpI 1)]) C yyX9_manyOf wd_1536 (tX9_manyOf l D cy z _ ((hpw_ni (by decide)).trans h_202_11917)) kd_195 rfl rfl ⟨rfl, rfl, Nat.le_of_ble_eq_true rfl, Nat.le_of_ble_eq_true rfl⟩ ⟨Nat.le_of_ble_eq_true rfl, Nat.le_of_ble_eq_true rfl⟩ (Nat.le_of_ble_eq_true rfl) dX9_copyRow_5 (fun r3 τ3 hp3 => ?_)
    obtain ⟨rfl, rfl⟩ := hp3
    show hpV _ _ _ _ _ _ _ _ _ _ _ _ _ _ _ _ _ _ _ _ _ (_ :: _)
    refine h_icmp_gt (tgt := 41) C dX9_copyRow_8 (by decide) ⟨by decide, by decide⟩ ⟨by decide, by decide⟩ (fun h4 => ?_) (fun h4 => ?_)
    · refine h_return C hr hk dX9_copyRow_41 ?_
      exact ⟨rfl, (fun j hj0 => ((hpw_ne hj0).trans rfl))⟩
    · exfalso; omega
abbrev rX9_beginDay : Room := { frames := 1, cells := 0, slots := 0, locals := 20 }
abbrev pX9_beginDay (z : Nat) (σ : hpMem) : Option Value → hpMem → Prop := fun r τ => r = none ∧ σ = τ
set_option maxHeartbeats 4000000 in
set_option maxRecDepth 20000 in
theorem tX9_beginDay (l : Launch) (D : va_G) (cy : Nat → ClassId) (z : Nat) (σ : hpMem) (h_195_23 : σ 195 23 = -1) (hz_196 : ∀ i : Nat, σ 196 i = 0) : hpM l D cy z yX9_beginDay cX9_beginDay 3 none rX9_beginDay [.ref (z + 195), .int (hpI 0)] σ (pX9_beginDay z σ) := by
  refine hp_met rfl (Nat.le_of_ble_eq_true rfl) (fun p e s m below meth c C hr hk => ?_)
  refine h_iconst C dX9_beginDay_0 ?_
  refine h_istore_n (lv' := [(2, .int (hpI 0)), (0, .ref (z + 195)), (1, .int (hpI 0))]) C dX9_beginDay_1 rfl (by decide) rfl ?_
  refine h_iload_n C dX9_beginDay_2 0 rfl rfl ?_
  refine h_aload_n C dX9_beginDay_3 1 rfl rfl ?_
  refine h_callV (As := []) (rest := [.int (hpI 0)]) C yyX9_cartMany wd_1504 (tX9_cartMany l D cy z _ (fun i => (hz_196 i))) kd_195 rfl rfl ⟨rfl, rfl, Nat.le_of_ble_eq_true rfl, Nat.le_of_ble_eq_true rfl⟩ ⟨Nat.le_of_ble_eq_true rfl, Nat.le_of_ble_eq_true rfl⟩ (Nat.le_of_ble_eq_true rfl) dX9_beginDay_4 (fun r1 τ1 hp1 => ?_)
  obtain ⟨rfl, rfl⟩ := hp1
  show hpV _ _ _ _ _ _ _ _ _ _ _ _ _ _ _ _ _ _ _ _ _ (_ :: _)
  refine h_icmp_ge (tgt := 55) C dX9_beginDay_7 (by decide) ⟨by decide, by decide⟩ ⟨by decide, by decide⟩ (fun h2 => ?_) (fun h2 => ?_)
  · refine h_iconst C dX9_beginDay_55 ?_
    refine h_istore_n (lv' := [(2, .int (hpI 0)), (0, .ref (z + 195)), (1, .int (hpI 0))]) C dX9_beginDay_56 rfl (by decide) rfl ?_
    refine h_iload_n C dX9_beginDay_57 0 rfl rfl ?_
    refine h_aload_n C dX9_beginDay_58 1 rfl rfl ?_
    refine h_get C O9 1 kd_195 (by decide) wd_1257 dX9_beginDay_59 fr_195_1 ?_
    refine h_iconst C dX9_beginDay_62 ?_
    refine h_iaload C dX9_beginDay_63 kd_196 5 rfl (by rw [ln_196]; decide) (hz_196 _) ?_
    refine h_icmp_ge (tgt := 107) C dX9_beginDay_64 (by decide) ⟨by decide, by decide⟩ ⟨by decide, by decide⟩ (fun h3 => ?_) (fun h3 => ?_)
    · refine h_aload_n C dX9_beginDay_107 1 rfl rfl ?_
      refine h_get C O9 23 kd_195 (by decide) wd_1279 dX9_beginDay_108 (fi_195_23 h_195_23) ?_
      refine h_iload_n C dX9_beginDay_111 2 rfl rfl ?_
      refine h_icmp_ne (tgt := 125) C dX9_beginDay_112 (by decide) ⟨by decide, by decide⟩ ⟨by decide, by decide⟩ (fun h4 => ?_) (fun h4 => ?_)
      · refine h_iconst C dX9_beginDay_125 ?_
        refine h_istore_n (lv' := [(2, .int (hpI 0)), (0, .ref (z + 195)), (1, .int (hpI 0))]) C dX9_beginDay_126 rfl (by decide) rfl ?_
        refine h_iload_n C dX9_beginDay_127 0 rfl rfl ?_
        refine h_aload_n C dX9_beginDay_128 1 rfl rfl ?_
        refine h_get C O9 1 kd_195 (by decide) wd_1257 dX9_beginDay_129 fr_195_1 ?_
        refine h_iconst C dX9_beginDay_132 ?_
        refine h_iaload C dX9_beginDay_133 kd_196 5 rfl (by rw [ln_196]; decide) (hz_196 _) ?_
        refine h_icmp_ge (tgt := 162) C dX9_beginDay_134 (by decide) ⟨by decide, by decide⟩ ⟨by decide, by decide⟩ (fun h5 => ?_) (fun h5 => ?_)
        · refine h_return C hr hk dX9_beginDay_162 ?_
          exact ⟨rfl, rfl⟩
        · exfalso; omega
      · exfalso; omega
    · exfalso; omega
  · exfalso; omega
abbrev rX9_goAll : Room := { frames := 2, cells := 0, slots := 0, locals := 44 }
abbrev pX9_goAll (z : Nat) (σ : hpMem) : Option Value → hpMem → Prop := fun r τ => r = none ∧ (∀ j : Nat, j ≠ 202 → τ j = σ j)
set_option maxHeartbeats 4000000 in
set_option maxRecDepth 20000 in
theorem tX9_goAll (l : Launch) (D : va_G) (cy : Nat → ClassId) (z : Nat) (σ : hpMem) (h_195_23 : σ 195 23 = -1) (hz_196 : ∀ i : Nat, σ 196 i = 0) : hpM l D cy z yX9_goAll cX9_goAll 2 none rX9_goAll [.ref (z + 195)] σ (pX9_goAll z σ) := by
  refine hp_met rfl (Nat.le_of_ble_eq_true rfl) (fun p e s m below meth c C hr hk => ?_)
  refine h_aload_n C dX9_goAll_0 0 rfl rfl ?_
  refine h_bipush C dX9_goAll_1 (by decide) ?_
  refine h_callV (As := [.int (hpI 17)]) (rest := []) C yyX9_empty wd_1528 (tX9_empty l D cy z _) kd_195 rfl rfl ⟨rfl, rfl, Nat.le_of_ble_eq_true rfl, Nat.le_of_ble_eq_true rfl⟩ ⟨Nat.le_of_ble_eq_true rfl, Nat.le_of_ble_eq_true rfl⟩ (Nat.le_of_ble_eq_true rfl) dX9_goAll_3 (fun r1 τ1 hp1 => ?_)
  obtain ⟨rfl, hF1, hc1_0⟩ := hp1
  show hpV _ _ _ _ _ _ _ _ _ _ _ _ _ _ _ _ _ _ _ _ _ []
  refine h_iconst C dX9_goAll_6 ?_
  refine h_istore_n (lv' := [(1, .int (hpI 0)), (0, .ref (z + 195))]) C dX9_goAll_7 rfl (by decide) rfl ?_
  refine h_iload_n C dX9_goAll_8 0 rfl rfl ?_
  refine h_aload_n C dX9_goAll_9 1 rfl rfl ?_
  refine h_get C O9 1 kd_195 (by decide) wd_1257 dX9_goAll_10 fr_195_1 ?_
  refine h_iconst C dX9_goAll_13 ?_
  refine h_iaload C dX9_goAll_14 kd_196 3 rfl (by rw [ln_196]; decide) ((congrFun (hF1 196 (by decide)) _).trans (hz_196 _)) ?_
  refine h_icmp_ge (tgt := 36) C dX9_goAll_15 (by decide) ⟨by decide, by decide⟩ ⟨by decide, by decide⟩ (fun h2 => ?_) (fun h2 => ?_)
  · refine h_iconst C dX9_goAll_36 ?_
    refine h_istore_n (lv' := [(1, .int (hpI 0)), (0, .ref (z + 195))]) C dX9_goAll_37 rfl (by decide) rfl ?_
    refine h_iload_n C dX9_goAll_38 0 rfl rfl ?_
    refine h_aload_n C dX9_goAll_39 1 rfl rfl ?_
    refine h_callV (As := []) (rest := [.int (hpI 0)]) C yyX9_days wd_1544 (tX9_days l D cy z _ (fun i => ((fun i => (congrFun (hF1 196 (by decide)) i).trans ((fun i => (hz_196 i)) i)) i))) kd_195 rfl rfl ⟨rfl, rfl, Nat.le_of_ble_eq_true rfl, Nat.le_of_ble_eq_true rfl⟩ ⟨Nat.le_of_ble_eq_true rfl, Nat.le_of_ble_eq_true rfl⟩ (Nat.le_of_ble_eq_true rfl) dX9_goAll_40 (fun r3 τ3 hp3 => ?_)
    obtain ⟨rfl, rfl⟩ := hp3
    show hpV _ _ _ _ _ _ _ _ _ _ _ _ _ _ _ _ _ _ _ _ _ (_ :: _)
    refine h_icmp_gt (tgt := 120) C dX9_goAll_43 (by decide) ⟨by decide, by decide⟩ ⟨by decide, by decide⟩ (fun h4 => ?_) (fun h4 => ?_)
    · exfalso; omega
    · refine h_aload_n C dX9_goAll_46 1 rfl rfl ?_
      refine h_iload_n C dX9_goAll_47 0 rfl rfl ?_
      refine h_callV (As := [.int (hpI 0)]) (rest := []) C yyX9_beginDay wd_1548 (tX9_beginDay l D cy z _ ((congrFun (hF1 195 (by decide)) _).trans h_195_23) (fun i => ((fun i => (congrFun (hF1 196 (by decide)) i).trans ((fun i => (hz_196 i)) i)) i))) kd_195 rfl rfl ⟨rfl, rfl, Nat.le_of_ble_eq_true rfl, Nat.le_of_ble_eq_true rfl⟩ ⟨Nat.le_of_ble_eq_true rfl, Nat.le_of_ble_eq_true rfl⟩ (Nat.le_of_ble_eq_true rfl) dX9_goAll_48 (fun r5 τ5 hp5 => ?_)
      obtain ⟨rfl, rfl⟩ := hp5
      show hpV _ _ _ _ _ _ _ _ _ _ _ _ _ _ _ _ _ _ _ _ _ []
      refine h_aload_n C dX9_goAll_51 1 rfl rfl ?_
      refine h_bipush C dX9_goAll_52 (by decide) ?_
      refine h_iload_n C dX9_goAll_54 0 rfl rfl ?_
      refine h_callV (As := [.int (hpI 17), .int (hpI 0)]) (rest := []) C yyX9_copyRow wd_1559 (tX9_copyRow l D cy z _ hc1_0) kd_195 rfl rfl ⟨rfl, rfl, Nat.le_of_ble_eq_true rfl, Nat.le_of_ble_eq_true rfl⟩ ⟨Nat.le_of_ble_eq_true rfl, Nat.le_of_ble_eq_true rfl⟩ (Nat.le_of_ble_eq_true rfl) dX9_goAll_55 (fun r6 τ6 hp6 => ?_)
      obtain ⟨rfl, hF6⟩ := hp6
      show hpV _ _ _ _ _ _ _ _ _ _ _ _ _ _ _ _ _ _ _ _ _ []
      refine h_iload_n C dX9_goAll_58 0 rfl rfl ?_
      refine h_aload_n C dX9_goAll_59 1 rfl rfl ?_
      refine h_callV (As := []) (rest := [.int (hpI 0)]) C yyX9_days wd_1544 (tX9_days l D cy z _ (fun i => ((fun i => (congrFun (hF6 196 (by decide)) i).trans ((fun i => ((fun i => (congrFun (hF1 196 (by decide)) i).trans ((fun i => (hz_196 i)) i)) i)) i)) i))) kd_195 rfl rfl ⟨rfl, rfl, Nat.le_of_ble_eq_true rfl, Nat.le_of_ble_eq_true rfl⟩ ⟨Nat.le_of_ble_eq_true rfl, Nat.le_of_ble_eq_true rfl⟩ (Nat.le_of_ble_eq_true rfl) dX9_goAll_60 (fun r7 τ7 hp7 => ?_)
      obtain ⟨rfl, rfl⟩ := hp7
      show hpV _ _ _ _ _ _ _ _ _ _ _ _ _ _ _ _ _ _ _ _ _ (_ :: _)
      refine h_icmp_ne (tgt := 67) C dX9_goAll_63 (by decide) ⟨by decide, by decide⟩ ⟨by decide, by decide⟩ (fun h8 => ?_) (fun h8 => ?_)
      · exfalso; omega
      · refine h_return C hr hk dX9_goAll_66 ?_
        exact ⟨rfl, (fun j hj0 => ((hF6 j hj0).trans ((hF1 j hj0).trans rfl)))⟩
  · exfalso; omega
abbrev rX9_asksMoor : Room := { frames := 3, cells := 0, slots := 0, locals := 65 }
abbrev pX9_asksMoor (z : Nat) (σ : hpMem) : Option Value → hpMem → Prop := fun r τ => r = some (.int (hpI 0)) ∧ (∀ j : Nat, j ≠ 195 → j ≠ 202 → j ≠ 203 → j ≠ 204 → τ j = σ j) ∧ (∀ i : Nat, τ 196 i = 0)
set_option maxHeartbeats 4000000 in
set_option maxRecDepth 20000 in
theorem tX9_asksMoor (l : Launch) (D : va_G) (cy : Nat → ClassId) (z : Nat) (σ : hpMem) (hz_196 : ∀ i : Nat, σ 196 i = 0) : hpM l D cy z yX9_asksMoor cX9_asksMoor 1 (some .boolean) rX9_asksMoor [.ref (z + 195)] σ (pX9_asksMoor z σ) := by
  refine hp_met rfl (Nat.le_of_ble_eq_true rfl) (fun p e s m below meth c C hr hk => ?_)
  refine h_aload_n C dX9_asksMoor_0 0 rfl rfl ?_
  refine h_callV (As := []) (rest := []) C yyX9_asItIs wd_1520 (tX9_asItIs l D cy z _ (fun i => (hz_196 i))) kd_195 rfl rfl ⟨rfl, rfl, Nat.le_of_ble_eq_true rfl, Nat.le_of_ble_eq_true rfl⟩ ⟨Nat.le_of_ble_eq_true rfl, Nat.le_of_ble_eq_true rfl⟩ (Nat.le_of_ble_eq_true rfl) dX9_asksMoor_1 (fun r1 τ1 hp1 => ?_)
  obtain ⟨rfl, hF1, hc1_0⟩ := hp1
  show hpV _ _ _ _ _ _ _ _ _ _ _ _ _ _ _ _ _ _ _ _ _ []
  refine h_aload_n C dX9_asksMoor_4 0 rfl rfl ?_
  refine h_callV (As := []) (rest := []) C yyX9_goAll wd_1524 (tX9_goAll l D cy z _ hc1_0 (fun i => ((fun i => (congrFun (hF1 196 (by decide) (by decide) (by decide)) i).trans ((fun i => (hz_196 i)) i)) i))) kd_195 rfl rfl ⟨rfl, rfl, Nat.le_of_ble_eq_true rfl, Nat.le_of_ble_eq_true rfl⟩ ⟨Nat.le_of_ble_eq_true rfl, Nat.le_of_ble_eq_true rfl⟩ (Nat.le_of_ble_eq_true rfl) dX9_asksMoor_5 (fun r2 τ2 hp2 => ?_)
  obtain ⟨rfl, hF2⟩ := hp2
  show hpV _ _ _ _ _ _ _ _ _ _ _ _ _ _ _ _ _ _ _ _ _ []
  refine h_aload_n C dX9_asksMoor_8 0 rfl rfl ?_
  refine h_callV (As := []) (rest := []) C yyX9_isMoor wd_1571 (tX9_isMoor l D cy z _ (fun i => ((fun i => (congrFun (hF2 196 (by decide)) i).trans ((fun i => ((fun i => (congrFun (hF1 196 (by decide) (by decide) (by decide)) i).trans ((fun i => (hz_196 i)) i)) i)) i)) i))) kd_195 rfl rfl ⟨rfl, rfl, Nat.le_of_ble_eq_true rfl, Nat.le_of_ble_eq_true rfl⟩ ⟨Nat.le_of_ble_eq_true rfl, Nat.le_of_ble_eq_true rfl⟩ (Nat.le_of_ble_eq_true rfl) dX9_asksMoor_9 (fun r3 τ3 hp3 => ?_)
  obtain ⟨rfl, rfl⟩ := hp3
  show hpV _ _ _ _ _ _ _ _ _ _ _ _ _ _ _ _ _ _ _ _ _ (_ :: _)
  refine h_zreturn C (by omega) hr hk dX9_asksMoor_12 ?_
  exact ⟨rfl, (fun j hj0 hj1 hj2 hj3 => ((hF2 j hj1).trans ((hF1 j hj0 hj2 hj3).trans rfl))), (fun i => ((fun i => (congrFun (hF2 196 (by decide)) i).trans ((fun i => ((fun i => (congrFun (hF1 196 (by decide) (by decide) (by decide)) i).trans ((fun i => (hz_196 i)) i)) i)) i)) i))⟩
abbrev rX9_asksDay : Room := { frames := 4, cells := 0, slots := 0, locals := 85 }
abbrev pX9_asksDay (z : Nat) (σ : hpMem) (d : Int) : Option Value → hpMem → Prop := fun r τ => r = some (.int (hpI 0)) ∧ (∀ j : Nat, j ≠ 195 → j ≠ 202 → j ≠ 203 → j ≠ 204 → τ j = σ j) ∧ (∀ i : Nat, τ 196 i = 0)
set_option maxHeartbeats 4000000 in
set_option maxRecDepth 20000 in
theorem tX9_asksDay (l : Launch) (D : va_G) (cy : Nat → ClassId) (z : Nat) (σ : hpMem) (d : Int) (hd : hpR d) (hz_196 : ∀ i : Nat, σ 196 i = 0) : hpM l D cy z yX9_asksDay cX9_asksDay 2 (some .boolean) rX9_asksDay [.ref (z + 195), .int (hpI d)] σ (pX9_asksDay z σ d) := by
  obtain ⟨hd1, hd2⟩ := hd
  refine hp_met rfl (Nat.le_of_ble_eq_true rfl) (fun p e s m below meth c C hr hk => ?_)
  refine h_aload_n C dX9_asksDay_0 0 rfl rfl ?_
  refine h_callV (As := []) (rest := []) C yyX9_asksMoor wd_1516 (tX9_asksMoor l D cy z _ (fun i => (hz_196 i))) kd_195 rfl rfl ⟨rfl, rfl, Nat.le_of_ble_eq_true rfl, Nat.le_of_ble_eq_true rfl⟩ ⟨Nat.le_of_ble_eq_true rfl, Nat.le_of_ble_eq_true rfl⟩ (Nat.le_of_ble_eq_true rfl) dX9_asksDay_1 (fun r1 τ1 hp1 => ?_)
  obtain ⟨rfl, hF1, hw1_0⟩ := hp1
  show hpV _ _ _ _ _ _ _ _ _ _ _ _ _ _ _ _ _ _ _ _ _ (_ :: _)
  refine h_pop C rfl dX9_asksDay_4 ?_
  refine h_aload_n C dX9_asksDay_5 0 rfl rfl ?_
  refine h_iload_n C dX9_asksDay_6 1 rfl rfl ?_
  refine h_i2l C dX9_asksDay_7 ⟨by omega, by omega⟩ ?_
  refine h_callV (As := [.long (hpJ d)]) (rest := []) C yyX9_isDay wd_1575 (tX9_isDay l D cy z _ d ⟨by omega, by omega⟩ (fun i => (hw1_0 i))) kd_195 rfl rfl ⟨rfl, rfl, Nat.le_of_ble_eq_true rfl, Nat.le_of_ble_eq_true rfl⟩ ⟨Nat.le_of_ble_eq_true rfl, Nat.le_of_ble_eq_true rfl⟩ (Nat.le_of_ble_eq_true rfl) dX9_asksDay_8 (fun r2 τ2 hp2 => ?_)
  obtain ⟨rfl, rfl⟩ := hp2
  show hpV _ _ _ _ _ _ _ _ _ _ _ _ _ _ _ _ _ _ _ _ _ (_ :: _)
  refine h_zreturn C (by omega) hr hk dX9_asksDay_11 ?_
  exact ⟨rfl, (fun j hj0 hj1 hj2 hj3 => ((hF1 j hj0 hj1 hj2 hj3).trans rfl)), (fun i => (hw1_0 i))⟩
abbrev rX9_asksTaking : Room := { frames := 5, cells := 0, slots := 0, locals := 106 }
abbrev pX9_asksTaking (z : Nat) (σ : hpMem) (d : Int) (k : Int) : Option Value → hpMem → Prop := fun r τ => r = some (.int (hpI 0)) ∧ (∀ j : Nat, j ≠ 195 → j ≠ 202 → j ≠ 203 → j ≠ 204 → τ j = σ j)
set_option maxHeartbeats 4000000 in
set_option maxRecDepth 20000 in
theorem tX9_asksTaking (l : Launch) (D : va_G) (cy : Nat → ClassId) (z : Nat) (σ : hpMem) (d : Int) (hd : hpR d) (k : Int) (hk : hpR k) (hz_196 : ∀ i : Nat, σ 196 i = 0) : hpM l D cy z yX9_asksTaking cX9_asksTaking 3 (some .boolean) rX9_asksTaking [.ref (z + 195), .int (hpI d), .int (hpI k)] σ (pX9_asksTaking z σ d k) := by
  obtain ⟨hd1, hd2⟩ := hd
  obtain ⟨hk1, hk2⟩ := hk
  refine hp_met rfl (Nat.le_of_ble_eq_true rfl) (fun p e s m below meth c C hr hk => ?_)
  refine h_aload_n C dX9_asksTaking_0 0 rfl rfl ?_
  refine h_iload_n C dX9_asksTaking_1 1 rfl rfl ?_
  refine h_callV (As := [.int (hpI d)]) (rest := []) C yyX9_asksDay wd_1512 (tX9_asksDay l D cy z _ d ⟨by omega, by omega⟩ (fun i => (hz_196 i))) kd_195 rfl rfl ⟨rfl, rfl, Nat.le_of_ble_eq_true rfl, Nat.le_of_ble_eq_true rfl⟩ ⟨Nat.le_of_ble_eq_true rfl, Nat.le_of_ble_eq_true rfl⟩ (Nat.le_of_ble_eq_true rfl) dX9_asksTaking_2 (fun r1 τ1 hp1 => ?_)
  obtain ⟨rfl, hF1, hw1_0⟩ := hp1
  show hpV _ _ _ _ _ _ _ _ _ _ _ _ _ _ _ _ _ _ _ _ _ (_ :: _)
  refine h_if_eq (tgt := 24) C dX9_asksTaking_5 (by decide) ⟨by decide, by decide⟩ (fun h2 => ?_) (fun h2 => ?_)
  · refine h_iconst C dX9_asksTaking_24 ?_
    refine h_zreturn C (by omega) hr hk dX9_asksTaking_25 ?_
    exact ⟨rfl, (fun j hj0 hj1 hj2 hj3 => ((hF1 j hj0 hj1 hj2 hj3).trans rfl))⟩
  · exfalso; omega
abbrev rX9_asksAll : Room := { frames := 1, cells := 0, slots := 0, locals := 21 }
abbrev pX9_asksAll (z : Nat) (σ : hpMem) (n : Int) : Option Value → hpMem → Prop := fun r τ => r = some (.int (hpI 0)) ∧ (∀ j : Nat, j ≠ 195 → j ≠ 203 → j ≠ 204 → τ j = σ j)
set_option maxHeartbeats 4000000 in
set_option maxRecDepth 20000 in
theorem tX9_asksAll (l : Launch) (D : va_G) (cy : Nat → ClassId) (z : Nat) (σ : hpMem) (n : Int) (hn : hpR n) (hz_196 : ∀ i : Nat, σ 196 i = 0) : hpM l D cy z yX9_asksAll cX9_asksAll 2 (some .boolean) rX9_asksAll [.ref (z + 195), .int (hpI n)] σ (pX9_asksAll z σ n) := by
  obtain ⟨hn1, hn2⟩ := hn
  refine hp_met rfl (Nat.le_of_ble_eq_true rfl) (fun p e s m below meth c C hr hk => ?_)
  refine h_aload_n C dX9_asksAll_0 0 rfl rfl ?_
  refine h_callV (As := []) (rest := []) C yyX9_asItIs wd_1520 (tX9_asItIs l D cy z _ (fun i => (hz_196 i))) kd_195 rfl rfl ⟨rfl, rfl, Nat.le_of_ble_eq_true rfl, Nat.le_of_ble_eq_true rfl⟩ ⟨Nat.le_of_ble_eq_true rfl, Nat.le_of_ble_eq_true rfl⟩ (Nat.le_of_ble_eq_true rfl) dX9_asksAll_1 (fun r1 τ1 hp1 => ?_)
  obtain ⟨rfl, hF1, hc1_0⟩ := hp1
  show hpV _ _ _ _ _ _ _ _ _ _ _ _ _ _ _ _ _ _ _ _ _ []
  refine h_aload_n C dX9_asksAll_4 0 rfl rfl ?_
  refine h_callV (As := []) (rest := []) C yyX9_isMoor wd_1571 (tX9_isMoor l D cy z _ (fun i => ((fun i => (congrFun (hF1 196 (by decide) (by decide) (by decide)) i).trans ((fun i => (hz_196 i)) i)) i))) kd_195 rfl rfl ⟨rfl, rfl, Nat.le_of_ble_eq_true rfl, Nat.le_of_ble_eq_true rfl⟩ ⟨Nat.le_of_ble_eq_true rfl, Nat.le_of_ble_eq_true rfl⟩ (Nat.le_of_ble_eq_true rfl) dX9_asksAll_5 (fun r2 τ2 hp2 => ?_)
  obtain ⟨rfl, rfl⟩ := hp2
  show hpV _ _ _ _ _ _ _ _ _ _ _ _ _ _ _ _ _ _ _ _ _ (_ :: _)
  refine h_if_eq (tgt := 23) C dX9_asksAll_8 (by decide) ⟨by decide, by decide⟩ (fun h3 => ?_) (fun h3 => ?_)
  · refine h_iconst C dX9_asksAll_23 ?_
    refine h_zreturn C (by omega) hr hk dX9_asksAll_24 ?_
    exact ⟨rfl, (fun j hj0 hj1 hj2 => ((hF1 j hj0 hj1 hj2).trans rfl))⟩
  · exfalso; omega
abbrev rX9_askRow : Room := { frames := 2, cells := 0, slots := 0, locals := 45 }
abbrev pX9_askRow (z : Nat) (σ : hpMem) (n : Int) : Option Value → hpMem → Prop := fun r τ => r = some (.int (hpI (-2))) ∧ σ = τ
set_option maxHeartbeats 4000000 in
set_option maxRecDepth 20000 in
theorem tX9_askRow (l : Launch) (D : va_G) (cy : Nat → ClassId) (z : Nat) (σ : hpMem) (n : Int) (hn : hpR n) (hz_196 : ∀ i : Nat, σ 196 i = 0) : hpM l D cy z yX9_askRow cX9_askRow 6 (some .int) rX9_askRow [.ref (z + 195), .int (hpI n)] σ (pX9_askRow z σ n) := by
  obtain ⟨hn1, hn2⟩ := hn
  refine hp_met rfl (Nat.le_of_ble_eq_true rfl) (fun p e s m below meth c C hr hk => ?_)
  refine h_iload_n C dX9_askRow_0 1 rfl rfl ?_
  refine h_callS (As := [.int (hpI n)]) (rest := []) C yyX9_isSlot rfl wd_1779 (tX9_isSlot l D cy z _ n ⟨by omega, by omega⟩) rfl rfl ⟨rfl, rfl, Nat.le_of_ble_eq_true rfl, Nat.le_of_ble_eq_true rfl⟩ ⟨Nat.le_of_ble_eq_true rfl, Nat.le_of_ble_eq_true rfl⟩ (Nat.le_of_ble_eq_true rfl) dX9_askRow_1 (fun r1 τ1 hp1 => ?_)
  obtain ⟨⟨x1, rfl, ⟨hx1a, hx1b⟩, hx1⟩, rfl⟩ := hp1
  show hpV _ _ _ _ _ _ _ _ _ _ _ _ _ _ _ _ _ _ _ _ _ (_ :: _)
  refine h_if_eq (tgt := 14) C dX9_askRow_4 (by decide) ⟨by omega, by omega⟩ (fun h2 => ?_) (fun h2 => ?_)
  · refine h_bipush C dX9_askRow_14 (by decide) ?_
    refine h_ireturn C hr hk dX9_askRow_16 ?_
    exact ⟨rfl, rfl⟩
  · refine h_aload_n C dX9_askRow_7 0 rfl rfl ?_
    refine h_callV (As := []) (rest := []) C yyX9_isMoor wd_1571 (tX9_isMoor l D cy z _ (fun i => (hz_196 i))) kd_195 rfl rfl ⟨rfl, rfl, Nat.le_of_ble_eq_true rfl, Nat.le_of_ble_eq_true rfl⟩ ⟨Nat.le_of_ble_eq_true rfl, Nat.le_of_ble_eq_true rfl⟩ (Nat.le_of_ble_eq_true rfl) dX9_askRow_8 (fun r3 τ3 hp3 => ?_)
    obtain ⟨rfl, rfl⟩ := hp3
    show hpV _ _ _ _ _ _ _ _ _ _ _ _ _ _ _ _ _ _ _ _ _ (_ :: _)
    refine h_if_ne (tgt := 17) C dX9_askRow_11 (by decide) ⟨by decide, by decide⟩ (fun h4 => ?_) (fun h4 => ?_)
    · exfalso; omega
    · refine h_bipush C dX9_askRow_14 (by decide) ?_
      refine h_ireturn C hr hk dX9_askRow_16 ?_
      exact ⟨rfl, rfl⟩
abbrev rX9_askSeen : Room := { frames := 2, cells := 0, slots := 0, locals := 45 }
abbrev pX9_askSeen (z : Nat) (σ : hpMem) (n : Int) : Option Value → hpMem → Prop := fun r τ => r = some (.int (hpI (-2))) ∧ σ = τ
set_option maxHeartbeats 4000000 in
set_option maxRecDepth 20000 in
theorem tX9_askSeen (l : Launch) (D : va_G) (cy : Nat → ClassId) (z : Nat) (σ : hpMem) (n : Int) (hn : hpR n) (hz_196 : ∀ i : Nat, σ 196 i = 0) : hpM l D cy z yX9_askSeen cX9_askSeen 3 (some .int) rX9_askSeen [.ref (z + 195), .int (hpI n)] σ (pX9_askSeen z σ n) := by
  obtain ⟨hn1, hn2⟩ := hn
  refine hp_met rfl (Nat.le_of_ble_eq_true rfl) (fun p e s m below meth c C hr hk => ?_)
  refine h_iload_n C dX9_askSeen_0 1 rfl rfl ?_
  refine h_callS (As := [.int (hpI n)]) (rest := []) C yyX9_isSlot rfl wd_1779 (tX9_isSlot l D cy z _ n ⟨by omega, by omega⟩) rfl rfl ⟨rfl, rfl, Nat.le_of_ble_eq_true rfl, Nat.le_of_ble_eq_true rfl⟩ ⟨Nat.le_of_ble_eq_true rfl, Nat.le_of_ble_eq_true rfl⟩ (Nat.le_of_ble_eq_true rfl) dX9_askSeen_1 (fun r1 τ1 hp1 => ?_)
  obtain ⟨⟨x1, rfl, ⟨hx1a, hx1b⟩, hx1⟩, rfl⟩ := hp1
  show hpV _ _ _ _ _ _ _ _ _ _ _ _ _ _ _ _ _ _ _ _ _ (_ :: _)
  refine h_if_eq (tgt := 14) C dX9_askSeen_4 (by decide) ⟨by omega, by omega⟩ (fun h2 => ?_) (fun h2 => ?_)
  · refine h_bipush C dX9_askSeen_14 (by decide) ?_
    refine h_ireturn C hr hk dX9_askSeen_16 ?_
    exact ⟨rfl, rfl⟩
  · refine h_aload_n C dX9_askSeen_7 0 rfl rfl ?_
    refine h_callV (As := []) (rest := []) C yyX9_isMoor wd_1571 (tX9_isMoor l D cy z _ (fun i => (hz_196 i))) kd_195 rfl rfl ⟨rfl, rfl, Nat.le_of_ble_eq_true rfl, Nat.le_of_ble_eq_true rfl⟩ ⟨Nat.le_of_ble_eq_true rfl, Nat.le_of_ble_eq_true rfl⟩ (Nat.le_of_ble_eq_true rfl) dX9_askSeen_8 (fun r3 τ3 hp3 => ?_)
    obtain ⟨rfl, rfl⟩ := hp3
    show hpV _ _ _ _ _ _ _ _ _ _ _ _ _ _ _ _ _ _ _ _ _ (_ :: _)
    refine h_if_ne (tgt := 17) C dX9_askSeen_11 (by decide) ⟨by decide, by decide⟩ (fun h4 => ?_) (fun h4 => ?_)
    · exfalso; omega
    · refine h_bipush C dX9_askSeen_14 (by decide) ?_
      refine h_ireturn C hr hk dX9_askSeen_16 ?_
      exact ⟨rfl, rfl⟩
abbrev rX9_layFits : Room := { frames := 2, cells := 0, slots := 0, locals := 46 }
abbrev pX9_layFits (z : Nat) (σ : hpMem) (n : Int) (k : Int) : Option Value → hpMem → Prop := fun r τ => r = some (.int (hpI (-2))) ∧ σ = τ
set_option maxHeartbeats 4000000 in
set_option maxRecDepth 20000 in
theorem tX9_layFits (l : Launch) (D : va_G) (cy : Nat → ClassId) (z : Nat) (σ : hpMem) (n : Int) (hn : hpR n) (k : Int) (hk : hpR k) (hz_196 : ∀ i : Nat, σ 196 i = 0) : hpM l D cy z yX9_layFits cX9_layFits 6 (some .int) rX9_layFits [.ref (z + 195), .int (hpI n), .int (hpI k)] σ (pX9_layFits z σ n k) := by
  obtain ⟨hn1, hn2⟩ := hn
  obtain ⟨hk1, hk2⟩ := hk
  refine hp_met rfl (Nat.le_of_ble_eq_true rfl) (fun p e s m below meth c C hr hk => ?_)
  refine h_aload_n C dX9_layFits_0 0 rfl rfl ?_
  refine h_iload_n C dX9_layFits_1 2 rfl rfl ?_
  refine h_callV (As := [.int (hpI k)]) (rest := []) C yyX9_isHeap wd_1492 (tX9_isHeap l D cy z _ k ⟨by omega, by omega⟩ (fun i => (hz_196 i))) kd_195 rfl rfl ⟨rfl, rfl, Nat.le_of_ble_eq_true rfl, Nat.le_of_ble_eq_true rfl⟩ ⟨Nat.le_of_ble_eq_true rfl, Nat.le_of_ble_eq_true rfl⟩ (Nat.le_of_ble_eq_true rfl) dX9_layFits_2 (fun r1 τ1 hp1 => ?_)
  obtain ⟨rfl, rfl⟩ := hp1
  show hpV _ _ _ _ _ _ _ _ _ _ _ _ _ _ _ _ _ _ _ _ _ (_ :: _)
  refine h_if_ne (tgt := 11) C dX9_layFits_5 (by decide) ⟨by decide, by decide⟩ (fun h2 => ?_) (fun h2 => ?_)
  · exfalso; omega
  · refine h_bipush C dX9_layFits_8 (by decide) ?_
    refine h_ireturn C hr hk dX9_layFits_10 ?_
    exact ⟨rfl, rfl⟩
abbrev rX9_areTwo : Room := { frames := 2, cells := 0, slots := 0, locals := 46 }
abbrev pX9_areTwo (z : Nat) (σ : hpMem) (a : Int) (b : Int) : Option Value → hpMem → Prop := fun r τ => r = some (.int (hpI 0)) ∧ σ = τ
set_option maxHeartbeats 4000000 in
set_option maxRecDepth 20000 in
theorem tX9_areTwo (l : Launch) (D : va_G) (cy : Nat → ClassId) (z : Nat) (σ : hpMem) (a : Int) (ha : hpR a) (b : Int) (hb : hpR b) (hz_196 : ∀ i : Nat, σ 196 i = 0) : hpM l D cy z yX9_areTwo cX9_areTwo 3 (some .boolean) rX9_areTwo [.ref (z + 195), .int (hpI a), .int (hpI b)] σ (pX9_areTwo z σ a b) := by
  obtain ⟨ha1, ha2⟩ := ha
  obtain ⟨hb1, hb2⟩ := hb
  refine hp_met rfl (Nat.le_of_ble_eq_true rfl) (fun p e s m below meth c C hr hk => ?_)
  refine h_aload_n C dX9_areTwo_0 0 rfl rfl ?_
  refine h_iload_n C dX9_areTwo_1 1 rfl rfl ?_
  refine h_callV (As := [.int (hpI a)]) (rest := []) C yyX9_isCart wd_1500 (tX9_isCart l D cy z _ a ⟨by omega, by omega⟩ (fun i => (hz_196 i))) kd_195 rfl rfl ⟨rfl, rfl, Nat.le_of_ble_eq_true rfl, Nat.le_of_ble_eq_true rfl⟩ ⟨Nat.le_of_ble_eq_true rfl, Nat.le_of_ble_eq_true rfl⟩ (Nat.le_of_ble_eq_true rfl) dX9_areTwo_2 (fun r1 τ1 hp1 => ?_)
  obtain ⟨rfl, rfl⟩ := hp1
  show hpV _ _ _ _ _ _ _ _ _ _ _ _ _ _ _ _ _ _ _ _ _ (_ :: _)
  refine h_if_eq (tgt := 25) C dX9_areTwo_5 (by decide) ⟨by decide, by decide⟩ (fun h2 => ?_) (fun h2 => ?_)
  · refine h_iconst C dX9_areTwo_25 ?_
    refine h_zreturn C (by omega) hr hk dX9_areTwo_26 ?_
    exact ⟨rfl, rfl⟩
  · exfalso; omega
abbrev rX9_isWet : Room := { frames := 2, cells := 0, slots := 0, locals := 42 }
abbrev pX9_isWet (z : Nat) (σ : hpMem) (a : Int) (b : Int) : Option Value → hpMem → Prop := fun r τ => r = some (.int (hpI 0)) ∧ σ = τ
set_option maxHeartbeats 4000000 in
set_option maxRecDepth 20000 in
theorem tX9_isWet (l : Launch) (D : va_G) (cy : Nat → ClassId) (z : Nat) (σ : hpMem) (a : Int) (ha : hpR a) (b : Int) (hb : hpR b) (hz_196 : ∀ i : Nat, σ 196 i = 0) : hpM l D cy z yX9_isWet cX9_isWet 3 (some .boolean) rX9_isWet [.ref (z + 195), .int (hpI a), .int (hpI b)] σ (pX9_isWet z σ a b) := by
  obtain ⟨ha1, ha2⟩ := ha
  obtain ⟨hb1, hb2⟩ := hb
  refine hp_met rfl (Nat.le_of_ble_eq_true rfl) (fun p e s m below meth c C hr hk => ?_)
  refine h_aload_n C dX9_isWet_0 0 rfl rfl ?_
  refine h_iload_n C dX9_isWet_1 1 rfl rfl ?_
  refine h_i2l C dX9_isWet_2 ⟨by omega, by omega⟩ ?_
  refine h_callV (As := [.long (hpJ a)]) (rest := []) C yyX9_isAhead wd_1612 (tX9_isAhead l D cy z _ a ⟨by omega, by omega⟩ (fun i => (hz_196 i))) kd_195 rfl rfl ⟨rfl, rfl, Nat.le_of_ble_eq_true rfl, Nat.le_of_ble_eq_true rfl⟩ ⟨Nat.le_of_ble_eq_true rfl, Nat.le_of_ble_eq_true rfl⟩ (Nat.le_of_ble_eq_true rfl) dX9_isWet_3 (fun r1 τ1 hp1 => ?_)
  obtain ⟨rfl, rfl⟩ := hp1
  show hpV _ _ _ _ _ _ _ _ _ _ _ _ _ _ _ _ _ _ _ _ _ (_ :: _)
  refine h_if_eq (tgt := 29) C dX9_isWet_6 (by decide) ⟨by decide, by decide⟩ (fun h2 => ?_) (fun h2 => ?_)
  · refine h_iconst C dX9_isWet_29 ?_
    refine h_zreturn C (by omega) hr hk dX9_isWet_30 ?_
    exact ⟨rfl, rfl⟩
  · exfalso; omega
abbrev rX9_see : Room := { frames := 0, cells := 0, slots := 0, locals := 0 }
abbrev pX9_see (z : Nat) (σ : hpMem) : Option Value → hpMem → Prop := fun r τ => r = some (.int (hpI (-1))) ∧ σ = τ
set_option maxHeartbeats 4000000 in
set_option maxRecDepth 20000 in
theorem tX9_see (l : Launch) (D : va_G) (cy : Nat → ClassId) (z : Nat) (σ : hpMem) (h_195_7 : σ 195 7 = 0) : hpM l D cy z yX9_see cX9_see 2 (some .int) rX9_see [.ref (z + 195), .int (hpI 0)] σ (pX9_see z σ) := by
  refine hp_met rfl (Nat.le_of_ble_eq_true rfl) (fun p e s m below meth c C hr hk => ?_)
  refine h_iload_n C dX9_see_0 1 rfl rfl ?_
  refine h_aload_n C dX9_see_1 0 rfl rfl ?_
  refine h_get C O9 7 kd_195 (by decide) wd_1263 dX9_see_2 (fi_195_7 h_195_7) ?_
  refine h_icmp_ge (tgt := 21) C dX9_see_5 (by decide) ⟨by decide, by decide⟩ ⟨by decide, by decide⟩ (fun h1 => ?_) (fun h1 => ?_)
  · refine h_iconst C dX9_see_21 ?_
    refine h_ireturn C hr hk dX9_see_22 ?_
    exact ⟨rfl, rfl⟩
  · exfalso; omega
abbrev rX9_good : Room := { frames := 0, cells := 0, slots := 0, locals := 0 }
abbrev pX9_good (z : Nat) (σ : hpMem) : Option Value → hpMem → Prop := fun r τ => r = some (.int (hpI 1)) ∧ σ = τ
set_option maxHeartbeats 4000000 in
set_option maxRecDepth 20000 in
theorem tX9_good (l : Launch) (D : va_G) (cy : Nat → ClassId) (z : Nat) (σ : hpMem) (h_195_12 : σ 195 12 = 0) : hpM l D cy z yX9_good cX9_good 1 (some .boolean) rX9_good [.ref (z + 195)] σ (pX9_good z σ) := by
  refine hp_met rfl (Nat.le_of_ble_eq_true rfl) (fun p e s m below meth c C hr hk => ?_)
  refine h_aload_n C dX9_good_0 0 rfl rfl ?_
  refine h_get C O9 12 kd_195 (by decide) wd_1268 dX9_good_1 (fi_195_12 h_195_12) ?_
  refine h_if_ne (tgt := 11) C dX9_good_4 (by decide) ⟨by decide, by decide⟩ (fun h1 => ?_) (fun h1 => ?_)
  · exfalso; omega
  · refine h_iconst C dX9_good_7 ?_
    refine h_goto (tgt := 12) C dX9_good_8 (by decide) ?_
    refine h_zreturn C (by omega) hr hk dX9_good_12 ?_
    exact ⟨rfl, rfl⟩
abbrev rX9_advance : Room := { frames := 1, cells := 0, slots := 0, locals := 21 }
abbrev pX9_advance (z : Nat) (σ : hpMem) : Option Value → hpMem → Prop := fun r τ => r = none ∧ (∀ j : Nat, j ≠ 195 → τ j = σ j) ∧ τ 195 10 = 0 ∧ τ 195 12 = 0
set_option maxHeartbeats 4000000 in
set_option maxRecDepth 20000 in
theorem tX9_advance (l : Launch) (D : va_G) (cy : Nat → ClassId) (z : Nat) (σ : hpMem) (h_195_7 : σ 195 7 = 0) (h_195_8 : σ 195 8 = 0) (h_195_12 : σ 195 12 = 0) : hpM l D cy z yX9_advance cX9_advance 2 none rX9_advance [.ref (z + 195)] σ (pX9_advance z σ) := by
  refine hp_met rfl (Nat.le_of_ble_eq_true rfl) (fun p e s m below meth c C hr hk => ?_)
  refine h_aload_n C dX9_advance_0 0 rfl rfl ?_
  refine h_aload_n C dX9_advance_1 0 rfl rfl ?_
  refine h_get C O9 8 kd_195 (by decide) wd_1264 dX9_advance_2 (fi_195_8 h_195_8) ?_
  refine h_callV (As := [.int (hpI 0)]) (rest := []) C yyX9_see wd_1428 (tX9_see l D cy z _ h_195_7) kd_195 rfl rfl ⟨rfl, rfl, Nat.le_of_ble_eq_true rfl, Nat.le_of_ble_eq_true rfl⟩ ⟨Nat.le_of_ble_eq_true rfl, Nat.le_of_ble_eq_true rfl⟩ (Nat.le_of_ble_eq_true rfl) dX9_advance_5 (fun r1 τ1 hp1 => ?_)
  obtain ⟨rfl, rfl⟩ := hp1
  show hpV _ _ _ _ _ _ _ _ _ _ _ _ _ _ _ _ _ _ _ _ _ (_ :: _)
  refine h_bipush C dX9_advance_8 (by decide) ?_
  refine h_icmp_eq (tgt := 26) C dX9_advance_10 (by decide) ⟨by decide, by decide⟩ ⟨by decide, by decide⟩ (fun h2 => ?_) (fun h2 => ?_)
  · exfalso; omega
  · refine h_aload_n C dX9_advance_13 0 rfl rfl ?_
    refine h_aload_n C dX9_advance_14 0 rfl rfl ?_
    refine h_get C O9 8 kd_195 (by decide) wd_1264 dX9_advance_15 (fi_195_8 h_195_8) ?_
    refine h_callV (As := [.int (hpI 0)]) (rest := []) C yyX9_see wd_1428 (tX9_see l D cy z _ h_195_7) kd_195 rfl rfl ⟨rfl, rfl, Nat.le_of_ble_eq_true rfl, Nat.le_of_ble_eq_true rfl⟩ ⟨Nat.le_of_ble_eq_true rfl, Nat.le_of_ble_eq_true rfl⟩ (Nat.le_of_ble_eq_true rfl) dX9_advance_18 (fun r3 τ3 hp3 => ?_)
    obtain ⟨rfl, rfl⟩ := hp3
    show hpV _ _ _ _ _ _ _ _ _ _ _ _ _ _ _ _ _ _ _ _ _ (_ :: _)
    refine h_bipush C dX9_advance_21 (by decide) ?_
    refine h_icmp_ne (tgt := 39) C dX9_advance_23 (by decide) ⟨by decide, by decide⟩ ⟨by decide, by decide⟩ (fun h4 => ?_) (fun h4 => ?_)
    · refine h_aload_n C dX9_advance_39 0 rfl rfl ?_
      refine h_aload_n C dX9_advance_40 0 rfl rfl ?_
      refine h_get C O9 8 kd_195 (by decide) wd_1264 dX9_advance_41 (fi_195_8 h_195_8) ?_
      refine h_put C O9 9 kd_195 (by decide) rfl wd_1265 dX9_advance_44 rfl rfl (fi_195_9 hpu_at) ?_
      refine h_aload_n C dX9_advance_47 0 rfl rfl ?_
      refine h_aload_n C dX9_advance_48 0 rfl rfl ?_
      refine h_get C O9 8 kd_195 (by decide) wd_1264 dX9_advance_49 (fi_195_8 ((hpw_ni (by decide)).trans h_195_8)) ?_
      refine h_callV (As := [.int (hpI 0)]) (rest := []) C yyX9_see wd_1428 (tX9_see l D cy z _ ((hpw_ni (by decide)).trans h_195_7)) kd_195 rfl rfl ⟨rfl, rfl, Nat.le_of_ble_eq_true rfl, Nat.le_of_ble_eq_true rfl⟩ ⟨Nat.le_of_ble_eq_true rfl, Nat.le_of_ble_eq_true rfl⟩ (Nat.le_of_ble_eq_true rfl) dX9_advance_52 (fun r5 τ5 hp5 => ?_)
      obtain ⟨rfl, rfl⟩ := hp5
      show hpV _ _ _ _ _ _ _ _ _ _ _ _ _ _ _ _ _ _ _ _ _ (_ :: _)
      refine h_istore_n (lv' := [(1, .int (hpI (-1))), (0, .ref (z + 195))]) C dX9_advance_55 rfl (by decide) rfl ?_
      refine h_iload_n C dX9_advance_56 0 rfl rfl ?_
      refine h_iconst C dX9_advance_57 ?_
      refine h_icmp_ne (tgt := 69) C dX9_advance_58 (by decide) ⟨by decide, by decide⟩ ⟨by decide, by decide⟩ (fun h6 => ?_) (fun h6 => ?_)
      · exfalso; omega
      · refine h_aload_n C dX9_advance_61 1 rfl rfl ?_
        refine h_iconst C dX9_advance_62 ?_
        refine h_put C O9 10 kd_195 (by decide) rfl wd_1266 dX9_advance_63 rfl rfl (fi_195_10 hpu_at) ?_
        refine h_goto (tgt := 239) C dX9_advance_66 (by decide) ?_
        refine h_return C hr hk dX9_advance_239 ?_
        exact ⟨rfl, (fun j hj0 => ((hpw_ne hj0).trans ((hpw_ne hj0).trans rfl))), hpw_eq, ((hpw_ni (by decide)).trans ((hpw_ni (by decide)).trans h_195_12))⟩
    · exfalso; omega
abbrev rX9_feed : Room := { frames := 0, cells := 0, slots := 0, locals := 0 }
abbrev pX9_feed (z : Nat) (σ : hpMem) (a : Int) (b : Int) (c0 : Int) (d0 : Int) (e0 : Int) : Option Value → hpMem → Prop := fun r τ => r = some (.int (hpI 20)) ∧ (∀ j : Nat, j ≠ 195 → j ≠ 199 → j ≠ 200 → τ j = σ j)
set_option maxHeartbeats 4000000 in
set_option maxRecDepth 20000 in
theorem tX9_feed (l : Launch) (D : va_G) (cy : Nat → ClassId) (z : Nat) (σ : hpMem) (a : Int) (ha : hpR a) (b : Int) (hb : hpR b) (c0 : Int) (hc0 : hpR c0) (d0 : Int) (hd0 : hpR d0) (e0 : Int) (he0 : hpR e0) (h_195_5 : σ 195 5 = 0) : hpM l D cy z yX9_feed cX9_feed 7 (some .int) rX9_feed [.ref (z + 195), .int (hpI a), .int (hpI b), .int (hpI c0), .int (hpI d0), .int (hpI e0)] σ (pX9_feed z σ a b c0 d0 e0) := by
  obtain ⟨ha1, ha2⟩ := ha
  obtain ⟨hb1, hb2⟩ := hb
  obtain ⟨hc01, hc02⟩ := hc0
  obtain ⟨hd01, hd02⟩ := hd0
  obtain ⟨he01, he02⟩ := he0
  refine hp_met rfl (Nat.le_of_ble_eq_true rfl) (fun p e s m below meth c C hr hk => ?_)
  refine h_aload_n C dX9_feed_0 0 rfl rfl ?_
  refine h_get C O9 5 kd_195 (by decide) wd_1261 dX9_feed_1 (fi_195_5 h_195_5) ?_
  refine h_bipush C dX9_feed_4 (by decide) ?_
  refine h_iadd (r := 20) C dX9_feed_6 (by decide) ?_
  refine h_sipush C dX9_feed_7 (by decide) ?_
  refine h_icmp_le (tgt := 15) C dX9_feed_10 (by decide) ⟨by decide, by decide⟩ ⟨by decide, by decide⟩ (fun h1 => ?_) (fun h1 => ?_)
  · refine h_aload_n C dX9_feed_15 0 rfl rfl ?_
    refine h_get C O9 6 kd_195 (by decide) wd_1262 dX9_feed_16 fr_195_6 ?_
    refine h_iconst C dX9_feed_19 ?_
    refine h_iload_n C dX9_feed_20 1 rfl rfl ?_
    refine h_iastore C dX9_feed_21 kd_200 0 rfl (by rw [ln_200]; decide) ?_
    refine h_aload_n C dX9_feed_22 0 rfl rfl ?_
    refine h_get C O9 6 kd_195 (by decide) wd_1262 dX9_feed_23 fr_195_6 ?_
    refine h_iconst C dX9_feed_26 ?_
    refine h_iload_n C dX9_feed_27 2 rfl rfl ?_
    refine h_iastore C dX9_feed_28 kd_200 1 rfl (by rw [ln_200]; decide) ?_
    refine h_aload_n C dX9_feed_29 0 rfl rfl ?_
    refine h_get C O9 6 kd_195 (by decide) wd_1262 dX9_feed_30 fr_195_6 ?_
    refine h_iconst C dX9_feed_33 ?_
    refine h_iload_n C dX9_feed_34 3 rfl rfl ?_
    refine h_iastore C dX9_feed_35 kd_200 2 rfl (by rw [ln_200]; decide) ?_
    refine h_aload_n C dX9_feed_36 0 rfl rfl ?_
    refine h_get C O9 6 kd_195 (by decide) wd_1262 dX9_feed_37 fr_195_6 ?_
    refine h_iconst C dX9_feed_40 ?_
    refine h_iload C dX9_feed_41 4 rfl ?_
    refine h_iastore C dX9_feed_43 kd_200 3 rfl (by rw [ln_200]; decide) ?_
    refine h_aload_n C dX9_feed_44 0 rfl rfl ?_
    refine h_get C O9 6 kd_195 (by decide) wd_1262 dX9_feed_45 fr_195_6 ?_
    refine h_iconst C dX9_feed_48 ?_
    refine h_iload C dX9_feed_49 5 rfl ?_
    refine h_iastore C dX9_feed_51 kd_200 4 rfl (by rw [ln_200]; decide) ?_
    refine h_iconst C dX9_feed_52 ?_
    refine h_istore (lv' := [(6, .int (hpI 0)), (0, .ref (z + 195)), (1, .int (hpI a)), (2, .int (hpI b)), (3, .int (hpI c0)), (4, .int (hpI d0)), (5, .int (hpI e0))]) C dX9_feed_53 (by decide) rfl ?_
    refine h_iload C dX9_feed_55 0 rfl ?_
    refine h_bipush C dX9_feed_57 (by decide) ?_
    refine h_icmp_ge (tgt := 101) C dX9_feed_59 (by decide) ⟨by decide, by decide⟩ ⟨by decide, by decide⟩ (fun h2 => ?_) (fun h2 => ?_)
    · exfalso; omega
    · refine h_aload_n C dX9_feed_62 1 rfl rfl ?_
      refine h_get C O9 4 kd_195 (by decide) wd_1260 dX9_feed_63 fr_195_4 ?_
      refine h_aload_n C dX9_feed_66 1 rfl rfl ?_
      refine h_get C O9 5 kd_195 (by decide) wd_1261 dX9_feed_67 (fi_195_5 ((hpw_nk (by decide)).trans ((hpw_nk (by decide)).trans ((hpw_nk (by decide)).trans ((hpw_nk (by decide)).trans ((hpw_nk (by decide)).trans h_195_5)))))) ?_
      refine h_iload C dX9_feed_70 0 rfl ?_
      refine h_iadd (r := 0) C dX9_feed_72 (by decide) ?_
      refine h_aload_n C dX9_feed_73 1 rfl rfl ?_
      refine h_get C O9 6 kd_195 (by decide) wd_1262 dX9_feed_74 fr_195_6 ?_
      refine h_iload C dX9_feed_77 0 rfl ?_
      refine h_iconst C dX9_feed_79 ?_
      refine h_idiv C dX9_feed_80 (by decide) (by decide) (by decide) (by decide) ?_
      rw [show ((0 : Int) / 4) = 0 by decide]
      refine h_iaload C dX9_feed_81 kd_200 0 rfl (by rw [ln_200]; decide) ((hpw_ni (by decide)).trans ((hpw_ni (by decide)).trans ((hpw_ni (by decide)).trans ((hpw_ni (by decide)).trans hpw_eq)))) ?_
      refine h_bipush C dX9_feed_82 (by decide) ?_
      refine h_bipush C dX9_feed_84 (by decide) ?_
      refine h_iload C dX9_feed_86 0 rfl ?_
      refine h_iconst C dX9_feed_88 ?_
      refine h_irem C dX9_feed_89 (by decide) (by decide) (by decide) (by decide) ?_
      rw [show ((0 : Int) % 4) = 0 by decide]
      refine h_imul (r := 0) C dX9_feed_90 (by decide) ?_
      refine h_isub (r := 24) C dX9_feed_91 (by decide) ?_
      refine h_ishr_any C dX9_feed_92 (fun r3 hr3 => ?_)
      obtain ⟨hr3a, hr3b⟩ := hr3
      refine h_i2b C dX9_feed_93 (fun r4 hr4a hr4b => ?_)
      refine h_bastore C dX9_feed_94 kd_199 (by omega) (by omega) 0 rfl (by rw [ln_199]; decide) ?_
      refine h_iinc (lv' := [(6, .int (hpI 1)), (0, .ref (z + 195)), (1, .int (hpI a)), (2, .int (hpI b)), (3, .int (hpI c0)), (4, .int (hpI d0)), (5, .int (hpI e0))]) C dX9_feed_95 0 rfl rfl (by decide) rfl ?_
      refine h_goto (tgt := 55) C dX9_feed_98 (by decide) ?_
      refine h_iload C dX9_feed_55 0 rfl ?_
      refine h_bipush C dX9_feed_57 (by decide) ?_
      refine h_icmp_ge (tgt := 101) C dX9_feed_59 (by decide) ⟨by decide, by decide⟩ ⟨by decide, by decide⟩ (fun h5 => ?_) (fun h5 => ?_)
      · exfalso; omega
      · refine h_aload_n C dX9_feed_62 1 rfl rfl ?_
        refine h_get C O9 4 kd_195 (by decide) wd_1260 dX9_feed_63 fr_195_4 ?_
        refine h_aload_n C dX9_feed_66 1 rfl rfl ?_
        refine h_get C O9 5 kd_195 (by decide) wd_1261 dX9_feed_67 (fi_195_5 ((hpw_nk (by decide)).trans ((hpw_nk (by decide)).trans ((hpw_nk (by decide)).trans ((hpw_nk (by decide)).trans ((hpw_nk (by decide)).trans ((hpw_nk (by decide)).trans h_195_5))))))) ?_
        refine h_iload C dX9_feed_70 0 rfl ?_
        refine h_iadd (r := 1) C dX9_feed_72 (by decide) ?_
        refine h_aload_n C dX9_feed_73 1 rfl rfl ?_
        refine h_get C O9 6 kd_195 (by decide) wd_1262 dX9_feed_74 fr_195_6 ?_
        refine h_iload C dX9_feed_77 0 rfl ?_
        refine h_iconst C dX9_feed_79 ?_
        refine h_idiv C dX9_feed_80 (by decide) (by decide) (by decide) (by decide) ?_
        rw [show ((1 : Int) / 4) = 0 by decide]
        refine h_iaload C dX9_feed_81 kd_200 0 rfl (by rw [ln_200]; decide) ((hpw_nk (by decide)).trans ((hpw_ni (by decide)).trans ((hpw_ni (by decide)).trans ((hpw_ni (by decide)).trans ((hpw_ni (by decide)).trans hpw_eq))))) ?_
        refine h_bipush C dX9_feed_82 (by decide) ?_
        refine h_bipush C dX9_feed_84 (by decide) ?_
        refine h_iload C dX9_feed_86 0 rfl ?_
        refine h_iconst C dX9_feed_88 ?_
        refine h_irem C dX9_feed_89 (by decide) (by decide) (by decide) (by decide) ?_
        rw [show ((1 : Int) % 4) = 1 by decide]
        refine h_imul (r := 8) C dX9_feed_90 (by decide) ?_
        refine h_isub (r := 16) C dX9_feed_91 (by decide) ?_
        refine h_ishr_any C dX9_feed_92 (fun r6 hr6 => ?_)
        obtain ⟨hr6a, hr6b⟩ := hr6
        refine h_i2b C dX9_feed_93 (fun r7 hr7a hr7b => ?_)
        refine h_bastore C dX9_feed_94 kd_199 (by omega) (by omega) 1 rfl (by rw [ln_199]; decide) ?_
        refine h_iinc (lv' := [(6, .int (hpI 2)), (0, .ref (z + 195)), (1, .int (hpI a)), (2, .int (hpI b)), (3, .int (hpI c0)), (4, .int (hpI d0)), (5, .int (hpI e0))]) C dX9_feed_95 0 rfl rfl (by decide) rfl ?_
        refine h_goto (tgt := 55) C dX9_feed_98 (by decide) ?_
        refine h_iload C dX9_feed_55 0 rfl ?_
        refine h_bipush C dX9_feed_57 (by decide) ?_
        refine h_icmp_ge (tgt := 101) C dX9_feed_59 (by decide) ⟨by decide, by decide⟩ ⟨by decide, by decide⟩ (fun h8 => ?_) (fun h8 => ?_)
        · exfalso; omega
        · refine h_aload_n C dX9_feed_62 1 rfl rfl ?_
          refine h_get C O9 4 kd_195 (by decide) wd_1260 dX9_feed_63 fr_195_4 ?_
          refine h_aload_n C dX9_feed_66 1 rfl rfl ?_
          refine h_get C O9 5 kd_195 (by decide) wd_1261 dX9_feed_67 (fi_195_5 ((hpw_nk (by decide)).trans ((hpw_nk (by decide)).trans ((hpw_nk (by decide)).trans ((hpw_nk (by decide)).trans ((hpw_nk (by decide)).trans ((hpw_nk (by decide)).trans ((hpw_nk (by decide)).trans h_195_5)))))))) ?_
          refine h_iload C dX9_feed_70 0 rfl ?_
          refine h_iadd (r := 2) C dX9_feed_72 (by decide) ?_
          refine h_aload_n C dX9_feed_73 1 rfl rfl ?_
          refine h_get C O9 6 kd_195 (by decide) wd_1262 dX9_feed_74 fr_195_6 ?_
          refine h_iload C dX9_feed_77 0 rfl ?_
          refine h_iconst C dX9_feed_79 ?_
          refine h_idiv C dX9_feed_80 (by decide) (by decide) (by decide) (by decide) ?_
          rw [show ((2 : Int) / 4) = 0 by decide]
          refine h_iaload C dX9_feed_81 kd_200 0 rfl (by rw [ln_200]; decide) ((hpw_nk (by decide)).trans ((hpw_nk (by decide)).trans ((hpw_ni (by decide)).trans ((hpw_ni (by decide)).trans ((hpw_ni (by decide)).trans ((hpw_ni (by decide)).trans hpw_eq)))))) ?_
          refine h_bipush C dX9_feed_82 (by decide) ?_
          refine h_bipush C dX9_feed_84 (by decide) ?_
          refine h_iload C dX9_feed_86 0 rfl ?_
          refine h_iconst C dX9_feed_88 ?_
          refine h_irem C dX9_feed_89 (by decide) (by decide) (by decide) (by decide) ?_
          rw [show ((2 : Int) % 4) = 2 by decide]
          refine h_imul (r := 16) C dX9_feed_90 (by decide) ?_
          refine h_isub (r := 8) C dX9_feed_91 (by decide) ?_
          refine h_ishr_any C dX9_feed_92 (fun r9 hr9 => ?_)
          obtain ⟨hr9a, hr9b⟩ := hr9
          refine h_i2b C dX9_feed_93 (fun r10 hr10a hr10b => ?_)
          refine h_bastore C dX9_feed_94 kd_199 (by omega) (by omega) 2 rfl (by rw [ln_199]; decide) ?_
          refine h_iinc (lv' := [(6, .int (hpI 3)), (0, .ref (z + 195)), (1, .int (hpI a)), (2, .int (hpI b)), (3, .int (hpI c0)), (4, .int (hpI d0)), (5, .int (hpI e0))]) C dX9_feed_95 0 rfl rfl (by decide) rfl ?_
          refine h_goto (tgt := 55) C dX9_feed_98 (by decide) ?_
          refine h_iload C dX9_feed_55 0 rfl ?_
          refine h_bipush C dX9_feed_57 (by decide) ?_
          refine h_icmp_ge (tgt := 101) C dX9_feed_59 (by decide) ⟨by decide, by decide⟩ ⟨by decide, by decide⟩ (fun h11 => ?_) (fun h11 => ?_)
          · exfalso; omega
          · refine h_aload_n C dX9_feed_62 1 rfl rfl ?_
            refine h_get C O9 4 kd_195 (by decide) wd_1260 dX9_feed_63 fr_195_4 ?_
            refine h_aload_n C dX9_feed_66 1 rfl rfl ?_
            refine h_get C O9 5 kd_195 (by decide) wd_1261 dX9_feed_67 (fi_195_5 ((hpw_nk (by decide)).trans ((hpw_nk (by decide)).trans ((hpw_nk (by decide)).trans ((hpw_nk (by decide)).trans ((hpw_nk (by decide)).trans ((hpw_nk (by decide)).trans ((hpw_nk (by decide)).trans ((hpw_nk (by decide)).trans h_195_5))))))))) ?_
            refine h_iload C dX9_feed_70 0 rfl ?_
            refine h_iadd (r := 3) C dX9_feed_72 (by decide) ?_
            refine h_aload_n C dX9_feed_73 1 rfl rfl ?_
            refine h_get C O9 6 kd_195 (by decide) wd_1262 dX9_feed_74 fr_195_6 ?_
            refine h_iload C dX9_feed_77 0 rfl ?_
            refine h_iconst C dX9_feed_79 ?_
            refine h_idiv C dX9_feed_80 (by decide) (by decide) (by decide) (by decide) ?_
            rw [show ((3 : Int) / 4) = 0 by decide]
            refine h_iaload C dX9_feed_81 kd_200 0 rfl (by rw [ln_200]; decide) ((hpw_nk (by decide)).trans ((hpw_nk (by decide)).trans ((hpw_nk (by decide)).trans ((hpw_ni (by decide)).trans ((hpw_ni (by decide)).trans ((hpw_ni (by decide)).trans ((hpw_ni (by decide)).trans hpw_eq))))))) ?_
            refine h_bipush C dX9_feed_82 (by decide) ?_
            refine h_bipush C dX9_feed_84 (by decide) ?_
            refine h_iload C dX9_feed_86 0 rfl ?_
            refine h_iconst C dX9_feed_88 ?_
            refine h_irem C dX9_feed_89 (by decide) (by decide) (by decide) (by decide) ?_
            rw [show ((3 : Int) % 4) = 3 by decide]
            refine h_imul (r := 24) C dX9_feed_90 (by decide) ?_
            refine h_isub (r := 0) C dX9_feed_91 (by decide) ?_
            refine h_ishr_any C dX9_feed_92 (fun r12 hr12 => ?_)
            obtain ⟨hr12a, hr12b⟩ := hr12
            refine h_i2b C dX9_feed_93 (fun r13 hr13a hr13b => ?_)
            refine h_bastore C dX9_feed_94 kd_199 (by omega) (by omega) 3 rfl (by rw [ln_199]; decide) ?_
            refine h_iinc (lv' := [(6, .int (hpI 4)), (0, .ref (z + 195)), (1, .int (hpI a)), (2, .int (hpI b)), (3, .int (hpI c0)), (4, .int (hpI d0)), (5, .int (hpI e0))]) C dX9_feed_95 0 rfl rfl (by decide) rfl ?_
            refine h_goto (tgt := 55) C dX9_feed_98 (by decide) ?_
            refine h_iload C dX9_feed_55 0 rfl ?_
            refine h_bipush C dX9_feed_57 (by decide) ?_
            refine h_icmp_ge (tgt := 101) C dX9_feed_59 (by decide) ⟨by decide, by decide⟩ ⟨by decide, by decide⟩ (fun h14 => ?_) (fun h14 => ?_)
            · exfalso; omega
            · refine h_aload_n C dX9_feed_62 1 rfl rfl ?_
              refine h_get C O9 4 kd_195 (by decide) wd_1260 dX9_feed_63 fr_195_4 ?_
              refine h_aload_n C dX9_feed_66 1 rfl rfl ?_
              refine h_get C O9 5 kd_195 (by decide) wd_1261 dX9_feed_67 (fi_195_5 ((hpw_nk (by decide)).trans ((hpw_nk (by decide)).trans ((hpw_nk (by decide)).trans ((hpw_nk (by decide)).trans ((hpw_nk (by decide)).trans ((hpw_nk (by decide)).trans ((hpw_nk (by decide)).trans ((hpw_nk (by decide)).trans ((hpw_nk (by decide)).trans h_195_5)))))))))) ?_
              refine h_iload C dX9_feed_70 0 rfl ?_
              refine h_iadd (r := 4) C dX9_feed_72 (by decide) ?_
              refine h_aload_n C dX9_feed_73 1 rfl rfl ?_
              refine h_get C O9 6 kd_195 (by decide) wd_1262 dX9_feed_74 fr_195_6 ?_
              refine h_iload C dX9_feed_77 0 rfl ?_
              refine h_iconst C dX9_feed_79 ?_
              refine h_idiv C dX9_feed_80 (by decide) (by decide) (by decide) (by decide) ?_
              rw [show ((4 : Int) / 4) = 1 by decide]
              refine h_iaload C dX9_feed_81 kd_200 1 rfl (by rw [ln_200]; decide) ((hpw_nk (by decide)).trans ((hpw_nk (by decide)).trans ((hpw_nk (by decide)).trans ((hpw_nk (by decide)).trans ((hpw_ni (by decide)).trans ((hpw_ni (by decide)).trans ((hpw_ni (by decide)).trans hpw_eq))))))) ?_
              refine h_bipush C dX9_feed_82 (by decide) ?_
              refine h_bipush C dX9_feed_84 (by decide) ?_
              refine h_iload C dX9_feed_86 0 rfl ?_
              refine h_iconst C dX9_feed_88 ?_
              refine h_irem C dX9_feed_89 (by decide) (by decide) (by decide) (by decide) ?_
              rw [show ((4 : Int) % 4) = 0 by decide]
              refine h_imul (r := 0) C dX9_feed_90 (by decide) ?_
              refine h_isub (r := 24) C dX9_feed_91 (by decide) ?_
              refine h_ishr_any C dX9_feed_92 (fun r15 hr15 => ?_)
              obtain ⟨hr15a, hr15b⟩ := hr15
              refine h_i2b C dX9_feed_93 (fun r16 hr16a hr16b => ?_)
              refine h_bastore C dX9_feed_94 kd_199 (by omega) (by omega) 4 rfl (by rw [ln_199]; decide) ?_
              refine h_iinc (lv' := [(6, .int (hpI 5)), (0, .ref (z + 195)), (1, .int (hpI a)), (2, .int (hpI b)), (3, .int (hpI c0)), (4, .int (hpI d0)), (5, .int (hpI e0))]) C dX9_feed_95 0 rfl rfl (by decide) rfl ?_
              refine h_goto (tgt := 55) C dX9_feed_98 (by decide) ?_
              refine h_iload C dX9_feed_55 0 rfl ?_
              refine h_bipush C dX9_feed_57 (by decide) ?_
              refine h_icmp_ge (tgt := 101) C dX9_feed_59 (by decide) ⟨by decide, by decide⟩ ⟨by decide, by decide⟩ (fun h17 => ?_) (fun h17 => ?_)
              · exfalso; omega
              · refine h_aload_n C dX9_feed_62 1 rfl rfl ?_
                refine h_get C O9 4 kd_195 (by decide) wd_1260 dX9_feed_63 fr_195_4 ?_
                refine h_aload_n C dX9_feed_66 1 rfl rfl ?_
                refine h_get C O9 5 kd_195 (by decide) wd_1261 dX9_feed_67 (fi_195_5 ((hpw_nk (by decide)).trans ((hpw_nk (by decide)).trans ((hpw_nk (by decide)).trans ((hpw_nk (by decide)).trans ((hpw_nk (by decide)).trans ((hpw_nk (by decide)).trans ((hpw_nk (by decide)).trans ((hpw_nk (by decide)).trans ((hpw_nk (by decide)).trans ((hpw_nk (by decide)).trans h_195_5))))))))))) ?_
                refine h_iload C dX9_feed_70 0 rfl ?_
                refine h_iadd (r := 5) C dX9_feed_72 (by decide) ?_
                refine h_aload_n C dX9_feed_73 1 rfl rfl ?_
                refine h_get C O9 6 kd_195 (by decide) wd_1262 dX9_feed_74 fr_195_6 ?_
                refine h_iload C dX9_feed_77 0 rfl ?_
                refine h_iconst C dX9_feed_79 ?_
                refine h_idiv C dX9_feed_80 (by decide) (by decide) (by decide) (by decide) ?_
                rw [show ((5 : Int) / 4) = 1 by decide]
                refine h_iaload C dX9_feed_81 kd_200 1 rfl (by rw [ln_200]; decide) ((hpw_nk (by decide)).trans ((hpw_nk (by decide)).trans ((hpw_nk (by decide)).trans ((hpw_nk (by decide)).trans ((hpw_nk (by decide)).trans ((hpw_ni (by decide)).trans ((hpw_ni (by decide)).trans ((hpw_ni (by decide)).trans hpw_eq)))))))) ?_
                refine h_bipush C dX9_feed_82 (by decide) ?_
                refine h_bipush C dX9_feed_84 (by decide) ?_
                refine h_iload C dX9_feed_86 0 rfl ?_
                refine h_iconst C dX9_feed_88 ?_
                refine h_irem C dX9_feed_89 (by decide) (by decide) (by decide) (by decide) ?_
                rw [show ((5 : Int) % 4) = 1 by decide]
                refine h_imul (r := 8) C dX9_feed_90 (by decide) ?_
                refine h_isub (r := 16) C dX9_feed_91 (by decide) ?_
                refine h_ishr_any C dX9_feed_92 (fun r18 hr18 => ?_)
                obtain ⟨hr18a, hr18b⟩ := hr18
                refine h_i2b C dX9_feed_93 (fun r19 hr19a hr19b => ?_)
                refine h_bastore C dX9_feed_94 kd_199 (by omega) (by omega) 5 rfl (by rw [ln_199]; decide) ?_
                refine h_iinc (lv' := [(6, .int (hpI 6)), (0, .ref (z + 195)), (1, .int (hpI a)), (2, .int (hpI b)), (3, .int (hpI c0)), (4, .int (hpI d0)), (5, .int (hpI e0))]) C dX9_feed_95 0 rfl rfl (by decide) rfl ?_
                refine h_goto (tgt := 55) C dX9_feed_98 (by decide) ?_
                refine h_iload C dX9_feed_55 0 rfl ?_
                refine h_bipush C dX9_feed_57 (by decide) ?_
                refine h_icmp_ge (tgt := 101) C dX9_feed_59 (by decide) ⟨by decide, by decide⟩ ⟨by decide, by decide⟩ (fun h20 => ?_) (fun h20 => ?_)
                · exfalso; omega
                · refine h_aload_n C dX9_feed_62 1 rfl rfl ?_
                  refine h_get C O9 4 kd_195 (by decide) wd_1260 dX9_feed_63 fr_195_4 ?_
                  refine h_aload_n C dX9_feed_66 1 rfl rfl ?_
                  refine h_get C O9 5 kd_195 (by decide) wd_1261 dX9_feed_67 (fi_195_5 ((hpw_nk (by decide)).trans ((hpw_nk (by decide)).trans ((hpw_nk (by decide)).trans ((hpw_nk (by decide)).trans ((hpw_nk (by decide)).trans ((hpw_nk (by decide)).trans ((hpw_nk (by decide)).trans ((hpw_nk (by decide)).trans ((hpw_nk (by decide)).trans ((hpw_nk (by decide)).trans ((hpw_nk (by decide)).trans h_195_5)))))))))))) ?_
                  refine h_iload C dX9_feed_70 0 rfl ?_
                  refine h_iadd (r := 6) C dX9_feed_72 (by decide) ?_
                  refine h_aload_n C dX9_feed_73 1 rfl rfl ?_
                  refine h_get C O9 6 kd_195 (by decide) wd_1262 dX9_feed_74 fr_195_6 ?_
                  refine h_iload C dX9_feed_77 0 rfl ?_
                  refine h_iconst C dX9_feed_79 ?_
                  refine h_idiv C dX9_feed_80 (by decide) (by decide) (by decide) (by decide) ?_
                  rw [show ((6 : Int) / 4) = 1 by decide]
                  refine h_iaload C dX9_feed_81 kd_200 1 rfl (by rw [ln_200]; decide) ((hpw_nk (by decide)).trans ((hpw_nk (by decide)).trans ((hpw_nk (by decide)).trans ((hpw_nk (by decide)).trans ((hpw_nk (by decide)).trans ((hpw_nk (by decide)).trans ((hpw_ni (by decide)).trans ((hpw_ni (by decide)).trans ((hpw_ni (by decide)).trans hpw_eq))))))))) ?_
                  refine h_bipush C dX9_feed_82 (by decide) ?_
                  refine h_bipush C dX9_feed_84 (by decide) ?_
                  refine h_iload C dX9_feed_86 0 rfl ?_
                  refine h_iconst C dX9_feed_88 ?_
                  refine h_irem C dX9_feed_89 (by decide) (by decide) (by decide) (by decide) ?_
                  rw [show ((6 : Int) % 4) = 2 by decide]
                  refine h_imul (r := 16) C dX9_feed_90 (by decide) ?_
                  refine h_isub (r := 8) C dX9_feed_91 (by decide) ?_
                  refine h_ishr_any C dX9_feed_92 (fun r21 hr21 => ?_)
                  obtain ⟨hr21a, hr21b⟩ := hr21
                  refine h_i2b C dX9_feed_93 (fun r22 hr22a hr22b => ?_)
                  refine h_bastore C dX9_feed_94 kd_199 (by omega) (by omega) 6 rfl (by rw [ln_199]; decide) ?_
                  refine h_iinc (lv' := [(6, .int (hpI 7)), (0, .ref (z + 195)), (1, .int (hpI a)), (2, .int (hpI b)), (3, .int (hpI c0)), (4, .int (hpI d0)), (5, .int (hpI e0))]) C dX9_feed_95 0 rfl rfl (by decide) rfl ?_
                  refine h_goto (tgt := 55) C dX9_feed_98 (by decide) ?_
                  refine h_iload C dX9_feed_55 0 rfl ?_
                  refine h_bipush C dX9_feed_57 (by decide) ?_
                  refine h_icmp_ge (tgt := 101) C dX9_feed_59 (by decide) ⟨by decide, by decide⟩ ⟨by decide, by decide⟩ (fun h23 => ?_) (fun h23 => ?_)
                  · exfalso; omega
                  · refine h_aload_n C dX9_feed_62 1 rfl rfl ?_
                    refine h_get C O9 4 kd_195 (by decide) wd_1260 dX9_feed_63 fr_195_4 ?_
                    refine h_aload_n C dX9_feed_66 1 rfl rfl ?_
                    refine h_get C O9 5 kd_195 (by decide) wd_1261 dX9_feed_67 (fi_195_5 ((hpw_nk (by decide)).trans ((hpw_nk (by decide)).trans ((hpw_nk (by decide)).trans ((hpw_nk (by decide)).trans ((hpw_nk (by decide)).trans ((hpw_nk (by decide)).trans ((hpw_nk (by decide)).trans ((hpw_nk (by decide)).trans ((hpw_nk (by decide)).trans ((hpw_nk (by decide)).trans ((hpw_nk (by decide)).trans ((hpw_nk (by decide)).trans h_195_5))))))))))))) ?_
                    refine h_iload C dX9_feed_70 0 rfl ?_
                    refine h_iadd (r := 7) C dX9_feed_72 (by decide) ?_
                    refine h_aload_n C dX9_feed_73 1 rfl rfl ?_
                    refine h_get C O9 6 kd_195 (by decide) wd_1262 dX9_feed_74 fr_195_6 ?_
                    refine h_iload C dX9_feed_77 0 rfl ?_
                    refine h_iconst C dX9_feed_79 ?_
                    refine h_idiv C dX9_feed_80 (by decide) (by decide) (by decide) (by decide) ?_
                    rw [show ((7 : Int) / 4) = 1 by decide]
                    refine h_iaload C dX9_feed_81 kd_200 1 rfl (by rw [ln_200]; decide) ((hpw_nk (by decide)).trans ((hpw_nk (by decide)).trans ((hpw_nk (by decide)).trans ((hpw_nk (by decide)).trans ((hpw_nk (by decide)).trans ((hpw_nk (by decide)).trans ((hpw_nk (by decide)).trans ((hpw_ni (by decide)).trans ((hpw_ni (by decide)).trans ((hpw_ni (by decide)).trans hpw_eq)))))))))) ?_
                    refine h_bipush C dX9_feed_82 (by decide) ?_
                    refine h_bipush C dX9_feed_84 (by decide) ?_
                    refine h_iload C dX9_feed_86 0 rfl ?_
                    refine h_iconst C dX9_feed_88 ?_
                    refine h_irem C dX9_feed_89 (by decide) (by decide) (by decide) (by decide) ?_
                    rw [show ((7 : Int) % 4) = 3 by decide]
                    refine h_imul (r := 24) C dX9_feed_90 (by decide) ?_
                    refine h_isub (r := 0) C dX9_feed_91 (by decide) ?_
                    refine h_ishr_any C dX9_feed_92 (fun r24 hr24 => ?_)
                    obtain ⟨hr24a, hr24b⟩ := hr24
                    refine h_i2b C dX9_feed_93 (fun r25 hr25a hr25b => ?_)
                    refine h_bastore C dX9_feed_94 kd_199 (by omega) (by omega) 7 rfl (by rw [ln_199]; decide) ?_
                    refine h_iinc (lv' := [(6, .int (hpI 8)), (0, .ref (z + 195)), (1, .int (hpI a)), (2, .int (hpI b)), (3, .int (hpI c0)), (4, .int (hpI d0)), (5, .int (hpI e0))]) C dX9_feed_95 0 rfl rfl (by decide) rfl ?_
                    refine h_goto (tgt := 55) C dX9_feed_98 (by decide) ?_
                    refine h_iload C dX9_feed_55 0 rfl ?_
                    refine h_bipush C dX9_feed_57 (by decide) ?_
                    refine h_icmp_ge (tgt := 101) C dX9_feed_59 (by decide) ⟨by decide, by decide⟩ ⟨by decide, by decide⟩ (fun h26 => ?_) (fun h26 => ?_)
                    · exfalso; omega
                    · refine h_aload_n C dX9_feed_62 1 rfl rfl ?_
                      refine h_get C O9 4 kd_195 (by decide) wd_1260 dX9_feed_63 fr_195_4 ?_
                      refine h_aload_n C dX9_feed_66 1 rfl rfl ?_
                      refine h_get C O9 5 kd_195 (by decide) wd_1261 dX9_feed_67 (fi_195_5 ((hpw_nk (by decide)).trans ((hpw_nk (by decide)).trans ((hpw_nk (by decide)).trans ((hpw_nk (by decide)).trans ((hpw_nk (by decide)).trans ((hpw_nk (by decide)).trans ((hpw_nk (by decide)).trans ((hpw_nk (by decide)).trans ((hpw_nk (by decide)).trans ((hpw_nk (by decide)).trans ((hpw_nk (by decide)).trans ((hpw_nk (by decide)).trans ((hpw_nk (by decide)).trans h_195_5)))))))))))))) ?_
                      refine h_iload C dX9_feed_70 0 rfl ?_
                      refine h_iadd (r := 8) C dX9_feed_72 (by decide) ?_
                      refine h_aload_n C dX9_feed_73 1 rfl rfl ?_
                      refine h_get C O9 6 kd_195 (by decide) wd_1262 dX9_feed_74 fr_195_6 ?_
                      refine h_iload C dX9_feed_77 0 rfl ?_
                      refine h_iconst C dX9_feed_79 ?_
                      refine h_idiv C dX9_feed_80 (by decide) (by decide) (by decide) (by decide) ?_
                      rw [show ((8 : Int) / 4) = 2 by decide]
                      refine h_iaload C dX9_feed_81 kd_200 2 rfl (by rw [ln_200]; decide) ((hpw_nk (by decide)).trans ((hpw_nk (by decide)).trans ((hpw_nk (by decide)).trans ((hpw_nk (by decide)).trans ((hpw_nk (by decide)).trans ((hpw_nk (by decide)).trans ((hpw_nk (by decide)).trans ((hpw_nk (by decide)).trans ((hpw_ni (by decide)).trans ((hpw_ni (by decide)).trans hpw_eq)))))))))) ?_
                      refine h_bipush C dX9_feed_82 (by decide) ?_
                      refine h_bipush C dX9_feed_84 (by decide) ?_
                      refine h_iload C dX9_feed_86 0 rfl ?_
                      refine h_iconst C dX9_feed_88 ?_
                      refine h_irem C dX9_feed_89 (by decide) (by decide) (by decide) (by decide) ?_
                      rw [show ((8 : Int) % 4) = 0 by decide]
                      refine h_imul (r := 0) C dX9_feed_90 (by decide) ?_
                      refine h_isub (r := 24) C dX9_feed_91 (by decide) ?_
                      refine h_ishr_any C dX9_feed_92 (fun r27 hr27 => ?_)
                      obtain ⟨hr27a, hr27b⟩ := hr27
                      refine h_i2b C dX9_feed_93 (fun r28 hr28a hr28b => ?_)
                      refine h_bastore C dX9_feed_94 kd_199 (by omega) (by omega) 8 rfl (by rw [ln_199]; decide) ?_
                      refine h_iinc (lv' := [(6, .int (hpI 9)), (0, .ref (z + 195)), (1, .int (hpI a)), (2, .int (hpI b)), (3, .int (hpI c0)), (4, .int (hpI d0)), (5, .int (hpI e0))]) C dX9_feed_95 0 rfl rfl (by decide) rfl ?_
                      refine h_goto (tgt := 55) C dX9_feed_98 (by decide) ?_
                      refine h_iload C dX9_feed_55 0 rfl ?_
                      refine h_bipush C dX9_feed_57 (by decide) ?_
                      refine h_icmp_ge (tgt := 101) C dX9_feed_59 (by decide) ⟨by decide, by decide⟩ ⟨by decide, by decide⟩ (fun h29 => ?_) (fun h29 => ?_)
                      · exfalso; omega
                      · refine h_aload_n C dX9_feed_62 1 rfl rfl ?_
                        refine h_get C O9 4 kd_195 (by decide) wd_1260 dX9_feed_63 fr_195_4 ?_
                        refine h_aload_n C dX9_feed_66 1 rfl rfl ?_
                        refine h_get C O9 5 kd_195 (by decide) wd_1261 dX9_feed_67 (fi_195_5 ((hpw_nk (by decide)).trans ((hpw_nk (by decide)).trans ((hpw_nk (by decide)).trans ((hpw_nk (by decide)).trans ((hpw_nk (by decide)).trans ((hpw_nk (by decide)).trans ((hpw_nk (by decide)).trans ((hpw_nk (by decide)).trans ((hpw_nk (by decide)).trans ((hpw_nk (by decide)).trans ((hpw_nk (by decide)).trans ((hpw_nk (by decide)).trans ((hpw_nk (by decide)).trans ((hpw_nk (by decide)).trans h_195_5))))))))))))))) ?_
                        refine h_iload C dX9_feed_70 0 rfl ?_
                        refine h_iadd (r := 9) C dX9_feed_72 (by decide) ?_
                        refine h_aload_n C dX9_feed_73 1 rfl rfl ?_
                        refine h_get C O9 6 kd_195 (by decide) wd_1262 dX9_feed_74 fr_195_6 ?_
                        refine h_iload C dX9_feed_77 0 rfl ?_
                        refine h_iconst C dX9_feed_79 ?_
                        refine h_idiv C dX9_feed_80 (by decide) (by decide) (by decide) (by decide) ?_
                        rw [show ((9 : Int) / 4) = 2 by decide]
                        refine h_iaload C dX9_feed_81 kd_200 2 rfl (by rw [ln_200]; decide) ((hpw_nk (by decide)).trans ((hpw_nk (by decide)).trans ((hpw_nk (by decide)).trans ((hpw_nk (by decide)).trans ((hpw_nk (by decide)).trans ((hpw_nk (by decide)).trans ((hpw_nk (by decide)).trans ((hpw_nk (by decide)).trans ((hpw_nk (by decide)).trans ((hpw_ni (by decide)).trans ((hpw_ni (by decide)).trans hpw_eq))))))))))) ?_
                        refine h_bipush C dX9_feed_82 (by decide) ?_
                        refine h_bipush C dX9_feed_84 (by decide) ?_
                        refine h_iload C dX9_feed_86 0 rfl ?_
                        refine h_iconst C dX9_feed_88 ?_
                        refine h_irem C dX9_feed_89 (by decide) (by decide) (by decide) (by decide) ?_
                        rw [show ((9 : Int) % 4) = 1 by decide]
                        refine h_imul (r := 8) C dX9_feed_90 (by decide) ?_
                        refine h_isub (r := 16) C dX9_feed_91 (by decide) ?_
                        refine h_ishr_any C dX9_feed_92 (fun r30 hr30 => ?_)
                        obtain ⟨hr30a, hr30b⟩ := hr30
                        refine h_i2b C dX9_feed_93 (fun r31 hr31a hr31b => ?_)
                        refine h_bastore C dX9_feed_94 kd_199 (by omega) (by omega) 9 rfl (by rw [ln_199]; decide) ?_
                        refine h_iinc (lv' := [(6, .int (hpI 10)), (0, .ref (z + 195)), (1, .int (hpI a)), (2, .int (hpI b)), (3, .int (hpI c0)), (4, .int (hpI d0)), (5, .int (hpI e0))]) C dX9_feed_95 0 rfl rfl (by decide) rfl ?_
                        refine h_goto (tgt := 55) C dX9_feed_98 (by decide) ?_
                        refine h_iload C dX9_feed_55 0 rfl ?_
                        refine h_bipush C dX9_feed_57 (by decide) ?_
                        refine h_icmp_ge (tgt := 101) C dX9_feed_59 (by decide) ⟨by decide, by decide⟩ ⟨by decide, by decide⟩ (fun h32 => ?_) (fun h32 => ?_)
                        · exfalso; omega
                        · refine h_aload_n C dX9_feed_62 1 rfl rfl ?_
                          refine h_get C O9 4 kd_195 (by decide) wd_1260 dX9_feed_63 fr_195_4 ?_
                          refine h_aload_n C dX9_feed_66 1 rfl rfl ?_
                          refine h_get C O9 5 kd_195 (by decide) wd_1261 dX9_feed_67 (fi_195_5 ((hpw_nk (by decide)).trans ((hpw_nk (by decide)).trans ((hpw_nk (by decide)).trans ((hpw_nk (by decide)).trans ((hpw_nk (by decide)).trans ((hpw_nk (by decide)).trans ((hpw_nk (by decide)).trans ((hpw_nk (by decide)).trans ((hpw_nk (by decide)).trans ((hpw_nk (by decide)).trans ((hpw_nk (by decide)).trans ((hpw_nk (by decide)).trans ((hpw_nk (by decide)).trans ((hpw_nk (by decide)).trans ((hpw_nk (by decide)).trans h_195_5)))))))))))))))) ?_
                          refine h_iload C dX9_feed_70 0 rfl ?_
                          refine h_iadd (r := 10) C dX9_feed_72 (by decide) ?_
                          refine h_aload_n C dX9_feed_73 1 rfl rfl ?_
                          refine h_get C O9 6 kd_195 (by decide) wd_1262 dX9_feed_74 fr_195_6 ?_
                          refine h_iload C dX9_feed_77 0 rfl ?_
                          refine h_iconst C dX9_feed_79 ?_
                          refine h_idiv C dX9_feed_80 (by decide) (by decide) (by decide) (by decide) ?_
                          rw [show ((10 : Int) / 4) = 2 by decide]
                          refine h_iaload C dX9_feed_81 kd_200 2 rfl (by rw [ln_200]; decide) ((hpw_nk (by decide)).trans ((hpw_nk (by decide)).trans ((hpw_nk (by decide)).trans ((hpw_nk (by decide)).trans ((hpw_nk (by decide)).trans ((hpw_nk (by decide)).trans ((hpw_nk (by decide)).trans ((hpw_nk (by decide)).trans ((hpw_nk (by decide)).trans ((hpw_nk (by decide)).trans ((hpw_ni (by decide)).trans ((hpw_ni (by decide)).trans hpw_eq)))))))))))) ?_
                          refine h_bipush C dX9_feed_82 (by decide) ?_
                          refine h_bipush C dX9_feed_84 (by decide) ?_
                          refine h_iload C dX9_feed_86 0 rfl ?_
                          refine h_iconst C dX9_feed_88 ?_
                          refine h_irem C dX9_feed_89 (by decide) (by decide) (by decide) (by decide) ?_
                          rw [show ((10 : Int) % 4) = 2 by decide]
                          refine h_imul (r := 16) C dX9_feed_90 (by decide) ?_
                          refine h_isub (r := 8) C dX9_feed_91 (by decide) ?_
                          refine h_ishr_any C dX9_feed_92 (fun r33 hr33 => ?_)
                          obtain ⟨hr33a, hr33b⟩ := hr33
                          refine h_i2b C dX9_feed_93 (fun r34 hr34a hr34b => ?_)
                          refine h_bastore C dX9_feed_94 kd_199 (by omega) (by omega) 10 rfl (by rw [ln_199]; decide) ?_
                          refine h_iinc (lv' := [(6, .int (hpI 11)), (0, .ref (z + 195)), (1, .int (hpI a)), (2, .int (hpI b)), (3, .int (hpI c0)), (4, .int (hpI d0)), (5, .int (hpI e0))]) C dX9_feed_95 0 rfl rfl (by decide) rfl ?_
                          refine h_goto (tgt := 55) C dX9_feed_98 (by decide) ?_
                          refine h_iload C dX9_feed_55 0 rfl ?_
                          refine h_bipush C dX9_feed_57 (by decide) ?_
                          refine h_icmp_ge (tgt := 101) C dX9_feed_59 (by decide) ⟨by decide, by decide⟩ ⟨by decide, by decide⟩ (fun h35 => ?_) (fun h35 => ?_)
                          · exfalso; omega
                          · refine h_aload_n C dX9_feed_62 1 rfl rfl ?_
                            refine h_get C O9 4 kd_195 (by decide) wd_1260 dX9_feed_63 fr_195_4 ?_
                            refine h_aload_n C dX9_feed_66 1 rfl rfl ?_
                            refine h_get C O9 5 kd_195 (by decide) wd_1261 dX9_feed_67 (fi_195_5 ((hpw_nk (by decide)).trans ((hpw_nk (by decide)).trans ((hpw_nk (by decide)).trans ((hpw_nk (by decide)).trans ((hpw_nk (by decide)).trans ((hpw_nk (by decide)).trans ((hpw_nk (by decide)).trans ((hpw_nk (by decide)).trans ((hpw_nk (by decide)).trans ((hpw_nk (by decide)).trans ((hpw_nk (by decide)).trans ((hpw_nk (by decide)).trans ((hpw_nk (by decide)).trans ((hpw_nk (by decide)).trans ((hpw_nk (by decide)).trans ((hpw_nk (by decide)).trans h_195_5))))))))))))))))) ?_
                            refine h_iload C dX9_feed_70 0 rfl ?_
                            refine h_iadd (r := 11) C dX9_feed_72 (by decide) ?_
                            refine h_aload_n C dX9_feed_73 1 rfl rfl ?_
                            refine h_get C O9 6 kd_195 (by decide) wd_1262 dX9_feed_74 fr_195_6 ?_
                            refine h_iload C dX9_feed_77 0 rfl ?_
                            refine h_iconst C dX9_feed_79 ?_
                            refine h_idiv C dX9_feed_80 (by decide) (by decide) (by decide) (by decide) ?_
                            rw [show ((11 : Int) / 4) = 2 by decide]
                            refine h_iaload C dX9_feed_81 kd_200 2 rfl (by rw [ln_200]; decide) ((hpw_nk (by decide)).trans ((hpw_nk (by decide)).trans ((hpw_nk (by decide)).trans ((hpw_nk (by decide)).trans ((hpw_nk (by decide)).trans ((hpw_nk (by decide)).trans ((hpw_nk (by decide)).trans ((hpw_nk (by decide)).trans ((hpw_nk (by decide)).trans ((hpw_nk (by decide)).trans ((hpw_nk (by decide)).trans ((hpw_ni (by decide)).trans ((hpw_ni (by decide)).trans hpw_eq))))))))))))) ?_
                            refine h_bipush C dX9_feed_82 (by decide) ?_
                            refine h_bipush C dX9_feed_84 (by decide) ?_
                            refine h_iload C dX9_feed_86 0 rfl ?_
                            refine h_iconst C dX9_feed_88 ?_
                            refine h_irem C dX9_feed_89 (by decide) (by decide) (by decide) (by decide) ?_
                            rw [show ((11 : Int) % 4) = 3 by decide]
                            refine h_imul (r := 24) C dX9_feed_90 (by decide) ?_
                            refine h_isub (r := 0) C dX9_feed_91 (by decide) ?_
                            refine h_ishr_any C dX9_feed_92 (fun r36 hr36 => ?_)
                            obtain ⟨hr36a, hr36b⟩ := hr36
                            refine h_i2b C dX9_feed_93 (fun r37 hr37a hr37b => ?_)
                            refine h_bastore C dX9_feed_94 kd_199 (by omega) (by omega) 11 rfl (by rw [ln_199]; decide) ?_
                            refine h_iinc (lv' := [(6, .int (hpI 12)), (0, .ref (z + 195)), (1, .int (hpI a)), (2, .int (hpI b)), (3, .int (hpI c0)), (4, .int (hpI d0)), (5, .int (hpI e0))]) C dX9_feed_95 0 rfl rfl (by decide) rfl ?_
                            refine h_goto (tgt := 55) C dX9_feed_98 (by decide) ?_
                            refine h_iload C dX9_feed_55 0 rfl ?_
                            refine h_bipush C dX9_feed_57 (by decide) ?_
                            refine h_icmp_ge (tgt := 101) C dX9_feed_59 (by decide) ⟨by decide, by decide⟩ ⟨by decide, by decide⟩ (fun h38 => ?_) (fun h38 => ?_)
                            · exfalso; omega
                            · refine h_aload_n C dX9_feed_62 1 rfl rfl ?_
                              refine h_get C O9 4 kd_195 (by decide) wd_1260 dX9_feed_63 fr_195_4 ?_
                              refine h_aload_n C dX9_feed_66 1 rfl rfl ?_
                              refine h_get C O9 5 kd_195 (by decide) wd_1261 dX9_feed_67 (fi_195_5 ((hpw_nk (by decide)).trans ((hpw_nk (by decide)).trans ((hpw_nk (by decide)).trans ((hpw_nk (by decide)).trans ((hpw_nk (by decide)).trans ((hpw_nk (by decide)).trans ((hpw_nk (by decide)).trans ((hpw_nk (by decide)).trans ((hpw_nk (by decide)).trans ((hpw_nk (by decide)).trans ((hpw_nk (by decide)).trans ((hpw_nk (by decide)).trans ((hpw_nk (by decide)).trans ((hpw_nk (by decide)).trans ((hpw_nk (by decide)).trans ((hpw_nk (by decide)).trans ((hpw_nk (by decide)).trans h_195_5)))))))))))))))))) ?_
                              refine h_iload C dX9_feed_70 0 rfl ?_
                              refine h_iadd (r := 12) C dX9_feed_72 (by decide) ?_
                              refine h_aload_n C dX9_feed_73 1 rfl rfl ?_
                              refine h_get C O9 6 kd_195 (by decide) wd_1262 dX9_feed_74 fr_195_6 ?_
                              refine h_iload C dX9_feed_77 0 rfl ?_
                              refine h_iconst C dX9_feed_79 ?_
                              refine h_idiv C dX9_feed_80 (by decide) (by decide) (by decide) (by decide) ?_
                              rw [show ((12 : Int) / 4) = 3 by decide]
                              refine h_iaload C dX9_feed_81 kd_200 3 rfl (by rw [ln_200]; decide) ((hpw_nk (by decide)).trans ((hpw_nk (by decide)).trans ((hpw_nk (by decide)).trans ((hpw_nk (by decide)).trans ((hpw_nk (by decide)).trans ((hpw_nk (by decide)).trans ((hpw_nk (by decide)).trans ((hpw_nk (by decide)).trans ((hpw_nk (by decide)).trans ((hpw_nk (by decide)).trans ((hpw_nk (by decide)).trans ((hpw_nk (by decide)).trans ((hpw_ni (by decide)).trans hpw_eq))))))))))))) ?_
                              refine h_bipush C dX9_feed_82 (by decide) ?_
                              refine h_bipush C dX9_feed_84 (by decide) ?_
                              refine h_iload C dX9_feed_86 0 rfl ?_
                              refine h_iconst C dX9_feed_88 ?_
                              refine h_irem C dX9_feed_89 (by decide) (by decide) (by decide) (by decide) ?_
                              rw [show ((12 : Int) % 4) = 0 by decide]
                              refine h_imul (r := 0) C dX9_feed_90 (by decide) ?_
                              refine h_isub (r := 24) C dX9_feed_91 (by decide) ?_
                              refine h_ishr_any C dX9_feed_92 (fun r39 hr39 => ?_)
                              obtain ⟨hr39a, hr39b⟩ := hr39
                              refine h_i2b C dX9_feed_93 (fun r40 hr40a hr40b => ?_)
                              refine h_bastore C dX9_feed_94 kd_199 (by omega) (by omega) 12 rfl (by rw [ln_199]; decide) ?_
                              refine h_iinc (lv' := [(6, .int (hpI 13)), (0, .ref (z + 195)), (1, .int (hpI a)), (2, .int (hpI b)), (3, .int (hpI c0)), (4, .int (hpI d0)), (5, .int (hpI e0))]) C dX9_feed_95 0 rfl rfl (by decide) rfl ?_
                              refine h_goto (tgt := 55) C dX9_feed_98 (by decide) ?_
                              refine h_iload C dX9_feed_55 0 rfl ?_
                              refine h_bipush C dX9_feed_57 (by decide) ?_
                              refine h_icmp_ge (tgt := 101) C dX9_feed_59 (by decide) ⟨by decide, by decide⟩ ⟨by decide, by decide⟩ (fun h41 => ?_) (fun h41 => ?_)
                              · exfalso; omega
                              · refine h_aload_n C dX9_feed_62 1 rfl rfl ?_
                                refine h_get C O9 4 kd_195 (by decide) wd_1260 dX9_feed_63 fr_195_4 ?_
                                refine h_aload_n C dX9_feed_66 1 rfl rfl ?_
                                refine h_get C O9 5 kd_195 (by decide) wd_1261 dX9_feed_67 (fi_195_5 ((hpw_nk (by decide)).trans ((hpw_nk (by decide)).trans ((hpw_nk (by decide)).trans ((hpw_nk (by decide)).trans ((hpw_nk (by decide)).trans ((hpw_nk (by decide)).trans ((hpw_nk (by decide)).trans ((hpw_nk (by decide)).trans ((hpw_nk (by decide)).trans ((hpw_nk (by decide)).trans ((hpw_nk (by decide)).trans ((hpw_nk (by decide)).trans ((hpw_nk (by decide)).trans ((hpw_nk (by decide)).trans ((hpw_nk (by decide)).trans ((hpw_nk (by decide)).trans ((hpw_nk (by decide)).trans ((hpw_nk (by decide)).trans h_195_5))))))))))))))))))) ?_
                                refine h_iload C dX9_feed_70 0 rfl ?_
                                refine h_iadd (r := 13) C dX9_feed_72 (by decide) ?_
                                refine h_aload_n C dX9_feed_73 1 rfl rfl ?_
                                refine h_get C O9 6 kd_195 (by decide) wd_1262 dX9_feed_74 fr_195_6 ?_
                                refine h_iload C dX9_feed_77 0 rfl ?_
                                refine h_iconst C dX9_feed_79 ?_
                                refine h_idiv C dX9_feed_80 (by decide) (by decide) (by decide) (by decide) ?_
                                rw [show ((13 : Int) / 4) = 3 by decide]
                                refine h_iaload C dX9_feed_81 kd_200 3 rfl (by rw [ln_200]; decide) ((hpw_nk (by decide)).trans ((hpw_nk (by decide)).trans ((hpw_nk (by decide)).trans ((hpw_nk (by decide)).trans ((hpw_nk (by decide)).trans ((hpw_nk (by decide)).trans ((hpw_nk (by decide)).trans ((hpw_nk (by decide)).trans ((hpw_nk (by decide)).trans ((hpw_nk (by decide)).trans ((hpw_nk (by decide)).trans ((hpw_nk (by decide)).trans ((hpw_nk (by decide)).trans ((hpw_ni (by decide)).trans hpw_eq)))))))))))))) ?_
                                refine h_bipush C dX9_feed_82 (by decide) ?_
                                refine h_bipush C dX9_feed_84 (by decide) ?_
                                refine h_iload C dX9_feed_86 0 rfl ?_
                                refine h_iconst C dX9_feed_88 ?_
                                refine h_irem C dX9_feed_89 (by decide) (by decide) (by decide) (by decide) ?_
                                rw [show ((13 : Int) % 4) = 1 by decide]
                                refine h_imul (r := 8) C dX9_feed_90 (by decide) ?_
                                refine h_isub (r := 16) C dX9_feed_91 (by decide) ?_
                                refine h_ishr_any C dX9_feed_92 (fun r42 hr42 => ?_)
                                obtain ⟨hr42a, hr42b⟩ := hr42
                                refine h_i2b C dX9_feed_93 (fun r43 hr43a hr43b => ?_)
                                refine h_bastore C dX9_feed_94 kd_199 (by omega) (by omega) 13 rfl (by rw [ln_199]; decide) ?_
                                refine h_iinc (lv' := [(6, .int (hpI 14)), (0, .ref (z + 195)), (1, .int (hpI a)), (2, .int (hpI b)), (3, .int (hpI c0)), (4, .int (hpI d0)), (5, .int (hpI e0))]) C dX9_feed_95 0 rfl rfl (by decide) rfl ?_
                                refine h_goto (tgt := 55) C dX9_feed_98 (by decide) ?_
                                refine h_iload C dX9_feed_55 0 rfl ?_
                                refine h_bipush C dX9_feed_57 (by decide) ?_
                                refine h_icmp_ge (tgt := 101) C dX9_feed_59 (by decide) ⟨by decide, by decide⟩ ⟨by decide, by decide⟩ (fun h44 => ?_) (fun h44 => ?_)
                                · exfalso; omega
                                · refine h_aload_n C dX9_feed_62 1 rfl rfl ?_
                                  refine h_get C O9 4 kd_195 (by decide) wd_1260 dX9_feed_63 fr_195_4 ?_
                                  refine h_aload_n C dX9_feed_66 1 rfl rfl ?_
                                  refine h_get C O9 5 kd_195 (by decide) wd_1261 dX9_feed_67 (fi_195_5 ((hpw_nk (by decide)).trans ((hpw_nk (by decide)).trans ((hpw_nk (by decide)).trans ((hpw_nk (by decide)).trans ((hpw_nk (by decide)).trans ((hpw_nk (by decide)).trans ((hpw_nk (by decide)).trans ((hpw_nk (by decide)).trans ((hpw_nk (by decide)).trans ((hpw_nk (by decide)).trans ((hpw_nk (by decide)).trans ((hpw_nk (by decide)).trans ((hpw_nk (by decide)).trans ((hpw_nk (by decide)).trans ((hpw_nk (by decide)).trans ((hpw_nk (by decide)).trans ((hpw_nk (by decide)).trans ((hpw_nk (by decide)).trans ((hpw_nk (by decide)).trans h_195_5)))))))))))))))))))) ?_
                                  refine h_iload C dX9_feed_70 0 rfl ?_
                                  refine h_iadd (r := 14) C dX9_feed_72 (by decide) ?_
                                  refine h_aload_n C dX9_feed_73 1 rfl rfl ?_
                                  refine h_get C O9 6 kd_195 (by decide) wd_1262 dX9_feed_74 fr_195_6 ?_
                                  refine h_iload C dX9_feed_77 0 rfl ?_
                                  refine h_iconst C dX9_feed_79 ?_
                                  refine h_idiv C dX9_feed_80 (by decide) (by decide) (by decide) (by decide) ?_
                                  rw [show ((14 : Int) / 4) = 3 by decide]
                                  refine h_iaload C dX9_feed_81 kd_200 3 rfl (by rw [ln_200]; decide) ((hpw_nk (by decide)).trans ((hpw_nk (by decide)).trans ((hpw_nk (by decide)).trans ((hpw_nk (by decide)).trans ((hpw_nk (by decide)).trans ((hpw_nk (by decide)).trans ((hpw_nk (by decide)).trans ((hpw_nk (by decide)).trans ((hpw_nk (by decide)).trans ((hpw_nk (by decide)).trans ((hpw_nk (by decide)).trans ((hpw_nk (by decide)).trans ((hpw_nk (by decide)).trans ((hpw_nk (by decide)).trans ((hpw_ni (by decide)).trans hpw_eq))))))))))))))) ?_
                                  refine h_bipush C dX9_feed_82 (by decide) ?_
                                  refine h_bipush C dX9_feed_84 (by decide) ?_
                                  refine h_iload C dX9_feed_86 0 rfl ?_
                                  refine h_iconst C dX9_feed_88 ?_
                                  refine h_irem C dX9_feed_89 (by decide) (by decide) (by decide) (by decide) ?_
                                  rw [show ((14 : Int) % 4) = 2 by decide]
                                  refine h_imul (r := 16) C dX9_feed_90 (by decide) ?_
                                  refine h_isub (r := 8) C dX9_feed_91 (by decide) ?_
                                  refine h_ishr_any C dX9_feed_92 (fun r45 hr45 => ?_)
                                  obtain ⟨hr45a, hr45b⟩ := hr45
                                  refine h_i2b C dX9_feed_93 (fun r46 hr46a hr46b => ?_)
                                  refine h_bastore C dX9_feed_94 kd_199 (by omega) (by omega) 14 rfl (by rw [ln_199]; decide) ?_
                                  refine h_iinc (lv' := [(6, .int (hpI 15)), (0, .ref (z + 195)), (1, .int (hpI a)), (2, .int (hpI b)), (3, .int (hpI c0)), (4, .int (hpI d0)), (5, .int (hpI e0))]) C dX9_feed_95 0 rfl rfl (by decide) rfl ?_
                                  refine h_goto (tgt := 55) C dX9_feed_98 (by decide) ?_
                                  refine h_iload C dX9_feed_55 0 rfl ?_
                                  refine h_bipush C dX9_feed_57 (by decide) ?_
                                  refine h_icmp_ge (tgt := 101) C dX9_feed_59 (by decide) ⟨by decide, by decide⟩ ⟨by decide, by decide⟩ (fun h47 => ?_) (fun h47 => ?_)
                                  · exfalso; omega
                                  · refine h_aload_n C dX9_feed_62 1 rfl rfl ?_
                                    refine h_get C O9 4 kd_195 (by decide) wd_1260 dX9_feed_63 fr_195_4 ?_
                                    refine h_aload_n C dX9_feed_66 1 rfl rfl ?_
                                    refine h_get C O9 5 kd_195 (by decide) wd_1261 dX9_feed_67 (fi_195_5 ((hpw_nk (by decide)).trans ((hpw_nk (by decide)).trans ((hpw_nk (by decide)).trans ((hpw_nk (by decide)).trans ((hpw_nk (by decide)).trans ((hpw_nk (by decide)).trans ((hpw_nk (by decide)).trans ((hpw_nk (by decide)).trans ((hpw_nk (by decide)).trans ((hpw_nk (by decide)).trans ((hpw_nk (by decide)).trans ((hpw_nk (by decide)).trans ((hpw_nk (by decide)).trans ((hpw_nk (by decide)).trans ((hpw_nk (by decide)).trans ((hpw_nk (by decide)).trans ((hpw_nk (by decide)).trans ((hpw_nk (by decide)).trans ((hpw_nk (by decide)).trans ((hpw_nk (by decide)).trans h_195_5))))))))))))))))))))) ?_
                                    refine h_iload C dX9_feed_70 0 rfl ?_
                                    refine h_iadd (r := 15) C dX9_feed_72 (by decide) ?_
                                    refine h_aload_n C dX9_feed_73 1 rfl rfl ?_
                                    refine h_get C O9 6 kd_195 (by decide) wd_1262 dX9_feed_74 fr_195_6 ?_
                                    refine h_iload C dX9_feed_77 0 rfl ?_
                                    refine h_iconst C dX9_feed_79 ?_
                                    refine h_idiv C dX9_feed_80 (by decide) (by decide) (by decide) (by decide) ?_
                                    rw [show ((15 : Int) / 4) = 3 by decide]
                                    refine h_iaload C dX9_feed_81 kd_200 3 rfl (by rw [ln_200]; decide) ((hpw_nk (by decide)).trans ((hpw_nk (by decide)).trans ((hpw_nk (by decide)).trans ((hpw_nk (by decide)).trans ((hpw_nk (by decide)).trans ((hpw_nk (by decide)).trans ((hpw_nk (by decide)).trans ((hpw_nk (by decide)).trans ((hpw_nk (by decide)).trans ((hpw_nk (by decide)).trans ((hpw_nk (by decide)).trans ((hpw_nk (by decide)).trans ((hpw_nk (by decide)).trans ((hpw_nk (by decide)).trans ((hpw_nk (by decide)).trans ((hpw_ni (by decide)).trans hpw_eq)))))))))))))))) ?_
                                    refine h_bipush C dX9_feed_82 (by decide) ?_
                                    refine h_bipush C dX9_feed_84 (by decide) ?_
                                    refine h_iload C dX9_feed_86 0 rfl ?_
                                    refine h_iconst C dX9_feed_88 ?_
                                    refine h_irem C dX9_feed_89 (by decide) (by decide) (by decide) (by decide) ?_
                                    rw [show ((15 : Int) % 4) = 3 by decide]
                                    refine h_imul (r := 24) C dX9_feed_90 (by decide) ?_
                                    refine h_isub (r := 0) C dX9_feed_91 (by decide) ?_
                                    refine h_ishr_any C dX9_feed_92 (fun r48 hr48 => ?_)
                                    obtain ⟨hr48a, hr48b⟩ := hr48
                                    refine h_i2b C dX9_feed_93 (fun r49 hr49a hr49b => ?_)
                                    refine h_bastore C dX9_feed_94 kd_199 (by omega) (by omega) 15 rfl (by rw [ln_199]; decide) ?_
                                    refine h_iinc (lv' := [(6, .int (hpI 16)), (0, .ref (z + 195)), (1, .int (hpI a)), (2, .int (hpI b)), (3, .int (hpI c0)), (4, .int (hpI d0)), (5, .int (hpI e0))]) C dX9_feed_95 0 rfl rfl (by decide) rfl ?_
                                    refine h_goto (tgt := 55) C dX9_feed_98 (by decide) ?_
                                    refine h_iload C dX9_feed_55 0 rfl ?_
                                    refine h_bipush C dX9_feed_57 (by decide) ?_
                                    refine h_icmp_ge (tgt := 101) C dX9_feed_59 (by decide) ⟨by decide, by decide⟩ ⟨by decide, by decide⟩ (fun h50 => ?_) (fun h50 => ?_)
                                    · exfalso; omega
                                    · refine h_aload_n C dX9_feed_62 1 rfl rfl ?_
                                      refine h_get C O9 4 kd_195 (by decide) wd_1260 dX9_feed_63 fr_195_4 ?_
                                      refine h_aload_n C dX9_feed_66 1 rfl rfl ?_
                                      refine h_get C O9 5 kd_195 (by decide) wd_1261 dX9_feed_67 (fi_195_5 ((hpw_nk (by decide)).trans ((hpw_nk (by decide)).trans ((hpw_nk (by decide)).trans ((hpw_nk (by decide)).trans ((hpw_nk (by decide)).trans ((hpw_nk (by decide)).trans ((hpw_nk (by decide)).trans ((hpw_nk (by decide)).trans ((hpw_nk (by decide)).trans ((hpw_nk (by decide)).trans ((hpw_nk (by decide)).trans ((hpw_nk (by decide)).trans ((hpw_nk (by decide)).trans ((hpw_nk (by decide)).trans ((hpw_nk (by decide)).trans ((hpw_nk (by decide)).trans ((hpw_nk (by decide)).trans ((hpw_nk (by decide)).trans ((hpw_nk (by decide)).trans ((hpw_nk (by decide)).trans ((hpw_nk (by decide)).trans h_195_5)))))))))))))))))))))) ?_
                                      refine h_iload C dX9_feed_70 0 rfl ?_
                                      refine h_iadd (r := 16) C dX9_feed_72 (by decide) ?_
                                      refine h_aload_n C dX9_feed_73 1 rfl rfl ?_
                                      refine h_get C O9 6 kd_195 (by decide) wd_1262 dX9_feed_74 fr_195_6 ?_
                                      refine h_iload C dX9_feed_77 0 rfl ?_
                                      refine h_iconst C dX9_feed_79 ?_
                                      refine h_idiv C dX9_feed_80 (by decide) (by decide) (by decide) (by decide) ?_
                                      rw [show ((16 : Int) / 4) = 4 by decide]
                                      refine h_iaload C dX9_feed_81 kd_200 4 rfl (by rw [ln_200]; decide) ((hpw_nk (by decide)).trans ((hpw_nk (by decide)).trans ((hpw_nk (by decide)).trans ((hpw_nk (by decide)).trans ((hpw_nk (by decide)).trans ((hpw_nk (by decide)).trans ((hpw_nk (by decide)).trans ((hpw_nk (by decide)).trans ((hpw_nk (by decide)).trans ((hpw_nk (by decide)).trans ((hpw_nk (by decide)).trans ((hpw_nk (by decide)).trans ((hpw_nk (by decide)).trans ((hpw_nk (by decide)).trans ((hpw_nk (by decide)).trans ((hpw_nk (by decide)).trans hpw_eq)))))))))))))))) ?_
                                      refine h_bipush C dX9_feed_82 (by decide) ?_
                                      refine h_bipush C dX9_feed_84 (by decide) ?_
                                      refine h_iload C dX9_feed_86 0 rfl ?_
                                      refine h_iconst C dX9_feed_88 ?_
                                      refine h_irem C dX9_feed_89 (by decide) (by decide) (by decide) (by decide) ?_
                                      rw [show ((16 : Int) % 4) = 0 by decide]
                                      refine h_imul (r := 0) C dX9_feed_90 (by decide) ?_
                                      refine h_isub (r := 24) C dX9_feed_91 (by decide) ?_
                                      refine h_ishr_any C dX9_feed_92 (fun r51 hr51 => ?_)
                                      obtain ⟨hr51a, hr51b⟩ := hr51
                                      refine h_i2b C dX9_feed_93 (fun r52 hr52a hr52b => ?_)
                                      refine h_bastore C dX9_feed_94 kd_199 (by omega) (by omega) 16 rfl (by rw [ln_199]; decide) ?_
                                      refine h_iinc (lv' := [(6, .int (hpI 17)), (0, .ref (z + 195)), (1, .int (hpI a)), (2, .int (hpI b)), (3, .int (hpI c0)), (4, .int (hpI d0)), (5, .int (hpI e0))]) C dX9_feed_95 0 rfl rfl (by decide) rfl ?_
                                      refine h_goto (tgt := 55) C dX9_feed_98 (by decide) ?_
                                      refine h_iload C dX9_feed_55 0 rfl ?_
                                      refine h_bipush C dX9_feed_57 (by decide) ?_
                                      refine h_icmp_ge (tgt := 101) C dX9_feed_59 (by decide) ⟨by decide, by decide⟩ ⟨by decide, by decide⟩ (fun h53 => ?_) (fun h53 => ?_)
                                      · exfalso; omega
                                      · refine h_aload_n C dX9_feed_62 1 rfl rfl ?_
                                        refine h_get C O9 4 kd_195 (by decide) wd_1260 dX9_feed_63 fr_195_4 ?_
                                        refine h_aload_n C dX9_feed_66 1 rfl rfl ?_
                                        refine h_get C O9 5 kd_195 (by decide) wd_1261 dX9_feed_67 (fi_195_5 ((hpw_nk (by decide)).trans ((hpw_nk (by decide)).trans ((hpw_nk (by decide)).trans ((hpw_nk (by decide)).trans ((hpw_nk (by decide)).trans ((hpw_nk (by decide)).trans ((hpw_nk (by decide)).trans ((hpw_nk (by decide)).trans ((hpw_nk (by decide)).trans ((hpw_nk (by decide)).trans ((hpw_nk (by decide)).trans ((hpw_nk (by decide)).trans ((hpw_nk (by decide)).trans ((hpw_nk (by decide)).trans ((hpw_nk (by decide)).trans ((hpw_nk (by decide)).trans ((hpw_nk (by decide)).trans ((hpw_nk (by decide)).trans ((hpw_nk (by decide)).trans ((hpw_nk (by decide)).trans ((hpw_nk (by decide)).trans ((hpw_nk (by decide)).trans h_195_5))))))))))))))))))))))) ?_
                                        refine h_iload C dX9_feed_70 0 rfl ?_
                                        refine h_iadd (r := 17) C dX9_feed_72 (by decide) ?_
                                        refine h_aload_n C dX9_feed_73 1 rfl rfl ?_
                                        refine h_get C O9 6 kd_195 (by decide) wd_1262 dX9_feed_74 fr_195_6 ?_
                                        refine h_iload C dX9_feed_77 0 rfl ?_
                                        refine h_iconst C dX9_feed_79 ?_
                                        refine h_idiv C dX9_feed_80 (by decide) (by decide) (by decide) (by decide) ?_
                                        rw [show ((17 : Int) / 4) = 4 by decide]
                                        refine h_iaload C dX9_feed_81 kd_200 4 rfl (by rw [ln_200]; decide) ((hpw_nk (by decide)).trans ((hpw_nk (by decide)).trans ((hpw_nk (by decide)).trans ((hpw_nk (by decide)).trans ((hpw_nk (by decide)).trans ((hpw_nk (by decide)).trans ((hpw_nk (by decide)).trans ((hpw_nk (by decide)).trans ((hpw_nk (by decide)).trans ((hpw_nk (by decide)).trans ((hpw_nk (by decide)).trans ((hpw_nk (by decide)).trans ((hpw_nk (by decide)).trans ((hpw_nk (by decide)).trans ((hpw_nk (by decide)).trans ((hpw_nk (by decide)).trans ((hpw_nk (by decide)).trans hpw_eq))))))))))))))))) ?_
                                        refine h_bipush C dX9_feed_82 (by decide) ?_
                                        refine h_bipush C dX9_feed_84 (by decide) ?_
                                        refine h_iload C dX9_feed_86 0 rfl ?_
                                        refine h_iconst C dX9_feed_88 ?_
                                        refine h_irem C dX9_feed_89 (by decide) (by decide) (by decide) (by decide) ?_
                                        rw [show ((17 : Int) % 4) = 1 by decide]
                                        refine h_imul (r := 8) C dX9_feed_90 (by decide) ?_
                                        refine h_isub (r := 16) C dX9_feed_91 (by decide) ?_
                                        refine h_ishr_any C dX9_feed_92 (fun r54 hr54 => ?_)
                                        obtain ⟨hr54a, hr54b⟩ := hr54
                                        refine h_i2b C dX9_feed_93 (fun r55 hr55a hr55b => ?_)
                                        refine h_bastore C dX9_feed_94 kd_199 (by omega) (by omega) 17 rfl (by rw [ln_199]; decide) ?_
                                        refine h_iinc (lv' := [(6, .int (hpI 18)), (0, .ref (z + 195)), (1, .int (hpI a)), (2, .int (hpI b)), (3, .int (hpI c0)), (4, .int (hpI d0)), (5, .int (hpI e0))]) C dX9_feed_95 0 rfl rfl (by decide) rfl ?_
                                        refine h_goto (tgt := 55) C dX9_feed_98 (by decide) ?_
                                        refine h_iload C dX9_feed_55 0 rfl ?_
                                        refine h_bipush C dX9_feed_57 (by decide) ?_
                                        refine h_icmp_ge (tgt := 101) C dX9_feed_59 (by decide) ⟨by decide, by decide⟩ ⟨by decide, by decide⟩ (fun h56 => ?_) (fun h56 => ?_)
                                        · exfalso; omega
                                        · refine h_aload_n C dX9_feed_62 1 rfl rfl ?_
                                          refine h_get C O9 4 kd_195 (by decide) wd_1260 dX9_feed_63 fr_195_4 ?_
                                          refine h_aload_n C dX9_feed_66 1 rfl rfl ?_
                                          refine h_get C O9 5 kd_195 (by decide) wd_1261 dX9_feed_67 (fi_195_5 ((hpw_nk (by decide)).trans ((hpw_nk (by decide)).trans ((hpw_nk (by decide)).trans ((hpw_nk (by decide)).trans ((hpw_nk (by decide)).trans ((hpw_nk (by decide)).trans ((hpw_nk (by decide)).trans ((hpw_nk (by decide)).trans ((hpw_nk (by decide)).trans ((hpw_nk (by decide)).trans ((hpw_nk (by decide)).trans ((hpw_nk (by decide)).trans ((hpw_nk (by decide)).trans ((hpw_nk (by decide)).trans ((hpw_nk (by decide)).trans ((hpw_nk (by decide)).trans ((hpw_nk (by decide)).trans ((hpw_nk (by decide)).trans ((hpw_nk (by decide)).trans ((hpw_nk (by decide)).trans ((hpw_nk (by decide)).trans ((hpw_nk (by decide)).trans ((hpw_nk (by decide)).trans h_195_5)))))))))))))))))))))))) ?_
                                          refine h_iload C dX9_feed_70 0 rfl ?_
                                          refine h_iadd (r := 18) C dX9_feed_72 (by decide) ?_
                                          refine h_aload_n C dX9_feed_73 1 rfl rfl ?_
                                          refine h_get C O9 6 kd_195 (by decide) wd_1262 dX9_feed_74 fr_195_6 ?_
                                          refine h_iload C dX9_feed_77 0 rfl ?_
                                          refine h_iconst C dX9_feed_79 ?_
                                          refine h_idiv C dX9_feed_80 (by decide) (by decide) (by decide) (by decide) ?_
                                          rw [show ((18 : Int) / 4) = 4 by decide]
                                          refine h_iaload C dX9_feed_81 kd_200 4 rfl (by rw [ln_200]; decide) ((hpw_nk (by decide)).trans ((hpw_nk (by decide)).trans ((hpw_nk (by decide)).trans ((hpw_nk (by decide)).trans ((hpw_nk (by decide)).trans ((hpw_nk (by decide)).trans ((hpw_nk (by decide)).trans ((hpw_nk (by decide)).trans ((hpw_nk (by decide)).trans ((hpw_nk (by decide)).trans ((hpw_nk (by decide)).trans ((hpw_nk (by decide)).trans ((hpw_nk (by decide)).trans ((hpw_nk (by decide)).trans ((hpw_nk (by decide)).trans ((hpw_nk (by decide)).trans ((hpw_nk (by decide)).trans ((hpw_nk (by decide)).trans hpw_eq)))))))))))))))))) ?_
                                          refine h_bipush C dX9_feed_82 (by decide) ?_
                                          refine h_bipush C dX9_feed_84 (by decide) ?_
                                          refine h_iload C dX9_feed_86 0 rfl ?_
                                          refine h_iconst C dX9_feed_88 ?_
                                          refine h_irem C dX9_feed_89 (by decide) (by decide) (by decide) (by decide) ?_
                                          rw [show ((18 : Int) % 4) = 2 by decide]
                                          refine h_imul (r := 16) C dX9_feed_90 (by decide) ?_
                                          refine h_isub (r := 8) C dX9_feed_91 (by decide) ?_
                                          refine h_ishr_any C dX9_feed_92 (fun r57 hr57 => ?_)
                                          obtain ⟨hr57a, hr57b⟩ := hr57
                                          refine h_i2b C dX9_feed_93 (fun r58 hr58a hr58b => ?_)
                                          refine h_bastore C dX9_feed_94 kd_199 (by omega) (by omega) 18 rfl (by rw [ln_199]; decide) ?_
                                          refine h_iinc (lv' := [(6, .int (hpI 19)), (0, .ref (z + 195)), (1, .int (hpI a)), (2, .int (hpI b)), (3, .int (hpI c0)), (4, .int (hpI d0)), (5, .int (hpI e0))]) C dX9_feed_95 0 rfl rfl (by decide) rfl ?_
                                          refine h_goto (tgt := 55) C dX9_feed_98 (by decide) ?_
                                          refine h_iload C dX9_feed_55 0 rfl ?_
                                          refine h_bipush C dX9_feed_57 (by decide) ?_
                                          refine h_icmp_ge (tgt := 101) C dX9_feed_59 (by decide) ⟨by decide, by decide⟩ ⟨by decide, by decide⟩ (fun h59 => ?_) (fun h59 => ?_)
                                          · exfalso; omega
                                          · refine h_aload_n C dX9_feed_62 1 rfl rfl ?_
                                            refine h_get C O9 4 kd_195 (by decide) wd_1260 dX9_feed_63 fr_195_4 ?_
                                            refine h_aload_n C dX9_feed_66 1 rfl rfl ?_
                                            refine h_get C O9 5 kd_195 (by decide) wd_1261 dX9_feed_67 (fi_195_5 ((hpw_nk (by decide)).trans ((hpw_nk (by decide)).trans ((hpw_nk (by decide)).trans ((hpw_nk (by decide)).trans ((hpw_nk (by decide)).trans ((hpw_nk (by decide)).trans ((hpw_nk (by decide)).trans ((hpw_nk (by decide)).trans ((hpw_nk (by decide)).trans ((hpw_nk (by decide)).trans ((hpw_nk (by decide)).trans ((hpw_nk (by decide)).trans ((hpw_nk (by decide)).trans ((hpw_nk (by decide)).trans ((hpw_nk (by decide)).trans ((hpw_nk (by decide)).trans ((hpw_nk (by decide)).trans ((hpw_nk (by decide)).trans ((hpw_nk (by decide)).trans ((hpw_nk (by decide)).trans ((hpw_nk (by decide)).trans ((hpw_nk (by decide)).trans ((hpw_nk (by decide)).trans ((hpw_nk (by decide)).trans h_195_5))))))))))))))))))))))))) ?_
                                            refine h_iload C dX9_feed_70 0 rfl ?_
                                            refine h_iadd (r := 19) C dX9_feed_72 (by decide) ?_
                                            refine h_aload_n C dX9_feed_73 1 rfl rfl ?_
                                            refine h_get C O9 6 kd_195 (by decide) wd_1262 dX9_feed_74 fr_195_6 ?_
                                            refine h_iload C dX9_feed_77 0 rfl ?_
                                            refine h_iconst C dX9_feed_79 ?_
                                            refine h_idiv C dX9_feed_80 (by decide) (by decide) (by decide) (by decide) ?_
                                            rw [show ((19 : Int) / 4) = 4 by decide]
                                            refine h_iaload C dX9_feed_81 kd_200 4 rfl (by rw [ln_200]; decide) ((hpw_nk (by decide)).trans ((hpw_nk (by decide)).trans ((hpw_nk (by decide)).trans ((hpw_nk (by decide)).trans ((hpw_nk (by decide)).trans ((hpw_nk (by decide)).trans ((hpw_nk (by decide)).trans ((hpw_nk (by decide)).trans ((hpw_nk (by decide)).trans ((hpw_nk (by decide)).trans ((hpw_nk (by decide)).trans ((hpw_nk (by decide)).trans ((hpw_nk (by decide)).trans ((hpw_nk (by decide)).trans ((hpw_nk (by decide)).trans ((hpw_nk (by decide)).trans ((hpw_nk (by decide)).trans ((hpw_nk (by decide)).trans ((hpw_nk (by decide)).trans hpw_eq))))))))))))))))))) ?_
                                            refine h_bipush C dX9_feed_82 (by decide) ?_
                                            refine h_bipush C dX9_feed_84 (by decide) ?_
                                            refine h_iload C dX9_feed_86 0 rfl ?_
                                            refine h_iconst C dX9_feed_88 ?_
                                            refine h_irem C dX9_feed_89 (by decide) (by decide) (by decide) (by decide) ?_
                                            rw [show ((19 : Int) % 4) = 3 by decide]
                                            refine h_imul (r := 24) C dX9_feed_90 (by decide) ?_
                                            refine h_isub (r := 0) C dX9_feed_91 (by decide) ?_
                                            refine h_ishr_any C dX9_feed_92 (fun r60 hr60 => ?_)
                                            obtain ⟨hr60a, hr60b⟩ := hr60
                                            refine h_i2b C dX9_feed_93 (fun r61 hr61a hr61b => ?_)
                                            refine h_bastore C dX9_feed_94 kd_199 (by omega) (by omega) 19 rfl (by rw [ln_199]; decide) ?_
                                            refine h_iinc (lv' := [(6, .int (hpI 20)), (0, .ref (z + 195)), (1, .int (hpI a)), (2, .int (hpI b)), (3, .int (hpI c0)), (4, .int (hpI d0)), (5, .int (hpI e0))]) C dX9_feed_95 0 rfl rfl (by decide) rfl ?_
                                            refine h_goto (tgt := 55) C dX9_feed_98 (by decide) ?_
                                            refine h_iload C dX9_feed_55 0 rfl ?_
                                            refine h_bipush C dX9_feed_57 (by decide) ?_
                                            refine h_icmp_ge (tgt := 101) C dX9_feed_59 (by decide) ⟨by decide, by decide⟩ ⟨by decide, by decide⟩ (fun h62 => ?_) (fun h62 => ?_)
                                            · refine h_aload_n C dX9_feed_101 1 rfl rfl ?_
                                              refine h_dup C rfl dX9_feed_102 ?_
                                              refine h_get C O9 5 kd_195 (by decide) wd_1261 dX9_feed_103 (fi_195_5 ((hpw_nk (by decide)).trans ((hpw_nk (by decide)).trans ((hpw_nk (by decide)).trans ((hpw_nk (by decide)).trans ((hpw_nk (by decide)).trans ((hpw_nk (by decide)).trans ((hpw_nk (by decide)).trans ((hpw_nk (by decide)).trans ((hpw_nk (by decide)).trans ((hpw_nk (by decide)).trans ((hpw_nk (by decide)).trans ((hpw_nk (by decide)).trans ((hpw_nk (by decide)).trans ((hpw_nk (by decide)).trans ((hpw_nk (by decide)).trans ((hpw_nk (by decide)).trans ((hpw_nk (by decide)).trans ((hpw_nk (by decide)).trans ((hpw_nk (by decide)).trans ((hpw_nk (by decide)).trans ((hpw_nk (by decide)).trans ((hpw_nk (by decide)).trans ((hpw_nk (by decide)).trans ((hpw_nk (by decide)).trans ((hpw_nk (by decide)).trans h_195_5)))))))))))))))))))))))))) ?_
                                              refine h_bipush C dX9_feed_106 (by decide) ?_
                                              refine h_iadd (r := 20) C dX9_feed_108 (by decide) ?_
                                              refine h_put C O9 5 kd_195 (by decide) rfl wd_1261 dX9_feed_109 rfl rfl (fi_195_5 hpu_at) ?_
                                              refine h_aload_n C dX9_feed_112 1 rfl rfl ?_
                                              refine h_get C O9 5 kd_195 (by decide) wd_1261 dX9_feed_113 (fi_195_5 hpw_eq) ?_
                                              refine h_ireturn C hr hk dX9_feed_116 ?_
                                              exact ⟨rfl, (fun j hj0 hj1 hj2 => ((hpw_ne hj0).trans ((hpw_ne hj1).trans ((hpw_ne hj1).trans ((hpw_ne hj1).trans ((hpw_ne hj1).trans ((hpw_ne hj1).trans ((hpw_ne hj1).trans ((hpw_ne hj1).trans ((hpw_ne hj1).trans ((hpw_ne hj1).trans ((hpw_ne hj1).trans ((hpw_ne hj1).trans ((hpw_ne hj1).trans ((hpw_ne hj1).trans ((hpw_ne hj1).trans ((hpw_ne hj1).trans ((hpw_ne hj1).trans ((hpw_ne hj1).trans ((hpw_ne hj1).trans ((hpw_ne hj1).trans ((hpw_ne hj1).trans ((hpw_ne hj2).trans ((hpw_ne hj2).trans ((hpw_ne hj2).trans ((hpw_ne hj2).trans ((hpw_ne hj2).trans rfl)))))))))))))))))))))))))))⟩
                                            · exfalso; omega
  · exfalso; omega
abbrev rX9_end : Room := { frames := 1, cells := 0, slots := 0, locals := 25 }
abbrev pX9_end (z : Nat) (σ : hpMem) (n : Int) : Option Value → hpMem → Prop := fun r τ => (∃ x : Int, r = some (.int (hpI x)) ∧ hpR x ∧ ((n = 0 ∧ x = 0) ∨ (n ≠ 0 ∧ x = -1))) ∧ (∀ j : Nat, j ≠ 195 → τ j = σ j)
set_option maxHeartbeats 4000000 in
set_option maxRecDepth 20000 in
theorem tX9_end (l : Launch) (D : va_G) (cy : Nat → ClassId) (z : Nat) (σ : hpMem) (n : Int) (hn : hpR n) (h_195_5 : σ 195 5 = 0) : hpM l D cy z yX9_end cX9_end 2 (some .int) rX9_end [.ref (z + 195), .int (hpI n)] σ (pX9_end z σ n) := by
  obtain ⟨hn1, hn2⟩ := hn
  refine hp_met rfl (Nat.le_of_ble_eq_true rfl) (fun p e s m below meth c C hr hk => ?_)
  refine h_iload_n C dX9_end_0 1 rfl rfl ?_
  refine h_i2l C dX9_end_1 ⟨by omega, by omega⟩ ?_
  refine h_lconst C 0 dX9_end_2 (by decide) ?_
  refine h_aload_n C dX9_end_3 0 rfl rfl ?_
  refine h_get C O9 5 kd_195 (by decide) wd_1261 dX9_end_4 (fi_195_5 h_195_5) ?_
  refine h_i2l C dX9_end_7 ⟨by decide, by decide⟩ ?_
  refine h_callS (As := [.long (hpJ n), .long (hpJ 0), .long (hpJ 0)]) (rest := []) C yyX9_in rfl wd_1401 (tX9_in l D cy z _ n ⟨by omega, by omega⟩ 0 ⟨by decide, by decide⟩ 0 ⟨by decide, by decide⟩) rfl rfl ⟨rfl, rfl, Nat.le_of_ble_eq_true rfl, Nat.le_of_ble_eq_true rfl⟩ ⟨Nat.le_of_ble_eq_true rfl, Nat.le_of_ble_eq_true rfl⟩ (Nat.le_of_ble_eq_true rfl) dX9_end_8 (fun r1 τ1 hp1 => ?_)
  obtain ⟨⟨x1, rfl, ⟨hx1a, hx1b⟩, hx1⟩, rfl⟩ := hp1
  show hpV _ _ _ _ _ _ _ _ _ _ _ _ _ _ _ _ _ _ _ _ _ (_ :: _)
  refine h_if_ne (tgt := 16) C dX9_end_11 (by decide) ⟨by omega, by omega⟩ (fun h2 => ?_) (fun h2 => ?_)
  · refine h_aload_n C dX9_end_16 0 rfl rfl ?_
    refine h_iload_n C dX9_end_17 1 rfl rfl ?_
    refine h_put C O9 5 kd_195 (by decide) rfl wd_1261 dX9_end_18 rfl rfl (fi_195_5 hpu_at) ?_
    refine h_iload_n C dX9_end_21 1 rfl rfl ?_
    refine h_ireturn C hr hk dX9_end_22 ?_
    exact ⟨⟨_, rfl, ⟨by omega, by omega⟩, by omega⟩, (fun j hj0 => ((hpw_ne hj0).trans rfl))⟩
  · refine h_iconst C dX9_end_14 ?_
    refine h_ireturn C hr hk dX9_end_15 ?_
    exact ⟨⟨_, rfl, ⟨by decide, by decide⟩, by omega⟩, (fun j hj0 => rfl)⟩
abbrev rX9_moor : Room := { frames := 2, cells := 0, slots := 0, locals := 42 }
abbrev pX9_moor (z : Nat) (σ : hpMem) : Option Value → hpMem → Prop := fun r τ => r = some (.int (hpI 0)) ∧ (∀ j : Nat, j ≠ 195 → j ≠ 196 → j ≠ 201 → τ j = σ j)
set_option maxHeartbeats 4000000 in
set_option maxRecDepth 20000 in
theorem tX9_moor (l : Launch) (D : va_G) (cy : Nat → ClassId) (z : Nat) (σ : hpMem) (h_195_5 : σ 195 5 = 0) (hz_196 : ∀ i : Nat, σ 196 i = 0) (hz_201 : ∀ i : Nat, σ 201 i = 0) : hpM l D cy z yX9_moor cX9_moor 2 (some .int) rX9_moor [.ref (z + 195)] σ (pX9_moor z σ) := by
  refine hp_met rfl (Nat.le_of_ble_eq_true rfl) (fun p e s m below meth c C hr hk => ?_)
  refine h_aload_n C dX9_moor_0 0 rfl rfl ?_
  refine h_aload_n C dX9_moor_1 0 rfl rfl ?_
  refine h_get C O9 5 kd_195 (by decide) wd_1261 dX9_moor_2 (fi_195_5 h_195_5) ?_
  refine h_put C O9 7 kd_195 (by decide) rfl wd_1263 dX9_moor_5 rfl rfl (fi_195_7 hpu_at) ?_
  refine h_aload_n C dX9_moor_8 0 rfl rfl ?_
  refine h_iconst C dX9_moor_9 ?_
  refine h_put C O9 5 kd_195 (by decide) rfl wd_1261 dX9_moor_10 rfl rfl (fi_195_5 hpu_at) ?_
  refine h_aload_n C dX9_moor_13 0 rfl rfl ?_
  refine h_iconst C dX9_moor_14 ?_
  refine h_put C O9 8 kd_195 (by decide) rfl wd_1264 dX9_moor_15 rfl rfl (fi_195_8 hpu_at) ?_
  refine h_aload_n C dX9_moor_18 0 rfl rfl ?_
  refine h_iconst C dX9_moor_19 ?_
  refine h_put C O9 12 kd_195 (by decide) rfl wd_1268 dX9_moor_20 rfl rfl (fi_195_12 hpu_at) ?_
  refine h_aload_n C dX9_moor_23 0 rfl rfl ?_
  refine h_iconst C dX9_moor_24 ?_
  refine h_put C O9 13 kd_195 (by decide) rfl wd_1269 dX9_moor_25 rfl rfl (fi_195_13 hpu_at) ?_
  refine h_iconst C dX9_moor_28 ?_
  refine h_istore_n (lv' := [(1, .int (hpI 0)), (0, .ref (z + 195))]) C dX9_moor_29 rfl (by decide) rfl ?_
  have L1 : ∀ (n1 : Nat) (τ1 : hpMem) (k : Int), 0 ≤ k → k ≤ 47 → (∀ j : Nat, j ≠ 195 → j ≠ 201 → τ1 j = σ j) → τ1 195 7 = 0 → τ1 195 8 = 0 → τ1 195 12 = 0 → (∀ i : Nat, τ1 201 i = 0) → (47 - k) < (n1 : Int) → hpF p l e rX9_moor s m [.ref (z + 195)] below meth c 2 D cy z (pX9_moor z σ) τ1 30 [(0, .ref (z + 195)), (1, .int (hpI k))] [] := by
    intro n1
    induction n1 with
    | zero => intro τ1 k hi1_0 hi1_1 hF1 hc1_0 hc1_1 hc1_2 hw1_0 hm1; exfalso; omega
    | succ n1 ih1 =>
      intro τ1 k hi1_0 hi1_1 hF1 hc1_0 hc1_1 hc1_2 hw1_0 hm1
      refine h_iload_n C dX9_moor_30 1 rfl rfl ?_
      refine h_bipush C dX9_moor_31 (by decide) ?_
      refine h_icmp_ge (tgt := 49) C dX9_moor_33 (by decide) ⟨by omega, by omega⟩ ⟨by decide, by decide⟩ (fun h2 => ?_) (fun h2 => ?_)
      · refine h_aload_n C dX9_moor_49 0 rfl rfl ?_
        refine h_callV (As := []) (rest := []) C yyX9_advance wd_1424 (tX9_advance l D cy z _ hc1_0 hc1_1 hc1_2) kd_195 rfl rfl ⟨rfl, rfl, Nat.le_of_ble_eq_true rfl, Nat.le_of_ble_eq_true rfl⟩ ⟨Nat.le_of_ble_eq_true rfl, Nat.le_of_ble_eq_true rfl⟩ (Nat.le_of_ble_eq_true rfl) dX9_moor_50 (fun r3 τ3 hp3 => ?_)
        obtain ⟨rfl, hF3, hc3_0, hc3_1⟩ := hp3
        show hpV _ _ _ _ _ _ _ _ _ _ _ _ _ _ _ _ _ _ _ _ _ []
        refine h_aload_n C dX9_moor_53 0 rfl rfl ?_
        refine h_callV (As := []) (rest := []) C yyX9_good wd_1438 (tX9_good l D cy z _ hc3_1) kd_195 rfl rfl ⟨rfl, rfl, Nat.le_of_ble_eq_true rfl, Nat.le_of_ble_eq_true rfl⟩ ⟨Nat.le_of_ble_eq_true rfl, Nat.le_of_ble_eq_true rfl⟩ (Nat.le_of_ble_eq_true rfl) dX9_moor_54 (fun r4 τ4 hp4 => ?_)
        obtain ⟨rfl, rfl⟩ := hp4
        show hpV _ _ _ _ _ _ _ _ _ _ _ _ _ _ _ _ _ _ _ _ _ (_ :: _)
        refine h_if_eq (tgt := 74) C dX9_moor_57 (by decide) ⟨by decide, by decide⟩ (fun h5 => ?_) (fun h5 => ?_)
        · exfalso; omega
        · refine h_aload_n C dX9_moor_60 0 rfl rfl ?_
          refine h_get C O9 10 kd_195 (by decide) wd_1266 dX9_moor_61 (fi_195_10 hc3_0) ?_
          refine h_if_eq (tgt := 74) C dX9_moor_64 (by decide) ⟨by decide, by decide⟩ (fun h6 => ?_) (fun h6 => ?_)
          · refine h_aload_n C dX9_moor_74 0 rfl rfl ?_
            refine h_callV (As := []) (rest := []) C yyX9_good wd_1438 (tX9_good l D cy z _ hc3_1) kd_195 rfl rfl ⟨rfl, rfl, Nat.le_of_ble_eq_true rfl, Nat.le_of_ble_eq_true rfl⟩ ⟨Nat.le_of_ble_eq_true rfl, Nat.le_of_ble_eq_true rfl⟩ (Nat.le_of_ble_eq_true rfl) dX9_moor_75 (fun r7 τ7 hp7 => ?_)
            obtain ⟨rfl, rfl⟩ := hp7
            show hpV _ _ _ _ _ _ _ _ _ _ _ _ _ _ _ _ _ _ _ _ _ (_ :: _)
            refine h_if_ne (tgt := 84) C dX9_moor_78 (by decide) ⟨by decide, by decide⟩ (fun h8 => ?_) (fun h8 => ?_)
            · refine h_iconst C dX9_moor_84 ?_
              refine h_istore_n (lv' := [(1, .int (hpI 0)), (0, .ref (z + 195))]) C dX9_moor_85 rfl (by decide) rfl ?_
              have L9 : ∀ (n9 : Nat) (τ9 : hpMem) (k : Int), 0 ≤ k → k ≤ 47 → (∀ j : Nat, j ≠ 195 → j ≠ 196 → j ≠ 201 → τ9 j = σ j) → (∀ i : Nat, τ9 201 i = 0) → (∀ i : Nat, τ9 196 i = 0) → (47 - k) < (n9 : Int) → hpF p l e rX9_moor s m [.ref (z + 195)] below meth c 2 D cy z (pX9_moor z σ) τ9 86 [(0, .ref (z + 195)), (1, .int (hpI k))] [] := by
                intro n9
                induction n9 with
                | zero => intro τ9 k hi9_0 hi9_1 hF9 hw9_0 hw9_1 hm9; exfalso; omega
                | succ n9 ih9 =>
                  intro τ9 k hi9_0 hi9_1 hF9 hw9_0 hw9_1 hm9
                  refine h_iload_n C dX9_moor_86 1 rfl rfl ?_
                  refine h_bipush C dX9_moor_87 (by decide) ?_
                  refine h_icmp_ge (tgt := 110) C dX9_moor_89 (by decide) ⟨by omega, by omega⟩ ⟨by decide, by decide⟩ (fun h10 => ?_) (fun h10 => ?_)
                  · refine h_aload_n C dX9_moor_110 0 rfl rfl ?_
                    refine h_get C O9 1 kd_195 (by decide) wd_1257 dX9_moor_111 fr_195_1 ?_
                    refine h_bipush C dX9_moor_114 (by decide) ?_
                    refine h_iaload C dX9_moor_116 kd_196 6 rfl (by rw [ln_196]; decide) (hw9_1 _) ?_
                    refine h_ireturn C hr hk dX9_moor_117 ?_
                    exact ⟨rfl, (fun j hj0 hj1 hj2 => ((hF9 j hj0 hj1 hj2).trans rfl))⟩
                  · refine h_aload_n C dX9_moor_92 0 rfl rfl ?_
                    refine h_get C O9 1 kd_195 (by decide) wd_1257 dX9_moor_93 fr_195_1 ?_
                    refine h_iload_n C dX9_moor_96 1 rfl rfl ?_
                    refine h_aload_n C dX9_moor_97 0 rfl rfl ?_
                    refine h_get C O9 14 kd_195 (by decide) wd_1270 dX9_moor_98 fr_195_14 ?_
                    refine h_iload_n C dX9_moor_101 1 rfl rfl ?_
                    refine h_iaload C dX9_moor_102 kd_201 (k).toNat (Int.toNat_of_nonneg (by omega)) (by rw [ln_201]; omega) (hw9_0 _) ?_
                    refine h_iastore C dX9_moor_103 kd_196 (k).toNat (Int.toNat_of_nonneg (by omega)) (by rw [ln_196]; omega) ?_
                    refine h_iinc (lv' := [(1, .int (hpI (k + 1))), (0, .ref (z + 195))]) C dX9_moor_104 1 rfl rfl (by decide) rfl ?_
                    refine h_goto (tgt := 86) C dX9_moor_107 (by decide) ?_
                    exact hp_sub [1, 0] rfl (ih9 _ (k + 1) (by omega) (by omega) (fun j hj0 hj1 hj2 => ((hpw_ne hj1).trans ((hF9 j hj0 hj1 hj2).trans rfl))) (fun i => ((congrFun (hpw_ne (by decide)) i).trans (hw9_0 i))) (hpw_z hw9_1) (by omega))
              exact hp_sub [1, 0] rfl (L9 48 _ 0 (by omega) (by omega) (fun j hj0 hj1 hj2 => ((hF3 j hj0).trans ((hF1 j hj0 hj2).trans rfl))) (fun i => ((fun i => (congrFun (hF3 201 (by decide)) i).trans ((fun i => (hw1_0 i)) i)) i)) (fun i => ((fun i => (congrFun (hF3 196 (by decide)) i).trans ((fun i => ((fun i => (congrFun (hF1 196 (by decide) (by decide)) i).trans ((fun i => (hz_196 i)) i)) i)) i)) i)) (by omega))
            · exfalso; omega
          · exfalso; omega
      · refine h_aload_n C dX9_moor_36 0 rfl rfl ?_
        refine h_get C O9 14 kd_195 (by decide) wd_1270 dX9_moor_37 fr_195_14 ?_
        refine h_iload_n C dX9_moor_40 1 rfl rfl ?_
        refine h_iconst C dX9_moor_41 ?_
        refine h_iastore C dX9_moor_42 kd_201 (k).toNat (Int.toNat_of_nonneg (by omega)) (by rw [ln_201]; omega) ?_
        refine h_iinc (lv' := [(1, .int (hpI (k + 1))), (0, .ref (z + 195))]) C dX9_moor_43 1 rfl rfl (by decide) rfl ?_
        refine h_goto (tgt := 30) C dX9_moor_46 (by decide) ?_
        exact hp_sub [1, 0] rfl (ih1 _ (k + 1) (by omega) (by omega) (fun j hj0 hj1 => ((hpw_ne hj1).trans ((hF1 j hj0 hj1).trans rfl))) ((((hpw_nk (by decide)).trans hc1_0)).trans (by omega)) ((((hpw_nk (by decide)).trans hc1_1)).trans (by omega)) ((((hpw_nk (by decide)).trans hc1_2)).trans (by omega)) (hpw_z hw1_0) (by omega))
  exact hp_sub [1, 0] rfl (L1 48 _ 0 (by omega) (by omega) (fun j hj0 hj1 => ((hpw_ne hj0).trans ((hpw_ne hj0).trans ((hpw_ne hj0).trans ((hpw_ne hj0).trans ((hpw_ne hj0).trans rfl)))))) ((((hpw_ni (by decide)).trans ((hpw_ni (by decide)).trans ((hpw_ni (by decide)).trans ((hpw_ni (by decide)).trans hpw_eq))))).trans (by omega)) ((((hpw_ni (by decide)).trans ((hpw_ni (by decide)).trans hpw_eq))).trans (by omega)) ((((hpw_ni (by decide)).trans hpw_eq)).trans (by omega)) (fun i => ((congrFun (hpw_ne (by decide)) i).trans ((congrFun (hpw_ne (by decide)) i).trans ((congrFun (hpw_ne (by decide)) i).trans ((congrFun (hpw_ne (by decide)) i).trans ((congrFun (hpw_ne (by decide)) i).trans (hz_201 i))))))) (by omega))
abbrev rX9_fault : Room := { frames := 0, cells := 0, slots := 0, locals := 0 }
abbrev pX9_fault (z : Nat) (σ : hpMem) (n : Int) : Option Value → hpMem → Prop := fun r τ => (∃ x : Int, r = some (.int (hpI x)) ∧ hpR x ∧ ((n = 0 ∧ x = 0) ∨ (n ≠ 0 ∧ x = -1))) ∧ σ = τ
set_option maxHeartbeats 4000000 in
set_option maxRecDepth 20000 in
theorem tX9_fault (l : Launch) (D : va_G) (cy : Nat → ClassId) (z : Nat) (σ : hpMem) (n : Int) (hn : hpR n) (h_195_12 : σ 195 12 = 0) (h_195_13 : σ 195 13 = -1) : hpM l D cy z yX9_fault cX9_fault 2 (some .int) rX9_fault [.ref (z + 195), .int (hpI n)] σ (pX9_fault z σ n) := by
  obtain ⟨hn1, hn2⟩ := hn
  refine hp_met rfl (Nat.le_of_ble_eq_true rfl) (fun p e s m below meth c C hr hk => ?_)
  refine h_iload_n C dX9_fault_0 1 rfl rfl ?_
  refine h_if_ne (tgt := 11) C dX9_fault_1 (by decide) ⟨by omega, by omega⟩ (fun h1 => ?_) (fun h1 => ?_)
  · refine h_iload_n C dX9_fault_11 1 rfl rfl ?_
    refine h_iconst C dX9_fault_12 ?_
    refine h_icmp_ne (tgt := 23) C dX9_fault_13 (by decide) ⟨by omega, by omega⟩ ⟨by decide, by decide⟩ (fun h2 => ?_) (fun h2 => ?_)
    · refine h_iconst C dX9_fault_23 ?_
      refine h_ireturn C hr hk dX9_fault_24 ?_
      exact ⟨⟨_, rfl, ⟨by decide, by decide⟩, by omega⟩, rfl⟩
    · refine h_aload_n C dX9_fault_16 0 rfl rfl ?_
      refine h_get C O9 13 kd_195 (by decide) wd_1269 dX9_fault_17 (fi_195_13 h_195_13) ?_
      refine h_goto (tgt := 24) C dX9_fault_20 (by decide) ?_
      refine h_ireturn C hr hk dX9_fault_24 ?_
      exact ⟨⟨_, rfl, ⟨by decide, by decide⟩, by omega⟩, rfl⟩
  · refine h_aload_n C dX9_fault_4 0 rfl rfl ?_
    refine h_get C O9 12 kd_195 (by decide) wd_1268 dX9_fault_5 (fi_195_12 h_195_12) ?_
    refine h_goto (tgt := 24) C dX9_fault_8 (by decide) ?_
    refine h_ireturn C hr hk dX9_fault_24 ?_
    exact ⟨⟨_, rfl, ⟨by decide, by decide⟩, by omega⟩, rfl⟩
abbrev rX9_told : Room := { frames := 2, cells := 0, slots := 0, locals := 46 }
abbrev pX9_told (z : Nat) (σ : hpMem) (n : Int) : Option Value → hpMem → Prop := fun r τ => r = some (.int (hpI (-2))) ∧ σ = τ
set_option maxHeartbeats 4000000 in
set_option maxRecDepth 20000 in
theorem tX9_told (l : Launch) (D : va_G) (cy : Nat → ClassId) (z : Nat) (σ : hpMem) (n : Int) (hn : hpR n) (hz_196 : ∀ i : Nat, σ 196 i = 0) : hpM l D cy z yX9_told cX9_told 2 (some .int) rX9_told [.ref (z + 195), .int (hpI n)] σ (pX9_told z σ n) := by
  obtain ⟨hn1, hn2⟩ := hn
  refine hp_met rfl (Nat.le_of_ble_eq_true rfl) (fun p e s m below meth c C hr hk => ?_)
  refine h_aload_n C dX9_told_0 0 rfl rfl ?_
  refine h_iload_n C dX9_told_1 1 rfl rfl ?_
  refine h_callV (As := [.int (hpI n)]) (rest := []) C yyX9_isHeap wd_1492 (tX9_isHeap l D cy z _ n ⟨by omega, by omega⟩ (fun i => (hz_196 i))) kd_195 rfl rfl ⟨rfl, rfl, Nat.le_of_ble_eq_true rfl, Nat.le_of_ble_eq_true rfl⟩ ⟨Nat.le_of_ble_eq_true rfl, Nat.le_of_ble_eq_true rfl⟩ (Nat.le_of_ble_eq_true rfl) dX9_told_2 (fun r1 τ1 hp1 => ?_)
  obtain ⟨rfl, rfl⟩ := hp1
  show hpV _ _ _ _ _ _ _ _ _ _ _ _ _ _ _ _ _ _ _ _ _ (_ :: _)
  refine h_if_eq (tgt := 20) C dX9_told_5 (by decide) ⟨by decide, by decide⟩ (fun h2 => ?_) (fun h2 => ?_)
  · refine h_bipush C dX9_told_20 (by decide) ?_
    refine h_ireturn C hr hk dX9_told_22 ?_
    exact ⟨rfl, rfl⟩
  · exfalso; omega
abbrev rX9_cart : Room := { frames := 2, cells := 0, slots := 0, locals := 46 }
abbrev pX9_cart (z : Nat) (σ : hpMem) (a : Int) (b : Int) : Option Value → hpMem → Prop := fun r τ => r = some (.int (hpI (-2))) ∧ σ = τ
set_option maxHeartbeats 4000000 in
set_option maxRecDepth 20000 in
theorem tX9_cart (l : Launch) (D : va_G) (cy : Nat → ClassId) (z : Nat) (σ : hpMem) (a : Int) (ha : hpR a) (b : Int) (hb : hpR b) (hz_196 : ∀ i : Nat, σ 196 i = 0) : hpM l D cy z yX9_cart cX9_cart 3 (some .int) rX9_cart [.ref (z + 195), .int (hpI a), .int (hpI b)] σ (pX9_cart z σ a b) := by
  obtain ⟨ha1, ha2⟩ := ha
  obtain ⟨hb1, hb2⟩ := hb
  refine hp_met rfl (Nat.le_of_ble_eq_true rfl) (fun p e s m below meth c C hr hk => ?_)
  refine h_aload_n C dX9_cart_0 0 rfl rfl ?_
  refine h_iload_n C dX9_cart_1 1 rfl rfl ?_
  refine h_callV (As := [.int (hpI a)]) (rest := []) C yyX9_isCart wd_1500 (tX9_isCart l D cy z _ a ⟨by omega, by omega⟩ (fun i => (hz_196 i))) kd_195 rfl rfl ⟨rfl, rfl, Nat.le_of_ble_eq_true rfl, Nat.le_of_ble_eq_true rfl⟩ ⟨Nat.le_of_ble_eq_true rfl, Nat.le_of_ble_eq_true rfl⟩ (Nat.le_of_ble_eq_true rfl) dX9_cart_2 (fun r1 τ1 hp1 => ?_)
  obtain ⟨rfl, rfl⟩ := hp1
  show hpV _ _ _ _ _ _ _ _ _ _ _ _ _ _ _ _ _ _ _ _ _ (_ :: _)
  refine h_if_eq (tgt := 34) C dX9_cart_5 (by decide) ⟨by decide, by decide⟩ (fun h2 => ?_) (fun h2 => ?_)
  · refine h_bipush C dX9_cart_34 (by decide) ?_
    refine h_ireturn C hr hk dX9_cart_36 ?_
    exact ⟨rfl, rfl⟩
  · exfalso; omega
abbrev rX9_most : Room := { frames := 4, cells := 0, slots := 0, locals := 85 }
abbrev pX9_most (z : Nat) (σ : hpMem) : Option Value → hpMem → Prop := fun r τ => r = some (.int (hpI (-2))) ∧ (∀ j : Nat, j ≠ 195 → j ≠ 202 → j ≠ 203 → j ≠ 204 → τ j = σ j)
set_option maxHeartbeats 4000000 in
set_option maxRecDepth 20000 in
theorem tX9_most (l : Launch) (D : va_G) (cy : Nat → ClassId) (z : Nat) (σ : hpMem) (hz_196 : ∀ i : Nat, σ 196 i = 0) : hpM l D cy z yX9_most cX9_most 3 (some .int) rX9_most [.ref (z + 195)] σ (pX9_most z σ) := by
  refine hp_met rfl (Nat.le_of_ble_eq_true rfl) (fun p e s m below meth c C hr hk => ?_)
  refine h_aload_n C dX9_most_0 0 rfl rfl ?_
  refine h_callV (As := []) (rest := []) C yyX9_asksMoor wd_1516 (tX9_asksMoor l D cy z _ (fun i => (hz_196 i))) kd_195 rfl rfl ⟨rfl, rfl, Nat.le_of_ble_eq_true rfl, Nat.le_of_ble_eq_true rfl⟩ ⟨Nat.le_of_ble_eq_true rfl, Nat.le_of_ble_eq_true rfl⟩ (Nat.le_of_ble_eq_true rfl) dX9_most_1 (fun r1 τ1 hp1 => ?_)
  obtain ⟨rfl, hF1, hw1_0⟩ := hp1
  show hpV _ _ _ _ _ _ _ _ _ _ _ _ _ _ _ _ _ _ _ _ _ (_ :: _)
  refine h_if_ne (tgt := 10) C dX9_most_4 (by decide) ⟨by decide, by decide⟩ (fun h2 => ?_) (fun h2 => ?_)
  · exfalso; omega
  · refine h_bipush C dX9_most_7 (by decide) ?_
    refine h_ireturn C hr hk dX9_most_9 ?_
    exact ⟨rfl, (fun j hj0 hj1 hj2 hj3 => ((hF1 j hj0 hj1 hj2 hj3).trans rfl))⟩
abbrev rX9_peak : Room := { frames := 4, cells := 0, slots := 0, locals := 85 }
abbrev pX9_peak (z : Nat) (σ : hpMem) : Option Value → hpMem → Prop := fun r τ => r = some (.int (hpI (-2))) ∧ (∀ j : Nat, j ≠ 195 → j ≠ 202 → j ≠ 203 → j ≠ 204 → τ j = σ j)
set_option maxHeartbeats 4000000 in
set_option maxRecDepth 20000 in
theorem tX9_peak (l : Launch) (D : va_G) (cy : Nat → ClassId) (z : Nat) (σ : hpMem) (hz_196 : ∀ i : Nat, σ 196 i = 0) : hpM l D cy z yX9_peak cX9_peak 3 (some .int) rX9_peak [.ref (z + 195)] σ (pX9_peak z σ) := by
  refine hp_met rfl (Nat.le_of_ble_eq_true rfl) (fun p e s m below meth c C hr hk => ?_)
  refine h_aload_n C dX9_peak_0 0 rfl rfl ?_
  refine h_callV (As := []) (rest := []) C yyX9_asksMoor wd_1516 (tX9_asksMoor l D cy z _ (fun i => (hz_196 i))) kd_195 rfl rfl ⟨rfl, rfl, Nat.le_of_ble_eq_true rfl, Nat.le_of_ble_eq_true rfl⟩ ⟨Nat.le_of_ble_eq_true rfl, Nat.le_of_ble_eq_true rfl⟩ (Nat.le_of_ble_eq_true rfl) dX9_peak_1 (fun r1 τ1 hp1 => ?_)
  obtain ⟨rfl, hF1, hw1_0⟩ := hp1
  show hpV _ _ _ _ _ _ _ _ _ _ _ _ _ _ _ _ _ _ _ _ _ (_ :: _)
  refine h_if_ne (tgt := 10) C dX9_peak_4 (by decide) ⟨by decide, by decide⟩ (fun h2 => ?_) (fun h2 => ?_)
  · exfalso; omega
  · refine h_bipush C dX9_peak_7 (by decide) ?_
    refine h_ireturn C hr hk dX9_peak_9 ?_
    exact ⟨rfl, (fun j hj0 hj1 hj2 hj3 => ((hF1 j hj0 hj1 hj2 hj3).trans rfl))⟩
abbrev rX9_still : Room := { frames := 4, cells := 0, slots := 0, locals := 85 }
abbrev pX9_still (z : Nat) (σ : hpMem) : Option Value → hpMem → Prop := fun r τ => r = some (.int (hpI (-2))) ∧ (∀ j : Nat, j ≠ 195 → j ≠ 202 → j ≠ 203 → j ≠ 204 → τ j = σ j)
set_option maxHeartbeats 4000000 in
set_option maxRecDepth 20000 in
theorem tX9_still (l : Launch) (D : va_G) (cy : Nat → ClassId) (z : Nat) (σ : hpMem) (hz_196 : ∀ i : Nat, σ 196 i = 0) : hpM l D cy z yX9_still cX9_still 2 (some .int) rX9_still [.ref (z + 195)] σ (pX9_still z σ) := by
  refine hp_met rfl (Nat.le_of_ble_eq_true rfl) (fun p e s m below meth c C hr hk => ?_)
  refine h_aload_n C dX9_still_0 0 rfl rfl ?_
  refine h_callV (As := []) (rest := []) C yyX9_asksMoor wd_1516 (tX9_asksMoor l D cy z _ (fun i => (hz_196 i))) kd_195 rfl rfl ⟨rfl, rfl, Nat.le_of_ble_eq_true rfl, Nat.le_of_ble_eq_true rfl⟩ ⟨Nat.le_of_ble_eq_true rfl, Nat.le_of_ble_eq_true rfl⟩ (Nat.le_of_ble_eq_true rfl) dX9_still_1 (fun r1 τ1 hp1 => ?_)
  obtain ⟨rfl, hF1, hw1_0⟩ := hp1
  show hpV _ _ _ _ _ _ _ _ _ _ _ _ _ _ _ _ _ _ _ _ _ (_ :: _)
  refine h_if_ne (tgt := 10) C dX9_still_4 (by decide) ⟨by decide, by decide⟩ (fun h2 => ?_) (fun h2 => ?_)
  · exfalso; omega
  · refine h_bipush C dX9_still_7 (by decide) ?_
    refine h_ireturn C hr hk dX9_still_9 ?_
    exact ⟨rfl, (fun j hj0 hj1 hj2 hj3 => ((hF1 j hj0 hj1 hj2 hj3).trans rfl))⟩
abbrev rX9_rows : Room := { frames := 4, cells := 0, slots := 0, locals := 85 }
abbrev pX9_rows (z : Nat) (σ : hpMem) : Option Value → hpMem → Prop := fun r τ => r = some (.int (hpI (-2))) ∧ (∀ j : Nat, j ≠ 195 → j ≠ 202 → j ≠ 203 → j ≠ 204 → τ j = σ j)
set_option maxHeartbeats 4000000 in
set_option maxRecDepth 20000 in
theorem tX9_rows (l : Launch) (D : va_G) (cy : Nat → ClassId) (z : Nat) (σ : hpMem) (hz_196 : ∀ i : Nat, σ 196 i = 0) : hpM l D cy z yX9_rows cX9_rows 3 (some .int) rX9_rows [.ref (z + 195)] σ (pX9_rows z σ) := by
  refine hp_met rfl (Nat.le_of_ble_eq_true rfl) (fun p e s m below meth c C hr hk => ?_)
  refine h_aload_n C dX9_rows_0 0 rfl rfl ?_
  refine h_callV (As := []) (rest := []) C yyX9_asksMoor wd_1516 (tX9_asksMoor l D cy z _ (fun i => (hz_196 i))) kd_195 rfl rfl ⟨rfl, rfl, Nat.le_of_ble_eq_true rfl, Nat.le_of_ble_eq_true rfl⟩ ⟨Nat.le_of_ble_eq_true rfl, Nat.le_of_ble_eq_true rfl⟩ (Nat.le_of_ble_eq_true rfl) dX9_rows_1 (fun r1 τ1 hp1 => ?_)
  obtain ⟨rfl, hF1, hw1_0⟩ := hp1
  show hpV _ _ _ _ _ _ _ _ _ _ _ _ _ _ _ _ _ _ _ _ _ (_ :: _)
  refine h_if_ne (tgt := 10) C dX9_rows_4 (by decide) ⟨by decide, by decide⟩ (fun h2 => ?_) (fun h2 => ?_)
  · exfalso; omega
  · refine h_bipush C dX9_rows_7 (by decide) ?_
    refine h_ireturn C hr hk dX9_rows_9 ?_
    exact ⟨rfl, (fun j hj0 hj1 hj2 hj3 => ((hF1 j hj0 hj1 hj2 hj3).trans rfl))⟩
abbrev rX9_stairs : Room := { frames := 4, cells := 0, slots := 0, locals := 85 }
abbrev pX9_stairs (z : Nat) (σ : hpMem) : Option Value → hpMem → Prop := fun r τ => r = some (.int (hpI (-2))) ∧ (∀ j : Nat, j ≠ 195 → j ≠ 202 → j ≠ 203 → j ≠ 204 → τ j = σ j)
set_option maxHeartbeats 4000000 in
set_option maxRecDepth 20000 in
theorem tX9_stairs (l : Launch) (D : va_G) (cy : Nat → ClassId) (z : Nat) (σ : hpMem) (hz_196 : ∀ i : Nat, σ 196 i = 0) : hpM l D cy z yX9_stairs cX9_stairs 2 (some .int) rX9_stairs [.ref (z + 195)] σ (pX9_stairs z σ) := by
  refine hp_met rfl (Nat.le_of_ble_eq_true rfl) (fun p e s m below meth c C hr hk => ?_)
  refine h_aload_n C dX9_stairs_0 0 rfl rfl ?_
  refine h_callV (As := []) (rest := []) C yyX9_asksMoor wd_1516 (tX9_asksMoor l D cy z _ (fun i => (hz_196 i))) kd_195 rfl rfl ⟨rfl, rfl, Nat.le_of_ble_eq_true rfl, Nat.le_of_ble_eq_true rfl⟩ ⟨Nat.le_of_ble_eq_true rfl, Nat.le_of_ble_eq_true rfl⟩ (Nat.le_of_ble_eq_true rfl) dX9_stairs_1 (fun r1 τ1 hp1 => ?_)
  obtain ⟨rfl, hF1, hw1_0⟩ := hp1
  show hpV _ _ _ _ _ _ _ _ _ _ _ _ _ _ _ _ _ _ _ _ _ (_ :: _)
  refine h_if_ne (tgt := 10) C dX9_stairs_4 (by decide) ⟨by decide, by decide⟩ (fun h2 => ?_) (fun h2 => ?_)
  · exfalso; omega
  · refine h_bipush C dX9_stairs_7 (by decide) ?_
    refine h_ireturn C hr hk dX9_stairs_9 ?_
    exact ⟨rfl, (fun j hj0 hj1 hj2 hj3 => ((hF1 j hj0 hj1 hj2 hj3).trans rfl))⟩
abbrev rX9_spare : Room := { frames := 4, cells := 0, slots := 0, locals := 85 }
abbrev pX9_spare (z : Nat) (σ : hpMem) : Option Value → hpMem → Prop := fun r τ => r = some (.int (hpI (-2))) ∧ (∀ j : Nat, j ≠ 195 → j ≠ 202 → j ≠ 203 → j ≠ 204 → τ j = σ j)
set_option maxHeartbeats 4000000 in
set_option maxRecDepth 20000 in
theorem tX9_spare (l : Launch) (D : va_G) (cy : Nat → ClassId) (z : Nat) (σ : hpMem) (hz_196 : ∀ i : Nat, σ 196 i = 0) : hpM l D cy z yX9_spare cX9_spare 4 (some .int) rX9_spare [.ref (z + 195)] σ (pX9_spare z σ) := by
  refine hp_met rfl (Nat.le_of_ble_eq_true rfl) (fun p e s m below meth c C hr hk => ?_)
  refine h_aload_n C dX9_spare_0 0 rfl rfl ?_
  refine h_callV (As := []) (rest := []) C yyX9_asksMoor wd_1516 (tX9_asksMoor l D cy z _ (fun i => (hz_196 i))) kd_195 rfl rfl ⟨rfl, rfl, Nat.le_of_ble_eq_true rfl, Nat.le_of_ble_eq_true rfl⟩ ⟨Nat.le_of_ble_eq_true rfl, Nat.le_of_ble_eq_true rfl⟩ (Nat.le_of_ble_eq_true rfl) dX9_spare_1 (fun r1 τ1 hp1 => ?_)
  obtain ⟨rfl, hF1, hw1_0⟩ := hp1
  show hpV _ _ _ _ _ _ _ _ _ _ _ _ _ _ _ _ _ _ _ _ _ (_ :: _)
  refine h_if_ne (tgt := 10) C dX9_spare_4 (by decide) ⟨by decide, by decide⟩ (fun h2 => ?_) (fun h2 => ?_)
  · exfalso; omega
  · refine h_bipush C dX9_spare_7 (by decide) ?_
    refine h_ireturn C hr hk dX9_spare_9 ?_
    exact ⟨rfl, (fun j hj0 hj1 hj2 hj3 => ((hF1 j hj0 hj1 hj2 hj3).trans rfl))⟩
abbrev rX9_law : Room := { frames := 4, cells := 0, slots := 0, locals := 85 }
abbrev pX9_law (z : Nat) (σ : hpMem) : Option Value → hpMem → Prop := fun r τ => r = some (.int (hpI (-2))) ∧ (∀ j : Nat, j ≠ 195 → j ≠ 202 → j ≠ 203 → j ≠ 204 → τ j = σ j)
set_option maxHeartbeats 4000000 in
set_option maxRecDepth 20000 in
theorem tX9_law (l : Launch) (D : va_G) (cy : Nat → ClassId) (z : Nat) (σ : hpMem) (hz_196 : ∀ i : Nat, σ 196 i = 0) : hpM l D cy z yX9_law cX9_law 3 (some .int) rX9_law [.ref (z + 195)] σ (pX9_law z σ) := by
  refine hp_met rfl (Nat.le_of_ble_eq_true rfl) (fun p e s m below meth c C hr hk => ?_)
  refine h_aload_n C dX9_law_0 0 rfl rfl ?_
  refine h_callV (As := []) (rest := []) C yyX9_asksMoor wd_1516 (tX9_asksMoor l D cy z _ (fun i => (hz_196 i))) kd_195 rfl rfl ⟨rfl, rfl, Nat.le_of_ble_eq_true rfl, Nat.le_of_ble_eq_true rfl⟩ ⟨Nat.le_of_ble_eq_true rfl, Nat.le_of_ble_eq_true rfl⟩ (Nat.le_of_ble_eq_true rfl) dX9_law_1 (fun r1 τ1 hp1 => ?_)
  obtain ⟨rfl, hF1, hw1_0⟩ := hp1
  show hpV _ _ _ _ _ _ _ _ _ _ _ _ _ _ _ _ _ _ _ _ _ (_ :: _)
  refine h_if_ne (tgt := 10) C dX9_law_4 (by decide) ⟨by decide, by decide⟩ (fun h2 => ?_) (fun h2 => ?_)
  · exfalso; omega
  · refine h_bipush C dX9_law_7 (by decide) ?_
    refine h_ireturn C hr hk dX9_law_9 ?_
    exact ⟨rfl, (fun j hj0 hj1 hj2 hj3 => ((hF1 j hj0 hj1 hj2 hj3).trans rfl))⟩
abbrev rX9_heaps : Room := { frames := 5, cells := 0, slots := 0, locals := 106 }
abbrev pX9_heaps (z : Nat) (σ : hpMem) (a : Int) : Option Value → hpMem → Prop := fun r τ => r = some (.int (hpI (-2))) ∧ (∀ j : Nat, j ≠ 195 → j ≠ 202 → j ≠ 203 → j ≠ 204 → τ j = σ j)
set_option maxHeartbeats 4000000 in
set_option maxRecDepth 20000 in
theorem tX9_heaps (l : Launch) (D : va_G) (cy : Nat → ClassId) (z : Nat) (σ : hpMem) (a : Int) (ha : hpR a) (hz_196 : ∀ i : Nat, σ 196 i = 0) : hpM l D cy z yX9_heaps cX9_heaps 2 (some .int) rX9_heaps [.ref (z + 195), .int (hpI a)] σ (pX9_heaps z σ a) := by
  obtain ⟨ha1, ha2⟩ := ha
  refine hp_met rfl (Nat.le_of_ble_eq_true rfl) (fun p e s m below meth c C hr hk => ?_)
  refine h_aload_n C dX9_heaps_0 0 rfl rfl ?_
  refine h_iload_n C dX9_heaps_1 1 rfl rfl ?_
  refine h_callV (As := [.int (hpI a)]) (rest := []) C yyX9_asksDay wd_1512 (tX9_asksDay l D cy z _ a ⟨by omega, by omega⟩ (fun i => (hz_196 i))) kd_195 rfl rfl ⟨rfl, rfl, Nat.le_of_ble_eq_true rfl, Nat.le_of_ble_eq_true rfl⟩ ⟨Nat.le_of_ble_eq_true rfl, Nat.le_of_ble_eq_true rfl⟩ (Nat.le_of_ble_eq_true rfl) dX9_heaps_2 (fun r1 τ1 hp1 => ?_)
  obtain ⟨rfl, hF1, hw1_0⟩ := hp1
  show hpV _ _ _ _ _ _ _ _ _ _ _ _ _ _ _ _ _ _ _ _ _ (_ :: _)
  refine h_if_eq (tgt := 16) C dX9_heaps_5 (by decide) ⟨by decide, by decide⟩ (fun h2 => ?_) (fun h2 => ?_)
  · refine h_bipush C dX9_heaps_16 (by decide) ?_
    refine h_ireturn C hr hk dX9_heaps_18 ?_
    exact ⟨rfl, (fun j hj0 hj1 hj2 hj3 => ((hF1 j hj0 hj1 hj2 hj3).trans rfl))⟩
  · exfalso; omega
abbrev rX9_all : Room := { frames := 5, cells := 0, slots := 0, locals := 106 }
abbrev pX9_all (z : Nat) (σ : hpMem) (a : Int) : Option Value → hpMem → Prop := fun r τ => r = some (.int (hpI (-2))) ∧ (∀ j : Nat, j ≠ 195 → j ≠ 202 → j ≠ 203 → j ≠ 204 → τ j = σ j)
set_option maxHeartbeats 4000000 in
set_option maxRecDepth 20000 in
theorem tX9_all (l : Launch) (D : va_G) (cy : Nat → ClassId) (z : Nat) (σ : hpMem) (a : Int) (ha : hpR a) (hz_196 : ∀ i : Nat, σ 196 i = 0) : hpM l D cy z yX9_all cX9_all 2 (some .int) rX9_all [.ref (z + 195), .int (hpI a)] σ (pX9_all z σ a) := by
  obtain ⟨ha1, ha2⟩ := ha
  refine hp_met rfl (Nat.le_of_ble_eq_true rfl) (fun p e s m below meth c C hr hk => ?_)
  refine h_aload_n C dX9_all_0 0 rfl rfl ?_
  refine h_iload_n C dX9_all_1 1 rfl rfl ?_
  refine h_callV (As := [.int (hpI a)]) (rest := []) C yyX9_asksDay wd_1512 (tX9_asksDay l D cy z _ a ⟨by omega, by omega⟩ (fun i => (hz_196 i))) kd_195 rfl rfl ⟨rfl, rfl, Nat.le_of_ble_eq_true rfl, Nat.le_of_ble_eq_true rfl⟩ ⟨Nat.le_of_ble_eq_true rfl, Nat.le_of_ble_eq_true rfl⟩ (Nat.le_of_ble_eq_true rfl) dX9_all_2 (fun r1 τ1 hp1 => ?_)
  obtain ⟨rfl, hF1, hw1_0⟩ := hp1
  show hpV _ _ _ _ _ _ _ _ _ _ _ _ _ _ _ _ _ _ _ _ _ (_ :: _)
  refine h_if_eq (tgt := 16) C dX9_all_5 (by decide) ⟨by decide, by decide⟩ (fun h2 => ?_) (fun h2 => ?_)
  · refine h_bipush C dX9_all_16 (by decide) ?_
    refine h_ireturn C hr hk dX9_all_18 ?_
    exact ⟨rfl, (fun j hj0 hj1 hj2 hj3 => ((hF1 j hj0 hj1 hj2 hj3).trans rfl))⟩
  · exfalso; omega
abbrev rX9_sorts : Room := { frames := 5, cells := 0, slots := 0, locals := 106 }
abbrev pX9_sorts (z : Nat) (σ : hpMem) (a : Int) : Option Value → hpMem → Prop := fun r τ => r = some (.int (hpI (-2))) ∧ (∀ j : Nat, j ≠ 195 → j ≠ 202 → j ≠ 203 → j ≠ 204 → τ j = σ j)
set_option maxHeartbeats 4000000 in
set_option maxRecDepth 20000 in
theorem tX9_sorts (l : Launch) (D : va_G) (cy : Nat → ClassId) (z : Nat) (σ : hpMem) (a : Int) (ha : hpR a) (hz_196 : ∀ i : Nat, σ 196 i = 0) : hpM l D cy z yX9_sorts cX9_sorts 4 (some .int) rX9_sorts [.ref (z + 195), .int (hpI a)] σ (pX9_sorts z σ a) := by
  obtain ⟨ha1, ha2⟩ := ha
  refine hp_met rfl (Nat.le_of_ble_eq_true rfl) (fun p e s m below meth c C hr hk => ?_)
  refine h_aload_n C dX9_sorts_0 0 rfl rfl ?_
  refine h_iload_n C dX9_sorts_1 1 rfl rfl ?_
  refine h_callV (As := [.int (hpI a)]) (rest := []) C yyX9_asksDay wd_1512 (tX9_asksDay l D cy z _ a ⟨by omega, by omega⟩ (fun i => (hz_196 i))) kd_195 rfl rfl ⟨rfl, rfl, Nat.le_of_ble_eq_true rfl, Nat.le_of_ble_eq_true rfl⟩ ⟨Nat.le_of_ble_eq_true rfl, Nat.le_of_ble_eq_true rfl⟩ (Nat.le_of_ble_eq_true rfl) dX9_sorts_2 (fun r1 τ1 hp1 => ?_)
  obtain ⟨rfl, hF1, hw1_0⟩ := hp1
  show hpV _ _ _ _ _ _ _ _ _ _ _ _ _ _ _ _ _ _ _ _ _ (_ :: _)
  refine h_if_ne (tgt := 11) C dX9_sorts_5 (by decide) ⟨by decide, by decide⟩ (fun h2 => ?_) (fun h2 => ?_)
  · exfalso; omega
  · refine h_bipush C dX9_sorts_8 (by decide) ?_
    refine h_ireturn C hr hk dX9_sorts_10 ?_
    exact ⟨rfl, (fun j hj0 hj1 hj2 hj3 => ((hF1 j hj0 hj1 hj2 hj3).trans rfl))⟩
abbrev rX9_spread : Room := { frames := 5, cells := 0, slots := 0, locals := 106 }
abbrev pX9_spread (z : Nat) (σ : hpMem) (a : Int) : Option Value → hpMem → Prop := fun r τ => r = some (.int (hpI (-2))) ∧ (∀ j : Nat, j ≠ 195 → j ≠ 202 → j ≠ 203 → j ≠ 204 → τ j = σ j)
set_option maxHeartbeats 4000000 in
set_option maxRecDepth 20000 in
theorem tX9_spread (l : Launch) (D : va_G) (cy : Nat → ClassId) (z : Nat) (σ : hpMem) (a : Int) (ha : hpR a) (hz_196 : ∀ i : Nat, σ 196 i = 0) : hpM l D cy z yX9_spread cX9_spread 2 (some .int) rX9_spread [.ref (z + 195), .int (hpI a)] σ (pX9_spread z σ a) := by
  obtain ⟨ha1, ha2⟩ := ha
  refine hp_met rfl (Nat.le_of_ble_eq_true rfl) (fun p e s m below meth c C hr hk => ?_)
  refine h_aload_n C dX9_spread_0 0 rfl rfl ?_
  refine h_iload_n C dX9_spread_1 1 rfl rfl ?_
  refine h_callV (As := [.int (hpI a)]) (rest := []) C yyX9_asksDay wd_1512 (tX9_asksDay l D cy z _ a ⟨by omega, by omega⟩ (fun i => (hz_196 i))) kd_195 rfl rfl ⟨rfl, rfl, Nat.le_of_ble_eq_true rfl, Nat.le_of_ble_eq_true rfl⟩ ⟨Nat.le_of_ble_eq_true rfl, Nat.le_of_ble_eq_true rfl⟩ (Nat.le_of_ble_eq_true rfl) dX9_spread_2 (fun r1 τ1 hp1 => ?_)
  obtain ⟨rfl, hF1, hw1_0⟩ := hp1
  show hpV _ _ _ _ _ _ _ _ _ _ _ _ _ _ _ _ _ _ _ _ _ (_ :: _)
  refine h_if_ne (tgt := 11) C dX9_spread_5 (by decide) ⟨by decide, by decide⟩ (fun h2 => ?_) (fun h2 => ?_)
  · exfalso; omega
  · refine h_bipush C dX9_spread_8 (by decide) ?_
    refine h_ireturn C hr hk dX9_spread_10 ?_
    exact ⟨rfl, (fun j hj0 hj1 hj2 hj3 => ((hF1 j hj0 hj1 hj2 hj3).trans rfl))⟩
abbrev rX9_odd : Room := { frames := 5, cells := 0, slots := 0, locals := 106 }
abbrev pX9_odd (z : Nat) (σ : hpMem) (a : Int) : Option Value → hpMem → Prop := fun r τ => r = some (.int (hpI (-2))) ∧ (∀ j : Nat, j ≠ 195 → j ≠ 202 → j ≠ 203 → j ≠ 204 → τ j = σ j)
set_option maxHeartbeats 4000000 in
set_option maxRecDepth 20000 in
theorem tX9_odd (l : Launch) (D : va_G) (cy : Nat → ClassId) (z : Nat) (σ : hpMem) (a : Int) (ha : hpR a) (hz_196 : ∀ i : Nat, σ 196 i = 0) : hpM l D cy z yX9_odd cX9_odd 4 (some .int) rX9_odd [.ref (z + 195), .int (hpI a)] σ (pX9_odd z σ a) := by
  obtain ⟨ha1, ha2⟩ := ha
  refine hp_met rfl (Nat.le_of_ble_eq_true rfl) (fun p e s m below meth c C hr hk => ?_)
  refine h_aload_n C dX9_odd_0 0 rfl rfl ?_
  refine h_iload_n C dX9_odd_1 1 rfl rfl ?_
  refine h_callV (As := [.int (hpI a)]) (rest := []) C yyX9_asksDay wd_1512 (tX9_asksDay l D cy z _ a ⟨by omega, by omega⟩ (fun i => (hz_196 i))) kd_195 rfl rfl ⟨rfl, rfl, Nat.le_of_ble_eq_true rfl, Nat.le_of_ble_eq_true rfl⟩ ⟨Nat.le_of_ble_eq_true rfl, Nat.le_of_ble_eq_true rfl⟩ (Nat.le_of_ble_eq_true rfl) dX9_odd_2 (fun r1 τ1 hp1 => ?_)
  obtain ⟨rfl, hF1, hw1_0⟩ := hp1
  show hpV _ _ _ _ _ _ _ _ _ _ _ _ _ _ _ _ _ _ _ _ _ (_ :: _)
  refine h_if_ne (tgt := 11) C dX9_odd_5 (by decide) ⟨by decide, by decide⟩ (fun h2 => ?_) (fun h2 => ?_)
  · exfalso; omega
  · refine h_bipush C dX9_odd_8 (by decide) ?_
    refine h_ireturn C hr hk dX9_odd_10 ?_
    exact ⟨rfl, (fun j hj0 hj1 hj2 hj3 => ((hF1 j hj0 hj1 hj2 hj3).trans rfl))⟩
abbrev rX9_taken : Room := { frames := 4, cells := 0, slots := 0, locals := 85 }
abbrev pX9_taken (z : Nat) (σ : hpMem) (a : Int) : Option Value → hpMem → Prop := fun r τ => r = some (.int (hpI (-2))) ∧ (∀ j : Nat, j ≠ 195 → j ≠ 202 → j ≠ 203 → j ≠ 204 → τ j = σ j)
set_option maxHeartbeats 4000000 in
set_option maxRecDepth 20000 in
theorem tX9_taken (l : Launch) (D : va_G) (cy : Nat → ClassId) (z : Nat) (σ : hpMem) (a : Int) (ha : hpR a) (hz_196 : ∀ i : Nat, σ 196 i = 0) : hpM l D cy z yX9_taken cX9_taken 2 (some .int) rX9_taken [.ref (z + 195), .int (hpI a)] σ (pX9_taken z σ a) := by
  obtain ⟨ha1, ha2⟩ := ha
  refine hp_met rfl (Nat.le_of_ble_eq_true rfl) (fun p e s m below meth c C hr hk => ?_)
  refine h_aload_n C dX9_taken_0 0 rfl rfl ?_
  refine h_callV (As := []) (rest := []) C yyX9_asksMoor wd_1516 (tX9_asksMoor l D cy z _ (fun i => (hz_196 i))) kd_195 rfl rfl ⟨rfl, rfl, Nat.le_of_ble_eq_true rfl, Nat.le_of_ble_eq_true rfl⟩ ⟨Nat.le_of_ble_eq_true rfl, Nat.le_of_ble_eq_true rfl⟩ (Nat.le_of_ble_eq_true rfl) dX9_taken_1 (fun r1 τ1 hp1 => ?_)
  obtain ⟨rfl, hF1, hw1_0⟩ := hp1
  show hpV _ _ _ _ _ _ _ _ _ _ _ _ _ _ _ _ _ _ _ _ _ (_ :: _)
  refine h_pop C rfl dX9_taken_4 ?_
  refine h_aload_n C dX9_taken_5 0 rfl rfl ?_
  refine h_iload_n C dX9_taken_6 1 rfl rfl ?_
  refine h_i2l C dX9_taken_7 ⟨by omega, by omega⟩ ?_
  refine h_callV (As := [.long (hpJ a)]) (rest := []) C yyX9_isAhead wd_1612 (tX9_isAhead l D cy z _ a ⟨by omega, by omega⟩ (fun i => (hw1_0 i))) kd_195 rfl rfl ⟨rfl, rfl, Nat.le_of_ble_eq_true rfl, Nat.le_of_ble_eq_true rfl⟩ ⟨Nat.le_of_ble_eq_true rfl, Nat.le_of_ble_eq_true rfl⟩ (Nat.le_of_ble_eq_true rfl) dX9_taken_8 (fun r2 τ2 hp2 => ?_)
  obtain ⟨rfl, rfl⟩ := hp2
  show hpV _ _ _ _ _ _ _ _ _ _ _ _ _ _ _ _ _ _ _ _ _ (_ :: _)
  refine h_if_eq (tgt := 23) C dX9_taken_11 (by decide) ⟨by decide, by decide⟩ (fun h3 => ?_) (fun h3 => ?_)
  · refine h_bipush C dX9_taken_23 (by decide) ?_
    refine h_ireturn C hr hk dX9_taken_25 ?_
    exact ⟨rfl, (fun j hj0 hj1 hj2 hj3 => ((hF1 j hj0 hj1 hj2 hj3).trans rfl))⟩
  · exfalso; omega
abbrev rX9_gone : Room := { frames := 4, cells := 0, slots := 0, locals := 85 }
abbrev pX9_gone (z : Nat) (σ : hpMem) (a : Int) : Option Value → hpMem → Prop := fun r τ => r = some (.int (hpI (-2))) ∧ (∀ j : Nat, j ≠ 195 → j ≠ 202 → j ≠ 203 → j ≠ 204 → τ j = σ j)
set_option maxHeartbeats 4000000 in
set_option maxRecDepth 20000 in
theorem tX9_gone (l : Launch) (D : va_G) (cy : Nat → ClassId) (z : Nat) (σ : hpMem) (a : Int) (ha : hpR a) (hz_196 : ∀ i : Nat, σ 196 i = 0) : hpM l D cy z yX9_gone cX9_gone 2 (some .int) rX9_gone [.ref (z + 195), .int (hpI a)] σ (pX9_gone z σ a) := by
  obtain ⟨ha1, ha2⟩ := ha
  refine hp_met rfl (Nat.le_of_ble_eq_true rfl) (fun p e s m below meth c C hr hk => ?_)
  refine h_aload_n C dX9_gone_0 0 rfl rfl ?_
  refine h_callV (As := []) (rest := []) C yyX9_asksMoor wd_1516 (tX9_asksMoor l D cy z _ (fun i => (hz_196 i))) kd_195 rfl rfl ⟨rfl, rfl, Nat.le_of_ble_eq_true rfl, Nat.le_of_ble_eq_true rfl⟩ ⟨Nat.le_of_ble_eq_true rfl, Nat.le_of_ble_eq_true rfl⟩ (Nat.le_of_ble_eq_true rfl) dX9_gone_1 (fun r1 τ1 hp1 => ?_)
  obtain ⟨rfl, hF1, hw1_0⟩ := hp1
  show hpV _ _ _ _ _ _ _ _ _ _ _ _ _ _ _ _ _ _ _ _ _ (_ :: _)
  refine h_pop C rfl dX9_gone_4 ?_
  refine h_aload_n C dX9_gone_5 0 rfl rfl ?_
  refine h_iload_n C dX9_gone_6 1 rfl rfl ?_
  refine h_i2l C dX9_gone_7 ⟨by omega, by omega⟩ ?_
  refine h_callV (As := [.long (hpJ a)]) (rest := []) C yyX9_isAhead wd_1612 (tX9_isAhead l D cy z _ a ⟨by omega, by omega⟩ (fun i => (hw1_0 i))) kd_195 rfl rfl ⟨rfl, rfl, Nat.le_of_ble_eq_true rfl, Nat.le_of_ble_eq_true rfl⟩ ⟨Nat.le_of_ble_eq_true rfl, Nat.le_of_ble_eq_true rfl⟩ (Nat.le_of_ble_eq_true rfl) dX9_gone_8 (fun r2 τ2 hp2 => ?_)
  obtain ⟨rfl, rfl⟩ := hp2
  show hpV _ _ _ _ _ _ _ _ _ _ _ _ _ _ _ _ _ _ _ _ _ (_ :: _)
  refine h_if_eq (tgt := 23) C dX9_gone_11 (by decide) ⟨by decide, by decide⟩ (fun h3 => ?_) (fun h3 => ?_)
  · refine h_bipush C dX9_gone_23 (by decide) ?_
    refine h_ireturn C hr hk dX9_gone_25 ?_
    exact ⟨rfl, (fun j hj0 hj1 hj2 hj3 => ((hF1 j hj0 hj1 hj2 hj3).trans rfl))⟩
  · exfalso; omega
abbrev rX9_same : Room := { frames := 5, cells := 0, slots := 0, locals := 106 }
abbrev pX9_same (z : Nat) (σ : hpMem) (a : Int) : Option Value → hpMem → Prop := fun r τ => r = some (.int (hpI (-2))) ∧ (∀ j : Nat, j ≠ 195 → j ≠ 202 → j ≠ 203 → j ≠ 204 → τ j = σ j)
set_option maxHeartbeats 4000000 in
set_option maxRecDepth 20000 in
theorem tX9_same (l : Launch) (D : va_G) (cy : Nat → ClassId) (z : Nat) (σ : hpMem) (a : Int) (ha : hpR a) (hz_196 : ∀ i : Nat, σ 196 i = 0) : hpM l D cy z yX9_same cX9_same 2 (some .int) rX9_same [.ref (z + 195), .int (hpI a)] σ (pX9_same z σ a) := by
  obtain ⟨ha1, ha2⟩ := ha
  refine hp_met rfl (Nat.le_of_ble_eq_true rfl) (fun p e s m below meth c C hr hk => ?_)
  refine h_aload_n C dX9_same_0 0 rfl rfl ?_
  refine h_iload_n C dX9_same_1 1 rfl rfl ?_
  refine h_callV (As := [.int (hpI a)]) (rest := []) C yyX9_asksDay wd_1512 (tX9_asksDay l D cy z _ a ⟨by omega, by omega⟩ (fun i => (hz_196 i))) kd_195 rfl rfl ⟨rfl, rfl, Nat.le_of_ble_eq_true rfl, Nat.le_of_ble_eq_true rfl⟩ ⟨Nat.le_of_ble_eq_true rfl, Nat.le_of_ble_eq_true rfl⟩ (Nat.le_of_ble_eq_true rfl) dX9_same_2 (fun r1 τ1 hp1 => ?_)
  obtain ⟨rfl, hF1, hw1_0⟩ := hp1
  show hpV _ _ _ _ _ _ _ _ _ _ _ _ _ _ _ _ _ _ _ _ _ (_ :: _)
  refine h_if_eq (tgt := 16) C dX9_same_5 (by decide) ⟨by decide, by decide⟩ (fun h2 => ?_) (fun h2 => ?_)
  · refine h_bipush C dX9_same_16 (by decide) ?_
    refine h_ireturn C hr hk dX9_same_18 ?_
    exact ⟨rfl, (fun j hj0 hj1 hj2 hj3 => ((hF1 j hj0 hj1 hj2 hj3).trans rfl))⟩
  · exfalso; omega
abbrev rX9_stair : Room := { frames := 5, cells := 0, slots := 0, locals := 106 }
abbrev pX9_stair (z : Nat) (σ : hpMem) (a : Int) : Option Value → hpMem → Prop := fun r τ => r = some (.int (hpI (-2))) ∧ (∀ j : Nat, j ≠ 195 → j ≠ 202 → j ≠ 203 → j ≠ 204 → τ j = σ j)
set_option maxHeartbeats 4000000 in
set_option maxRecDepth 20000 in
theorem tX9_stair (l : Launch) (D : va_G) (cy : Nat → ClassId) (z : Nat) (σ : hpMem) (a : Int) (ha : hpR a) (hz_196 : ∀ i : Nat, σ 196 i = 0) : hpM l D cy z yX9_stair cX9_stair 2 (some .int) rX9_stair [.ref (z + 195), .int (hpI a)] σ (pX9_stair z σ a) := by
  obtain ⟨ha1, ha2⟩ := ha
  refine hp_met rfl (Nat.le_of_ble_eq_true rfl) (fun p e s m below meth c C hr hk => ?_)
  refine h_aload_n C dX9_stair_0 0 rfl rfl ?_
  refine h_iload_n C dX9_stair_1 1 rfl rfl ?_
  refine h_callV (As := [.int (hpI a)]) (rest := []) C yyX9_asksDay wd_1512 (tX9_asksDay l D cy z _ a ⟨by omega, by omega⟩ (fun i => (hz_196 i))) kd_195 rfl rfl ⟨rfl, rfl, Nat.le_of_ble_eq_true rfl, Nat.le_of_ble_eq_true rfl⟩ ⟨Nat.le_of_ble_eq_true rfl, Nat.le_of_ble_eq_true rfl⟩ (Nat.le_of_ble_eq_true rfl) dX9_stair_2 (fun r1 τ1 hp1 => ?_)
  obtain ⟨rfl, hF1, hw1_0⟩ := hp1
  show hpV _ _ _ _ _ _ _ _ _ _ _ _ _ _ _ _ _ _ _ _ _ (_ :: _)
  refine h_if_ne (tgt := 11) C dX9_stair_5 (by decide) ⟨by decide, by decide⟩ (fun h2 => ?_) (fun h2 => ?_)
  · exfalso; omega
  · refine h_bipush C dX9_stair_8 (by decide) ?_
    refine h_ireturn C hr hk dX9_stair_10 ?_
    exact ⟨rfl, (fun j hj0 hj1 hj2 hj3 => ((hF1 j hj0 hj1 hj2 hj3).trans rfl))⟩
abbrev rX9_square : Room := { frames := 5, cells := 0, slots := 0, locals := 106 }
abbrev pX9_square (z : Nat) (σ : hpMem) (a : Int) : Option Value → hpMem → Prop := fun r τ => r = some (.int (hpI (-2))) ∧ (∀ j : Nat, j ≠ 195 → j ≠ 202 → j ≠ 203 → j ≠ 204 → τ j = σ j)
set_option maxHeartbeats 4000000 in
set_option maxRecDepth 20000 in
theorem tX9_square (l : Launch) (D : va_G) (cy : Nat → ClassId) (z : Nat) (σ : hpMem) (a : Int) (ha : hpR a) (hz_196 : ∀ i : Nat, σ 196 i = 0) : hpM l D cy z yX9_square cX9_square 3 (some .int) rX9_square [.ref (z + 195), .int (hpI a)] σ (pX9_square z σ a) := by
  obtain ⟨ha1, ha2⟩ := ha
  refine hp_met rfl (Nat.le_of_ble_eq_true rfl) (fun p e s m below meth c C hr hk => ?_)
  refine h_aload_n C dX9_square_0 0 rfl rfl ?_
  refine h_iload_n C dX9_square_1 1 rfl rfl ?_
  refine h_callV (As := [.int (hpI a)]) (rest := []) C yyX9_asksDay wd_1512 (tX9_asksDay l D cy z _ a ⟨by omega, by omega⟩ (fun i => (hz_196 i))) kd_195 rfl rfl ⟨rfl, rfl, Nat.le_of_ble_eq_true rfl, Nat.le_of_ble_eq_true rfl⟩ ⟨Nat.le_of_ble_eq_true rfl, Nat.le_of_ble_eq_true rfl⟩ (Nat.le_of_ble_eq_true rfl) dX9_square_2 (fun r1 τ1 hp1 => ?_)
  obtain ⟨rfl, hF1, hw1_0⟩ := hp1
  show hpV _ _ _ _ _ _ _ _ _ _ _ _ _ _ _ _ _ _ _ _ _ (_ :: _)
  refine h_if_ne (tgt := 11) C dX9_square_5 (by decide) ⟨by decide, by decide⟩ (fun h2 => ?_) (fun h2 => ?_)
  · exfalso; omega
  · refine h_bipush C dX9_square_8 (by decide) ?_
    refine h_ireturn C hr hk dX9_square_10 ?_
    exact ⟨rfl, (fun j hj0 hj1 hj2 hj3 => ((hF1 j hj0 hj1 hj2 hj3).trans rfl))⟩
abbrev rX9_even : Room := { frames := 5, cells := 0, slots := 0, locals := 106 }
abbrev pX9_even (z : Nat) (σ : hpMem) (a : Int) : Option Value → hpMem → Prop := fun r τ => r = some (.int (hpI (-2))) ∧ (∀ j : Nat, j ≠ 195 → j ≠ 202 → j ≠ 203 → j ≠ 204 → τ j = σ j)
set_option maxHeartbeats 4000000 in
set_option maxRecDepth 20000 in
theorem tX9_even (l : Launch) (D : va_G) (cy : Nat → ClassId) (z : Nat) (σ : hpMem) (a : Int) (ha : hpR a) (hz_196 : ∀ i : Nat, σ 196 i = 0) : hpM l D cy z yX9_even cX9_even 4 (some .int) rX9_even [.ref (z + 195), .int (hpI a)] σ (pX9_even z σ a) := by
  obtain ⟨ha1, ha2⟩ := ha
  refine hp_met rfl (Nat.le_of_ble_eq_true rfl) (fun p e s m below meth c C hr hk => ?_)
  refine h_aload_n C dX9_even_0 0 rfl rfl ?_
  refine h_iload_n C dX9_even_1 1 rfl rfl ?_
  refine h_callV (As := [.int (hpI a)]) (rest := []) C yyX9_asksDay wd_1512 (tX9_asksDay l D cy z _ a ⟨by omega, by omega⟩ (fun i => (hz_196 i))) kd_195 rfl rfl ⟨rfl, rfl, Nat.le_of_ble_eq_true rfl, Nat.le_of_ble_eq_true rfl⟩ ⟨Nat.le_of_ble_eq_true rfl, Nat.le_of_ble_eq_true rfl⟩ (Nat.le_of_ble_eq_true rfl) dX9_even_2 (fun r1 τ1 hp1 => ?_)
  obtain ⟨rfl, hF1, hw1_0⟩ := hp1
  show hpV _ _ _ _ _ _ _ _ _ _ _ _ _ _ _ _ _ _ _ _ _ (_ :: _)
  refine h_if_ne (tgt := 11) C dX9_even_5 (by decide) ⟨by decide, by decide⟩ (fun h2 => ?_) (fun h2 => ?_)
  · exfalso; omega
  · refine h_bipush C dX9_even_8 (by decide) ?_
    refine h_ireturn C hr hk dX9_even_10 ?_
    exact ⟨rfl, (fun j hj0 hj1 hj2 hj3 => ((hF1 j hj0 hj1 hj2 hj3).trans rfl))⟩
abbrev rX9_tail : Room := { frames := 5, cells := 0, slots := 0, locals := 106 }
abbrev pX9_tail (z : Nat) (σ : hpMem) (a : Int) : Option Value → hpMem → Prop := fun r τ => r = some (.int (hpI (-2))) ∧ (∀ j : Nat, j ≠ 195 → j ≠ 202 → j ≠ 203 → j ≠ 204 → τ j = σ j)
set_option maxHeartbeats 4000000 in
set_option maxRecDepth 20000 in
theorem tX9_tail (l : Launch) (D : va_G) (cy : Nat → ClassId) (z : Nat) (σ : hpMem) (a : Int) (ha : hpR a) (hz_196 : ∀ i : Nat, σ 196 i = 0) : hpM l D cy z yX9_tail cX9_tail 2 (some .int) rX9_tail [.ref (z + 195), .int (hpI a)] σ (pX9_tail z σ a) := by
  obtain ⟨ha1, ha2⟩ := ha
  refine hp_met rfl (Nat.le_of_ble_eq_true rfl) (fun p e s m below meth c C hr hk => ?_)
  refine h_aload_n C dX9_tail_0 0 rfl rfl ?_
  refine h_iload_n C dX9_tail_1 1 rfl rfl ?_
  refine h_callV (As := [.int (hpI a)]) (rest := []) C yyX9_asksDay wd_1512 (tX9_asksDay l D cy z _ a ⟨by omega, by omega⟩ (fun i => (hz_196 i))) kd_195 rfl rfl ⟨rfl, rfl, Nat.le_of_ble_eq_true rfl, Nat.le_of_ble_eq_true rfl⟩ ⟨Nat.le_of_ble_eq_true rfl, Nat.le_of_ble_eq_true rfl⟩ (Nat.le_of_ble_eq_true rfl) dX9_tail_2 (fun r1 τ1 hp1 => ?_)
  obtain ⟨rfl, hF1, hw1_0⟩ := hp1
  show hpV _ _ _ _ _ _ _ _ _ _ _ _ _ _ _ _ _ _ _ _ _ (_ :: _)
  refine h_if_ne (tgt := 11) C dX9_tail_5 (by decide) ⟨by decide, by decide⟩ (fun h2 => ?_) (fun h2 => ?_)
  · exfalso; omega
  · refine h_bipush C dX9_tail_8 (by decide) ?_
    refine h_ireturn C hr hk dX9_tail_10 ?_
    exact ⟨rfl, (fun j hj0 hj1 hj2 hj3 => ((hF1 j hj0 hj1 hj2 hj3).trans rfl))⟩
abbrev rX9_length : Room := { frames := 5, cells := 0, slots := 0, locals := 106 }
abbrev pX9_length (z : Nat) (σ : hpMem) (a : Int) : Option Value → hpMem → Prop := fun r τ => r = some (.int (hpI (-2))) ∧ (∀ j : Nat, j ≠ 195 → j ≠ 202 → j ≠ 203 → j ≠ 204 → τ j = σ j)
set_option maxHeartbeats 4000000 in
set_option maxRecDepth 20000 in
theorem tX9_length (l : Launch) (D : va_G) (cy : Nat → ClassId) (z : Nat) (σ : hpMem) (a : Int) (ha : hpR a) (hz_196 : ∀ i : Nat, σ 196 i = 0) : hpM l D cy z yX9_length cX9_length 2 (some .int) rX9_length [.ref (z + 195), .int (hpI a)] σ (pX9_length z σ a) := by
  obtain ⟨ha1, ha2⟩ := ha
  refine hp_met rfl (Nat.le_of_ble_eq_true rfl) (fun p e s m below meth c C hr hk => ?_)
  refine h_aload_n C dX9_length_0 0 rfl rfl ?_
  refine h_iload_n C dX9_length_1 1 rfl rfl ?_
  refine h_callV (As := [.int (hpI a)]) (rest := []) C yyX9_asksDay wd_1512 (tX9_asksDay l D cy z _ a ⟨by omega, by omega⟩ (fun i => (hz_196 i))) kd_195 rfl rfl ⟨rfl, rfl, Nat.le_of_ble_eq_true rfl, Nat.le_of_ble_eq_true rfl⟩ ⟨Nat.le_of_ble_eq_true rfl, Nat.le_of_ble_eq_true rfl⟩ (Nat.le_of_ble_eq_true rfl) dX9_length_2 (fun r1 τ1 hp1 => ?_)
  obtain ⟨rfl, hF1, hw1_0⟩ := hp1
  show hpV _ _ _ _ _ _ _ _ _ _ _ _ _ _ _ _ _ _ _ _ _ (_ :: _)
  refine h_if_ne (tgt := 11) C dX9_length_5 (by decide) ⟨by decide, by decide⟩ (fun h2 => ?_) (fun h2 => ?_)
  · exfalso; omega
  · refine h_bipush C dX9_length_8 (by decide) ?_
    refine h_ireturn C hr hk dX9_length_10 ?_
    exact ⟨rfl, (fun j hj0 hj1 hj2 hj3 => ((hF1 j hj0 hj1 hj2 hj3).trans rfl))⟩
abbrev rX9_ring : Room := { frames := 5, cells := 0, slots := 0, locals := 106 }
abbrev pX9_ring (z : Nat) (σ : hpMem) (a : Int) : Option Value → hpMem → Prop := fun r τ => r = some (.int (hpI (-2))) ∧ (∀ j : Nat, j ≠ 195 → j ≠ 202 → j ≠ 203 → j ≠ 204 → τ j = σ j)
set_option maxHeartbeats 4000000 in
set_option maxRecDepth 20000 in
theorem tX9_ring (l : Launch) (D : va_G) (cy : Nat → ClassId) (z : Nat) (σ : hpMem) (a : Int) (ha : hpR a) (hz_196 : ∀ i : Nat, σ 196 i = 0) : hpM l D cy z yX9_ring cX9_ring 4 (some .int) rX9_ring [.ref (z + 195), .int (hpI a)] σ (pX9_ring z σ a) := by
  obtain ⟨ha1, ha2⟩ := ha
  refine hp_met rfl (Nat.le_of_ble_eq_true rfl) (fun p e s m below meth c C hr hk => ?_)
  refine h_aload_n C dX9_ring_0 0 rfl rfl ?_
  refine h_iload_n C dX9_ring_1 1 rfl rfl ?_
  refine h_callV (As := [.int (hpI a)]) (rest := []) C yyX9_asksDay wd_1512 (tX9_asksDay l D cy z _ a ⟨by omega, by omega⟩ (fun i => (hz_196 i))) kd_195 rfl rfl ⟨rfl, rfl, Nat.le_of_ble_eq_true rfl, Nat.le_of_ble_eq_true rfl⟩ ⟨Nat.le_of_ble_eq_true rfl, Nat.le_of_ble_eq_true rfl⟩ (Nat.le_of_ble_eq_true rfl) dX9_ring_2 (fun r1 τ1 hp1 => ?_)
  obtain ⟨rfl, hF1, hw1_0⟩ := hp1
  show hpV _ _ _ _ _ _ _ _ _ _ _ _ _ _ _ _ _ _ _ _ _ (_ :: _)
  refine h_if_ne (tgt := 11) C dX9_ring_5 (by decide) ⟨by decide, by decide⟩ (fun h2 => ?_) (fun h2 => ?_)
  · exfalso; omega
  · refine h_bipush C dX9_ring_8 (by decide) ?_
    refine h_ireturn C hr hk dX9_ring_10 ?_
    exact ⟨rfl, (fun j hj0 hj1 hj2 hj3 => ((hF1 j hj0 hj1 hj2 hj3).trans rfl))⟩
abbrev rX9_soon : Room := { frames := 5, cells := 0, slots := 0, locals := 106 }
abbrev pX9_soon (z : Nat) (σ : hpMem) (a : Int) : Option Value → hpMem → Prop := fun r τ => r = some (.int (hpI (-2))) ∧ (∀ j : Nat, j ≠ 195 → j ≠ 202 → j ≠ 203 → j ≠ 204 → τ j = σ j)
set_option maxHeartbeats 4000000 in
set_option maxRecDepth 20000 in
theorem tX9_soon (l : Launch) (D : va_G) (cy : Nat → ClassId) (z : Nat) (σ : hpMem) (a : Int) (ha : hpR a) (hz_196 : ∀ i : Nat, σ 196 i = 0) : hpM l D cy z yX9_soon cX9_soon 3 (some .int) rX9_soon [.ref (z + 195), .int (hpI a)] σ (pX9_soon z σ a) := by
  obtain ⟨ha1, ha2⟩ := ha
  refine hp_met rfl (Nat.le_of_ble_eq_true rfl) (fun p e s m below meth c C hr hk => ?_)
  refine h_aload_n C dX9_soon_0 0 rfl rfl ?_
  refine h_iload_n C dX9_soon_1 1 rfl rfl ?_
  refine h_callV (As := [.int (hpI a)]) (rest := []) C yyX9_asksDay wd_1512 (tX9_asksDay l D cy z _ a ⟨by omega, by omega⟩ (fun i => (hz_196 i))) kd_195 rfl rfl ⟨rfl, rfl, Nat.le_of_ble_eq_true rfl, Nat.le_of_ble_eq_true rfl⟩ ⟨Nat.le_of_ble_eq_true rfl, Nat.le_of_ble_eq_true rfl⟩ (Nat.le_of_ble_eq_true rfl) dX9_soon_2 (fun r1 τ1 hp1 => ?_)
  obtain ⟨rfl, hF1, hw1_0⟩ := hp1
  show hpV _ _ _ _ _ _ _ _ _ _ _ _ _ _ _ _ _ _ _ _ _ (_ :: _)
  refine h_if_ne (tgt := 11) C dX9_soon_5 (by decide) ⟨by decide, by decide⟩ (fun h2 => ?_) (fun h2 => ?_)
  · exfalso; omega
  · refine h_bipush C dX9_soon_8 (by decide) ?_
    refine h_ireturn C hr hk dX9_soon_10 ?_
    exact ⟨rfl, (fun j hj0 hj1 hj2 hj3 => ((hF1 j hj0 hj1 hj2 hj3).trans rfl))⟩
abbrev rX9_latest : Room := { frames := 4, cells := 0, slots := 0, locals := 85 }
abbrev pX9_latest (z : Nat) (σ : hpMem) (a : Int) : Option Value → hpMem → Prop := fun r τ => r = some (.int (hpI (-2))) ∧ (∀ j : Nat, j ≠ 195 → j ≠ 202 → j ≠ 203 → j ≠ 204 → τ j = σ j)
set_option maxHeartbeats 4000000 in
set_option maxRecDepth 20000 in
theorem tX9_latest (l : Launch) (D : va_G) (cy : Nat → ClassId) (z : Nat) (σ : hpMem) (a : Int) (ha : hpR a) (hz_196 : ∀ i : Nat, σ 196 i = 0) : hpM l D cy z yX9_latest cX9_latest 3 (some .int) rX9_latest [.ref (z + 195), .int (hpI a)] σ (pX9_latest z σ a) := by
  obtain ⟨ha1, ha2⟩ := ha
  refine hp_met rfl (Nat.le_of_ble_eq_true rfl) (fun p e s m below meth c C hr hk => ?_)
  refine h_aload_n C dX9_latest_0 0 rfl rfl ?_
  refine h_callV (As := []) (rest := []) C yyX9_asksMoor wd_1516 (tX9_asksMoor l D cy z _ (fun i => (hz_196 i))) kd_195 rfl rfl ⟨rfl, rfl, Nat.le_of_ble_eq_true rfl, Nat.le_of_ble_eq_true rfl⟩ ⟨Nat.le_of_ble_eq_true rfl, Nat.le_of_ble_eq_true rfl⟩ (Nat.le_of_ble_eq_true rfl) dX9_latest_1 (fun r1 τ1 hp1 => ?_)
  obtain ⟨rfl, hF1, hw1_0⟩ := hp1
  show hpV _ _ _ _ _ _ _ _ _ _ _ _ _ _ _ _ _ _ _ _ _ (_ :: _)
  refine h_if_eq (tgt := 19) C dX9_latest_4 (by decide) ⟨by decide, by decide⟩ (fun h2 => ?_) (fun h2 => ?_)
  · refine h_bipush C dX9_latest_19 (by decide) ?_
    refine h_ireturn C hr hk dX9_latest_21 ?_
    exact ⟨rfl, (fun j hj0 hj1 hj2 hj3 => ((hF1 j hj0 hj1 hj2 hj3).trans rfl))⟩
  · exfalso; omega
abbrev rX9_by : Room := { frames := 4, cells := 0, slots := 0, locals := 85 }
abbrev pX9_by (z : Nat) (σ : hpMem) (a : Int) : Option Value → hpMem → Prop := fun r τ => r = some (.int (hpI (-2))) ∧ (∀ j : Nat, j ≠ 195 → j ≠ 202 → j ≠ 203 → j ≠ 204 → τ j = σ j)
set_option maxHeartbeats 4000000 in
set_option maxRecDepth 20000 in
theorem tX9_by (l : Launch) (D : va_G) (cy : Nat → ClassId) (z : Nat) (σ : hpMem) (a : Int) (ha : hpR a) (hz_196 : ∀ i : Nat, σ 196 i = 0) : hpM l D cy z yX9_by cX9_by 2 (some .int) rX9_by [.ref (z + 195), .int (hpI a)] σ (pX9_by z σ a) := by
  obtain ⟨ha1, ha2⟩ := ha
  refine hp_met rfl (Nat.le_of_ble_eq_true rfl) (fun p e s m below meth c C hr hk => ?_)
  refine h_aload_n C dX9_by_0 0 rfl rfl ?_
  refine h_callV (As := []) (rest := []) C yyX9_asksMoor wd_1516 (tX9_asksMoor l D cy z _ (fun i => (hz_196 i))) kd_195 rfl rfl ⟨rfl, rfl, Nat.le_of_ble_eq_true rfl, Nat.le_of_ble_eq_true rfl⟩ ⟨Nat.le_of_ble_eq_true rfl, Nat.le_of_ble_eq_true rfl⟩ (Nat.le_of_ble_eq_true rfl) dX9_by_1 (fun r1 τ1 hp1 => ?_)
  obtain ⟨rfl, hF1, hw1_0⟩ := hp1
  show hpV _ _ _ _ _ _ _ _ _ _ _ _ _ _ _ _ _ _ _ _ _ (_ :: _)
  refine h_if_eq (tgt := 27) C dX9_by_4 (by decide) ⟨by decide, by decide⟩ (fun h2 => ?_) (fun h2 => ?_)
  · refine h_bipush C dX9_by_27 (by decide) ?_
    refine h_ireturn C hr hk dX9_by_29 ?_
    exact ⟨rfl, (fun j hj0 hj1 hj2 hj3 => ((hF1 j hj0 hj1 hj2 hj3).trans rfl))⟩
  · exfalso; omega
abbrev rX9_heap : Room := { frames := 5, cells := 0, slots := 0, locals := 106 }
abbrev pX9_heap (z : Nat) (σ : hpMem) (a : Int) (b : Int) : Option Value → hpMem → Prop := fun r τ => r = some (.int (hpI (-2))) ∧ (∀ j : Nat, j ≠ 195 → j ≠ 202 → j ≠ 203 → j ≠ 204 → τ j = σ j)
set_option maxHeartbeats 4000000 in
set_option maxRecDepth 20000 in
theorem tX9_heap (l : Launch) (D : va_G) (cy : Nat → ClassId) (z : Nat) (σ : hpMem) (a : Int) (ha : hpR a) (b : Int) (hb : hpR b) (hz_196 : ∀ i : Nat, σ 196 i = 0) : hpM l D cy z yX9_heap cX9_heap 3 (some .int) rX9_heap [.ref (z + 195), .int (hpI a), .int (hpI b)] σ (pX9_heap z σ a b) := by
  obtain ⟨ha1, ha2⟩ := ha
  obtain ⟨hb1, hb2⟩ := hb
  refine hp_met rfl (Nat.le_of_ble_eq_true rfl) (fun p e s m below meth c C hr hk => ?_)
  refine h_aload_n C dX9_heap_0 0 rfl rfl ?_
  refine h_iload_n C dX9_heap_1 1 rfl rfl ?_
  refine h_callV (As := [.int (hpI a)]) (rest := []) C yyX9_asksDay wd_1512 (tX9_asksDay l D cy z _ a ⟨by omega, by omega⟩ (fun i => (hz_196 i))) kd_195 rfl rfl ⟨rfl, rfl, Nat.le_of_ble_eq_true rfl, Nat.le_of_ble_eq_true rfl⟩ ⟨Nat.le_of_ble_eq_true rfl, Nat.le_of_ble_eq_true rfl⟩ (Nat.le_of_ble_eq_true rfl) dX9_heap_2 (fun r1 τ1 hp1 => ?_)
  obtain ⟨rfl, hF1, hw1_0⟩ := hp1
  show hpV _ _ _ _ _ _ _ _ _ _ _ _ _ _ _ _ _ _ _ _ _ (_ :: _)
  refine h_if_eq (tgt := 12) C dX9_heap_5 (by decide) ⟨by decide, by decide⟩ (fun h2 => ?_) (fun h2 => ?_)
  · refine h_bipush C dX9_heap_12 (by decide) ?_
    refine h_ireturn C hr hk dX9_heap_14 ?_
    exact ⟨rfl, (fun j hj0 hj1 hj2 hj3 => ((hF1 j hj0 hj1 hj2 hj3).trans rfl))⟩
  · exfalso; omega
abbrev rX9_many : Room := { frames := 5, cells := 0, slots := 0, locals := 106 }
abbrev pX9_many (z : Nat) (σ : hpMem) (a : Int) (b : Int) : Option Value → hpMem → Prop := fun r τ => r = some (.int (hpI (-2))) ∧ (∀ j : Nat, j ≠ 195 → j ≠ 202 → j ≠ 203 → j ≠ 204 → τ j = σ j)
set_option maxHeartbeats 4000000 in
set_option maxRecDepth 20000 in
theorem tX9_many (l : Launch) (D : va_G) (cy : Nat → ClassId) (z : Nat) (σ : hpMem) (a : Int) (ha : hpR a) (b : Int) (hb : hpR b) (hz_196 : ∀ i : Nat, σ 196 i = 0) : hpM l D cy z yX9_many cX9_many 5 (some .int) rX9_many [.ref (z + 195), .int (hpI a), .int (hpI b)] σ (pX9_many z σ a b) := by
  obtain ⟨ha1, ha2⟩ := ha
  obtain ⟨hb1, hb2⟩ := hb
  refine hp_met rfl (Nat.le_of_ble_eq_true rfl) (fun p e s m below meth c C hr hk => ?_)
  refine h_aload_n C dX9_many_0 0 rfl rfl ?_
  refine h_iload_n C dX9_many_1 1 rfl rfl ?_
  refine h_callV (As := [.int (hpI a)]) (rest := []) C yyX9_asksDay wd_1512 (tX9_asksDay l D cy z _ a ⟨by omega, by omega⟩ (fun i => (hz_196 i))) kd_195 rfl rfl ⟨rfl, rfl, Nat.le_of_ble_eq_true rfl, Nat.le_of_ble_eq_true rfl⟩ ⟨Nat.le_of_ble_eq_true rfl, Nat.le_of_ble_eq_true rfl⟩ (Nat.le_of_ble_eq_true rfl) dX9_many_2 (fun r1 τ1 hp1 => ?_)
  obtain ⟨rfl, hF1, hw1_0⟩ := hp1
  show hpV _ _ _ _ _ _ _ _ _ _ _ _ _ _ _ _ _ _ _ _ _ (_ :: _)
  refine h_if_eq (tgt := 20) C dX9_many_5 (by decide) ⟨by decide, by decide⟩ (fun h2 => ?_) (fun h2 => ?_)
  · refine h_bipush C dX9_many_20 (by decide) ?_
    refine h_ireturn C hr hk dX9_many_22 ?_
    exact ⟨rfl, (fun j hj0 hj1 hj2 hj3 => ((hF1 j hj0 hj1 hj2 hj3).trans rfl))⟩
  · exfalso; omega
abbrev rX9_flip : Room := { frames := 5, cells := 0, slots := 0, locals := 106 }
abbrev pX9_flip (z : Nat) (σ : hpMem) (a : Int) (b : Int) : Option Value → hpMem → Prop := fun r τ => r = some (.int (hpI (-2))) ∧ (∀ j : Nat, j ≠ 195 → j ≠ 202 → j ≠ 203 → j ≠ 204 → τ j = σ j)
set_option maxHeartbeats 4000000 in
set_option maxRecDepth 20000 in
theorem tX9_flip (l : Launch) (D : va_G) (cy : Nat → ClassId) (z : Nat) (σ : hpMem) (a : Int) (ha : hpR a) (b : Int) (hb : hpR b) (hz_196 : ∀ i : Nat, σ 196 i = 0) : hpM l D cy z yX9_flip cX9_flip 3 (some .int) rX9_flip [.ref (z + 195), .int (hpI a), .int (hpI b)] σ (pX9_flip z σ a b) := by
  obtain ⟨ha1, ha2⟩ := ha
  obtain ⟨hb1, hb2⟩ := hb
  refine hp_met rfl (Nat.le_of_ble_eq_true rfl) (fun p e s m below meth c C hr hk => ?_)
  refine h_aload_n C dX9_flip_0 0 rfl rfl ?_
  refine h_iload_n C dX9_flip_1 1 rfl rfl ?_
  refine h_callV (As := [.int (hpI a)]) (rest := []) C yyX9_asksDay wd_1512 (tX9_asksDay l D cy z _ a ⟨by omega, by omega⟩ (fun i => (hz_196 i))) kd_195 rfl rfl ⟨rfl, rfl, Nat.le_of_ble_eq_true rfl, Nat.le_of_ble_eq_true rfl⟩ ⟨Nat.le_of_ble_eq_true rfl, Nat.le_of_ble_eq_true rfl⟩ (Nat.le_of_ble_eq_true rfl) dX9_flip_2 (fun r1 τ1 hp1 => ?_)
  obtain ⟨rfl, hF1, hw1_0⟩ := hp1
  show hpV _ _ _ _ _ _ _ _ _ _ _ _ _ _ _ _ _ _ _ _ _ (_ :: _)
  refine h_if_eq (tgt := 12) C dX9_flip_5 (by decide) ⟨by decide, by decide⟩ (fun h2 => ?_) (fun h2 => ?_)
  · refine h_bipush C dX9_flip_12 (by decide) ?_
    refine h_ireturn C hr hk dX9_flip_14 ?_
    exact ⟨rfl, (fun j hj0 hj1 hj2 hj3 => ((hF1 j hj0 hj1 hj2 hj3).trans rfl))⟩
  · exfalso; omega
abbrev rX9_above : Room := { frames := 4, cells := 0, slots := 0, locals := 85 }
abbrev pX9_above (z : Nat) (σ : hpMem) (a : Int) (b : Int) : Option Value → hpMem → Prop := fun r τ => r = some (.int (hpI (-2))) ∧ (∀ j : Nat, j ≠ 195 → j ≠ 202 → j ≠ 203 → j ≠ 204 → τ j = σ j)
set_option maxHeartbeats 4000000 in
set_option maxRecDepth 20000 in
theorem tX9_above (l : Launch) (D : va_G) (cy : Nat → ClassId) (z : Nat) (σ : hpMem) (a : Int) (ha : hpR a) (b : Int) (hb : hpR b) (hz_196 : ∀ i : Nat, σ 196 i = 0) : hpM l D cy z yX9_above cX9_above 3 (some .int) rX9_above [.ref (z + 195), .int (hpI a), .int (hpI b)] σ (pX9_above z σ a b) := by
  obtain ⟨ha1, ha2⟩ := ha
  obtain ⟨hb1, hb2⟩ := hb
  refine hp_met rfl (Nat.le_of_ble_eq_true rfl) (fun p e s m below meth c C hr hk => ?_)
  refine h_aload_n C dX9_above_0 0 rfl rfl ?_
  refine h_callV (As := []) (rest := []) C yyX9_asksMoor wd_1516 (tX9_asksMoor l D cy z _ (fun i => (hz_196 i))) kd_195 rfl rfl ⟨rfl, rfl, Nat.le_of_ble_eq_true rfl, Nat.le_of_ble_eq_true rfl⟩ ⟨Nat.le_of_ble_eq_true rfl, Nat.le_of_ble_eq_true rfl⟩ (Nat.le_of_ble_eq_true rfl) dX9_above_1 (fun r1 τ1 hp1 => ?_)
  obtain ⟨rfl, hF1, hw1_0⟩ := hp1
  show hpV _ _ _ _ _ _ _ _ _ _ _ _ _ _ _ _ _ _ _ _ _ (_ :: _)
  refine h_pop C rfl dX9_above_4 ?_
  refine h_aload_n C dX9_above_5 0 rfl rfl ?_
  refine h_iload_n C dX9_above_6 1 rfl rfl ?_
  refine h_i2l C dX9_above_7 ⟨by omega, by omega⟩ ?_
  refine h_callV (As := [.long (hpJ a)]) (rest := []) C yyX9_isDay wd_1575 (tX9_isDay l D cy z _ a ⟨by omega, by omega⟩ (fun i => (hw1_0 i))) kd_195 rfl rfl ⟨rfl, rfl, Nat.le_of_ble_eq_true rfl, Nat.le_of_ble_eq_true rfl⟩ ⟨Nat.le_of_ble_eq_true rfl, Nat.le_of_ble_eq_true rfl⟩ (Nat.le_of_ble_eq_true rfl) dX9_above_8 (fun r2 τ2 hp2 => ?_)
  obtain ⟨rfl, rfl⟩ := hp2
  show hpV _ _ _ _ _ _ _ _ _ _ _ _ _ _ _ _ _ _ _ _ _ (_ :: _)
  refine h_if_eq (tgt := 23) C dX9_above_11 (by decide) ⟨by decide, by decide⟩ (fun h3 => ?_) (fun h3 => ?_)
  · refine h_bipush C dX9_above_23 (by decide) ?_
    refine h_ireturn C hr hk dX9_above_25 ?_
    exact ⟨rfl, (fun j hj0 hj1 hj2 hj3 => ((hF1 j hj0 hj1 hj2 hj3).trans rfl))⟩
  · exfalso; omega
abbrev rX9_bring : Room := { frames := 4, cells := 0, slots := 0, locals := 85 }
abbrev pX9_bring (z : Nat) (σ : hpMem) (a : Int) (b : Int) : Option Value → hpMem → Prop := fun r τ => r = some (.int (hpI (-2))) ∧ (∀ j : Nat, j ≠ 195 → j ≠ 202 → j ≠ 203 → j ≠ 204 → τ j = σ j)
set_option maxHeartbeats 4000000 in
set_option maxRecDepth 20000 in
theorem tX9_bring (l : Launch) (D : va_G) (cy : Nat → ClassId) (z : Nat) (σ : hpMem) (a : Int) (ha : hpR a) (b : Int) (hb : hpR b) (hz_196 : ∀ i : Nat, σ 196 i = 0) : hpM l D cy z yX9_bring cX9_bring 4 (some .int) rX9_bring [.ref (z + 195), .int (hpI a), .int (hpI b)] σ (pX9_bring z σ a b) := by
  obtain ⟨ha1, ha2⟩ := ha
  obtain ⟨hb1, hb2⟩ := hb
  refine hp_met rfl (Nat.le_of_ble_eq_true rfl) (fun p e s m below meth c C hr hk => ?_)
  refine h_aload_n C dX9_bring_0 0 rfl rfl ?_
  refine h_callV (As := []) (rest := []) C yyX9_asksMoor wd_1516 (tX9_asksMoor l D cy z _ (fun i => (hz_196 i))) kd_195 rfl rfl ⟨rfl, rfl, Nat.le_of_ble_eq_true rfl, Nat.le_of_ble_eq_true rfl⟩ ⟨Nat.le_of_ble_eq_true rfl, Nat.le_of_ble_eq_true rfl⟩ (Nat.le_of_ble_eq_true rfl) dX9_bring_1 (fun r1 τ1 hp1 => ?_)
  obtain ⟨rfl, hF1, hw1_0⟩ := hp1
  show hpV _ _ _ _ _ _ _ _ _ _ _ _ _ _ _ _ _ _ _ _ _ (_ :: _)
  refine h_if_eq (tgt := 28) C dX9_bring_4 (by decide) ⟨by decide, by decide⟩ (fun h2 => ?_) (fun h2 => ?_)
  · refine h_bipush C dX9_bring_28 (by decide) ?_
    refine h_ireturn C hr hk dX9_bring_30 ?_
    exact ⟨rfl, (fun j hj0 hj1 hj2 hj3 => ((hF1 j hj0 hj1 hj2 hj3).trans rfl))⟩
  · exfalso; omega
abbrev rX9_wins : Room := { frames := 6, cells := 0, slots := 0, locals := 128 }
abbrev pX9_wins (z : Nat) (σ : hpMem) (a : Int) (b : Int) : Option Value → hpMem → Prop := fun r τ => r = some (.int (hpI (-2))) ∧ (∀ j : Nat, j ≠ 195 → j ≠ 202 → j ≠ 203 → j ≠ 204 → τ j = σ j)
set_option maxHeartbeats 4000000 in
set_option maxRecDepth 20000 in
theorem tX9_wins (l : Launch) (D : va_G) (cy : Nat → ClassId) (z : Nat) (σ : hpMem) (a : Int) (ha : hpR a) (b : Int) (hb : hpR b) (hz_196 : ∀ i : Nat, σ 196 i = 0) : hpM l D cy z yX9_wins cX9_wins 3 (some .int) rX9_wins [.ref (z + 195), .int (hpI a), .int (hpI b)] σ (pX9_wins z σ a b) := by
  obtain ⟨ha1, ha2⟩ := ha
  obtain ⟨hb1, hb2⟩ := hb
  refine hp_met rfl (Nat.le_of_ble_eq_true rfl) (fun p e s m below meth c C hr hk => ?_)
  refine h_aload_n C dX9_wins_0 0 rfl rfl ?_
  refine h_iload_n C dX9_wins_1 1 rfl rfl ?_
  refine h_iload_n C dX9_wins_2 2 rfl rfl ?_
  refine h_callV (As := [.int (hpI a), .int (hpI b)]) (rest := []) C yyX9_asksTaking wd_1901 (tX9_asksTaking l D cy z _ a ⟨by omega, by omega⟩ b ⟨by omega, by omega⟩ (fun i => (hz_196 i))) kd_195 rfl rfl ⟨rfl, rfl, Nat.le_of_ble_eq_true rfl, Nat.le_of_ble_eq_true rfl⟩ ⟨Nat.le_of_ble_eq_true rfl, Nat.le_of_ble_eq_true rfl⟩ (Nat.le_of_ble_eq_true rfl) dX9_wins_3 (fun r1 τ1 hp1 => ?_)
  obtain ⟨rfl, hF1⟩ := hp1
  show hpV _ _ _ _ _ _ _ _ _ _ _ _ _ _ _ _ _ _ _ _ _ (_ :: _)
  refine h_if_ne (tgt := 12) C dX9_wins_6 (by decide) ⟨by decide, by decide⟩ (fun h2 => ?_) (fun h2 => ?_)
  · exfalso; omega
  · refine h_bipush C dX9_wins_9 (by decide) ?_
    refine h_ireturn C hr hk dX9_wins_11 ?_
    exact ⟨rfl, (fun j hj0 hj1 hj2 hj3 => ((hF1 j hj0 hj1 hj2 hj3).trans rfl))⟩
abbrev rX9_moves : Room := { frames := 6, cells := 0, slots := 0, locals := 128 }
abbrev pX9_moves (z : Nat) (σ : hpMem) (a : Int) (b : Int) : Option Value → hpMem → Prop := fun r τ => r = some (.int (hpI (-2))) ∧ (∀ j : Nat, j ≠ 195 → j ≠ 202 → j ≠ 203 → j ≠ 204 → τ j = σ j)
set_option maxHeartbeats 4000000 in
set_option maxRecDepth 20000 in
theorem tX9_moves (l : Launch) (D : va_G) (cy : Nat → ClassId) (z : Nat) (σ : hpMem) (a : Int) (ha : hpR a) (b : Int) (hb : hpR b) (hz_196 : ∀ i : Nat, σ 196 i = 0) : hpM l D cy z yX9_moves cX9_moves 6 (some .int) rX9_moves [.ref (z + 195), .int (hpI a), .int (hpI b)] σ (pX9_moves z σ a b) := by
  obtain ⟨ha1, ha2⟩ := ha
  obtain ⟨hb1, hb2⟩ := hb
  refine hp_met rfl (Nat.le_of_ble_eq_true rfl) (fun p e s m below meth c C hr hk => ?_)
  refine h_aload_n C dX9_moves_0 0 rfl rfl ?_
  refine h_iload_n C dX9_moves_1 1 rfl rfl ?_
  refine h_iload_n C dX9_moves_2 2 rfl rfl ?_
  refine h_callV (As := [.int (hpI a), .int (hpI b)]) (rest := []) C yyX9_asksTaking wd_1901 (tX9_asksTaking l D cy z _ a ⟨by omega, by omega⟩ b ⟨by omega, by omega⟩ (fun i => (hz_196 i))) kd_195 rfl rfl ⟨rfl, rfl, Nat.le_of_ble_eq_true rfl, Nat.le_of_ble_eq_true rfl⟩ ⟨Nat.le_of_ble_eq_true rfl, Nat.le_of_ble_eq_true rfl⟩ (Nat.le_of_ble_eq_true rfl) dX9_moves_3 (fun r1 τ1 hp1 => ?_)
  obtain ⟨rfl, hF1⟩ := hp1
  show hpV _ _ _ _ _ _ _ _ _ _ _ _ _ _ _ _ _ _ _ _ _ (_ :: _)
  refine h_if_ne (tgt := 12) C dX9_moves_6 (by decide) ⟨by decide, by decide⟩ (fun h2 => ?_) (fun h2 => ?_)
  · exfalso; omega
  · refine h_bipush C dX9_moves_9 (by decide) ?_
    refine h_ireturn C hr hk dX9_moves_11 ?_
    exact ⟨rfl, (fun j hj0 hj1 hj2 hj3 => ((hF1 j hj0 hj1 hj2 hj3).trans rfl))⟩
abbrev rX9_move : Room := { frames := 6, cells := 0, slots := 0, locals := 128 }
abbrev pX9_move (z : Nat) (σ : hpMem) (a : Int) (b : Int) : Option Value → hpMem → Prop := fun r τ => r = some (.int (hpI (-2))) ∧ (∀ j : Nat, j ≠ 195 → j ≠ 202 → j ≠ 203 → j ≠ 204 → τ j = σ j)
set_option maxHeartbeats 4000000 in
set_option maxRecDepth 20000 in
theorem tX9_move (l : Launch) (D : va_G) (cy : Nat → ClassId) (z : Nat) (σ : hpMem) (a : Int) (ha : hpR a) (b : Int) (hb : hpR b) (hz_196 : ∀ i : Nat, σ 196 i = 0) : hpM l D cy z yX9_move cX9_move 5 (some .int) rX9_move [.ref (z + 195), .int (hpI a), .int (hpI b)] σ (pX9_move z σ a b) := by
  obtain ⟨ha1, ha2⟩ := ha
  obtain ⟨hb1, hb2⟩ := hb
  refine hp_met rfl (Nat.le_of_ble_eq_true rfl) (fun p e s m below meth c C hr hk => ?_)
  refine h_aload_n C dX9_move_0 0 rfl rfl ?_
  refine h_iload_n C dX9_move_1 1 rfl rfl ?_
  refine h_iload_n C dX9_move_2 2 rfl rfl ?_
  refine h_callV (As := [.int (hpI a), .int (hpI b)]) (rest := []) C yyX9_asksTaking wd_1901 (tX9_asksTaking l D cy z _ a ⟨by omega, by omega⟩ b ⟨by omega, by omega⟩ (fun i => (hz_196 i))) kd_195 rfl rfl ⟨rfl, rfl, Nat.le_of_ble_eq_true rfl, Nat.le_of_ble_eq_true rfl⟩ ⟨Nat.le_of_ble_eq_true rfl, Nat.le_of_ble_eq_true rfl⟩ (Nat.le_of_ble_eq_true rfl) dX9_move_3 (fun r1 τ1 hp1 => ?_)
  obtain ⟨rfl, hF1⟩ := hp1
  show hpV _ _ _ _ _ _ _ _ _ _ _ _ _ _ _ _ _ _ _ _ _ (_ :: _)
  refine h_if_ne (tgt := 12) C dX9_move_6 (by decide) ⟨by decide, by decide⟩ (fun h2 => ?_) (fun h2 => ?_)
  · exfalso; omega
  · refine h_bipush C dX9_move_9 (by decide) ?_
    refine h_ireturn C hr hk dX9_move_11 ?_
    exact ⟨rfl, (fun j hj0 hj1 hj2 hj3 => ((hF1 j hj0 hj1 hj2 hj3).trans rfl))⟩
abbrev rX9_later : Room := { frames := 5, cells := 0, slots := 0, locals := 106 }
abbrev pX9_later (z : Nat) (σ : hpMem) (a : Int) (b : Int) (c0 : Int) : Option Value → hpMem → Prop := fun r τ => r = some (.int (hpI (-2))) ∧ (∀ j : Nat, j ≠ 195 → j ≠ 202 → j ≠ 203 → j ≠ 204 → τ j = σ j)
set_option maxHeartbeats 4000000 in
set_option maxRecDepth 20000 in
theorem tX9_later (l : Launch) (D : va_G) (cy : Nat → ClassId) (z : Nat) (σ : hpMem) (a : Int) (ha : hpR a) (b : Int) (hb : hpR b) (c0 : Int) (hc0 : hpR c0) (hz_196 : ∀ i : Nat, σ 196 i = 0) : hpM l D cy z yX9_later cX9_later 5 (some .int) rX9_later [.ref (z + 195), .int (hpI a), .int (hpI b), .int (hpI c0)] σ (pX9_later z σ a b c0) := by
  obtain ⟨ha1, ha2⟩ := ha
  obtain ⟨hb1, hb2⟩ := hb
  obtain ⟨hc01, hc02⟩ := hc0
  refine hp_met rfl (Nat.le_of_ble_eq_true rfl) (fun p e s m below meth c C hr hk => ?_)
  refine h_aload_n C dX9_later_0 0 rfl rfl ?_
  refine h_iload_n C dX9_later_1 1 rfl rfl ?_
  refine h_callV (As := [.int (hpI a)]) (rest := []) C yyX9_asksDay wd_1512 (tX9_asksDay l D cy z _ a ⟨by omega, by omega⟩ (fun i => (hz_196 i))) kd_195 rfl rfl ⟨rfl, rfl, Nat.le_of_ble_eq_true rfl, Nat.le_of_ble_eq_true rfl⟩ ⟨Nat.le_of_ble_eq_true rfl, Nat.le_of_ble_eq_true rfl⟩ (Nat.le_of_ble_eq_true rfl) dX9_later_2 (fun r1 τ1 hp1 => ?_)
  obtain ⟨rfl, hF1, hw1_0⟩ := hp1
  show hpV _ _ _ _ _ _ _ _ _ _ _ _ _ _ _ _ _ _ _ _ _ (_ :: _)
  refine h_if_eq (tgt := 24) C dX9_later_5 (by decide) ⟨by decide, by decide⟩ (fun h2 => ?_) (fun h2 => ?_)
  · refine h_bipush C dX9_later_24 (by decide) ?_
    refine h_ireturn C hr hk dX9_later_26 ?_
    exact ⟨rfl, (fun j hj0 hj1 hj2 hj3 => ((hF1 j hj0 hj1 hj2 hj3).trans rfl))⟩
  · exfalso; omega
abbrev rX9_rowsOf : Room := { frames := 2, cells := 0, slots := 0, locals := 42 }
abbrev pX9_rowsOf (z : Nat) (σ : hpMem) (a : Int) : Option Value → hpMem → Prop := fun r τ => r = some (.int (hpI (-2))) ∧ (∀ j : Nat, j ≠ 195 → j ≠ 203 → j ≠ 204 → τ j = σ j)
set_option maxHeartbeats 4000000 in
set_option maxRecDepth 20000 in
theorem tX9_rowsOf (l : Launch) (D : va_G) (cy : Nat → ClassId) (z : Nat) (σ : hpMem) (a : Int) (ha : hpR a) (hz_196 : ∀ i : Nat, σ 196 i = 0) : hpM l D cy z yX9_rowsOf cX9_rowsOf 2 (some .int) rX9_rowsOf [.ref (z + 195), .int (hpI a)] σ (pX9_rowsOf z σ a) := by
  obtain ⟨ha1, ha2⟩ := ha
  refine hp_met rfl (Nat.le_of_ble_eq_true rfl) (fun p e s m below meth c C hr hk => ?_)
  refine h_aload_n C dX9_rowsOf_0 0 rfl rfl ?_
  refine h_iload_n C dX9_rowsOf_1 1 rfl rfl ?_
  refine h_callV (As := [.int (hpI a)]) (rest := []) C yyX9_asksAll wd_1718 (tX9_asksAll l D cy z _ a ⟨by omega, by omega⟩ (fun i => (hz_196 i))) kd_195 rfl rfl ⟨rfl, rfl, Nat.le_of_ble_eq_true rfl, Nat.le_of_ble_eq_true rfl⟩ ⟨Nat.le_of_ble_eq_true rfl, Nat.le_of_ble_eq_true rfl⟩ (Nat.le_of_ble_eq_true rfl) dX9_rowsOf_2 (fun r1 τ1 hp1 => ?_)
  obtain ⟨rfl, hF1⟩ := hp1
  show hpV _ _ _ _ _ _ _ _ _ _ _ _ _ _ _ _ _ _ _ _ _ (_ :: _)
  refine h_if_eq (tgt := 15) C dX9_rowsOf_5 (by decide) ⟨by decide, by decide⟩ (fun h2 => ?_) (fun h2 => ?_)
  · refine h_bipush C dX9_rowsOf_15 (by decide) ?_
    refine h_ireturn C hr hk dX9_rowsOf_17 ?_
    exact ⟨rfl, (fun j hj0 hj1 hj2 => ((hF1 j hj0 hj1 hj2).trans rfl))⟩
  · exfalso; omega
abbrev rX9_ringed : Room := { frames := 2, cells := 0, slots := 0, locals := 42 }
abbrev pX9_ringed (z : Nat) (σ : hpMem) (a : Int) : Option Value → hpMem → Prop := fun r τ => r = some (.int (hpI (-2))) ∧ (∀ j : Nat, j ≠ 195 → j ≠ 203 → j ≠ 204 → τ j = σ j)
set_option maxHeartbeats 4000000 in
set_option maxRecDepth 20000 in
theorem tX9_ringed (l : Launch) (D : va_G) (cy : Nat → ClassId) (z : Nat) (σ : hpMem) (a : Int) (ha : hpR a) (hz_196 : ∀ i : Nat, σ 196 i = 0) : hpM l D cy z yX9_ringed cX9_ringed 4 (some .int) rX9_ringed [.ref (z + 195), .int (hpI a)] σ (pX9_ringed z σ a) := by
  obtain ⟨ha1, ha2⟩ := ha
  refine hp_met rfl (Nat.le_of_ble_eq_true rfl) (fun p e s m below meth c C hr hk => ?_)
  refine h_aload_n C dX9_ringed_0 0 rfl rfl ?_
  refine h_iload_n C dX9_ringed_1 1 rfl rfl ?_
  refine h_callV (As := [.int (hpI a)]) (rest := []) C yyX9_asksAll wd_1718 (tX9_asksAll l D cy z _ a ⟨by omega, by omega⟩ (fun i => (hz_196 i))) kd_195 rfl rfl ⟨rfl, rfl, Nat.le_of_ble_eq_true rfl, Nat.le_of_ble_eq_true rfl⟩ ⟨Nat.le_of_ble_eq_true rfl, Nat.le_of_ble_eq_true rfl⟩ (Nat.le_of_ble_eq_true rfl) dX9_ringed_2 (fun r1 τ1 hp1 => ?_)
  obtain ⟨rfl, hF1⟩ := hp1
  show hpV _ _ _ _ _ _ _ _ _ _ _ _ _ _ _ _ _ _ _ _ _ (_ :: _)
  refine h_if_ne (tgt := 11) C dX9_ringed_5 (by decide) ⟨by decide, by decide⟩ (fun h2 => ?_) (fun h2 => ?_)
  · exfalso; omega
  · refine h_bipush C dX9_ringed_8 (by decide) ?_
    refine h_ireturn C hr hk dX9_ringed_10 ?_
    exact ⟨rfl, (fun j hj0 hj1 hj2 => ((hF1 j hj0 hj1 hj2).trans rfl))⟩
abbrev rX9_rings : Room := { frames := 2, cells := 0, slots := 0, locals := 42 }
abbrev pX9_rings (z : Nat) (σ : hpMem) (a : Int) : Option Value → hpMem → Prop := fun r τ => r = some (.int (hpI (-2))) ∧ (∀ j : Nat, j ≠ 195 → j ≠ 203 → j ≠ 204 → τ j = σ j)
set_option maxHeartbeats 4000000 in
set_option maxRecDepth 20000 in
theorem tX9_rings (l : Launch) (D : va_G) (cy : Nat → ClassId) (z : Nat) (σ : hpMem) (a : Int) (ha : hpR a) (hz_196 : ∀ i : Nat, σ 196 i = 0) : hpM l D cy z yX9_rings cX9_rings 6 (some .int) rX9_rings [.ref (z + 195), .int (hpI a)] σ (pX9_rings z σ a) := by
  obtain ⟨ha1, ha2⟩ := ha
  refine hp_met rfl (Nat.le_of_ble_eq_true rfl) (fun p e s m below meth c C hr hk => ?_)
  refine h_aload_n C dX9_rings_0 0 rfl rfl ?_
  refine h_iload_n C dX9_rings_1 1 rfl rfl ?_
  refine h_callV (As := [.int (hpI a)]) (rest := []) C yyX9_asksAll wd_1718 (tX9_asksAll l D cy z _ a ⟨by omega, by omega⟩ (fun i => (hz_196 i))) kd_195 rfl rfl ⟨rfl, rfl, Nat.le_of_ble_eq_true rfl, Nat.le_of_ble_eq_true rfl⟩ ⟨Nat.le_of_ble_eq_true rfl, Nat.le_of_ble_eq_true rfl⟩ (Nat.le_of_ble_eq_true rfl) dX9_rings_2 (fun r1 τ1 hp1 => ?_)
  obtain ⟨rfl, hF1⟩ := hp1
  show hpV _ _ _ _ _ _ _ _ _ _ _ _ _ _ _ _ _ _ _ _ _ (_ :: _)
  refine h_if_ne (tgt := 11) C dX9_rings_5 (by decide) ⟨by decide, by decide⟩ (fun h2 => ?_) (fun h2 => ?_)
  · exfalso; omega
  · refine h_bipush C dX9_rings_8 (by decide) ?_
    refine h_ireturn C hr hk dX9_rings_10 ?_
    exact ⟨rfl, (fun j hj0 hj1 hj2 => ((hF1 j hj0 hj1 hj2).trans rfl))⟩
abbrev rX9_gardens : Room := { frames := 2, cells := 0, slots := 0, locals := 42 }
abbrev pX9_gardens (z : Nat) (σ : hpMem) (a : Int) : Option Value → hpMem → Prop := fun r τ => r = some (.int (hpI (-2))) ∧ (∀ j : Nat, j ≠ 195 → j ≠ 203 → j ≠ 204 → τ j = σ j)
set_option maxHeartbeats 4000000 in
set_option maxRecDepth 20000 in
theorem tX9_gardens (l : Launch) (D : va_G) (cy : Nat → ClassId) (z : Nat) (σ : hpMem) (a : Int) (ha : hpR a) (hz_196 : ∀ i : Nat, σ 196 i = 0) : hpM l D cy z yX9_gardens cX9_gardens 4 (some .int) rX9_gardens [.ref (z + 195), .int (hpI a)] σ (pX9_gardens z σ a) := by
  obtain ⟨ha1, ha2⟩ := ha
  refine hp_met rfl (Nat.le_of_ble_eq_true rfl) (fun p e s m below meth c C hr hk => ?_)
  refine h_aload_n C dX9_gardens_0 0 rfl rfl ?_
  refine h_iload_n C dX9_gardens_1 1 rfl rfl ?_
  refine h_callV (As := [.int (hpI a)]) (rest := []) C yyX9_asksAll wd_1718 (tX9_asksAll l D cy z _ a ⟨by omega, by omega⟩ (fun i => (hz_196 i))) kd_195 rfl rfl ⟨rfl, rfl, Nat.le_of_ble_eq_true rfl, Nat.le_of_ble_eq_true rfl⟩ ⟨Nat.le_of_ble_eq_true rfl, Nat.le_of_ble_eq_true rfl⟩ (Nat.le_of_ble_eq_true rfl) dX9_gardens_2 (fun r1 τ1 hp1 => ?_)
  obtain ⟨rfl, hF1⟩ := hp1
  show hpV _ _ _ _ _ _ _ _ _ _ _ _ _ _ _ _ _ _ _ _ _ (_ :: _)
  refine h_if_ne (tgt := 11) C dX9_gardens_5 (by decide) ⟨by decide, by decide⟩ (fun h2 => ?_) (fun h2 => ?_)
  · exfalso; omega
  · refine h_bipush C dX9_gardens_8 (by decide) ?_
    refine h_ireturn C hr hk dX9_gardens_10 ?_
    exact ⟨rfl, (fun j hj0 hj1 hj2 => ((hF1 j hj0 hj1 hj2).trans rfl))⟩
abbrev rX9_longest : Room := { frames := 2, cells := 0, slots := 0, locals := 42 }
abbrev pX9_longest (z : Nat) (σ : hpMem) (a : Int) : Option Value → hpMem → Prop := fun r τ => r = some (.int (hpI (-2))) ∧ (∀ j : Nat, j ≠ 195 → j ≠ 203 → j ≠ 204 → τ j = σ j)
set_option maxHeartbeats 4000000 in
set_option maxRecDepth 20000 in
theorem tX9_longest (l : Launch) (D : va_G) (cy : Nat → ClassId) (z : Nat) (σ : hpMem) (a : Int) (ha : hpR a) (hz_196 : ∀ i : Nat, σ 196 i = 0) : hpM l D cy z yX9_longest cX9_longest 4 (some .int) rX9_longest [.ref (z + 195), .int (hpI a)] σ (pX9_longest z σ a) := by
  obtain ⟨ha1, ha2⟩ := ha
  refine hp_met rfl (Nat.le_of_ble_eq_true rfl) (fun p e s m below meth c C hr hk => ?_)
  refine h_aload_n C dX9_longest_0 0 rfl rfl ?_
  refine h_iload_n C dX9_longest_1 1 rfl rfl ?_
  refine h_callV (As := [.int (hpI a)]) (rest := []) C yyX9_asksAll wd_1718 (tX9_asksAll l D cy z _ a ⟨by omega, by omega⟩ (fun i => (hz_196 i))) kd_195 rfl rfl ⟨rfl, rfl, Nat.le_of_ble_eq_true rfl, Nat.le_of_ble_eq_true rfl⟩ ⟨Nat.le_of_ble_eq_true rfl, Nat.le_of_ble_eq_true rfl⟩ (Nat.le_of_ble_eq_true rfl) dX9_longest_2 (fun r1 τ1 hp1 => ?_)
  obtain ⟨rfl, hF1⟩ := hp1
  show hpV _ _ _ _ _ _ _ _ _ _ _ _ _ _ _ _ _ _ _ _ _ (_ :: _)
  refine h_if_ne (tgt := 11) C dX9_longest_5 (by decide) ⟨by decide, by decide⟩ (fun h2 => ?_) (fun h2 => ?_)
  · exfalso; omega
  · refine h_bipush C dX9_longest_8 (by decide) ?_
    refine h_ireturn C hr hk dX9_longest_10 ?_
    exact ⟨rfl, (fun j hj0 hj1 hj2 => ((hF1 j hj0 hj1 hj2).trans rfl))⟩
abbrev rX9_ahead : Room := { frames := 3, cells := 0, slots := 0, locals := 70 }
abbrev pX9_ahead (z : Nat) (σ : hpMem) (a : Int) : Option Value → hpMem → Prop := fun r τ => r = some (.int (hpI (-2))) ∧ σ = τ
set_option maxHeartbeats 4000000 in
set_option maxRecDepth 20000 in
theorem tX9_ahead (l : Launch) (D : va_G) (cy : Nat → ClassId) (z : Nat) (σ : hpMem) (a : Int) (ha : hpR a) (hz_196 : ∀ i : Nat, σ 196 i = 0) : hpM l D cy z yX9_ahead cX9_ahead 3 (some .int) rX9_ahead [.ref (z + 195), .int (hpI a)] σ (pX9_ahead z σ a) := by
  obtain ⟨ha1, ha2⟩ := ha
  refine hp_met rfl (Nat.le_of_ble_eq_true rfl) (fun p e s m below meth c C hr hk => ?_)
  refine h_aload_n C dX9_ahead_0 0 rfl rfl ?_
  refine h_iload_n C dX9_ahead_1 1 rfl rfl ?_
  refine h_callV (As := [.int (hpI a)]) (rest := []) C yyX9_askRow wd_1775 (tX9_askRow l D cy z _ a ⟨by omega, by omega⟩ (fun i => (hz_196 i))) kd_195 rfl rfl ⟨rfl, rfl, Nat.le_of_ble_eq_true rfl, Nat.le_of_ble_eq_true rfl⟩ ⟨Nat.le_of_ble_eq_true rfl, Nat.le_of_ble_eq_true rfl⟩ (Nat.le_of_ble_eq_true rfl) dX9_ahead_2 (fun r1 τ1 hp1 => ?_)
  obtain ⟨rfl, rfl⟩ := hp1
  show hpV _ _ _ _ _ _ _ _ _ _ _ _ _ _ _ _ _ _ _ _ _ (_ :: _)
  refine h_istore_n (lv' := [(2, .int (hpI (-2))), (0, .ref (z + 195)), (1, .int (hpI a))]) C dX9_ahead_5 rfl (by decide) rfl ?_
  refine h_iload_n C dX9_ahead_6 0 rfl rfl ?_
  refine h_if_ge (tgt := 14) C dX9_ahead_7 (by decide) ⟨by decide, by decide⟩ (fun h2 => ?_) (fun h2 => ?_)
  · exfalso; omega
  · refine h_iload_n C dX9_ahead_10 0 rfl rfl ?_
    refine h_goto (tgt := 22) C dX9_ahead_11 (by decide) ?_
    refine h_ireturn C hr hk dX9_ahead_22 ?_
    exact ⟨rfl, rfl⟩
abbrev rX9_way : Room := { frames := 3, cells := 0, slots := 0, locals := 70 }
abbrev pX9_way (z : Nat) (σ : hpMem) (a : Int) : Option Value → hpMem → Prop := fun r τ => r = some (.int (hpI (-2))) ∧ σ = τ
set_option maxHeartbeats 4000000 in
set_option maxRecDepth 20000 in
theorem tX9_way (l : Launch) (D : va_G) (cy : Nat → ClassId) (z : Nat) (σ : hpMem) (a : Int) (ha : hpR a) (hz_196 : ∀ i : Nat, σ 196 i = 0) : hpM l D cy z yX9_way cX9_way 3 (some .int) rX9_way [.ref (z + 195), .int (hpI a)] σ (pX9_way z σ a) := by
  obtain ⟨ha1, ha2⟩ := ha
  refine hp_met rfl (Nat.le_of_ble_eq_true rfl) (fun p e s m below meth c C hr hk => ?_)
  refine h_aload_n C dX9_way_0 0 rfl rfl ?_
  refine h_iload_n C dX9_way_1 1 rfl rfl ?_
  refine h_callV (As := [.int (hpI a)]) (rest := []) C yyX9_askRow wd_1775 (tX9_askRow l D cy z _ a ⟨by omega, by omega⟩ (fun i => (hz_196 i))) kd_195 rfl rfl ⟨rfl, rfl, Nat.le_of_ble_eq_true rfl, Nat.le_of_ble_eq_true rfl⟩ ⟨Nat.le_of_ble_eq_true rfl, Nat.le_of_ble_eq_true rfl⟩ (Nat.le_of_ble_eq_true rfl) dX9_way_2 (fun r1 τ1 hp1 => ?_)
  obtain ⟨rfl, rfl⟩ := hp1
  show hpV _ _ _ _ _ _ _ _ _ _ _ _ _ _ _ _ _ _ _ _ _ (_ :: _)
  refine h_istore_n (lv' := [(2, .int (hpI (-2))), (0, .ref (z + 195)), (1, .int (hpI a))]) C dX9_way_5 rfl (by decide) rfl ?_
  refine h_iload_n C dX9_way_6 0 rfl rfl ?_
  refine h_if_ge (tgt := 14) C dX9_way_7 (by decide) ⟨by decide, by decide⟩ (fun h2 => ?_) (fun h2 => ?_)
  · exfalso; omega
  · refine h_iload_n C dX9_way_10 0 rfl rfl ?_
    refine h_goto (tgt := 23) C dX9_way_11 (by decide) ?_
    refine h_ireturn C hr hk dX9_way_23 ?_
    exact ⟨rfl, rfl⟩
abbrev rX9_laws : Room := { frames := 3, cells := 0, slots := 0, locals := 67 }
abbrev pX9_laws (z : Nat) (σ : hpMem) (a : Int) : Option Value → hpMem → Prop := fun r τ => r = some (.int (hpI (-2))) ∧ σ = τ
set_option maxHeartbeats 4000000 in
set_option maxRecDepth 20000 in
theorem tX9_laws (l : Launch) (D : va_G) (cy : Nat → ClassId) (z : Nat) (σ : hpMem) (a : Int) (ha : hpR a) (hz_196 : ∀ i : Nat, σ 196 i = 0) : hpM l D cy z yX9_laws cX9_laws 4 (some .int) rX9_laws [.ref (z + 195), .int (hpI a)] σ (pX9_laws z σ a) := by
  obtain ⟨ha1, ha2⟩ := ha
  refine hp_met rfl (Nat.le_of_ble_eq_true rfl) (fun p e s m below meth c C hr hk => ?_)
  refine h_aload_n C dX9_laws_0 0 rfl rfl ?_
  refine h_iload_n C dX9_laws_1 1 rfl rfl ?_
  refine h_callV (As := [.int (hpI a)]) (rest := []) C yyX9_askSeen wd_1824 (tX9_askSeen l D cy z _ a ⟨by omega, by omega⟩ (fun i => (hz_196 i))) kd_195 rfl rfl ⟨rfl, rfl, Nat.le_of_ble_eq_true rfl, Nat.le_of_ble_eq_true rfl⟩ ⟨Nat.le_of_ble_eq_true rfl, Nat.le_of_ble_eq_true rfl⟩ (Nat.le_of_ble_eq_true rfl) dX9_laws_2 (fun r1 τ1 hp1 => ?_)
  obtain ⟨rfl, rfl⟩ := hp1
  show hpV _ _ _ _ _ _ _ _ _ _ _ _ _ _ _ _ _ _ _ _ _ (_ :: _)
  refine h_istore_n (lv' := [(2, .int (hpI (-2))), (0, .ref (z + 195)), (1, .int (hpI a))]) C dX9_laws_5 rfl (by decide) rfl ?_
  refine h_iload_n C dX9_laws_6 0 rfl rfl ?_
  refine h_if_ge (tgt := 12) C dX9_laws_7 (by decide) ⟨by decide, by decide⟩ (fun h2 => ?_) (fun h2 => ?_)
  · exfalso; omega
  · refine h_iload_n C dX9_laws_10 0 rfl rfl ?_
    refine h_ireturn C hr hk dX9_laws_11 ?_
    exact ⟨rfl, rfl⟩
abbrev rX9_from : Room := { frames := 3, cells := 0, slots := 0, locals := 70 }
abbrev pX9_from (z : Nat) (σ : hpMem) (a : Int) (b : Int) : Option Value → hpMem → Prop := fun r τ => r = some (.int (hpI (-2))) ∧ σ = τ
set_option maxHeartbeats 4000000 in
set_option maxRecDepth 20000 in
theorem tX9_from (l : Launch) (D : va_G) (cy : Nat → ClassId) (z : Nat) (σ : hpMem) (a : Int) (ha : hpR a) (b : Int) (hb : hpR b) (hz_196 : ∀ i : Nat, σ 196 i = 0) : hpM l D cy z yX9_from cX9_from 6 (some .int) rX9_from [.ref (z + 195), .int (hpI a), .int (hpI b)] σ (pX9_from z σ a b) := by
  obtain ⟨ha1, ha2⟩ := ha
  obtain ⟨hb1, hb2⟩ := hb
  refine hp_met rfl (Nat.le_of_ble_eq_true rfl) (fun p e s m below meth c C hr hk => ?_)
  refine h_iload_n C dX9_from_0 2 rfl rfl ?_
  refine h_if_ge (tgt := 9) C dX9_from_1 (by decide) ⟨by omega, by omega⟩ (fun h1 => ?_) (fun h1 => ?_)
  · refine h_aload_n C dX9_from_9 0 rfl rfl ?_
    refine h_iload_n C dX9_from_10 1 rfl rfl ?_
    refine h_callV (As := [.int (hpI a)]) (rest := []) C yyX9_askRow wd_1775 (tX9_askRow l D cy z _ a ⟨by omega, by omega⟩ (fun i => (hz_196 i))) kd_195 rfl rfl ⟨rfl, rfl, Nat.le_of_ble_eq_true rfl, Nat.le_of_ble_eq_true rfl⟩ ⟨Nat.le_of_ble_eq_true rfl, Nat.le_of_ble_eq_true rfl⟩ (Nat.le_of_ble_eq_true rfl) dX9_from_11 (fun r2 τ2 hp2 => ?_)
    obtain ⟨rfl, rfl⟩ := hp2
    show hpV _ _ _ _ _ _ _ _ _ _ _ _ _ _ _ _ _ _ _ _ _ (_ :: _)
    refine h_istore_n (lv' := [(3, .int (hpI (-2))), (0, .ref (z + 195)), (1, .int (hpI a)), (2, .int (hpI b))]) C dX9_from_14 rfl (by decide) rfl ?_
    refine h_iload_n C dX9_from_15 0 rfl rfl ?_
    refine h_if_ge (tgt := 21) C dX9_from_16 (by decide) ⟨by decide, by decide⟩ (fun h3 => ?_) (fun h3 => ?_)
    · exfalso; omega
    · refine h_iload_n C dX9_from_19 0 rfl rfl ?_
      refine h_ireturn C hr hk dX9_from_20 ?_
      exact ⟨rfl, rfl⟩
  · refine h_bipush C dX9_from_4 (by decide) ?_
    refine h_goto (tgt := 14) C dX9_from_6 (by decide) ?_
    refine h_istore_n (lv' := [(3, .int (hpI (-2))), (0, .ref (z + 195)), (1, .int (hpI a)), (2, .int (hpI b))]) C dX9_from_14 rfl (by decide) rfl ?_
    refine h_iload_n C dX9_from_15 0 rfl rfl ?_
    refine h_if_ge (tgt := 21) C dX9_from_16 (by decide) ⟨by decide, by decide⟩ (fun h4 => ?_) (fun h4 => ?_)
    · exfalso; omega
    · refine h_iload_n C dX9_from_19 0 rfl rfl ?_
      refine h_ireturn C hr hk dX9_from_20 ?_
      exact ⟨rfl, rfl⟩
abbrev rX9_heights : Room := { frames := 3, cells := 0, slots := 0, locals := 71 }
abbrev pX9_heights (z : Nat) (σ : hpMem) (a : Int) (b : Int) : Option Value → hpMem → Prop := fun r τ => r = some (.int (hpI (-2))) ∧ σ = τ
set_option maxHeartbeats 4000000 in
set_option maxRecDepth 20000 in
theorem tX9_heights (l : Launch) (D : va_G) (cy : Nat → ClassId) (z : Nat) (σ : hpMem) (a : Int) (ha : hpR a) (b : Int) (hb : hpR b) (hz_196 : ∀ i : Nat, σ 196 i = 0) : hpM l D cy z yX9_heights cX9_heights 4 (some .int) rX9_heights [.ref (z + 195), .int (hpI a), .int (hpI b)] σ (pX9_heights z σ a b) := by
  obtain ⟨ha1, ha2⟩ := ha
  obtain ⟨hb1, hb2⟩ := hb
  refine hp_met rfl (Nat.le_of_ble_eq_true rfl) (fun p e s m below meth c C hr hk => ?_)
  refine h_aload_n C dX9_heights_0 0 rfl rfl ?_
  refine h_iload_n C dX9_heights_1 1 rfl rfl ?_
  refine h_iload_n C dX9_heights_2 2 rfl rfl ?_
  refine h_callV (As := [.int (hpI a), .int (hpI b)]) (rest := []) C yyX9_layFits wd_1820 (tX9_layFits l D cy z _ a ⟨by omega, by omega⟩ b ⟨by omega, by omega⟩ (fun i => (hz_196 i))) kd_195 rfl rfl ⟨rfl, rfl, Nat.le_of_ble_eq_true rfl, Nat.le_of_ble_eq_true rfl⟩ ⟨Nat.le_of_ble_eq_true rfl, Nat.le_of_ble_eq_true rfl⟩ (Nat.le_of_ble_eq_true rfl) dX9_heights_3 (fun r1 τ1 hp1 => ?_)
  obtain ⟨rfl, rfl⟩ := hp1
  show hpV _ _ _ _ _ _ _ _ _ _ _ _ _ _ _ _ _ _ _ _ _ (_ :: _)
  refine h_istore_n (lv' := [(3, .int (hpI (-2))), (0, .ref (z + 195)), (1, .int (hpI a)), (2, .int (hpI b))]) C dX9_heights_6 rfl (by decide) rfl ?_
  refine h_iload_n C dX9_heights_7 0 rfl rfl ?_
  refine h_if_ge (tgt := 15) C dX9_heights_8 (by decide) ⟨by decide, by decide⟩ (fun h2 => ?_) (fun h2 => ?_)
  · exfalso; omega
  · refine h_iload_n C dX9_heights_11 0 rfl rfl ?_
    refine h_goto (tgt := 19) C dX9_heights_12 (by decide) ?_
    refine h_ireturn C hr hk dX9_heights_19 ?_
    exact ⟨rfl, rfl⟩
abbrev rX9_least : Room := { frames := 3, cells := 0, slots := 0, locals := 71 }
abbrev pX9_least (z : Nat) (σ : hpMem) (a : Int) (b : Int) : Option Value → hpMem → Prop := fun r τ => r = some (.int (hpI (-2))) ∧ σ = τ
set_option maxHeartbeats 4000000 in
set_option maxRecDepth 20000 in
theorem tX9_least (l : Launch) (D : va_G) (cy : Nat → ClassId) (z : Nat) (σ : hpMem) (a : Int) (ha : hpR a) (b : Int) (hb : hpR b) (hz_196 : ∀ i : Nat, σ 196 i = 0) : hpM l D cy z yX9_least cX9_least 4 (some .int) rX9_least [.ref (z + 195), .int (hpI a), .int (hpI b)] σ (pX9_least z σ a b) := by
  obtain ⟨ha1, ha2⟩ := ha
  obtain ⟨hb1, hb2⟩ := hb
  refine hp_met rfl (Nat.le_of_ble_eq_true rfl) (fun p e s m below meth c C hr hk => ?_)
  refine h_aload_n C dX9_least_0 0 rfl rfl ?_
  refine h_iload_n C dX9_least_1 1 rfl rfl ?_
  refine h_iload_n C dX9_least_2 2 rfl rfl ?_
  refine h_callV (As := [.int (hpI a), .int (hpI b)]) (rest := []) C yyX9_layFits wd_1820 (tX9_layFits l D cy z _ a ⟨by omega, by omega⟩ b ⟨by omega, by omega⟩ (fun i => (hz_196 i))) kd_195 rfl rfl ⟨rfl, rfl, Nat.le_of_ble_eq_true rfl, Nat.le_of_ble_eq_true rfl⟩ ⟨Nat.le_of_ble_eq_true rfl, Nat.le_of_ble_eq_true rfl⟩ (Nat.le_of_ble_eq_true rfl) dX9_least_3 (fun r1 τ1 hp1 => ?_)
  obtain ⟨rfl, rfl⟩ := hp1
  show hpV _ _ _ _ _ _ _ _ _ _ _ _ _ _ _ _ _ _ _ _ _ (_ :: _)
  refine h_istore_n (lv' := [(3, .int (hpI (-2))), (0, .ref (z + 195)), (1, .int (hpI a)), (2, .int (hpI b))]) C dX9_least_6 rfl (by decide) rfl ?_
  refine h_iload_n C dX9_least_7 0 rfl rfl ?_
  refine h_if_ge (tgt := 15) C dX9_least_8 (by decide) ⟨by decide, by decide⟩ (fun h2 => ?_) (fun h2 => ?_)
  · exfalso; omega
  · refine h_iload_n C dX9_least_11 0 rfl rfl ?_
    refine h_goto (tgt := 32) C dX9_least_12 (by decide) ?_
    refine h_ireturn C hr hk dX9_least_32 ?_
    exact ⟨rfl, rfl⟩
abbrev rX9_greatest : Room := { frames := 3, cells := 0, slots := 0, locals := 71 }
abbrev pX9_greatest (z : Nat) (σ : hpMem) (a : Int) (b : Int) : Option Value → hpMem → Prop := fun r τ => r = some (.int (hpI (-2))) ∧ σ = τ
set_option maxHeartbeats 4000000 in
set_option maxRecDepth 20000 in
theorem tX9_greatest (l : Launch) (D : va_G) (cy : Nat → ClassId) (z : Nat) (σ : hpMem) (a : Int) (ha : hpR a) (b : Int) (hb : hpR b) (hz_196 : ∀ i : Nat, σ 196 i = 0) : hpM l D cy z yX9_greatest cX9_greatest 4 (some .int) rX9_greatest [.ref (z + 195), .int (hpI a), .int (hpI b)] σ (pX9_greatest z σ a b) := by
  obtain ⟨ha1, ha2⟩ := ha
  obtain ⟨hb1, hb2⟩ := hb
  refine hp_met rfl (Nat.le_of_ble_eq_true rfl) (fun p e s m below meth c C hr hk => ?_)
  refine h_aload_n C dX9_greatest_0 0 rfl rfl ?_
  refine h_iload_n C dX9_greatest_1 1 rfl rfl ?_
  refine h_iload_n C dX9_greatest_2 2 rfl rfl ?_
  refine h_callV (As := [.int (hpI a), .int (hpI b)]) (rest := []) C yyX9_layFits wd_1820 (tX9_layFits l D cy z _ a ⟨by omega, by omega⟩ b ⟨by omega, by omega⟩ (fun i => (hz_196 i))) kd_195 rfl rfl ⟨rfl, rfl, Nat.le_of_ble_eq_true rfl, Nat.le_of_ble_eq_true rfl⟩ ⟨Nat.le_of_ble_eq_true rfl, Nat.le_of_ble_eq_true rfl⟩ (Nat.le_of_ble_eq_true rfl) dX9_greatest_3 (fun r1 τ1 hp1 => ?_)
  obtain ⟨rfl, rfl⟩ := hp1
  show hpV _ _ _ _ _ _ _ _ _ _ _ _ _ _ _ _ _ _ _ _ _ (_ :: _)
  refine h_istore_n (lv' := [(3, .int (hpI (-2))), (0, .ref (z + 195)), (1, .int (hpI a)), (2, .int (hpI b))]) C dX9_greatest_6 rfl (by decide) rfl ?_
  refine h_iload_n C dX9_greatest_7 0 rfl rfl ?_
  refine h_if_ge (tgt := 15) C dX9_greatest_8 (by decide) ⟨by decide, by decide⟩ (fun h2 => ?_) (fun h2 => ?_)
  · exfalso; omega
  · refine h_iload_n C dX9_greatest_11 0 rfl rfl ?_
    refine h_goto (tgt := 37) C dX9_greatest_12 (by decide) ?_
    refine h_ireturn C hr hk dX9_greatest_37 ?_
    exact ⟨rfl, rfl⟩
abbrev rX9_ask : Room := { frames := 3, cells := 0, slots := 0, locals := 71 }
abbrev pX9_ask (z : Nat) (σ : hpMem) (a : Int) (b : Int) : Option Value → hpMem → Prop := fun r τ => r = some (.int (hpI (-2))) ∧ σ = τ
set_option maxHeartbeats 4000000 in
set_option maxRecDepth 20000 in
theorem tX9_ask (l : Launch) (D : va_G) (cy : Nat → ClassId) (z : Nat) (σ : hpMem) (a : Int) (ha : hpR a) (b : Int) (hb : hpR b) (hz_196 : ∀ i : Nat, σ 196 i = 0) : hpM l D cy z yX9_ask cX9_ask 4 (some .int) rX9_ask [.ref (z + 195), .int (hpI a), .int (hpI b)] σ (pX9_ask z σ a b) := by
  obtain ⟨ha1, ha2⟩ := ha
  obtain ⟨hb1, hb2⟩ := hb
  refine hp_met rfl (Nat.le_of_ble_eq_true rfl) (fun p e s m below meth c C hr hk => ?_)
  refine h_aload_n C dX9_ask_0 0 rfl rfl ?_
  refine h_iload_n C dX9_ask_1 1 rfl rfl ?_
  refine h_iload_n C dX9_ask_2 2 rfl rfl ?_
  refine h_callV (As := [.int (hpI a), .int (hpI b)]) (rest := []) C yyX9_layFits wd_1820 (tX9_layFits l D cy z _ a ⟨by omega, by omega⟩ b ⟨by omega, by omega⟩ (fun i => (hz_196 i))) kd_195 rfl rfl ⟨rfl, rfl, Nat.le_of_ble_eq_true rfl, Nat.le_of_ble_eq_true rfl⟩ ⟨Nat.le_of_ble_eq_true rfl, Nat.le_of_ble_eq_true rfl⟩ (Nat.le_of_ble_eq_true rfl) dX9_ask_3 (fun r1 τ1 hp1 => ?_)
  obtain ⟨rfl, rfl⟩ := hp1
  show hpV _ _ _ _ _ _ _ _ _ _ _ _ _ _ _ _ _ _ _ _ _ (_ :: _)
  refine h_istore_n (lv' := [(3, .int (hpI (-2))), (0, .ref (z + 195)), (1, .int (hpI a)), (2, .int (hpI b))]) C dX9_ask_6 rfl (by decide) rfl ?_
  refine h_iload_n C dX9_ask_7 0 rfl rfl ?_
  refine h_if_ge (tgt := 15) C dX9_ask_8 (by decide) ⟨by decide, by decide⟩ (fun h2 => ?_) (fun h2 => ?_)
  · exfalso; omega
  · refine h_iload_n C dX9_ask_11 0 rfl rfl ?_
    refine h_goto (tgt := 19) C dX9_ask_12 (by decide) ?_
    refine h_ireturn C hr hk dX9_ask_19 ?_
    exact ⟨rfl, rfl⟩
abbrev rX9_leaves : Room := { frames := 3, cells := 0, slots := 0, locals := 71 }
abbrev pX9_leaves (z : Nat) (σ : hpMem) (a : Int) (b : Int) : Option Value → hpMem → Prop := fun r τ => r = some (.int (hpI (-2))) ∧ σ = τ
set_option maxHeartbeats 4000000 in
set_option maxRecDepth 20000 in
theorem tX9_leaves (l : Launch) (D : va_G) (cy : Nat → ClassId) (z : Nat) (σ : hpMem) (a : Int) (ha : hpR a) (b : Int) (hb : hpR b) (hz_196 : ∀ i : Nat, σ 196 i = 0) : hpM l D cy z yX9_leaves cX9_leaves 4 (some .int) rX9_leaves [.ref (z + 195), .int (hpI a), .int (hpI b)] σ (pX9_leaves z σ a b) := by
  obtain ⟨ha1, ha2⟩ := ha
  obtain ⟨hb1, hb2⟩ := hb
  refine hp_met rfl (Nat.le_of_ble_eq_true rfl) (fun p e s m below meth c C hr hk => ?_)
  refine h_aload_n C dX9_leaves_0 0 rfl rfl ?_
  refine h_iload_n C dX9_leaves_1 1 rfl rfl ?_
  refine h_iload_n C dX9_leaves_2 2 rfl rfl ?_
  refine h_callV (As := [.int (hpI a), .int (hpI b)]) (rest := []) C yyX9_layFits wd_1820 (tX9_layFits l D cy z _ a ⟨by omega, by omega⟩ b ⟨by omega, by omega⟩ (fun i => (hz_196 i))) kd_195 rfl rfl ⟨rfl, rfl, Nat.le_of_ble_eq_true rfl, Nat.le_of_ble_eq_true rfl⟩ ⟨Nat.le_of_ble_eq_true rfl, Nat.le_of_ble_eq_true rfl⟩ (Nat.le_of_ble_eq_true rfl) dX9_leaves_3 (fun r1 τ1 hp1 => ?_)
  obtain ⟨rfl, rfl⟩ := hp1
  show hpV _ _ _ _ _ _ _ _ _ _ _ _ _ _ _ _ _ _ _ _ _ (_ :: _)
  refine h_istore_n (lv' := [(3, .int (hpI (-2))), (0, .ref (z + 195)), (1, .int (hpI a)), (2, .int (hpI b))]) C dX9_leaves_6 rfl (by decide) rfl ?_
  refine h_iload_n C dX9_leaves_7 0 rfl rfl ?_
  refine h_if_ge (tgt := 13) C dX9_leaves_8 (by decide) ⟨by decide, by decide⟩ (fun h2 => ?_) (fun h2 => ?_)
  · exfalso; omega
  · refine h_iload_n C dX9_leaves_11 0 rfl rfl ?_
    refine h_ireturn C hr hk dX9_leaves_12 ?_
    exact ⟨rfl, rfl⟩
abbrev rX9_worth : Room := { frames := 1, cells := 0, slots := 0, locals := 21 }
abbrev pX9_worth (z : Nat) (σ : hpMem) (a : Int) : Option Value → hpMem → Prop := fun r τ => r = some (.int (hpI (-2))) ∧ (∀ j : Nat, j ≠ 195 → j ≠ 203 → j ≠ 204 → τ j = σ j)
set_option maxHeartbeats 4000000 in
set_option maxRecDepth 20000 in
theorem tX9_worth (l : Launch) (D : va_G) (cy : Nat → ClassId) (z : Nat) (σ : hpMem) (a : Int) (ha : hpR a) (hz_196 : ∀ i : Nat, σ 196 i = 0) : hpM l D cy z yX9_worth cX9_worth 2 (some .int) rX9_worth [.ref (z + 195), .int (hpI a)] σ (pX9_worth z σ a) := by
  obtain ⟨ha1, ha2⟩ := ha
  refine hp_met rfl (Nat.le_of_ble_eq_true rfl) (fun p e s m below meth c C hr hk => ?_)
  refine h_aload_n C dX9_worth_0 0 rfl rfl ?_
  refine h_callV (As := []) (rest := []) C yyX9_asItIs wd_1520 (tX9_asItIs l D cy z _ (fun i => (hz_196 i))) kd_195 rfl rfl ⟨rfl, rfl, Nat.le_of_ble_eq_true rfl, Nat.le_of_ble_eq_true rfl⟩ ⟨Nat.le_of_ble_eq_true rfl, Nat.le_of_ble_eq_true rfl⟩ (Nat.le_of_ble_eq_true rfl) dX9_worth_1 (fun r1 τ1 hp1 => ?_)
  obtain ⟨rfl, hF1, hc1_0⟩ := hp1
  show hpV _ _ _ _ _ _ _ _ _ _ _ _ _ _ _ _ _ _ _ _ _ []
  refine h_aload_n C dX9_worth_4 0 rfl rfl ?_
  refine h_callV (As := []) (rest := []) C yyX9_isMoor wd_1571 (tX9_isMoor l D cy z _ (fun i => ((fun i => (congrFun (hF1 196 (by decide) (by decide) (by decide)) i).trans ((fun i => (hz_196 i)) i)) i))) kd_195 rfl rfl ⟨rfl, rfl, Nat.le_of_ble_eq_true rfl, Nat.le_of_ble_eq_true rfl⟩ ⟨Nat.le_of_ble_eq_true rfl, Nat.le_of_ble_eq_true rfl⟩ (Nat.le_of_ble_eq_true rfl) dX9_worth_5 (fun r2 τ2 hp2 => ?_)
  obtain ⟨rfl, rfl⟩ := hp2
  show hpV _ _ _ _ _ _ _ _ _ _ _ _ _ _ _ _ _ _ _ _ _ (_ :: _)
  refine h_if_eq (tgt := 37) C dX9_worth_8 (by decide) ⟨by decide, by decide⟩ (fun h3 => ?_) (fun h3 => ?_)
  · refine h_bipush C dX9_worth_37 (by decide) ?_
    refine h_ireturn C hr hk dX9_worth_39 ?_
    exact ⟨rfl, (fun j hj0 hj1 hj2 => ((hF1 j hj0 hj1 hj2).trans rfl))⟩
  · exfalso; omega
abbrev rX9_share : Room := { frames := 2, cells := 0, slots := 0, locals := 46 }
abbrev pX9_share (z : Nat) (σ : hpMem) (a : Int) (b : Int) : Option Value → hpMem → Prop := fun r τ => r = some (.int (hpI (-1000))) ∧ (∀ j : Nat, j ≠ 195 → j ≠ 203 → j ≠ 204 → τ j = σ j)
set_option maxHeartbeats 4000000 in
set_option maxRecDepth 20000 in
theorem tX9_share (l : Launch) (D : va_G) (cy : Nat → ClassId) (z : Nat) (σ : hpMem) (a : Int) (ha : hpR a) (b : Int) (hb : hpR b) (hz_196 : ∀ i : Nat, σ 196 i = 0) : hpM l D cy z yX9_share cX9_share 7 (some .int) rX9_share [.ref (z + 195), .int (hpI a), .int (hpI b)] σ (pX9_share z σ a b) := by
  obtain ⟨ha1, ha2⟩ := ha
  obtain ⟨hb1, hb2⟩ := hb
  refine hp_met rfl (Nat.le_of_ble_eq_true rfl) (fun p e s m below meth c C hr hk => ?_)
  refine h_aload_n C dX9_share_0 0 rfl rfl ?_
  refine h_callV (As := []) (rest := []) C yyX9_asItIs wd_1520 (tX9_asItIs l D cy z _ (fun i => (hz_196 i))) kd_195 rfl rfl ⟨rfl, rfl, Nat.le_of_ble_eq_true rfl, Nat.le_of_ble_eq_true rfl⟩ ⟨Nat.le_of_ble_eq_true rfl, Nat.le_of_ble_eq_true rfl⟩ (Nat.le_of_ble_eq_true rfl) dX9_share_1 (fun r1 τ1 hp1 => ?_)
  obtain ⟨rfl, hF1, hc1_0⟩ := hp1
  show hpV _ _ _ _ _ _ _ _ _ _ _ _ _ _ _ _ _ _ _ _ _ []
  refine h_aload_n C dX9_share_4 0 rfl rfl ?_
  refine h_iload_n C dX9_share_5 1 rfl rfl ?_
  refine h_callV (As := [.int (hpI a)]) (rest := []) C yyX9_isCart wd_1500 (tX9_isCart l D cy z _ a ⟨by omega, by omega⟩ (fun i => ((fun i => (congrFun (hF1 196 (by decide) (by decide) (by decide)) i).trans ((fun i => (hz_196 i)) i)) i))) kd_195 rfl rfl ⟨rfl, rfl, Nat.le_of_ble_eq_true rfl, Nat.le_of_ble_eq_true rfl⟩ ⟨Nat.le_of_ble_eq_true rfl, Nat.le_of_ble_eq_true rfl⟩ (Nat.le_of_ble_eq_true rfl) dX9_share_6 (fun r2 τ2 hp2 => ?_)
  obtain ⟨rfl, rfl⟩ := hp2
  show hpV _ _ _ _ _ _ _ _ _ _ _ _ _ _ _ _ _ _ _ _ _ (_ :: _)
  refine h_if_eq (tgt := 22) C dX9_share_9 (by decide) ⟨by decide, by decide⟩ (fun h3 => ?_) (fun h3 => ?_)
  · refine h_sipush C dX9_share_22 (by decide) ?_
    refine h_ireturn C hr hk dX9_share_25 ?_
    exact ⟨rfl, (fun j hj0 hj1 hj2 => ((hF1 j hj0 hj1 hj2).trans rfl))⟩
  · exfalso; omega
abbrev rX9_rests : Room := { frames := 3, cells := 0, slots := 0, locals := 68 }
abbrev pX9_rests (z : Nat) (σ : hpMem) (a : Int) (b : Int) : Option Value → hpMem → Prop := fun r τ => r = some (.int (hpI (-2))) ∧ σ = τ
set_option maxHeartbeats 4000000 in
set_option maxRecDepth 20000 in
theorem tX9_rests (l : Launch) (D : va_G) (cy : Nat → ClassId) (z : Nat) (σ : hpMem) (a : Int) (ha : hpR a) (b : Int) (hb : hpR b) (hz_196 : ∀ i : Nat, σ 196 i = 0) : hpM l D cy z yX9_rests cX9_rests 8 (some .int) rX9_rests [.ref (z + 195), .int (hpI a), .int (hpI b)] σ (pX9_rests z σ a b) := by
  obtain ⟨ha1, ha2⟩ := ha
  obtain ⟨hb1, hb2⟩ := hb
  refine hp_met rfl (Nat.le_of_ble_eq_true rfl) (fun p e s m below meth c C hr hk => ?_)
  refine h_aload_n C dX9_rests_0 0 rfl rfl ?_
  refine h_iload_n C dX9_rests_1 1 rfl rfl ?_
  refine h_iload_n C dX9_rests_2 2 rfl rfl ?_
  refine h_callV (As := [.int (hpI a), .int (hpI b)]) (rest := []) C yyX9_areTwo wd_1929 (tX9_areTwo l D cy z _ a ⟨by omega, by omega⟩ b ⟨by omega, by omega⟩ (fun i => (hz_196 i))) kd_195 rfl rfl ⟨rfl, rfl, Nat.le_of_ble_eq_true rfl, Nat.le_of_ble_eq_true rfl⟩ ⟨Nat.le_of_ble_eq_true rfl, Nat.le_of_ble_eq_true rfl⟩ (Nat.le_of_ble_eq_true rfl) dX9_rests_3 (fun r1 τ1 hp1 => ?_)
  obtain ⟨rfl, rfl⟩ := hp1
  show hpV _ _ _ _ _ _ _ _ _ _ _ _ _ _ _ _ _ _ _ _ _ (_ :: _)
  refine h_if_ne (tgt := 12) C dX9_rests_6 (by decide) ⟨by decide, by decide⟩ (fun h2 => ?_) (fun h2 => ?_)
  · exfalso; omega
  · refine h_bipush C dX9_rests_9 (by decide) ?_
    refine h_ireturn C hr hk dX9_rests_11 ?_
    exact ⟨rfl, rfl⟩
abbrev rX9_gets : Room := { frames := 3, cells := 0, slots := 0, locals := 68 }
abbrev pX9_gets (z : Nat) (σ : hpMem) (a : Int) (b : Int) (c0 : Int) (d0 : Int) (e0 : Int) : Option Value → hpMem → Prop := fun r τ => r = some (.int (hpI (-1000))) ∧ σ = τ
set_option maxHeartbeats 4000000 in
set_option maxRecDepth 20000 in
theorem tX9_gets (l : Launch) (D : va_G) (cy : Nat → ClassId) (z : Nat) (σ : hpMem) (a : Int) (ha : hpR a) (b : Int) (hb : hpR b) (c0 : Int) (hc0 : hpR c0) (d0 : Int) (hd0 : hpR d0) (e0 : Int) (he0 : hpR e0) (hz_196 : ∀ i : Nat, σ 196 i = 0) : hpM l D cy z yX9_gets cX9_gets 6 (some .int) rX9_gets [.ref (z + 195), .int (hpI a), .int (hpI b), .int (hpI c0), .int (hpI d0), .int (hpI e0)] σ (pX9_gets z σ a b c0 d0 e0) := by
  obtain ⟨ha1, ha2⟩ := ha
  obtain ⟨hb1, hb2⟩ := hb
  obtain ⟨hc01, hc02⟩ := hc0
  obtain ⟨hd01, hd02⟩ := hd0
  obtain ⟨he01, he02⟩ := he0
  refine hp_met rfl (Nat.le_of_ble_eq_true rfl) (fun p e s m below meth c C hr hk => ?_)
  refine h_aload_n C dX9_gets_0 0 rfl rfl ?_
  refine h_iload_n C dX9_gets_1 1 rfl rfl ?_
  refine h_iload_n C dX9_gets_2 2 rfl rfl ?_
  refine h_callV (As := [.int (hpI a), .int (hpI b)]) (rest := []) C yyX9_areTwo wd_1929 (tX9_areTwo l D cy z _ a ⟨by omega, by omega⟩ b ⟨by omega, by omega⟩ (fun i => (hz_196 i))) kd_195 rfl rfl ⟨rfl, rfl, Nat.le_of_ble_eq_true rfl, Nat.le_of_ble_eq_true rfl⟩ ⟨Nat.le_of_ble_eq_true rfl, Nat.le_of_ble_eq_true rfl⟩ (Nat.le_of_ble_eq_true rfl) dX9_gets_3 (fun r1 τ1 hp1 => ?_)
  obtain ⟨rfl, rfl⟩ := hp1
  show hpV _ _ _ _ _ _ _ _ _ _ _ _ _ _ _ _ _ _ _ _ _ (_ :: _)
  refine h_if_eq (tgt := 55) C dX9_gets_6 (by decide) ⟨by decide, by decide⟩ (fun h2 => ?_) (fun h2 => ?_)
  · refine h_sipush C dX9_gets_55 (by decide) ?_
    refine h_ireturn C hr hk dX9_gets_58 ?_
    exact ⟨rfl, rfl⟩
  · exfalso; omega
abbrev rX9_chance : Room := { frames := 3, cells := 0, slots := 0, locals := 64 }
abbrev pX9_chance (z : Nat) (σ : hpMem) (a : Int) (b : Int) (c0 : Int) : Option Value → hpMem → Prop := fun r τ => r = some (.long (hpJ (-2))) ∧ σ = τ
set_option maxHeartbeats 4000000 in
set_option maxRecDepth 20000 in
theorem tX9_chance (l : Launch) (D : va_G) (cy : Nat → ClassId) (z : Nat) (σ : hpMem) (a : Int) (ha : hpR a) (b : Int) (hb : hpR b) (c0 : Int) (hc0 : hpR c0) (hz_196 : ∀ i : Nat, σ 196 i = 0) : hpM l D cy z yX9_chance cX9_chance 4 (some .long) rX9_chance [.ref (z + 195), .int (hpI a), .int (hpI b), .int (hpI c0)] σ (pX9_chance z σ a b c0) := by
  obtain ⟨ha1, ha2⟩ := ha
  obtain ⟨hb1, hb2⟩ := hb
  obtain ⟨hc01, hc02⟩ := hc0
  refine hp_met rfl (Nat.le_of_ble_eq_true rfl) (fun p e s m below meth c C hr hk => ?_)
  refine h_aload_n C dX9_chance_0 0 rfl rfl ?_
  refine h_iload_n C dX9_chance_1 1 rfl rfl ?_
  refine h_iload_n C dX9_chance_2 3 rfl rfl ?_
  refine h_callV (As := [.int (hpI a), .int (hpI c0)]) (rest := []) C yyX9_isWet wd_1945 (tX9_isWet l D cy z _ a ⟨by omega, by omega⟩ c0 ⟨by omega, by omega⟩ (fun i => (hz_196 i))) kd_195 rfl rfl ⟨rfl, rfl, Nat.le_of_ble_eq_true rfl, Nat.le_of_ble_eq_true rfl⟩ ⟨Nat.le_of_ble_eq_true rfl, Nat.le_of_ble_eq_true rfl⟩ (Nat.le_of_ble_eq_true rfl) dX9_chance_3 (fun r1 τ1 hp1 => ?_)
  obtain ⟨rfl, rfl⟩ := hp1
  show hpV _ _ _ _ _ _ _ _ _ _ _ _ _ _ _ _ _ _ _ _ _ (_ :: _)
  refine h_if_eq (tgt := 21) C dX9_chance_6 (by decide) ⟨by decide, by decide⟩ (fun h2 => ?_) (fun h2 => ?_)
  · refine h_ldc2 C (-2) wd_1949 (by decide) dX9_chance_21 ?_
    refine h_lreturn C hr hk dX9_chance_24 ?_
    exact ⟨rfl, rfl⟩
  · exfalso; omega
abbrev rX9_mean : Room := { frames := 3, cells := 0, slots := 0, locals := 64 }
abbrev pX9_mean (z : Nat) (σ : hpMem) (a : Int) (b : Int) : Option Value → hpMem → Prop := fun r τ => r = some (.long (hpJ (-2))) ∧ σ = τ
set_option maxHeartbeats 4000000 in
set_option maxRecDepth 20000 in
theorem tX9_mean (l : Launch) (D : va_G) (cy : Nat → ClassId) (z : Nat) (σ : hpMem) (a : Int) (ha : hpR a) (b : Int) (hb : hpR b) (hz_196 : ∀ i : Nat, σ 196 i = 0) : hpM l D cy z yX9_mean cX9_mean 3 (some .long) rX9_mean [.ref (z + 195), .int (hpI a), .int (hpI b)] σ (pX9_mean z σ a b) := by
  obtain ⟨ha1, ha2⟩ := ha
  obtain ⟨hb1, hb2⟩ := hb
  refine hp_met rfl (Nat.le_of_ble_eq_true rfl) (fun p e s m below meth c C hr hk => ?_)
  refine h_aload_n C dX9_mean_0 0 rfl rfl ?_
  refine h_iload_n C dX9_mean_1 1 rfl rfl ?_
  refine h_iload_n C dX9_mean_2 2 rfl rfl ?_
  refine h_callV (As := [.int (hpI a), .int (hpI b)]) (rest := []) C yyX9_isWet wd_1945 (tX9_isWet l D cy z _ a ⟨by omega, by omega⟩ b ⟨by omega, by omega⟩ (fun i => (hz_196 i))) kd_195 rfl rfl ⟨rfl, rfl, Nat.le_of_ble_eq_true rfl, Nat.le_of_ble_eq_true rfl⟩ ⟨Nat.le_of_ble_eq_true rfl, Nat.le_of_ble_eq_true rfl⟩ (Nat.le_of_ble_eq_true rfl) dX9_mean_3 (fun r1 τ1 hp1 => ?_)
  obtain ⟨rfl, rfl⟩ := hp1
  show hpV _ _ _ _ _ _ _ _ _ _ _ _ _ _ _ _ _ _ _ _ _ (_ :: _)
  refine h_if_ne (tgt := 13) C dX9_mean_6 (by decide) ⟨by decide, by decide⟩ (fun h2 => ?_) (fun h2 => ?_)
  · exfalso; omega
  · refine h_ldc2 C (-2) wd_1949 (by decide) dX9_mean_9 ?_
    refine h_lreturn C hr hk dX9_mean_12 ?_
    exact ⟨rfl, rfl⟩
abbrev rX9_brings : Room := { frames := 2, cells := 0, slots := 0, locals := 42 }
abbrev pX9_brings (z : Nat) (σ : hpMem) (a : Int) (b : Int) : Option Value → hpMem → Prop := fun r τ => r = some (.int (hpI (-2))) ∧ σ = τ
set_option maxHeartbeats 4000000 in
set_option maxRecDepth 20000 in
theorem tX9_brings (l : Launch) (D : va_G) (cy : Nat → ClassId) (z : Nat) (σ : hpMem) (a : Int) (ha : hpR a) (b : Int) (hb : hpR b) (hz_196 : ∀ i : Nat, σ 196 i = 0) : hpM l D cy z yX9_brings cX9_brings 3 (some .int) rX9_brings [.ref (z + 195), .int (hpI a), .int (hpI b)] σ (pX9_brings z σ a b) := by
  obtain ⟨ha1, ha2⟩ := ha
  obtain ⟨hb1, hb2⟩ := hb
  refine hp_met rfl (Nat.le_of_ble_eq_true rfl) (fun p e s m below meth c C hr hk => ?_)
  refine h_iload_n C dX9_brings_0 1 rfl rfl ?_
  refine h_i2l C dX9_brings_1 ⟨by omega, by omega⟩ ?_
  refine h_lconst C 1 dX9_brings_2 (by decide) ?_
  refine h_ldc2 C 20 wd_1962 (by decide) dX9_brings_3 ?_
  refine h_callS (As := [.long (hpJ a), .long (hpJ 1), .long (hpJ 20)]) (rest := []) C yyX9_in rfl wd_1401 (tX9_in l D cy z _ a ⟨by omega, by omega⟩ 1 ⟨by decide, by decide⟩ 20 ⟨by decide, by decide⟩) rfl rfl ⟨rfl, rfl, Nat.le_of_ble_eq_true rfl, Nat.le_of_ble_eq_true rfl⟩ ⟨Nat.le_of_ble_eq_true rfl, Nat.le_of_ble_eq_true rfl⟩ (Nat.le_of_ble_eq_true rfl) dX9_brings_6 (fun r1 τ1 hp1 => ?_)
  obtain ⟨⟨x1, rfl, ⟨hx1a, hx1b⟩, hx1⟩, rfl⟩ := hp1
  show hpV _ _ _ _ _ _ _ _ _ _ _ _ _ _ _ _ _ _ _ _ _ (_ :: _)
  refine h_if_eq (tgt := 34) C dX9_brings_9 (by decide) ⟨by omega, by omega⟩ (fun h2 => ?_) (fun h2 => ?_)
  · refine h_bipush C dX9_brings_34 (by decide) ?_
    refine h_ireturn C hr hk dX9_brings_36 ?_
    exact ⟨rfl, rfl⟩
  · refine h_aload_n C dX9_brings_12 0 rfl rfl ?_
    refine h_iload_n C dX9_brings_13 2 rfl rfl ?_
    refine h_i2l C dX9_brings_14 ⟨by omega, by omega⟩ ?_
    refine h_callV (As := [.long (hpJ b)]) (rest := []) C yyX9_isDay wd_1575 (tX9_isDay l D cy z _ b ⟨by omega, by omega⟩ (fun i => (hz_196 i))) kd_195 rfl rfl ⟨rfl, rfl, Nat.le_of_ble_eq_true rfl, Nat.le_of_ble_eq_true rfl⟩ ⟨Nat.le_of_ble_eq_true rfl, Nat.le_of_ble_eq_true rfl⟩ (Nat.le_of_ble_eq_true rfl) dX9_brings_15 (fun r3 τ3 hp3 => ?_)
    obtain ⟨rfl, rfl⟩ := hp3
    show hpV _ _ _ _ _ _ _ _ _ _ _ _ _ _ _ _ _ _ _ _ _ (_ :: _)
    refine h_if_eq (tgt := 34) C dX9_brings_18 (by decide) ⟨by decide, by decide⟩ (fun h4 => ?_) (fun h4 => ?_)
    · refine h_bipush C dX9_brings_34 (by decide) ?_
      refine h_ireturn C hr hk dX9_brings_36 ?_
      exact ⟨rfl, rfl⟩
    · exfalso; omega
abbrev rX9_away : Room := { frames := 2, cells := 0, slots := 0, locals := 42 }
abbrev pX9_away (z : Nat) (σ : hpMem) (a : Int) : Option Value → hpMem → Prop := fun r τ => r = some (.int (hpI (-2))) ∧ σ = τ
set_option maxHeartbeats 4000000 in
set_option maxRecDepth 20000 in
theorem tX9_away (l : Launch) (D : va_G) (cy : Nat → ClassId) (z : Nat) (σ : hpMem) (a : Int) (ha : hpR a) (hz_196 : ∀ i : Nat, σ 196 i = 0) : hpM l D cy z yX9_away cX9_away 2 (some .int) rX9_away [.ref (z + 195), .int (hpI a)] σ (pX9_away z σ a) := by
  obtain ⟨ha1, ha2⟩ := ha
  refine hp_met rfl (Nat.le_of_ble_eq_true rfl) (fun p e s m below meth c C hr hk => ?_)
  refine h_aload_n C dX9_away_0 0 rfl rfl ?_
  refine h_iload_n C dX9_away_1 1 rfl rfl ?_
  refine h_i2l C dX9_away_2 ⟨by omega, by omega⟩ ?_
  refine h_callV (As := [.long (hpJ a)]) (rest := []) C yyX9_isDay wd_1575 (tX9_isDay l D cy z _ a ⟨by omega, by omega⟩ (fun i => (hz_196 i))) kd_195 rfl rfl ⟨rfl, rfl, Nat.le_of_ble_eq_true rfl, Nat.le_of_ble_eq_true rfl⟩ ⟨Nat.le_of_ble_eq_true rfl, Nat.le_of_ble_eq_true rfl⟩ (Nat.le_of_ble_eq_true rfl) dX9_away_3 (fun r1 τ1 hp1 => ?_)
  obtain ⟨rfl, rfl⟩ := hp1
  show hpV _ _ _ _ _ _ _ _ _ _ _ _ _ _ _ _ _ _ _ _ _ (_ :: _)
  refine h_if_eq (tgt := 17) C dX9_away_6 (by decide) ⟨by decide, by decide⟩ (fun h2 => ?_) (fun h2 => ?_)
  · refine h_bipush C dX9_away_17 (by decide) ?_
    refine h_ireturn C hr hk dX9_away_19 ?_
    exact ⟨rfl, rfl⟩
  · exfalso; omega
abbrev rX9_undo : Room := { frames := 1, cells := 0, slots := 0, locals := 20 }
abbrev pX9_undo (z : Nat) (σ : hpMem) : Option Value → hpMem → Prop := fun r τ => r = some (.int (hpI (-2))) ∧ σ = τ
set_option maxHeartbeats 4000000 in
set_option maxRecDepth 20000 in
theorem tX9_undo (l : Launch) (D : va_G) (cy : Nat → ClassId) (z : Nat) (σ : hpMem) (hz_196 : ∀ i : Nat, σ 196 i = 0) : hpM l D cy z yX9_undo cX9_undo 1 (some .int) rX9_undo [.ref (z + 195)] σ (pX9_undo z σ) := by
  refine hp_met rfl (Nat.le_of_ble_eq_true rfl) (fun p e s m below meth c C hr hk => ?_)
  refine h_aload_n C dX9_undo_0 0 rfl rfl ?_
  refine h_callV (As := []) (rest := []) C yyX9_isMoor wd_1571 (tX9_isMoor l D cy z _ (fun i => (hz_196 i))) kd_195 rfl rfl ⟨rfl, rfl, Nat.le_of_ble_eq_true rfl, Nat.le_of_ble_eq_true rfl⟩ ⟨Nat.le_of_ble_eq_true rfl, Nat.le_of_ble_eq_true rfl⟩ (Nat.le_of_ble_eq_true rfl) dX9_undo_1 (fun r1 τ1 hp1 => ?_)
  obtain ⟨rfl, rfl⟩ := hp1
  show hpV _ _ _ _ _ _ _ _ _ _ _ _ _ _ _ _ _ _ _ _ _ (_ :: _)
  refine h_if_ne (tgt := 10) C dX9_undo_4 (by decide) ⟨by decide, by decide⟩ (fun h2 => ?_) (fun h2 => ?_)
  · exfalso; omega
  · refine h_bipush C dX9_undo_7 (by decide) ?_
    refine h_ireturn C hr hk dX9_undo_9 ?_
    exact ⟨rfl, rfl⟩
abbrev rX9_anew : Room := { frames := 1, cells := 0, slots := 0, locals := 20 }
abbrev pX9_anew (z : Nat) (σ : hpMem) : Option Value → hpMem → Prop := fun r τ => r = some (.int (hpI (-2))) ∧ σ = τ
set_option maxHeartbeats 4000000 in
set_option maxRecDepth 20000 in
theorem tX9_anew (l : Launch) (D : va_G) (cy : Nat → ClassId) (z : Nat) (σ : hpMem) (hz_196 : ∀ i : Nat, σ 196 i = 0) : hpM l D cy z yX9_anew cX9_anew 2 (some .int) rX9_anew [.ref (z + 195)] σ (pX9_anew z σ) := by
  refine hp_met rfl (Nat.le_of_ble_eq_true rfl) (fun p e s m below meth c C hr hk => ?_)
  refine h_aload_n C dX9_anew_0 0 rfl rfl ?_
  refine h_callV (As := []) (rest := []) C yyX9_isMoor wd_1571 (tX9_isMoor l D cy z _ (fun i => (hz_196 i))) kd_195 rfl rfl ⟨rfl, rfl, Nat.le_of_ble_eq_true rfl, Nat.le_of_ble_eq_true rfl⟩ ⟨Nat.le_of_ble_eq_true rfl, Nat.le_of_ble_eq_true rfl⟩ (Nat.le_of_ble_eq_true rfl) dX9_anew_1 (fun r1 τ1 hp1 => ?_)
  obtain ⟨rfl, rfl⟩ := hp1
  show hpV _ _ _ _ _ _ _ _ _ _ _ _ _ _ _ _ _ _ _ _ _ (_ :: _)
  refine h_if_ne (tgt := 10) C dX9_anew_4 (by decide) ⟨by decide, by decide⟩ (fun h2 => ?_) (fun h2 => ?_)
  · exfalso; omega
  · refine h_bipush C dX9_anew_7 (by decide) ?_
    refine h_ireturn C hr hk dX9_anew_9 ?_
    exact ⟨rfl, rfl⟩
abbrev rX9_drawn : Room := { frames := 1, cells := 0, slots := 0, locals := 20 }
abbrev pX9_drawn (z : Nat) (σ : hpMem) (a : Int) (b : Int) : Option Value → hpMem → Prop := fun r τ => r = some (.int (hpI (-2))) ∧ σ = τ
set_option maxHeartbeats 4000000 in
set_option maxRecDepth 20000 in
theorem tX9_drawn (l : Launch) (D : va_G) (cy : Nat → ClassId) (z : Nat) (σ : hpMem) (a : Int) (ha : hpR a) (b : Int) (hb : hpR b) (hz_196 : ∀ i : Nat, σ 196 i = 0) : hpM l D cy z yX9_drawn cX9_drawn 3 (some .int) rX9_drawn [.ref (z + 195), .int (hpI a), .int (hpI b)] σ (pX9_drawn z σ a b) := by
  obtain ⟨ha1, ha2⟩ := ha
  obtain ⟨hb1, hb2⟩ := hb
  refine hp_met rfl (Nat.le_of_ble_eq_true rfl) (fun p e s m below meth c C hr hk => ?_)
  refine h_aload_n C dX9_drawn_0 0 rfl rfl ?_
  refine h_callV (As := []) (rest := []) C yyX9_isMoor wd_1571 (tX9_isMoor l D cy z _ (fun i => (hz_196 i))) kd_195 rfl rfl ⟨rfl, rfl, Nat.le_of_ble_eq_true rfl, Nat.le_of_ble_eq_true rfl⟩ ⟨Nat.le_of_ble_eq_true rfl, Nat.le_of_ble_eq_true rfl⟩ (Nat.le_of_ble_eq_true rfl) dX9_drawn_1 (fun r1 τ1 hp1 => ?_)
  obtain ⟨rfl, rfl⟩ := hp1
  show hpV _ _ _ _ _ _ _ _ _ _ _ _ _ _ _ _ _ _ _ _ _ (_ :: _)
  refine h_if_eq (tgt := 24) C dX9_drawn_4 (by decide) ⟨by decide, by decide⟩ (fun h2 => ?_) (fun h2 => ?_)
  · refine h_bipush C dX9_drawn_24 (by decide) ?_
    refine h_ireturn C hr hk dX9_drawn_26 ?_
    exact ⟨rfl, rfl⟩
  · exfalso; omega
abbrev rX9_luck : Room := { frames := 1, cells := 0, slots := 0, locals := 20 }
abbrev pX9_luck (z : Nat) (σ : hpMem) (a : Int) (b : Int) (c0 : Int) : Option Value → hpMem → Prop := fun r τ => r = some (.int (hpI (-2))) ∧ σ = τ
set_option maxHeartbeats 4000000 in
set_option maxRecDepth 20000 in
theorem tX9_luck (l : Launch) (D : va_G) (cy : Nat → ClassId) (z : Nat) (σ : hpMem) (a : Int) (ha : hpR a) (b : Int) (hb : hpR b) (c0 : Int) (hc0 : hpR c0) (hz_196 : ∀ i : Nat, σ 196 i = 0) : hpM l D cy z yX9_luck cX9_luck 6 (some .int) rX9_luck [.ref (z + 195), .int (hpI a), .int (hpI b), .int (hpI c0)] σ (pX9_luck z σ a b c0) := by
  obtain ⟨ha1, ha2⟩ := ha
  obtain ⟨hb1, hb2⟩ := hb
  obtain ⟨hc01, hc02⟩ := hc0
  refine hp_met rfl (Nat.le_of_ble_eq_true rfl) (fun p e s m below meth c C hr hk => ?_)
  refine h_aload_n C dX9_luck_0 0 rfl rfl ?_
  refine h_callV (As := []) (rest := []) C yyX9_isMoor wd_1571 (tX9_isMoor l D cy z _ (fun i => (hz_196 i))) kd_195 rfl rfl ⟨rfl, rfl, Nat.le_of_ble_eq_true rfl, Nat.le_of_ble_eq_true rfl⟩ ⟨Nat.le_of_ble_eq_true rfl, Nat.le_of_ble_eq_true rfl⟩ (Nat.le_of_ble_eq_true rfl) dX9_luck_1 (fun r1 τ1 hp1 => ?_)
  obtain ⟨rfl, rfl⟩ := hp1
  show hpV _ _ _ _ _ _ _ _ _ _ _ _ _ _ _ _ _ _ _ _ _ (_ :: _)
  refine h_if_eq (tgt := 38) C dX9_luck_4 (by decide) ⟨by decide, by decide⟩ (fun h2 => ?_) (fun h2 => ?_)
  · refine h_bipush C dX9_luck_38 (by decide) ?_
    refine h_ireturn C hr hk dX9_luck_40 ?_
    exact ⟨rfl, rfl⟩
  · exfalso; omega
abbrev rX9_rate : Room := { frames := 2, cells := 0, slots := 0, locals := 46 }
abbrev pX9_rate (z : Nat) (σ : hpMem) (a : Int) (b : Int) : Option Value → hpMem → Prop := fun r τ => r = some (.int (hpI (-2))) ∧ σ = τ
set_option maxHeartbeats 4000000 in
set_option maxRecDepth 20000 in
theorem tX9_rate (l : Launch) (D : va_G) (cy : Nat → ClassId) (z : Nat) (σ : hpMem) (a : Int) (ha : hpR a) (b : Int) (hb : hpR b) (hz_196 : ∀ i : Nat, σ 196 i = 0) : hpM l D cy z yX9_rate cX9_rate 4 (some .int) rX9_rate [.ref (z + 195), .int (hpI a), .int (hpI b)] σ (pX9_rate z σ a b) := by
  obtain ⟨ha1, ha2⟩ := ha
  obtain ⟨hb1, hb2⟩ := hb
  refine hp_met rfl (Nat.le_of_ble_eq_true rfl) (fun p e s m below meth c C hr hk => ?_)
  refine h_aload_n C dX9_rate_0 0 rfl rfl ?_
  refine h_iload_n C dX9_rate_1 1 rfl rfl ?_
  refine h_callV (As := [.int (hpI a)]) (rest := []) C yyX9_isHeap wd_1492 (tX9_isHeap l D cy z _ a ⟨by omega, by omega⟩ (fun i => (hz_196 i))) kd_195 rfl rfl ⟨rfl, rfl, Nat.le_of_ble_eq_true rfl, Nat.le_of_ble_eq_true rfl⟩ ⟨Nat.le_of_ble_eq_true rfl, Nat.le_of_ble_eq_true rfl⟩ (Nat.le_of_ble_eq_true rfl) dX9_rate_2 (fun r1 τ1 hp1 => ?_)
  obtain ⟨rfl, rfl⟩ := hp1
  show hpV _ _ _ _ _ _ _ _ _ _ _ _ _ _ _ _ _ _ _ _ _ (_ :: _)
  refine h_if_eq (tgt := 20) C dX9_rate_5 (by decide) ⟨by decide, by decide⟩ (fun h2 => ?_) (fun h2 => ?_)
  · refine h_bipush C dX9_rate_20 (by decide) ?_
    refine h_ireturn C hr hk dX9_rate_22 ?_
    exact ⟨rfl, rfl⟩
  · exfalso; omega
abbrev rX9_count : Room := { frames := 1, cells := 0, slots := 0, locals := 25 }
abbrev pX9_count (z : Nat) (σ : hpMem) (n : Int) : Option Value → hpMem → Prop := fun r τ => (∃ x : Int, r = some (.int (hpI x)) ∧ hpR x ∧ ((0 ≤ n ∧ n ≤ 8 ∧ x = 0) ∨ ((n < 0 ∨ 8 < n) ∧ x = -1))) ∧ σ = τ
set_option maxHeartbeats 4000000 in
set_option maxRecDepth 20000 in
theorem tX9_count (l : Launch) (D : va_G) (cy : Nat → ClassId) (z : Nat) (σ : hpMem) (n : Int) (hn : hpR n) (h_195_5 : σ 195 5 = 0) (h_213_0 : σ 213 0 = -1) (h_213_1 : σ 213 1 = -1) (h_213_2 : σ 213 2 = -1) (h_213_3 : σ 213 3 = -1) (hz_196 : ∀ i : Nat, σ 196 i = 0) : hpM l D cy z yX9_count cX9_count 4 (some .int) rX9_count [.ref (z + 195), .int (hpI n)] σ (pX9_count z σ n) := by
  obtain ⟨hn1, hn2⟩ := hn
  refine hp_met rfl (Nat.le_of_ble_eq_true rfl) (fun p e s m below meth c C hr hk => ?_)
  refine h_iload_n C dX9_count_0 1 rfl rfl ?_
  refine h_i2l C dX9_count_1 ⟨by omega, by omega⟩ ?_
  refine h_lconst C 0 dX9_count_2 (by decide) ?_
  refine h_ldc2 C 6 wd_2008 (by decide) dX9_count_3 ?_
  refine h_callS (As := [.long (hpJ n), .long (hpJ 0), .long (hpJ 6)]) (rest := []) C yyX9_in rfl wd_1401 (tX9_in l D cy z _ n ⟨by omega, by omega⟩ 0 ⟨by decide, by decide⟩ 6 ⟨by decide, by decide⟩) rfl rfl ⟨rfl, rfl, Nat.le_of_ble_eq_true rfl, Nat.le_of_ble_eq_true rfl⟩ ⟨Nat.le_of_ble_eq_true rfl, Nat.le_of_ble_eq_true rfl⟩ (Nat.le_of_ble_eq_true rfl) dX9_count_6 (fun r1 τ1 hp1 => ?_)
  obtain ⟨⟨x1, rfl, ⟨hx1a, hx1b⟩, hx1⟩, rfl⟩ := hp1
  show hpV _ _ _ _ _ _ _ _ _ _ _ _ _ _ _ _ _ _ _ _ _ (_ :: _)
  refine h_if_eq (tgt := 19) C dX9_count_9 (by decide) ⟨by omega, by omega⟩ (fun h2 => ?_) (fun h2 => ?_)
  · refine h_iload_n C dX9_count_19 1 rfl rfl ?_
    refine h_bipush C dX9_count_20 (by decide) ?_
    refine h_icmp_ne (tgt := 30) C dX9_count_22 (by decide) ⟨by omega, by omega⟩ ⟨by decide, by decide⟩ (fun h3 => ?_) (fun h3 => ?_)
    · refine h_iload_n C dX9_count_30 1 rfl rfl ?_
      refine h_bipush C dX9_count_31 (by decide) ?_
      refine h_icmp_eq (tgt := 38) C dX9_count_33 (by decide) ⟨by omega, by omega⟩ ⟨by decide, by decide⟩ (fun h4 => ?_) (fun h4 => ?_)
      · refine h_iconst C dX9_count_38 ?_
        refine h_istore_n (lv' := [(2, .int (hpI 0)), (0, .ref (z + 195)), (1, .int (hpI n))]) C dX9_count_39 rfl (by decide) rfl ?_
        refine h_iconst C dX9_count_40 ?_
        refine h_istore_n (lv' := [(3, .int (hpI 0)), (2, .int (hpI 0)), (0, .ref (z + 195)), (1, .int (hpI n))]) C dX9_count_41 rfl (by decide) rfl ?_
        refine h_iload_n C dX9_count_42 0 rfl rfl ?_
        refine h_iconst C dX9_count_43 ?_
        refine h_icmp_ge (tgt := 71) C dX9_count_44 (by decide) ⟨by decide, by decide⟩ ⟨by decide, by decide⟩ (fun h5 => ?_) (fun h5 => ?_)
        · exfalso; omega
        · refine h_iload_n C dX9_count_47 1 rfl rfl ?_
          refine h_aload_n C dX9_count_48 2 rfl rfl ?_
          refine h_get C O9 42 kd_195 (by decide) wd_1298 dX9_count_49 fr_195_42 ?_
          refine h_iload_n C dX9_count_52 0 rfl rfl ?_
          refine h_iaload C dX9_count_53 kd_213 0 rfl (by rw [ln_213]; decide) h_213_0 ?_
          refine h_iconst C dX9_count_54 ?_
          refine h_icmp_ne (tgt := 62) C dX9_count_55 (by decide) ⟨by decide, by decide⟩ ⟨by decide, by decide⟩ (fun h6 => ?_) (fun h6 => ?_)
          · exfalso; omega
          · refine h_iconst C dX9_count_58 ?_
            refine h_goto (tgt := 63) C dX9_count_59 (by decide) ?_
            refine h_iadd (r := 0) C dX9_count_63 (by decide) ?_
            refine h_istore_n (lv' := [(2, .int (hpI 0)), (3, .int (hpI 0)), (0, .ref (z + 195)), (1, .int (hpI n))]) C dX9_count_64 rfl (by decide) rfl ?_
            refine h_iinc (lv' := [(3, .int (hpI 1)), (2, .int (hpI 0)), (0, .ref (z + 195)), (1, .int (hpI n))]) C dX9_count_65 1 rfl rfl (by decide) rfl ?_
            refine h_goto (tgt := 42) C dX9_count_68 (by decide) ?_
            refine h_iload_n C dX9_count_42 0 rfl rfl ?_
            refine h_iconst C dX9_count_43 ?_
            refine h_icmp_ge (tgt := 71) C dX9_count_44 (by decide) ⟨by decide, by decide⟩ ⟨by decide, by decide⟩ (fun h7 => ?_) (fun h7 => ?_)
            · exfalso; omega
            · refine h_iload_n C dX9_count_47 1 rfl rfl ?_
              refine h_aload_n C dX9_count_48 2 rfl rfl ?_
              refine h_get C O9 42 kd_195 (by decide) wd_1298 dX9_count_49 fr_195_42 ?_
              refine h_iload_n C dX9_count_52 0 rfl rfl ?_
              refine h_iaload C dX9_count_53 kd_213 1 rfl (by rw [ln_213]; decide) h_213_1 ?_
              refine h_iconst C dX9_count_54 ?_
              refine h_icmp_ne (tgt := 62) C dX9_count_55 (by decide) ⟨by decide, by decide⟩ ⟨by decide, by decide⟩ (fun h8 => ?_) (fun h8 => ?_)
              · exfalso; omega
              · refine h_iconst C dX9_count_58 ?_
                refine h_goto (tgt := 63) C dX9_count_59 (by decide) ?_
                refine h_iadd (r := 0) C dX9_count_63 (by decide) ?_
                refine h_istore_n (lv' := [(2, .int (hpI 0)), (3, .int (hpI 1)), (0, .ref (z + 195)), (1, .int (hpI n))]) C dX9_count_64 rfl (by decide) rfl ?_
                refine h_iinc (lv' := [(3, .int (hpI 2)), (2, .int (hpI 0)), (0, .ref (z + 195)), (1, .int (hpI n))]) C dX9_count_65 1 rfl rfl (by decide) rfl ?_
                refine h_goto (tgt := 42) C dX9_count_68 (by decide) ?_
                refine h_iload_n C dX9_count_42 0 rfl rfl ?_
                refine h_iconst C dX9_count_43 ?_
                refine h_icmp_ge (tgt := 71) C dX9_count_44 (by decide) ⟨by decide, by decide⟩ ⟨by decide, by decide⟩ (fun h9 => ?_) (fun h9 => ?_)
                · exfalso; omega
                · refine h_iload_n C dX9_count_47 1 rfl rfl ?_
                  refine h_aload_n C dX9_count_48 2 rfl rfl ?_
                  refine h_get C O9 42 kd_195 (by decide) wd_1298 dX9_count_49 fr_195_42 ?_
                  refine h_iload_n C dX9_count_52 0 rfl rfl ?_
                  refine h_iaload C dX9_count_53 kd_213 2 rfl (by rw [ln_213]; decide) h_213_2 ?_
                  refine h_iconst C dX9_count_54 ?_
                  refine h_icmp_ne (tgt := 62) C dX9_count_55 (by decide) ⟨by decide, by decide⟩ ⟨by decide, by decide⟩ (fun h10 => ?_) (fun h10 => ?_)
                  · exfalso; omega
                  · refine h_iconst C dX9_count_58 ?_
                    refine h_goto (tgt := 63) C dX9_count_59 (by decide) ?_
                    refine h_iadd (r := 0) C dX9_count_63 (by decide) ?_
                    refine h_istore_n (lv' := [(2, .int (hpI 0)), (3, .int (hpI 2)), (0, .ref (z + 195)), (1, .int (hpI n))]) C dX9_count_64 rfl (by decide) rfl ?_
                    refine h_iinc (lv' := [(3, .int (hpI 3)), (2, .int (hpI 0)), (0, .ref (z + 195)), (1, .int (hpI n))]) C dX9_count_65 1 rfl rfl (by decide) rfl ?_
                    refine h_goto (tgt := 42) C dX9_count_68 (by decide) ?_
                    refine h_iload_n C dX9_count_42 0 rfl rfl ?_
                    refine h_iconst C dX9_count_43 ?_
                    refine h_icmp_ge (tgt := 71) C dX9_count_44 (by decide) ⟨by decide, by decide⟩ ⟨by decide, by decide⟩ (fun h11 => ?_) (fun h11 => ?_)
                    · exfalso; omega
                    · refine h_iload_n C dX9_count_47 1 rfl rfl ?_
                      refine h_aload_n C dX9_count_48 2 rfl rfl ?_
                      refine h_get C O9 42 kd_195 (by decide) wd_1298 dX9_count_49 fr_195_42 ?_
                      refine h_iload_n C dX9_count_52 0 rfl rfl ?_
                      refine h_iaload C dX9_count_53 kd_213 3 rfl (by rw [ln_213]; decide) h_213_3 ?_
                      refine h_iconst C dX9_count_54 ?_
                      refine h_icmp_ne (tgt := 62) C dX9_count_55 (by decide) ⟨by decide, by decide⟩ ⟨by decide, by decide⟩ (fun h12 => ?_) (fun h12 => ?_)
                      · exfalso; omega
                      · refine h_iconst C dX9_count_58 ?_
                        refine h_goto (tgt := 63) C dX9_count_59 (by decide) ?_
                        refine h_iadd (r := 0) C dX9_count_63 (by decide) ?_
                        refine h_istore_n (lv' := [(2, .int (hpI 0)), (3, .int (hpI 3)), (0, .ref (z + 195)), (1, .int (hpI n))]) C dX9_count_64 rfl (by decide) rfl ?_
                        refine h_iinc (lv' := [(3, .int (hpI 4)), (2, .int (hpI 0)), (0, .ref (z + 195)), (1, .int (hpI n))]) C dX9_count_65 1 rfl rfl (by decide) rfl ?_
                        refine h_goto (tgt := 42) C dX9_count_68 (by decide) ?_
                        refine h_iload_n C dX9_count_42 0 rfl rfl ?_
                        refine h_iconst C dX9_count_43 ?_
                        refine h_icmp_ge (tgt := 71) C dX9_count_44 (by decide) ⟨by decide, by decide⟩ ⟨by decide, by decide⟩ (fun h13 => ?_) (fun h13 => ?_)
                        · refine h_iload_n C dX9_count_71 1 rfl rfl ?_
                          refine h_ireturn C hr hk dX9_count_72 ?_
                          exact ⟨⟨_, rfl, ⟨by decide, by decide⟩, by omega⟩, rfl⟩
                        · exfalso; omega
      · refine h_iconst C dX9_count_36 ?_
        refine h_ireturn C hr hk dX9_count_37 ?_
        exact ⟨⟨_, rfl, ⟨by decide, by decide⟩, by omega⟩, rfl⟩
    · refine h_aload_n C dX9_count_25 0 rfl rfl ?_
      refine h_get C O9 5 kd_195 (by decide) wd_1261 dX9_count_26 (fi_195_5 h_195_5) ?_
      refine h_ireturn C hr hk dX9_count_29 ?_
      exact ⟨⟨_, rfl, ⟨by decide, by decide⟩, by omega⟩, rfl⟩
  · refine h_aload_n C dX9_count_12 0 rfl rfl ?_
    refine h_get C O9 1 kd_195 (by decide) wd_1257 dX9_count_13 fr_195_1 ?_
    refine h_iload_n C dX9_count_16 1 rfl rfl ?_
    refine h_iaload C dX9_count_17 kd_196 (n).toNat (Int.toNat_of_nonneg (by omega)) (by rw [ln_196]; omega) (hz_196 _) ?_
    refine h_ireturn C hr hk dX9_count_18 ?_
    exact ⟨⟨_, rfl, ⟨by decide, by decide⟩, by omega⟩, rfl⟩
abbrev rX9_image : Room := { frames := 1, cells := 0, slots := 0, locals := 25 }
abbrev pX9_image (z : Nat) (σ : hpMem) (n : Int) : Option Value → hpMem → Prop := fun r τ => (∃ x : Int, r = some (.int (hpI x)) ∧ hpR x ∧ ((0 ≤ n ∧ n ≤ 2 ∧ x = 0) ∨ ((n < 0 ∨ 2 < n) ∧ x = -2))) ∧ (∀ j : Nat, j ≠ 197 → j ≠ 198 → τ j = σ j)
set_option maxHeartbeats 4000000 in
set_option maxRecDepth 20000 in
theorem tX9_image (l : Launch) (D : va_G) (cy : Nat → ClassId) (z : Nat) (σ : hpMem) (n : Int) (hn : hpR n) : hpM l D cy z yX9_image cX9_image 3 (some .int) rX9_image [.ref (z + 195), .int (hpI n)] σ (pX9_image z σ n) := by
  obtain ⟨hn1, hn2⟩ := hn
  refine hp_met rfl (Nat.le_of_ble_eq_true rfl) (fun p e s m below meth c C hr hk => ?_)
  refine h_iload_n C dX9_image_0 1 rfl rfl ?_
  refine h_i2l C dX9_image_1 ⟨by omega, by omega⟩ ?_
  refine h_lconst C 0 dX9_image_2 (by decide) ?_
  refine h_ldc2 C 2 wd_1400 (by decide) dX9_image_3 ?_
  refine h_callS (As := [.long (hpJ n), .long (hpJ 0), .long (hpJ 2)]) (rest := []) C yyX9_in rfl wd_1401 (tX9_in l D cy z _ n ⟨by omega, by omega⟩ 0 ⟨by decide, by decide⟩ 2 ⟨by decide, by decide⟩) rfl rfl ⟨rfl, rfl, Nat.le_of_ble_eq_true rfl, Nat.le_of_ble_eq_true rfl⟩ ⟨Nat.le_of_ble_eq_true rfl, Nat.le_of_ble_eq_true rfl⟩ (Nat.le_of_ble_eq_true rfl) dX9_image_6 (fun r1 τ1 hp1 => ?_)
  obtain ⟨⟨x1, rfl, ⟨hx1a, hx1b⟩, hx1⟩, rfl⟩ := hp1
  show hpV _ _ _ _ _ _ _ _ _ _ _ _ _ _ _ _ _ _ _ _ _ (_ :: _)
  refine h_if_ne (tgt := 15) C dX9_image_9 (by decide) ⟨by omega, by omega⟩ (fun h2 => ?_) (fun h2 => ?_)
  · refine h_iconst C dX9_image_15 ?_
    refine h_istore_n (lv' := [(2, .int (hpI 0)), (0, .ref (z + 195)), (1, .int (hpI n))]) C dX9_image_16 rfl (by decide) rfl ?_
    have L3 : ∀ (n3 : Nat) (τ3 : hpMem) (i : Int), 0 ≤ i → i ≤ 47 → (∀ j : Nat, j ≠ 197 → τ3 j = σ j) → (47 - i) < (n3 : Int) → hpF p l e rX9_image s m [.ref (z + 195), .int (hpI n)] below meth c 3 D cy z (pX9_image z σ n) τ3 17 [(0, .ref (z + 195)), (1, .int (hpI n)), (2, .int (hpI i))] [] := by
      intro n3
      induction n3 with
      | zero => intro τ3 i hi3_0 hi3_1 hF3 hm3; exfalso; omega
      | succ n3 ih3 =>
        intro τ3 i hi3_0 hi3_1 hF3 hm3
        refine h_iload_n C dX9_image_17 2 rfl rfl ?_
        refine h_bipush C dX9_image_18 (by decide) ?_
        refine h_icmp_ge (tgt := 46) C dX9_image_20 (by decide) ⟨by omega, by omega⟩ ⟨by decide, by decide⟩ (fun h4 => ?_) (fun h4 => ?_)
        · refine h_aload_n C dX9_image_46 0 rfl rfl ?_
          refine h_get C O9 3 kd_195 (by decide) wd_1259 dX9_image_47 fr_195_3 ?_
          refine h_iload_n C dX9_image_50 1 rfl rfl ?_
          refine h_iconst C dX9_image_51 ?_
          refine h_zastore C dX9_image_52 kd_198 (by omega) (n).toNat (Int.toNat_of_nonneg (by omega)) (by rw [ln_198]; omega) ?_
          refine h_iconst C dX9_image_53 ?_
          refine h_ireturn C hr hk dX9_image_54 ?_
          exact ⟨⟨_, rfl, ⟨by decide, by decide⟩, by omega⟩, (fun j hj0 hj1 => ((hpw_ne hj1).trans ((hF3 j hj0).trans rfl)))⟩
        · refine h_aload_n C dX9_image_23 0 rfl rfl ?_
          refine h_get C O9 2 kd_195 (by decide) wd_1258 dX9_image_24 fr_195_2 ?_
          refine h_bipush C dX9_image_27 (by decide) ?_
          refine h_iload_n C dX9_image_29 1 rfl rfl ?_
          refine h_imul C dX9_image_30 rfl ?_
          refine h_iload_n C dX9_image_31 2 rfl rfl ?_
          refine h_iadd C dX9_image_32 rfl ?_
          refine h_aload_n C dX9_image_33 0 rfl rfl ?_
          refine h_get C O9 1 kd_195 (by decide) wd_1257 dX9_image_34 fr_195_1 ?_
          refine h_iload_n C dX9_image_37 2 rfl rfl ?_
          refine h_iaload C dX9_image_38 kd_196 (i).toNat (Int.toNat_of_nonneg (by omega)) (by rw [ln_196]; omega) rfl ?_
          refine hp_anyI (fun r5 hr5 => ?_)
          obtain ⟨hr5a, hr5b⟩ := hr5
          refine h_iastore C dX9_image_39 kd_197 ((47 * n) + i).toNat (Int.toNat_of_nonneg (by omega)) (by rw [ln_197]; omega) ?_
          refine h_iinc (lv' := [(2, .int (hpI (i + 1))), (0, .ref (z + 195)), (1, .int (hpI n))]) C dX9_image_40 2 rfl rfl (by decide) rfl ?_
          refine h_goto (tgt := 17) C dX9_image_43 (by decide) ?_
          exact hp_sub [1, 2, 0] rfl (ih3 _ (i + 1) (by omega) (by omega) (fun j hj0 => ((hpw_ne hj0).trans ((hF3 j hj0).trans rfl))) (by omega))
    exact hp_sub [1, 2, 0] rfl (L3 48 _ 0 (by omega) (by omega) (fun j hj0 => rfl) (by omega))
  · refine h_bipush C dX9_image_12 (by decide) ?_
    refine h_ireturn C hr hk dX9_image_14 ?_
    exact ⟨⟨_, rfl, ⟨by decide, by decide⟩, by omega⟩, (fun j hj0 hj1 => rfl)⟩
abbrev rX9_back : Room := { frames := 1, cells := 0, slots := 0, locals := 25 }
abbrev pX9_back (z : Nat) (σ : hpMem) (n : Int) : Option Value → hpMem → Prop := fun r τ => (∃ x : Int, r = some (.int (hpI x)) ∧ hpR x ∧ ((0 ≤ n ∧ n ≤ 2 ∧ x = -6) ∨ ((n < 0 ∨ 2 < n) ∧ x = -2))) ∧ σ = τ
set_option maxHeartbeats 4000000 in
set_option maxRecDepth 20000 in
theorem tX9_back (l : Launch) (D : va_G) (cy : Nat → ClassId) (z : Nat) (σ : hpMem) (n : Int) (hn : hpR n) (hz_198 : ∀ i : Nat, σ 198 i = 0) : hpM l D cy z yX9_back cX9_back 3 (some .int) rX9_back [.ref (z + 195), .int (hpI n)] σ (pX9_back z σ n) := by
  obtain ⟨hn1, hn2⟩ := hn
  refine hp_met rfl (Nat.le_of_ble_eq_true rfl) (fun p e s m below meth c C hr hk => ?_)
  refine h_iload_n C dX9_back_0 1 rfl rfl ?_
  refine h_i2l C dX9_back_1 ⟨by omega, by omega⟩ ?_
  refine h_lconst C 0 dX9_back_2 (by decide) ?_
  refine h_ldc2 C 2 wd_1400 (by decide) dX9_back_3 ?_
  refine h_callS (As := [.long (hpJ n), .long (hpJ 0), .long (hpJ 2)]) (rest := []) C yyX9_in rfl wd_1401 (tX9_in l D cy z _ n ⟨by omega, by omega⟩ 0 ⟨by decide, by decide⟩ 2 ⟨by decide, by decide⟩) rfl rfl ⟨rfl, rfl, Nat.le_of_ble_eq_true rfl, Nat.le_of_ble_eq_true rfl⟩ ⟨Nat.le_of_ble_eq_true rfl, Nat.le_of_ble_eq_true rfl⟩ (Nat.le_of_ble_eq_true rfl) dX9_back_6 (fun r1 τ1 hp1 => ?_)
  obtain ⟨⟨x1, rfl, ⟨hx1a, hx1b⟩, hx1⟩, rfl⟩ := hp1
  show hpV _ _ _ _ _ _ _ _ _ _ _ _ _ _ _ _ _ _ _ _ _ (_ :: _)
  refine h_if_ne (tgt := 15) C dX9_back_9 (by decide) ⟨by omega, by omega⟩ (fun h2 => ?_) (fun h2 => ?_)
  · refine h_aload_n C dX9_back_15 0 rfl rfl ?_
    refine h_get C O9 3 kd_195 (by decide) wd_1259 dX9_back_16 fr_195_3 ?_
    refine h_iload_n C dX9_back_19 1 rfl rfl ?_
    refine h_zaload C dX9_back_20 kd_198 (n).toNat (Int.toNat_of_nonneg (by omega)) (by rw [ln_198]; omega) (hz_198 _) ?_
    refine h_if_ne (tgt := 27) C dX9_back_21 (by decide) ⟨by decide, by decide⟩ (fun h3 => ?_) (fun h3 => ?_)
    · exfalso; omega
    · refine h_bipush C dX9_back_24 (by decide) ?_
      refine h_ireturn C hr hk dX9_back_26 ?_
      exact ⟨⟨_, rfl, ⟨by decide, by decide⟩, by omega⟩, rfl⟩
  · refine h_bipush C dX9_back_12 (by decide) ?_
    refine h_ireturn C hr hk dX9_back_14 ?_
    exact ⟨⟨_, rfl, ⟨by decide, by decide⟩, by omega⟩, rfl⟩
abbrev rX9_row : Room := { frames := 2, cells := 0, slots := 0, locals := 45 }
abbrev pX9_row (z : Nat) (σ : hpMem) (a : Int) (b : Int) (c0 : Int) : Option Value → hpMem → Prop := fun r τ => (∃ x : Int, r = some (.int (hpI x)) ∧ hpR x ∧ ((((a < 0 ∨ 3 < a) ∨ (b < 0 ∨ 3 < b) ∨ 60 < c0) ∧ x = -2) ∨ (0 ≤ a ∧ a ≤ 3 ∧ 0 ≤ b ∧ b ≤ 3 ∧ c0 < 0 ∧ x = -3) ∨ (0 ≤ a ∧ a ≤ 3 ∧ 0 ≤ b ∧ b ≤ 3 ∧ 0 ≤ c0 ∧ c0 ≤ 60 ∧ x = 0))) ∧ (∀ j : Nat, j ≠ 213 → j ≠ 214 → j ≠ 215 → τ j = σ j)
set_option maxHeartbeats 4000000 in
set_option maxRecDepth 20000 in
theorem tX9_row (l : Launch) (D : va_G) (cy : Nat → ClassId) (z : Nat) (σ : hpMem) (a : Int) (ha : hpR a) (b : Int) (hb : hpR b) (c0 : Int) (hc0 : hpR c0) : hpM l D cy z yX9_row cX9_row 5 (some .int) rX9_row [.ref (z + 195), .int (hpI a), .int (hpI b), .int (hpI c0)] σ (pX9_row z σ a b c0) := by
  obtain ⟨ha1, ha2⟩ := ha
  obtain ⟨hb1, hb2⟩ := hb
  obtain ⟨hc01, hc02⟩ := hc0
  refine hp_met rfl (Nat.le_of_ble_eq_true rfl) (fun p e s m below meth c C hr hk => ?_)
  refine h_iload_n C dX9_row_0 1 rfl rfl ?_
  refine h_callS (As := [.int (hpI a)]) (rest := []) C yyX9_isSlot rfl wd_1779 (tX9_isSlot l D cy z _ a ⟨by omega, by omega⟩) rfl rfl ⟨rfl, rfl, Nat.le_of_ble_eq_true rfl, Nat.le_of_ble_eq_true rfl⟩ ⟨Nat.le_of_ble_eq_true rfl, Nat.le_of_ble_eq_true rfl⟩ (Nat.le_of_ble_eq_true rfl) dX9_row_1 (fun r1 τ1 hp1 => ?_)
  obtain ⟨⟨x1, rfl, ⟨hx1a, hx1b⟩, hx1⟩, rfl⟩ := hp1
  show hpV _ _ _ _ _ _ _ _ _ _ _ _ _ _ _ _ _ _ _ _ _ (_ :: _)
  refine h_if_eq (tgt := 25) C dX9_row_4 (by decide) ⟨by omega, by omega⟩ (fun h2 => ?_) (fun h2 => ?_)
  · refine h_bipush C dX9_row_25 (by decide) ?_
    refine h_ireturn C hr hk dX9_row_27 ?_
    exact ⟨⟨_, rfl, ⟨by decide, by decide⟩, by omega⟩, (fun j hj0 hj1 hj2 => rfl)⟩
  · refine h_iload_n C dX9_row_7 2 rfl rfl ?_
    refine h_i2l C dX9_row_8 ⟨by omega, by omega⟩ ?_
    refine h_lconst C 0 dX9_row_9 (by decide) ?_
    refine h_ldc2 C 3 wd_1782 (by decide) dX9_row_10 ?_
    refine h_callS (As := [.long (hpJ b), .long (hpJ 0), .long (hpJ 3)]) (rest := []) C yyX9_in rfl wd_1401 (tX9_in l D cy z _ b ⟨by omega, by omega⟩ 0 ⟨by decide, by decide⟩ 3 ⟨by decide, by decide⟩) rfl rfl ⟨rfl, rfl, Nat.le_of_ble_eq_true rfl, Nat.le_of_ble_eq_true rfl⟩ ⟨Nat.le_of_ble_eq_true rfl, Nat.le_of_ble_eq_true rfl⟩ (Nat.le_of_ble_eq_true rfl) dX9_row_13 (fun r3 τ3 hp3 => ?_)
    obtain ⟨⟨x3, rfl, ⟨hx3a, hx3b⟩, hx3⟩, rfl⟩ := hp3
    show hpV _ _ _ _ _ _ _ _ _ _ _ _ _ _ _ _ _ _ _ _ _ (_ :: _)
    refine h_if_eq (tgt := 25) C dX9_row_16 (by decide) ⟨by omega, by omega⟩ (fun h4 => ?_) (fun h4 => ?_)
    · refine h_bipush C dX9_row_25 (by decide) ?_
      refine h_ireturn C hr hk dX9_row_27 ?_
      exact ⟨⟨_, rfl, ⟨by decide, by decide⟩, by omega⟩, (fun j hj0 hj1 hj2 => rfl)⟩
    · refine h_iload_n C dX9_row_19 3 rfl rfl ?_
      refine h_bipush C dX9_row_20 (by decide) ?_
      refine h_icmp_le (tgt := 28) C dX9_row_22 (by decide) ⟨by omega, by omega⟩ ⟨by decide, by decide⟩ (fun h5 => ?_) (fun h5 => ?_)
      · refine h_iload_n C dX9_row_28 3 rfl rfl ?_
        refine h_if_ge (tgt := 35) C dX9_row_29 (by decide) ⟨by omega, by omega⟩ (fun h6 => ?_) (fun h6 => ?_)
        · refine h_aload_n C dX9_row_35 0 rfl rfl ?_
          refine h_get C O9 42 kd_195 (by decide) wd_1298 dX9_row_36 fr_195_42 ?_
          refine h_iload_n C dX9_row_39 1 rfl rfl ?_
          refine h_iload_n C dX9_row_40 3 rfl rfl ?_
          refine h_iastore C dX9_row_41 kd_213 (a).toNat (Int.toNat_of_nonneg (by omega)) (by rw [ln_213]; omega) ?_
          refine h_aload_n C dX9_row_42 0 rfl rfl ?_
          refine h_get C O9 43 kd_195 (by decide) wd_1299 dX9_row_43 fr_195_43 ?_
          refine h_iload_n C dX9_row_46 1 rfl rfl ?_
          refine h_iload_n C dX9_row_47 2 rfl rfl ?_
          refine h_iastore C dX9_row_48 kd_214 (a).toNat (Int.toNat_of_nonneg (by omega)) (by rw [ln_214]; omega) ?_
          refine h_iconst C dX9_row_49 ?_
          refine h_istore (lv' := [(4, .int (hpI 0)), (0, .ref (z + 195)), (1, .int (hpI a)), (2, .int (hpI b)), (3, .int (hpI c0))]) C dX9_row_50 (by decide) rfl ?_
          have L7 : ∀ (n7 : Nat) (τ7 : hpMem) (i : Int), 0 ≤ i → i ≤ 60 → (∀ j : Nat, j ≠ 213 → j ≠ 214 → j ≠ 215 → τ7 j = σ j) → (60 - i) < (n7 : Int) → hpF p l e rX9_row s m [.ref (z + 195), .int (hpI a), .int (hpI b), .int (hpI c0)] below meth c 5 D cy z (pX9_row z σ a b c0) τ7 52 [(0, .ref (z + 195)), (1, .int (hpI a)), (2, .int (hpI b)), (3, .int (hpI c0)), (4, .int (hpI i))] [] := by
            intro n7
            induction n7 with
            | zero => intro τ7 i hi7_0 hi7_1 hF7 hm7; exfalso; omega
            | succ n7 ih7 =>
              intro τ7 i hi7_0 hi7_1 hF7 hm7
              refine h_iload C dX9_row_52 4 rfl ?_
              refine h_bipush C dX9_row_54 (by decide) ?_
              refine h_icmp_ge (tgt := 78) C dX9_row_56 (by decide) ⟨by omega, by omega⟩ ⟨by decide, by decide⟩ (fun h8 => ?_) (fun h8 => ?_)
              · refine h_iconst C dX9_row_78 ?_
                refine h_ireturn C hr hk dX9_row_79 ?_
                exact ⟨⟨_, rfl, ⟨by decide, by decide⟩, by omega⟩, (fun j hj0 hj1 hj2 => ((hF7 j hj0 hj1 hj2).trans rfl))⟩
              · refine h_aload_n C dX9_row_59 0 rfl rfl ?_
                refine h_get C O9 44 kd_195 (by decide) wd_1300 dX9_row_60 fr_195_44 ?_
                refine h_bipush C dX9_row_63 (by decide) ?_
                refine h_iload_n C dX9_row_65 1 rfl rfl ?_
                refine h_imul C dX9_row_66 rfl ?_
                refine h_iload C dX9_row_67 4 rfl ?_
                refine h_iadd C dX9_row_69 rfl ?_
                refine h_lconst C 0 dX9_row_70 (by decide) ?_
                refine h_lastore C dX9_row_71 kd_215 ((60 * a) + i).toNat (Int.toNat_of_nonneg (by omega)) (by rw [ln_215]; omega) ?_
                refine h_iinc (lv' := [(4, .int (hpI (i + 1))), (0, .ref (z + 195)), (1, .int (hpI a)), (2, .int (hpI b)), (3, .int (hpI c0))]) C dX9_row_72 4 rfl rfl (by decide) rfl ?_
                refine h_goto (tgt := 52) C dX9_row_75 (by decide) ?_
                exact hp_sub [1, 2, 3, 4, 0] rfl (ih7 _ (i + 1) (by omega) (by omega) (fun j hj0 hj1 hj2 => ((hpw_ne hj2).trans ((hF7 j hj0 hj1 hj2).trans rfl))) (by omega))
          exact hp_sub [1, 2, 3, 4, 0] rfl (L7 61 _ 0 (by omega) (by omega) (fun j hj0 hj1 hj2 => ((hpw_ne hj1).trans ((hpw_ne hj0).trans rfl))) (by omega))
        · refine h_bipush C dX9_row_32 (by decide) ?_
          refine h_ireturn C hr hk dX9_row_34 ?_
          exact ⟨⟨_, rfl, ⟨by decide, by decide⟩, by omega⟩, (fun j hj0 hj1 hj2 => rfl)⟩
      · refine h_bipush C dX9_row_25 (by decide) ?_
        refine h_ireturn C hr hk dX9_row_27 ?_
        exact ⟨⟨_, rfl, ⟨by decide, by decide⟩, by omega⟩, (fun j hj0 hj1 hj2 => rfl)⟩
abbrev rX9_write : Room := { frames := 2, cells := 0, slots := 0, locals := 45 }
abbrev pX9_write (z : Nat) (σ : hpMem) (a : Int) (b : Int) (v : Int) : Option Value → hpMem → Prop := fun r τ => (∃ x : Int, r = some (.int (hpI x)) ∧ hpR x ∧ (((a < 0 ∨ 3 < a) ∧ x = -2) ∨ (0 ≤ a ∧ a ≤ 3 ∧ x = -6))) ∧ σ = τ
set_option maxHeartbeats 4000000 in
set_option maxRecDepth 20000 in
theorem tX9_write (l : Launch) (D : va_G) (cy : Nat → ClassId) (z : Nat) (σ : hpMem) (a : Int) (ha : hpR a) (b : Int) (hb : hpR b) (v : Int) (hv : hpRL v) (hx_213 : σ 213 = hp0 213) : hpM l D cy z yX9_write cX9_write 5 (some .int) rX9_write [.ref (z + 195), .int (hpI a), .int (hpI b), .long (hpJ v)] σ (pX9_write z σ a b v) := by
  obtain ⟨ha1, ha2⟩ := ha
  obtain ⟨hb1, hb2⟩ := hb
  obtain ⟨hv1, hv2⟩ := hv
  refine hp_met rfl (Nat.le_of_ble_eq_true rfl) (fun p e s m below meth c C hr hk => ?_)
  refine h_iload_n C dX9_write_0 1 rfl rfl ?_
  refine h_callS (As := [.int (hpI a)]) (rest := []) C yyX9_isSlot rfl wd_1779 (tX9_isSlot l D cy z _ a ⟨by omega, by omega⟩) rfl rfl ⟨rfl, rfl, Nat.le_of_ble_eq_true rfl, Nat.le_of_ble_eq_true rfl⟩ ⟨Nat.le_of_ble_eq_true rfl, Nat.le_of_ble_eq_true rfl⟩ (Nat.le_of_ble_eq_true rfl) dX9_write_1 (fun r1 τ1 hp1 => ?_)
  obtain ⟨⟨x1, rfl, ⟨hx1a, hx1b⟩, hx1⟩, rfl⟩ := hp1
  show hpV _ _ _ _ _ _ _ _ _ _ _ _ _ _ _ _ _ _ _ _ _ (_ :: _)
  refine h_if_ne (tgt := 10) C dX9_write_4 (by decide) ⟨by omega, by omega⟩ (fun h2 => ?_) (fun h2 => ?_)
  · refine h_aload_n C dX9_write_10 0 rfl rfl ?_
    refine h_get C O9 42 kd_195 (by decide) wd_1298 dX9_write_11 fr_195_42 ?_
    refine h_iload_n C dX9_write_14 1 rfl rfl ?_
    refine h_iaload C dX9_write_15 kd_213 (a).toNat (Int.toNat_of_nonneg (by omega)) (by rw [ln_213]; omega) ((congrFun hx_213 _).trans (hp0_many (by omega))) ?_
    refine h_iconst C dX9_write_16 ?_
    refine h_icmp_ne (tgt := 23) C dX9_write_17 (by decide) ⟨by decide, by decide⟩ ⟨by decide, by decide⟩ (fun h3 => ?_) (fun h3 => ?_)
    · exfalso; omega
    · refine h_bipush C dX9_write_20 (by decide) ?_
      refine h_ireturn C hr hk dX9_write_22 ?_
      exact ⟨⟨_, rfl, ⟨by decide, by decide⟩, by omega⟩, rfl⟩
  · refine h_bipush C dX9_write_7 (by decide) ?_
    refine h_ireturn C hr hk dX9_write_9 ?_
    exact ⟨⟨_, rfl, ⟨by decide, by decide⟩, by omega⟩, rfl⟩
abbrev rX9_paste : Room := { frames := 2, cells := 0, slots := 0, locals := 45 }
abbrev pX9_paste (z : Nat) (σ : hpMem) (a : Int) (b : Int) (c0 : Int) (d0 : Int) (e0 : Int) : Option Value → hpMem → Prop := fun r τ => (∃ x : Int, r = some (.int (hpI x)) ∧ hpR x ∧ ((((a < 0 ∨ 3 < a) ∨ (c0 < 0 ∨ 3 < c0)) ∧ x = -2) ∨ (0 ≤ a ∧ a ≤ 3 ∧ 0 ≤ c0 ∧ c0 ≤ 3 ∧ x = -6))) ∧ σ = τ
set_option maxHeartbeats 4000000 in
set_option maxRecDepth 20000 in
theorem tX9_paste (l : Launch) (D : va_G) (cy : Nat → ClassId) (z : Nat) (σ : hpMem) (a : Int) (ha : hpR a) (b : Int) (hb : hpR b) (c0 : Int) (hc0 : hpR c0) (d0 : Int) (hd0 : hpR d0) (e0 : Int) (he0 : hpR e0) (hx_213 : σ 213 = hp0 213) : hpM l D cy z yX9_paste cX9_paste 7 (some .int) rX9_paste [.ref (z + 195), .int (hpI a), .int (hpI b), .int (hpI c0), .int (hpI d0), .int (hpI e0)] σ (pX9_paste z σ a b c0 d0 e0) := by
  obtain ⟨ha1, ha2⟩ := ha
  obtain ⟨hb1, hb2⟩ := hb
  obtain ⟨hc01, hc02⟩ := hc0
  obtain ⟨hd01, hd02⟩ := hd0
  obtain ⟨he01, he02⟩ := he0
  refine hp_met rfl (Nat.le_of_ble_eq_true rfl) (fun p e s m below meth c C hr hk => ?_)
  refine h_iload_n C dX9_paste_0 1 rfl rfl ?_
  refine h_callS (As := [.int (hpI a)]) (rest := []) C yyX9_isSlot rfl wd_1779 (tX9_isSlot l D cy z _ a ⟨by omega, by omega⟩) rfl rfl ⟨rfl, rfl, Nat.le_of_ble_eq_true rfl, Nat.le_of_ble_eq_true rfl⟩ ⟨Nat.le_of_ble_eq_true rfl, Nat.le_of_ble_eq_true rfl⟩ (Nat.le_of_ble_eq_true rfl) dX9_paste_1 (fun r1 τ1 hp1 => ?_)
  obtain ⟨⟨x1, rfl, ⟨hx1a, hx1b⟩, hx1⟩, rfl⟩ := hp1
  show hpV _ _ _ _ _ _ _ _ _ _ _ _ _ _ _ _ _ _ _ _ _ (_ :: _)
  refine h_if_eq (tgt := 14) C dX9_paste_4 (by decide) ⟨by omega, by omega⟩ (fun h2 => ?_) (fun h2 => ?_)
  · refine h_bipush C dX9_paste_14 (by decide) ?_
    refine h_ireturn C hr hk dX9_paste_16 ?_
    exact ⟨⟨_, rfl, ⟨by decide, by decide⟩, by omega⟩, rfl⟩
  · refine h_iload_n C dX9_paste_7 3 rfl rfl ?_
    refine h_callS (As := [.int (hpI c0)]) (rest := []) C yyX9_isSlot rfl wd_1779 (tX9_isSlot l D cy z _ c0 ⟨by omega, by omega⟩) rfl rfl ⟨rfl, rfl, Nat.le_of_ble_eq_true rfl, Nat.le_of_ble_eq_true rfl⟩ ⟨Nat.le_of_ble_eq_true rfl, Nat.le_of_ble_eq_true rfl⟩ (Nat.le_of_ble_eq_true rfl) dX9_paste_8 (fun r3 τ3 hp3 => ?_)
    obtain ⟨⟨x3, rfl, ⟨hx3a, hx3b⟩, hx3⟩, rfl⟩ := hp3
    show hpV _ _ _ _ _ _ _ _ _ _ _ _ _ _ _ _ _ _ _ _ _ (_ :: _)
    refine h_if_ne (tgt := 17) C dX9_paste_11 (by decide) ⟨by omega, by omega⟩ (fun h4 => ?_) (fun h4 => ?_)
    · refine h_aload_n C dX9_paste_17 0 rfl rfl ?_
      refine h_get C O9 42 kd_195 (by decide) wd_1298 dX9_paste_18 fr_195_42 ?_
      refine h_iload_n C dX9_paste_21 1 rfl rfl ?_
      refine h_iaload C dX9_paste_22 kd_213 (a).toNat (Int.toNat_of_nonneg (by omega)) (by rw [ln_213]; omega) ((congrFun hx_213 _).trans (hp0_many (by omega))) ?_
      refine h_iconst C dX9_paste_23 ?_
      refine h_icmp_eq (tgt := 37) C dX9_paste_24 (by decide) ⟨by decide, by decide⟩ ⟨by decide, by decide⟩ (fun h5 => ?_) (fun h5 => ?_)
      · refine h_bipush C dX9_paste_37 (by decide) ?_
        refine h_ireturn C hr hk dX9_paste_39 ?_
        exact ⟨⟨_, rfl, ⟨by decide, by decide⟩, by omega⟩, rfl⟩
      · exfalso; omega
    · refine h_bipush C dX9_paste_14 (by decide) ?_
      refine h_ireturn C hr hk dX9_paste_16 ?_
      exact ⟨⟨_, rfl, ⟨by decide, by decide⟩, by omega⟩, rfl⟩

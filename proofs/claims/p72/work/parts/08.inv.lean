section HPI
variable {p : Program} {l : Launch} {e : Env} {R : Room} {s : State} {m : MethodId} {args : Array Value} {below : List Frame} {meth : Method} {c : Code} {cells slots nL : Nat} {D : va_G} {cy : Nat → ClassId} {z : Nat} {H0 : Heap} {Q : State → Prop} {σ : hpMem} {pc : Nat} {lv lv' : List (Nat × Value)} {st : List Value} {cc : ByteArray} {own : String}
theorem h_idiv_any (C : hpC p s m args c cc nL own D cy) {x : Int32} {b : Int} (d : decode cc pc = .ok (.idiv, 1)) (rb : hpR b) (hb : b ≠ 0) (k : ∀ y : Int32, hpV p l e R s m args below meth c cells slots nL D cy z H0 Q σ (pc + 1) lv (.int y :: st)) : hpV p l e R s m args below meth c cells slots nL D cy z H0 Q σ pc lv (.int (hpI b) :: .int x :: st) := fun H locs ls hl hP hS => lv_idiv C.1 C.2.1 d (hpI_ne0 rb hb) (k _ H locs ls hl hP hS)
theorem h_irem_any (C : hpC p s m args c cc nL own D cy) {x : Int32} {b : Int} (d : decode cc pc = .ok (.irem, 1)) (rb : hpR b) (hb : b ≠ 0) (k : ∀ y : Int32, hpV p l e R s m args below meth c cells slots nL D cy z H0 Q σ (pc + 1) lv (.int y :: st)) : hpV p l e R s m args below meth c cells slots nL D cy z H0 Q σ pc lv (.int (hpI b) :: .int x :: st) := fun H locs ls hl hP hS => lv_irem C.1 C.2.1 d (hpI_ne0 rb hb) (k _ H locs ls hl hP hS)
theorem hpJ_0 : hpJ 0 = 0 := by decide
theorem hpRL_0 : hpRL 0 := ⟨by decide, by decide⟩
theorem hpJ_ne0 {b : Int} (hb : hpRL b) (h : b ≠ 0) : ¬ hpJ b = 0 := fun q => h ((hpJ_eq hb hpRL_0).mp (by rw [q, hpJ_0]))
theorem h_ldiv_any (C : hpC p s m args c cc nL own D cy) {x : Int64} {b : Int} (d : decode cc pc = .ok (.ldiv, 1)) (rb : hpRL b) (hb : b ≠ 0) (k : ∀ y : Int64, hpV p l e R s m args below meth c cells slots nL D cy z H0 Q σ (pc + 1) lv (.long y :: st)) : hpV p l e R s m args below meth c cells slots nL D cy z H0 Q σ pc lv (.long (hpJ b) :: .long x :: st) := fun H locs ls hl hP hS => lv_ldiv C.1 C.2.1 d (hpJ_ne0 rb hb) (k _ H locs ls hl hP hS)
theorem h_lrem_any (C : hpC p s m args c cc nL own D cy) {x : Int64} {b : Int} (d : decode cc pc = .ok (.lrem, 1)) (rb : hpRL b) (hb : b ≠ 0) (k : ∀ y : Int64, hpV p l e R s m args below meth c cells slots nL D cy z H0 Q σ (pc + 1) lv (.long y :: st)) : hpV p l e R s m args below meth c cells slots nL D cy z H0 Q σ pc lv (.long (hpJ b) :: .long x :: st) := fun H locs ls hl hP hS => lv_lrem C.1 C.2.1 d (hpJ_ne0 rb hb) (k _ H locs ls hl hP hS)
theorem hp_nn {x : Int32} (h : 0 ≤ x.toInt) : (x.toBitVec.toNat : Int) = x.toInt := by
  have e : x.toInt = x.toBitVec.toInt := rfl
  rw [e, BitVec.toInt_eq_toNat_cond] at h ⊢
  have := x.toBitVec.isLt
  split at h <;> rename_i q <;> simp [q] at h ⊢ <;> omega
theorem hp_andle {x y : Int32} (h : 0 ≤ y.toInt) : 0 ≤ (x &&& y).toInt ∧ (x &&& y).toInt ≤ y.toInt := by
  have h1 : (x &&& y).toBitVec.toNat ≤ y.toBitVec.toNat := by
    rw [show (x &&& y).toBitVec = x.toBitVec &&& y.toBitVec from rfl, BitVec.toNat_and]
    exact Nat.and_le_right
  have h2 := hp_nn h
  have h3 : y.toInt < 2147483648 := Int32.toInt_lt y
  have e : (x &&& y).toInt = (x &&& y).toBitVec.toInt := rfl
  rw [e, BitVec.toInt_eq_toNat_cond, if_pos (by omega)]
  omega
theorem hp_andle' {x y : Int32} (h : 0 ≤ x.toInt) : 0 ≤ (x &&& y).toInt ∧ (x &&& y).toInt ≤ x.toInt := by
  have e : x &&& y = y &&& x := by
    apply Int32.toBitVec.inj
    exact BitVec.and_comm _ _
  rw [e]
  exact hp_andle h
theorem h_iand_r (C : hpC p s m args c cc nL own D cy) {x : Int32} {b : Int} (d : decode cc pc = .ok (.iand, 1)) (rb : hpR b) (h0 : 0 ≤ b) (k : ∀ r : Int, 0 ≤ r → r ≤ b → hpV p l e R s m args below meth c cells slots nL D cy z H0 Q σ (pc + 1) lv (.int (hpI r) :: st)) : hpV p l e R s m args below meth c cells slots nL D cy z H0 Q σ pc lv (.int (hpI b) :: .int x :: st) := fun H locs ls hl hP hS => lv_iand C.1 C.2.1 d (by have q := hp_andle (x := x) (y := hpI b) (by rw [hpI_toInt rb]; exact h0); rw [hpI_toInt rb] at q; have h := k _ q.1 q.2 H locs ls hl hP hS; rw [hpI_of] at h; exact h)
theorem h_iand_l (C : hpC p s m args c cc nL own D cy) {y : Int32} {a : Int} (d : decode cc pc = .ok (.iand, 1)) (ra : hpR a) (h0 : 0 ≤ a) (k : ∀ r : Int, 0 ≤ r → r ≤ a → hpV p l e R s m args below meth c cells slots nL D cy z H0 Q σ (pc + 1) lv (.int (hpI r) :: st)) : hpV p l e R s m args below meth c cells slots nL D cy z H0 Q σ pc lv (.int y :: .int (hpI a) :: st) := fun H locs ls hl hP hS => lv_iand C.1 C.2.1 d (by have q := hp_andle' (x := hpI a) (y := y) (by rw [hpI_toInt ra]; exact h0); rw [hpI_toInt ra] at q; have h := k _ q.1 q.2 H locs ls hl hP hS; rw [hpI_of] at h; exact h)
theorem hp_iorb (n : Nat) (hn : n ≤ 30) {a b : Int} (ha : 0 ≤ a ∧ a < 2 ^ n) (hb : 0 ≤ b ∧ b < 2 ^ n) : 0 ≤ (hpI a ||| hpI b).toInt ∧ (hpI a ||| hpI b).toInt < 2 ^ n := by
  have hp : (2 : Int) ^ n ≤ 2 ^ 30 := by exact_mod_cast Nat.pow_le_pow_right (by decide) hn
  have ea : (hpI a).toInt = a := hpI_toInt ⟨by omega, by omega⟩
  have eb : (hpI b).toInt = b := hpI_toInt ⟨by omega, by omega⟩
  have na := hp_nn (x := hpI a) (by omega)
  have nb := hp_nn (x := hpI b) (by omega)
  have h1 : (hpI a ||| hpI b).toBitVec.toNat < 2 ^ n := by
    rw [show (hpI a ||| hpI b).toBitVec = (hpI a).toBitVec ||| (hpI b).toBitVec from rfl, BitVec.toNat_or]
    exact Nat.or_lt_two_pow (by exact_mod_cast (by omega : ((hpI a).toBitVec.toNat : Int) < 2 ^ n)) (by exact_mod_cast (by omega : ((hpI b).toBitVec.toNat : Int) < 2 ^ n))
  have h2 : ((hpI a ||| hpI b).toBitVec.toNat : Int) < 2 ^ n := by exact_mod_cast h1
  have e : (hpI a ||| hpI b).toInt = (hpI a ||| hpI b).toBitVec.toInt := rfl
  rw [e, BitVec.toInt_eq_toNat_cond, if_pos (by omega)]
  omega
theorem h_ior_b (n : Nat) (C : hpC p s m args c cc nL own D cy) {a b : Int} (d : decode cc pc = .ok (.ior, 1)) (hn : n ≤ 30) (ha : 0 ≤ a ∧ a < 2 ^ n) (hb : 0 ≤ b ∧ b < 2 ^ n) (k : ∀ r : Int, 0 ≤ r → r < 2 ^ n → hpV p l e R s m args below meth c cells slots nL D cy z H0 Q σ (pc + 1) lv (.int (hpI r) :: st)) : hpV p l e R s m args below meth c cells slots nL D cy z H0 Q σ pc lv (.int (hpI b) :: .int (hpI a) :: st) := fun H locs ls hl hP hS => lv_ior C.1 C.2.1 d (by have q := hp_iorb n hn ha hb; have h := k _ q.1 q.2 H locs ls hl hP hS; rw [hpI_of] at h; exact h)
theorem hp_ixorb (n : Nat) (hn : n ≤ 30) {a b : Int} (ha : 0 ≤ a ∧ a < 2 ^ n) (hb : 0 ≤ b ∧ b < 2 ^ n) : 0 ≤ (hpI a ^^^ hpI b).toInt ∧ (hpI a ^^^ hpI b).toInt < 2 ^ n := by
  have hp : (2 : Int) ^ n ≤ 2 ^ 30 := by exact_mod_cast Nat.pow_le_pow_right (by decide) hn
  have ea : (hpI a).toInt = a := hpI_toInt ⟨by omega, by omega⟩
  have eb : (hpI b).toInt = b := hpI_toInt ⟨by omega, by omega⟩
  have na := hp_nn (x := hpI a) (by omega)
  have nb := hp_nn (x := hpI b) (by omega)
  have h1 : (hpI a ^^^ hpI b).toBitVec.toNat < 2 ^ n := by
    rw [show (hpI a ^^^ hpI b).toBitVec = (hpI a).toBitVec ^^^ (hpI b).toBitVec from rfl, BitVec.toNat_xor]
    exact Nat.xor_lt_two_pow (by exact_mod_cast (by omega : ((hpI a).toBitVec.toNat : Int) < 2 ^ n)) (by exact_mod_cast (by omega : ((hpI b).toBitVec.toNat : Int) < 2 ^ n))
  have h2 : ((hpI a ^^^ hpI b).toBitVec.toNat : Int) < 2 ^ n := by exact_mod_cast h1
  have e : (hpI a ^^^ hpI b).toInt = (hpI a ^^^ hpI b).toBitVec.toInt := rfl
  rw [e, BitVec.toInt_eq_toNat_cond, if_pos (by omega)]
  omega
theorem h_ixor_b (n : Nat) (C : hpC p s m args c cc nL own D cy) {a b : Int} (d : decode cc pc = .ok (.ixor, 1)) (hn : n ≤ 30) (ha : 0 ≤ a ∧ a < 2 ^ n) (hb : 0 ≤ b ∧ b < 2 ^ n) (k : ∀ r : Int, 0 ≤ r → r < 2 ^ n → hpV p l e R s m args below meth c cells slots nL D cy z H0 Q σ (pc + 1) lv (.int (hpI r) :: st)) : hpV p l e R s m args below meth c cells slots nL D cy z H0 Q σ pc lv (.int (hpI b) :: .int (hpI a) :: st) := fun H locs ls hl hP hS => lv_ixor C.1 C.2.1 d (by have q := hp_ixorb n hn ha hb; have h := k _ q.1 q.2 H locs ls hl hP hS; rw [hpI_of] at h; exact h)
theorem h_mmax {idx : Nat} {a b : Int} (C : hpC p s m args c cc nL own D cy) (w1 : Cond.methodLink own idx Lib.Math.max.name ∈ hpT) (w2 : Cond.static Lib.Math.max.name ∈ hpT) (w3 : Cond.code Lib.Math.max.name Lib.Math.max.code 2 (some .int) ∈ hpT) (w4 : Cond.initialized "java/lang/Math" ∈ hpT) (d : decode cc pc = .ok (.invokestatic idx, 3)) (ra : hpR a) (rb : hpR b) (hf : 1 ≤ R.frames) (hlo : (st.map fun v => v.category).sum + 13 ≤ R.locals) (hcs : cells ≤ R.cells ∧ slots ≤ R.slots) (k : ∀ r : Int, a ≤ r → b ≤ r → (r = a ∨ r = b) → hpV p l e R s m args below meth c cells slots nL D cy z H0 Q σ (pc + 3) lv (.int (hpI r) :: st)) : hpV p l e R s m args below meth c cells slots nL D cy z H0 Q σ pc lv (.int (hpI b) :: .int (hpI a) :: st) := fun H locs ls hl hP hS => by
  refine va_mmax C.1 C.2.1 (C.2.2.1.trans hl.1.symm) C.2.2.2.1 (C.2.2.2.2.1 _ w1) (C.2.2.2.2.1 _ w2) (C.2.2.2.2.1 _ w4) (C.2.2.2.2.1 _ w3) hf hlo hcs.1 hcs.2 d ?_
  by_cases h : hpI a < hpI b
  · rw [if_pos h]
    rw [hpI_lt ra rb] at h
    exact k b (by omega) (by omega) (Or.inr rfl) H locs ls hl hP hS
  · rw [if_neg h]
    rw [hpI_lt ra rb] at h
    exact k a (by omega) (by omega) (Or.inl rfl) H locs ls hl hP hS
theorem h_mmin {idx : Nat} {a b : Int} (C : hpC p s m args c cc nL own D cy) (w1 : Cond.methodLink own idx Lib.Math.min.name ∈ hpT) (w2 : Cond.static Lib.Math.min.name ∈ hpT) (w3 : Cond.code Lib.Math.min.name Lib.Math.min.code 2 (some .int) ∈ hpT) (w4 : Cond.initialized "java/lang/Math" ∈ hpT) (d : decode cc pc = .ok (.invokestatic idx, 3)) (ra : hpR a) (rb : hpR b) (hf : 1 ≤ R.frames) (hlo : (st.map fun v => v.category).sum + 13 ≤ R.locals) (hcs : cells ≤ R.cells ∧ slots ≤ R.slots) (k : ∀ r : Int, r ≤ a → r ≤ b → (r = a ∨ r = b) → hpV p l e R s m args below meth c cells slots nL D cy z H0 Q σ (pc + 3) lv (.int (hpI r) :: st)) : hpV p l e R s m args below meth c cells slots nL D cy z H0 Q σ pc lv (.int (hpI b) :: .int (hpI a) :: st) := fun H locs ls hl hP hS => by
  refine va_mmin C.1 C.2.1 (C.2.2.1.trans hl.1.symm) C.2.2.2.1 (C.2.2.2.2.1 _ w1) (C.2.2.2.2.1 _ w2) (C.2.2.2.2.1 _ w4) (C.2.2.2.2.1 _ w3) hf hlo hcs.1 hcs.2 d ?_
  by_cases h : hpI b < hpI a
  · rw [if_pos h]
    rw [hpI_lt rb ra] at h
    exact k b (by omega) (by omega) (Or.inr rfl) H locs ls hl hP hS
  · rw [if_neg h]
    rw [hpI_lt rb ra] at h
    exact k a (by omega) (by omega) (Or.inl rfl) H locs ls hl hP hS
theorem h_i2s (C : hpC p s m args c cc nL own D cy) {x : Int32} (d : decode cc pc = .ok (.i2s, 1)) (k : ∀ r : Int, -32768 ≤ r → r < 32768 → hpV p l e R s m args below meth c cells slots nL D cy z H0 Q σ (pc + 1) lv (.int (hpI r) :: st)) : hpV p l e R s m args below meth c cells slots nL D cy z H0 Q σ pc lv (.int x :: st) := fun H locs ls hl hP hS => lv_i2s C.1 C.2.1 d rfl (by have h := k x.toInt16.toInt (Int16.le_toInt _) (Int16.toInt_lt _) H locs ls hl hP hS; rw [show hpI x.toInt16.toInt = x.toInt16.toInt32 from rfl] at h; exact h)
theorem h_pop2 (C : hpC p s m args c cc nL own D cy) {va : Value} (hv : va.category = 2) (d : decode cc pc = .ok (.pop2, 1)) (k : hpV p l e R s m args below meth c cells slots nL D cy z H0 Q σ (pc + 1) lv st) : hpV p l e R s m args below meth c cells slots nL D cy z H0 Q σ pc lv (va :: st) := fun H locs ls hl hP hS => lv_pop2_2 C.1 C.2.1 d hv (k H locs ls hl hP hS)
theorem h_ishl_b {a b M : Int} {mm : Nat} (C : hpC p s m args c cc nL own D cy) (d : decode cc pc = .ok (.ishl, 1)) (h0 : 0 ≤ b) (h1 : b ≤ mm) (hall : ∀ i : Nat, i < mm + 1 → 0 ≤ (hpI a <<< (hpI (i : Int) &&& 31)).toInt ∧ (hpI a <<< (hpI (i : Int) &&& 31)).toInt ≤ M) (k : ∀ r : Int, 0 ≤ r → r ≤ M → hpV p l e R s m args below meth c cells slots nL D cy z H0 Q σ (pc + 1) lv (.int (hpI r) :: st)) : hpV p l e R s m args below meth c cells slots nL D cy z H0 Q σ pc lv (.int (hpI b) :: .int (hpI a) :: st) := fun H locs ls hl hP hS => lv_ishl C.1 C.2.1 d (by have q := hall b.toNat (by omega); rw [Int.toNat_of_nonneg h0] at q; have h := k _ q.1 q.2 H locs ls hl hP hS; rw [hpI_of] at h; exact h)
theorem hp_cpyL {f g : Nat → Int} {sp dp n : Nat} : va_cpy (fun j => hpJ (f j)) (fun j => hpJ (g j)) sp dp n = fun j => hpJ (hpcp f g sp dp n j) := by
  funext j
  by_cases h : dp ≤ j ∧ j < dp + n
  · rw [pk_cpy_in h.1 h.2]
    unfold hpcp
    rw [if_pos h]
  · rw [pk_cpy_out (by omega)]
    unfold hpcp
    rw [if_neg h]
theorem h_copyL {sp dp n : Int} {k k' idx : Nat} (C : hpC p s m args c cc nL own D cy) (w1 : Cond.methodLink own idx arraycopyName ∈ hpT) (w2 : Cond.native arraycopyName ∈ hpT) (w3 : Cond.static arraycopyName ∈ hpT) (w4 : Cond.initialized "java/lang/System" ∈ hpT) (d : decode cc pc = .ok (.invokestatic idx, 3)) (hk : hpkd k = 12) (hk' : hpkd k' = 12) (i j q : Nat) (hi : (i : Int) = sp) (hj : (j : Int) = dp) (hq : (q : Int) = n) (h1 : i + q ≤ hpln k) (h2 : j + q ≤ hpln k')
    (hf : 1 ≤ R.frames) (hlo : (st.map fun v => v.category).sum + (nativeFrameWords "java/lang/System" "arraycopy" 5 + 11) ≤ R.locals) (kk : hpV p l e R s m args below meth c cells slots nL D cy z H0 Q (hpwr σ k' (hpcp (σ k) (σ k') i j q)) (pc + 3) lv st) : hpV p l e R s m args below meth c cells slots nL D cy z H0 Q σ pc lv (.int (hpI n) :: .int (hpI dp) :: .ref (z + k') :: .int (hpI sp) :: .ref (z + k) :: st) := fun H locs ls hl hP hS => by
  have b1 := hp_lnb k
  have b2 := hp_lnb k'
  have rs : hpR sp := ⟨by omega, by omega⟩
  have rd : hpR dp := ⟨by omega, by omega⟩
  have rn : hpR n := ⟨by omega, by omega⟩
  have e1 : (hpI sp).toNatClampNeg = i := by rw [hpI_clamp rs]; omega
  have e2 : (hpI dp).toNatClampNeg = j := by rw [hpI_clamp rd]; omega
  have e3 : (hpI n).toNatClampNeg = q := by rw [hpI_clamp rn]; omega
  have g : ∀ {a : Int}, hpR a → 0 ≤ a → ¬ hpI a < 0 := fun {a} ha h0 hh => by rw [← hpI_0, hpI_lt ha hpR_0] at hh; omega
  refine va_copyl C.1 C.2.1 (C.2.2.1.trans hl.1.symm) C.2.2.2.1 (C.2.2.2.2.1 _ w1) (C.2.2.2.2.1 _ w2) (C.2.2.2.2.1 _ w3) (C.2.2.2.2.1 _ w4) C.2.2.2.2.2.2 hP hpW_D hS k k' 2 2 (hp_arrL hk) (hp_arrL hk') rfl rfl rfl (g rs (by omega)) (g rd (by omega)) (g rn (by omega)) (by rw [e1, e3]; exact h1) (by rw [e2, e3]; exact h2) (fun _ _ => rfl) hf hlo d (fun H1 locs1 hP1 _ hS1 => kk H1 locs1 ls hl ?_ hS1)
  rw [e1, e2, e3, hp_cpyL, hpW_set (τ := hpwr σ k' (hpcp (σ k) (σ k') i j q)) (by unfold hpwr; rw [if_pos rfl, hpE_l hk']) (fun j hj => if_neg hj)] at hP1
  exact hP1
end HPI
def hpFB : List (List (Int × Int)) := [[(-2147483648, 2147483647), (-2147483648, 2147483647), (-2147483648, 2147483647), (-2147483648, 2147483647), (-2147483648, 2147483647), (-2147483648, 2147483647), (-2147483648, 2147483647), (-2147483648, 2147483647), (0, 135), (-2147483648, 2147483647), (-2147483648, 2147483647), (-2147483648, 2147483647), (-2147483648, 2147483647), (-2147483648, 2147483647), (-2147483648, 2147483647)], [(-2147483648, 2147483647), (-2147483648, 2147483647), (-2147483648, 2147483647), (-2147483648, 2147483647), (-2147483648, 2147483647), (0, 16), (-2147483648, 2147483647), (-2147483648, 2147483647), (-2147483648, 2147483647), (0, 8), (0, 6), (0, 20), (0, 1)], [(-2147483648, 2147483647), (-2147483648, 2147483647), (-2147483648, 2147483647), (-1, 2000), (-2147483648, 2147483647), (-2147483648, 2147483647)], [(-2147483648, 2147483647), (-2147483648, 2147483647), (0, 40), (-2147483648, 2147483647), (-2147483648, 2147483647)], [(-2147483648, 2147483647), (-2147483648, 2147483647), (-2147483648, 2147483647), (-2147483648, 2147483647), (-2147483648, 2147483647), (-2147483648, 2147483647), (-2147483648, 2147483647), (-2147483648, 2147483647), (-2147483648, 2147483647)], [(-2147483648, 2147483647), (-2147483648, 2147483647), (0, 20)], [(-2147483648, 2147483647), (0, 1), (-2147483648, 2147483647), (0, 60)], [(-2147483648, 2147483647), (0, 500), (-2147483648, 2147483647), (-2147483648, 2147483647), (0, 500), (-2147483648, 2147483647), (0, 500)], [(-2147483648, 2147483647), (-2147483648, 2147483647), (-2147483648, 2147483647), (-2147483648, 2147483647), (-2147483648, 2147483647), (-2147483648, 2147483647), (-2147483648, 2147483647), (-2147483648, 2147483647), (-2147483648, 2147483647), (-2147483648, 2147483647), (-2147483648, 2147483647), (-2147483648, 2147483647), (-2147483648, 2147483647), (0, 1), (0, 1), (-2147483648, 2147483647)], [(-2147483648, 2147483647), (-2147483648, 2147483647), (-2147483648, 2147483647), (-2147483648, 2147483647), (-2147483648, 2147483647), (0, 500), (-2147483648, 2147483647), (0, 500), (0, 500), (0, 500), (-2147483648, 2147483647), (-2147483648, 2147483647), (-2147483648, 2147483647), (-2147483648, 2147483647), (-2147483648, 2147483647), (-2147483648, 2147483647), (0, 4), (0, 1400), (-2147483648, 2147483647), (-2147483648, 2147483647), (-2147483648, 2147483647), (-2147483648, 2147483647), (-2147483648, 2147483647), (-2147483648, 2147483647), (0, 20), (-2147483648, 2147483647), (-2147483648, 2147483647), (0, 8001), (0, 8001), (-2147483648, 2147483647), (-2147483648, 2147483647), (-2147483648, 2147483647), (0, 135), (-2147483648, 2147483647), (-2147483648, 2147483647), (-2147483648, 2147483647), (0, 20), (-2147483648, 2147483647), (-2147483648, 2147483647), (-9223372036854775808, 9223372036854775807)] ++ [(-9223372036854775808, 9223372036854775807), (-9223372036854775808, 9223372036854775807), (-2147483648, 2147483647), (-2147483648, 2147483647), (-2147483648, 2147483647), (-2147483648, 2147483647)]]
def hpBc : List Nat := [20, 20, 22, 20, 20, 20, 20, 20, 20, 20, 20, 20, 20, 20, 20, 20, 20, 20, 20, 20, 20, 20, 20, 20, 20, 20, 20, 20, 20, 20, 20, 20, 20, 20, 20, 20, 20, 20, 20, 20, 20, 20, 20, 20, 20, 20, 20, 20, 20, 20, 20, 20, 20, 20, 20, 20, 20, 20, 20, 20, 20, 20, 20, 20, 20, 20, 20, 20, 20, 20, 20, 20, 20, 20, 20, 20, 20, 20, 20, 20, 20, 20, 20, 20, 20, 20, 20, 20, 20, 20, 20, 20, 20, 20, 20, 20, 20, 20, 20, 20, 20, 20, 20, 20, 20, 20, 20, 20, 20, 20, 20, 20, 20, 20, 20, 20, 20, 20, 20, 20, 20, 20, 20, 20, 20, 20, 20, 20, 20, 20, 20, 21, 24, 20, 20, 24, 20, 20, 20, 20, 20, 20, 20, 20, 20, 20, 20, 20, 20, 20, 20, 20, 20, 20, 20, 20, 20, 20, 20, 20, 20, 20, 20, 20, 20, 20, 20, 20, 20, 20, 20, 20, 20, 20, 20, 20, 20, 20, 20, 20, 20, 20, 20, 20, 20, 20, 20, 20, 21, 20, 21, 20, 21, 20, 21, 20, 25, 26, 23, 22, 20, 25, 27, 29, 20, 20, 20, 28, 20, 20, 20, 20, 20, 30, 20, 21, 21]
def hpI2 : Int × Int := (-2147483648, 2147483647)
def hpwb (i : Nat) : Int × Int := if i = 0 then (0, 16) else if i = 1 then (0, 3) else if i = 2 then (0, 10) else if i = 3 then (0, 8) else if i = 4 then (0, 6) else if i = 5 then (0, 20) else if i = 6 then (0, 16) else if i < 27 then (0, 20) else if i < 47 then (0, 2016) else hpI2
def hpbnd (c i : Nat) : Int × Int := if c = 20 then hpI2 else if c = 21 then (-9223372036854775808, 9223372036854775807) else if c = 22 then (-128, 127) else if c = 23 then (0, 1) else if c = 24 then (0, 134) else if c = 25 then hpwb i else if c = 26 then hpwb (i % 47) else if c = 27 then (if i % 701 = 0 then (0, 700) else hpI2) else if c = 28 then (if i % 15 = 0 then (0, 14) else hpI2) else if c = 29 then (0, 20) else (-1, 60)
def hpbo (k i : Nat) : Int × Int := if hpkd k < 10 then (hpFB.getD (hpkd k) []).getD i hpI2 else hpbnd (hpBc.getD k 20) i
def hpInv (σ : hpMem) : Prop := ∀ k i, (hpbo k i).1 ≤ σ k i ∧ σ k i ≤ (hpbo k i).2
theorem hpInv.b {σ : hpMem} {k i : Nat} {lo hi : Int} (h : hpInv σ) (hb : hpbo k i = (lo, hi)) : lo ≤ σ k i ∧ σ k i ≤ hi := by
  have q := h k i
  rw [hb] at q
  exact q
theorem hpInv.w {σ : hpMem} {k i : Nat} {lo hi v : Int} (h : hpInv σ) (hb : hpbo k i = (lo, hi)) (h1 : lo ≤ v) (h2 : v ≤ hi) : hpInv (hpw σ k i v) := by
  intro k' i'
  by_cases e : k' = k
  · subst e
    by_cases f : i' = i
    · subst f
      rw [hpw_eq, hb]
      exact ⟨h1, h2⟩
    · rw [hpw_ni f]
      exact h k' i'
  · rw [hpw_nk e]
    exact h k' i'
theorem hpInv.cp {σ : hpMem} {k k' i j q : Nat} {lo hi : Int} (h : hpInv σ) (h1 : ∀ n, hpbo k n = (lo, hi)) (h2 : ∀ n, hpbo k' n = (lo, hi)) : hpInv (hpwr σ k' (hpcp (σ k) (σ k') i j q)) := by
  intro a b
  by_cases e : a = k'
  · subst e
    rw [show hpwr σ a (hpcp (σ k) (σ a) i j q) a = hpcp (σ k) (σ a) i j q from if_pos rfl]
    unfold hpcp
    by_cases f : j ≤ b ∧ b < j + q
    · rw [if_pos f, h2]
      exact h.b (h1 _)
    · rw [if_neg f]
      exact h a b
  · rw [hpwr_ne e]
    exact h a b
theorem bf_0_8 {k : Nat} (hk : hpkd k = 0) : hpbo k 8 = (0, 135) := by unfold hpbo; rw [hk]; rfl
theorem bf_0_9 {k : Nat} (hk : hpkd k = 0) : hpbo k 9 = (-2147483648, 2147483647) := by unfold hpbo; rw [hk]; rfl
theorem bf_0_10 {k : Nat} (hk : hpkd k = 0) : hpbo k 10 = (-2147483648, 2147483647) := by unfold hpbo; rw [hk]; rfl
theorem bf_0_11 {k : Nat} (hk : hpkd k = 0) : hpbo k 11 = (-2147483648, 2147483647) := by unfold hpbo; rw [hk]; rfl
theorem bf_0_12 {k : Nat} (hk : hpkd k = 0) : hpbo k 12 = (-2147483648, 2147483647) := by unfold hpbo; rw [hk]; rfl
theorem bf_0_13 {k : Nat} (hk : hpkd k = 0) : hpbo k 13 = (-2147483648, 2147483647) := by unfold hpbo; rw [hk]; rfl
theorem bf_0_14 {k : Nat} (hk : hpkd k = 0) : hpbo k 14 = (-2147483648, 2147483647) := by unfold hpbo; rw [hk]; rfl
theorem bf_1_5 {k : Nat} (hk : hpkd k = 1) : hpbo k 5 = (0, 16) := by unfold hpbo; rw [hk]; rfl
theorem bf_1_6 {k : Nat} (hk : hpkd k = 1) : hpbo k 6 = (-2147483648, 2147483647) := by unfold hpbo; rw [hk]; rfl
theorem bf_1_7 {k : Nat} (hk : hpkd k = 1) : hpbo k 7 = (-2147483648, 2147483647) := by unfold hpbo; rw [hk]; rfl
theorem bf_1_8 {k : Nat} (hk : hpkd k = 1) : hpbo k 8 = (-2147483648, 2147483647) := by unfold hpbo; rw [hk]; rfl
theorem bf_1_9 {k : Nat} (hk : hpkd k = 1) : hpbo k 9 = (0, 8) := by unfold hpbo; rw [hk]; rfl
theorem bf_1_10 {k : Nat} (hk : hpkd k = 1) : hpbo k 10 = (0, 6) := by unfold hpbo; rw [hk]; rfl
theorem bf_1_11 {k : Nat} (hk : hpkd k = 1) : hpbo k 11 = (0, 20) := by unfold hpbo; rw [hk]; rfl
theorem bf_1_12 {k : Nat} (hk : hpkd k = 1) : hpbo k 12 = (0, 1) := by unfold hpbo; rw [hk]; rfl
theorem bf_2_2 {k : Nat} (hk : hpkd k = 2) : hpbo k 2 = (-2147483648, 2147483647) := by unfold hpbo; rw [hk]; rfl
theorem bf_2_3 {k : Nat} (hk : hpkd k = 2) : hpbo k 3 = (-1, 2000) := by unfold hpbo; rw [hk]; rfl
theorem bf_2_4 {k : Nat} (hk : hpkd k = 2) : hpbo k 4 = (-2147483648, 2147483647) := by unfold hpbo; rw [hk]; rfl
theorem bf_2_5 {k : Nat} (hk : hpkd k = 2) : hpbo k 5 = (-2147483648, 2147483647) := by unfold hpbo; rw [hk]; rfl
theorem bf_3_2 {k : Nat} (hk : hpkd k = 3) : hpbo k 2 = (0, 40) := by unfold hpbo; rw [hk]; rfl
theorem bf_3_3 {k : Nat} (hk : hpkd k = 3) : hpbo k 3 = (-2147483648, 2147483647) := by unfold hpbo; rw [hk]; rfl
theorem bf_3_4 {k : Nat} (hk : hpkd k = 3) : hpbo k 4 = (-2147483648, 2147483647) := by unfold hpbo; rw [hk]; rfl
theorem bf_4_1 {k : Nat} (hk : hpkd k = 4) : hpbo k 1 = (-2147483648, 2147483647) := by unfold hpbo; rw [hk]; rfl
theorem bf_4_2 {k : Nat} (hk : hpkd k = 4) : hpbo k 2 = (-2147483648, 2147483647) := by unfold hpbo; rw [hk]; rfl
theorem bf_4_3 {k : Nat} (hk : hpkd k = 4) : hpbo k 3 = (-2147483648, 2147483647) := by unfold hpbo; rw [hk]; rfl
theorem bf_4_4 {k : Nat} (hk : hpkd k = 4) : hpbo k 4 = (-2147483648, 2147483647) := by unfold hpbo; rw [hk]; rfl
theorem bf_4_5 {k : Nat} (hk : hpkd k = 4) : hpbo k 5 = (-2147483648, 2147483647) := by unfold hpbo; rw [hk]; rfl
theorem bf_4_6 {k : Nat} (hk : hpkd k = 4) : hpbo k 6 = (-2147483648, 2147483647) := by unfold hpbo; rw [hk]; rfl
theorem bf_4_7 {k : Nat} (hk : hpkd k = 4) : hpbo k 7 = (-2147483648, 2147483647) := by unfold hpbo; rw [hk]; rfl
theorem bf_4_8 {k : Nat} (hk : hpkd k = 4) : hpbo k 8 = (-2147483648, 2147483647) := by unfold hpbo; rw [hk]; rfl
theorem bf_5_2 {k : Nat} (hk : hpkd k = 5) : hpbo k 2 = (0, 20) := by unfold hpbo; rw [hk]; rfl
theorem bf_6_1 {k : Nat} (hk : hpkd k = 6) : hpbo k 1 = (0, 1) := by unfold hpbo; rw [hk]; rfl
theorem bf_6_2 {k : Nat} (hk : hpkd k = 6) : hpbo k 2 = (-2147483648, 2147483647) := by unfold hpbo; rw [hk]; rfl
theorem bf_6_3 {k : Nat} (hk : hpkd k = 6) : hpbo k 3 = (0, 60) := by unfold hpbo; rw [hk]; rfl
theorem bf_7_1 {k : Nat} (hk : hpkd k = 7) : hpbo k 1 = (0, 500) := by unfold hpbo; rw [hk]; rfl
theorem bf_7_2 {k : Nat} (hk : hpkd k = 7) : hpbo k 2 = (-2147483648, 2147483647) := by unfold hpbo; rw [hk]; rfl
theorem bf_7_3 {k : Nat} (hk : hpkd k = 7) : hpbo k 3 = (-2147483648, 2147483647) := by unfold hpbo; rw [hk]; rfl
theorem bf_7_4 {k : Nat} (hk : hpkd k = 7) : hpbo k 4 = (0, 500) := by unfold hpbo; rw [hk]; rfl
theorem bf_7_5 {k : Nat} (hk : hpkd k = 7) : hpbo k 5 = (-2147483648, 2147483647) := by unfold hpbo; rw [hk]; rfl
theorem bf_7_6 {k : Nat} (hk : hpkd k = 7) : hpbo k 6 = (0, 500) := by unfold hpbo; rw [hk]; rfl
theorem bf_8_13 {k : Nat} (hk : hpkd k = 8) : hpbo k 13 = (0, 1) := by unfold hpbo; rw [hk]; rfl
theorem bf_8_14 {k : Nat} (hk : hpkd k = 8) : hpbo k 14 = (0, 1) := by unfold hpbo; rw [hk]; rfl
theorem bf_8_15 {k : Nat} (hk : hpkd k = 8) : hpbo k 15 = (-2147483648, 2147483647) := by unfold hpbo; rw [hk]; rfl
theorem bf_9_0 {k : Nat} (hk : hpkd k = 9) : hpbo k 0 = (-2147483648, 2147483647) := by unfold hpbo; rw [hk]; rfl
theorem bf_9_5 {k : Nat} (hk : hpkd k = 9) : hpbo k 5 = (0, 500) := by unfold hpbo; rw [hk]; rfl
theorem bf_9_7 {k : Nat} (hk : hpkd k = 9) : hpbo k 7 = (0, 500) := by unfold hpbo; rw [hk]; rfl
theorem bf_9_8 {k : Nat} (hk : hpkd k = 9) : hpbo k 8 = (0, 500) := by unfold hpbo; rw [hk]; rfl
theorem bf_9_9 {k : Nat} (hk : hpkd k = 9) : hpbo k 9 = (0, 500) := by unfold hpbo; rw [hk]; rfl
theorem bf_9_10 {k : Nat} (hk : hpkd k = 9) : hpbo k 10 = (-2147483648, 2147483647) := by unfold hpbo; rw [hk]; rfl
theorem bf_9_11 {k : Nat} (hk : hpkd k = 9) : hpbo k 11 = (-2147483648, 2147483647) := by unfold hpbo; rw [hk]; rfl
theorem bf_9_12 {k : Nat} (hk : hpkd k = 9) : hpbo k 12 = (-2147483648, 2147483647) := by unfold hpbo; rw [hk]; rfl
theorem bf_9_13 {k : Nat} (hk : hpkd k = 9) : hpbo k 13 = (-2147483648, 2147483647) := by unfold hpbo; rw [hk]; rfl
theorem bf_9_16 {k : Nat} (hk : hpkd k = 9) : hpbo k 16 = (0, 4) := by unfold hpbo; rw [hk]; rfl
theorem bf_9_17 {k : Nat} (hk : hpkd k = 9) : hpbo k 17 = (0, 1400) := by unfold hpbo; rw [hk]; rfl
theorem bf_9_18 {k : Nat} (hk : hpkd k = 9) : hpbo k 18 = (-2147483648, 2147483647) := by unfold hpbo; rw [hk]; rfl
theorem bf_9_21 {k : Nat} (hk : hpkd k = 9) : hpbo k 21 = (-2147483648, 2147483647) := by unfold hpbo; rw [hk]; rfl
theorem bf_9_22 {k : Nat} (hk : hpkd k = 9) : hpbo k 22 = (-2147483648, 2147483647) := by unfold hpbo; rw [hk]; rfl
theorem bf_9_23 {k : Nat} (hk : hpkd k = 9) : hpbo k 23 = (-2147483648, 2147483647) := by unfold hpbo; rw [hk]; rfl
theorem bf_9_24 {k : Nat} (hk : hpkd k = 9) : hpbo k 24 = (0, 20) := by unfold hpbo; rw [hk]; rfl
theorem bf_9_27 {k : Nat} (hk : hpkd k = 9) : hpbo k 27 = (0, 8001) := by unfold hpbo; rw [hk]; rfl
theorem bf_9_28 {k : Nat} (hk : hpkd k = 9) : hpbo k 28 = (0, 8001) := by unfold hpbo; rw [hk]; rfl
theorem bf_9_32 {k : Nat} (hk : hpkd k = 9) : hpbo k 32 = (0, 135) := by unfold hpbo; rw [hk]; rfl
theorem bf_9_33 {k : Nat} (hk : hpkd k = 9) : hpbo k 33 = (-2147483648, 2147483647) := by unfold hpbo; rw [hk]; rfl
theorem bf_9_36 {k : Nat} (hk : hpkd k = 9) : hpbo k 36 = (0, 20) := by unfold hpbo; rw [hk]; rfl
theorem bf_9_37 {k : Nat} (hk : hpkd k = 9) : hpbo k 37 = (-2147483648, 2147483647) := by unfold hpbo; rw [hk]; rfl
theorem bf_9_39 {k : Nat} (hk : hpkd k = 9) : hpbo k 39 = (-9223372036854775808, 9223372036854775807) := by unfold hpbo; rw [hk]; rfl
theorem bf_9_40 {k : Nat} (hk : hpkd k = 9) : hpbo k 40 = (-9223372036854775808, 9223372036854775807) := by unfold hpbo; rw [hk]; rfl
theorem bf_9_41 {k : Nat} (hk : hpkd k = 9) : hpbo k 41 = (-9223372036854775808, 9223372036854775807) := by unfold hpbo; rw [hk]; rfl
theorem bo_2 (i : Nat) : hpbo 2 i = (-128, 127) := by unfold hpbo; rw [kd_2, if_neg (by decide), show hpBc.getD 2 20 = 22 by decide +kernel]; rfl
theorem bo_4 (i : Nat) : hpbo 4 i = (-2147483648, 2147483647) := by unfold hpbo; rw [kd_4, if_neg (by decide), show hpBc.getD 4 20 = 20 by decide +kernel]; rfl
theorem bo_5 (i : Nat) : hpbo 5 i = (-2147483648, 2147483647) := by unfold hpbo; rw [kd_5, if_neg (by decide), show hpBc.getD 5 20 = 20 by decide +kernel]; rfl
theorem bo_6 (i : Nat) : hpbo 6 i = (-2147483648, 2147483647) := by unfold hpbo; rw [kd_6, if_neg (by decide), show hpBc.getD 6 20 = 20 by decide +kernel]; rfl
theorem bo_7 (i : Nat) : hpbo 7 i = (-2147483648, 2147483647) := by unfold hpbo; rw [kd_7, if_neg (by decide), show hpBc.getD 7 20 = 20 by decide +kernel]; rfl
theorem bo_8 (i : Nat) : hpbo 8 i = (-2147483648, 2147483647) := by unfold hpbo; rw [kd_8, if_neg (by decide), show hpBc.getD 8 20 = 20 by decide +kernel]; rfl
theorem bo_10 (i : Nat) : hpbo 10 i = (-2147483648, 2147483647) := by unfold hpbo; rw [kd_10, if_neg (by decide), show hpBc.getD 10 20 = 20 by decide +kernel]; rfl
theorem bo_11 (i : Nat) : hpbo 11 i = (-2147483648, 2147483647) := by unfold hpbo; rw [kd_11, if_neg (by decide), show hpBc.getD 11 20 = 20 by decide +kernel]; rfl
theorem bo_12 (i : Nat) : hpbo 12 i = (-2147483648, 2147483647) := by unfold hpbo; rw [kd_12, if_neg (by decide), show hpBc.getD 12 20 = 20 by decide +kernel]; rfl
theorem bo_13 (i : Nat) : hpbo 13 i = (-2147483648, 2147483647) := by unfold hpbo; rw [kd_13, if_neg (by decide), show hpBc.getD 13 20 = 20 by decide +kernel]; rfl
theorem bo_14 (i : Nat) : hpbo 14 i = (-2147483648, 2147483647) := by unfold hpbo; rw [kd_14, if_neg (by decide), show hpBc.getD 14 20 = 20 by decide +kernel]; rfl
theorem bo_20 (i : Nat) : hpbo 20 i = (-2147483648, 2147483647) := by unfold hpbo; rw [kd_20, if_neg (by decide), show hpBc.getD 20 20 = 20 by decide +kernel]; rfl
theorem bo_21 (i : Nat) : hpbo 21 i = (-2147483648, 2147483647) := by unfold hpbo; rw [kd_21, if_neg (by decide), show hpBc.getD 21 20 = 20 by decide +kernel]; rfl
theorem bo_23 (i : Nat) : hpbo 23 i = (-2147483648, 2147483647) := by unfold hpbo; rw [kd_23, if_neg (by decide), show hpBc.getD 23 20 = 20 by decide +kernel]; rfl
theorem bo_24 (i : Nat) : hpbo 24 i = (-2147483648, 2147483647) := by unfold hpbo; rw [kd_24, if_neg (by decide), show hpBc.getD 24 20 = 20 by decide +kernel]; rfl
theorem bo_26 (i : Nat) : hpbo 26 i = (-2147483648, 2147483647) := by unfold hpbo; rw [kd_26, if_neg (by decide), show hpBc.getD 26 20 = 20 by decide +kernel]; rfl
theorem bo_27 (i : Nat) : hpbo 27 i = (-2147483648, 2147483647) := by unfold hpbo; rw [kd_27, if_neg (by decide), show hpBc.getD 27 20 = 20 by decide +kernel]; rfl
theorem bo_29 (i : Nat) : hpbo 29 i = (-2147483648, 2147483647) := by unfold hpbo; rw [kd_29, if_neg (by decide), show hpBc.getD 29 20 = 20 by decide +kernel]; rfl
theorem bo_30 (i : Nat) : hpbo 30 i = (-2147483648, 2147483647) := by unfold hpbo; rw [kd_30, if_neg (by decide), show hpBc.getD 30 20 = 20 by decide +kernel]; rfl
theorem bo_32 (i : Nat) : hpbo 32 i = (-2147483648, 2147483647) := by unfold hpbo; rw [kd_32, if_neg (by decide), show hpBc.getD 32 20 = 20 by decide +kernel]; rfl
theorem bo_33 (i : Nat) : hpbo 33 i = (-2147483648, 2147483647) := by unfold hpbo; rw [kd_33, if_neg (by decide), show hpBc.getD 33 20 = 20 by decide +kernel]; rfl
theorem bo_35 (i : Nat) : hpbo 35 i = (-2147483648, 2147483647) := by unfold hpbo; rw [kd_35, if_neg (by decide), show hpBc.getD 35 20 = 20 by decide +kernel]; rfl
theorem bo_36 (i : Nat) : hpbo 36 i = (-2147483648, 2147483647) := by unfold hpbo; rw [kd_36, if_neg (by decide), show hpBc.getD 36 20 = 20 by decide +kernel]; rfl
theorem bo_38 (i : Nat) : hpbo 38 i = (-2147483648, 2147483647) := by unfold hpbo; rw [kd_38, if_neg (by decide), show hpBc.getD 38 20 = 20 by decide +kernel]; rfl
theorem bo_39 (i : Nat) : hpbo 39 i = (-2147483648, 2147483647) := by unfold hpbo; rw [kd_39, if_neg (by decide), show hpBc.getD 39 20 = 20 by decide +kernel]; rfl
theorem bo_41 (i : Nat) : hpbo 41 i = (-2147483648, 2147483647) := by unfold hpbo; rw [kd_41, if_neg (by decide), show hpBc.getD 41 20 = 20 by decide +kernel]; rfl
theorem bo_42 (i : Nat) : hpbo 42 i = (-2147483648, 2147483647) := by unfold hpbo; rw [kd_42, if_neg (by decide), show hpBc.getD 42 20 = 20 by decide +kernel]; rfl
theorem bo_44 (i : Nat) : hpbo 44 i = (-2147483648, 2147483647) := by unfold hpbo; rw [kd_44, if_neg (by decide), show hpBc.getD 44 20 = 20 by decide +kernel]; rfl
theorem bo_45 (i : Nat) : hpbo 45 i = (-2147483648, 2147483647) := by unfold hpbo; rw [kd_45, if_neg (by decide), show hpBc.getD 45 20 = 20 by decide +kernel]; rfl
theorem bo_47 (i : Nat) : hpbo 47 i = (-2147483648, 2147483647) := by unfold hpbo; rw [kd_47, if_neg (by decide), show hpBc.getD 47 20 = 20 by decide +kernel]; rfl
theorem bo_48 (i : Nat) : hpbo 48 i = (-2147483648, 2147483647) := by unfold hpbo; rw [kd_48, if_neg (by decide), show hpBc.getD 48 20 = 20 by decide +kernel]; rfl
theorem bo_50 (i : Nat) : hpbo 50 i = (-2147483648, 2147483647) := by unfold hpbo; rw [kd_50, if_neg (by decide), show hpBc.getD 50 20 = 20 by decide +kernel]; rfl
theorem bo_51 (i : Nat) : hpbo 51 i = (-2147483648, 2147483647) := by unfold hpbo; rw [kd_51, if_neg (by decide), show hpBc.getD 51 20 = 20 by decide +kernel]; rfl
theorem bo_53 (i : Nat) : hpbo 53 i = (-2147483648, 2147483647) := by unfold hpbo; rw [kd_53, if_neg (by decide), show hpBc.getD 53 20 = 20 by decide +kernel]; rfl
theorem bo_54 (i : Nat) : hpbo 54 i = (-2147483648, 2147483647) := by unfold hpbo; rw [kd_54, if_neg (by decide), show hpBc.getD 54 20 = 20 by decide +kernel]; rfl
theorem bo_56 (i : Nat) : hpbo 56 i = (-2147483648, 2147483647) := by unfold hpbo; rw [kd_56, if_neg (by decide), show hpBc.getD 56 20 = 20 by decide +kernel]; rfl
theorem bo_57 (i : Nat) : hpbo 57 i = (-2147483648, 2147483647) := by unfold hpbo; rw [kd_57, if_neg (by decide), show hpBc.getD 57 20 = 20 by decide +kernel]; rfl
theorem bo_59 (i : Nat) : hpbo 59 i = (-2147483648, 2147483647) := by unfold hpbo; rw [kd_59, if_neg (by decide), show hpBc.getD 59 20 = 20 by decide +kernel]; rfl
theorem bo_60 (i : Nat) : hpbo 60 i = (-2147483648, 2147483647) := by unfold hpbo; rw [kd_60, if_neg (by decide), show hpBc.getD 60 20 = 20 by decide +kernel]; rfl
theorem bo_62 (i : Nat) : hpbo 62 i = (-2147483648, 2147483647) := by unfold hpbo; rw [kd_62, if_neg (by decide), show hpBc.getD 62 20 = 20 by decide +kernel]; rfl
theorem bo_63 (i : Nat) : hpbo 63 i = (-2147483648, 2147483647) := by unfold hpbo; rw [kd_63, if_neg (by decide), show hpBc.getD 63 20 = 20 by decide +kernel]; rfl
theorem bo_65 (i : Nat) : hpbo 65 i = (-2147483648, 2147483647) := by unfold hpbo; rw [kd_65, if_neg (by decide), show hpBc.getD 65 20 = 20 by decide +kernel]; rfl
theorem bo_66 (i : Nat) : hpbo 66 i = (-2147483648, 2147483647) := by unfold hpbo; rw [kd_66, if_neg (by decide), show hpBc.getD 66 20 = 20 by decide +kernel]; rfl
theorem bo_68 (i : Nat) : hpbo 68 i = (-2147483648, 2147483647) := by unfold hpbo; rw [kd_68, if_neg (by decide), show hpBc.getD 68 20 = 20 by decide +kernel]; rfl
theorem bo_69 (i : Nat) : hpbo 69 i = (-2147483648, 2147483647) := by unfold hpbo; rw [kd_69, if_neg (by decide), show hpBc.getD 69 20 = 20 by decide +kernel]; rfl
theorem bo_73 (i : Nat) : hpbo 73 i = (-2147483648, 2147483647) := by unfold hpbo; rw [kd_73, if_neg (by decide), show hpBc.getD 73 20 = 20 by decide +kernel]; rfl
theorem bo_74 (i : Nat) : hpbo 74 i = (-2147483648, 2147483647) := by unfold hpbo; rw [kd_74, if_neg (by decide), show hpBc.getD 74 20 = 20 by decide +kernel]; rfl
theorem bo_76 (i : Nat) : hpbo 76 i = (-2147483648, 2147483647) := by unfold hpbo; rw [kd_76, if_neg (by decide), show hpBc.getD 76 20 = 20 by decide +kernel]; rfl
theorem bo_77 (i : Nat) : hpbo 77 i = (-2147483648, 2147483647) := by unfold hpbo; rw [kd_77, if_neg (by decide), show hpBc.getD 77 20 = 20 by decide +kernel]; rfl
theorem bo_79 (i : Nat) : hpbo 79 i = (-2147483648, 2147483647) := by unfold hpbo; rw [kd_79, if_neg (by decide), show hpBc.getD 79 20 = 20 by decide +kernel]; rfl
theorem bo_80 (i : Nat) : hpbo 80 i = (-2147483648, 2147483647) := by unfold hpbo; rw [kd_80, if_neg (by decide), show hpBc.getD 80 20 = 20 by decide +kernel]; rfl
theorem bo_82 (i : Nat) : hpbo 82 i = (-2147483648, 2147483647) := by unfold hpbo; rw [kd_82, if_neg (by decide), show hpBc.getD 82 20 = 20 by decide +kernel]; rfl
theorem bo_83 (i : Nat) : hpbo 83 i = (-2147483648, 2147483647) := by unfold hpbo; rw [kd_83, if_neg (by decide), show hpBc.getD 83 20 = 20 by decide +kernel]; rfl
theorem bo_85 (i : Nat) : hpbo 85 i = (-2147483648, 2147483647) := by unfold hpbo; rw [kd_85, if_neg (by decide), show hpBc.getD 85 20 = 20 by decide +kernel]; rfl
theorem bo_86 (i : Nat) : hpbo 86 i = (-2147483648, 2147483647) := by unfold hpbo; rw [kd_86, if_neg (by decide), show hpBc.getD 86 20 = 20 by decide +kernel]; rfl
theorem bo_88 (i : Nat) : hpbo 88 i = (-2147483648, 2147483647) := by unfold hpbo; rw [kd_88, if_neg (by decide), show hpBc.getD 88 20 = 20 by decide +kernel]; rfl
theorem bo_89 (i : Nat) : hpbo 89 i = (-2147483648, 2147483647) := by unfold hpbo; rw [kd_89, if_neg (by decide), show hpBc.getD 89 20 = 20 by decide +kernel]; rfl
theorem bo_91 (i : Nat) : hpbo 91 i = (-2147483648, 2147483647) := by unfold hpbo; rw [kd_91, if_neg (by decide), show hpBc.getD 91 20 = 20 by decide +kernel]; rfl
theorem bo_92 (i : Nat) : hpbo 92 i = (-2147483648, 2147483647) := by unfold hpbo; rw [kd_92, if_neg (by decide), show hpBc.getD 92 20 = 20 by decide +kernel]; rfl
theorem bo_94 (i : Nat) : hpbo 94 i = (-2147483648, 2147483647) := by unfold hpbo; rw [kd_94, if_neg (by decide), show hpBc.getD 94 20 = 20 by decide +kernel]; rfl
theorem bo_95 (i : Nat) : hpbo 95 i = (-2147483648, 2147483647) := by unfold hpbo; rw [kd_95, if_neg (by decide), show hpBc.getD 95 20 = 20 by decide +kernel]; rfl
theorem bo_97 (i : Nat) : hpbo 97 i = (-2147483648, 2147483647) := by unfold hpbo; rw [kd_97, if_neg (by decide), show hpBc.getD 97 20 = 20 by decide +kernel]; rfl
theorem bo_98 (i : Nat) : hpbo 98 i = (-2147483648, 2147483647) := by unfold hpbo; rw [kd_98, if_neg (by decide), show hpBc.getD 98 20 = 20 by decide +kernel]; rfl
theorem bo_100 (i : Nat) : hpbo 100 i = (-2147483648, 2147483647) := by unfold hpbo; rw [kd_100, if_neg (by decide), show hpBc.getD 100 20 = 20 by decide +kernel]; rfl
theorem bo_101 (i : Nat) : hpbo 101 i = (-2147483648, 2147483647) := by unfold hpbo; rw [kd_101, if_neg (by decide), show hpBc.getD 101 20 = 20 by decide +kernel]; rfl
theorem bo_103 (i : Nat) : hpbo 103 i = (-2147483648, 2147483647) := by unfold hpbo; rw [kd_103, if_neg (by decide), show hpBc.getD 103 20 = 20 by decide +kernel]; rfl
theorem bo_104 (i : Nat) : hpbo 104 i = (-2147483648, 2147483647) := by unfold hpbo; rw [kd_104, if_neg (by decide), show hpBc.getD 104 20 = 20 by decide +kernel]; rfl
theorem bo_106 (i : Nat) : hpbo 106 i = (-2147483648, 2147483647) := by unfold hpbo; rw [kd_106, if_neg (by decide), show hpBc.getD 106 20 = 20 by decide +kernel]; rfl
theorem bo_107 (i : Nat) : hpbo 107 i = (-2147483648, 2147483647) := by unfold hpbo; rw [kd_107, if_neg (by decide), show hpBc.getD 107 20 = 20 by decide +kernel]; rfl
theorem bo_109 (i : Nat) : hpbo 109 i = (-2147483648, 2147483647) := by unfold hpbo; rw [kd_109, if_neg (by decide), show hpBc.getD 109 20 = 20 by decide +kernel]; rfl
theorem bo_110 (i : Nat) : hpbo 110 i = (-2147483648, 2147483647) := by unfold hpbo; rw [kd_110, if_neg (by decide), show hpBc.getD 110 20 = 20 by decide +kernel]; rfl
theorem bo_112 (i : Nat) : hpbo 112 i = (-2147483648, 2147483647) := by unfold hpbo; rw [kd_112, if_neg (by decide), show hpBc.getD 112 20 = 20 by decide +kernel]; rfl
theorem bo_113 (i : Nat) : hpbo 113 i = (-2147483648, 2147483647) := by unfold hpbo; rw [kd_113, if_neg (by decide), show hpBc.getD 113 20 = 20 by decide +kernel]; rfl
theorem bo_115 (i : Nat) : hpbo 115 i = (-2147483648, 2147483647) := by unfold hpbo; rw [kd_115, if_neg (by decide), show hpBc.getD 115 20 = 20 by decide +kernel]; rfl
theorem bo_116 (i : Nat) : hpbo 116 i = (-2147483648, 2147483647) := by unfold hpbo; rw [kd_116, if_neg (by decide), show hpBc.getD 116 20 = 20 by decide +kernel]; rfl
theorem bo_118 (i : Nat) : hpbo 118 i = (-2147483648, 2147483647) := by unfold hpbo; rw [kd_118, if_neg (by decide), show hpBc.getD 118 20 = 20 by decide +kernel]; rfl
theorem bo_119 (i : Nat) : hpbo 119 i = (-2147483648, 2147483647) := by unfold hpbo; rw [kd_119, if_neg (by decide), show hpBc.getD 119 20 = 20 by decide +kernel]; rfl
theorem bo_121 (i : Nat) : hpbo 121 i = (-2147483648, 2147483647) := by unfold hpbo; rw [kd_121, if_neg (by decide), show hpBc.getD 121 20 = 20 by decide +kernel]; rfl
theorem bo_122 (i : Nat) : hpbo 122 i = (-2147483648, 2147483647) := by unfold hpbo; rw [kd_122, if_neg (by decide), show hpBc.getD 122 20 = 20 by decide +kernel]; rfl
theorem bo_125 (i : Nat) : hpbo 125 i = (-2147483648, 2147483647) := by unfold hpbo; rw [kd_125, if_neg (by decide), show hpBc.getD 125 20 = 20 by decide +kernel]; rfl
theorem bo_126 (i : Nat) : hpbo 126 i = (-2147483648, 2147483647) := by unfold hpbo; rw [kd_126, if_neg (by decide), show hpBc.getD 126 20 = 20 by decide +kernel]; rfl
theorem bo_128 (i : Nat) : hpbo 128 i = (-2147483648, 2147483647) := by unfold hpbo; rw [kd_128, if_neg (by decide), show hpBc.getD 128 20 = 20 by decide +kernel]; rfl
theorem bo_129 (i : Nat) : hpbo 129 i = (-2147483648, 2147483647) := by unfold hpbo; rw [kd_129, if_neg (by decide), show hpBc.getD 129 20 = 20 by decide +kernel]; rfl
theorem bo_131 (i : Nat) : hpbo 131 i = (-9223372036854775808, 9223372036854775807) := by unfold hpbo; rw [kd_131, if_neg (by decide), show hpBc.getD 131 20 = 21 by decide +kernel]; rfl
theorem bo_132 (i : Nat) : hpbo 132 i = (0, 134) := by unfold hpbo; rw [kd_132, if_neg (by decide), show hpBc.getD 132 20 = 24 by decide +kernel]; rfl
theorem bo_133 (i : Nat) : hpbo 133 i = (-2147483648, 2147483647) := by unfold hpbo; rw [kd_133, if_neg (by decide), show hpBc.getD 133 20 = 20 by decide +kernel]; rfl
theorem bo_134 (i : Nat) : hpbo 134 i = (-2147483648, 2147483647) := by unfold hpbo; rw [kd_134, if_neg (by decide), show hpBc.getD 134 20 = 20 by decide +kernel]; rfl
theorem bo_135 (i : Nat) : hpbo 135 i = (0, 134) := by unfold hpbo; rw [kd_135, if_neg (by decide), show hpBc.getD 135 20 = 24 by decide +kernel]; rfl
theorem bo_136 (i : Nat) : hpbo 136 i = (-2147483648, 2147483647) := by unfold hpbo; rw [kd_136, if_neg (by decide), show hpBc.getD 136 20 = 20 by decide +kernel]; rfl
theorem bo_137 (i : Nat) : hpbo 137 i = (-2147483648, 2147483647) := by unfold hpbo; rw [kd_137, if_neg (by decide), show hpBc.getD 137 20 = 20 by decide +kernel]; rfl
theorem bo_139 (i : Nat) : hpbo 139 i = (-2147483648, 2147483647) := by unfold hpbo; rw [kd_139, if_neg (by decide), show hpBc.getD 139 20 = 20 by decide +kernel]; rfl
theorem bo_140 (i : Nat) : hpbo 140 i = (-2147483648, 2147483647) := by unfold hpbo; rw [kd_140, if_neg (by decide), show hpBc.getD 140 20 = 20 by decide +kernel]; rfl
theorem bo_142 (i : Nat) : hpbo 142 i = (-2147483648, 2147483647) := by unfold hpbo; rw [kd_142, if_neg (by decide), show hpBc.getD 142 20 = 20 by decide +kernel]; rfl
theorem bo_144 (i : Nat) : hpbo 144 i = (-2147483648, 2147483647) := by unfold hpbo; rw [kd_144, if_neg (by decide), show hpBc.getD 144 20 = 20 by decide +kernel]; rfl
theorem bo_145 (i : Nat) : hpbo 145 i = (-2147483648, 2147483647) := by unfold hpbo; rw [kd_145, if_neg (by decide), show hpBc.getD 145 20 = 20 by decide +kernel]; rfl
theorem bo_146 (i : Nat) : hpbo 146 i = (-2147483648, 2147483647) := by unfold hpbo; rw [kd_146, if_neg (by decide), show hpBc.getD 146 20 = 20 by decide +kernel]; rfl
theorem bo_147 (i : Nat) : hpbo 147 i = (-2147483648, 2147483647) := by unfold hpbo; rw [kd_147, if_neg (by decide), show hpBc.getD 147 20 = 20 by decide +kernel]; rfl
theorem bo_148 (i : Nat) : hpbo 148 i = (-2147483648, 2147483647) := by unfold hpbo; rw [kd_148, if_neg (by decide), show hpBc.getD 148 20 = 20 by decide +kernel]; rfl
theorem bo_149 (i : Nat) : hpbo 149 i = (-2147483648, 2147483647) := by unfold hpbo; rw [kd_149, if_neg (by decide), show hpBc.getD 149 20 = 20 by decide +kernel]; rfl
theorem bo_150 (i : Nat) : hpbo 150 i = (-2147483648, 2147483647) := by unfold hpbo; rw [kd_150, if_neg (by decide), show hpBc.getD 150 20 = 20 by decide +kernel]; rfl
theorem bo_151 (i : Nat) : hpbo 151 i = (-2147483648, 2147483647) := by unfold hpbo; rw [kd_151, if_neg (by decide), show hpBc.getD 151 20 = 20 by decide +kernel]; rfl
theorem bo_152 (i : Nat) : hpbo 152 i = (-2147483648, 2147483647) := by unfold hpbo; rw [kd_152, if_neg (by decide), show hpBc.getD 152 20 = 20 by decide +kernel]; rfl
theorem bo_153 (i : Nat) : hpbo 153 i = (-2147483648, 2147483647) := by unfold hpbo; rw [kd_153, if_neg (by decide), show hpBc.getD 153 20 = 20 by decide +kernel]; rfl
theorem bo_154 (i : Nat) : hpbo 154 i = (-2147483648, 2147483647) := by unfold hpbo; rw [kd_154, if_neg (by decide), show hpBc.getD 154 20 = 20 by decide +kernel]; rfl
theorem bo_155 (i : Nat) : hpbo 155 i = (-2147483648, 2147483647) := by unfold hpbo; rw [kd_155, if_neg (by decide), show hpBc.getD 155 20 = 20 by decide +kernel]; rfl
theorem bo_156 (i : Nat) : hpbo 156 i = (-2147483648, 2147483647) := by unfold hpbo; rw [kd_156, if_neg (by decide), show hpBc.getD 156 20 = 20 by decide +kernel]; rfl
theorem bo_157 (i : Nat) : hpbo 157 i = (-2147483648, 2147483647) := by unfold hpbo; rw [kd_157, if_neg (by decide), show hpBc.getD 157 20 = 20 by decide +kernel]; rfl
theorem bo_158 (i : Nat) : hpbo 158 i = (-2147483648, 2147483647) := by unfold hpbo; rw [kd_158, if_neg (by decide), show hpBc.getD 158 20 = 20 by decide +kernel]; rfl
theorem bo_159 (i : Nat) : hpbo 159 i = (-2147483648, 2147483647) := by unfold hpbo; rw [kd_159, if_neg (by decide), show hpBc.getD 159 20 = 20 by decide +kernel]; rfl
theorem bo_160 (i : Nat) : hpbo 160 i = (-2147483648, 2147483647) := by unfold hpbo; rw [kd_160, if_neg (by decide), show hpBc.getD 160 20 = 20 by decide +kernel]; rfl
theorem bo_161 (i : Nat) : hpbo 161 i = (-2147483648, 2147483647) := by unfold hpbo; rw [kd_161, if_neg (by decide), show hpBc.getD 161 20 = 20 by decide +kernel]; rfl
theorem bo_162 (i : Nat) : hpbo 162 i = (-2147483648, 2147483647) := by unfold hpbo; rw [kd_162, if_neg (by decide), show hpBc.getD 162 20 = 20 by decide +kernel]; rfl
theorem bo_163 (i : Nat) : hpbo 163 i = (-2147483648, 2147483647) := by unfold hpbo; rw [kd_163, if_neg (by decide), show hpBc.getD 163 20 = 20 by decide +kernel]; rfl
theorem bo_165 (i : Nat) : hpbo 165 i = (-2147483648, 2147483647) := by unfold hpbo; rw [kd_165, if_neg (by decide), show hpBc.getD 165 20 = 20 by decide +kernel]; rfl
theorem bo_166 (i : Nat) : hpbo 166 i = (-2147483648, 2147483647) := by unfold hpbo; rw [kd_166, if_neg (by decide), show hpBc.getD 166 20 = 20 by decide +kernel]; rfl
theorem bo_167 (i : Nat) : hpbo 167 i = (-2147483648, 2147483647) := by unfold hpbo; rw [kd_167, if_neg (by decide), show hpBc.getD 167 20 = 20 by decide +kernel]; rfl
theorem bo_168 (i : Nat) : hpbo 168 i = (-2147483648, 2147483647) := by unfold hpbo; rw [kd_168, if_neg (by decide), show hpBc.getD 168 20 = 20 by decide +kernel]; rfl
theorem bo_170 (i : Nat) : hpbo 170 i = (-2147483648, 2147483647) := by unfold hpbo; rw [kd_170, if_neg (by decide), show hpBc.getD 170 20 = 20 by decide +kernel]; rfl
theorem bo_171 (i : Nat) : hpbo 171 i = (-2147483648, 2147483647) := by unfold hpbo; rw [kd_171, if_neg (by decide), show hpBc.getD 171 20 = 20 by decide +kernel]; rfl
theorem bo_172 (i : Nat) : hpbo 172 i = (-2147483648, 2147483647) := by unfold hpbo; rw [kd_172, if_neg (by decide), show hpBc.getD 172 20 = 20 by decide +kernel]; rfl
theorem bo_173 (i : Nat) : hpbo 173 i = (-2147483648, 2147483647) := by unfold hpbo; rw [kd_173, if_neg (by decide), show hpBc.getD 173 20 = 20 by decide +kernel]; rfl
theorem bo_174 (i : Nat) : hpbo 174 i = (-2147483648, 2147483647) := by unfold hpbo; rw [kd_174, if_neg (by decide), show hpBc.getD 174 20 = 20 by decide +kernel]; rfl
theorem bo_176 (i : Nat) : hpbo 176 i = (-2147483648, 2147483647) := by unfold hpbo; rw [kd_176, if_neg (by decide), show hpBc.getD 176 20 = 20 by decide +kernel]; rfl
theorem bo_177 (i : Nat) : hpbo 177 i = (-2147483648, 2147483647) := by unfold hpbo; rw [kd_177, if_neg (by decide), show hpBc.getD 177 20 = 20 by decide +kernel]; rfl
theorem bo_178 (i : Nat) : hpbo 178 i = (-2147483648, 2147483647) := by unfold hpbo; rw [kd_178, if_neg (by decide), show hpBc.getD 178 20 = 20 by decide +kernel]; rfl
theorem bo_179 (i : Nat) : hpbo 179 i = (-2147483648, 2147483647) := by unfold hpbo; rw [kd_179, if_neg (by decide), show hpBc.getD 179 20 = 20 by decide +kernel]; rfl
theorem bo_180 (i : Nat) : hpbo 180 i = (-2147483648, 2147483647) := by unfold hpbo; rw [kd_180, if_neg (by decide), show hpBc.getD 180 20 = 20 by decide +kernel]; rfl
theorem bo_182 (i : Nat) : hpbo 182 i = (-2147483648, 2147483647) := by unfold hpbo; rw [kd_182, if_neg (by decide), show hpBc.getD 182 20 = 20 by decide +kernel]; rfl
theorem bo_183 (i : Nat) : hpbo 183 i = (-2147483648, 2147483647) := by unfold hpbo; rw [kd_183, if_neg (by decide), show hpBc.getD 183 20 = 20 by decide +kernel]; rfl
theorem bo_184 (i : Nat) : hpbo 184 i = (-2147483648, 2147483647) := by unfold hpbo; rw [kd_184, if_neg (by decide), show hpBc.getD 184 20 = 20 by decide +kernel]; rfl
theorem bo_185 (i : Nat) : hpbo 185 i = (-2147483648, 2147483647) := by unfold hpbo; rw [kd_185, if_neg (by decide), show hpBc.getD 185 20 = 20 by decide +kernel]; rfl
theorem bo_186 (i : Nat) : hpbo 186 i = (-2147483648, 2147483647) := by unfold hpbo; rw [kd_186, if_neg (by decide), show hpBc.getD 186 20 = 20 by decide +kernel]; rfl
theorem bo_188 (i : Nat) : hpbo 188 i = (-9223372036854775808, 9223372036854775807) := by unfold hpbo; rw [kd_188, if_neg (by decide), show hpBc.getD 188 20 = 21 by decide +kernel]; rfl
theorem bo_190 (i : Nat) : hpbo 190 i = (-9223372036854775808, 9223372036854775807) := by unfold hpbo; rw [kd_190, if_neg (by decide), show hpBc.getD 190 20 = 21 by decide +kernel]; rfl
theorem bo_192 (i : Nat) : hpbo 192 i = (-9223372036854775808, 9223372036854775807) := by unfold hpbo; rw [kd_192, if_neg (by decide), show hpBc.getD 192 20 = 21 by decide +kernel]; rfl
theorem bo_194 (i : Nat) : hpbo 194 i = (-9223372036854775808, 9223372036854775807) := by unfold hpbo; rw [kd_194, if_neg (by decide), show hpBc.getD 194 20 = 21 by decide +kernel]; rfl
theorem bo_198 (i : Nat) : hpbo 198 i = (0, 1) := by unfold hpbo; rw [kd_198, if_neg (by decide), show hpBc.getD 198 20 = 23 by decide +kernel]; rfl
theorem bo_199 (i : Nat) : hpbo 199 i = (-128, 127) := by unfold hpbo; rw [kd_199, if_neg (by decide), show hpBc.getD 199 20 = 22 by decide +kernel]; rfl
theorem bo_200 (i : Nat) : hpbo 200 i = (-2147483648, 2147483647) := by unfold hpbo; rw [kd_200, if_neg (by decide), show hpBc.getD 200 20 = 20 by decide +kernel]; rfl
theorem bo_203 (i : Nat) : hpbo 203 i = (0, 20) := by unfold hpbo; rw [kd_203, if_neg (by decide), show hpBc.getD 203 20 = 29 by decide +kernel]; rfl
theorem bo_204 (i : Nat) : hpbo 204 i = (-2147483648, 2147483647) := by unfold hpbo; rw [kd_204, if_neg (by decide), show hpBc.getD 204 20 = 20 by decide +kernel]; rfl
theorem bo_205 (i : Nat) : hpbo 205 i = (-2147483648, 2147483647) := by unfold hpbo; rw [kd_205, if_neg (by decide), show hpBc.getD 205 20 = 20 by decide +kernel]; rfl
theorem bo_206 (i : Nat) : hpbo 206 i = (-2147483648, 2147483647) := by unfold hpbo; rw [kd_206, if_neg (by decide), show hpBc.getD 206 20 = 20 by decide +kernel]; rfl
theorem bo_208 (i : Nat) : hpbo 208 i = (-2147483648, 2147483647) := by unfold hpbo; rw [kd_208, if_neg (by decide), show hpBc.getD 208 20 = 20 by decide +kernel]; rfl
theorem bo_209 (i : Nat) : hpbo 209 i = (-2147483648, 2147483647) := by unfold hpbo; rw [kd_209, if_neg (by decide), show hpBc.getD 209 20 = 20 by decide +kernel]; rfl
theorem bo_210 (i : Nat) : hpbo 210 i = (-2147483648, 2147483647) := by unfold hpbo; rw [kd_210, if_neg (by decide), show hpBc.getD 210 20 = 20 by decide +kernel]; rfl
theorem bo_211 (i : Nat) : hpbo 211 i = (-2147483648, 2147483647) := by unfold hpbo; rw [kd_211, if_neg (by decide), show hpBc.getD 211 20 = 20 by decide +kernel]; rfl
theorem bo_212 (i : Nat) : hpbo 212 i = (-2147483648, 2147483647) := by unfold hpbo; rw [kd_212, if_neg (by decide), show hpBc.getD 212 20 = 20 by decide +kernel]; rfl
theorem bo_213 (i : Nat) : hpbo 213 i = (-1, 60) := by unfold hpbo; rw [kd_213, if_neg (by decide), show hpBc.getD 213 20 = 30 by decide +kernel]; rfl
theorem bo_214 (i : Nat) : hpbo 214 i = (-2147483648, 2147483647) := by unfold hpbo; rw [kd_214, if_neg (by decide), show hpBc.getD 214 20 = 20 by decide +kernel]; rfl
theorem bo_215 (i : Nat) : hpbo 215 i = (-9223372036854775808, 9223372036854775807) := by unfold hpbo; rw [kd_215, if_neg (by decide), show hpBc.getD 215 20 = 21 by decide +kernel]; rfl
theorem bo_216 (i : Nat) : hpbo 216 i = (-9223372036854775808, 9223372036854775807) := by unfold hpbo; rw [kd_216, if_neg (by decide), show hpBc.getD 216 20 = 21 by decide +kernel]; rfl
theorem kb_1 {k : Nat} (hk : hpkd k = 1) : k ≤ 181 := (by decide +kernel : ∀ k, k < 217 → hpkd k = 1 → k ≤ 181) k (hpkd_lt hk (by decide)) hk
theorem kc_1_0 {k : Nat} (hk : hpkd k = 1) : hpkd (k + 1) = 11 ∧ hpln (k + 1) = 8 ∧ hpBc.getD (k + 1) 20 = 20 := (by decide +kernel : ∀ k, k < 217 → hpkd k = 1 → hpkd (k + 1) = 11 ∧ hpln (k + 1) = 8 ∧ hpBc.getD (k + 1) 20 = 20) k (hpkd_lt hk (by decide)) hk
theorem fa_1_0 {k : Nat} (hk : hpkd k = 1) : hpkd (k + 1) = 11 := (kc_1_0 hk).1
theorem fl_1_0 {k : Nat} (hk : hpkd k = 1) : hpln (k + 1) = 8 := (kc_1_0 hk).2.1
theorem fs_1_0 {z k : Nat} {r : Nat → Int} (hk : hpkd k = 1) : hpfv z k r 0 = .ref (z + (k + 1)) := hp_fvR (by rw [hk]; rfl) (by unfold hprf; rw [hk]; rfl)
theorem fo_1_0 {k : Nat} (hk : hpkd k = 1) (i : Nat) : hpbo (k + 1) i = (-2147483648, 2147483647) := by unfold hpbo; rw [fa_1_0 hk, if_neg (by decide), (kc_1_0 hk).2.2]; rfl
theorem kc_1_1 {k : Nat} (hk : hpkd k = 1) : hpkd (k + 2) = 11 ∧ hpln (k + 2) = 6 ∧ hpBc.getD (k + 2) 20 = 20 := (by decide +kernel : ∀ k, k < 217 → hpkd k = 1 → hpkd (k + 2) = 11 ∧ hpln (k + 2) = 6 ∧ hpBc.getD (k + 2) 20 = 20) k (hpkd_lt hk (by decide)) hk
theorem fa_1_1 {k : Nat} (hk : hpkd k = 1) : hpkd (k + 2) = 11 := (kc_1_1 hk).1
theorem fl_1_1 {k : Nat} (hk : hpkd k = 1) : hpln (k + 2) = 6 := (kc_1_1 hk).2.1
theorem fs_1_1 {z k : Nat} {r : Nat → Int} (hk : hpkd k = 1) : hpfv z k r 1 = .ref (z + (k + 2)) := hp_fvR (by rw [hk]; rfl) (by unfold hprf; rw [hk]; rfl)
theorem fo_1_1 {k : Nat} (hk : hpkd k = 1) (i : Nat) : hpbo (k + 2) i = (-2147483648, 2147483647) := by unfold hpbo; rw [fa_1_1 hk, if_neg (by decide), (kc_1_1 hk).2.2]; rfl
theorem kc_1_2 {k : Nat} (hk : hpkd k = 1) : hpkd (k + 3) = 11 ∧ hpln (k + 3) = 6 ∧ hpBc.getD (k + 3) 20 = 20 := (by decide +kernel : ∀ k, k < 217 → hpkd k = 1 → hpkd (k + 3) = 11 ∧ hpln (k + 3) = 6 ∧ hpBc.getD (k + 3) 20 = 20) k (hpkd_lt hk (by decide)) hk
theorem fa_1_2 {k : Nat} (hk : hpkd k = 1) : hpkd (k + 3) = 11 := (kc_1_2 hk).1
theorem fl_1_2 {k : Nat} (hk : hpkd k = 1) : hpln (k + 3) = 6 := (kc_1_2 hk).2.1
theorem fs_1_2 {z k : Nat} {r : Nat → Int} (hk : hpkd k = 1) : hpfv z k r 2 = .ref (z + (k + 3)) := hp_fvR (by rw [hk]; rfl) (by unfold hprf; rw [hk]; rfl)
theorem fo_1_2 {k : Nat} (hk : hpkd k = 1) (i : Nat) : hpbo (k + 3) i = (-2147483648, 2147483647) := by unfold hpbo; rw [fa_1_2 hk, if_neg (by decide), (kc_1_2 hk).2.2]; rfl
theorem kc_1_3 {k : Nat} (hk : hpkd k = 1) : hpkd (k + 4) = 11 ∧ hpln (k + 4) = 20 ∧ hpBc.getD (k + 4) 20 = 20 := (by decide +kernel : ∀ k, k < 217 → hpkd k = 1 → hpkd (k + 4) = 11 ∧ hpln (k + 4) = 20 ∧ hpBc.getD (k + 4) 20 = 20) k (hpkd_lt hk (by decide)) hk
theorem fa_1_3 {k : Nat} (hk : hpkd k = 1) : hpkd (k + 4) = 11 := (kc_1_3 hk).1
theorem fl_1_3 {k : Nat} (hk : hpkd k = 1) : hpln (k + 4) = 20 := (kc_1_3 hk).2.1
theorem fs_1_3 {z k : Nat} {r : Nat → Int} (hk : hpkd k = 1) : hpfv z k r 3 = .ref (z + (k + 4)) := hp_fvR (by rw [hk]; rfl) (by unfold hprf; rw [hk]; rfl)
theorem fo_1_3 {k : Nat} (hk : hpkd k = 1) (i : Nat) : hpbo (k + 4) i = (-2147483648, 2147483647) := by unfold hpbo; rw [fa_1_3 hk, if_neg (by decide), (kc_1_3 hk).2.2]; rfl
theorem kc_1_4 {k : Nat} (hk : hpkd k = 1) : hpkd (k + 5) = 11 ∧ hpln (k + 5) = 20 ∧ hpBc.getD (k + 5) 20 = 20 := (by decide +kernel : ∀ k, k < 217 → hpkd k = 1 → hpkd (k + 5) = 11 ∧ hpln (k + 5) = 20 ∧ hpBc.getD (k + 5) 20 = 20) k (hpkd_lt hk (by decide)) hk
theorem fa_1_4 {k : Nat} (hk : hpkd k = 1) : hpkd (k + 5) = 11 := (kc_1_4 hk).1
theorem fl_1_4 {k : Nat} (hk : hpkd k = 1) : hpln (k + 5) = 20 := (kc_1_4 hk).2.1
theorem fs_1_4 {z k : Nat} {r : Nat → Int} (hk : hpkd k = 1) : hpfv z k r 4 = .ref (z + (k + 5)) := hp_fvR (by rw [hk]; rfl) (by unfold hprf; rw [hk]; rfl)
theorem fo_1_4 {k : Nat} (hk : hpkd k = 1) (i : Nat) : hpbo (k + 5) i = (-2147483648, 2147483647) := by unfold hpbo; rw [fa_1_4 hk, if_neg (by decide), (kc_1_4 hk).2.2]; rfl
theorem kb_3 {k : Nat} (hk : hpkd k = 3) : k ≤ 164 := (by decide +kernel : ∀ k, k < 217 → hpkd k = 3 → k ≤ 164) k (hpkd_lt hk (by decide)) hk
theorem kc_3_0 {k : Nat} (hk : hpkd k = 3) : hpkd (k + 1) = 11 ∧ hpln (k + 1) = 40 ∧ hpBc.getD (k + 1) 20 = 20 := (by decide +kernel : ∀ k, k < 217 → hpkd k = 3 → hpkd (k + 1) = 11 ∧ hpln (k + 1) = 40 ∧ hpBc.getD (k + 1) 20 = 20) k (hpkd_lt hk (by decide)) hk
theorem fa_3_0 {k : Nat} (hk : hpkd k = 3) : hpkd (k + 1) = 11 := (kc_3_0 hk).1
theorem fl_3_0 {k : Nat} (hk : hpkd k = 3) : hpln (k + 1) = 40 := (kc_3_0 hk).2.1
theorem fs_3_0 {z k : Nat} {r : Nat → Int} (hk : hpkd k = 3) : hpfv z k r 0 = .ref (z + (k + 1)) := hp_fvR (by rw [hk]; rfl) (by unfold hprf; rw [hk]; rfl)
theorem fo_3_0 {k : Nat} (hk : hpkd k = 3) (i : Nat) : hpbo (k + 1) i = (-2147483648, 2147483647) := by unfold hpbo; rw [fa_3_0 hk, if_neg (by decide), (kc_3_0 hk).2.2]; rfl
theorem kc_3_1 {k : Nat} (hk : hpkd k = 3) : hpkd (k + 2) = 11 ∧ hpln (k + 2) = 40 ∧ hpBc.getD (k + 2) 20 = 20 := (by decide +kernel : ∀ k, k < 217 → hpkd k = 3 → hpkd (k + 2) = 11 ∧ hpln (k + 2) = 40 ∧ hpBc.getD (k + 2) 20 = 20) k (hpkd_lt hk (by decide)) hk
theorem fa_3_1 {k : Nat} (hk : hpkd k = 3) : hpkd (k + 2) = 11 := (kc_3_1 hk).1
theorem fl_3_1 {k : Nat} (hk : hpkd k = 3) : hpln (k + 2) = 40 := (kc_3_1 hk).2.1
theorem fs_3_1 {z k : Nat} {r : Nat → Int} (hk : hpkd k = 3) : hpfv z k r 1 = .ref (z + (k + 2)) := hp_fvR (by rw [hk]; rfl) (by unfold hprf; rw [hk]; rfl)
theorem fo_3_1 {k : Nat} (hk : hpkd k = 3) (i : Nat) : hpbo (k + 2) i = (-2147483648, 2147483647) := by unfold hpbo; rw [fa_3_1 hk, if_neg (by decide), (kc_3_1 hk).2.2]; rfl
theorem kb_6 {k : Nat} (hk : hpkd k = 6) : 187 ≤ k ∧ k ≤ 193 := (by decide +kernel : ∀ k, k < 217 → hpkd k = 6 → 187 ≤ k ∧ k ≤ 193) k (hpkd_lt hk (by decide)) hk
theorem kc_6_0 {k : Nat} (hk : hpkd k = 6) : hpkd (k + 1) = 12 ∧ hpln (k + 1) = 60 ∧ hpBc.getD (k + 1) 20 = 21 := (by decide +kernel : ∀ k, k < 217 → hpkd k = 6 → hpkd (k + 1) = 12 ∧ hpln (k + 1) = 60 ∧ hpBc.getD (k + 1) 20 = 21) k (hpkd_lt hk (by decide)) hk
theorem fa_6_0 {k : Nat} (hk : hpkd k = 6) : hpkd (k + 1) = 12 := (kc_6_0 hk).1
theorem fl_6_0 {k : Nat} (hk : hpkd k = 6) : hpln (k + 1) = 60 := (kc_6_0 hk).2.1
theorem fs_6_0 {z k : Nat} {r : Nat → Int} (hk : hpkd k = 6) : hpfv z k r 0 = .ref (z + (k + 1)) := hp_fvR (by rw [hk]; rfl) (by unfold hprf; rw [hk]; rfl)
theorem fo_6_0 {k : Nat} (hk : hpkd k = 6) (i : Nat) : hpbo (k + 1) i = (-9223372036854775808, 9223372036854775807) := by unfold hpbo; rw [fa_6_0 hk, if_neg (by decide), (kc_6_0 hk).2.2]; rfl
theorem kb_4 {k : Nat} (hk : hpkd k = 4) : k ≤ 70 := (by decide +kernel : ∀ k, k < 217 → hpkd k = 4 → k ≤ 70) k (hpkd_lt hk (by decide)) hk
theorem kc_4_0 {k : Nat} (hk : hpkd k = 4) : hpkd (k + 1) = 15 ∧ hpln (k + 1) = 17 ∧ hpBc.getD (k + 1) 20 = 20 := (by decide +kernel : ∀ k, k < 217 → hpkd k = 4 → hpkd (k + 1) = 15 ∧ hpln (k + 1) = 17 ∧ hpBc.getD (k + 1) 20 = 20) k (hpkd_lt hk (by decide)) hk
theorem fa_4_0 {k : Nat} (hk : hpkd k = 4) : hpkd (k + 1) = 15 := (kc_4_0 hk).1
theorem fl_4_0 {k : Nat} (hk : hpkd k = 4) : hpln (k + 1) = 17 := (kc_4_0 hk).2.1
theorem fs_4_0 {z k : Nat} {r : Nat → Int} (hk : hpkd k = 4) : hpfv z k r 0 = .ref (z + (k + 1)) := hp_fvR (by rw [hk]; rfl) (by unfold hprf; rw [hk]; rfl)
theorem hpw_fr {σ : hpMem} {k i0 j i : Nat} {v : Int} (h : j ≠ k ∨ i ≠ i0) : hpw σ k i0 v j i = σ j i := by
  by_cases e : j = k
  · subst e
    exact hpw_ni (by omega)
  · exact hpw_nk e
theorem hpwr_fr {σ : hpMem} {k j i : Nat} {r : Nat → Int} (h : j ≠ k) : hpwr σ k r j i = σ j i := by rw [hpwr_ne h]
theorem bc_196 : hpBc.getD 196 20 = 25 := by decide +kernel
theorem bc_197 : hpBc.getD 197 20 = 26 := by decide +kernel
theorem bc_201 : hpBc.getD 201 20 = 25 := by decide +kernel
theorem bc_202 : hpBc.getD 202 20 = 27 := by decide +kernel
theorem bc_207 : hpBc.getD 207 20 = 28 := by decide +kernel
theorem bw_196 (i : Nat) : hpbo 196 i = hpwb i := by unfold hpbo; rw [kd_196, if_neg (by decide), bc_196]; rfl
theorem hpInv.q196 {σ : hpMem} (h : hpInv σ) (i : Nat) : (hpwb i).1 ≤ σ 196 i ∧ σ 196 i ≤ (hpwb i).2 := by
  have q := h 196 i
  rw [bw_196] at q
  exact q
theorem hpInv.r196 {σ : hpMem} (h : hpInv σ) (i lo hi : Nat) (L H : Int) (h1 : lo ≤ i) (h2 : i ≤ hi) (ha : ∀ j, j < hi - lo + 1 → L ≤ (hpwb (lo + j)).1 ∧ (hpwb (lo + j)).2 ≤ H) : L ≤ σ 196 i ∧ σ 196 i ≤ H := by
  have q := h.q196 i
  have a := ha (i - lo) (by omega)
  rw [show lo + (i - lo) = i by omega] at a
  exact ⟨Int.le_trans a.1 q.1, Int.le_trans q.2 a.2⟩
theorem hpInv.c196 {σ : hpMem} {i : Nat} {v : Int} (h : hpInv σ) (hv : (hpwb i).1 ≤ v ∧ v ≤ (hpwb i).2) : hpInv (hpw σ 196 i v) := h.w (lo := (hpwb i).1) (hi := (hpwb i).2) (bw_196 i) hv.1 hv.2
theorem hpInv.w196 {σ : hpMem} {v : Int} (h : hpInv σ) (i lo hi : Nat) (L H : Int) (h1 : lo ≤ i) (h2 : i ≤ hi) (ha : ∀ j, j < hi - lo + 1 → (hpwb (lo + j)).1 ≤ L ∧ H ≤ (hpwb (lo + j)).2) (hL : L ≤ v) (hH : v ≤ H) : hpInv (hpw σ 196 i v) := by
  have a := ha (i - lo) (by omega)
  rw [show lo + (i - lo) = i by omega] at a
  exact h.c196 ⟨Int.le_trans a.1 hL, Int.le_trans hH a.2⟩
theorem bw_201 (i : Nat) : hpbo 201 i = hpwb i := by unfold hpbo; rw [kd_201, if_neg (by decide), bc_201]; rfl
theorem hpInv.q201 {σ : hpMem} (h : hpInv σ) (i : Nat) : (hpwb i).1 ≤ σ 201 i ∧ σ 201 i ≤ (hpwb i).2 := by
  have q := h 201 i
  rw [bw_201] at q
  exact q
theorem hpInv.r201 {σ : hpMem} (h : hpInv σ) (i lo hi : Nat) (L H : Int) (h1 : lo ≤ i) (h2 : i ≤ hi) (ha : ∀ j, j < hi - lo + 1 → L ≤ (hpwb (lo + j)).1 ∧ (hpwb (lo + j)).2 ≤ H) : L ≤ σ 201 i ∧ σ 201 i ≤ H := by
  have q := h.q201 i
  have a := ha (i - lo) (by omega)
  rw [show lo + (i - lo) = i by omega] at a
  exact ⟨Int.le_trans a.1 q.1, Int.le_trans q.2 a.2⟩
theorem hpInv.c201 {σ : hpMem} {i : Nat} {v : Int} (h : hpInv σ) (hv : (hpwb i).1 ≤ v ∧ v ≤ (hpwb i).2) : hpInv (hpw σ 201 i v) := h.w (lo := (hpwb i).1) (hi := (hpwb i).2) (bw_201 i) hv.1 hv.2
theorem hpInv.w201 {σ : hpMem} {v : Int} (h : hpInv σ) (i lo hi : Nat) (L H : Int) (h1 : lo ≤ i) (h2 : i ≤ hi) (ha : ∀ j, j < hi - lo + 1 → (hpwb (lo + j)).1 ≤ L ∧ H ≤ (hpwb (lo + j)).2) (hL : L ≤ v) (hH : v ≤ H) : hpInv (hpw σ 201 i v) := by
  have a := ha (i - lo) (by omega)
  rw [show lo + (i - lo) = i by omega] at a
  exact h.c201 ⟨Int.le_trans a.1 hL, Int.le_trans hH a.2⟩
theorem bw_197 (i : Nat) : hpbo 197 i = hpwb (i % 47) := by unfold hpbo; rw [kd_197, if_neg (by decide), bc_197]; rfl
theorem hpInv.q197 {σ : hpMem} (h : hpInv σ) (i : Nat) : (hpwb (i % 47)).1 ≤ σ 197 i ∧ σ 197 i ≤ (hpwb (i % 47)).2 := by
  have q := h 197 i
  rw [bw_197] at q
  exact q
theorem hpwb_all : ∀ j, j < 47 → (0 : Int) ≤ (hpwb j).1 ∧ (hpwb j).2 ≤ 2147483647 := by decide
theorem hpInv.r197 {σ : hpMem} (h : hpInv σ) (i : Nat) : 0 ≤ σ 197 i ∧ σ 197 i ≤ 2147483647 := by
  have q := h.q197 i
  have a := hpwb_all (i % 47) (Nat.mod_lt _ (by decide))
  exact ⟨Int.le_trans a.1 q.1, Int.le_trans q.2 a.2⟩
theorem hpInv.c197 {σ : hpMem} {i : Nat} {v : Int} (h : hpInv σ) (hv : (hpwb (i % 47)).1 ≤ v ∧ v ≤ (hpwb (i % 47)).2) : hpInv (hpw σ 197 i v) := h.w (lo := (hpwb (i % 47)).1) (hi := (hpwb (i % 47)).2) (bw_197 i) hv.1 hv.2
theorem bh_202 {i : Nat} (h : i % 701 = 0) : hpbo 202 i = (0, 700) := by unfold hpbo; rw [kd_202, if_neg (by decide), bc_202]; show (if i % 701 = 0 then _ else _) = _; rw [if_pos h]
theorem bn_202 {i : Nat} (h : ¬ i % 701 = 0) : hpbo 202 i = (-2147483648, 2147483647) := by unfold hpbo; rw [kd_202, if_neg (by decide), bc_202]; show (if i % 701 = 0 then _ else _) = _; rw [if_neg h]; rfl
theorem hpInv.r202 {σ : hpMem} (h : hpInv σ) (i : Nat) : -2147483648 ≤ σ 202 i ∧ σ 202 i ≤ 2147483647 := by
  by_cases e : i % 701 = 0
  · have q := h.b (bh_202 e)
    omega
  · exact h.b (bn_202 e)
theorem hpInv.w202 {σ : hpMem} {i : Nat} {v : Int} (h : hpInv σ) (hv : i % 701 = 0 → 0 ≤ v ∧ v ≤ 700) (hr : -2147483648 ≤ v ∧ v ≤ 2147483647) : hpInv (hpw σ 202 i v) := by
  by_cases e : i % 701 = 0
  · exact h.w (bh_202 e) (hv e).1 (hv e).2
  · exact h.w (bn_202 e) hr.1 hr.2
theorem bh_207 {i : Nat} (h : i % 15 = 0) : hpbo 207 i = (0, 14) := by unfold hpbo; rw [kd_207, if_neg (by decide), bc_207]; show (if i % 15 = 0 then _ else _) = _; rw [if_pos h]
theorem bn_207 {i : Nat} (h : ¬ i % 15 = 0) : hpbo 207 i = (-2147483648, 2147483647) := by unfold hpbo; rw [kd_207, if_neg (by decide), bc_207]; show (if i % 15 = 0 then _ else _) = _; rw [if_neg h]; rfl
theorem hpInv.r207 {σ : hpMem} (h : hpInv σ) (i : Nat) : -2147483648 ≤ σ 207 i ∧ σ 207 i ≤ 2147483647 := by
  by_cases e : i % 15 = 0
  · have q := h.b (bh_207 e)
    omega
  · exact h.b (bn_207 e)
theorem hpInv.w207 {σ : hpMem} {i : Nat} {v : Int} (h : hpInv σ) (hv : i % 15 = 0 → 0 ≤ v ∧ v ≤ 14) (hr : -2147483648 ≤ v ∧ v ≤ 2147483647) : hpInv (hpw σ 207 i v) := by
  by_cases e : i % 15 = 0
  · exact h.w (bh_207 e) (hv e).1 (hv e).2
  · exact h.w (bn_207 e) hr.1 hr.2
theorem hpInv.h202 {σ : hpMem} (h : hpInv σ) (i : Nat) : i % 701 ≠ 0 ∨ (0 ≤ σ 202 i ∧ σ 202 i ≤ 700) := by
  by_cases e : i % 701 = 0
  · exact Or.inr (h.b (bh_202 e))
  · exact Or.inl e
theorem rk_17 {i : Nat} (hi : i < 20) : hpkd (144 + i) = 11 ∧ hpln (144 + i) = 17 ∧ ∀ j, hpbo (144 + i) j = (-2147483648, 2147483647) := by
  have h : ∀ i, i < 20 → hpkd (144 + i) = 11 ∧ hpln (144 + i) = 17 ∧ hpBc.getD (144 + i) 20 = 20 := by decide +kernel
  obtain ⟨h1, h2, h3⟩ := h i hi
  refine ⟨h1, h2, fun j => ?_⟩
  unfold hpbo
  rw [h1, if_neg (by decide), h3]
  rfl
theorem rq_17 {i : Nat} : hprf 143 i = 144 + i := by unfold hprf; rw [show hpkd 143 = 17 by decide +kernel]; rfl
theorem hpsL_le {i : Nat} (hi : i < 16) : hpsL i ≤ 4 := (by decide : ∀ i, i < 16 → hpsL i ≤ 4) i hi
theorem rk_15 {k i : Nat} (hk : hpkd k = 4) (hi : i < 17) : hpkd (k + 2 + 3 * i) = 3 := (by decide +kernel : ∀ k, k < 217 → hpkd k = 4 → ∀ i, i < 17 → hpkd (k + 2 + 3 * i) = 3) k (hpkd_lt hk (by decide)) hk i hi
theorem rq_15 {k i : Nat} (hk : hpkd k = 4) : hprf (k + 1) i = k + 2 + 3 * i := by unfold hprf; rw [fa_4_0 hk, if_pos rfl]
theorem rk_14 {i : Nat} (hi : i < 3) : hpkd (169 + 6 * i) = 1 := (by decide +kernel : ∀ i, i < 3 → hpkd (169 + 6 * i) = 1) i hi
theorem rq_14 {i : Nat} : hprf 15 i = 169 + 6 * i := by unfold hprf; rw [kd_15]; rfl
theorem rk_16 {i : Nat} (hi : i < 4) : hpkd (187 + 2 * i) = 6 := (by decide +kernel : ∀ i, i < 4 → hpkd (187 + 2 * i) = 6) i hi
theorem rq_16 {i : Nat} : hprf 16 i = 187 + 2 * i := by unfold hprf; rw [kd_16]; rfl

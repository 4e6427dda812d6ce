section HPSR
variable {p : Program} {l : Launch} {e : Env} {R : Room} {s : State} {m : MethodId} {args : Array Value} {below : List Frame} {meth : Method} {c : Code} {cells slots nL : Nat} {D : va_G} {cy : Nat → ClassId} {z : Nat} {H0 : Heap} {Q : State → Prop} {σ : hpMem} {pc : Nat} {lv lv' : List (Nat × Value)} {st : List Value} {cc : ByteArray} {own : String}
theorem h_ldcS (C : hpC p s m args c cc nL own D cy) (Z : hpStr z cy s s.heap) {i : Nat} (hi : i < 16) (ho : hpsO i = own) (d : decode cc pc = .ok (.ldc (hpsI i), 2)) (k : hpV p l e R s m args below meth c cells slots nL D cy z s.heap Q σ (pc + 2) lv (.ref (cy (1000 + i)) :: st)) : hpV p l e R s m args below meth c cells slots nL D cy z s.heap Q σ pc lv st := fun H locs ls hl hP hS => va_ldcS C.1 C.2.1 C.2.2.2.1 (by have q := (Z.2.2 i hi).1; rw [ho] at q; exact q) d (k H locs ls hl hP hS)
theorem h_sCoder (C : hpC p s m args c cc nL own D cy) (Z : hpStr z cy s s.heap) {i idx : Nat} (hi : i < 16) (hw : Cond.fieldLink own idx "java/lang/String" "coder" "B" ∈ hpT) (d : decode cc pc = .ok (.getfield idx, 3)) (k : hpV p l e R s m args below meth c cells slots nL D cy z s.heap Q σ (pc + 3) lv (.int (hpI 0) :: st)) : hpV p l e R s m args below meth c cells slots nL D cy z s.heap Q σ pc lv (.ref (cy (1000 + i)) :: st) := fun H locs ls hl hP hS => vk_getf C.1 C.2.1 (Z.2.2 i hi).2.2.1 hS C.2.2.2.1 (C.2.2.2.2.1 _ hw) (fun _ h => h) d (by have q := k H locs ls hl hP hS; rw [hpI_0] at q; exact q)
theorem h_sValue (C : hpC p s m args c cc nL own D cy) (Z : hpStr z cy s s.heap) {i idx : Nat} (hi : i < 16) (hw : Cond.fieldLink own idx "java/lang/String" "value" "[B" ∈ hpT) (d : decode cc pc = .ok (.getfield idx, 3)) (k : hpV p l e R s m args below meth c cells slots nL D cy z s.heap Q σ (pc + 3) lv (.ref (cy (1100 + i)) :: st)) : hpV p l e R s m args below meth c cells slots nL D cy z s.heap Q σ pc lv (.ref (cy (1000 + i)) :: st) := fun H locs ls hl hP hS => vk_getf C.1 C.2.1 (Z.2.2 i hi).2.2.2.1 hS C.2.2.2.1 (C.2.2.2.2.1 _ hw) (fun _ h => h) d (k H locs ls hl hP hS)
theorem h_sLen (C : hpC p s m args c cc nL own D cy) (Z : hpStr z cy s s.heap) {i : Nat} (hi : i < 16) (d : decode cc pc = .ok (.arraylength, 1)) (k : hpV p l e R s m args below meth c cells slots nL D cy z s.heap Q σ (pc + 1) lv (.int (hpI (hpsL i : Int)) :: st)) : hpV p l e R s m args below meth c cells slots nL D cy z s.heap Q σ pc lv (.ref (cy (1100 + i)) :: st) := fun H locs ls hl hP hS => va_tlen C.1 C.2.1 (Z.2.2 i hi).2.2.2.2 hS (v := hpI (hpsL i : Int)) (show Int32.ofNat (hpsL i) = hpI (hpsL i : Int) from Int32.ofInt_eq_ofNat.symm) d (k H locs ls hl hP hS)
theorem h_sByte (C : hpC p s m args c cc nL own D cy) (Z : hpStr z cy s s.heap) {i : Nat} {a : Int} (hi : i < 16) (hn : hpsL i < 2147483648) (h0 : 0 ≤ a) (h1 : a < (hpsL i : Int)) (d : decode cc pc = .ok (.baload, 1)) (k : hpV p l e R s m args below meth c cells slots nL D cy z s.heap Q σ (pc + 1) lv (.int (hpsB i a.toNat) :: st)) : hpV p l e R s m args below meth c cells slots nL D cy z s.heap Q σ pc lv (.int (hpI a) :: .ref (cy (1100 + i)) :: st) := fun H locs ls hl hP hS => va_tb C.1 C.2.1 (Z.2.2 i hi).2.2.2.2 hS (hpI_in h0 h1 hn) (by rw [hpI_clamp ⟨by omega, by omega⟩]) d (k H locs ls hl hP hS)
theorem hp_raw {x : Int32} (k : hpV p l e R s m args below meth c cells slots nL D cy z H0 Q σ pc lv (.int (hpI x.toInt) :: st)) : hpV p l e R s m args below meth c cells slots nL D cy z H0 Q σ pc lv (.int x :: st) := by rw [hpI_of] at k; exact k
theorem h_iandw (C : hpC p s m args c cc nL own D cy) {x y : Int32} (d : decode cc pc = .ok (.iand, 1)) (k : hpV p l e R s m args below meth c cells slots nL D cy z H0 Q σ (pc + 1) lv (.int (x &&& y) :: st)) : hpV p l e R s m args below meth c cells slots nL D cy z H0 Q σ pc lv (.int y :: .int x :: st) := fun H locs ls hl hP hS => lv_iand C.1 C.2.1 d (k H locs ls hl hP hS)
theorem h_i2cw (C : hpC p s m args c cc nL own D cy) {x : Int32} (d : decode cc pc = .ok (.i2c, 1)) (k : hpV p l e R s m args below meth c cells slots nL D cy z H0 Q σ (pc + 1) lv (.int (x.toUInt32 % 65536).toInt32 :: st)) : hpV p l e R s m args below meth c cells slots nL D cy z H0 Q σ pc lv (.int x :: st) := fun H locs ls hl hP hS => lv_i2c C.1 C.2.1 d rfl (k H locs ls hl hP hS)
theorem h_sCS (C : hpC p s m args c cc nL own D cy) (Z : hpStr z cy s s.heap) {idx : Nat} (hw : Cond.fieldLink own idx "java/lang/String" "COMPACT_STRINGS" "Z" ∈ hpT) (d : decode cc pc = .ok (.getstatic idx, 3)) (k : hpV p l e R s m args below meth c cells slots nL D cy z s.heap Q σ (pc + 3) lv (.int (hpI 1) :: st)) : hpV p l e R s m args below meth c cells slots nL D cy z s.heap Q σ pc lv st := fun H locs ls hl hP hS => va_gets C.1 C.2.1 Z.1 hS C.2.2.2.1 (C.2.2.2.2.1 _ hw) (fun _ h => h) d (by have q := k H locs ls hl hP hS; rw [show hpI 1 = 1 by decide] at q; exact q)
theorem h_sSF (C : hpC p s m args c cc nL own D cy) (Z : hpStr z cy s s.heap) {idx : Nat} (hw : Cond.fieldLink own idx "jdk/internal/util/Preconditions" "SIOOBE_FORMATTER" "Ljava/util/function/BiFunction;" ∈ hpT) (d : decode cc pc = .ok (.getstatic idx, 3)) (k : ∀ v : Value, (v = .null ∨ ∃ t : Nat, v = .ref t) → hpV p l e R s m args below meth c cells slots nL D cy z s.heap Q σ (pc + 3) lv (v :: st)) : hpV p l e R s m args below meth c cells slots nL D cy z s.heap Q σ pc lv st := fun H locs ls hl hP hS => by
  rcases Z.2.1 with h | ⟨t, h⟩
  · exact va_gets C.1 C.2.1 h hS C.2.2.2.1 (C.2.2.2.2.1 _ hw) (fun _ h => h) d (k _ (Or.inl rfl) H locs ls hl hP hS)
  · exact va_gets C.1 C.2.1 h hS C.2.2.2.1 (C.2.2.2.2.1 _ hw) (fun _ h => h) d (k _ (Or.inr ⟨t, rfl⟩) H locs ls hl hP hS)
theorem h_nreturn {post : Option Value → hpMem → Prop} {ty : FieldType} (C : hpC p s m args c cc nL own D cy) {a : Int} (hn : narrow ty (.int (hpI a)) = .int (hpI a)) (hr : meth.sig.returnType = some ty) (hk : meth.locks = false) (d : decode cc pc = .ok (.ireturn, 1)) (hp : post (some (.int (hpI a))) σ) : hpV p l e R s m args below meth c cells slots nL D cy z s.heap (MQ below (hpQ D cy z post) args s cells slots (fun q => z ≤ q)) σ pc lv ([.int (hpI a)]) := fun H locs ls hl hP hS => W.zret C.1 C.2.1 hr hn (fun t ht _ => ⟨⟨_, σ, rfl, hp, by rw [ht]; exact hP⟩, hS.F ht⟩) (fun q hq => hS.2.2 q hq) d hk
theorem hp_shr0 (x : Int32) : x >>> (hpI 0 &&& 31) = x := by
  rw [show (hpI 0 &&& 31 : Int32) = 0 by decide]
  simp
theorem h_ishr0 (C : hpC p s m args c cc nL own D cy) {a : Int} (d : decode cc pc = .ok (.ishr, 1)) (k : hpV p l e R s m args below meth c cells slots nL D cy z H0 Q σ (pc + 1) lv (.int (hpI a) :: st)) : hpV p l e R s m args below meth c cells slots nL D cy z H0 Q σ pc lv (.int (hpI 0) :: .int (hpI a) :: st) := fun H locs ls hl hP hS => lv_ishr C.1 C.2.1 d (by rw [hp_shr0]; exact k H locs ls hl hP hS)
theorem h_iushr_any (C : hpC p s m args c cc nL own D cy) {x y : Int32} (d : decode cc pc = .ok (.iushr, 1)) (k : ∀ r : Int, hpR r → hpV p l e R s m args below meth c cells slots nL D cy z H0 Q σ (pc + 1) lv (.int (hpI r) :: st)) : hpV p l e R s m args below meth c cells slots nL D cy z H0 Q σ pc lv (.int y :: .int x :: st) := fun H locs ls hl hP hS => lv_iushr C.1 C.2.1 d rfl (hp_anyI k H locs ls hl hP hS)
theorem hp_charn (x : Int32) : 0 ≤ ((x.toUInt32 % 65536).toInt32).toInt ∧ ((x.toUInt32 % 65536).toInt32).toInt < 65536 := by
  have h : (x.toUInt32 % 65536).toNat < 65536 := by
    rw [UInt32.toNat_mod]
    exact Nat.mod_lt _ (by decide)
  have e : ((x.toUInt32 % 65536).toInt32).toInt = ((x.toUInt32 % 65536).toNat : Int) := by
    show ((x.toUInt32 % 65536).toBitVec).toInt = _
    rw [BitVec.toInt_eq_toNat_cond]
    have q : (x.toUInt32 % 65536).toBitVec.toNat = (x.toUInt32 % 65536).toNat := rfl
    rw [if_pos (by omega)]
    rfl
  omega
def hpsC (i j : Nat) : Int := (((hpsB i j &&& hpI 255).toUInt32 % 65536).toInt32).toInt
theorem hpsC_b (i j : Nat) : 0 ≤ hpsC i j ∧ hpsC i j < 65536 := hp_charn _
theorem h_i2c (C : hpC p s m args c cc nL own D cy) {x : Int32} (d : decode cc pc = .ok (.i2c, 1)) (k : ∀ r : Int, 0 ≤ r → r < 65536 → hpV p l e R s m args below meth c cells slots nL D cy z H0 Q σ (pc + 1) lv (.int (hpI r) :: st)) : hpV p l e R s m args below meth c cells slots nL D cy z H0 Q σ pc lv (.int x :: st) := fun H locs ls hl hP hS => lv_i2c C.1 C.2.1 d rfl (by have q := hp_charn x; have h := k _ q.1 q.2 H locs ls hl hP hS; rw [hpI_of] at h; exact h)
theorem hp_narc {a : Int} (h0 : 0 ≤ a) (h1 : a < 65536) : narrow .char (.int (hpI a)) = .int (hpI a) := by
  have e : ((hpI a).toUInt32 % 65536).toInt32 = hpI a := by
    rw [← Int32.toInt_inj]
    have hv : (hpI a).toInt = a := hpI_toInt ⟨by omega, by omega⟩
    have hn : ((hpI a).toBitVec.toNat : Int) = a := by
      have := hp_nn (x := hpI a) (by omega)
      omega
    have h : (hpI a).toUInt32.toNat = (hpI a).toBitVec.toNat := rfl
    have e : (((hpI a).toUInt32 % 65536).toInt32).toInt = (((hpI a).toUInt32 % 65536).toNat : Int) := by
      show (((hpI a).toUInt32 % 65536).toBitVec).toInt = _
      have h2 : ((hpI a).toUInt32 % 65536).toNat < 65536 := by
        rw [UInt32.toNat_mod]
        exact Nat.mod_lt _ (by decide)
      rw [BitVec.toInt_eq_toNat_cond]
      have q : ((hpI a).toUInt32 % 65536).toBitVec.toNat = ((hpI a).toUInt32 % 65536).toNat := rfl
      rw [if_pos (by omega)]
      rfl
    rw [e, UInt32.toNat_mod, h, hv]
    show (((hpI a).toBitVec.toNat % 65536 : Nat) : Int) = a
    omega
  show Value.int (((hpI a).toUInt32 % 65536).toInt32) = _
  rw [e]
theorem h_mabs {idx : Nat} {x : Int64} (C : hpC p s m args c cc nL own D cy) (w1 : Cond.methodLink own idx Lib.MathLoose.abs_long.x ∈ hpT) (w2 : Cond.static Lib.MathLoose.abs_long.x ∈ hpT) (w3 : Cond.code Lib.MathLoose.abs_long.x Lib.MathLoose.abs_long.code 2 (some .long) ∈ hpT) (w4 : Cond.initialized "java/lang/Math" ∈ hpT) (d : decode cc pc = .ok (.invokestatic idx, 3)) (hf : 1 ≤ R.frames) (hlo : (st.map fun v => v.category).sum + 13 ≤ R.locals) (hcs : cells ≤ R.cells ∧ slots ≤ R.slots) (k : ∀ r : Int, hpRL r → hpV p l e R s m args below meth c cells slots nL D cy z H0 Q σ (pc + 3) lv (.long (hpJ r) :: st)) : hpV p l e R s m args below meth c cells slots nL D cy z H0 Q σ pc lv (.long x :: st) := fun H locs ls hl hP hS => va_mabs_long C.1 C.2.1 (C.2.2.1.trans hl.1.symm) C.2.2.2.1 (C.2.2.2.2.1 _ w1) (C.2.2.2.2.1 _ w2) (C.2.2.2.2.1 _ w4) (C.2.2.2.2.1 _ w3) hf hlo hcs.1 hcs.2 d (hp_anyL k H locs ls hl hP hS)
/-- an array of arrays -/
theorem h_aaloadA {a : Int} {k k' : Nat} (C : hpC p s m args c cc nL own D cy) (d : decode cc pc = .ok (.aaload, 1)) (hk : hpkd k = 17) (i : Nat) (hi : (i : Int) = a) (h : i < hpln k) (hb : hprf k i = k') (kk : hpV p l e R s m args below meth c cells slots nL D cy z H0 Q σ (pc + 1) lv (.ref (z + k') :: st)) : hpV p l e R s m args below meth c cells slots nL D cy z H0 Q σ pc lv (.int (hpI a) :: .ref (z + k) :: st) := fun H locs ls hl hP hS => by
  have hin : vp_in (hpI a) (hpln k) := hp_ix hi h (hp_lnb k)
  have hlt : (hpI a).toNatClampNeg < hpln k := Nat.not_le.mp fun q => hin (Or.inr q)
  refine W.aald (v := .ref (z + k')) (ty := .array .int) C.1 C.2.1 (hP k _ (hp_arrQ hk (by decide) (by decide))) ((C.2.2.2.2.2.2.2 7 _ rfl).1 (hpln k) (fun j => va_rf (some (z + hprf k j)))) rfl (fun q => by cases q) (by show ¬ (hpI a < 0 ∨ (arrV _ _ _).slots.size ≤ _); rw [arrV_size]; exact hin) (by show (arrV _ _ _).slots[_]? = _; rw [arrV_read _ _ hlt, hp_ixn hi h (hp_lnb k)]; subst hb; rfl) rfl rfl d (kk H locs ls hl hP hS)
def hpShr (a b : Int) : Int := (hpI a >>> (hpI b &&& 31)).toInt
theorem h_ishrx (C : hpC p s m args c cc nL own D cy) {a b : Int} (d : decode cc pc = .ok (.ishr, 1)) (k : hpV p l e R s m args below meth c cells slots nL D cy z H0 Q σ (pc + 1) lv (.int (hpI (hpShr a b)) :: st)) : hpV p l e R s m args below meth c cells slots nL D cy z H0 Q σ pc lv (.int (hpI b) :: .int (hpI a) :: st) := fun H locs ls hl hP hS => lv_ishr C.1 C.2.1 d (by have q := k H locs ls hl hP hS; unfold hpShr at q; rw [hpI_of] at q; exact q)
theorem hpShr_b (a b : Int) : -2147483648 ≤ hpShr a b ∧ hpShr a b ≤ 2147483647 := by
  have q := hpR_of (hpI a >>> (hpI b &&& 31))
  have q1 := q.1
  have q2 := q.2
  unfold hpShr
  omega
def hpShl (a b : Int) : Int := (hpI a <<< (hpI b &&& 31)).toInt
theorem h_ishlx (C : hpC p s m args c cc nL own D cy) {a b : Int} (d : decode cc pc = .ok (.ishl, 1)) (k : hpV p l e R s m args below meth c cells slots nL D cy z H0 Q σ (pc + 1) lv (.int (hpI (hpShl a b)) :: st)) : hpV p l e R s m args below meth c cells slots nL D cy z H0 Q σ pc lv (.int (hpI b) :: .int (hpI a) :: st) := fun H locs ls hl hP hS => lv_ishl C.1 C.2.1 d (by have q := k H locs ls hl hP hS; unfold hpShl at q; rw [hpI_of] at q; exact q)
theorem hpShl_b (a b : Int) : -2147483648 ≤ hpShl a b ∧ hpShl a b ≤ 2147483647 := by
  have q := hpR_of (hpI a <<< (hpI b &&& 31))
  have q1 := q.1
  have q2 := q.2
  unfold hpShl
  omega
def hpAnd (a b : Int) : Int := (hpI a &&& hpI b).toInt
theorem h_iandx (C : hpC p s m args c cc nL own D cy) {a b : Int} (d : decode cc pc = .ok (.iand, 1)) (k : hpV p l e R s m args below meth c cells slots nL D cy z H0 Q σ (pc + 1) lv (.int (hpI (hpAnd a b)) :: st)) : hpV p l e R s m args below meth c cells slots nL D cy z H0 Q σ pc lv (.int (hpI b) :: .int (hpI a) :: st) := fun H locs ls hl hP hS => lv_iand C.1 C.2.1 d (by have q := k H locs ls hl hP hS; unfold hpAnd at q; rw [hpI_of] at q; exact q)
theorem hpAnd_b (a : Int) : 0 ≤ hpAnd a 1 ∧ hpAnd a 1 ≤ 1 := by
  have q := hp_andle (x := hpI a) (y := hpI 1) (by decide)
  rw [show (hpI 1).toInt = 1 by decide] at q
  exact q
theorem hp_remv {a b : Int} (ha : hpRL a) (hb : hpRL b) : hpJ a - hpJ a / hpJ b * hpJ b = hpJ (a.tmod b) := by
  have e : hpJ a / hpJ b = hpJ (a.tdiv b) := ((Int64.ofInt_eq_iff_bmod_eq_toInt (a.tdiv b) (hpJ a / hpJ b)).mpr (by rw [Int64.toInt_div, hpJ_toInt ha, hpJ_toInt hb])).symm
  rw [e, hpJ_mul, show hpJ a - hpJ (a.tdiv b * b) = hpJ (a - a.tdiv b * b) from (Int64.ofInt_sub _ _).symm, Int.tmod_def, Int.mul_comm b]
theorem hp_rem {a b : Int} (h : b ≠ 0) : (a.tmod b).natAbs < b.natAbs := by
  rw [Int.natAbs_tmod]
  exact Nat.mod_lt _ (by omega)
theorem h_lremx (C : hpC p s m args c cc nL own D cy) {a b : Int} (d : decode cc pc = .ok (.lrem, 1)) (ra : hpRL a) (rb : hpRL b) (hb : b ≠ 0) (k : ∀ r : Int, hpRL r → r.natAbs < b.natAbs → hpV p l e R s m args below meth c cells slots nL D cy z H0 Q σ (pc + 1) lv (.long (hpJ r) :: st)) : hpV p l e R s m args below meth c cells slots nL D cy z H0 Q σ pc lv (.long (hpJ b) :: .long (hpJ a) :: st) := fun H locs ls hl hP hS => lv_lrem C.1 C.2.1 d (hpJ_ne0 rb hb) (by have g := hp_rem (a := a) hb; have g1 := rb.1; have g2 := rb.2; have q := k _ ⟨by omega, by omega⟩ g H locs ls hl hP hS; rw [hp_remv ra rb]; exact q)
def hpYO (y : MethodName) (bytes : ByteArray) (maxL : Nat) (ret : Option FieldType) (n : Nat) : Prop := Cond.instanceMethod y ∈ hpT ∧ Cond.selects y.cls y y ∈ hpT ∧ Cond.initialized y.cls ∈ hpT ∧ Cond.code y bytes maxL ret ∈ hpT ∧ y.cls ≠ "java/lang/invoke/MethodHandle" ∧ y.cls ≠ "java/lang/invoke/VarHandle" ∧ (parseMethodDescriptor y.desc).map (fun d => d.parameters.length) = some n
theorem h_callO {y : MethodName} {bytes : ByteArray} {maxL : Nat} {ret : Option FieldType} {rm : Room} {q n idx : Nat} {As rest : List Value} {post : Option Value → hpMem → Prop} (C : hpC p s m args c cc nL own D cy) (Z : hpStr z cy s s.heap) (Y : hpYO y bytes maxL ret n) (w : Cond.methodLink own idx y ∈ hpT) (hM : hpM l D cy z y bytes maxL ret rm (.ref q :: As) σ post) (hq : va_O y.cls q (fun a => z ≤ a) s s.heap) (hn : As.length = n) (hst : st = As.reverse ++ .ref q :: rest) (hR : rm.cells = 0 ∧ rm.slots = 0 ∧ rm.frames + 1 ≤ R.frames ∧ 8 + (maxL + 11) + rm.locals ≤ R.locals) (hf : cells ≤ R.cells ∧ slots ≤ R.slots) (hw8 : (rest.map fun v => v.category).sum ≤ 8) (d : decode cc pc = .ok (.invokevirtual idx, 3)) (kk : ∀ (r : Option Value) (τ : hpMem), post r τ → hpV p l e R s m args below meth c cells slots nL D cy z s.heap Q τ (pc + 3) lv (r.toList ++ rest)) : hpV p l e R s m args below meth c cells slots nL D cy z s.heap Q σ pc lv st := fun H locs ls hl hP hS => by
  obtain ⟨y1, y2, y3, y4, y5, y6, y7⟩ := Y
  have hts : ∀ w ∈ (Cond.initialized y.cls :: hpT), w.before args s = true := fun w hw => by
    rcases List.mem_cons.mp hw with h | h
    · subst h; exact C.2.2.2.2.1 _ y3
    · exact C.2.2.2.2.1 _ h
  have hrecv : ∃ cellB : Cell, H[q]? = some cellB ∧ cellB.vm.isStatics = false ∧ s.vm.findClass y.cls = some cellB.cls := by
    obtain ⟨cell, h1, h2, h3, -⟩ := hq.kept hS.2.1
    exact ⟨cell, h1, h2, h3⟩
  refine hp_run (y := y) (bytes := bytes) (maxL := maxL) (ret := ret) (rm := rm) hl hS (va_runV (C := y.cls) (Ts := Cond.initialized y.cls :: hpT) (As := As) (rest := rest) ⟨C.1, C.2.1, C.2.2.1, C.2.2.2.1, hts⟩ hM (cwV n hts ?_ rfl hR.1 hR.2.1 ⟨rfl, y5, y6, y7⟩ hR.2.2) ⟨hp_blind, hrecv, fun U hU hW => ⟨rfl, by rw [hU]; exact hP, va_K.moved hW.alike C.2.2.2.2.2.2, C.2.2.2.2.2.1.warm hW, hpStr.go hW hU hS Z⟩⟩ rfl hn hl.1 hst (lv_room hw8) d hf) kk
  intro w' hw'
  unfold wsV at hw'
  rcases List.mem_append.mp hw' with h | h
  · simp only [List.mem_cons, List.not_mem_nil, or_false] at h
    rcases h with h | h | h | h <;> (subst h; exact hp_goodT _ (by assumption))
  · exact hp_good y4 _ h
theorem h_callG {y : MethodName} {bytes : ByteArray} {maxL : Nat} {ret : Option FieldType} {rm : Room} {n idx : Nat} {As rest : List Value} {post : Option Value → hpMem → Prop} (C : hpC p s m args c cc nL own D cy) (Z : hpStr z cy s s.heap) (Y : hpYS y bytes maxL ret n) (w : Cond.methodLink own idx y ∈ hpT) (hM : hpM l D cy z y bytes maxL ret rm As σ post) (hn : As.length = n) (hst : st = As.reverse ++ rest) (hR : rm.cells = 0 ∧ rm.slots = 0 ∧ rm.frames + 1 ≤ R.frames ∧ 8 + (maxL + 11) + rm.locals ≤ R.locals) (hf : cells ≤ R.cells ∧ slots ≤ R.slots) (hw8 : (rest.map fun v => v.category).sum ≤ 8) (d : decode cc pc = .ok (.invokestatic idx, 3)) (kk : ∀ (r : Option Value) (τ : hpMem), post r τ → hpV p l e R s m args below meth c cells slots nL D cy z s.heap Q τ (pc + 3) lv (r.toList ++ rest)) : hpV p l e R s m args below meth c cells slots nL D cy z s.heap Q σ pc lv st := fun H locs ls hl hP hS => by
  obtain ⟨y1, y3, y4, y5, y6, y7⟩ := Y
  have hts : ∀ w ∈ (Cond.initialized y.cls :: hpT), w.before args s = true := fun w hw => by
    rcases List.mem_cons.mp hw with h | h
    · subst h; exact C.2.2.2.2.1 _ y3
    · exact C.2.2.2.2.1 _ h
  exact hp_run (y := y) (bytes := bytes) (maxL := maxL) (ret := ret) (rm := rm) hl hS (va_runS (Ts := Cond.initialized y.cls :: hpT) (As := As) (rest := rest) ⟨C.1, C.2.1, C.2.2.1, C.2.2.2.1, hts⟩ hM ⟨callB_of n hts (hp_good y4) rfl hR.1 hR.2.1 (C.2.2.2.2.1 _ y3) (C.2.2.2.2.1 _ w) ⟨y5, y6, y7⟩ hR.2.2, C.2.2.2.2.1 _ y1⟩ ⟨hp_blind, fun U hU hW => ⟨rfl, by rw [hU]; exact hP, va_K.moved hW.alike C.2.2.2.2.2.2, C.2.2.2.2.2.1.warm hW, hpStr.go hW hU hS Z⟩⟩ rfl hn hl.1 hst (lv_room hw8) d hf) kk
end HPSR
theorem wd_11 : Cond.initialized "java/lang/String" ∈ hpT := hpT_of 11 (by decide +kernel) (by decide +kernel)
theorem wd_12 : Cond.initialized "java/lang/StringLatin1" ∈ hpT := hpT_of 12 (by decide +kernel) (by decide +kernel)
theorem wd_13 : Cond.initialized "jdk/internal/util/Preconditions" ∈ hpT := hpT_of 13 (by decide +kernel) (by decide +kernel)
theorem wd_17 : Cond.initialized "java/lang/Integer" ∈ hpT := hpT_of 17 (by decide +kernel) (by decide +kernel)
theorem wd_449 : Cond.instanceMethod (⟨"java/lang/String", "length", "()I"⟩ : MethodName) ∈ hpT := hpT_of 449 (by decide +kernel) (by decide +kernel)
theorem wd_450 : Cond.selects "java/lang/String" (⟨"java/lang/String", "length", "()I"⟩ : MethodName) (⟨"java/lang/String", "length", "()I"⟩ : MethodName) ∈ hpT := hpT_of 450 (by decide +kernel) (by decide +kernel)
theorem wd_451 : Cond.code (⟨"java/lang/String", "length", "()I"⟩ : MethodName) prog_14_method_54_code 1 (some FieldType.int) ∈ hpT := hpT_of 451 (by decide +kernel) (by decide +kernel)
theorem wd_452 : Cond.methodLink "java/lang/String" 335 (⟨"java/lang/String", "coder", "()B"⟩ : MethodName) ∈ hpT := hpT_of 452 (by decide +kernel) (by decide +kernel)
theorem wd_453 : Cond.instanceMethod (⟨"java/lang/String", "coder", "()B"⟩ : MethodName) ∈ hpT := hpT_of 453 (by decide +kernel) (by decide +kernel)
theorem wd_454 : Cond.selects "java/lang/String" (⟨"java/lang/String", "coder", "()B"⟩ : MethodName) (⟨"java/lang/String", "coder", "()B"⟩ : MethodName) ∈ hpT := hpT_of 454 (by decide +kernel) (by decide +kernel)
theorem wd_455 : Cond.code (⟨"java/lang/String", "coder", "()B"⟩ : MethodName) prog_14_method_152_code 1 (some FieldType.byte) ∈ hpT := hpT_of 455 (by decide +kernel) (by decide +kernel)
theorem wd_456 : Cond.fieldLink "java/lang/String" 38 "java/lang/String" "COMPACT_STRINGS" "Z" ∈ hpT := hpT_of 456 (by decide +kernel) (by decide +kernel)
theorem wd_459 : Cond.instanceMethod (⟨"java/lang/String", "charAt", "(I)C"⟩ : MethodName) ∈ hpT := hpT_of 459 (by decide +kernel) (by decide +kernel)
theorem wd_460 : Cond.selects "java/lang/String" (⟨"java/lang/String", "charAt", "(I)C"⟩ : MethodName) (⟨"java/lang/String", "charAt", "(I)C"⟩ : MethodName) ∈ hpT := hpT_of 460 (by decide +kernel) (by decide +kernel)
theorem wd_461 : Cond.code (⟨"java/lang/String", "charAt", "(I)C"⟩ : MethodName) prog_14_method_56_code 2 (some FieldType.char) ∈ hpT := hpT_of 461 (by decide +kernel) (by decide +kernel)
theorem wd_462 : Cond.methodLink "java/lang/String" 492 (⟨"java/lang/String", "isLatin1", "()Z"⟩ : MethodName) ∈ hpT := hpT_of 462 (by decide +kernel) (by decide +kernel)
theorem wd_463 : Cond.instanceMethod (⟨"java/lang/String", "isLatin1", "()Z"⟩ : MethodName) ∈ hpT := hpT_of 463 (by decide +kernel) (by decide +kernel)
theorem wd_464 : Cond.selects "java/lang/String" (⟨"java/lang/String", "isLatin1", "()Z"⟩ : MethodName) (⟨"java/lang/String", "isLatin1", "()Z"⟩ : MethodName) ∈ hpT := hpT_of 464 (by decide +kernel) (by decide +kernel)
theorem wd_465 : Cond.code (⟨"java/lang/String", "isLatin1", "()Z"⟩ : MethodName) prog_14_method_154_code 1 (some FieldType.boolean) ∈ hpT := hpT_of 465 (by decide +kernel) (by decide +kernel)
theorem wd_466 : Cond.methodLink "java/lang/String" 495 (⟨"java/lang/StringLatin1", "charAt", "([BI)C"⟩ : MethodName) ∈ hpT := hpT_of 466 (by decide +kernel) (by decide +kernel)
theorem wd_467 : Cond.static (⟨"java/lang/StringLatin1", "charAt", "([BI)C"⟩ : MethodName) ∈ hpT := hpT_of 467 (by decide +kernel) (by decide +kernel)
theorem wd_468 : Cond.code (⟨"java/lang/StringLatin1", "charAt", "([BI)C"⟩ : MethodName) prog_15_method_2_code 2 (some FieldType.char) ∈ hpT := hpT_of 468 (by decide +kernel) (by decide +kernel)
theorem wd_469 : Cond.methodLink "java/lang/StringLatin1" 9 (⟨"java/lang/String", "checkIndex", "(II)V"⟩ : MethodName) ∈ hpT := hpT_of 469 (by decide +kernel) (by decide +kernel)
theorem wd_470 : Cond.static (⟨"java/lang/String", "checkIndex", "(II)V"⟩ : MethodName) ∈ hpT := hpT_of 470 (by decide +kernel) (by decide +kernel)
theorem wd_471 : Cond.code (⟨"java/lang/String", "checkIndex", "(II)V"⟩ : MethodName) prog_14_method_155_code 2 (none : Option FieldType) ∈ hpT := hpT_of 471 (by decide +kernel) (by decide +kernel)
theorem wd_472 : Cond.fieldLink "java/lang/String" 1053 "jdk/internal/util/Preconditions" "SIOOBE_FORMATTER" "Ljava/util/function/BiFunction;" ∈ hpT := hpT_of 472 (by decide +kernel) (by decide +kernel)
theorem wd_474 : Cond.methodLink "java/lang/String" 1059 (⟨"jdk/internal/util/Preconditions", "checkIndex", "(IILjava/util/function/BiFunction;)I"⟩ : MethodName) ∈ hpT := hpT_of 474 (by decide +kernel) (by decide +kernel)
theorem wd_475 : Cond.static (⟨"jdk/internal/util/Preconditions", "checkIndex", "(IILjava/util/function/BiFunction;)I"⟩ : MethodName) ∈ hpT := hpT_of 475 (by decide +kernel) (by decide +kernel)
theorem wd_476 : Cond.code (⟨"jdk/internal/util/Preconditions", "checkIndex", "(IILjava/util/function/BiFunction;)I"⟩ : MethodName) prog_18_method_11_code 3 (some FieldType.int) ∈ hpT := hpT_of 476 (by decide +kernel) (by decide +kernel)
theorem wd_1075 : Cond.static (⟨"java/lang/Integer", "bitCount", "(I)I"⟩ : MethodName) ∈ hpT := hpT_of 1075 (by decide +kernel) (by decide +kernel)
theorem wd_1076 : Cond.code (⟨"java/lang/Integer", "bitCount", "(I)I"⟩ : MethodName) prog_12_method_49_code 1 (some FieldType.int) ∈ hpT := hpT_of 1076 (by decide +kernel) (by decide +kernel)
theorem wd_1077 : Cond.constant "java/lang/Integer" 265 (1431655765 : Int32) ∈ hpT := hpT_of 1077 (by decide +kernel) (by decide +kernel)
theorem wd_1078 : Cond.constant "java/lang/Integer" 266 (858993459 : Int32) ∈ hpT := hpT_of 1078 (by decide +kernel) (by decide +kernel)
theorem wd_1079 : Cond.constant "java/lang/Integer" 267 (252645135 : Int32) ∈ hpT := hpT_of 1079 (by decide +kernel) (by decide +kernel)
theorem wd_2025 : Cond.fieldLink "java/lang/String" 9 "java/lang/String" "value" "[B" ∈ hpT := hpT_of 2025 (by decide +kernel) (by decide +kernel)
theorem wd_2026 : Cond.fieldLink "java/lang/String" 15 "java/lang/String" "coder" "B" ∈ hpT := hpT_of 2026 (by decide +kernel) (by decide +kernel)
theorem yyJ0_coder_7d493 : hpYO yJ0_coder_7d493 cJ0_coder_7d493 1 (some .byte) 0 := ⟨wd_453, wd_454, wd_11, wd_455, by decide +kernel, by decide +kernel, by decide +kernel⟩
theorem yyJ0_isLatin1_aae02 : hpYO yJ0_isLatin1_aae02 cJ0_isLatin1_aae02 1 (some .boolean) 0 := ⟨wd_463, wd_464, wd_11, wd_465, by decide +kernel, by decide +kernel, by decide +kernel⟩
theorem yyJ0_length_8abf5 : hpYO yJ0_length_8abf5 cJ0_length_8abf5 1 (some .int) 0 := ⟨wd_449, wd_450, wd_11, wd_451, by decide +kernel, by decide +kernel, by decide +kernel⟩
theorem yyJ0_charAt_5068e : hpYO yJ0_charAt_5068e cJ0_charAt_5068e 2 (some .char) 1 := ⟨wd_459, wd_460, wd_11, wd_461, by decide +kernel, by decide +kernel, by decide +kernel⟩
theorem yyJ1_charAt_3b067 : hpYS yJ1_charAt_3b067 cJ1_charAt_3b067 2 (some .char) 2 := ⟨wd_467, wd_12, wd_468, by decide +kernel, by decide +kernel, by decide +kernel⟩
theorem yyJ0_checkIndex_df160 : hpYS yJ0_checkIndex_df160 cJ0_checkIndex_df160 2 none 2 := ⟨wd_470, wd_11, wd_471, by decide +kernel, by decide +kernel, by decide +kernel⟩
theorem yyJ3_checkIndex_8e157 : hpYS yJ3_checkIndex_8e157 cJ3_checkIndex_8e157 3 (some .int) 3 := ⟨wd_475, wd_13, wd_476, by decide +kernel, by decide +kernel, by decide +kernel⟩
theorem yyJ6_bitCount_0f7a4 : hpYS yJ6_bitCount_0f7a4 cJ6_bitCount_0f7a4 1 (some .int) 1 := ⟨wd_1075, wd_17, wd_1076, by decide +kernel, by decide +kernel, by decide +kernel⟩
theorem dJ6_bitCount_0f7a4_0 : decode cJ6_bitCount_0f7a4 0 = .ok (.iload_n 0, 1) := by decide +kernel
theorem dJ6_bitCount_0f7a4_1 : decode cJ6_bitCount_0f7a4 1 = .ok (.iload_n 0, 1) := by decide +kernel
theorem dJ6_bitCount_0f7a4_2 : decode cJ6_bitCount_0f7a4 2 = .ok (.iconst 1, 1) := by decide +kernel
theorem dJ6_bitCount_0f7a4_3 : decode cJ6_bitCount_0f7a4 3 = .ok (.iushr, 1) := by decide +kernel
theorem dJ6_bitCount_0f7a4_4 : decode cJ6_bitCount_0f7a4 4 = .ok (.ldc_w 265, 3) := by decide +kernel
theorem dJ6_bitCount_0f7a4_7 : decode cJ6_bitCount_0f7a4 7 = .ok (.iand, 1) := by decide +kernel
theorem dJ6_bitCount_0f7a4_8 : decode cJ6_bitCount_0f7a4 8 = .ok (.isub, 1) := by decide +kernel
theorem dJ6_bitCount_0f7a4_9 : decode cJ6_bitCount_0f7a4 9 = .ok (.istore_n 0, 1) := by decide +kernel
theorem dJ6_bitCount_0f7a4_10 : decode cJ6_bitCount_0f7a4 10 = .ok (.iload_n 0, 1) := by decide +kernel
theorem dJ6_bitCount_0f7a4_11 : decode cJ6_bitCount_0f7a4 11 = .ok (.ldc_w 266, 3) := by decide +kernel
theorem dJ6_bitCount_0f7a4_14 : decode cJ6_bitCount_0f7a4 14 = .ok (.iand, 1) := by decide +kernel
theorem dJ6_bitCount_0f7a4_15 : decode cJ6_bitCount_0f7a4 15 = .ok (.iload_n 0, 1) := by decide +kernel
theorem dJ6_bitCount_0f7a4_16 : decode cJ6_bitCount_0f7a4 16 = .ok (.iconst 2, 1) := by decide +kernel
theorem dJ6_bitCount_0f7a4_17 : decode cJ6_bitCount_0f7a4 17 = .ok (.iushr, 1) := by decide +kernel
theorem dJ6_bitCount_0f7a4_18 : decode cJ6_bitCount_0f7a4 18 = .ok (.ldc_w 266, 3) := by decide +kernel
theorem dJ6_bitCount_0f7a4_21 : decode cJ6_bitCount_0f7a4 21 = .ok (.iand, 1) := by decide +kernel
theorem dJ6_bitCount_0f7a4_22 : decode cJ6_bitCount_0f7a4 22 = .ok (.iadd, 1) := by decide +kernel
theorem dJ6_bitCount_0f7a4_23 : decode cJ6_bitCount_0f7a4 23 = .ok (.istore_n 0, 1) := by decide +kernel
theorem dJ6_bitCount_0f7a4_24 : decode cJ6_bitCount_0f7a4 24 = .ok (.iload_n 0, 1) := by decide +kernel
theorem dJ6_bitCount_0f7a4_25 : decode cJ6_bitCount_0f7a4 25 = .ok (.iload_n 0, 1) := by decide +kernel
theorem dJ6_bitCount_0f7a4_26 : decode cJ6_bitCount_0f7a4 26 = .ok (.iconst 4, 1) := by decide +kernel
theorem dJ6_bitCount_0f7a4_27 : decode cJ6_bitCount_0f7a4 27 = .ok (.iushr, 1) := by decide +kernel
theorem dJ6_bitCount_0f7a4_28 : decode cJ6_bitCount_0f7a4 28 = .ok (.iadd, 1) := by decide +kernel
theorem dJ6_bitCount_0f7a4_29 : decode cJ6_bitCount_0f7a4 29 = .ok (.ldc_w 267, 3) := by decide +kernel
theorem dJ6_bitCount_0f7a4_32 : decode cJ6_bitCount_0f7a4 32 = .ok (.iand, 1) := by decide +kernel
theorem dJ6_bitCount_0f7a4_33 : decode cJ6_bitCount_0f7a4 33 = .ok (.istore_n 0, 1) := by decide +kernel
theorem dJ6_bitCount_0f7a4_34 : decode cJ6_bitCount_0f7a4 34 = .ok (.iload_n 0, 1) := by decide +kernel
theorem dJ6_bitCount_0f7a4_35 : decode cJ6_bitCount_0f7a4 35 = .ok (.iload_n 0, 1) := by decide +kernel
theorem dJ6_bitCount_0f7a4_36 : decode cJ6_bitCount_0f7a4 36 = .ok (.bipush 8, 2) := by decide +kernel
theorem dJ6_bitCount_0f7a4_38 : decode cJ6_bitCount_0f7a4 38 = .ok (.iushr, 1) := by decide +kernel
theorem dJ6_bitCount_0f7a4_39 : decode cJ6_bitCount_0f7a4 39 = .ok (.iadd, 1) := by decide +kernel
theorem dJ6_bitCount_0f7a4_40 : decode cJ6_bitCount_0f7a4 40 = .ok (.istore_n 0, 1) := by decide +kernel
theorem dJ6_bitCount_0f7a4_41 : decode cJ6_bitCount_0f7a4 41 = .ok (.iload_n 0, 1) := by decide +kernel
theorem dJ6_bitCount_0f7a4_42 : decode cJ6_bitCount_0f7a4 42 = .ok (.iload_n 0, 1) := by decide +kernel
theorem dJ6_bitCount_0f7a4_43 : decode cJ6_bitCount_0f7a4 43 = .ok (.bipush 16, 2) := by decide +kernel
theorem dJ6_bitCount_0f7a4_45 : decode cJ6_bitCount_0f7a4 45 = .ok (.iushr, 1) := by decide +kernel
theorem dJ6_bitCount_0f7a4_46 : decode cJ6_bitCount_0f7a4 46 = .ok (.iadd, 1) := by decide +kernel
theorem dJ6_bitCount_0f7a4_47 : decode cJ6_bitCount_0f7a4 47 = .ok (.istore_n 0, 1) := by decide +kernel
theorem dJ6_bitCount_0f7a4_48 : decode cJ6_bitCount_0f7a4 48 = .ok (.iload_n 0, 1) := by decide +kernel
theorem dJ6_bitCount_0f7a4_49 : decode cJ6_bitCount_0f7a4 49 = .ok (.bipush 63, 2) := by decide +kernel
theorem dJ6_bitCount_0f7a4_51 : decode cJ6_bitCount_0f7a4 51 = .ok (.iand, 1) := by decide +kernel
theorem dJ6_bitCount_0f7a4_52 : decode cJ6_bitCount_0f7a4 52 = .ok (.ireturn, 1) := by decide +kernel
theorem dJ0_length_8abf5_0 : decode cJ0_length_8abf5 0 = .ok (.aload_n 0, 1) := by decide +kernel
theorem dJ0_length_8abf5_1 : decode cJ0_length_8abf5 1 = .ok (.getfield 9, 3) := by decide +kernel
theorem dJ0_length_8abf5_4 : decode cJ0_length_8abf5 4 = .ok (.arraylength, 1) := by decide +kernel
theorem dJ0_length_8abf5_5 : decode cJ0_length_8abf5 5 = .ok (.aload_n 0, 1) := by decide +kernel
theorem dJ0_length_8abf5_6 : decode cJ0_length_8abf5 6 = .ok (.invokevirtual 335, 3) := by decide +kernel
theorem dJ0_length_8abf5_9 : decode cJ0_length_8abf5 9 = .ok (.ishr, 1) := by decide +kernel
theorem dJ0_length_8abf5_10 : decode cJ0_length_8abf5 10 = .ok (.ireturn, 1) := by decide +kernel
theorem dJ0_charAt_5068e_0 : decode cJ0_charAt_5068e 0 = .ok (.aload_n 0, 1) := by decide +kernel
theorem dJ0_charAt_5068e_1 : decode cJ0_charAt_5068e 1 = .ok (.invokevirtual 492, 3) := by decide +kernel
theorem dJ0_charAt_5068e_4 : decode cJ0_charAt_5068e 4 = .ok (.ifCond .eq 12, 3) := by decide +kernel
theorem dJ0_charAt_5068e_7 : decode cJ0_charAt_5068e 7 = .ok (.aload_n 0, 1) := by decide +kernel
theorem dJ0_charAt_5068e_8 : decode cJ0_charAt_5068e 8 = .ok (.getfield 9, 3) := by decide +kernel
theorem dJ0_charAt_5068e_11 : decode cJ0_charAt_5068e 11 = .ok (.iload_n 1, 1) := by decide +kernel
theorem dJ0_charAt_5068e_12 : decode cJ0_charAt_5068e 12 = .ok (.invokestatic 495, 3) := by decide +kernel
theorem dJ0_charAt_5068e_15 : decode cJ0_charAt_5068e 15 = .ok (.ireturn, 1) := by decide +kernel
theorem dJ0_charAt_5068e_16 : decode cJ0_charAt_5068e 16 = .ok (.aload_n 0, 1) := by decide +kernel
theorem dJ0_charAt_5068e_17 : decode cJ0_charAt_5068e 17 = .ok (.getfield 9, 3) := by decide +kernel
theorem dJ0_charAt_5068e_20 : decode cJ0_charAt_5068e 20 = .ok (.iload_n 1, 1) := by decide +kernel
theorem dJ0_charAt_5068e_21 : decode cJ0_charAt_5068e 21 = .ok (.invokestatic 498, 3) := by decide +kernel
theorem dJ0_charAt_5068e_24 : decode cJ0_charAt_5068e 24 = .ok (.ireturn, 1) := by decide +kernel
theorem dJ0_coder_7d493_0 : decode cJ0_coder_7d493 0 = .ok (.getstatic 38, 3) := by decide +kernel
theorem dJ0_coder_7d493_3 : decode cJ0_coder_7d493 3 = .ok (.ifCond .eq 10, 3) := by decide +kernel
theorem dJ0_coder_7d493_6 : decode cJ0_coder_7d493 6 = .ok (.aload_n 0, 1) := by decide +kernel
theorem dJ0_coder_7d493_7 : decode cJ0_coder_7d493 7 = .ok (.getfield 15, 3) := by decide +kernel
theorem dJ0_coder_7d493_10 : decode cJ0_coder_7d493 10 = .ok (.goto 4, 3) := by decide +kernel
theorem dJ0_coder_7d493_13 : decode cJ0_coder_7d493 13 = .ok (.iconst 1, 1) := by decide +kernel
theorem dJ0_coder_7d493_14 : decode cJ0_coder_7d493 14 = .ok (.ireturn, 1) := by decide +kernel
theorem dJ0_isLatin1_aae02_0 : decode cJ0_isLatin1_aae02 0 = .ok (.getstatic 38, 3) := by decide +kernel
theorem dJ0_isLatin1_aae02_3 : decode cJ0_isLatin1_aae02 3 = .ok (.ifCond .eq 14, 3) := by decide +kernel
theorem dJ0_isLatin1_aae02_6 : decode cJ0_isLatin1_aae02 6 = .ok (.aload_n 0, 1) := by decide +kernel
theorem dJ0_isLatin1_aae02_7 : decode cJ0_isLatin1_aae02 7 = .ok (.getfield 15, 3) := by decide +kernel
theorem dJ0_isLatin1_aae02_10 : decode cJ0_isLatin1_aae02 10 = .ok (.ifCond .ne 7, 3) := by decide +kernel
theorem dJ0_isLatin1_aae02_13 : decode cJ0_isLatin1_aae02 13 = .ok (.iconst 1, 1) := by decide +kernel
theorem dJ0_isLatin1_aae02_14 : decode cJ0_isLatin1_aae02 14 = .ok (.goto 4, 3) := by decide +kernel
theorem dJ0_isLatin1_aae02_17 : decode cJ0_isLatin1_aae02 17 = .ok (.iconst 0, 1) := by decide +kernel
theorem dJ0_isLatin1_aae02_18 : decode cJ0_isLatin1_aae02 18 = .ok (.ireturn, 1) := by decide +kernel
theorem dJ0_checkIndex_df160_0 : decode cJ0_checkIndex_df160 0 = .ok (.iload_n 0, 1) := by decide +kernel
theorem dJ0_checkIndex_df160_1 : decode cJ0_checkIndex_df160 1 = .ok (.iload_n 1, 1) := by decide +kernel
theorem dJ0_checkIndex_df160_2 : decode cJ0_checkIndex_df160 2 = .ok (.getstatic 1053, 3) := by decide +kernel
theorem dJ0_checkIndex_df160_5 : decode cJ0_checkIndex_df160 5 = .ok (.invokestatic 1059, 3) := by decide +kernel
theorem dJ0_checkIndex_df160_8 : decode cJ0_checkIndex_df160 8 = .ok (.pop, 1) := by decide +kernel
theorem dJ0_checkIndex_df160_9 : decode cJ0_checkIndex_df160 9 = .ok (.return_, 1) := by decide +kernel
theorem dJ1_charAt_3b067_0 : decode cJ1_charAt_3b067 0 = .ok (.iload_n 1, 1) := by decide +kernel
theorem dJ1_charAt_3b067_1 : decode cJ1_charAt_3b067 1 = .ok (.aload_n 0, 1) := by decide +kernel
theorem dJ1_charAt_3b067_2 : decode cJ1_charAt_3b067 2 = .ok (.arraylength, 1) := by decide +kernel
theorem dJ1_charAt_3b067_3 : decode cJ1_charAt_3b067 3 = .ok (.invokestatic 9, 3) := by decide +kernel
theorem dJ1_charAt_3b067_6 : decode cJ1_charAt_3b067 6 = .ok (.aload_n 0, 1) := by decide +kernel
theorem dJ1_charAt_3b067_7 : decode cJ1_charAt_3b067 7 = .ok (.iload_n 1, 1) := by decide +kernel
theorem dJ1_charAt_3b067_8 : decode cJ1_charAt_3b067 8 = .ok (.baload, 1) := by decide +kernel
theorem dJ1_charAt_3b067_9 : decode cJ1_charAt_3b067 9 = .ok (.sipush 255, 3) := by decide +kernel
theorem dJ1_charAt_3b067_12 : decode cJ1_charAt_3b067 12 = .ok (.iand, 1) := by decide +kernel
theorem dJ1_charAt_3b067_13 : decode cJ1_charAt_3b067 13 = .ok (.i2c, 1) := by decide +kernel
theorem dJ1_charAt_3b067_14 : decode cJ1_charAt_3b067 14 = .ok (.ireturn, 1) := by decide +kernel
theorem dJ3_checkIndex_8e157_0 : decode cJ3_checkIndex_8e157 0 = .ok (.iload_n 0, 1) := by decide +kernel
theorem dJ3_checkIndex_8e157_1 : decode cJ3_checkIndex_8e157 1 = .ok (.ifCond .lt 8, 3) := by decide +kernel
theorem dJ3_checkIndex_8e157_4 : decode cJ3_checkIndex_8e157 4 = .ok (.iload_n 0, 1) := by decide +kernel
theorem dJ3_checkIndex_8e157_5 : decode cJ3_checkIndex_8e157 5 = .ok (.iload_n 1, 1) := by decide +kernel
theorem dJ3_checkIndex_8e157_6 : decode cJ3_checkIndex_8e157 6 = .ok (.if_icmp .lt 10, 3) := by decide +kernel
theorem dJ3_checkIndex_8e157_9 : decode cJ3_checkIndex_8e157 9 = .ok (.aload_n 2, 1) := by decide +kernel
theorem dJ3_checkIndex_8e157_10 : decode cJ3_checkIndex_8e157 10 = .ok (.iload_n 0, 1) := by decide +kernel
theorem dJ3_checkIndex_8e157_11 : decode cJ3_checkIndex_8e157 11 = .ok (.iload_n 1, 1) := by decide +kernel
theorem dJ3_checkIndex_8e157_12 : decode cJ3_checkIndex_8e157 12 = .ok (.invokestatic 95, 3) := by decide +kernel
theorem dJ3_checkIndex_8e157_15 : decode cJ3_checkIndex_8e157 15 = .ok (.athrow, 1) := by decide +kernel
theorem dJ3_checkIndex_8e157_16 : decode cJ3_checkIndex_8e157 16 = .ok (.iload_n 0, 1) := by decide +kernel
theorem dJ3_checkIndex_8e157_17 : decode cJ3_checkIndex_8e157 17 = .ok (.ireturn, 1) := by decide +kernel
abbrev rmJ0_coder_7d493 : Room := { frames := 0, cells := 0, slots := 0, locals := 0 }
set_option maxHeartbeats 4000000 in
theorem jdJ0_coder_7d493 (l : Launch) (D : va_G) (cy : Nat → ClassId) (z : Nat) (σ : hpMem) {i : Nat} (hi : i < 16) : hpM l D cy z yJ0_coder_7d493 cJ0_coder_7d493 1 (some .byte) rmJ0_coder_7d493 [.ref (cy (1000 + i))] σ (fun r τ => r = some (.int (hpI 0)) ∧ σ = τ) := by
  refine hp_met rfl (Nat.le_of_ble_eq_true rfl) (fun p e s m below meth c C Z hr hlk => ?_)
  refine h_sCS C Z wd_456 dJ0_coder_7d493_0 ?_
  refine h_if_eq (tgt := 13) C dJ0_coder_7d493_3 (by decide) ⟨by decide, by decide⟩ (fun h => absurd h (by decide)) (fun _ => ?_)
  refine h_aload_n C dJ0_coder_7d493_6 0 rfl rfl ?_
  refine h_sCoder C Z hi wd_2026 dJ0_coder_7d493_7 ?_
  refine h_goto (tgt := 14) C dJ0_coder_7d493_10 (by decide) ?_
  exact h_nreturn C (by decide) hr hlk dJ0_coder_7d493_14 ⟨rfl, rfl⟩
abbrev rmJ0_isLatin1_aae02 : Room := { frames := 0, cells := 0, slots := 0, locals := 0 }
set_option maxHeartbeats 4000000 in
theorem jdJ0_isLatin1_aae02 (l : Launch) (D : va_G) (cy : Nat → ClassId) (z : Nat) (σ : hpMem) {i : Nat} (hi : i < 16) : hpM l D cy z yJ0_isLatin1_aae02 cJ0_isLatin1_aae02 1 (some .boolean) rmJ0_isLatin1_aae02 [.ref (cy (1000 + i))] σ (fun r τ => r = some (.int (hpI 1)) ∧ σ = τ) := by
  refine hp_met rfl (Nat.le_of_ble_eq_true rfl) (fun p e s m below meth c C Z hr hlk => ?_)
  refine h_sCS C Z wd_456 dJ0_isLatin1_aae02_0 ?_
  refine h_if_eq (tgt := 17) C dJ0_isLatin1_aae02_3 (by decide) ⟨by decide, by decide⟩ (fun h => absurd h (by decide)) (fun _ => ?_)
  refine h_aload_n C dJ0_isLatin1_aae02_6 0 rfl rfl ?_
  refine h_sCoder C Z hi wd_2026 dJ0_isLatin1_aae02_7 ?_
  refine h_if_ne (tgt := 17) C dJ0_isLatin1_aae02_10 (by decide) ⟨by decide, by decide⟩ (fun h => absurd rfl h) (fun _ => ?_)
  refine h_iconst C dJ0_isLatin1_aae02_13 ?_
  refine h_goto (tgt := 18) C dJ0_isLatin1_aae02_14 (by decide) ?_
  exact h_zreturn C (Or.inr rfl) hr hlk dJ0_isLatin1_aae02_18 ⟨rfl, rfl⟩
abbrev rmJ0_length_8abf5 : Room := { frames := 1, cells := 0, slots := 0, locals := 20 }
set_option maxHeartbeats 4000000 in
theorem jdJ0_length_8abf5 (l : Launch) (D : va_G) (cy : Nat → ClassId) (z : Nat) (σ : hpMem) {i : Nat} (hi : i < 16) : hpM l D cy z yJ0_length_8abf5 cJ0_length_8abf5 1 (some .int) rmJ0_length_8abf5 [.ref (cy (1000 + i))] σ (fun r τ => r = some (.int (hpI (hpsL i : Int))) ∧ σ = τ) := by
  refine hp_met rfl (Nat.le_of_ble_eq_true rfl) (fun p e s m below meth c C Z hr hlk => ?_)
  refine h_aload_n C dJ0_length_8abf5_0 0 rfl rfl ?_
  refine h_sValue C Z hi wd_2025 dJ0_length_8abf5_1 ?_
  refine h_sLen C Z hi dJ0_length_8abf5_4 ?_
  refine h_aload_n C dJ0_length_8abf5_5 0 rfl rfl ?_
  refine h_callO (As := []) (rest := [.int (hpI (hpsL i : Int))]) C Z yyJ0_coder_7d493 wd_452 (jdJ0_coder_7d493 l D cy z σ hi) (Z.2.2 i hi).2.1 rfl rfl ⟨rfl, rfl, Nat.le_of_ble_eq_true rfl, Nat.le_of_ble_eq_true rfl⟩ ⟨Nat.le_of_ble_eq_true rfl, Nat.le_of_ble_eq_true rfl⟩ (Nat.le_of_ble_eq_true rfl) dJ0_length_8abf5_6 (fun r1 τ1 h1 => ?_)
  obtain ⟨rfl, rfl⟩ := h1
  show hpV _ _ _ _ _ _ _ _ _ _ _ _ _ _ _ _ _ _ _ _ _ (_ :: _)
  refine h_ishr0 C dJ0_length_8abf5_9 ?_
  exact h_ireturn C hr hlk dJ0_length_8abf5_10 ⟨rfl, rfl⟩
abbrev rmJ3_checkIndex_8e157 : Room := { frames := 0, cells := 0, slots := 0, locals := 0 }
set_option maxHeartbeats 4000000 in
theorem jdJ3_checkIndex_8e157 (l : Launch) (D : va_G) (cy : Nat → ClassId) (z : Nat) (σ : hpMem) {a b : Int} (h0 : 0 ≤ a) (h1 : a < b) (h2 : b < 2147483648) {v : Value} (hv : v = .null ∨ ∃ t : Nat, v = .ref t) : hpM l D cy z yJ3_checkIndex_8e157 cJ3_checkIndex_8e157 3 (some .int) rmJ3_checkIndex_8e157 [.int (hpI a), .int (hpI b), v] σ (fun r τ => r = some (.int (hpI a)) ∧ σ = τ) := by
  rcases hv with rfl | ⟨t, rfl⟩
  · refine hp_met rfl (Nat.le_of_ble_eq_true rfl) (fun p e s m below meth c C Z hr hlk => ?_)
    refine h_iload_n C dJ3_checkIndex_8e157_0 0 rfl rfl ?_
    refine h_if_lt (tgt := 9) C dJ3_checkIndex_8e157_1 (by decide) ⟨by omega, by omega⟩ (fun h => absurd h (by omega)) (fun _ => ?_)
    refine h_iload_n C dJ3_checkIndex_8e157_4 0 rfl rfl ?_
    refine h_iload_n C dJ3_checkIndex_8e157_5 1 rfl rfl ?_
    refine h_icmp_lt (tgt := 16) C dJ3_checkIndex_8e157_6 (by decide) ⟨by omega, by omega⟩ ⟨by omega, by omega⟩ (fun _ => ?_) (fun h => absurd h1 h)
    refine h_iload_n C dJ3_checkIndex_8e157_16 0 rfl rfl ?_
    exact h_ireturn C hr hlk dJ3_checkIndex_8e157_17 ⟨rfl, rfl⟩
  · refine hp_met rfl (Nat.le_of_ble_eq_true rfl) (fun p e s m below meth c C Z hr hlk => ?_)
    refine h_iload_n C dJ3_checkIndex_8e157_0 0 rfl rfl ?_
    refine h_if_lt (tgt := 9) C dJ3_checkIndex_8e157_1 (by decide) ⟨by omega, by omega⟩ (fun h => absurd h (by omega)) (fun _ => ?_)
    refine h_iload_n C dJ3_checkIndex_8e157_4 0 rfl rfl ?_
    refine h_iload_n C dJ3_checkIndex_8e157_5 1 rfl rfl ?_
    refine h_icmp_lt (tgt := 16) C dJ3_checkIndex_8e157_6 (by decide) ⟨by omega, by omega⟩ ⟨by omega, by omega⟩ (fun _ => ?_) (fun h => absurd h1 h)
    refine h_iload_n C dJ3_checkIndex_8e157_16 0 rfl rfl ?_
    exact h_ireturn C hr hlk dJ3_checkIndex_8e157_17 ⟨rfl, rfl⟩
abbrev rmJ0_checkIndex_df160 : Room := { frames := 1, cells := 0, slots := 0, locals := 22 }
set_option maxHeartbeats 4000000 in
theorem jdJ0_checkIndex_df160 (l : Launch) (D : va_G) (cy : Nat → ClassId) (z : Nat) (σ : hpMem) {a b : Int} (h0 : 0 ≤ a) (h1 : a < b) (h2 : b < 2147483648) : hpM l D cy z yJ0_checkIndex_df160 cJ0_checkIndex_df160 2 none rmJ0_checkIndex_df160 [.int (hpI a), .int (hpI b)] σ (fun r τ => r = none ∧ σ = τ) := by
  refine hp_met rfl (Nat.le_of_ble_eq_true rfl) (fun p e s m below meth c C Z hr hlk => ?_)
  refine h_iload_n C dJ0_checkIndex_df160_0 0 rfl rfl ?_
  refine h_iload_n C dJ0_checkIndex_df160_1 1 rfl rfl ?_
  refine h_sSF C Z wd_472 dJ0_checkIndex_df160_2 (fun v hv => ?_)
  refine h_callG (As := [.int (hpI a), .int (hpI b), v]) (rest := []) C Z yyJ3_checkIndex_8e157 wd_474 (jdJ3_checkIndex_8e157 l D cy z σ h0 h1 h2 hv) rfl rfl ⟨rfl, rfl, Nat.le_of_ble_eq_true rfl, Nat.le_of_ble_eq_true rfl⟩ ⟨Nat.le_of_ble_eq_true rfl, Nat.le_of_ble_eq_true rfl⟩ (Nat.le_of_ble_eq_true rfl) dJ0_checkIndex_df160_5 (fun r1 τ1 h1 => ?_)
  obtain ⟨rfl, rfl⟩ := h1
  show hpV _ _ _ _ _ _ _ _ _ _ _ _ _ _ _ _ _ _ _ _ _ (_ :: _)
  refine h_pop C rfl dJ0_checkIndex_df160_8 ?_
  exact h_return C hr hlk dJ0_checkIndex_df160_9 ⟨rfl, rfl⟩
abbrev rmJ1_charAt_3b067 : Room := { frames := 2, cells := 0, slots := 0, locals := 43 }
set_option maxHeartbeats 4000000 in
theorem jdJ1_charAt_3b067 (l : Launch) (D : va_G) (cy : Nat → ClassId) (z : Nat) (σ : hpMem) {i : Nat} (hi : i < 16) {a : Int} (h0 : 0 ≤ a) (h1 : a < (hpsL i : Int)) (h2 : hpsL i < 2147483648) : hpM l D cy z yJ1_charAt_3b067 cJ1_charAt_3b067 2 (some .char) rmJ1_charAt_3b067 [.ref (cy (1100 + i)), .int (hpI a)] σ (fun r τ => r = some (.int (hpI (hpsC i a.toNat))) ∧ σ = τ) := by
  refine hp_met rfl (Nat.le_of_ble_eq_true rfl) (fun p e s m below meth c C Z hr hlk => ?_)
  refine h_iload_n C dJ1_charAt_3b067_0 1 rfl rfl ?_
  refine h_aload_n C dJ1_charAt_3b067_1 0 rfl rfl ?_
  refine h_sLen C Z hi dJ1_charAt_3b067_2 ?_
  refine h_callG (As := [.int (hpI a), .int (hpI (hpsL i : Int))]) (rest := []) C Z yyJ0_checkIndex_df160 wd_469 (jdJ0_checkIndex_df160 l D cy z σ h0 h1 (by omega)) rfl rfl ⟨rfl, rfl, Nat.le_of_ble_eq_true rfl, Nat.le_of_ble_eq_true rfl⟩ ⟨Nat.le_of_ble_eq_true rfl, Nat.le_of_ble_eq_true rfl⟩ (Nat.le_of_ble_eq_true rfl) dJ1_charAt_3b067_3 (fun r1 τ1 h1 => ?_)
  obtain ⟨rfl, rfl⟩ := h1
  show hpV _ _ _ _ _ _ _ _ _ _ _ _ _ _ _ _ _ _ _ _ _ []
  refine h_aload_n C dJ1_charAt_3b067_6 0 rfl rfl ?_
  refine h_iload_n C dJ1_charAt_3b067_7 1 rfl rfl ?_
  refine h_sByte C Z hi h2 h0 (by assumption) dJ1_charAt_3b067_8 ?_
  refine h_sipush C dJ1_charAt_3b067_9 (by decide) ?_
  refine h_iandw C dJ1_charAt_3b067_12 ?_
  refine h_i2cw C dJ1_charAt_3b067_13 ?_
  refine hp_raw ?_
  have hb := hpsC_b i a.toNat
  exact h_nreturn C (hp_narc hb.1 hb.2) hr hlk dJ1_charAt_3b067_14 ⟨rfl, rfl⟩
abbrev rmJ0_charAt_5068e : Room := { frames := 3, cells := 0, slots := 0, locals := 64 }
set_option maxHeartbeats 4000000 in
theorem jdJ0_charAt_5068e (l : Launch) (D : va_G) (cy : Nat → ClassId) (z : Nat) (σ : hpMem) {i : Nat} (hi : i < 16) {a : Int} (h0 : 0 ≤ a) (h1 : a < (hpsL i : Int)) (h2 : hpsL i < 2147483648) : hpM l D cy z yJ0_charAt_5068e cJ0_charAt_5068e 2 (some .char) rmJ0_charAt_5068e [.ref (cy (1000 + i)), .int (hpI a)] σ (fun r τ => r = some (.int (hpI (hpsC i a.toNat))) ∧ σ = τ) := by
  refine hp_met rfl (Nat.le_of_ble_eq_true rfl) (fun p e s m below meth c C Z hr hlk => ?_)
  refine h_aload_n C dJ0_charAt_5068e_0 0 rfl rfl ?_
  refine h_callO (As := []) (rest := []) C Z yyJ0_isLatin1_aae02 wd_462 (jdJ0_isLatin1_aae02 l D cy z σ hi) (Z.2.2 i hi).2.1 rfl rfl ⟨rfl, rfl, Nat.le_of_ble_eq_true rfl, Nat.le_of_ble_eq_true rfl⟩ ⟨Nat.le_of_ble_eq_true rfl, Nat.le_of_ble_eq_true rfl⟩ (Nat.le_of_ble_eq_true rfl) dJ0_charAt_5068e_1 (fun r1 τ1 h1 => ?_)
  obtain ⟨rfl, rfl⟩ := h1
  show hpV _ _ _ _ _ _ _ _ _ _ _ _ _ _ _ _ _ _ _ _ _ (_ :: _)
  refine h_if_eq (tgt := 16) C dJ0_charAt_5068e_4 (by decide) ⟨by decide, by decide⟩ (fun h => absurd h (by decide)) (fun _ => ?_)
  refine h_aload_n C dJ0_charAt_5068e_7 0 rfl rfl ?_
  refine h_sValue C Z hi wd_2025 dJ0_charAt_5068e_8 ?_
  refine h_iload_n C dJ0_charAt_5068e_11 1 rfl rfl ?_
  refine h_callG (As := [.ref (cy (1100 + i)), .int (hpI a)]) (rest := []) C Z yyJ1_charAt_3b067 wd_466 (jdJ1_charAt_3b067 l D cy z _ hi h0 (by assumption) h2) rfl rfl ⟨rfl, rfl, Nat.le_of_ble_eq_true rfl, Nat.le_of_ble_eq_true rfl⟩ ⟨Nat.le_of_ble_eq_true rfl, Nat.le_of_ble_eq_true rfl⟩ (Nat.le_of_ble_eq_true rfl) dJ0_charAt_5068e_12 (fun r1 τ1 h1 => ?_)
  obtain ⟨rfl, rfl⟩ := h1
  show hpV _ _ _ _ _ _ _ _ _ _ _ _ _ _ _ _ _ _ _ _ _ (_ :: _)
  have hb := hpsC_b i a.toNat
  exact h_nreturn C (hp_narc hb.1 hb.2) hr hlk dJ0_charAt_5068e_15 ⟨rfl, rfl⟩
abbrev rmJ6_bitCount_0f7a4 : Room := { frames := 0, cells := 0, slots := 0, locals := 0 }
set_option maxHeartbeats 4000000 in
theorem jdJ6_bitCount_0f7a4 (l : Launch) (D : va_G) (cy : Nat → ClassId) (z : Nat) (σ : hpMem) (a : Int) : hpM l D cy z yJ6_bitCount_0f7a4 cJ6_bitCount_0f7a4 1 (some .int) rmJ6_bitCount_0f7a4 [.int (hpI a)] σ (fun r τ => (∃ x : Int, r = some (.int (hpI x)) ∧ 0 ≤ x ∧ x ≤ 63) ∧ σ = τ) := by
  refine hp_met rfl (Nat.le_of_ble_eq_true rfl) (fun p e s m below meth c C Z hr hlk => ?_)
  refine h_iload_n C dJ6_bitCount_0f7a4_0 0 rfl rfl ?_
  refine h_iload_n C dJ6_bitCount_0f7a4_1 0 rfl rfl ?_
  refine h_iconst C dJ6_bitCount_0f7a4_2 ?_
  refine h_iushr_any C dJ6_bitCount_0f7a4_3 (fun x1 _ => ?_)
  refine h_ldcw C 1431655765 wd_1077 (by decide) dJ6_bitCount_0f7a4_4 ?_
  refine h_iand_any C dJ6_bitCount_0f7a4_7 (fun x2 _ => ?_)
  refine h_isub C dJ6_bitCount_0f7a4_8 rfl ?_
  refine hp_anyI (fun x3 _ => ?_)
  refine h_istore_n (lv' := [(0, .int (hpI x3))]) C dJ6_bitCount_0f7a4_9 rfl (by decide) rfl ?_
  refine h_iload_n C dJ6_bitCount_0f7a4_10 0 rfl rfl ?_
  refine h_ldcw C 858993459 wd_1078 (by decide) dJ6_bitCount_0f7a4_11 ?_
  refine h_iand_any C dJ6_bitCount_0f7a4_14 (fun x4 _ => ?_)
  refine h_iload_n C dJ6_bitCount_0f7a4_15 0 rfl rfl ?_
  refine h_iconst C dJ6_bitCount_0f7a4_16 ?_
  refine h_iushr_any C dJ6_bitCount_0f7a4_17 (fun x5 _ => ?_)
  refine h_ldcw C 858993459 wd_1078 (by decide) dJ6_bitCount_0f7a4_18 ?_
  refine h_iand_any C dJ6_bitCount_0f7a4_21 (fun x6 _ => ?_)
  refine h_iadd C dJ6_bitCount_0f7a4_22 rfl ?_
  refine hp_anyI (fun x7 _ => ?_)
  refine h_istore_n (lv' := [(0, .int (hpI x7))]) C dJ6_bitCount_0f7a4_23 rfl (by decide) rfl ?_
  refine h_iload_n C dJ6_bitCount_0f7a4_24 0 rfl rfl ?_
  refine h_iload_n C dJ6_bitCount_0f7a4_25 0 rfl rfl ?_
  refine h_iconst C dJ6_bitCount_0f7a4_26 ?_
  refine h_iushr_any C dJ6_bitCount_0f7a4_27 (fun x8 _ => ?_)
  refine h_iadd C dJ6_bitCount_0f7a4_28 rfl ?_
  refine hp_anyI (fun x9 _ => ?_)
  refine h_ldcw C 252645135 wd_1079 (by decide) dJ6_bitCount_0f7a4_29 ?_
  refine h_iand_any C dJ6_bitCount_0f7a4_32 (fun x10 _ => ?_)
  refine h_istore_n (lv' := [(0, .int (hpI x10))]) C dJ6_bitCount_0f7a4_33 rfl (by decide) rfl ?_
  refine h_iload_n C dJ6_bitCount_0f7a4_34 0 rfl rfl ?_
  refine h_iload_n C dJ6_bitCount_0f7a4_35 0 rfl rfl ?_
  refine h_bipush C dJ6_bitCount_0f7a4_36 (by decide) ?_
  refine h_iushr_any C dJ6_bitCount_0f7a4_38 (fun x11 _ => ?_)
  refine h_iadd C dJ6_bitCount_0f7a4_39 rfl ?_
  refine hp_anyI (fun x12 _ => ?_)
  refine h_istore_n (lv' := [(0, .int (hpI x12))]) C dJ6_bitCount_0f7a4_40 rfl (by decide) rfl ?_
  refine h_iload_n C dJ6_bitCount_0f7a4_41 0 rfl rfl ?_
  refine h_iload_n C dJ6_bitCount_0f7a4_42 0 rfl rfl ?_
  refine h_bipush C dJ6_bitCount_0f7a4_43 (by decide) ?_
  refine h_iushr_any C dJ6_bitCount_0f7a4_45 (fun x13 _ => ?_)
  refine h_iadd C dJ6_bitCount_0f7a4_46 rfl ?_
  refine hp_anyI (fun x14 _ => ?_)
  refine h_istore_n (lv' := [(0, .int (hpI x14))]) C dJ6_bitCount_0f7a4_47 rfl (by decide) rfl ?_
  refine h_iload_n C dJ6_bitCount_0f7a4_48 0 rfl rfl ?_
  refine h_bipush C dJ6_bitCount_0f7a4_49 (by decide) ?_
  refine h_iand_r C dJ6_bitCount_0f7a4_51 ⟨by decide, by decide⟩ (by decide) (fun x15 hx hy => ?_)
  exact h_ireturn C hr hlk dJ6_bitCount_0f7a4_52 ⟨⟨_, rfl, hx, hy⟩, rfl⟩

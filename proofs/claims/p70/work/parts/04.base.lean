/-! the memory: ints as integers, by cell and place -/
abbrev hpMem : Type := Nat → Nat → Int
def hpI (a : Int) : Int32 := Int32.ofInt a
def hpJ (a : Int) : Int64 := Int64.ofInt a
theorem hpI_add (a b : Int) : hpI a + hpI b = hpI (a + b) := (Int32.ofInt_add a b).symm
theorem hpI_sub (a b : Int) : hpI a - hpI b = hpI (a - b) := (Int32.ofInt_sub a b).symm
theorem hpI_mul (a b : Int) : hpI a * hpI b = hpI (a * b) := (Int32.ofInt_mul a b).symm
theorem hpJ_add (a b : Int) : hpJ a + hpJ b = hpJ (a + b) := (Int64.ofInt_add a b).symm
theorem hpJ_mul (a b : Int) : hpJ a * hpJ b = hpJ (a * b) := (Int64.ofInt_mul a b).symm
/-- within an int's bounds, a long's -/
def hpR (a : Int) : Prop := -2147483648 ≤ a ∧ a < 2147483648
def hpRL (a : Int) : Prop := -9223372036854775808 ≤ a ∧ a < 9223372036854775808
theorem hpI_toInt {a : Int} (h : hpR a) : (hpI a).toInt = a := Int32.toInt_ofInt_of_le h.1 h.2
theorem hpJ_toInt {a : Int} (h : hpRL a) : (hpJ a).toInt = a := Int64.toInt_ofInt_of_le h.1 h.2
theorem hpI_of (x : Int32) : hpI x.toInt = x := Int32.ofInt_toInt x
theorem hpJ_of (x : Int64) : hpJ x.toInt = x := Int64.ofInt_toInt x
theorem hpR_of (x : Int32) : hpR x.toInt := ⟨Int32.le_toInt x, Int32.toInt_lt x⟩
theorem hpRL_of (x : Int64) : hpRL x.toInt := ⟨Int64.le_toInt x, Int64.toInt_lt x⟩
theorem hpI_lt {a b : Int} (ha : hpR a) (hb : hpR b) : hpI a < hpI b ↔ a < b := by rw [Int32.lt_iff_toInt_lt, hpI_toInt ha, hpI_toInt hb]
theorem hpI_le {a b : Int} (ha : hpR a) (hb : hpR b) : hpI a ≤ hpI b ↔ a ≤ b := by rw [Int32.le_iff_toInt_le, hpI_toInt ha, hpI_toInt hb]
theorem hpI_eq {a b : Int} (ha : hpR a) (hb : hpR b) : hpI a = hpI b ↔ a = b := by rw [← Int32.toInt_inj, hpI_toInt ha, hpI_toInt hb]
theorem hpJ_lt {a b : Int} (ha : hpRL a) (hb : hpRL b) : hpJ a < hpJ b ↔ a < b := by rw [Int64.lt_iff_toInt_lt, hpJ_toInt ha, hpJ_toInt hb]
theorem hpJ_le {a b : Int} (ha : hpRL a) (hb : hpRL b) : hpJ a ≤ hpJ b ↔ a ≤ b := by rw [Int64.le_iff_toInt_le, hpJ_toInt ha, hpJ_toInt hb]
theorem hpJ_eq {a b : Int} (ha : hpRL a) (hb : hpRL b) : hpJ a = hpJ b ↔ a = b := by rw [← Int64.toInt_inj, hpJ_toInt ha, hpJ_toInt hb]
theorem hpI_0 : hpI 0 = 0 := by decide
theorem hpR_0 : hpR 0 := ⟨by decide, by decide⟩
theorem hpI_clamp {a : Int} (h : hpR a) : (hpI a).toNatClampNeg = a.toNat := by
  show (hpI a).toInt.toNat = a.toNat
  rw [hpI_toInt h]
theorem hpI_in {a : Int} {n : Nat} (h0 : 0 ≤ a) (h1 : a < n) (hn : n < 2147483648) : vp_in (hpI a) n := by
  rw [vp_in_iff, hpI_toInt ⟨by omega, by omega⟩]
  exact ⟨h0, h1⟩
/-- a row of numbers, one of them changed; a memory, one number changed -/
def hpu (r : Nat → Int) (i : Nat) (a : Int) : Nat → Int := fun j => if j = i then a else r j
def hpw (σ : hpMem) (k i : Nat) (a : Int) : hpMem := fun j => if j = k then hpu (σ k) i a else σ j
theorem hpw_row {σ : hpMem} {k i : Nat} {a : Int} : hpw σ k i a k = hpu (σ k) i a := if_pos rfl
theorem hpw_ne {σ : hpMem} {k i j : Nat} {a : Int} (h : j ≠ k) : hpw σ k i a j = σ j := if_neg h
theorem hpw_eq {σ : hpMem} {k i : Nat} {a : Int} : hpw σ k i a k i = a := by simp [hpw, hpu]
theorem hpw_ni {σ : hpMem} {k i j : Nat} {a : Int} (h : j ≠ i) : hpw σ k i a k j = σ k j := by simp [hpw, hpu, h]
theorem hpw_nk {σ : hpMem} {k i j n : Nat} {a : Int} (h : j ≠ k) : hpw σ k i a j n = σ j n := by rw [hpw_ne h]
/-- what stands in a field of the object at cell k -/
def hpfv (z k : Nat) (r : Nat → Int) (i : Nat) : Value := if hpfk (hpkd k) i = 1 then .ref (z + hprf k i) else if hpfk (hpkd k) i = 2 then .long (hpJ (r i)) else .int (hpI (r i))
def hpE (z : Nat) (cy : Nat → ClassId) (k : Nat) (r : Nat → Int) : va_E :=
  if hpkd k < 10 then .inr (hpkd k, (List.range (hpnf (hpkd k))).map (hpfv z k r))
  else if hpkd k = 12 then .inl (cy 12, hpln k, .inr (.inl (fun i => hpJ (r i))))
  else if hpkd k < 14 then .inl (cy (hpkd k), hpln k, .inl (fun i => hpI (r i)))
  else .inl (cy (hpkd k), hpln k, .inr (.inr (.inr (.inr (fun i => some (z + hprf k i))))))
def hpW (z : Nat) (cy : Nat → ClassId) (σ : hpMem) : va_W := (List.range 217).map (fun k => (z + k, hpE z cy k (σ k)))
abbrev hpTy (cy : Nat → ClassId) : List (ClassId × FieldType) := [(cy 10, .byte), (cy 11, .int), (cy 12, .long), (cy 13, .boolean), (cy 14, .object RX1), (cy 15, .object RX3), (cy 16, .object RX6), (cy 17, .array .int)]
theorem hpkd_lt {k c : Nat} (h : hpkd k = c) (hc : c < 99) : k < 217 := by
  rcases Nat.lt_or_ge k 217 with q | q
  · exact q
  · have e : hpkd k = 99 := by
      unfold hpkd
      rw [List.getD_eq_getElem?_getD, List.getElem?_eq_none (by show hpKs.length ≤ k; exact Nat.le_trans (by decide +kernel : hpKs.length ≤ 217) q)]
      rfl
    omega
theorem hpW_get {z : Nat} {cy : Nat → ClassId} {σ : hpMem} {k : Nat} (h : k < 217) : (hpW z cy σ)[k]? = some (z + k, hpE z cy k (σ k)) := by
  unfold hpW
  rw [List.getElem?_map, List.getElem?_range h]
  rfl
theorem hpW_inv {z : Nat} {cy : Nat → ClassId} {σ : hpMem} {k : Nat} {q : Nat × va_E} (h : (hpW z cy σ)[k]? = some q) : k < 217 ∧ q = (z + k, hpE z cy k (σ k)) := by
  rcases Nat.lt_or_ge k 217 with g | g
  · rw [hpW_get g] at h
    exact ⟨g, (Option.some.inj h).symm⟩
  · unfold hpW at h
    rw [List.getElem?_map, List.getElem?_eq_none (by rw [List.length_range]; exact g)] at h
    cases h
theorem hpW_D {z : Nat} {cy : Nat → ClassId} {σ : hpMem} : va_D (fun q => z ≤ q) (hpW z cy σ) := by
  refine ⟨fun i j x y hi hj e => ?_, fun k q h => ?_⟩
  · obtain ⟨-, rfl⟩ := hpW_inv hi
    obtain ⟨-, rfl⟩ := hpW_inv hj
    have e : z + i = z + j := e
    omega
  · obtain ⟨-, rfl⟩ := hpW_inv h
    exact Nat.le_add_right z k
theorem hpW_set {z : Nat} {cy : Nat → ClassId} {σ τ : hpMem} {k : Nat} {e : va_E} (he : hpE z cy k (τ k) = e) (ho : ∀ j, j ≠ k → τ j = σ j) : (hpW z cy σ).set k (z + k, e) = hpW z cy τ := by
  apply List.ext_getElem?
  intro i
  rw [List.getElem?_set]
  by_cases h : k = i
  · subst h
    rw [if_pos rfl]
    by_cases hk : k < 217
    · rw [hpW_get hk, if_pos (by unfold hpW; rw [List.length_map, List.length_range]; exact hk), he]
    · have hn : ∀ ρ : hpMem, (hpW z cy ρ)[k]? = none := fun ρ => by unfold hpW; rw [List.getElem?_map, List.getElem?_eq_none (by rw [List.length_range]; omega)]; rfl
      rw [hn τ, if_neg (by unfold hpW; rw [List.length_map, List.length_range]; exact hk)]
  · rw [if_neg h]
    by_cases hi : i < 217
    · rw [hpW_get hi, hpW_get hi, ho i (fun q => h q.symm)]
    · have hn : ∀ ρ : hpMem, (hpW z cy ρ)[i]? = none := fun ρ => by unfold hpW; rw [List.getElem?_map, List.getElem?_eq_none (by rw [List.length_range]; omega)]; rfl
      rw [hn, hn]
theorem hpE_o {z : Nat} {cy : Nat → ClassId} {k ci : Nat} {r : Nat → Int} (hk : hpkd k = ci) (hc : ci < 10) : hpE z cy k r = .inr (ci, (List.range (hpnf ci)).map (hpfv z k r)) := by
  subst hk
  exact if_pos hc
theorem hpE_i {z : Nat} {cy : Nat → ClassId} {k ci : Nat} {r : Nat → Int} (hk : hpkd k = ci) (hc : ci = 10 ∨ ci = 11 ∨ ci = 13) : hpE z cy k r = .inl (cy ci, hpln k, .inl (fun i => hpI (r i))) := by
  subst hk
  unfold hpE
  rw [if_neg (by omega), if_neg (by omega), if_pos (by omega)]
theorem hpE_l {z : Nat} {cy : Nat → ClassId} {k : Nat} {r : Nat → Int} (hk : hpkd k = 12) : hpE z cy k r = .inl (cy 12, hpln k, .inr (.inl (fun i => hpJ (r i)))) := by
  unfold hpE
  rw [if_neg (by omega), if_pos hk]
theorem hpE_q {z : Nat} {cy : Nat → ClassId} {k ci : Nat} {r : Nat → Int} (hk : hpkd k = ci) (hc : 14 ≤ ci) : hpE z cy k r = .inl (cy ci, hpln k, .inr (.inr (.inr (.inr (fun i => some (z + hprf k i)))))) := by
  subst hk
  unfold hpE
  rw [if_neg (by omega), if_neg (by omega), if_neg (by omega)]
theorem hp_fget {z k N i : Nat} {r : Nat → Int} (h : i < N) : ((List.range N).map (hpfv z k r))[i]? = some (hpfv z k r i) := by
  rw [List.getElem?_map, List.getElem?_range h]
  rfl
theorem hp_fset {z k N i : Nat} {r : Nat → Int} {a : Int} {v : Value} (hv : hpfv z k (hpu r i a) i = v) : ((List.range N).map (hpfv z k r)).set i v = (List.range N).map (hpfv z k (hpu r i a)) := by
  apply List.ext_getElem?
  intro j
  rw [List.getElem?_set, List.getElem?_map, List.getElem?_map]
  by_cases h : i = j
  · subst h
    rw [if_pos rfl]
    by_cases hi : i < N
    · rw [if_pos (by rw [List.length_map, List.length_range]; exact hi), List.getElem?_range hi, ← hv]
      rfl
    · rw [if_neg (by rw [List.length_map, List.length_range]; exact hi), List.getElem?_eq_none (by rw [List.length_range]; omega)]
      rfl
  · rw [if_neg h]
    by_cases hj : j < N
    · rw [List.getElem?_range hj]
      show some (hpfv z k r j) = some (hpfv z k (hpu r i a) j)
      have e : hpu r i a j = r j := if_neg (fun q => h q.symm)
      unfold hpfv
      rw [e]
    · rw [List.getElem?_eq_none (by rw [List.length_range]; omega)]
      rfl
/-! the words: those that stand at every state, and the nest's links -/
def hpT : List Cond := lw_tbl.filter goodWord
theorem hpT_of {w : Cond} (i : Nat) (h : tables_1[i]? = some w) (hg : goodWord w = true) : w ∈ hpT := List.mem_filter.mpr ⟨List.mem_append_right _ (List.mem_of_getElem? h), hg⟩
theorem hpT_sel {q : MethodName × Nat} (i : Nat) (h : lw_privs[i]? = some q) : Cond.selects q.1.cls q.1 q.1 ∈ hpT := List.mem_filter.mpr ⟨List.mem_append_left _ (List.mem_map.mpr ⟨q, List.mem_of_getElem? h, rfl⟩), rfl⟩
def hpNest (w : Cond) : Bool := match w with
  | .fieldLinkNest .. => true
  | .methodLinkNest .. => true
  | _ => false
def hpN (U : State) : Prop := ∀ w ∈ tables_1, hpNest w = true → va_Nw w U
theorem hpN.warm {s U : State} (hW : s.WarmedH U.vm) (h : hpN s) : hpN U := by
  intro w hw hn
  have h0 := h w hw hn
  cases w with
  | fieldLinkNest a i b n d x => exact va_Nw.warmF hW h0
  | methodLinkNest a i x y => exact va_Nw.warmM hW h0
  | _ => simp [hpNest] at hn
theorem hpN_of {U : State} {w : Cond} (i : Nat) (h : tables_1[i]? = some w) (hn : hpNest w = true) (hN : hpN U) : va_Nw w U := hN w (List.mem_of_getElem? h) hn
theorem hp_goodT {x : Cond} : GoodIn (x :: hpT) hpT := fun w hw => ⟨List.mem_cons_of_mem _ hw, good_of_word (List.mem_filter.mp hw).2⟩
theorem hp_good {x y : Cond} (hy : y ∈ hpT) : GoodIn (x :: hpT) (y :: hpT) := fun w hw => by
  rcases List.mem_cons.mp hw with h | h
  · subst h
    exact hp_goodT _ hy
  · exact hp_goodT _ h
/-- what a method's body stands on -/
def hpC (p : Program) (s : State) (m : MethodId) (args : Array Value) (c : Code) (cc : ByteArray) (nL : Nat) (own : String) (D : va_G) (cy : Nat → ClassId) : Prop :=
  p.tables.exec = Jvm.exec ∧ c.code = cc ∧ c.maxLocals = nL ∧ s.vm.findClass own = some m.cls ∧ (∀ w ∈ hpT, w.before args s = true) ∧ hpN s ∧ va_K D hpCl (hpTy cy) s
/-- the machine at pc with the memory σ, the locals lv, the stack st, comes to Q -/
def hpV (p : Program) (l : Launch) (e : Env) (R : Room) (s : State) (m : MethodId) (args : Array Value) (below : List Frame) (meth : Method) (c : Code) (cells slots nL : Nat) (D : va_G) (cy : Nat → ClassId) (z : Nat) (H0 : Heap) (Q : State → Prop) (σ : hpMem) (pc : Nat) (lv : List (Nat × Value)) (st : List Value) : Prop :=
  ∀ (H : Heap) (locs : List Loc) (ls : Array Slot), lv_has ls nL lv → va_P D hpCl (hpW z cy σ) H → va_S (fun q => z ≤ q) H0 H locs → W p l e R s m args below meth c H locs cells slots Q (F0 m pc ls st)
/-! String constants: who loads each, by which entry, its text, how long it is; string i lies at cy (1000 + i), its bytes at cy (1100 + i) -/
def hpsK : List (String × Nat × String × Nat) := [("TurfHeaps$Tape", 71, "moor", 4), ("TurfHeaps$Tape", 73, "days", 4), ("TurfHeaps$Tape", 81, "law", 3), ("TurfHeaps$Tape", 85, "odds", 4), ("TurfHeaps$Tape", 49, "heap", 4), ("TurfHeaps$Tape", 92, "of", 2), ("TurfHeaps$Tape", 58, "cart", 4), ("TurfHeaps$Tape", 104, "at", 2), ("TurfHeapsModel", 173, "moor", 4), ("TurfHeapsModel", 175, "days", 4), ("TurfHeapsModel", 180, "law", 3), ("TurfHeapsModel", 182, "odds", 4), ("TurfHeapsModel", 184, "heap", 4), ("TurfHeapsModel", 186, "cart", 4), ("TurfHeapsModel", 188, "of", 2), ("TurfHeapsModel", 190, "at", 2)]
def hpsO (i : Nat) : String := (hpsK.getD i ("", 0, "", 0)).1
def hpsI (i : Nat) : Nat := (hpsK.getD i ("", 0, "", 0)).2.1
def hpsT (i : Nat) : String := (hpsK.getD i ("", 0, "", 0)).2.2.1
def hpsL (i : Nat) : Nat := (hpsK.getD i ("", 0, "", 0)).2.2.2
def hpsBy : List (List Int32) := [[109, 111, 111, 114], [100, 97, 121, 115], [108, 97, 119], [111, 100, 100, 115], [104, 101, 97, 112], [111, 102], [99, 97, 114, 116], [97, 116], [109, 111, 111, 114], [100, 97, 121, 115], [108, 97, 119], [111, 100, 100, 115], [104, 101, 97, 112], [99, 97, 114, 116], [111, 102], [97, 116]]
def hpsB (i j : Nat) : Int32 := (hpsBy.getD i []).getD j 0
def hpSs (z i q v : Nat) (U : State) (H : Heap) : Prop := va_O "java/lang/String" q (fun a => z ≤ a) U H ∧ va_OF "java/lang/String" "coder" "B" (.int 0) q (fun a => z ≤ a) U H ∧ va_OF "java/lang/String" "value" "[B" (.ref v) q (fun a => z ≤ a) U H ∧ va_T .byte v (hpsL i) (fun j => .int (hpsB i j)) (fun a => z ≤ a) U H
def hpStr (z : Nat) (cy : Nat → ClassId) (U : State) (H : Heap) : Prop := va_Z "java/lang/String" "COMPACT_STRINGS" "Z" (.int 1) (fun a => z ≤ a) U H ∧ va_Zq "jdk/internal/util/Preconditions" "SIOOBE_FORMATTER" "Ljava/util/function/BiFunction;" (fun a => z ≤ a) U H ∧ ∀ i, i < 16 → vk_R (hpsO i) (hpsI i) (hpsT i) (cy (1000 + i)) U ∧ hpSs z i (cy (1000 + i)) (cy (1100 + i)) U H
theorem hpSs.go {z n q v : Nat} {u U : State} {H H1 : Heap} (hv : u.vm.Alike U.vm) (hq : ∀ a : Nat, a < H.size → ¬ z ≤ a → H1[a]? = H[a]?) (h : hpSs z n q v u H) : hpSs z n q v U H1 := by
  obtain ⟨h1, h2, h3, h4⟩ := h
  exact ⟨(va_O.moved hv h1).kept hq, (va_OF.moved hv h2).kept hq, (va_OF.moved hv h3).kept hq, (va_T.moved hv h4).kept hq⟩
theorem hpStr.go {z : Nat} {cy : Nat → ClassId} {s U : State} {H : Heap} {locs : List Loc} (hW : s.WarmedH U.vm) (hU : U.heap = H) (hS : va_S (fun q => z ≤ q) s.heap H locs) (h : hpStr z cy s s.heap) : hpStr z cy U U.heap := by
  rw [hU]
  exact ⟨(va_Z.moved hW.alike h.1).kept hS.2.1, (va_Zq.moved hW.alike h.2.1).kept hS.2.1, fun i hi => ⟨vk_R.warm hW (h.2.2 i hi).1, (h.2.2 i hi).2.go hW.alike hS.2.1⟩⟩
theorem hpStr.same {z : Nat} {cy : Nat → ClassId} {u U : State} (hv : U.vm = u.vm) (hU : U.heap = u.heap) (h : hpStr z cy u u.heap) : hpStr z cy U U.heap := by
  have hal : u.vm.Alike U.vm := by rw [hv]; exact Vm.Alike.refl u.vm
  rw [hU]
  exact ⟨va_Z.moved hal h.1, va_Zq.moved hal h.2.1, fun i hi => ⟨vk_R.same hv (h.2.2 i hi).1, (h.2.2 i hi).2.go hal (fun a _ _ => rfl)⟩⟩
def hpPre (D : va_G) (cy : Nat → ClassId) (z : Nat) (σ : hpMem) (U : State) : Prop := va_P D hpCl (hpW z cy σ) U.heap ∧ va_K D hpCl (hpTy cy) U ∧ hpN U ∧ hpStr z cy U U.heap
def hpQ (D : va_G) (cy : Nat → ClassId) (z : Nat) (post : Option Value → hpMem → Prop) : Array Value → State → Outcome → State → Prop := fun _ st oc t => (∃ (r : Option Value) (τ : hpMem), oc = .returned r ∧ post r τ ∧ va_P D hpCl (hpW z cy τ) t.heap) ∧ va_F (fun q => z ≤ q) st t
/-- a method's contract, from the memory σ and the arguments av -/
def hpM (l : Launch) (D : va_G) (cy : Nat → ClassId) (z : Nat) (y : MethodName) (bytes : ByteArray) (maxL : Nat) (ret : Option FieldType) (rm : Room) (av : List Value) (σ : hpMem) (post : Option Value → hpMem → Prop) : Prop :=
  Met l y (Cond.code y bytes maxL ret :: hpT) rm (va_Pc av (hpPre D cy z σ)) (hpQ D cy z post) 0 0 (fun q => z ≤ q)
theorem hp_met {l : Launch} {D : va_G} {cy : Nat → ClassId} {z : Nat} {y : MethodName} {bytes : ByteArray} {maxL : Nat} {ret : Option FieldType} {rm : Room} {av : List Value} {σ : hpMem} {post : Option Value → hpMem → Prop} (hy : plainName y.cls = true) (hlen : (lg_sl av).length ≤ maxL)
    (h : ∀ (p : Program) (e : Env) (s : State) (m : MethodId) (below : List Frame) (meth : Method) (c : Code), hpC p s m av.toArray c bytes maxL y.cls D cy → hpStr z cy s s.heap → meth.sig.returnType = ret → meth.locks = false →
      hpV p l e rm s m av.toArray below meth c 0 0 maxL D cy z s.heap (MQ below (hpQ D cy z post) av.toArray s 0 0 (fun q => z ≤ q)) σ 0 (lv_args 0 av) []) : hpM l D cy z y bytes maxL ret rm av σ post := by
  unfold hpM
  refine Met.ofW (cc := bytes) (maxL := maxL) (ret := ret) hy rfl ?_
  intro p e s m args below meth c s₁ B hml hv
  obtain ⟨rfl, hP, hK, hN, hZ⟩ := hv
  have hts := atoms_spec (ws := Cond.code y bytes maxL ret :: hpT) B.pre
  have hown : s.vm.findClass y.cls = some m.cls := findClass_of_methodNamed B.named
  have hl := lv_entry av (n := maxL) hlen
  rw [lg_entry_eq]
  exact h p e s m below meth c ⟨B.exec, B.bytes, hml, hown, fun w hw => hts w (List.mem_cons_of_mem _ hw), hN, hK⟩ hZ B.returns B.notSynchronized s.heap [] _ hl hP va_S.rf

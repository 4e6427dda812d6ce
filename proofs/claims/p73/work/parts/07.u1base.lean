/-! the world while it is made: n cells, z + 0 .. -/
def hpWn (z n : Nat) (E : Nat → va_E) : va_W := (List.range n).map (fun k => (z + k, E k))
theorem hpWn_get {z n k : Nat} {E : Nat → va_E} (h : k < n) : (hpWn z n E)[k]? = some (z + k, E k) := by
  unfold hpWn
  rw [List.getElem?_map, List.getElem?_range h]
  rfl
theorem hpWn_inv {z n k : Nat} {E : Nat → va_E} {q : Nat × va_E} (h : (hpWn z n E)[k]? = some q) : k < n ∧ q = (z + k, E k) := by
  rcases Nat.lt_or_ge k n with g | g
  · rw [hpWn_get g] at h
    exact ⟨g, (Option.some.inj h).symm⟩
  · unfold hpWn at h
    rw [List.getElem?_map, List.getElem?_eq_none (by rw [List.length_range]; exact g)] at h
    cases h
theorem hpWn_D {z n : Nat} {E : Nat → va_E} : va_D (fun q => z ≤ q) (hpWn z n E) := by
  refine ⟨fun i j x y hi hj e => ?_, fun k q h => ?_⟩
  · obtain ⟨-, rfl⟩ := hpWn_inv hi
    obtain ⟨-, rfl⟩ := hpWn_inv hj
    have e : z + i = z + j := e
    omega
  · obtain ⟨-, rfl⟩ := hpWn_inv h
    exact Nat.le_add_right z k
theorem hpWn_set {z n k : Nat} {E : Nat → va_E} {x : va_E} : (hpWn z n E).set k (z + k, x) = hpWn z n (va_up E k x) := by
  apply List.ext_getElem?
  intro i
  rw [List.getElem?_set]
  have hn : ∀ F : Nat → va_E, ¬ i < n → (hpWn z n F)[i]? = none := fun F h => by unfold hpWn; rw [List.getElem?_map, List.getElem?_eq_none (by rw [List.length_range]; omega)]; rfl
  have hlen : (hpWn z n E).length = n := by unfold hpWn; rw [List.length_map, List.length_range]
  by_cases h : k = i
  · subst h
    rw [if_pos rfl, hlen]
    by_cases hk : k < n
    · rw [if_pos hk, hpWn_get hk]
      simp [va_up]
    · rw [if_neg hk, hn _ hk]
  · rw [if_neg h]
    by_cases hi : i < n
    · rw [hpWn_get hi, hpWn_get hi]
      simp [va_up, Ne.symm h]
    · rw [hn _ hi, hn _ hi]
theorem hpWn_push {D : va_G} {z n : Nat} {E : Nat → va_E} {x : va_E} {H : Heap} (h : va_P D hpCl (hpWn z n E) H) (hx : va_at D hpCl (z + n, x) H) : va_P D hpCl (hpWn z (n + 1) (va_up E n x)) H := by
  intro k q hq
  obtain ⟨hk, rfl⟩ := hpWn_inv hq
  by_cases e : k = n
  · subst e
    simp [va_up]
    exact hx
  · have e2 : va_up E n x k = E k := by simp [va_up, e]
    rw [e2]
    exact h k _ (hpWn_get (by omega))
theorem hpWn_hpW {z : Nat} {cy : Nat → ClassId} {E : Nat → va_E} {σ : hpMem} (h : ∀ k, k < 217 → E k = hpE z cy k (σ k)) : hpWn z 217 E = hpW z cy σ := by
  unfold hpWn hpW
  apply List.map_congr_left
  intro k hk
  rw [h k (List.mem_range.mp hk)]
/-- one entry told otherwise, its cell the same -/
theorem hpWn_same {D : va_G} {z n k : Nat} {E : Nat → va_E} {x : va_E} {H : Heap} (h : va_P D hpCl (hpWn z n E) H) (hk : k < n) (hx : va_at D hpCl (z + k, E k) H → va_at D hpCl (z + k, x) H) : va_P D hpCl (hpWn z n (va_up E k x)) H := by
  intro j q hq
  obtain ⟨hj, rfl⟩ := hpWn_inv hq
  by_cases e : j = k
  · subst e
    simp [va_up]
    exact hx (h j _ (hpWn_get hj))
  · have e2 : va_up E k x j = E j := by simp [va_up, e]
    rw [e2]
    exact h j _ (hpWn_get hj)
theorem hp_arrSame {D : va_G} {a N : Nat} {cA : ClassId} {f g : Nat → Option Nat} {H : Heap} (hfg : ∀ i, i < N → f i = g i) (h : va_at D hpCl (a, .inl (cA, N, .inr (.inr (.inr (.inr f))))) H) : va_at D hpCl (a, .inl (cA, N, .inr (.inr (.inr (.inr g))))) H := by
  have e : vp_cell cA (N, .inr (.inr (.inr (.inr f)))) = vp_cell cA (N, .inr (.inr (.inr (.inr g)))) := by
    rw [vp_cell_q, vp_cell_q]
    unfold arrV
    congr 1
    apply Array.ext
    · simp
    · intro i h1 h2
      simp only [Array.getElem_ofFn]
      rw [hfg i (by simpa using h1)]
  show H[a]? = some (vp_cell cA (N, .inr (.inr (.inr (.inr g)))))
  rw [← e]
  exact h
/-- arrays of references can be made -/
def hpOver (w : Cond) : Bool := match w with
  | .arrayOver .. => true
  | _ => false
def hpA (U : State) : Prop := ∀ w ∈ tables_1, hpOver w = true → w.before #[] U = true
theorem hpA.warm {s U : State} (hW : s.WarmedH U.vm) (h : hpA s) : hpA U := by
  intro w hw hn
  have h0 := h w hw hn
  cases w with
  | arrayOver ty =>
    have h1 : (Cond.arrayOver ty).before #[] (s.setVm U.vm) = true := by rw [Cond.arrayOver_setVmC hW.alike]; exact h0
    exact h1
  | _ => simp [hpOver] at hn
theorem hpA_of {U : State} {w : Cond} (i : Nat) (h : tables_1[i]? = some w) (hn : hpOver w = true) (hA : hpA U) : w.before #[] U = true := hA w (List.mem_of_getElem? h) hn
def hpPreX (D : va_G) (cy : Nat → ClassId) (z n : Nat) (E : Nat → va_E) (U : State) : Prop := U.heap.size = z + n ∧ va_P D hpCl (hpWn z n E) U.heap ∧ va_K D hpCl (hpTy cy) U ∧ hpN U ∧ hpA U
def hpQX (D : va_G) (cy : Nat → ClassId) (z n cnt : Nat) (E0 : Nat → va_E) : Array Value → State → Outcome → State → Prop := fun _ st oc t => (oc = .returned none ∧ ∃ E : Nat → va_E, va_P D hpCl (hpWn z (n + cnt) E) t.heap ∧ (∀ j, j < n → E j = E0 j) ∧ (∀ j, n ≤ j → j < n + cnt → E j = hpE z cy j (hp0 j))) ∧ va_F (fun q => z ≤ q) st t
/-- a constructor's contract: the object is cell n, the last one; cnt cells of it stand then -/
def hpK (l : Launch) (D : va_G) (cy : Nat → ClassId) (z : Nat) (y : MethodName) (bytes : ByteArray) (maxL : Nat) (rm : Room) (n cnt mc ms : Nat) (E0 : Nat → va_E) : Prop :=
  Met l y (Cond.code y bytes maxL none :: hpT) rm (va_Pc [.ref (z + n)] (hpPreX D cy z (n + 1) E0)) (hpQX D cy z n cnt E0) mc ms (fun q => z ≤ q)
section HPX
variable {p : Program} {l : Launch} {e : Env} {R : Room} {s : State} {m : MethodId} {args : Array Value} {below : List Frame} {meth : Method} {c : Code} {cells slots nL : Nat} {D : va_G} {cy : Nat → ClassId} {z : Nat} {H0 : Heap} {Q : State → Prop} {pc n : Nat} {E : Nat → va_E} {lv : List (Nat × Value)} {st : List Value} {cc : ByteArray} {own : String} {H : Heap} {locs : List Loc} {ls : Array Slot}
theorem hp_metX {y : MethodName} {bytes : ByteArray} {maxL : Nat} {rm : Room} {cnt mc ms : Nat} {E0 : Nat → va_E} (hy : plainName y.cls = true) (hlen : 1 ≤ maxL)
    (h : ∀ (p : Program) (e : Env) (s : State) (m : MethodId) (below : List Frame) (meth : Method) (c : Code) (ls : Array Slot), hpC p s m #[.ref (z + n)] c bytes maxL y.cls D cy → hpA s → meth.sig.returnType = none → meth.locks = false → meth.name = y.name → s.heap.size = z + (n + 1) → lv_has ls maxL [(0, .ref (z + n))] → va_P D hpCl (hpWn z (n + 1) E0) s.heap → va_S (fun q => z ≤ q) s.heap s.heap [] →
      W p l e rm s m #[.ref (z + n)] below meth c s.heap [] 0 0 (MQ below (hpQX D cy z n cnt E0) #[.ref (z + n)] s mc ms (fun q => z ≤ q)) (F0 m 0 ls [])) : hpK l D cy z y bytes maxL rm n cnt mc ms E0 := by
  unfold hpK
  refine Met.ofW (cc := bytes) (maxL := maxL) (ret := none) hy rfl ?_
  intro p e s m args below meth c s₁ B hml hv
  obtain ⟨rfl, hsz, hP, hK, hN, hA⟩ := hv
  have hts := atoms_spec (ws := Cond.code y bytes maxL none :: hpT) B.pre
  have hown : s.vm.findClass y.cls = some m.cls := findClass_of_methodNamed B.named
  have hl := lv_entry [.ref (z + n)] (n := maxL) hlen
  rw [lg_entry_eq]
  exact h p e s m below meth c _ ⟨B.exec, B.bytes, hml, hown, fun w hw => hts w (List.mem_cons_of_mem _ hw), hN, hK⟩ hA B.returns B.notSynchronized (name_of_methodNamed B.named B.method).1 hsz hl hP va_S.rf
/-- how many cells there are: by what was made -/
theorem n_size {g : JFrame} {n1 : Nat} (h0 : s.heap.size = z + n1) (hc : n1 + cells = n) (hS : va_S (fun q => z ≤ q) s.heap H locs) (hP : va_P D hpCl (hpWn z n E) H) (kk : H.size = z + n → W p l e R s m args below meth c H locs cells slots Q g) : W p l e R s m args below meth c H locs cells slots Q g := fun T hT X => by
  have h1 : (T.setVm s.vm).heap.size ≤ s.heap.size + cells := X.same.2.2.1
  have h2 : (T.setVm s.vm).heap = H := hT
  rw [h2] at h1
  have h3 : z + n ≤ H.size := by
    rcases Nat.eq_zero_or_pos n with q | q
    · have := hS.1
      omega
    · have := (hP (n - 1) _ (hpWn_get (by omega))).lt
      have h4 : z + (n - 1) < H.size := this
      omega
  exact kk (by omega) T hT X
theorem n_new {ci N idx : Nat} {Cn : String} {T : u_T} {ty : Nat → FieldType} {fs : List Value} (C : hpC p s m args c cc nL own D cy) (O : hpO ci Cn T N ty) (hfs : ∀ j, j < N → defaultValue (ty j) = vp_V fs j) (w1 : Cond.classLink own idx Cn ∈ hpT) (w2 : Cond.instantiable Cn N ∈ hpT) (w3 : Cond.initialized Cn ∈ hpT) (hP : va_P D hpCl (hpWn z n E) H) (hS : va_S (fun q => z ≤ q) H0 H locs) (hsz : H.size = z + n) (hcells : cells + 1 ≤ R.cells) (hslots : slots + N ≤ R.slots) (d : decode cc pc = .ok (.new idx, 3))
    (kk : ∀ H1 : Heap, va_P D hpCl (hpWn z (n + 1) (va_up E n (.inr (ci, fs)))) H1 → va_S (fun q => z ≤ q) H0 H1 locs → W p l e R s m args below meth c H1 locs (cells + 1) (slots + N) Q (F0 m (pc + 3) ls (.ref (z + n) :: st))) : W p l e R s m args below meth c H locs cells slots Q (F0 m pc ls st) := by
  have hKn := C.2.2.2.2.2.2.1 ci _ O.1
  refine W.newcK C.1 C.2.1 C.2.2.2.1 (C.2.2.2.2.1 _ w1) (C.2.2.2.2.1 _ w2) (C.2.2.2.2.1 _ w3) rfl d hcells hslots hKn.2.1 hsz fun H1 kC hkC e1 z1 o1 => ?_
  have hk : ∀ (k : Nat) (x : Nat × va_E), (hpWn z n E)[k]? = some x → H1[x.1]? = H[x.1]? := fun k x hx => o1 x.1 (by rw [← hsz]; exact (hP k x hx).lt)
  refine kk H1 (hpWn_push (hP.kept hk) ⟨_, O.1, (u_born ty C.2.2.2.2.1 O.2.2.2.1 hKn hkC e1 O.2.2.2.2.1).to hfs⟩) ⟨Nat.le_trans hS.1 (by omega), fun x h1 h2 => (o1 x (by have := hS.1; omega)).trans (hS.2.1 x h1 h2), hS.2.2⟩
theorem n_newa {atype : ArrayType} {ty : FieldType} {t0 N ci : Nat} {v : Int} {a0 : vp_A} (C : hpC p s m args c cc nL own D cy) (w1 : Cond.arrayClass (newarray.typeOf atype) ∈ hpT) (hty : newarray.typeOf atype = ty) (ht : (hpTy cy)[t0]? = some (cy ci, ty)) (hra : ∀ U, va_RA U (cy ci) ty → U.vm.findClass ("[" ++ ty.toString) = some (cy ci)) (ha : ∀ cA : ClassId, vp_cell cA a0 = arrV cA N (fun _ => defaultValue ty)) (hv : (N : Int) = v) (hN : N < 100000) (hb : N * componentBytes ty ≤ 536870912) (hP : va_P D hpCl (hpWn z n E) H) (hS : va_S (fun q => z ≤ q) H0 H locs) (hsz : H.size = z + n) (hcells : cells + 1 ≤ R.cells) (hslots : slots + N ≤ R.slots) (d : decode cc pc = .ok (.newarray atype, 2))
    (kk : ∀ H1 : Heap, va_P D hpCl (hpWn z (n + 1) (va_up E n (.inl (cy ci, a0)))) H1 → va_S (fun q => z ≤ q) H0 H1 locs → W p l e R s m args below meth c H1 locs (cells + 1) (slots + N) Q (F0 m (pc + 2) ls (.ref (z + n) :: st))) : W p l e R s m args below meth c H locs cells slots Q (F0 m pc ls (.int (hpI v) :: st)) := by
  subst hty
  have rv : hpR v := ⟨by omega, by omega⟩
  refine va_newaK C.1 C.2.1 (C.2.2.2.2.1 _ w1) rfl d rfl (fun hh => by rw [← hpI_0, hpI_lt rv hpR_0] at hh; omega) (by rw [hpI_clamp rv]; omega) hb hcells hslots hsz fun H1 cA e1 z1 o1 hAr hNm => ?_
  have hcA : cA = cy ci := Option.some.inj (hNm.symm.trans (hra s (C.2.2.2.2.2.2.2 t0 _ ht).2))
  subst hcA
  have hk : ∀ (k : Nat) (x : Nat × va_E), (hpWn z n E)[k]? = some x → H1[x.1]? = H[x.1]? := fun k x hx => o1 x.1 (by rw [← hsz]; exact (hP k x hx).lt)
  refine kk H1 (hpWn_push (hP.kept hk) ?_) ⟨Nat.le_trans hS.1 (by omega), fun x h1 h2 => (o1 x (by have := hS.1; omega)).trans (hS.2.1 x h1 h2), hS.2.2⟩
  show H1[z + n]? = some (vp_cell _ _)
  rw [ha]
  exact e1
theorem n_newq {t0 N ci idx : Nat} {Cn : String} {v : Int} (C : hpC p s m args c cc nL own D cy) (w1 : Cond.classLink own idx Cn ∈ hpT) (w2 : va_AO Cn s) (ht : (hpTy cy)[t0]? = some (cy ci, .object Cn)) (hv : (N : Int) = v) (hN : N < 100000) (hP : va_P D hpCl (hpWn z n E) H) (hS : va_S (fun q => z ≤ q) H0 H locs) (hsz : H.size = z + n) (hcells : cells + 1 ≤ R.cells) (hslots : slots + N ≤ R.slots) (d : decode cc pc = .ok (.anewarray idx, 3))
    (kk : ∀ H1 : Heap, va_P D hpCl (hpWn z (n + 1) (va_up E n (.inl (cy ci, N, .inr (.inr (.inr (.inr (fun _ => none)))))))) H1 → va_S (fun q => z ≤ q) H0 H1 locs → W p l e R s m args below meth c H1 locs (cells + 1) (slots + N) Q (F0 m (pc + 3) ls (.ref (z + n) :: st))) : W p l e R s m args below meth c H locs cells slots Q (F0 m pc ls (.int (hpI v) :: st)) := by
  have rv : hpR v := ⟨by omega, by omega⟩
  have ev : (hpI v).toNatClampNeg = N := by rw [hpI_clamp rv]; omega
  refine W.anew C.1 C.2.1 C.2.2.2.1 (C.2.2.2.2.1 _ w1) (va_AO.use w2) rfl d rfl (fun hh => by rw [← hpI_0, hpI_lt rv hpR_0] at hh; omega) (by rw [ev]; omega) hcells (by rw [ev]; exact hslots) fun cA kA comp f1 f2 f3 f4 => ?_
  obtain ⟨kA', comp', g1, g2, g3, g4⟩ := (C.2.2.2.2.2.2.2 t0 _ ht).2
  have hcA : cA = cy ci := Option.some.inj (f1.symm.trans g4)
  subst hcA
  rw [ev]
  generalize hH1 : H.push ({ cls := cy ci, slots := Array.replicate N .null, vm := .none } : Cell) = H1
  have z1 : H1.size = H.size + 1 := by rw [← hH1, Array.size_push]
  have e1 : H1[H.size]? = some (arrV (cy ci) N (fun _ => .null)) := by rw [← hH1, Array.getElem?_push_size, ← arrV_new]
  have o1 : ∀ q : Nat, q < H.size → H1[q]? = H[q]? := fun q hq => by rw [← hH1, Array.getElem?_push, if_neg (Nat.ne_of_lt hq)]
  have hk : ∀ (k : Nat) (x : Nat × va_E), (hpWn z n E)[k]? = some x → H1[x.1]? = H[x.1]? := fun k x hx => o1 x.1 ((hP k x hx).lt)
  rw [hsz] at e1 ⊢
  refine kk H1 (hpWn_push (hP.kept hk) ?_) ⟨Nat.le_trans hS.1 (by omega), fun x h1 h2 => (o1 x (by have := hS.1; omega)).trans (hS.2.1 x h1 h2), hS.2.2⟩
  exact e1
theorem n_put {v : Value} {ci k N idx : Nat} {Cn : String} {T : u_T} {ty : Nat → FieldType} {fs fs' : List Value} (C : hpC p s m args c cc nL own D cy) (O : hpO ci Cn T N ty) (i : Nat) (hk : k < n) (he : E k = .inr (ci, fs)) (hi : i < N) (hfin : (T i).2.2.2 = false) (hw : Cond.fieldLink own idx (T i).1 (T i).2.1 (T i).2.2.1 ∈ hpT) (hn : narrow (ty i) v = v) (hfit : fits (ty i) v = true) (hl : i < fs.length) (hfs : fs.set i v = fs') (hP : va_P D hpCl (hpWn z n E) H) (hS : va_S (fun q => z ≤ q) H0 H locs) (d : decode cc pc = .ok (.putfield idx, 3))
    (kk : ∀ (H1 : Heap) (locs1 : List Loc), va_P D hpCl (hpWn z n (va_up E k (.inr (ci, fs')))) H1 → va_S (fun q => z ≤ q) H0 H1 locs1 → W p l e R s m args below meth c H1 locs1 cells slots Q (F0 m (pc + 3) ls st)) : W p l e R s m args below meth c H locs cells slots Q (F0 m pc ls (v :: .ref (z + k) :: st)) :=
  va_put C.1 C.2.1 C.2.2.2.2.1 O.2.2.2.1 ty O.2.2.2.2.1 O.2.2.2.2.2 C.2.2.2.1 C.2.2.2.2.2.2 hP hpWn_D hS k (by rw [hpWn_get hk, he]) O.1 i hi (C.2.2.2.2.1 _ hw) (fun _ h => h) hfin (O.2.2.2.2.1 i hi) hn hfit hl d (fun H1 locs1 hP1 _ hS1 => kk H1 locs1 (by rw [hpWn_set, hfs] at hP1; exact hP1) hS1)
theorem n_putF {v : Value} {ci k N idx : Nat} {Cn : String} {T : u_T} {ty : Nat → FieldType} {fs fs' : List Value} (C : hpC p s m args c cc nL own D cy) (O : hpO ci Cn T N ty) (i : Nat) (hk : k < n) (he : E k = .inr (ci, fs)) (hi : i < N) (hfin : (T i).2.2.2 = true) (hnm : meth.name = "<init>") (hdecl : (T i).1 = own) (hw : Cond.fieldLink own idx (T i).1 (T i).2.1 (T i).2.2.1 ∈ hpT) (hn : narrow (ty i) v = v) (hfit : fits (ty i) v = true) (hl : i < fs.length) (hfs : fs.set i v = fs') (hP : va_P D hpCl (hpWn z n E) H) (hS : va_S (fun q => z ≤ q) H0 H locs) (d : decode cc pc = .ok (.putfield idx, 3))
    (kk : ∀ (H1 : Heap) (locs1 : List Loc), va_P D hpCl (hpWn z n (va_up E k (.inr (ci, fs')))) H1 → va_S (fun q => z ≤ q) H0 H1 locs1 → W p l e R s m args below meth c H1 locs1 cells slots Q (F0 m (pc + 3) ls st)) : W p l e R s m args below meth c H locs cells slots Q (F0 m pc ls (v :: .ref (z + k) :: st)) :=
  va_putF C.1 C.2.1 C.2.2.2.2.1 O.2.2.2.1 ty O.2.2.2.2.1 O.2.2.2.2.2 C.2.2.2.1 C.2.2.2.2.2.2 hP hpWn_D hS k (by rw [hpWn_get hk, he]) O.1 i hi (C.2.2.2.2.1 _ hw) (fun _ h => h) hfin hnm hdecl (O.2.2.2.2.1 i hi) hn hfit hl d (fun H1 locs1 hP1 _ hS1 => kk H1 locs1 (by rw [hpWn_set, hfs] at hP1; exact hP1) hS1)
theorem n_get {v : Value} {ci k N idx : Nat} {Cn : String} {T : u_T} {ty : Nat → FieldType} {fs : List Value} (C : hpC p s m args c cc nL own D cy) (O : hpO ci Cn T N ty) (i : Nat) (hk : k < n) (he : E k = .inr (ci, fs)) (hi : i < N) (hw : Cond.fieldLink own idx (T i).1 (T i).2.1 (T i).2.2.1 ∈ hpT) (hv : fs[i]? = some v) (hP : va_P D hpCl (hpWn z n E) H) (d : decode cc pc = .ok (.getfield idx, 3))
    (kk : W p l e R s m args below meth c H locs cells slots Q (F0 m (pc + 3) ls (v :: st))) : W p l e R s m args below meth c H locs cells slots Q (F0 m pc ls (.ref (z + k) :: st)) :=
  va_get C.1 C.2.1 C.2.2.2.2.1 O.2.2.2.1 C.2.2.2.1 C.2.2.2.2.2.2 hP k (by rw [hpWn_get hk, he]) O.1 i hi (C.2.2.2.2.1 _ hw) (fun _ h => h) hv d kk
theorem n_aast {ci k k' N t0 c0 : Nat} {a : Int} {Cn : String} {T : u_T} {ty : Nat → FieldType} {NN : Nat} {fs : List Value} {f : Nat → Option Nat} (C : hpC p s m args c cc nL own D cy) (O : hpO ci Cn T NN ty) (hk : k < n) (hk' : k' < n) (ha : E k = .inl (cy c0, N, .inr (.inr (.inr (.inr f))))) (ht : (hpTy cy)[t0]? = some (cy c0, .object Cn)) (he : E k' = .inr (ci, fs)) (i : Nat) (hi : (i : Int) = a) (h : i < N) (hN : N < 100000) (hP : va_P D hpCl (hpWn z n E) H) (hS : va_S (fun q => z ≤ q) H0 H locs) (d : decode cc pc = .ok (.aastore, 1))
    (kk : ∀ (H1 : Heap) (locs1 : List Loc), va_P D hpCl (hpWn z n (va_up E k (.inl (cy c0, N, .inr (.inr (.inr (.inr (va_up f i (some (z + k')))))))))) H1 → va_S (fun q => z ≤ q) H0 H1 locs1 → W p l e R s m args below meth c H1 locs1 cells slots Q (F0 m (pc + 1) ls st)) : W p l e R s m args below meth c H locs cells slots Q (F0 m pc ls (.ref (z + k') :: .int (hpI a) :: .ref (z + k) :: st)) :=
  va_astq C.1 C.2.1 C.2.2.2.2.2.2 hP hpWn_D hS k t0 k' ci (by rw [hpWn_get hk, ha]) ht (by rw [hpWn_get hk', he]) O.1 (hp_ix hi h (by omega)) d (fun H1 locs1 hP1 _ hS1 => kk H1 locs1 (by rw [hp_ixn hi h (by omega), hpWn_set] at hP1; exact hP1) hS1)
theorem n_iast {k N : Nat} {a b : Int} {r : Nat → Int} (C : hpC p s m args c cc nL own D cy) (hk : k < n) (ha : E k = .inl (cy 11, N, .inl (fun i => hpI (r i)))) (i : Nat) (hi : (i : Int) = a) (h : i < N) (hN : N < 100000) (hP : va_P D hpCl (hpWn z n E) H) (hS : va_S (fun q => z ≤ q) H0 H locs) (d : decode cc pc = .ok (.iastore, 1))
    (kk : ∀ (H1 : Heap) (locs1 : List Loc), va_P D hpCl (hpWn z n (va_up E k (.inl (cy 11, N, .inl (fun j => hpI (hpu r i b j)))))) H1 → va_S (fun q => z ≤ q) H0 H1 locs1 → W p l e R s m args below meth c H1 locs1 cells slots Q (F0 m (pc + 1) ls st)) : W p l e R s m args below meth c H locs cells slots Q (F0 m pc ls (.int (hpI b) :: .int (hpI a) :: .ref (z + k) :: st)) :=
  va_iast C.1 C.2.1 C.2.2.2.2.2.2 hP hpWn_D hS k 1 (by rw [hpWn_get hk, ha]) rfl (hp_ix hi h (by omega)) d (fun H1 locs1 hP1 _ hS1 => kk H1 locs1 (by rw [hp_ixn hi h (by omega), hp_updI, hpWn_set] at hP1; exact hP1) hS1)
/-- what is fixed of a constructor -/
def hpYK (y : MethodName) (bytes : ByteArray) (maxL : Nat) : Prop := Cond.instanceMethod y ∈ hpT ∧ Cond.initialized y.cls ∈ hpT ∧ Cond.code y bytes maxL none ∈ hpT ∧ y.name = "<init>" ∧ y.cls ≠ "java/lang/invoke/MethodHandle" ∧ y.cls ≠ "java/lang/invoke/VarHandle" ∧ (parseMethodDescriptor y.desc).map (fun d => d.parameters.length) = some 0
theorem hp_blindX {av : List Value} {N : Nat} : FrameBlind (va_Pc av (hpPreX D cy z N E)) := fun a U g mk q => by
  obtain ⟨q0, qz, qP, qK, qN, qA⟩ := q
  exact ⟨q0, qz, qP, va_K.moved (u := U) (U := U.calling g mk a) (Vm.Alike.refl U.vm) qK, fun w hw hn => va_Nw.same (u := U) (U := U.calling g mk a) (by cases w <;> first | rfl | (simp [hpNest] at hn)) rfl (qN w hw hn), fun w hw hn => by cases w <;> first | exact qA _ hw hn | (simp [hpOver] at hn)⟩
theorem hp_runX {n0 cnt mc ms : Nat} {a : Array Value} {st0 rest : List Value} (hS : va_S (fun q => z ≤ q) H0 H locs)
    (hr : va_Run p l e R s m args below meth c H locs cells slots mc ms (F0 m pc ls st0) rest (hpQX D cy z n0 cnt E a) (fun q => z ≤ q)) (kk : ∀ (H1 : Heap) (locs1 : List Loc) (E1 : Nat → va_E), va_P D hpCl (hpWn z (n0 + cnt) E1) H1 → va_S (fun q => z ≤ q) H0 H1 locs1 → (∀ j, j < n0 → E1 j = E j) → (∀ j, n0 ≤ j → j < n0 + cnt → E1 j = hpE z cy j (hp0 j)) → W p l e R s m args below meth c H1 locs1 (cells + mc) (slots + ms) Q (F0 m (pc + 3) ls rest)) : W p l e R s m args below meth c H locs cells slots Q (F0 m pc ls st0) := by
  intro T hT X
  obtain ⟨v, st₀, t, T', L, h0, X', hL, e1, e2, ⟨⟨hv, E1, hb, hj, hi⟩, hz, hk⟩, stp⟩ := hr T hT X
  cases hv
  rw [h0] at hz hk
  obtain ⟨t2, a1, b1⟩ := kk T'.heap (locs ++ L) E1 (by rw [e1]; exact hb)
    ⟨Nat.le_trans hS.1 (by rw [e1]; exact hz), fun q h1 h2 => by rw [e1, hk q (Nat.lt_of_lt_of_le h1 hS.1) h2]; exact hS.2.1 q h1 h2, fun q hq => by
      rcases List.mem_append.mp hq with h | h
      · exact hS.2.2 q h
      · exact hL q h⟩ hj hi T' rfl X'
  exact ⟨t2, stp t2 a1, b1⟩
theorem n_ctor {y : MethodName} {bytes : ByteArray} {maxL : Nat} {rm : Room} {k idx cnt mc ms : Nat} (C : hpC p s m args c cc nL own D cy) (A : hpA s) (Y : hpYK y bytes maxL) (w : Cond.methodLink own idx y ∈ hpT) (hM : hpK l D cy z y bytes maxL rm k cnt mc ms E) (hl : lv_has ls nL lv) (hP : va_P D hpCl (hpWn z (k + 1) E) H) (hS : va_S (fun q => z ≤ q) H0 H locs) (hsz : H.size = z + (k + 1)) (hR : rm.cells = mc ∧ rm.slots = ms ∧ rm.frames + 1 ≤ R.frames ∧ 8 + (maxL + 11) + rm.locals ≤ R.locals) (hf : cells + mc ≤ R.cells ∧ slots + ms ≤ R.slots) (hw8 : (st.map fun v => v.category).sum ≤ 8) (d : decode cc pc = .ok (.invokespecial idx, 3))
    (kk : ∀ (H1 : Heap) (locs1 : List Loc) (E1 : Nat → va_E), va_P D hpCl (hpWn z (k + cnt) E1) H1 → va_S (fun q => z ≤ q) H0 H1 locs1 → (∀ j, j < k → E1 j = E j) → (∀ j, k ≤ j → j < k + cnt → E1 j = hpE z cy j (hp0 j)) → W p l e R s m args below meth c H1 locs1 (cells + mc) (slots + ms) Q (F0 m (pc + 3) ls st)) : W p l e R s m args below meth c H locs cells slots Q (F0 m pc ls (.ref (z + k) :: st)) := by
  obtain ⟨y1, y3, y4, y0, y5, y6, y7⟩ := Y
  have hts : ∀ w ∈ (Cond.initialized y.cls :: hpT), w.before args s = true := fun w hw => by
    rcases List.mem_cons.mp hw with h | h
    · subst h; exact C.2.2.2.2.1 _ y3
    · exact C.2.2.2.2.1 _ h
  exact hp_runX hS (va_runI (Ts := Cond.initialized y.cls :: hpT) (As := []) (rest := st) ⟨C.1, C.2.1, C.2.2.1, C.2.2.2.1, hts⟩ hM (cwI 0 hts (hp_good y4) rfl hR.1 hR.2.1 (C.2.2.2.2.1 _ y3) (C.2.2.2.2.1 _ w) (C.2.2.2.2.1 _ y1) y0 ⟨y5, y6, y7⟩ hR.2.2) ⟨hp_blindX, fun U hU hW => ⟨rfl, by rw [hU]; exact hsz, by rw [hU]; exact hP, va_K.moved hW.alike C.2.2.2.2.2.2, C.2.2.2.2.2.1.warm hW, A.warm hW⟩⟩ rfl rfl hl.1 rfl (lv_room hw8) d hf) kk
theorem n_ctorN {y : MethodName} {bytes : ByteArray} {maxL : Nat} {rm : Room} {k idx cnt mc ms : Nat} {host : String} (C : hpC p s m args c cc nL own D cy) (A : hpA s) (Y : hpYK y bytes maxL) (w : hpN s → va_Nw (.methodLinkNest own idx y host) s) (hM : hpK l D cy z y bytes maxL rm k cnt mc ms E) (hl : lv_has ls nL lv) (hP : va_P D hpCl (hpWn z (k + 1) E) H) (hS : va_S (fun q => z ≤ q) H0 H locs) (hsz : H.size = z + (k + 1)) (hR : rm.cells = mc ∧ rm.slots = ms ∧ rm.frames + 1 ≤ R.frames ∧ 8 + (maxL + 11) + rm.locals ≤ R.locals) (hf : cells + mc ≤ R.cells ∧ slots + ms ≤ R.slots) (hw8 : (st.map fun v => v.category).sum ≤ 8) (d : decode cc pc = .ok (.invokespecial idx, 3))
    (kk : ∀ (H1 : Heap) (locs1 : List Loc) (E1 : Nat → va_E), va_P D hpCl (hpWn z (k + cnt) E1) H1 → va_S (fun q => z ≤ q) H0 H1 locs1 → (∀ j, j < k → E1 j = E j) → (∀ j, k ≤ j → j < k + cnt → E1 j = hpE z cy j (hp0 j)) → W p l e R s m args below meth c H1 locs1 (cells + mc) (slots + ms) Q (F0 m (pc + 3) ls st)) : W p l e R s m args below meth c H locs cells slots Q (F0 m pc ls (.ref (z + k) :: st)) := by
  obtain ⟨y1, y3, y4, y0, y5, y6, y7⟩ := Y
  have hts : ∀ w ∈ (Cond.initialized y.cls :: hpT), w.before args s = true := fun w hw => by
    rcases List.mem_cons.mp hw with h | h
    · subst h; exact C.2.2.2.2.1 _ y3
    · exact C.2.2.2.2.1 _ h
  exact hp_runX hS (va_runIN (Ts := Cond.initialized y.cls :: hpT) (As := []) (rest := st) ⟨C.1, C.2.1, C.2.2.1, C.2.2.2.1, hts⟩ hM ⟨va_cnB 0 hts (hp_good y4) rfl hR.1 hR.2.1 (w C.2.2.2.2.2.1) (C.2.2.2.2.1 _ y3) ⟨y5, y6, y7⟩ hR.2.2, y0, C.2.2.2.2.1 _ y1⟩ ⟨hp_blindX, fun U hU hW => ⟨rfl, by rw [hU]; exact hsz, by rw [hU]; exact hP, va_K.moved hW.alike C.2.2.2.2.2.2, C.2.2.2.2.2.1.warm hW, A.warm hW⟩⟩ rfl rfl hl.1 rfl (lv_room hw8) d hf) kk
end HPX

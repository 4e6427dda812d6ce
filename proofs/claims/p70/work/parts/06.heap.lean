section HPH
variable {p : Program} {l : Launch} {e : Env} {R : Room} {s : State} {m : MethodId} {args : Array Value} {below : List Frame} {meth : Method} {c : Code} {cells slots nL : Nat} {D : va_G} {cy : Nat → ClassId} {z : Nat} {H0 : Heap} {Q : State → Prop} {σ : hpMem} {pc : Nat} {lv : List (Nat × Value)} {st : List Value} {cc : ByteArray} {own : String}
/-- what is fixed of a class: its number, its name, its fields -/
def hpO (ci : Nat) (Cn : String) (T : u_T) (N : Nat) (ty : Nat → FieldType) : Prop := hpCl[ci]? = some (Cn, T, N) ∧ ci < 10 ∧ hpnf ci = N ∧ (∀ w ∈ u_ws Cn T N, w ∈ hpT) ∧ (∀ k, k < N → parseFieldDescriptor (T k).2.2.1 = some (ty k)) ∧ (∀ a, a < N → ∀ b, b < N → a ≠ b → (T a).2.1 ≠ (T b).2.1)
theorem hp_obj {z k ci N : Nat} {Cn : String} {T : u_T} {ty : Nat → FieldType} {σ : hpMem} {cy : Nat → ClassId} (O : hpO ci Cn T N ty) (hk : hpkd k = ci) : (hpW z cy σ)[k]? = some (z + k, .inr (ci, (List.range N).map (hpfv z k (σ k)))) := by
  rw [hpW_get (hpkd_lt hk (by have := O.2.1; omega)), hpE_o hk O.2.1, O.2.2.1]
theorem h_get {v : Value} {ci k N idx : Nat} {Cn : String} {T : u_T} {ty : Nat → FieldType} (C : hpC p s m args c cc nL own D cy) (O : hpO ci Cn T N ty) (i : Nat) (hk : hpkd k = ci) (hi : i < N) (hw : Cond.fieldLink own idx (T i).1 (T i).2.1 (T i).2.2.1 ∈ hpT) (d : decode cc pc = .ok (.getfield idx, 3)) (hv : hpfv z k (σ k) i = v)
    (kk : hpV p l e R s m args below meth c cells slots nL D cy z H0 Q σ (pc + 3) lv (v :: st)) : hpV p l e R s m args below meth c cells slots nL D cy z H0 Q σ pc lv (.ref (z + k) :: st) := fun H locs ls hl hP hS =>
  va_get C.1 C.2.1 C.2.2.2.2.1 O.2.2.2.1 C.2.2.2.1 C.2.2.2.2.2.2 hP k (hp_obj O hk) O.1 i hi (C.2.2.2.2.1 _ hw) (fun _ h => h) (by rw [hp_fget hi, hv]) d (kk H locs ls hl hP hS)
theorem h_getN {v : Value} {ci k N idx : Nat} {Cn host : String} {T : u_T} {ty : Nat → FieldType} (C : hpC p s m args c cc nL own D cy) (O : hpO ci Cn T N ty) (i : Nat) (hk : hpkd k = ci) (hi : i < N) (hw : hpN s → va_Nw (.fieldLinkNest own idx (T i).1 (T i).2.1 (T i).2.2.1 host) s) (d : decode cc pc = .ok (.getfield idx, 3)) (hv : hpfv z k (σ k) i = v)
    (kk : hpV p l e R s m args below meth c cells slots nL D cy z H0 Q σ (pc + 3) lv (v :: st)) : hpV p l e R s m args below meth c cells slots nL D cy z H0 Q σ pc lv (.ref (z + k) :: st) := fun H locs ls hl hP hS =>
  va_getN C.1 C.2.1 C.2.2.2.2.1 O.2.2.2.1 C.2.2.2.1 C.2.2.2.2.2.2 hP k (hp_obj O hk) O.1 i hi (va_Nw.use rfl (hw C.2.2.2.2.2.1)) (fun _ h => h) (by rw [hp_fget hi, hv]) d (kk H locs ls hl hP hS)
theorem hp_fvR {z k i k' : Nat} {r : Nat → Int} (hf : hpfk (hpkd k) i = 1) (hr : hprf k i = k') : hpfv z k r i = .ref (z + k') := by unfold hpfv; rw [if_pos hf, hr]
theorem hp_fvI {z k i : Nat} {r : Nat → Int} {a : Int} (hf : hpfk (hpkd k) i = 0) (hr : r i = a) : hpfv z k r i = .int (hpI a) := by unfold hpfv; rw [if_neg (by omega), if_neg (by omega), hr]
theorem hp_fvJ {z k i : Nat} {r : Nat → Int} {a : Int} (hf : hpfk (hpkd k) i = 2) (hr : r i = a) : hpfv z k r i = .long (hpJ a) := by unfold hpfv; rw [if_neg (by omega), if_pos hf, hr]
theorem hp_setO {z k ci N i : Nat} {Cn : String} {T : u_T} {ty : Nat → FieldType} {σ : hpMem} {cy : Nat → ClassId} {a : Int} {v : Value} (O : hpO ci Cn T N ty) (hk : hpkd k = ci) (hv : hpfv z k (hpu (σ k) i a) i = v) : (hpW z cy σ).set k (z + k, .inr (ci, ((List.range N).map (hpfv z k (σ k))).set i v)) = hpW z cy (hpw σ k i a) := by
  refine hpW_set ?_ (fun j hj => hpw_ne hj)
  rw [hpw_row, hpE_o hk O.2.1, O.2.2.1, hp_fset hv]
theorem hpu_at {r : Nat → Int} {i : Nat} {a : Int} : hpu r i a i = a := if_pos rfl
theorem h_put {v : Value} {a : Int} {ci k N idx : Nat} {Cn : String} {T : u_T} {ty : Nat → FieldType} (C : hpC p s m args c cc nL own D cy) (O : hpO ci Cn T N ty) (i : Nat) (hk : hpkd k = ci) (hi : i < N) (hfin : (T i).2.2.2 = false) (hw : Cond.fieldLink own idx (T i).1 (T i).2.1 (T i).2.2.1 ∈ hpT) (d : decode cc pc = .ok (.putfield idx, 3)) (hn : narrow (ty i) v = v) (hfit : fits (ty i) v = true) (hv : hpfv z k (hpu (σ k) i a) i = v)
    (kk : hpV p l e R s m args below meth c cells slots nL D cy z H0 Q (hpw σ k i a) (pc + 3) lv st) : hpV p l e R s m args below meth c cells slots nL D cy z H0 Q σ pc lv (v :: .ref (z + k) :: st) := fun H locs ls hl hP hS =>
  va_put C.1 C.2.1 C.2.2.2.2.1 O.2.2.2.1 ty O.2.2.2.2.1 O.2.2.2.2.2 C.2.2.2.1 C.2.2.2.2.2.2 hP hpW_D hS k (hp_obj O hk) O.1 i hi (C.2.2.2.2.1 _ hw) (fun _ h => h) hfin (O.2.2.2.2.1 i hi) hn hfit (by rw [List.length_map, List.length_range]; exact hi) d (fun H1 locs1 hP1 _ hS1 => kk H1 locs1 ls hl (by rw [hp_setO O hk hv] at hP1; exact hP1) hS1)
theorem h_putN {v : Value} {a : Int} {ci k N idx : Nat} {Cn host : String} {T : u_T} {ty : Nat → FieldType} (C : hpC p s m args c cc nL own D cy) (O : hpO ci Cn T N ty) (i : Nat) (hk : hpkd k = ci) (hi : i < N) (hfin : (T i).2.2.2 = false) (hw : hpN s → va_Nw (.fieldLinkNest own idx (T i).1 (T i).2.1 (T i).2.2.1 host) s) (d : decode cc pc = .ok (.putfield idx, 3)) (hn : narrow (ty i) v = v) (hfit : fits (ty i) v = true) (hv : hpfv z k (hpu (σ k) i a) i = v)
    (kk : hpV p l e R s m args below meth c cells slots nL D cy z H0 Q (hpw σ k i a) (pc + 3) lv st) : hpV p l e R s m args below meth c cells slots nL D cy z H0 Q σ pc lv (v :: .ref (z + k) :: st) := fun H locs ls hl hP hS =>
  va_putN C.1 C.2.1 C.2.2.2.2.1 O.2.2.2.1 ty O.2.2.2.2.1 O.2.2.2.2.2 C.2.2.2.1 C.2.2.2.2.2.2 hP hpW_D hS k (hp_obj O hk) O.1 i hi (va_Nw.use rfl (hw C.2.2.2.2.2.1)) (fun _ h => h) hfin (O.2.2.2.2.1 i hi) hn hfit (by rw [List.length_map, List.length_range]; exact hi) d (fun H1 locs1 hP1 _ hS1 => kk H1 locs1 ls hl (by rw [hp_setO O hk hv] at hP1; exact hP1) hS1)
/-! arrays -/
theorem hp_arrI {z k ci : Nat} {σ : hpMem} {cy : Nat → ClassId} (hk : hpkd k = ci) (hc : ci = 10 ∨ ci = 11 ∨ ci = 13) : (hpW z cy σ)[k]? = some (z + k, .inl (cy ci, hpln k, .inl (fun i => hpI (σ k i)))) := by rw [hpW_get (hpkd_lt hk (by omega)), hpE_i hk hc]
theorem hp_arrL {z k : Nat} {σ : hpMem} {cy : Nat → ClassId} (hk : hpkd k = 12) : (hpW z cy σ)[k]? = some (z + k, .inl (cy 12, hpln k, .inr (.inl (fun i => hpJ (σ k i))))) := by rw [hpW_get (hpkd_lt hk (by omega)), hpE_l hk]
theorem hp_arrQ {z k ci : Nat} {σ : hpMem} {cy : Nat → ClassId} (hk : hpkd k = ci) (hc : 14 ≤ ci) (h2 : ci < 99) : (hpW z cy σ)[k]? = some (z + k, .inl (cy ci, hpln k, .inr (.inr (.inr (.inr (fun i => some (z + hprf k i))))))) := by rw [hpW_get (hpkd_lt hk h2), hpE_q hk hc]
theorem hp_ix {a : Int} {i n : Nat} (hi : (i : Int) = a) (h : i < n) (hn : n < 2147483648) : vp_in (hpI a) n := hpI_in (by omega) (by omega) hn
theorem hp_ixn {a : Int} {i n : Nat} (hi : (i : Int) = a) (h : i < n) (hn : n < 2147483648) : (hpI a).toNatClampNeg = i := by rw [hpI_clamp ⟨by omega, by omega⟩]; omega
theorem hp_lnb (k : Nat) : hpln k < 2147483648 := by
  unfold hpln
  rcases Nat.lt_or_ge k 217 with q | q
  · have h : ∀ j, j < 217 → hpLs.getD j 0 < 2147483648 := by decide +kernel
    exact h k q
  · rw [List.getD_eq_getElem?_getD, List.getElem?_eq_none (Nat.le_trans (by decide +kernel : hpLs.length ≤ 217) q)]
    decide
theorem h_iaload {a b : Int} {k : Nat} (C : hpC p s m args c cc nL own D cy) (d : decode cc pc = .ok (.iaload, 1)) (hk : hpkd k = 11) (i : Nat) (hi : (i : Int) = a) (h : i < hpln k) (hb : σ k i = b) (kk : hpV p l e R s m args below meth c cells slots nL D cy z H0 Q σ (pc + 1) lv (.int (hpI b) :: st)) : hpV p l e R s m args below meth c cells slots nL D cy z H0 Q σ pc lv (.int (hpI a) :: .ref (z + k) :: st) := fun H locs ls hl hP hS =>
  va_iald C.1 C.2.1 C.2.2.2.2.2.2 hP k 1 (hp_arrI hk (by omega)) rfl (hp_ix hi h (hp_lnb k)) d (by rw [hp_ixn hi h (hp_lnb k), hb]; exact kk H locs ls hl hP hS)
theorem h_baload {a b : Int} {k : Nat} (C : hpC p s m args c cc nL own D cy) (d : decode cc pc = .ok (.baload, 1)) (hk : hpkd k = 10) (i : Nat) (hi : (i : Int) = a) (h : i < hpln k) (hb : σ k i = b) (kk : hpV p l e R s m args below meth c cells slots nL D cy z H0 Q σ (pc + 1) lv (.int (hpI b) :: st)) : hpV p l e R s m args below meth c cells slots nL D cy z H0 Q σ pc lv (.int (hpI a) :: .ref (z + k) :: st) := fun H locs ls hl hP hS =>
  va_bald C.1 C.2.1 C.2.2.2.2.2.2 hP k 0 (hp_arrI hk (by omega)) rfl (hp_ix hi h (hp_lnb k)) d (by rw [hp_ixn hi h (hp_lnb k), hb]; exact kk H locs ls hl hP hS)
theorem h_zaload {a b : Int} {k : Nat} (C : hpC p s m args c cc nL own D cy) (d : decode cc pc = .ok (.baload, 1)) (hk : hpkd k = 13) (i : Nat) (hi : (i : Int) = a) (h : i < hpln k) (hb : σ k i = b) (kk : hpV p l e R s m args below meth c cells slots nL D cy z H0 Q σ (pc + 1) lv (.int (hpI b) :: st)) : hpV p l e R s m args below meth c cells slots nL D cy z H0 Q σ pc lv (.int (hpI a) :: .ref (z + k) :: st) := fun H locs ls hl hP hS =>
  va_zald C.1 C.2.1 C.2.2.2.2.2.2 hP k 3 (hp_arrI hk (by omega)) rfl (hp_ix hi h (hp_lnb k)) d (by rw [hp_ixn hi h (hp_lnb k), hb]; exact kk H locs ls hl hP hS)
theorem h_laload {a b : Int} {k : Nat} (C : hpC p s m args c cc nL own D cy) (d : decode cc pc = .ok (.laload, 1)) (hk : hpkd k = 12) (i : Nat) (hi : (i : Int) = a) (h : i < hpln k) (hb : σ k i = b) (kk : hpV p l e R s m args below meth c cells slots nL D cy z H0 Q σ (pc + 1) lv (.long (hpJ b) :: st)) : hpV p l e R s m args below meth c cells slots nL D cy z H0 Q σ pc lv (.int (hpI a) :: .ref (z + k) :: st) := fun H locs ls hl hP hS =>
  va_lald C.1 C.2.1 C.2.2.2.2.2.2 hP k 2 (hp_arrL hk) rfl (hp_ix hi h (hp_lnb k)) d (by rw [hp_ixn hi h (hp_lnb k), hb]; exact kk H locs ls hl hP hS)
theorem h_aaload {a : Int} {k ci k' t0 : Nat} {Cn : String} (C : hpC p s m args c cc nL own D cy) (d : decode cc pc = .ok (.aaload, 1)) (hk : hpkd k = ci) (hc : 14 ≤ ci) (h2 : ci < 99) (ht : (hpTy cy)[t0]? = some (cy ci, .object Cn)) (i : Nat) (hi : (i : Int) = a) (h : i < hpln k) (hb : hprf k i = k') (kk : hpV p l e R s m args below meth c cells slots nL D cy z H0 Q σ (pc + 1) lv (.ref (z + k') :: st)) : hpV p l e R s m args below meth c cells slots nL D cy z H0 Q σ pc lv (.int (hpI a) :: .ref (z + k) :: st) := fun H locs ls hl hP hS =>
  va_aldq C.1 C.2.1 C.2.2.2.2.2.2 hP k t0 (hp_arrQ hk hc h2) ht (hp_ix hi h (hp_lnb k)) d (by rw [hp_ixn hi h (hp_lnb k), hb]; exact kk H locs ls hl hP hS)
theorem hp_updI {r : Nat → Int} {i : Nat} {b : Int} : upd (fun j => hpI (r j)) i (hpI b) = fun j => hpI (hpu r i b j) := by
  funext j
  unfold upd hpu
  by_cases h : j = i
  · rw [if_pos h, if_pos h]
  · rw [if_neg h, if_neg h]
theorem hp_updL {r : Nat → Int} {i : Nat} {b : Int} : vp_updL (fun j => hpJ (r j)) i (hpJ b) = fun j => hpJ (hpu r i b j) := by
  funext j
  unfold vp_updL hpu
  by_cases h : j = i
  · rw [if_pos h, if_pos h]
  · rw [if_neg h, if_neg h]
theorem hp_setI {z k ci i : Nat} {σ : hpMem} {cy : Nat → ClassId} {b : Int} (hk : hpkd k = ci) (hc : ci = 10 ∨ ci = 11 ∨ ci = 13) : (hpW z cy σ).set k (z + k, .inl (cy ci, hpln k, .inl (fun j => hpI (hpu (σ k) i b j)))) = hpW z cy (hpw σ k i b) := hpW_set (by rw [hpw_row, hpE_i hk hc]) (fun j hj => hpw_ne hj)
theorem hp_setL {z k i : Nat} {σ : hpMem} {cy : Nat → ClassId} {b : Int} (hk : hpkd k = 12) : (hpW z cy σ).set k (z + k, .inl (cy 12, hpln k, .inr (.inl (fun j => hpJ (hpu (σ k) i b j))))) = hpW z cy (hpw σ k i b) := hpW_set (by rw [hpw_row, hpE_l hk]) (fun j hj => hpw_ne hj)
theorem h_iastore {a b : Int} {k : Nat} (C : hpC p s m args c cc nL own D cy) (d : decode cc pc = .ok (.iastore, 1)) (hk : hpkd k = 11) (i : Nat) (hi : (i : Int) = a) (h : i < hpln k) (kk : hpV p l e R s m args below meth c cells slots nL D cy z H0 Q (hpw σ k i b) (pc + 1) lv st) : hpV p l e R s m args below meth c cells slots nL D cy z H0 Q σ pc lv (.int (hpI b) :: .int (hpI a) :: .ref (z + k) :: st) := fun H locs ls hl hP hS =>
  va_iast C.1 C.2.1 C.2.2.2.2.2.2 hP hpW_D hS k 1 (hp_arrI hk (by omega)) rfl (hp_ix hi h (hp_lnb k)) d (fun H1 locs1 hP1 _ hS1 => kk H1 locs1 ls hl (by rw [hp_ixn hi h (hp_lnb k), hp_updI, hp_setI hk (by omega)] at hP1; exact hP1) hS1)
theorem hp_nb {b : Int} (h1 : -128 ≤ b) (h2 : b < 128) : vp_nar .byte (hpI b) = hpI b := by
  rw [vp_nar_byte, ← Int32.toInt_inj]
  show (Int32.ofInt (hpI b).toInt8.toInt).toInt = _
  have e : (hpI b).toInt8.toInt = b := by
    show (Int32.ofInt b).toInt8.toInt = b
    rw [Int32.toInt8_ofInt, Int8.toInt_ofInt_of_le h1 h2]
  rw [e]
  rfl
theorem h_bastore {a b : Int} {k : Nat} (C : hpC p s m args c cc nL own D cy) (d : decode cc pc = .ok (.bastore, 1)) (hk : hpkd k = 10) (h1 : -128 ≤ b) (h2 : b < 128) (i : Nat) (hi : (i : Int) = a) (h : i < hpln k) (kk : hpV p l e R s m args below meth c cells slots nL D cy z H0 Q (hpw σ k i b) (pc + 1) lv st) : hpV p l e R s m args below meth c cells slots nL D cy z H0 Q σ pc lv (.int (hpI b) :: .int (hpI a) :: .ref (z + k) :: st) := fun H locs ls hl hP hS =>
  va_bast C.1 C.2.1 C.2.2.2.2.2.2 hP hpW_D hS k 0 (hp_arrI hk (by omega)) rfl (hp_ix hi h (hp_lnb k)) d (fun H1 locs1 hP1 _ hS1 => kk H1 locs1 ls hl (by rw [hp_ixn hi h (hp_lnb k), hp_nb h1 h2, hp_updI, hp_setI hk (by omega)] at hP1; exact hP1) hS1)
theorem h_zastore {a b : Int} {k : Nat} (C : hpC p s m args c cc nL own D cy) (d : decode cc pc = .ok (.bastore, 1)) (hk : hpkd k = 13) (h1 : b = 0 ∨ b = 1) (i : Nat) (hi : (i : Int) = a) (h : i < hpln k) (kk : hpV p l e R s m args below meth c cells slots nL D cy z H0 Q (hpw σ k i b) (pc + 1) lv st) : hpV p l e R s m args below meth c cells slots nL D cy z H0 Q σ pc lv (.int (hpI b) :: .int (hpI a) :: .ref (z + k) :: st) := fun H locs ls hl hP hS =>
  va_zast C.1 C.2.1 C.2.2.2.2.2.2 hP hpW_D hS k 3 (hp_arrI hk (by omega)) rfl (hp_ix hi h (hp_lnb k)) d (fun H1 locs1 hP1 _ hS1 => kk H1 locs1 ls hl (by rw [hp_ixn hi h (hp_lnb k), show vp_nar .boolean (hpI b) = hpI b by (rcases h1 with rfl | rfl <;> decide), hp_updI, hp_setI hk (by omega)] at hP1; exact hP1) hS1)
theorem h_lastore {a b : Int} {k : Nat} (C : hpC p s m args c cc nL own D cy) (d : decode cc pc = .ok (.lastore, 1)) (hk : hpkd k = 12) (i : Nat) (hi : (i : Int) = a) (h : i < hpln k) (kk : hpV p l e R s m args below meth c cells slots nL D cy z H0 Q (hpw σ k i b) (pc + 1) lv st) : hpV p l e R s m args below meth c cells slots nL D cy z H0 Q σ pc lv (.long (hpJ b) :: .int (hpI a) :: .ref (z + k) :: st) := fun H locs ls hl hP hS =>
  va_last C.1 C.2.1 C.2.2.2.2.2.2 hP hpW_D hS k 2 (hp_arrL hk) rfl (hp_ix hi h (hp_lnb k)) d (fun H1 locs1 hP1 _ hS1 => kk H1 locs1 ls hl (by rw [hp_ixn hi h (hp_lnb k), hp_updL, hp_setL hk] at hP1; exact hP1) hS1)
/-- numbers of a row put over those of another -/
def hpcp (f g : Nat → Int) (sp dp n : Nat) : Nat → Int := fun j => if dp ≤ j ∧ j < dp + n then f (sp + (j - dp)) else g j
def hpwr (σ : hpMem) (k : Nat) (r : Nat → Int) : hpMem := fun j => if j = k then r else σ j
theorem hp_cpy {f g : Nat → Int} {sp dp n : Nat} : va_cpy (fun j => hpI (f j)) (fun j => hpI (g j)) sp dp n = fun j => hpI (hpcp f g sp dp n j) := by
  funext j
  by_cases h : dp ≤ j ∧ j < dp + n
  · rw [pk_cpy_in h.1 h.2]
    unfold hpcp
    rw [if_pos h]
  · rw [pk_cpy_out (by omega)]
    unfold hpcp
    rw [if_neg h]
theorem h_copyI {sp dp n : Int} {k k' idx : Nat} (C : hpC p s m args c cc nL own D cy) (w1 : Cond.methodLink own idx arraycopyName ∈ hpT) (w2 : Cond.native arraycopyName ∈ hpT) (w3 : Cond.static arraycopyName ∈ hpT) (w4 : Cond.initialized "java/lang/System" ∈ hpT) (d : decode cc pc = .ok (.invokestatic idx, 3)) (hk : hpkd k = 11) (hk' : hpkd k' = 11) (i j q : Nat) (hi : (i : Int) = sp) (hj : (j : Int) = dp) (hq : (q : Int) = n) (h1 : i + q ≤ hpln k) (h2 : j + q ≤ hpln k')
    (hf : 1 ≤ R.frames) (hlo : (st.map fun v => v.category).sum + (nativeFrameWords "java/lang/System" "arraycopy" 5 + 11) ≤ R.locals) (kk : hpV p l e R s m args below meth c cells slots nL D cy z H0 Q (hpwr σ k' (hpcp (σ k) (σ k') i j q)) (pc + 3) lv st) : hpV p l e R s m args below meth c cells slots nL D cy z H0 Q σ pc lv (.int (hpI n) :: .int (hpI dp) :: .ref (z + k') :: .int (hpI sp) :: .ref (z + k) :: st) := fun H locs ls hl hP hS => by
  have b1 := hp_lnb k
  have b2 := hp_lnb k'
  have rs : hpR sp := ⟨by omega, by omega⟩
  have rd : hpR dp := ⟨by omega, by omega⟩
  have rn : hpR n := ⟨by omega, by omega⟩
  have e1 : (hpI sp).toNatClampNeg = i := by rw [hpI_clamp rs]; omega
  have e2 : (hpI dp).toNatClampNeg = j := by rw [hpI_clamp rd]; omega
  have e3 : (hpI n).toNatClampNeg = q := by rw [hpI_clamp rn]; omega
  have g : ∀ {a : Int}, hpR a → 0 ≤ a → ¬ hpI a < 0 := fun {a} ha h0 hh => by rw [← hpI_0, hpI_lt ha hpR_0] at hh; omega
  refine va_copyi C.1 C.2.1 (C.2.2.1.trans hl.1.symm) C.2.2.2.1 (C.2.2.2.2.1 _ w1) (C.2.2.2.2.1 _ w2) (C.2.2.2.2.1 _ w3) (C.2.2.2.2.1 _ w4) C.2.2.2.2.2.2 hP hpW_D hS k k' 1 1 (hp_arrI hk (by omega)) (hp_arrI hk' (by omega)) rfl rfl rfl (g rs (by omega)) (g rd (by omega)) (g rn (by omega)) (by rw [e1, e3]; exact h1) (by rw [e2, e3]; exact h2) (fun _ _ => rfl) hf hlo d (fun H1 locs1 hP1 _ hS1 => kk H1 locs1 ls hl ?_ hS1)
  rw [e1, e2, e3, hp_cpy, hpW_set (τ := hpwr σ k' (hpcp (σ k) (σ k') i j q)) (by unfold hpwr; rw [if_pos rfl, hpE_i hk' (by omega)]) (fun j hj => if_neg hj)] at hP1
  exact hP1
/-! calls -/
/-- what is fixed of a method of the class ci -/
def hpY (y : MethodName) (bytes : ByteArray) (maxL : Nat) (ret : Option FieldType) (n ci : Nat) : Prop := (∃ (T : u_T) (N : Nat) (ty : Nat → FieldType), hpO ci y.cls T N ty) ∧ Cond.instanceMethod y ∈ hpT ∧ Cond.selects y.cls y y ∈ hpT ∧ Cond.initialized y.cls ∈ hpT ∧ Cond.code y bytes maxL ret ∈ hpT ∧ y.cls ≠ "java/lang/invoke/MethodHandle" ∧ y.cls ≠ "java/lang/invoke/VarHandle" ∧ (parseMethodDescriptor y.desc).map (fun d => d.parameters.length) = some n
def hpYS (y : MethodName) (bytes : ByteArray) (maxL : Nat) (ret : Option FieldType) (n : Nat) : Prop := Cond.static y ∈ hpT ∧ Cond.initialized y.cls ∈ hpT ∧ Cond.code y bytes maxL ret ∈ hpT ∧ y.cls ≠ "java/lang/invoke/MethodHandle" ∧ y.cls ≠ "java/lang/invoke/VarHandle" ∧ (parseMethodDescriptor y.desc).map (fun d => d.parameters.length) = some n
theorem hp_run {y : MethodName} {bytes : ByteArray} {maxL : Nat} {ret : Option FieldType} {rm : Room} {a : Array Value} {post : Option Value → hpMem → Prop} {H : Heap} {locs : List Loc} {ls : Array Slot} {st0 rest : List Value} (hl : lv_has ls nL lv) (hS : va_S (fun q => z ≤ q) H0 H locs)
    (hr : va_Run p l e R s m args below meth c H locs cells slots 0 0 (F0 m pc ls st0) rest (hpQ D cy z post a) (fun q => z ≤ q)) (kk : ∀ (r : Option Value) (τ : hpMem), post r τ → hpV p l e R s m args below meth c cells slots nL D cy z H0 Q τ (pc + 3) lv (r.toList ++ rest)) : W p l e R s m args below meth c H locs cells slots Q (F0 m pc ls st0) := by
  intro T hT X
  obtain ⟨v, st₀, t, T', L, h0, X', hL, e1, e2, ⟨⟨r, τ, hv, hp, hb⟩, hz, hk⟩, stp⟩ := hr T hT X
  cases hv
  rw [h0] at hz hk
  obtain ⟨t2, a1, b1⟩ := kk v τ hp T'.heap (locs ++ L) ls hl (by rw [e1]; exact hb)
    ⟨Nat.le_trans hS.1 (by rw [e1]; exact hz), fun q h1 h2 => by rw [e1, hk q (Nat.lt_of_lt_of_le h1 hS.1) h2]; exact hS.2.1 q h1 h2, fun q hq => by
      rcases List.mem_append.mp hq with h | h
      · exact hS.2.2 q h
      · exact hL q h⟩ T' rfl X'
  exact ⟨t2, stp t2 a1, b1⟩
theorem hp_blind {av : List Value} {σ : hpMem} : FrameBlind (va_Pc av (hpPre D cy z σ)) := fun a U g mk q => by
  obtain ⟨q0, qP, qK, qN, qZ⟩ := q
  exact ⟨q0, qP, va_K.moved (u := U) (U := U.calling g mk a) (Vm.Alike.refl U.vm) qK, fun w hw hn => va_Nw.same (u := U) (U := U.calling g mk a) (by cases w <;> first | rfl | (simp [hpNest] at hn)) rfl (qN w hw hn), hpStr.same (u := U) (U := U.calling g mk a) rfl rfl qZ⟩
theorem h_callV {y : MethodName} {bytes : ByteArray} {maxL : Nat} {ret : Option FieldType} {rm : Room} {k ci n idx : Nat} {As rest : List Value} {post : Option Value → hpMem → Prop} (C : hpC p s m args c cc nL own D cy) (Z : hpStr z cy s s.heap) (Y : hpY y bytes maxL ret n ci) (w : Cond.methodLink own idx y ∈ hpT) (hM : hpM l D cy z y bytes maxL ret rm (.ref (z + k) :: As) σ post) (hk : hpkd k = ci) (hn : As.length = n) (hst : st = As.reverse ++ .ref (z + k) :: rest) (hR : rm.cells = 0 ∧ rm.slots = 0 ∧ rm.frames + 1 ≤ R.frames ∧ 8 + (maxL + 11) + rm.locals ≤ R.locals) (hf : cells ≤ R.cells ∧ slots ≤ R.slots) (hw8 : (rest.map fun v => v.category).sum ≤ 8) (d : decode cc pc = .ok (.invokevirtual idx, 3))
    (kk : ∀ (r : Option Value) (τ : hpMem), post r τ → hpV p l e R s m args below meth c cells slots nL D cy z s.heap Q τ (pc + 3) lv (r.toList ++ rest)) : hpV p l e R s m args below meth c cells slots nL D cy z s.heap Q σ pc lv st := fun H locs ls hl hP hS => by
  obtain ⟨⟨T, N, ty, O⟩, y1, y2, y3, y4, y5, y6, y7⟩ := Y
  have hts : ∀ w ∈ (Cond.initialized y.cls :: hpT), w.before args s = true := fun w hw => by
    rcases List.mem_cons.mp hw with h | h
    · subst h; exact C.2.2.2.2.1 _ y3
    · exact C.2.2.2.2.1 _ h
  refine hp_run (y := y) (bytes := bytes) (maxL := maxL) (ret := ret) (rm := rm) hl hS (va_runV (C := y.cls) (Ts := Cond.initialized y.cls :: hpT) (As := As) (rest := rest) ⟨C.1, C.2.1, C.2.2.1, C.2.2.2.1, hts⟩ hM (cwV n hts ?_ rfl hR.1 hR.2.1 ⟨rfl, y5, y6, y7⟩ hR.2.2) ⟨hp_blind, va_recv C.2.2.2.2.2.2 hP O.1 (hp_obj O hk), fun U hU hW => ⟨rfl, by rw [hU]; exact hP, va_K.moved hW.alike C.2.2.2.2.2.2, C.2.2.2.2.2.1.warm hW, hpStr.go hW hU hS Z⟩⟩ rfl hn hl.1 hst (lv_room hw8) d hf) kk
  intro w' hw'
  unfold wsV at hw'
  rcases List.mem_append.mp hw' with h | h
  · simp only [List.mem_cons, List.not_mem_nil, or_false] at h
    rcases h with h | h | h | h <;> (subst h; exact hp_goodT _ (by assumption))
  · exact hp_good y4 _ h
theorem h_callVN {y : MethodName} {bytes : ByteArray} {maxL : Nat} {ret : Option FieldType} {rm : Room} {k ci n idx : Nat} {host : String} {As rest : List Value} {post : Option Value → hpMem → Prop} (C : hpC p s m args c cc nL own D cy) (Z : hpStr z cy s s.heap) (Y : hpY y bytes maxL ret n ci) (w : hpN s → va_Nw (.methodLinkNest own idx y host) s) (hM : hpM l D cy z y bytes maxL ret rm (.ref (z + k) :: As) σ post) (hk : hpkd k = ci) (hn : As.length = n) (hst : st = As.reverse ++ .ref (z + k) :: rest) (hR : rm.cells = 0 ∧ rm.slots = 0 ∧ rm.frames + 1 ≤ R.frames ∧ 8 + (maxL + 11) + rm.locals ≤ R.locals) (hf : cells ≤ R.cells ∧ slots ≤ R.slots) (hw8 : (rest.map fun v => v.category).sum ≤ 8) (d : decode cc pc = .ok (.invokevirtual idx, 3))
    (kk : ∀ (r : Option Value) (τ : hpMem), post r τ → hpV p l e R s m args below meth c cells slots nL D cy z s.heap Q τ (pc + 3) lv (r.toList ++ rest)) : hpV p l e R s m args below meth c cells slots nL D cy z s.heap Q σ pc lv st := fun H locs ls hl hP hS => by
  obtain ⟨⟨T, N, ty, O⟩, y1, y2, y3, y4, y5, y6, y7⟩ := Y
  have hts : ∀ w ∈ (Cond.initialized y.cls :: hpT), w.before args s = true := fun w hw => by
    rcases List.mem_cons.mp hw with h | h
    · subst h; exact C.2.2.2.2.1 _ y3
    · exact C.2.2.2.2.1 _ h
  exact hp_run (y := y) (bytes := bytes) (maxL := maxL) (ret := ret) (rm := rm) hl hS (va_runVN (C := y.cls) (Ts := Cond.initialized y.cls :: hpT) (As := As) (rest := rest) ⟨C.1, C.2.1, C.2.2.1, C.2.2.2.1, hts⟩ hM ⟨va_cnB n hts (hp_good y4) rfl hR.1 hR.2.1 (w C.2.2.2.2.2.1) (C.2.2.2.2.1 _ y3) ⟨y5, y6, y7⟩ hR.2.2, C.2.2.2.2.1 _ y1, C.2.2.2.2.1 _ y2⟩ ⟨hp_blind, va_recv C.2.2.2.2.2.2 hP O.1 (hp_obj O hk), fun U hU hW => ⟨rfl, by rw [hU]; exact hP, va_K.moved hW.alike C.2.2.2.2.2.2, C.2.2.2.2.2.1.warm hW, hpStr.go hW hU hS Z⟩⟩ rfl hn hl.1 hst (lv_room hw8) d hf) kk
theorem h_callS {y : MethodName} {bytes : ByteArray} {maxL : Nat} {ret : Option FieldType} {rm : Room} {n idx : Nat} {As rest : List Value} {post : Option Value → hpMem → Prop} (C : hpC p s m args c cc nL own D cy) (Z : hpStr z cy s s.heap) (Y : hpYS y bytes maxL ret n) (ho : y.cls = own) (w : Cond.methodLink own idx y ∈ hpT) (hM : hpM l D cy z y bytes maxL ret rm As σ post) (hn : As.length = n) (hst : st = As.reverse ++ rest) (hR : rm.cells = 0 ∧ rm.slots = 0 ∧ rm.frames + 1 ≤ R.frames ∧ 8 + (maxL + 11) + rm.locals ≤ R.locals) (hf : cells ≤ R.cells ∧ slots ≤ R.slots) (hw8 : (rest.map fun v => v.category).sum ≤ 8) (d : decode cc pc = .ok (.invokestatic idx, 3))
    (kk : ∀ (r : Option Value) (τ : hpMem), post r τ → hpV p l e R s m args below meth c cells slots nL D cy z s.heap Q τ (pc + 3) lv (r.toList ++ rest)) : hpV p l e R s m args below meth c cells slots nL D cy z s.heap Q σ pc lv st := fun H locs ls hl hP hS => by
  obtain ⟨y1, y3, y4, y5, y6, y7⟩ := Y
  subst ho
  have hts : ∀ w ∈ (Cond.initialized y.cls :: hpT), w.before args s = true := fun w hw => by
    rcases List.mem_cons.mp hw with h | h
    · subst h; exact C.2.2.2.2.1 _ y3
    · exact C.2.2.2.2.1 _ h
  refine hp_run (y := y) (bytes := bytes) (maxL := maxL) (ret := ret) (rm := rm) hl hS (va_runS (Ts := Cond.initialized y.cls :: hpT) (As := As) (rest := rest) ⟨C.1, C.2.1, C.2.2.1, C.2.2.2.1, hts⟩ hM (cwS n hts ?_ rfl hR.1 hR.2.1 ⟨rfl, y5, y6, y7⟩ hR.2.2) ⟨hp_blind, fun U hU hW => ⟨rfl, by rw [hU]; exact hP, va_K.moved hW.alike C.2.2.2.2.2.2, C.2.2.2.2.2.1.warm hW, hpStr.go hW hU hS Z⟩⟩ rfl hn hl.1 hst (lv_room hw8) d hf) kk
  intro w' hw'
  unfold wsS at hw'
  rcases List.mem_append.mp hw' with h | h
  · simp only [List.mem_cons, List.not_mem_nil, or_false] at h
    rcases h with h | h | h <;> (subst h; exact hp_goodT _ (by assumption))
  · exact hp_good y4 _ h
end HPH
/-- a method's body at pc -/
abbrev hpF (p : Program) (l : Launch) (e : Env) (rm : Room) (s : State) (m : MethodId) (av : List Value) (below : List Frame) (meth : Method) (c : Code) (nL : Nat) (D : va_G) (cy : Nat → ClassId) (z : Nat) (post : Option Value → hpMem → Prop) (σ : hpMem) (pc : Nat) (lv : List (Nat × Value)) (st : List Value) : Prop :=
  hpV p l e rm s m av.toArray below meth c 0 0 nL D cy z s.heap (MQ below (hpQ D cy z post) av.toArray s 0 0 (fun q => z ≤ q)) σ pc lv st
/-- the memory of a new object of each -/
def hp0 (k i : Nat) : Int := if k = 1 ∧ i = 3 then -1 else if k = 0 ∧ i = 15 then -1 else if k = 130 ∧ i = 14 then -1 else if k = 195 ∧ i = 13 then -1 else if k = 213 ∧ i < 4 then -1 else 0
theorem hpwr_ne {σ : hpMem} {k j : Nat} {r : Nat → Int} (h : j ≠ k) : hpwr σ k r j = σ j := if_neg h
theorem hp_sub {p : Program} {l : Launch} {e : Env} {R : Room} {s : State} {m : MethodId} {args : Array Value} {below : List Frame} {meth : Method} {c : Code} {cells slots nL : Nat} {D : va_G} {cy : Nat → ClassId} {z : Nat} {H0 : Heap} {Q : State → Prop} {σ : hpMem} {pc : Nat} {lv lv' : List (Nat × Value)} {st : List Value} (ks : List Nat) (h : lv_pick lv ks = lv') (k : hpV p l e R s m args below meth c cells slots nL D cy z H0 Q σ pc lv' st) : hpV p l e R s m args below meth c cells slots nL D cy z H0 Q σ pc lv st := fun H locs ls hl hP hS => k H locs ls (lv_sub hl ks h) hP hS

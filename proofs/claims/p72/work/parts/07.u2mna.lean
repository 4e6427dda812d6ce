section HPM
variable {p : Program} {l : Launch} {e : Env} {R : Room} {s : State} {m : MethodId} {args : Array Value} {below : List Frame} {meth : Method} {c : Code} {cells slots nL : Nat} {D : va_G} {cy : Nat → ClassId} {z : Nat} {H0 : Heap} {Q : State → Prop} {pc n : Nat} {E : Nat → va_E} {st : List Value} {cc : ByteArray} {own : String} {H : Heap} {locs : List Loc} {ls : Array Slot}
theorem hp_outer (c : ClassId) (N h0 : Nat) : ∀ i : Nat, Jvm.Free.Multi.outerC c N h0 i = arrV c N (fun j => va_rf (if j < i then some (h0 + 1 + j) else none))
  | 0 => by
    show ({ cls := c, slots := Array.replicate N .null, vm := .none } : Cell) = _
    rw [arrV_new]
    refine congrArg (arrV c N) (funext fun j => ?_)
    simp [va_rf]
  | i + 1 => by
    show (Jvm.Free.Multi.outerC c N h0 i).setSlot i (.ref (h0 + 1 + i)) = _
    rw [hp_outer c N h0 i, arrV_store]
    refine congrArg (arrV c N) (funext fun j => ?_)
    by_cases e : j = i
    · subst e
      simp [updV, va_rf]
    · by_cases h : j < i
      · simp [updV, e, h, Nat.lt_succ_of_lt h]
      · simp [updV, e, h, show ¬ j < i + 1 by omega]
set_option maxHeartbeats 4000000 in
theorem n_mna {idx : Nat} (C : hpC p s m args c cc nL own D cy) (w1 : Cond.classLink own idx "[[I" ∈ hpT) (w2 : (Cond.arrayOver (.array .int)).before #[] s = true) (w3 : Cond.arrayClass .int ∈ hpT) (hP : va_P D hpCl (hpWn z n E) H) (hS : va_S (fun q => z ≤ q) H0 H locs) (hsz : H.size = z + n) (hcells : cells + 21 ≤ R.cells) (hslots : slots + 360 ≤ R.slots) (d : decode cc pc = .ok (.multianewarray idx 2, 4))
    (kk : ∀ (H1 : Heap) (E1 : Nat → va_E), va_P D hpCl (hpWn z (n + 21) E1) H1 → va_S (fun q => z ≤ q) H0 H1 locs → (∀ j, j < n → E1 j = E j) → E1 n = .inl (cy 17, 20, .inr (.inr (.inr (.inr (fun i => some (z + (n + 1 + i))))))) → (∀ j, n < j → j < n + 21 → E1 j = .inl (cy 11, 17, .inl (fun _ => hpI 0))) → W p l e R s m args below meth c H1 locs (cells + 21) (slots + 360) Q (F0 m (pc + 4) ls (.ref (z + n) :: st))) : W p l e R s m args below meth c H locs cells slots Q (F0 m pc ls (.int (hpI 17) :: .int (hpI 20) :: st)) := by
  intro T hT Xs
  have es : "[" ++ (FieldType.array FieldType.int).toString = "[[I" := by decide +kernel
  have e20 : (hpI 20).toNatClampNeg = 20 := by decide
  have e17 : (hpI 17).toNatClampNeg = 17 := by decide
  obtain ⟨vm₁, cA, comp, -, fA, fC, hO, -, X', step⟩ := Jvm.Stand.multianewarray2F Xs C.1 (own := own) (index := idx) (ty := .int) C.2.2.2.1 (by rw [es]; exact C.2.2.2.2.1 _ w1) w2 (C.2.2.2.2.1 _ w3) (g := F0 m pc ls (.int (hpI 17) :: .int (hpI 20) :: st)) rfl (by rw [C.2.1]; exact d) rfl (by decide) (by decide) (by rw [e20]; decide) (by rw [e17]; decide) (by rw [e17]; decide) rfl rfl (by rw [e20]; omega) (by rw [e20, e17]; omega)
  rw [e20, e17] at X' step
  have hcA : cA = cy 17 := Option.some.inj (fA.symm.trans (C.2.2.2.2.2.2.2 7 _ rfl).2)
  have hco : comp = cy 11 := Option.some.inj (fC.symm.trans (C.2.2.2.2.2.2.2 1 _ rfl).2)
  subst hcA
  subst hco
  generalize hF : Jvm.Free.Multi.fill (T.setVm vm₁) (cy 17) (cy 11) 20 17 (defaultValue .int) 20 = F at X' step
  have hTh : (T.setVm vm₁).heap = H := hT
  obtain ⟨f1, f2, -, -⟩ := Jvm.Free.Multi.fill_facts (T.setVm vm₁) (cy 17) (cy 11) 20 17 (defaultValue .int) 20
  rw [hF, hTh] at f1 f2
  have hold : ∀ x : Nat, x < H.size → F.heap[x]? = H[x]? := fun x hx => by
    have := Jvm.Free.Multi.fill_old (T.setVm vm₁) (cy 17) (cy 11) 20 17 (defaultValue .int) (a := x) (by rw [hTh]; exact hx) 20
    rw [hF, hTh] at this
    exact this
  have hrow : ∀ j : Nat, j < 20 → F.heap[H.size + 1 + j]? = some (Jvm.Free.Multi.innerC (cy 11) 17 (defaultValue .int)) := fun j hj => by
    have := Jvm.Free.Multi.fill_inner (T.setVm vm₁) (cy 17) (cy 11) 20 17 (defaultValue .int) 20 j hj
    rw [hF, hTh] at this
    exact this
  obtain ⟨E1, hE1⟩ : ∃ F1 : Nat → va_E, F1 = fun j => if j = n then .inl (cy 17, 20, .inr (.inr (.inr (.inr (fun i => some (z + (n + 1 + i))))))) else if n < j then .inl (cy 11, 17, .inl (fun _ => hpI 0)) else E j := ⟨_, rfl⟩
  have g0 : ∀ j, j < n → E1 j = E j := fun j h => by rw [hE1]; show (if j = n then _ else _) = _; rw [if_neg (by omega), if_neg (by omega)]
  have g1 : E1 n = .inl (cy 17, 20, .inr (.inr (.inr (.inr (fun i => some (z + (n + 1 + i))))))) := by rw [hE1]; show (if n = n then _ else _) = _; rw [if_pos rfl]
  have g2 : ∀ j, n < j → j < n + 21 → E1 j = .inl (cy 11, 17, .inl (fun _ => hpI 0)) := fun j h _ => by rw [hE1]; show (if j = n then _ else _) = _; rw [if_neg (by omega), if_pos h]
  have hPF : va_P D hpCl (hpWn z (n + 21) E1) F.heap := by
    intro k q hq
    obtain ⟨hk, rfl⟩ := hpWn_inv hq
    rcases Nat.lt_trichotomy k n with h | h | h
    · rw [g0 k h]
      have h9 := hP k _ (hpWn_get h)
      exact h9.kept (hold _ h9.lt)
    · subst h
      rw [g1]
      refine hp_arrSame (f := fun j => if j < 20 then some (H.size + 1 + j) else none) (fun i hi => ?_) ?_
      · rw [if_pos hi, hsz]
        congr 1
        omega
      · show F.heap[z + k]? = some (vp_cell _ _)
        rw [← hsz, f2, hp_outer, vp_cell_q]
    · rw [g2 k h hk]
      show F.heap[z + k]? = some (vp_cell _ _)
      have h9 := hrow (k - n - 1) (by omega)
      rw [show H.size + 1 + (k - n - 1) = z + k by omega] at h9
      rw [h9, vp_cell_i]
      show some ({ cls := cy 11, slots := Array.replicate 17 (defaultValue .int), vm := .none } : Cell) = _
      rw [arrV_new]
      rfl
  rw [show cells + 1 + 20 = cells + 21 by omega, show slots + 20 + 20 * 17 = slots + 360 by omega] at X'
  obtain ⟨t, a1, b1⟩ := kk F.heap E1 hPF ⟨by rw [f1]; have := hS.1; omega, fun x h1 h2 => (hold x (Nat.lt_of_lt_of_le h1 hS.1)).trans (hS.2.1 x h1 h2), hS.2.2⟩ g0 g1 g2 F rfl X'
  refine ⟨t, step t ?_, b1⟩
  have e : T.heap.size = z + n := by rw [hT]; exact hsz
  rw [e]
  exact a1
end HPM

/-! rows of heaps in the store, as lists -/
theorem hpu_ne {r : Nat → Int} {i j : Nat} {a : Int} (h : j ≠ i) : hpu r i a j = r j := if_neg h
def hpRw (f : Nat → Int) (r : Int) (L : List Nat) : Prop := f (701 * r).toNat = (L.length : Int) ∧ ∀ j : Nat, j < L.length → f (701 * r + 1 + (j : Int)).toNat = ((L.getD j 0 : Nat) : Int)
theorem hp_ls {L : List Nat} (h : ∀ a ∈ L, 1 ≤ a) : L.length ≤ L.sum := by
  induction L with
  | nil => simp
  | cons a l ih =>
    have h1 := h a List.mem_cons_self
    have h2 := ih (fun b hb => h b (List.mem_cons_of_mem _ hb))
    simp only [List.length_cons, List.sum_cons]
    omega
theorem hp_gd {L : List Nat} {j : Nat} (hj : j < L.length) : L.getD j 0 ∈ L := by
  rw [List.getD_eq_getElem?_getD, List.getElem?_eq_getElem hj]
  exact List.getElem_mem hj
theorem hpRw.uniq {f : Nat → Int} {r : Int} {L M : List Nat} (h1 : hpRw f r L) (h2 : hpRw f r M) : L = M := by
  have hl : L.length = M.length := by
    have a := h1.1
    have b := h2.1
    omega
  apply List.ext_getElem hl
  intro j hj hj'
  have a := h1.2 j hj
  have b := h2.2 j hj'
  have e : L.getD j 0 = M.getD j 0 := by omega
  rw [List.getD_eq_getElem?_getD, List.getD_eq_getElem?_getD, List.getElem?_eq_getElem hj, List.getElem?_eq_getElem hj'] at e
  exact e
theorem hpRw.fr {f g : Nat → Int} {r : Int} {L : List Nat} (h : hpRw f r L) (hl : L.length ≤ 700) (h0 : 0 ≤ r) (e : ∀ i : Nat, 701 * r ≤ (i : Int) → (i : Int) ≤ 701 * r + 700 → g i = f i) : hpRw g r L := by
  refine ⟨?_, fun j hj => ?_⟩
  · rw [e _ (by omega) (by omega)]
    exact h.1
  · rw [e _ (by omega) (by omega)]
    exact h.2 j hj
theorem hpRw.copy {f g : Nat → Int} {a b : Int} {L : List Nat} (h : hpRw f a L) (e : ∀ q : Nat, (q : Int) ≤ (L.length : Int) → g (701 * b + (q : Int)).toNat = f (701 * a + (q : Int)).toNat) : hpRw g b L := by
  refine ⟨?_, fun j hj => ?_⟩
  · have q := e 0 (by omega)
    rw [show (701 * b + ((0 : Nat) : Int)) = 701 * b by omega, show (701 * a + ((0 : Nat) : Int)) = 701 * a by omega] at q
    rw [q]
    exact h.1
  · have q := e (j + 1) (by omega)
    rw [show (701 * b + ((j + 1 : Nat) : Int)) = 701 * b + 1 + (j : Int) by omega, show (701 * a + ((j + 1 : Nat) : Int)) = 701 * a + 1 + (j : Int) by omega] at q
    rw [q]
    exact h.2 j hj
theorem hpRw.nil {f : Nat → Int} {r : Int} (h : f (701 * r).toNat = 0) : hpRw f r [] := ⟨h, fun j hj => absurd hj (Nat.not_lt_zero j)⟩
theorem hpRw.same {f g : Nat → Int} {r : Int} {L : List Nat} (h : hpRw f r L) (e : ∀ i, g i = f i) : hpRw g r L := ⟨(e _).trans h.1, fun j hj => (e _).trans (h.2 j hj)⟩
/-- a heap comes ahead of those at the end that are lower -/
def hpIn (t : Nat) : List Nat → List Nat
  | [] => [t]
  | a :: l => bif (a :: l).all (fun b => decide (b < t)) then t :: a :: l else a :: hpIn t l
theorem hpIn_t {t a : Nat} {l : List Nat} (h : (a :: l).all (fun b => decide (b < t)) = true) : hpIn t (a :: l) = t :: a :: l := by
  rw [hpIn, h]
  rfl
theorem hpIn_f {t a : Nat} {l : List Nat} (h : (a :: l).all (fun b => decide (b < t)) = false) : hpIn t (a :: l) = a :: hpIn t l := by
  rw [hpIn, h]
  rfl
theorem hpIn_len (t : Nat) (L : List Nat) : (hpIn t L).length = L.length + 1 := by
  induction L with
  | nil => rfl
  | cons a l ih =>
    cases h : (a :: l).all (fun b => decide (b < t)) with
    | true => rw [hpIn_t h]; rfl
    | false => rw [hpIn_f h, List.length_cons, List.length_cons, ih]
theorem hpIn_sum (t : Nat) (L : List Nat) : (hpIn t L).sum = t + L.sum := by
  induction L with
  | nil => rfl
  | cons a l ih =>
    cases h : (a :: l).all (fun b => decide (b < t)) with
    | true => rw [hpIn_t h, List.sum_cons]
    | false => rw [hpIn_f h, List.sum_cons, List.sum_cons, ih]; omega
theorem hpIn_mem {t x : Nat} {L : List Nat} (hx : x ∈ hpIn t L) : x = t ∨ x ∈ L := by
  induction L with
  | nil => exact Or.inl (List.mem_singleton.mp hx)
  | cons a l ih =>
    cases h : (a :: l).all (fun b => decide (b < t)) with
    | true =>
      rw [hpIn_t h] at hx
      exact List.mem_cons.mp hx
    | false =>
      rw [hpIn_f h] at hx
      rcases List.mem_cons.mp hx with q | q
      · exact Or.inr (by rw [q]; exact List.mem_cons_self)
      · rcases ih q with q | q
        · exact Or.inl q
        · exact Or.inr (List.mem_cons_of_mem _ q)
theorem hpIn_at (t : Nat) : ∀ (L : List Nat) (i : Nat), i ≤ L.length → (∀ j, i ≤ j → j < L.length → L.getD j 0 < t) → (i = 0 ∨ t ≤ L.getD (i - 1) 0) → hpIn t L = L.take i ++ t :: L.drop i
  | [], i, hi, _, _ => by
    have e : i = 0 := by simpa using hi
    subst e
    rfl
  | a :: l, 0, hi, h1, _ => by
    have h : (a :: l).all (fun b => decide (b < t)) = true := by
      rw [List.all_eq_true]
      intro x hx
      obtain ⟨j, hj, rfl⟩ := List.mem_iff_getElem.mp hx
      have q := h1 j (Nat.zero_le _) hj
      rw [List.getD_eq_getElem?_getD, List.getElem?_eq_getElem hj] at q
      exact decide_eq_true q
    rw [hpIn_t h]
    rfl
  | a :: l, i + 1, hi, h1, h2 => by
    have hlt : i < (a :: l).length := by
      have q := hi
      rw [List.length_cons] at q ⊢
      omega
    have hv : t ≤ (a :: l).getD i 0 := by
      rcases h2 with h | h
      · omega
      · exact h
    have h : (a :: l).all (fun b => decide (b < t)) = false := by
      cases hq : (a :: l).all (fun b => decide (b < t)) with
      | false => rfl
      | true =>
        have q := of_decide_eq_true (List.all_eq_true.mp hq _ (hp_gd hlt))
        omega
    rw [hpIn_f h, hpIn_at t l i (by rw [List.length_cons] at hi; omega) (fun j hj hl => h1 (j + 1) (by omega) (by rw [List.length_cons]; omega)) (by
      rcases Nat.eq_zero_or_pos i with q | q
      · exact Or.inl q
      · right
        have e : (a :: l).getD i 0 = l.getD (i - 1) 0 := by
          obtain ⟨k, rfl⟩ : ∃ k, i = k + 1 := ⟨i - 1, by omega⟩
          rfl
        omega)]
    rfl
theorem hp_getIn {L : List Nat} {i t j : Nat} (hi : i ≤ L.length) : (L.take i ++ t :: L.drop i).getD j 0 = if j < i then L.getD j 0 else if j = i then t else L.getD (j - 1) 0 := by
  rw [List.getD_eq_getElem?_getD, List.getElem?_append, List.length_take, Nat.min_eq_left hi]
  by_cases h : j < i
  · rw [if_pos h, if_pos h, List.getElem?_take_of_lt h, List.getD_eq_getElem?_getD]
  · rw [if_neg h, if_neg h]
    by_cases e : j = i
    · subst e
      rw [if_pos rfl, Nat.sub_self]
      rfl
    · obtain ⟨k, hk⟩ : ∃ k, j - i = k + 1 := ⟨j - i - 1, by omega⟩
      rw [if_neg e, hk, List.getElem?_cons_succ, List.getElem?_drop, show i + k = j - 1 by omega, List.getD_eq_getElem?_getD]
/-- while a heap is laid -/
def hpLI (f g : Nat → Int) (r i t : Int) : Prop := g (701 * r).toNat = f (701 * r).toNat ∧ i ≤ f (701 * r).toNat ∧ (∀ j : Nat, (j : Int) < i → g (701 * r + 1 + (j : Int)).toNat = f (701 * r + 1 + (j : Int)).toNat) ∧ (∀ j : Nat, i ≤ (j : Int) → (j : Int) < f (701 * r).toNat → g (701 * r + 1 + ((j : Int) + 1)).toNat = f (701 * r + 1 + (j : Int)).toNat ∧ f (701 * r + 1 + (j : Int)).toNat < t)
theorem hpLI_0 {f : Nat → Int} {r n t : Int} (hn : n = f (701 * r).toNat) : hpLI f f r n t := ⟨rfl, by omega, fun _ _ => rfl, fun j h1 h2 => by exfalso; omega⟩
theorem hpLI_s {f g : Nat → Int} {r i i' t v : Int} (h : hpLI f g r i t) (h0 : 0 ≤ r) (hi : 0 < i) (hi' : i' = i - 1) (hv : v = g (701 * r + 1 + (i - 1)).toNat) (hlt : v < t) : hpLI f (hpu g (701 * r + 1 + i).toNat v) r i' t := by
  obtain ⟨a1, a2, a3, a4⟩ := h
  have ev : v = f (701 * r + 1 + ((i - 1).toNat : Int)).toNat := by
    rw [hv, ← a3 (i - 1).toNat (by omega), show (((i - 1).toNat : Nat) : Int) = i - 1 by omega]
  refine ⟨?_, by omega, fun j hj => ?_, fun j h1 h2 => ?_⟩
  · rw [hpu_ne (by omega)]
    exact a1
  · rw [hpu_ne (by omega)]
    exact a3 j (by omega)
  · by_cases e : (j : Int) = i - 1
    · rw [show (701 * r + 1 + ((j : Int) + 1)) = 701 * r + 1 + i by omega, hpu_at, show 701 * r + 1 + (j : Int) = 701 * r + 1 + ((i - 1).toNat : Int) by omega, ← ev]
      exact ⟨rfl, hlt⟩
    · rw [hpu_ne (by omega)]
      exact a4 j (by omega) h2
theorem hpLI_f {f g : Nat → Int} {r i t n : Int} {L : List Nat} (h : hpLI f g r i t) (h0 : 0 ≤ r) (hi : 0 ≤ i) (ht : 0 < t) (hc : i = 0 ∨ t ≤ g (701 * r + 1 + (i - 1)).toNat) (hn : n = f (701 * r).toNat + 1) (hL : hpRw f r L) : hpRw (hpu (hpu g (701 * r + 1 + i).toNat t) (701 * r).toNat n) r (hpIn t.toNat L) := by
  obtain ⟨a1, a2, a3, a4⟩ := h
  obtain ⟨l1, l2⟩ := hL
  obtain ⟨k, rfl⟩ : ∃ k : Nat, i = (k : Int) := ⟨i.toNat, by omega⟩
  obtain ⟨u, rfl⟩ : ∃ u : Nat, t = (u : Int) := ⟨t.toNat, by omega⟩
  have hk : k ≤ L.length := by omega
  have e : hpIn (u : Int).toNat L = L.take k ++ u :: L.drop k := by
    rw [show ((u : Int)).toNat = u by omega]
    refine hpIn_at u L k hk (fun j h1 h2 => ?_) ?_
    · have q := (a4 j (by omega) (by omega)).2
      rw [l2 j h2] at q
      omega
    · rcases Nat.eq_zero_or_pos k with q | q
      · exact Or.inl q
      · right
        rcases hc with hc | hc
        · omega
        · have q2 := a3 (k - 1) (by omega)
          rw [show (701 * r + 1 + ((k : Int) - 1)) = 701 * r + 1 + ((k - 1 : Nat) : Int) by omega, q2, l2 (k - 1) (by omega)] at hc
          omega
  rw [e]
  have hlen : (L.take k ++ u :: L.drop k).length = L.length + 1 := by
    rw [List.length_append, List.length_take, List.length_cons, List.length_drop]
    omega
  refine ⟨?_, fun j hj => ?_⟩
  · rw [hpu_at, hn, l1, hlen]
    omega
  · rw [hlen] at hj
    rw [hpu_ne (by omega), hp_getIn hk]
    by_cases c1 : j < k
    · rw [if_pos c1, hpu_ne (by omega), a3 j (by omega)]
      exact l2 j (by omega)
    · rw [if_neg c1]
      by_cases c2 : j = k
      · subst c2
        rw [if_pos rfl, hpu_at]
      · rw [if_neg c2, hpu_ne (by omega)]
        have q := (a4 (j - 1) (by omega) (by omega)).1
        rw [show (701 * r + 1 + (((j - 1 : Nat) : Int) + 1)) = 701 * r + 1 + (j : Int) by omega] at q
        rw [q]
        exact l2 (j - 1) (by omega)
/-- while the highest is taken away -/
def hpTI (f g : Nat → Int) (r i : Int) : Prop := g (701 * r).toNat = f (701 * r).toNat - 1 ∧ (∀ j : Nat, (j : Int) < i → g (701 * r + 1 + (j : Int)).toNat = f (701 * r + 1 + ((j : Int) + 1)).toNat) ∧ (∀ j : Nat, i ≤ (j : Int) → g (701 * r + 1 + (j : Int)).toNat = f (701 * r + 1 + (j : Int)).toNat)
theorem hpTI_0 {f : Nat → Int} {r n : Int} (h0 : 0 ≤ r) (hn : n = f (701 * r).toNat - 1) : hpTI f (hpu f (701 * r).toNat n) r 0 := ⟨by rw [hpu_at, hn], fun j hj => by exfalso; omega, fun j _ => hpu_ne (by omega)⟩
theorem hpTI_s {f g : Nat → Int} {r i v : Int} (h : hpTI f g r i) (h0 : 0 ≤ r) (hi : 0 ≤ i) (hv : v = g (701 * r + 1 + (i + 1)).toNat) : hpTI f (hpu g (701 * r + 1 + i).toNat v) r (i + 1) := by
  obtain ⟨a1, a2, a3⟩ := h
  refine ⟨?_, fun j hj => ?_, fun j hj => ?_⟩
  · rw [hpu_ne (by omega)]
    exact a1
  · by_cases e : (j : Int) = i
    · rw [e, hpu_at, hv]
      have q := a3 (j + 1) (by omega)
      rw [show ((j + 1 : Nat) : Int) = i + 1 by omega] at q
      exact q
    · rw [hpu_ne (by omega)]
      exact a2 j (by omega)
  · rw [hpu_ne (by omega)]
    exact a3 j (by omega)
theorem hpTI_f {f g : Nat → Int} {r i : Int} {L : List Nat} (h : hpTI f g r i) (hi : g (701 * r).toNat ≤ i) (hn : f (701 * r).toNat ≠ 0) (hL : hpRw f r L) : hpRw g r L.tail := by
  obtain ⟨a1, a2, a3⟩ := h
  obtain ⟨l1, l2⟩ := hL
  cases L with
  | nil => exact absurd l1 hn
  | cons a l =>
    rw [List.length_cons] at l1
    refine ⟨?_, fun j hj => ?_⟩
    · show g (701 * r).toNat = ((l.length : Nat) : Int)
      omega
    · have hj : j < l.length := hj
      rw [a2 j (by omega)]
      have q := l2 (j + 1) (by rw [List.length_cons]; omega)
      rw [show (701 * r + 1 + ((j + 1 : Nat) : Int)) = 701 * r + 1 + ((j : Int) + 1) by omega] at q
      exact q
/-- two rows are the same -/
def hpEq (f : Nat → Int) (a b : Int) : Prop := f (701 * a).toNat = f (701 * b).toNat ∧ ∀ j : Nat, (j : Int) < f (701 * a).toNat → f (701 * a + 1 + (j : Int)).toNat = f (701 * b + 1 + (j : Int)).toNat
def hpEI (f : Nat → Int) (a b is i : Int) : Prop := (is = 1 → f (701 * a).toNat = f (701 * b).toNat ∧ ∀ j : Nat, (j : Int) < i → f (701 * a + 1 + (j : Int)).toNat = f (701 * b + 1 + (j : Int)).toNat) ∧ (is = 0 → ¬ hpEq f a b)
theorem hpEI_0 {f : Nat → Int} {a b is : Int} (h : (is = 1 ∧ f (701 * a).toNat = f (701 * b).toNat) ∨ (is = 0 ∧ ¬ f (701 * a).toNat = f (701 * b).toNat)) : hpEI f a b is 0 := by
  refine ⟨fun e => ⟨by omega, fun j hj => by exfalso; omega⟩, fun e q => ?_⟩
  have := q.1
  omega
theorem hpEI_s {f : Nat → Int} {a b is is' i : Int} (h : hpEI f a b is i) (hi : 0 ≤ i) (h1 : is = 1) (hl : i < f (701 * a).toNat) (hc : (is' = 1 ∧ f (701 * a + 1 + i).toNat = f (701 * b + 1 + i).toNat) ∨ (is' = 0 ∧ ¬ f (701 * a + 1 + i).toNat = f (701 * b + 1 + i).toNat)) : hpEI f a b is' (i + 1) := by
  obtain ⟨q1, q2⟩ := h.1 h1
  refine ⟨fun e => ⟨q1, fun j hj => ?_⟩, fun e q => ?_⟩
  · by_cases c : (j : Int) = i
    · rw [c]
      omega
    · exact q2 j (by omega)
  · have q3 := q.2 i.toNat (by omega)
    rw [show ((i.toNat : Nat) : Int) = i by omega] at q3
    omega
theorem hpEI_f {f : Nat → Int} {a b is i : Int} (h : hpEI f a b is i) (hc : is = 0 ∨ f (701 * a).toNat ≤ i) (hb : 0 ≤ is ∧ is ≤ 1) : (is = 1 → hpEq f a b) ∧ (is = 0 → ¬ hpEq f a b) := by
  refine ⟨fun e => ?_, h.2⟩
  obtain ⟨q1, q2⟩ := h.1 e
  exact ⟨q1, fun j hj => q2 j (by omega)⟩
theorem hpEq_rf {f : Nat → Int} {a : Int} : hpEq f a a := ⟨rfl, fun _ _ => rfl⟩
theorem hpEq_iff {f : Nat → Int} {a b : Int} {L M : List Nat} (h1 : hpRw f a L) (h2 : hpRw f b M) : hpEq f a b ↔ L = M := by
  constructor
  · intro h
    refine hpRw.uniq h1 ⟨?_, fun j hj => ?_⟩
    · rw [h.1]
      exact h2.1
    · rw [h.2 j (by have q := h.1; have q2 := h2.1; omega)]
      exact h2.2 j hj
  · intro e
    subst e
    exact ⟨h1.1.trans h2.1.symm, fun j hj => by
      have hj' : j < L.length := by have q := h1.1; omega
      exact (h1.2 j hj').trans (h2.2 j hj').symm⟩
/-! a step -/
def hpOn (w i h : Nat) : Nat := if (w = 1 ∧ i = 0) ∨ (w = 2 ∧ h = 1) then 0 else if w = 3 ∧ 1 < h then 2 else 1
theorem hpOn_2 (w i h : Nat) : hpOn w i h ≤ 2 := by
  unfold hpOn
  split
  · omega
  · split <;> omega
theorem hpOn_le {w i h : Nat} (h1 : 1 ≤ h) : hpOn w i h ≤ h := by
  unfold hpOn
  split
  · omega
  · split <;> omega
def hpLy (t : Nat) (L : List Nat) : List Nat := if t = 0 then L else hpIn t L
theorem hpLy_sum (t : Nat) (L : List Nat) : (hpLy t L).sum = t + L.sum := by
  unfold hpLy
  split
  · omega
  · exact hpIn_sum t L
theorem hpLy_len (t : Nat) (L : List Nat) : (hpLy t L).length ≤ L.length + 1 := by
  unfold hpLy
  split
  · omega
  · rw [hpIn_len]
    omega
theorem hpLy_pos {t : Nat} {L : List Nat} (h : ∀ a ∈ L, 1 ≤ a) : ∀ a ∈ hpLy t L, 1 ≤ a := by
  intro a ha
  unfold hpLy at ha
  split at ha
  · exact h a ha
  · rcases hpIn_mem ha with q | q
    · omega
    · exact h a q
def hpTk (w : Nat) (L : List Nat) : Nat → Nat
  | 0 => 0
  | i + 1 => hpTk w L i + hpOn w i (L.getD i 0)
def hpSP (w : Nat) (L : List Nat) : Nat → List Nat
  | 0 => []
  | i + 1 => hpLy (L.getD i 0 - hpOn w i (L.getD i 0)) (hpSP w L i)
def hpSt (w : Nat) (L : List Nat) : List Nat := hpLy (hpTk w L L.length) (hpSP w L L.length)
theorem hpTk_le (w : Nat) (L : List Nat) (i : Nat) : hpTk w L i ≤ 2 * i := by
  induction i with
  | zero => exact Nat.le_refl 0
  | succ i ih =>
    have q := hpOn_2 w i (L.getD i 0)
    show hpTk w L i + hpOn w i (L.getD i 0) ≤ _
    omega
theorem hpSP_len (w : Nat) (L : List Nat) (i : Nat) : (hpSP w L i).length ≤ i := by
  induction i with
  | zero => exact Nat.le_refl 0
  | succ i ih =>
    have q := hpLy_len (L.getD i 0 - hpOn w i (L.getD i 0)) (hpSP w L i)
    show (hpLy _ _).length ≤ _
    omega
theorem hpSP_pos (w : Nat) (L : List Nat) (i : Nat) : ∀ a ∈ hpSP w L i, 1 ≤ a := by
  induction i with
  | zero => intro a ha; exact absurd ha List.not_mem_nil
  | succ i ih => exact hpLy_pos ih
theorem hp_takesum : ∀ (L : List Nat) (i : Nat), i < L.length → (L.take (i + 1)).sum = (L.take i).sum + L.getD i 0
  | [], i, h => absurd h (Nat.not_lt_zero i)
  | a :: l, 0, _ => by
    show (a :: l.take 0).sum = 0 + a
    simp
  | a :: l, i + 1, h => by
    have q := hp_takesum l i (by rw [List.length_cons] at h; omega)
    show (a :: l.take (i + 1)).sum = (a :: l.take i).sum + l.getD i 0
    rw [List.sum_cons, List.sum_cons, q]
    omega
theorem hpSP_sum {w : Nat} {L : List Nat} (h : ∀ a ∈ L, 1 ≤ a) (i : Nat) (hi : i ≤ L.length) : (hpSP w L i).sum + hpTk w L i = (L.take i).sum := by
  induction i with
  | zero => simp [hpSP, hpTk]
  | succ i ih =>
    have q := ih (by omega)
    have q2 := hp_takesum L i (by omega)
    have q3 := hpOn_le (w := w) (i := i) (h _ (hp_gd (L := L) (j := i) (by omega)))
    show (hpLy _ _).sum + (hpTk w L i + hpOn w i (L.getD i 0)) = _
    rw [hpLy_sum]
    omega
theorem hpSt_sum {w : Nat} {L : List Nat} (h : ∀ a ∈ L, 1 ≤ a) : (hpSt w L).sum = L.sum := by
  have q := hpSP_sum (w := w) h L.length (Nat.le_refl _)
  rw [List.take_length] at q
  unfold hpSt
  rw [hpLy_sum]
  omega
theorem hpSt_pos {w : Nat} {L : List Nat} : ∀ a ∈ hpSt w L, 1 ≤ a := hpLy_pos (hpSP_pos w L L.length)
def hpOk (L : List Nat) : Prop := (∀ a ∈ L, 1 ≤ a) ∧ L.sum ≤ 700
theorem hpOk.len {L : List Nat} (h : hpOk L) : L.length ≤ 700 := Nat.le_trans (hp_ls h.1) h.2
theorem hpOk.st {w : Nat} {L : List Nat} (h : hpOk L) : hpOk (hpSt w L) := ⟨hpSt_pos, by rw [hpSt_sum h.1]; exact h.2⟩
theorem hpOk.tk {w : Nat} {L : List Nat} (h : hpOk L) : (hpSP w L L.length).length + hpTk w L L.length ≤ 700 := by
  have q := hpSP_sum (w := w) h.1 L.length (Nat.le_refl _)
  rw [List.take_length] at q
  have q2 := hp_ls (hpSP_pos w L L.length)
  have q3 := h.2
  omega
def hpIt (w : Nat) (L : List Nat) : Nat → List Nat
  | 0 => L
  | n + 1 => hpSt w (hpIt w L n)
theorem hpIt_ok {w : Nat} {L : List Nat} (h : hpOk L) (n : Nat) : hpOk (hpIt w L n) := by
  induction n with
  | zero => exact h
  | succ n ih => exact ih.st
/-! a row with at most so many turfs -/
def hpLe (f : Nat → Int) (r B : Int) : Prop := ∃ L : List Nat, hpRw f r L ∧ (∀ a ∈ L, 1 ≤ a) ∧ (L.sum : Int) ≤ B
theorem hpLe.mono {f : Nat → Int} {r B B' : Int} (h : hpLe f r B) (hb : B ≤ B') : hpLe f r B' := by
  obtain ⟨L, h1, h2, h3⟩ := h
  exact ⟨L, h1, h2, by omega⟩
theorem hpLe.many {f : Nat → Int} {r B : Int} (h : hpLe f r B) : 0 ≤ f (701 * r).toNat ∧ f (701 * r).toNat ≤ B := by
  obtain ⟨L, h1, h2, h3⟩ := h
  have q := hp_ls h2
  have q2 := h1.1
  omega
theorem hpLe.nil {f : Nat → Int} {r : Int} (h : f (701 * r).toNat = 0) : hpLe f r 0 := ⟨[], hpRw.nil h, fun a ha => absurd ha List.not_mem_nil, by simp⟩
theorem hpLe.lay {f g : Nat → Int} {r B t : Int} (h : hpLe f r B) (ht : 0 ≤ t) (hl : ∀ L, hpRw f r L → hpRw g r (hpLy t.toNat L)) : hpLe g r (B + t) := by
  obtain ⟨L, h1, h2, h3⟩ := h
  exact ⟨_, hl L h1, hpLy_pos h2, by rw [hpLy_sum]; omega⟩
theorem hp_tailsum (L : List Nat) : L.tail.sum ≤ L.sum := by
  cases L with
  | nil => exact Nat.le_refl _
  | cons a l => rw [List.sum_cons]; show l.sum ≤ _; omega
theorem hpLe.tail {f g : Nat → Int} {r B : Int} (h : hpLe f r B) (hl : ∀ L, hpRw f r L → hpRw g r L.tail) : hpLe g r B := by
  obtain ⟨L, h1, h2, h3⟩ := h
  have q := hp_tailsum L
  exact ⟨_, hl L h1, fun a ha => h2 a (List.mem_of_mem_tail ha), by omega⟩
theorem hpLe.copy {f g : Nat → Int} {a b B : Int} (h : hpLe f a B) (hl : ∀ L, hpRw f a L → hpRw g b L) : hpLe g b B := by
  obtain ⟨L, h1, h2, h3⟩ := h
  exact ⟨L, hl L h1, h2, h3⟩
theorem hpLe.fr {f g : Nat → Int} {r B : Int} (h : hpLe f r B) (hb : B ≤ 700) (h0 : 0 ≤ r) (e : ∀ i : Nat, 701 * r ≤ (i : Int) → (i : Int) ≤ 701 * r + 700 → g i = f i) : hpLe g r B := by
  obtain ⟨L, h1, h2, h3⟩ := h
  have q := hp_ls h2
  exact ⟨L, h1.fr (by omega) h0 e, h2, h3⟩
theorem hpLe.same {f g : Nat → Int} {r B : Int} (h : hpLe f r B) (e : ∀ i, g i = f i) : hpLe g r B := h.copy (fun _ q => q.same e)
theorem hpLe.ok {f : Nat → Int} {r : Int} (h : hpLe f r 700) : ∃ L : List Nat, hpRw f r L ∧ hpOk L := by
  obtain ⟨L, h1, h2, h3⟩ := h
  exact ⟨L, h1, h2, by omega⟩
theorem hpOk.le {f : Nat → Int} {r : Int} {L : List Nat} (h : hpOk L) (hL : hpRw f r L) : hpLe f r 700 := ⟨L, hL, h.1, by have q := h.2; omega⟩
/-! how many stand at a number; at it or behind it -/
def hpC1 (f : Nat → Int) (d : Int) : Nat → Int
  | 0 => 0
  | n + 1 => hpC1 f d n + (if f n = d then 1 else 0)
def hpC2 (f : Nat → Int) (d : Int) : Nat → Int
  | 0 => 0
  | n + 1 => hpC2 f d n + (if d ≤ f n then 1 else 0)
theorem hpC1_eq {f : Nat → Int} {d : Int} {n : Nat} (h : f n = d) : hpC1 f d (n + 1) = hpC1 f d n + 1 := by
  show hpC1 f d n + (if f n = d then 1 else 0) = _
  rw [if_pos h]
theorem hpC1_s (f : Nat → Int) (d : Int) (n : Nat) : hpC1 f d n ≤ hpC1 f d (n + 1) := by
  show _ ≤ hpC1 f d n + (if f n = d then 1 else 0)
  split <;> omega
theorem hpC1_m (f : Nat → Int) (d : Int) (a : Nat) : ∀ b, a ≤ b → hpC1 f d a ≤ hpC1 f d b := by
  intro b h
  induction b with
  | zero => rw [show a = 0 by omega]; exact Int.le_refl _
  | succ b ih =>
    by_cases e : a = b + 1
    · rw [e]; exact Int.le_refl _
    · exact Int.le_trans (ih (by omega)) (hpC1_s f d b)
theorem hpC1_0 (f : Nat → Int) (d : Int) (n : Nat) : 0 ≤ hpC1 f d n := hpC1_m f d 0 n (Nat.zero_le n)
theorem hpC2_b (f : Nat → Int) (d : Int) (n : Nat) : 0 ≤ hpC2 f d n ∧ hpC2 f d n ≤ n := by
  induction n with
  | zero => exact ⟨Int.le_refl _, Int.le_refl _⟩
  | succ n ih =>
    show 0 ≤ hpC2 f d n + (if d ≤ f n then 1 else 0) ∧ hpC2 f d n + (if d ≤ f n then 1 else 0) ≤ _
    split <;> omega
theorem hpC2_s (f : Nat → Int) (d : Int) (n : Nat) : hpC2 f d n = hpC1 f d n + hpC2 f (d + 1) n := by
  induction n with
  | zero => rfl
  | succ n ih =>
    show hpC2 f d n + (if d ≤ f n then 1 else 0) = hpC1 f d n + (if f n = d then 1 else 0) + (hpC2 f (d + 1) n + (if d + 1 ≤ f n then 1 else 0))
    split <;> split <;> split <;> omega
def hpE1 (a b : Int) : Int := if a = b then 20 else 0
def hpE2 (a b : Int) : Int := if b ≤ a then 20 else 0
theorem hpE1_eq {a b : Int} (h : a = b) : hpE1 a b = 20 := if_pos h
theorem hpE1_b (a b : Int) : 0 ≤ hpE1 a b := by unfold hpE1; split <;> omega
theorem hpE2_b (a b : Int) : 0 ≤ hpE2 a b ∧ hpE2 a b ≤ 20 := by unfold hpE2; split <;> omega
theorem hpE2_s (a b : Int) : hpE2 a b = hpE1 a b + hpE2 a (b + 1) := by
  unfold hpE1 hpE2
  split <;> split <;> split <;> omega
/-! the potential of a day: what carts, acts and the cart more can still bring from it on -/
def hpWd (σ : hpMem) (d : Int) : Int := 20 * hpC2 (σ 204) d (σ 196 4).toNat + 20 * hpC2 (fun q => σ 196 (27 + q) % 100) d (σ 196 5).toNat + hpE2 (σ 195 23) d
theorem hpWd_b (σ : hpMem) (d : Int) (h4 : 0 ≤ σ 196 4 ∧ σ 196 4 ≤ 6) (h5 : 0 ≤ σ 196 5 ∧ σ 196 5 ≤ 20) : 0 ≤ hpWd σ d ∧ hpWd σ d ≤ 540 := by
  have a := hpC2_b (σ 204) d (σ 196 4).toNat
  have b := hpC2_b (fun q => σ 196 (27 + q) % 100) d (σ 196 5).toNat
  have c := hpE2_b (σ 195 23) d
  unfold hpWd
  omega
theorem hpWd_s (σ : hpMem) (d : Int) : hpWd σ d = 20 * hpC1 (σ 204) d (σ 196 4).toNat + 20 * hpC1 (fun q => σ 196 (27 + q) % 100) d (σ 196 5).toNat + hpE1 (σ 195 23) d + hpWd σ (d + 1) := by
  have a := hpC2_s (σ 204) d (σ 196 4).toNat
  have b := hpC2_s (fun q => σ 196 (27 + q) % 100) d (σ 196 5).toNat
  have c := hpE2_s (σ 195 23) d
  unfold hpWd
  omega
/-! a word of the tape -/
def hpIs (σ : hpMem) (i : Nat) : Prop := σ 195 12 = 0 ∧ σ 195 10 = 1 ∧ σ 195 8 - σ 195 9 = (hpsL i : Int) ∧ ∀ k : Nat, k < hpsL i → σ 199 (σ 195 9 + (k : Int)).toNat = hpsC i k
noncomputable def hpIsI (σ : hpMem) (i : Nat) : Int := @ite Int (hpIs σ i) (Classical.propDecidable _) 1 0
def hpIJ (σ : hpMem) (i : Nat) (is : Int) (k : Nat) : Prop := (is = 1 → σ 195 12 = 0 ∧ σ 195 10 = 1 ∧ σ 195 8 - σ 195 9 = (hpsL i : Int) ∧ ∀ q : Nat, q < k → σ 199 (σ 195 9 + (q : Int)).toNat = hpsC i q) ∧ (is = 0 → ¬ hpIs σ i)
theorem hpIJ_0 {σ : hpMem} {i : Nat} {is : Int} (h : (is = 1 ∧ σ 195 12 = 0 ∧ σ 195 10 = 1 ∧ σ 195 8 - σ 195 9 = (hpsL i : Int)) ∨ (is = 0 ∧ (σ 195 12 ≠ 0 ∨ σ 195 10 ≠ 1 ∨ σ 195 8 - σ 195 9 ≠ (hpsL i : Int)))) : hpIJ σ i is 0 := by
  refine ⟨fun e => ⟨by omega, by omega, by omega, fun q hq => absurd hq (Nat.not_lt_zero q)⟩, fun e q => ?_⟩
  obtain ⟨q1, q2, q3, -⟩ := q
  omega
theorem hpIJ_s {σ : hpMem} {i k' : Nat} {is is' j fr : Int} (h : hpIJ σ i is j.toNat) (ef : σ 195 9 = fr) (h1 : is = 1) (h0 : 0 ≤ j) (hl : j < (hpsL i : Int)) (ek : k' = j.toNat + 1) (hc : (is' = 1 ∧ σ 199 (fr + j).toNat = hpsC i j.toNat) ∨ (is' = 0 ∧ ¬ σ 199 (fr + j).toNat = hpsC i j.toNat)) : hpIJ σ i is' k' := by
  subst ef
  subst ek
  obtain ⟨q1, q2, q3, q4⟩ := h.1 h1
  have ej : σ 195 9 + ((j.toNat : Nat) : Int) = σ 195 9 + j := by omega
  refine ⟨fun e => ⟨q1, q2, q3, fun q hq => ?_⟩, fun e p => ?_⟩
  · by_cases c : q = j.toNat
    · rw [c, ej]
      omega
    · exact q4 q (by omega)
  · have p4 := p.2.2.2 j.toNat (by omega)
    rw [ej] at p4
    omega
theorem hpIJ_f {σ : hpMem} {i k : Nat} {is : Int} (h : hpIJ σ i is k) (hc : is = 0 ∨ hpsL i ≤ k) : (is = 1 → hpIs σ i) ∧ (is = 0 → ¬ hpIs σ i) := by
  refine ⟨fun e => ?_, h.2⟩
  obtain ⟨q1, q2, q3, q4⟩ := h.1 e
  exact ⟨q1, q2, q3, fun q hq => q4 q (by omega)⟩
theorem hpIsI_of {σ : hpMem} {i : Nat} {x : Int} (hb : 0 ≤ x ∧ x ≤ 1) (h : (x = 1 → hpIs σ i) ∧ (x = 0 → ¬ hpIs σ i)) : x = hpIsI σ i := by
  unfold hpIsI
  by_cases e : x = 1
  · rw [if_pos (h.1 e), e]
  · rw [if_neg (h.2 (by omega))]
    omega
/-! a slot's row as what was seen -/
def hpSn (σ : hpMem) (s : Int) : Prop := 0 ≤ s ∧ s ≤ 3 ∧ 0 ≤ σ 213 s.toNat ∧ σ 213 s.toNat % 3 = 0 ∧ ∀ q : Nat, q % 3 = 0 → (q : Int) < σ 213 s.toNat → 0 ≤ σ 215 (60 * s + (q : Int)).toNat ∧ σ 215 (60 * s + (q : Int)).toNat ≤ σ 196 0
theorem hpSn.fr {σ τ : hpMem} {s : Int} (h : hpSn σ s) (e3 : ∀ i, τ 213 i = σ 213 i) (e5 : ∀ i, τ 215 i = σ 215 i) (e6 : τ 196 0 = σ 196 0) : hpSn τ s := by
  obtain ⟨h1, h2, h3, h4, h5⟩ := h
  refine ⟨h1, h2, by rw [e3]; exact h3, by rw [e3]; exact h4, fun q q1 q2 => ?_⟩
  rw [e5, e6]
  exact h5 q q1 (by rw [← e3]; exact q2)
/-! products -/
theorem hpMu (v o : Int) (hv : 0 ≤ v) (ho : 0 ≤ o ∧ o ≤ 10) : 0 ≤ v * o ∧ v * o ≤ 10 * v ∧ (v = 0 ∨ o = 0 ∨ 1 ≤ v * o) := by
  have a := Int.mul_nonneg hv ho.1
  have b := Int.mul_le_mul_of_nonneg_left ho.2 hv
  refine ⟨a, by omega, ?_⟩
  by_cases h1 : v = 0
  · exact Or.inl h1
  · by_cases h2 : o = 0
    · exact Or.inr (Or.inl h2)
    · have c := Int.mul_pos (show 0 < v by omega) (show 0 < o by omega)
      omega
theorem hpFs (v k : Int) (h : (v = 1 ∧ k = 2) ∨ (v = 2 ∧ k = 3) ∨ (v = 6 ∧ k = 4) ∨ (v = 24 ∧ k = 5) ∨ (v = 120 ∧ k = 6) ∨ (v = 720 ∧ k = 7)) : (v * k = 2 ∧ k = 2) ∨ (v * k = 6 ∧ k = 3) ∨ (v * k = 24 ∧ k = 4) ∨ (v * k = 120 ∧ k = 5) ∨ (v * k = 720 ∧ k = 6) ∨ (v * k = 5040 ∧ k = 7) := by
  rcases h with ⟨rfl, rfl⟩ | ⟨rfl, rfl⟩ | ⟨rfl, rfl⟩ | ⟨rfl, rfl⟩ | ⟨rfl, rfl⟩ | ⟨rfl, rfl⟩ <;> decide
def hpTen (k : Int) : Int := 10 ^ k.toNat
theorem hpTen_s (k : Int) (h : 0 ≤ k) : hpTen (k + 1) = 10 * hpTen k := by
  unfold hpTen
  rw [show (k + 1).toNat = k.toNat + 1 by omega, Int.pow_succ]
  omega
theorem hpTen_b (k : Int) (h0 : 0 ≤ k) (h : k ≤ 9) : hpTen k ≤ 1000000000 := by
  have q : ∀ n : Nat, n < 10 → (10 : Int) ^ n ≤ 1000000000 := by decide
  exact q k.toNat (by omega)
theorem hpShl2_b (d : Int) (h : 0 ≤ d ∧ d ≤ 7) : 2 ≤ hpShl 2 d ∧ hpShl 2 d ≤ 256 := by
  have q : ∀ n : Nat, n < 8 → 2 ≤ hpShl 2 (n : Int) ∧ hpShl 2 (n : Int) ≤ 256 := by decide +kernel
  have e := q d.toNat (by omega)
  rw [show ((d.toNat : Nat) : Int) = d by omega] at e
  exact e
theorem hpBit0 {s k : Int} (hs : s = 0) (hk : 0 ≤ k ∧ k ≤ 7) : hpAnd (hpShr s k) 1 = 0 := by
  subst hs
  have q : ∀ n : Nat, n < 8 → hpAnd (hpShr 0 (n : Int)) 1 = 0 := by decide +kernel
  have e := q k.toNat (by omega)
  rw [show ((k.toNat : Nat) : Int) = k by omega] at e
  exact e
theorem hpBit1 {s k d : Int} (hs : s = hpShl 2 d - 1) (hd : 0 ≤ d ∧ d ≤ 7) (h0 : 0 ≤ k) (hk : k ≤ d) : hpAnd (hpShr s k) 1 = 1 := by
  subst hs
  have q : ∀ n : Nat, n < 8 → ∀ m : Nat, m < n + 1 → hpAnd (hpShr (hpShl 2 (n : Int) - 1) (m : Int)) 1 = 1 := by decide +kernel
  have e := q d.toNat (by omega) k.toNat (by omega)
  rw [show ((d.toNat : Nat) : Int) = d by omega, show ((k.toNat : Nat) : Int) = k by omega] at e
  exact e

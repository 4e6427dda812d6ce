/-! rows that stay in order -/
theorem hpIn_so {t : Nat} {L : List Nat} (h : L.Pairwise (fun a b => b ≤ a)) : (hpIn t L).Pairwise (fun a b => b ≤ a) := by
  induction L with
  | nil => exact List.pairwise_singleton _ _
  | cons a l ih =>
    obtain ⟨h1, h2⟩ := List.pairwise_cons.mp h
    cases hq : (a :: l).all (fun b => decide (b < t)) with
    | true =>
      rw [hpIn_t hq]
      refine List.pairwise_cons.mpr ⟨fun b hb => ?_, h⟩
      have q := of_decide_eq_true (List.all_eq_true.mp hq b hb)
      omega
    | false =>
      rw [hpIn_f hq]
      refine List.pairwise_cons.mpr ⟨fun b hb => ?_, ih h2⟩
      rcases hpIn_mem hb with e | e
      · subst e
        by_cases c : b ≤ a
        · exact c
        · exfalso
          have q : (a :: l).all (fun x => decide (x < b)) = true := by
            rw [List.all_eq_true]
            intro x hx
            rcases List.mem_cons.mp hx with e | e
            · subst e
              exact decide_eq_true (by omega)
            · have := h1 x e
              exact decide_eq_true (by omega)
          rw [q] at hq
          cases hq
      · exact h1 b e
theorem hpLy_so {t : Nat} {L : List Nat} (h : L.Pairwise (fun a b => b ≤ a)) : (hpLy t L).Pairwise (fun a b => b ≤ a) := by
  unfold hpLy
  split
  · exact h
  · exact hpIn_so h
theorem hpSP_so (w : Nat) (L : List Nat) (i : Nat) : (hpSP w L i).Pairwise (fun a b => b ≤ a) := by
  induction i with
  | zero => exact List.Pairwise.nil
  | succ i ih => exact hpLy_so ih
theorem hpSt_so (w : Nat) (L : List Nat) : (hpSt w L).Pairwise (fun a b => b ≤ a) := hpLy_so (hpSP_so w L L.length)
/-! all rows of n turfs, one behind the other -/
def hpSr (L : List Nat) : Nat → Nat
  | 0 => 0
  | k + 1 => if L.getD k 0 = 1 then hpSr L k else k + 1
theorem hpSr_le (L : List Nat) (k : Nat) : hpSr L k ≤ k := by
  induction k with
  | zero => exact Nat.le_refl 0
  | succ k ih =>
    show (if L.getD k 0 = 1 then hpSr L k else k + 1) ≤ _
    split <;> omega
theorem hpSr_1 {L : List Nat} {k : Nat} (h : L.getD k 0 = 1) : hpSr L (k + 1) = hpSr L k := if_pos h
theorem hpSr_n {L : List Nat} {k : Nat} (h : ¬ L.getD k 0 = 1) : hpSr L (k + 1) = k + 1 := if_neg h
def hpFl : Nat → Nat → Nat → List Nat → List Nat
  | 0, _, _, acc => acc
  | n + 1, top, rest, acc => if rest = 0 then acc else hpFl n top (rest - min rest top) (hpLy (min rest top) acc)
theorem hpFl_0 (n top : Nat) (acc : List Nat) : hpFl n top 0 acc = acc := by
  cases n with
  | zero => rfl
  | succ n => exact if_pos rfl
theorem hpFl_s {n top rest : Nat} {acc : List Nat} (h : ¬ rest = 0) : hpFl (n + 1) top rest acc = hpFl n top (rest - min rest top) (hpLy (min rest top) acc) := if_neg h
def hpNx (L : List Nat) : List Nat := hpFl (L.length - (hpSr L L.length - 1)) (L.getD (hpSr L L.length - 1) 0 - 1) (L.length - (hpSr L L.length - 1)) (hpLy (L.getD (hpSr L L.length - 1) 0 - 1) (L.take (hpSr L L.length - 1)))
def hpOr : Nat → List Nat → List (List Nat)
  | 0, L => [L]
  | n + 1, L => if hpSr L L.length = 0 then [L] else L :: hpOr n (hpNx L)
theorem hpOr_0 (n : Nat) (L : List Nat) : 0 < (hpOr n L).length ∧ (hpOr n L).getD 0 [] = L := by
  cases n with
  | zero => exact ⟨Nat.zero_lt_one, rfl⟩
  | succ n =>
    show 0 < (if hpSr L L.length = 0 then [L] else L :: hpOr n (hpNx L)).length ∧ (if hpSr L L.length = 0 then [L] else L :: hpOr n (hpNx L)).getD 0 [] = L
    split
    · exact ⟨Nat.zero_lt_one, rfl⟩
    · exact ⟨Nat.zero_lt_succ _, rfl⟩
def hpAl (n : Nat) : List (List Nat) := hpOr 200 [n]
def hpGd (n : Nat) (L : List Nat) : Bool := L.all (fun a => decide (1 ≤ a)) && (decide (L.sum = n) && decide (L.length ≤ 14))
def hpCk (n : Nat) : List (List Nat) → Bool
  | [] => true
  | L :: r => hpGd n L && ((match r with | [] => decide (hpSr L L.length = 0) | M :: _ => decide (¬ hpSr L L.length = 0) && decide (M = hpNx L)) && hpCk n r)
theorem hpGd_of {n : Nat} {L : List Nat} (h : hpGd n L = true) : (∀ a ∈ L, 1 ≤ a) ∧ L.sum = n ∧ L.length ≤ 14 := by
  unfold hpGd at h
  rw [Bool.and_eq_true, Bool.and_eq_true] at h
  exact ⟨fun a ha => of_decide_eq_true (List.all_eq_true.mp h.1 a ha), of_decide_eq_true h.2.1, of_decide_eq_true h.2.2⟩
theorem hpCk_at {n : Nat} : ∀ (l : List (List Nat)), hpCk n l = true → ∀ k, k < l.length → hpGd n (l.getD k []) = true ∧ (k + 1 < l.length → ¬ hpSr (l.getD k []) (l.getD k []).length = 0 ∧ l.getD (k + 1) [] = hpNx (l.getD k [])) ∧ (k + 1 = l.length → hpSr (l.getD k []) (l.getD k []).length = 0)
  | [], _, k, hk => absurd hk (Nat.not_lt_zero k)
  | L :: [], h, 0, _ => by
    rw [hpCk, Bool.and_eq_true, Bool.and_eq_true] at h
    exact ⟨h.1, fun q => absurd q (Nat.lt_irrefl 1), fun _ => of_decide_eq_true h.2.1⟩
  | L :: [], h, k + 1, hk => by
    rw [List.length_cons, List.length_nil] at hk
    omega
  | L :: M :: r, h, 0, _ => by
    rw [hpCk, Bool.and_eq_true, Bool.and_eq_true] at h
    have h2 : (decide (¬ hpSr L L.length = 0) && decide (M = hpNx L)) = true := h.2.1
    rw [Bool.and_eq_true] at h2
    refine ⟨h.1, fun _ => ⟨of_decide_eq_true h2.1, of_decide_eq_true h2.2⟩, fun q => ?_⟩
    rw [List.length_cons, List.length_cons] at q
    omega
  | L :: M :: r, h, k + 1, hk => by
    rw [hpCk, Bool.and_eq_true, Bool.and_eq_true] at h
    have q := hpCk_at (M :: r) h.2.2 k (by rw [List.length_cons] at hk ⊢; rw [List.length_cons] at hk; omega)
    refine ⟨q.1, fun e => q.2.1 (by rw [List.length_cons] at e; omega), fun e => q.2.2 (by rw [List.length_cons] at e; omega)⟩
theorem hpCk_all : ∀ n, n < 15 → 1 ≤ n → hpCk n (hpAl n) = true ∧ (hpAl n).length ≤ 135 := by decide +kernel
/-- all of them, the greater heap first -/
def hpPt : Nat → Nat → Nat → List (List Nat)
  | 0, _, _ => [[]]
  | f + 1, n, m => if n = 0 then [[]] else (List.range (min n m)).flatMap (fun i => (hpPt f (n - (min n m - i)) (min n m - i)).map (fun l => (min n m - i) :: l))
theorem hpPt_in : ∀ (f n m : Nat) (L : List Nat), n ≤ f → L.sum = n → (∀ a ∈ L, 1 ≤ a ∧ a ≤ m) → L.Pairwise (fun a b => b ≤ a) → L ∈ hpPt f n m := by
  intro f
  induction f with
  | zero =>
    intro n m L hn hs hp hw
    cases L with
    | nil => exact List.mem_singleton.mpr rfl
    | cons a l =>
      have := (hp a List.mem_cons_self).1
      rw [List.sum_cons] at hs
      omega
  | succ f ih =>
    intro n m L hn hs hp hw
    show L ∈ (if n = 0 then [[]] else _)
    cases L with
    | nil =>
      have e : n = 0 := by rw [← hs]; rfl
      rw [if_pos e]
      exact List.mem_singleton.mpr rfl
    | cons a l =>
      have h1 := hp a List.mem_cons_self
      rw [List.sum_cons] at hs
      obtain ⟨w1, w2⟩ := List.pairwise_cons.mp hw
      rw [if_neg (by omega), List.mem_flatMap]
      have hmin : a ≤ min n m := by omega
      refine ⟨min n m - a, List.mem_range.mpr (by omega), ?_⟩
      rw [show min n m - (min n m - a) = a by omega, List.mem_map]
      exact ⟨l, ih (n - a) a l (by omega) (by omega) (fun b hb => ⟨(hp b (List.mem_cons_of_mem _ hb)).1, w1 b hb⟩) w2, rfl⟩
theorem hpPt_eq : ∀ n, n < 15 → 1 ≤ n → hpPt n n n = hpAl n := by decide +kernel
theorem hp_memle {L : List Nat} {a : Nat} (h : a ∈ L) : a ≤ L.sum := by
  induction L with
  | nil => exact absurd h List.not_mem_nil
  | cons b l ih =>
    rw [List.sum_cons]
    rcases List.mem_cons.mp h with e | e
    · omega
    · have := ih e
      omega
theorem hpAl_in {n : Nat} {L : List Nat} (h1 : 1 ≤ n) (h2 : n ≤ 14) (hs : L.sum = n) (hp : ∀ a ∈ L, 1 ≤ a) (hw : L.Pairwise (fun a b => b ≤ a)) : L ∈ hpAl n := by
  rw [← hpPt_eq n (by omega) h1]
  exact hpPt_in n n n L (Nat.le_refl n) hs (fun a ha => ⟨hp a ha, by have := hp_memle ha; omega⟩) hw
theorem hpRw.take {f : Nat → Int} {r v : Int} {L : List Nat} {k : Nat} {i : Nat} (h : hpRw f r L) (h0 : 0 ≤ r) (hk : k ≤ L.length) (hi : i = (701 * r).toNat) (hv : v = (k : Int)) : hpRw (hpu f i v) r (L.take k) := by
  subst hi
  have hl : (L.take k).length = k := by rw [List.length_take]; omega
  refine ⟨?_, fun j hj => ?_⟩
  · rw [hpu_at, hl, hv]
  · rw [hl] at hj
    rw [hpu_ne (by omega), h.2 j (by omega), List.getD_eq_getElem?_getD, List.getD_eq_getElem?_getD, List.getElem?_take_of_lt hj]
/-! rows that are listed -/
def hpLd (f : Nat → Int) (k : Int) (L : List Nat) : Prop := f (15 * k).toNat = (L.length : Int) ∧ ∀ j : Nat, j < L.length → f (15 * k + 1 + (j : Int)).toNat = ((L.getD j 0 : Nat) : Int)
theorem hpLd.fr {f g : Nat → Int} {k : Int} {L : List Nat} (h : hpLd f k L) (hl : L.length ≤ 14) (h0 : 0 ≤ k) (e : ∀ i : Nat, 15 * k ≤ (i : Int) → (i : Int) ≤ 15 * k + 14 → g i = f i) : hpLd g k L := by
  refine ⟨?_, fun j hj => ?_⟩
  · rw [e _ (by omega) (by omega)]
    exact h.1
  · rw [e _ (by omega) (by omega)]
    exact h.2 j hj
theorem hpLd_of {f g : Nat → Int} {k : Int} {L : List Nat} (h : hpRw f 18 L) (e : ∀ q : Nat, (q : Int) ≤ (L.length : Int) → g (15 * k + (q : Int)).toNat = f (12618 + (q : Int)).toNat) : hpLd g k L := by
  refine ⟨?_, fun j hj => ?_⟩
  · have q := e 0 (by omega)
    rw [show (15 * k + ((0 : Nat) : Int)) = 15 * k by omega, show ((12618 : Int) + ((0 : Nat) : Int)) = 701 * 18 by omega] at q
    rw [q]
    exact h.1
  · have q := e (j + 1) (by omega)
    rw [show (15 * k + ((j + 1 : Nat) : Int)) = 15 * k + 1 + (j : Int) by omega, show ((12618 : Int) + ((j + 1 : Nat) : Int)) = 701 * 18 + 1 + (j : Int) by omega] at q
    rw [q]
    exact h.2 j hj
theorem hpRw_of {f g : Nat → Int} {k r : Int} {L : List Nat} (h : hpLd f k L) (e : ∀ q : Nat, (q : Int) ≤ (L.length : Int) → g (701 * r + (q : Int)).toNat = f (15 * k + (q : Int)).toNat) : hpRw g r L := by
  refine ⟨?_, fun j hj => ?_⟩
  · have q := e 0 (by omega)
    rw [show (701 * r + ((0 : Nat) : Int)) = 701 * r by omega, show (15 * k + ((0 : Nat) : Int)) = 15 * k by omega] at q
    rw [q]
    exact h.1
  · have q := e (j + 1) (by omega)
    rw [show (701 * r + ((j + 1 : Nat) : Int)) = 701 * r + 1 + (j : Int) by omega, show (15 * k + ((j + 1 : Nat) : Int)) = 15 * k + 1 + (j : Int) by omega] at q
    rw [q]
    exact h.2 j hj
def hpLt (f : Nat → Int) (A : List (List Nat)) : Prop := ∀ k : Nat, k < A.length → hpLd f (k : Int) (A.getD k []) ∧ (A.getD k []).length ≤ 14
/-! where steps lead -/
def hpJt (f : Nat → Int) (k : Nat) : Nat → Nat
  | 0 => k
  | m + 1 => (f (hpJt f k m)).toNat
theorem hpJt_add (f : Nat → Int) (k a b : Nat) : hpJt f (hpJt f k a) b = hpJt f k (a + b) := by
  induction b with
  | zero => rfl
  | succ b ih =>
    show (f (hpJt f (hpJt f k a) b)).toNat = (f (hpJt f k (a + b))).toNat
    rw [ih]
theorem hpJt_lt {f : Nat → Int} {N k : Nat} (hf : ∀ q : Nat, q < N → 0 ≤ f q ∧ f q < (N : Int)) (hk : k < N) (m : Nat) : hpJt f k m < N := by
  induction m with
  | zero => exact hk
  | succ m ih =>
    have q := hf _ ih
    show (f (hpJt f k m)).toNat < N
    omega
theorem hp_pig : ∀ (N : Nat) (g : Nat → Nat), (∀ i, i ≤ N → g i < N) → ∃ i j, i < j ∧ j ≤ N ∧ g i = g j := by
  intro N
  induction N with
  | zero =>
    intro g h
    exact absurd (h 0 (Nat.le_refl 0)) (Nat.not_lt_zero _)
  | succ N ih =>
    intro g h
    by_cases hc : ∃ i, i ≤ N ∧ g i = g (N + 1)
    · obtain ⟨i, h1, h2⟩ := hc
      exact ⟨i, N + 1, by omega, Nat.le_refl _, h2⟩
    · have hn : ∀ i, i ≤ N → g i ≠ g (N + 1) := fun i hi e => hc ⟨i, hi, e⟩
      obtain ⟨i, j, h1, h2, h3⟩ := ih (fun i => if g (N + 1) < g i then g i - 1 else g i) (fun i hi => by
        have a := h i (by omega)
        have b := h (N + 1) (Nat.le_refl _)
        have c := hn i hi
        show (if g (N + 1) < g i then g i - 1 else g i) < N
        split <;> omega)
      have a := hn i (by omega)
      have b := hn j h2
      have h3 : (if g (N + 1) < g i then g i - 1 else g i) = (if g (N + 1) < g j then g j - 1 else g j) := h3
      refine ⟨i, j, h1, by omega, ?_⟩
      split at h3 <;> split at h3 <;> omega
theorem hpJt_ring {f : Nat → Int} {N k : Nat} (hf : ∀ q : Nat, q < N → 0 ≤ f q ∧ f q < (N : Int)) (hk : k < N) : ∃ j m, j ≤ N ∧ 1 ≤ m ∧ m ≤ N ∧ hpJt f (hpJt f k j) m = hpJt f k j := by
  obtain ⟨i, j, h1, h2, h3⟩ := hp_pig N (fun i => hpJt f k i) (fun i _ => hpJt_lt hf hk i)
  refine ⟨i, j - i, by omega, by omega, by omega, ?_⟩
  rw [hpJt_add, show i + (j - i) = j by omega]
  exact h3.symm
/-- what listAll leaves -/
def hpBd (σ : hpMem) : Prop := ∀ q : Nat, (q : Int) < σ 195 32 → 0 ≤ σ 208 q ∧ σ 208 q < σ 195 32
def hpTl (σ : hpMem) (n : Int) : Prop := ∀ q : Nat, (q : Int) < n → σ 209 q ≤ 0 → ∃ m : Nat, 1 ≤ m ∧ hpJt (σ 208) q m = q
def hpLq (σ : hpMem) (n : Nat) : Prop := σ 195 32 = ((hpAl n).length : Int) ∧ hpLt (σ 207) (hpAl n) ∧ hpBd σ ∧ hpTl σ (σ 195 32)
/-- a slot's numbers laid one by one -/
def hpQl (σ : hpMem) (s : Int) : Nat → List Nat
  | 0 => []
  | i + 1 => hpLy (σ 215 (60 * s + (i : Int)).toNat).toNat (hpQl σ s i)
theorem hpQl_so (σ : hpMem) (s : Int) (i : Nat) : (hpQl σ s i).Pairwise (fun a b => b ≤ a) := by
  induction i with
  | zero => exact List.Pairwise.nil
  | succ i ih => exact hpLy_so ih
theorem hpQl_pos (σ : hpMem) (s : Int) (i : Nat) : ∀ a ∈ hpQl σ s i, 1 ≤ a := by
  induction i with
  | zero => intro a ha; exact absurd ha List.not_mem_nil
  | succ i ih => exact hpLy_pos ih
theorem hpQl_s (σ : hpMem) (s : Int) (i : Nat) : (hpQl σ s (i + 1)).sum = (σ 215 (60 * s + (i : Int)).toNat).toNat + (hpQl σ s i).sum := hpLy_sum _ _
theorem hpQl_m (σ : hpMem) (s : Int) (a : Nat) : ∀ b, a ≤ b → (hpQl σ s a).sum ≤ (hpQl σ s b).sum := by
  intro b h
  induction b with
  | zero => rw [show a = 0 by omega]; exact Nat.le_refl _
  | succ b ih =>
    by_cases e : a = b + 1
    · rw [e]; exact Nat.le_refl _
    · have q := ih (by omega)
      rw [hpQl_s]
      omega
theorem hp_takele : ∀ (L : List Nat) (k : Nat), (∀ a ∈ L, 1 ≤ a) → k ≤ L.length → (L.take k).sum + (L.length - k) ≤ L.sum
  | L, 0, h, _ => by
    have q := hp_ls h
    simp
    omega
  | [], k + 1, _, hk => absurd hk (Nat.not_succ_le_zero k)
  | a :: l, k + 1, h, hk => by
    have q := hp_takele l k (fun b hb => h b (List.mem_cons_of_mem _ hb)) (by rw [List.length_cons] at hk; omega)
    show (a :: l.take k).sum + (l.length + 1 - (k + 1)) ≤ (a :: l).sum
    rw [List.sum_cons, List.sum_cons]
    omega
theorem hpCk_n {n : Int} (h1 : 1 ≤ n) (h2 : n ≤ 14) : (∀ k, k < (hpAl n.toNat).length → ((∀ a ∈ (hpAl n.toNat).getD k [], 1 ≤ a) ∧ ((hpAl n.toNat).getD k []).sum = n.toNat ∧ ((hpAl n.toNat).getD k []).length ≤ 14) ∧ (k + 1 < (hpAl n.toNat).length → ¬ hpSr ((hpAl n.toNat).getD k []) ((hpAl n.toNat).getD k []).length = 0 ∧ (hpAl n.toNat).getD (k + 1) [] = hpNx ((hpAl n.toNat).getD k [])) ∧ (k + 1 = (hpAl n.toNat).length → hpSr ((hpAl n.toNat).getD k []) ((hpAl n.toNat).getD k []).length = 0)) ∧ (hpAl n.toNat).length ≤ 135 := by
  obtain ⟨a, b⟩ := hpCk_all n.toNat (by omega) (by omega)
  refine ⟨fun k hk => ?_, b⟩
  obtain ⟨q1, q2, q3⟩ := hpCk_at _ a k hk
  exact ⟨hpGd_of q1, q2, q3⟩
theorem hpLq.fr {σ τ : hpMem} {n : Nat} (h : hpLq σ n) (e : ∀ j i : Nat, j ≠ 202 → τ j i = σ j i) : hpLq τ n := by
  obtain ⟨h1, h2, h3, h4⟩ := h
  have e7 : τ 207 = σ 207 := funext (fun i => e 207 i (by decide))
  have e8 : τ 208 = σ 208 := funext (fun i => e 208 i (by decide))
  have e9 : τ 209 = σ 209 := funext (fun i => e 209 i (by decide))
  have e5 : τ 195 32 = σ 195 32 := e 195 32 (by decide)
  unfold hpLq hpBd hpTl
  rw [e5, e7, e8, e9]
  exact ⟨h1, h2, h3, h4⟩

set_option maxHeartbeats 4000000 in
set_option maxRecDepth 20000 in
theorem law_50 {p : Program} {e : Env} {s : State} {m : MethodId} {below : List Frame} {meth : Method} {c : Code} (l : Launch) {b L : Nat} {xs : Nat → Int32} {D : va_G} {cy : Nat → ClassId} (C : hpC p s m #[.ref b] c code 4 RL D cy) (Z : hpStr s.heap.size cy s s.heap) (hr : meth.sig.returnType = ret) (hk : meth.locks = false) (hX : va_X b L xs s s.heap) (hbl : b < s.heap.size) (hL : L ≤ 3072) (σ : hpMem) (hI : hpInv σ) (hR : hpR72 σ) (i : Int) (hi0 : 0 ≤ i) (hi : i + 6 ≤ (L : Int)) (K : ∀ τ : hpMem, hpInv τ → hpR72 τ → hpV p l e room_1 s m #[.ref b] below meth c 217 24316 4 D cy s.heap.size s.heap (lw_Z below #[Value.ref b] s) τ 2352 [(3, .int (hpI i)), (2, .ref (s.heap.size + 195)), (1, .ref (s.heap.size + 0)), (0, .ref b)] []) : hpV p l e room_1 s m #[.ref b] below meth c 217 24316 4 D cy s.heap.size s.heap (lw_Z below #[Value.ref b] s) σ 1586 [(3, .int (hpI i)), (2, .ref (s.heap.size + 195)), (1, .ref (s.heap.size + 0)), (0, .ref b)] [] := by
  refine h_aload_n C dL_1586 2 rfl rfl ?_
  refine h_aload_n C dL_1587 3 rfl rfl ?_
  refine h_iload_n C dL_1588 0 rfl rfl ?_
  refine h_iconst C dL_1589 ?_
  refine h_iadd C dL_1590 rfl ?_
  refine h_sldL C hX hbl (i + 1).toNat (Int.toNat_of_nonneg (by omega)) (by omega) (by omega) dL_1591 ?_
  have hq1 := hpR_of (xs (i + 1).toNat)
  obtain ⟨hq1a, hq1b⟩ := hq1
  obtain ⟨v1, ev1⟩ : ∃ v : Int, v = (xs (i + 1).toNat).toInt := ⟨_, rfl⟩
  rw [← ev1] at hq1a hq1b ⊢
  refine h_callV (As := [.int (hpI v1)]) (rest := []) C Z yyX8_worth wd_1058 (tgX8_worth l D cy s.heap.size _ v1 ⟨by omega, by omega⟩ hI) kd_0 rfl rfl ⟨rfl, rfl, Nat.le_of_ble_eq_true rfl, Nat.le_of_ble_eq_true rfl⟩ ⟨Nat.le_of_ble_eq_true rfl, Nat.le_of_ble_eq_true rfl⟩ (Nat.le_of_ble_eq_true rfl) dL_1592 (fun r2 τ2 hp2 => ?_)
  obtain ⟨⟨x2, rfl, ⟨hx2a, hx2b⟩⟩, hI2, hG2⟩ := hp2
  show hpV _ _ _ _ _ _ _ _ _ _ _ _ _ _ _ _ _ _ _ _ _ (_ :: _)
  refine h_pop C rfl dL_1595 ?_
  refine h_aload_n C dL_1596 1 rfl rfl ?_
  refine h_aload_n C dL_1597 3 rfl rfl ?_
  refine h_iload_n C dL_1598 0 rfl rfl ?_
  refine h_iconst C dL_1599 ?_
  refine h_iadd C dL_1600 rfl ?_
  refine h_sldL C hX hbl (i + 1).toNat (Int.toNat_of_nonneg (by omega)) (by omega) (by omega) dL_1601 ?_
  have hq3 := hpR_of (xs (i + 1).toNat)
  obtain ⟨hq3a, hq3b⟩ := hq3
  obtain ⟨v3, ev3⟩ : ∃ v : Int, v = (xs (i + 1).toNat).toInt := ⟨_, rfl⟩
  rw [← ev3] at hq3a hq3b ⊢
  have ez3 : v1 = v3 := ev1.trans ev3.symm
  subst ez3
  refine h_callV (As := [.int (hpI v1)]) (rest := []) C Z yyX9_worth wd_1872 (tgX9_worth l D cy s.heap.size _ v1 ⟨by omega, by omega⟩ hI2) kd_195 rfl rfl ⟨rfl, rfl, Nat.le_of_ble_eq_true rfl, Nat.le_of_ble_eq_true rfl⟩ ⟨Nat.le_of_ble_eq_true rfl, Nat.le_of_ble_eq_true rfl⟩ (Nat.le_of_ble_eq_true rfl) dL_1602 (fun r4 τ4 hp4 => ?_)
  obtain ⟨⟨x4, rfl, ⟨hx4a, hx4b⟩⟩, hI4, hG4⟩ := hp4
  show hpV _ _ _ _ _ _ _ _ _ _ _ _ _ _ _ _ _ _ _ _ _ (_ :: _)
  refine h_pop C rfl dL_1605 ?_
  refine h_goto (tgt := 2352) C dL_1606 (by decide) ?_
  exact K τ4 hI4 (hR.fr (fun j i h => (hG4 j i (by omega)).trans (hG2 j i (by omega))))
set_option maxHeartbeats 4000000 in
set_option maxRecDepth 20000 in
theorem law_51 {p : Program} {e : Env} {s : State} {m : MethodId} {below : List Frame} {meth : Method} {c : Code} (l : Launch) {b L : Nat} {xs : Nat → Int32} {D : va_G} {cy : Nat → ClassId} (C : hpC p s m #[.ref b] c code 4 RL D cy) (Z : hpStr s.heap.size cy s s.heap) (hr : meth.sig.returnType = ret) (hk : meth.locks = false) (hX : va_X b L xs s s.heap) (hbl : b < s.heap.size) (hL : L ≤ 3072) (σ : hpMem) (hI : hpInv σ) (hR : hpR72 σ) (i : Int) (hi0 : 0 ≤ i) (hi : i + 6 ≤ (L : Int)) (K : ∀ τ : hpMem, hpInv τ → hpR72 τ → hpV p l e room_1 s m #[.ref b] below meth c 217 24316 4 D cy s.heap.size s.heap (lw_Z below #[Value.ref b] s) τ 2352 [(3, .int (hpI i)), (2, .ref (s.heap.size + 195)), (1, .ref (s.heap.size + 0)), (0, .ref b)] []) : hpV p l e room_1 s m #[.ref b] below meth c 217 24316 4 D cy s.heap.size s.heap (lw_Z below #[Value.ref b] s) σ 1609 [(3, .int (hpI i)), (2, .ref (s.heap.size + 195)), (1, .ref (s.heap.size + 0)), (0, .ref b)] [] := by
  refine h_aload_n C dL_1609 2 rfl rfl ?_
  refine h_aload_n C dL_1610 3 rfl rfl ?_
  refine h_iload_n C dL_1611 0 rfl rfl ?_
  refine h_iconst C dL_1612 ?_
  refine h_iadd C dL_1613 rfl ?_
  refine h_sldL C hX hbl (i + 1).toNat (Int.toNat_of_nonneg (by omega)) (by omega) (by omega) dL_1614 ?_
  have hq1 := hpR_of (xs (i + 1).toNat)
  obtain ⟨hq1a, hq1b⟩ := hq1
  obtain ⟨v1, ev1⟩ : ∃ v : Int, v = (xs (i + 1).toNat).toInt := ⟨_, rfl⟩
  rw [← ev1] at hq1a hq1b ⊢
  refine h_aload_n C dL_1615 3 rfl rfl ?_
  refine h_iload_n C dL_1616 0 rfl rfl ?_
  refine h_iconst C dL_1617 ?_
  refine h_iadd C dL_1618 rfl ?_
  refine h_sldL C hX hbl (i + 2).toNat (Int.toNat_of_nonneg (by omega)) (by omega) (by omega) dL_1619 ?_
  have hq2 := hpR_of (xs (i + 2).toNat)
  obtain ⟨hq2a, hq2b⟩ := hq2
  obtain ⟨v2, ev2⟩ : ∃ v : Int, v = (xs (i + 2).toNat).toInt := ⟨_, rfl⟩
  rw [← ev2] at hq2a hq2b ⊢
  refine h_callV (As := [.int (hpI v1), .int (hpI v2)]) (rest := []) C Z yyX8_share wd_1062 (tgX8_share l D cy s.heap.size _ v1 ⟨by omega, by omega⟩ v2 ⟨by omega, by omega⟩ hI) kd_0 rfl rfl ⟨rfl, rfl, Nat.le_of_ble_eq_true rfl, Nat.le_of_ble_eq_true rfl⟩ ⟨Nat.le_of_ble_eq_true rfl, Nat.le_of_ble_eq_true rfl⟩ (Nat.le_of_ble_eq_true rfl) dL_1620 (fun r3 τ3 hp3 => ?_)
  obtain ⟨⟨x3, rfl, ⟨hx3a, hx3b⟩⟩, hI3, hG3⟩ := hp3
  show hpV _ _ _ _ _ _ _ _ _ _ _ _ _ _ _ _ _ _ _ _ _ (_ :: _)
  refine h_pop C rfl dL_1623 ?_
  refine h_aload_n C dL_1624 1 rfl rfl ?_
  refine h_aload_n C dL_1625 3 rfl rfl ?_
  refine h_iload_n C dL_1626 0 rfl rfl ?_
  refine h_iconst C dL_1627 ?_
  refine h_iadd C dL_1628 rfl ?_
  refine h_sldL C hX hbl (i + 1).toNat (Int.toNat_of_nonneg (by omega)) (by omega) (by omega) dL_1629 ?_
  have hq4 := hpR_of (xs (i + 1).toNat)
  obtain ⟨hq4a, hq4b⟩ := hq4
  obtain ⟨v4, ev4⟩ : ∃ v : Int, v = (xs (i + 1).toNat).toInt := ⟨_, rfl⟩
  rw [← ev4] at hq4a hq4b ⊢
  have ez4 : v1 = v4 := ev1.trans ev4.symm
  subst ez4
  refine h_aload_n C dL_1630 3 rfl rfl ?_
  refine h_iload_n C dL_1631 0 rfl rfl ?_
  refine h_iconst C dL_1632 ?_
  refine h_iadd C dL_1633 rfl ?_
  refine h_sldL C hX hbl (i + 2).toNat (Int.toNat_of_nonneg (by omega)) (by omega) (by omega) dL_1634 ?_
  have hq5 := hpR_of (xs (i + 2).toNat)
  obtain ⟨hq5a, hq5b⟩ := hq5
  obtain ⟨v5, ev5⟩ : ∃ v : Int, v = (xs (i + 2).toNat).toInt := ⟨_, rfl⟩
  rw [← ev5] at hq5a hq5b ⊢
  have ez5 : v2 = v5 := ev2.trans ev5.symm
  subst ez5
  refine h_callV (As := [.int (hpI v1), .int (hpI v2)]) (rest := []) C Z yyX9_share wd_1880 (tgX9_share l D cy s.heap.size _ v1 ⟨by omega, by omega⟩ v2 ⟨by omega, by omega⟩ hI3) kd_195 rfl rfl ⟨rfl, rfl, Nat.le_of_ble_eq_true rfl, Nat.le_of_ble_eq_true rfl⟩ ⟨Nat.le_of_ble_eq_true rfl, Nat.le_of_ble_eq_true rfl⟩ (Nat.le_of_ble_eq_true rfl) dL_1635 (fun r6 τ6 hp6 => ?_)
  obtain ⟨⟨x6, rfl, ⟨hx6a, hx6b⟩⟩, hI6, hG6⟩ := hp6
  show hpV _ _ _ _ _ _ _ _ _ _ _ _ _ _ _ _ _ _ _ _ _ (_ :: _)
  refine h_pop C rfl dL_1638 ?_
  refine h_goto (tgt := 2352) C dL_1639 (by decide) ?_
  exact K τ6 hI6 (hR.fr (fun j i h => (hG6 j i (by omega)).trans (hG3 j i (by omega))))
set_option maxHeartbeats 4000000 in
set_option maxRecDepth 20000 in
theorem law_52 {p : Program} {e : Env} {s : State} {m : MethodId} {below : List Frame} {meth : Method} {c : Code} (l : Launch) {b L : Nat} {xs : Nat → Int32} {D : va_G} {cy : Nat → ClassId} (C : hpC p s m #[.ref b] c code 4 RL D cy) (Z : hpStr s.heap.size cy s s.heap) (hr : meth.sig.returnType = ret) (hk : meth.locks = false) (hX : va_X b L xs s s.heap) (hbl : b < s.heap.size) (hL : L ≤ 3072) (σ : hpMem) (hI : hpInv σ) (hR : hpR72 σ) (i : Int) (hi0 : 0 ≤ i) (hi : i + 6 ≤ (L : Int)) (K : ∀ τ : hpMem, hpInv τ → hpR72 τ → hpV p l e room_1 s m #[.ref b] below meth c 217 24316 4 D cy s.heap.size s.heap (lw_Z below #[Value.ref b] s) τ 2352 [(3, .int (hpI i)), (2, .ref (s.heap.size + 195)), (1, .ref (s.heap.size + 0)), (0, .ref b)] []) : hpV p l e room_1 s m #[.ref b] below meth c 217 24316 4 D cy s.heap.size s.heap (lw_Z below #[Value.ref b] s) σ 1642 [(3, .int (hpI i)), (2, .ref (s.heap.size + 195)), (1, .ref (s.heap.size + 0)), (0, .ref b)] [] := by
  refine h_aload_n C dL_1642 2 rfl rfl ?_
  refine h_aload_n C dL_1643 3 rfl rfl ?_
  refine h_iload_n C dL_1644 0 rfl rfl ?_
  refine h_iconst C dL_1645 ?_
  refine h_iadd C dL_1646 rfl ?_
  refine h_sldL C hX hbl (i + 1).toNat (Int.toNat_of_nonneg (by omega)) (by omega) (by omega) dL_1647 ?_
  have hq1 := hpR_of (xs (i + 1).toNat)
  obtain ⟨hq1a, hq1b⟩ := hq1
  obtain ⟨v1, ev1⟩ : ∃ v : Int, v = (xs (i + 1).toNat).toInt := ⟨_, rfl⟩
  rw [← ev1] at hq1a hq1b ⊢
  refine h_aload_n C dL_1648 3 rfl rfl ?_
  refine h_iload_n C dL_1649 0 rfl rfl ?_
  refine h_iconst C dL_1650 ?_
  refine h_iadd C dL_1651 rfl ?_
  refine h_sldL C hX hbl (i + 2).toNat (Int.toNat_of_nonneg (by omega)) (by omega) (by omega) dL_1652 ?_
  have hq2 := hpR_of (xs (i + 2).toNat)
  obtain ⟨hq2a, hq2b⟩ := hq2
  obtain ⟨v2, ev2⟩ : ∃ v : Int, v = (xs (i + 2).toNat).toInt := ⟨_, rfl⟩
  rw [← ev2] at hq2a hq2b ⊢
  refine h_callV (As := [.int (hpI v1), .int (hpI v2)]) (rest := []) C Z yyX8_wins wd_1092 (tgX8_wins l D cy s.heap.size _ v1 ⟨by omega, by omega⟩ v2 ⟨by omega, by omega⟩ hI) kd_0 rfl rfl ⟨rfl, rfl, Nat.le_of_ble_eq_true rfl, Nat.le_of_ble_eq_true rfl⟩ ⟨Nat.le_of_ble_eq_true rfl, Nat.le_of_ble_eq_true rfl⟩ (Nat.le_of_ble_eq_true rfl) dL_1653 (fun r3 τ3 hp3 => ?_)
  obtain ⟨⟨x3, rfl, ⟨hx3a, hx3b⟩⟩, hI3, hG3⟩ := hp3
  show hpV _ _ _ _ _ _ _ _ _ _ _ _ _ _ _ _ _ _ _ _ _ (_ :: _)
  refine h_pop C rfl dL_1656 ?_
  refine h_aload_n C dL_1657 1 rfl rfl ?_
  refine h_aload_n C dL_1658 3 rfl rfl ?_
  refine h_iload_n C dL_1659 0 rfl rfl ?_
  refine h_iconst C dL_1660 ?_
  refine h_iadd C dL_1661 rfl ?_
  refine h_sldL C hX hbl (i + 1).toNat (Int.toNat_of_nonneg (by omega)) (by omega) (by omega) dL_1662 ?_
  have hq4 := hpR_of (xs (i + 1).toNat)
  obtain ⟨hq4a, hq4b⟩ := hq4
  obtain ⟨v4, ev4⟩ : ∃ v : Int, v = (xs (i + 1).toNat).toInt := ⟨_, rfl⟩
  rw [← ev4] at hq4a hq4b ⊢
  have ez4 : v1 = v4 := ev1.trans ev4.symm
  subst ez4
  refine h_aload_n C dL_1663 3 rfl rfl ?_
  refine h_iload_n C dL_1664 0 rfl rfl ?_
  refine h_iconst C dL_1665 ?_
  refine h_iadd C dL_1666 rfl ?_
  refine h_sldL C hX hbl (i + 2).toNat (Int.toNat_of_nonneg (by omega)) (by omega) (by omega) dL_1667 ?_
  have hq5 := hpR_of (xs (i + 2).toNat)
  obtain ⟨hq5a, hq5b⟩ := hq5
  obtain ⟨v5, ev5⟩ : ∃ v : Int, v = (xs (i + 2).toNat).toInt := ⟨_, rfl⟩
  rw [← ev5] at hq5a hq5b ⊢
  have ez5 : v2 = v5 := ev2.trans ev5.symm
  subst ez5
  refine h_callV (As := [.int (hpI v1), .int (hpI v2)]) (rest := []) C Z yyX9_wins wd_1897 (tgX9_wins l D cy s.heap.size _ v1 ⟨by omega, by omega⟩ v2 ⟨by omega, by omega⟩ hI3) kd_195 rfl rfl ⟨rfl, rfl, Nat.le_of_ble_eq_true rfl, Nat.le_of_ble_eq_true rfl⟩ ⟨Nat.le_of_ble_eq_true rfl, Nat.le_of_ble_eq_true rfl⟩ (Nat.le_of_ble_eq_true rfl) dL_1668 (fun r6 τ6 hp6 => ?_)
  obtain ⟨⟨x6, rfl, ⟨hx6a, hx6b⟩⟩, hI6, hG6⟩ := hp6
  show hpV _ _ _ _ _ _ _ _ _ _ _ _ _ _ _ _ _ _ _ _ _ (_ :: _)
  refine h_pop C rfl dL_1671 ?_
  refine h_goto (tgt := 2352) C dL_1672 (by decide) ?_
  exact K τ6 hI6 (hR.fr (fun j i h => (hG6 j i (by omega)).trans (hG3 j i (by omega))))
set_option maxHeartbeats 4000000 in
set_option maxRecDepth 20000 in
theorem law_53 {p : Program} {e : Env} {s : State} {m : MethodId} {below : List Frame} {meth : Method} {c : Code} (l : Launch) {b L : Nat} {xs : Nat → Int32} {D : va_G} {cy : Nat → ClassId} (C : hpC p s m #[.ref b] c code 4 RL D cy) (Z : hpStr s.heap.size cy s s.heap) (hr : meth.sig.returnType = ret) (hk : meth.locks = false) (hX : va_X b L xs s s.heap) (hbl : b < s.heap.size) (hL : L ≤ 3072) (σ : hpMem) (hI : hpInv σ) (hR : hpR72 σ) (i : Int) (hi0 : 0 ≤ i) (hi : i + 6 ≤ (L : Int)) (K : ∀ τ : hpMem, hpInv τ → hpR72 τ → hpV p l e room_1 s m #[.ref b] below meth c 217 24316 4 D cy s.heap.size s.heap (lw_Z below #[Value.ref b] s) τ 2352 [(3, .int (hpI i)), (2, .ref (s.heap.size + 195)), (1, .ref (s.heap.size + 0)), (0, .ref b)] []) : hpV p l e room_1 s m #[.ref b] below meth c 217 24316 4 D cy s.heap.size s.heap (lw_Z below #[Value.ref b] s) σ 1675 [(3, .int (hpI i)), (2, .ref (s.heap.size + 195)), (1, .ref (s.heap.size + 0)), (0, .ref b)] [] := by
  refine h_aload_n C dL_1675 2 rfl rfl ?_
  refine h_aload_n C dL_1676 3 rfl rfl ?_
  refine h_iload_n C dL_1677 0 rfl rfl ?_
  refine h_iconst C dL_1678 ?_
  refine h_iadd C dL_1679 rfl ?_
  refine h_sldL C hX hbl (i + 1).toNat (Int.toNat_of_nonneg (by omega)) (by omega) (by omega) dL_1680 ?_
  have hq1 := hpR_of (xs (i + 1).toNat)
  obtain ⟨hq1a, hq1b⟩ := hq1
  obtain ⟨v1, ev1⟩ : ∃ v : Int, v = (xs (i + 1).toNat).toInt := ⟨_, rfl⟩
  rw [← ev1] at hq1a hq1b ⊢
  refine h_aload_n C dL_1681 3 rfl rfl ?_
  refine h_iload_n C dL_1682 0 rfl rfl ?_
  refine h_iconst C dL_1683 ?_
  refine h_iadd C dL_1684 rfl ?_
  refine h_sldL C hX hbl (i + 2).toNat (Int.toNat_of_nonneg (by omega)) (by omega) (by omega) dL_1685 ?_
  have hq2 := hpR_of (xs (i + 2).toNat)
  obtain ⟨hq2a, hq2b⟩ := hq2
  obtain ⟨v2, ev2⟩ : ∃ v : Int, v = (xs (i + 2).toNat).toInt := ⟨_, rfl⟩
  rw [← ev2] at hq2a hq2b ⊢
  refine h_callV (As := [.int (hpI v1), .int (hpI v2)]) (rest := []) C Z yyX8_moves wd_1100 (tgX8_moves l D cy s.heap.size _ v1 ⟨by omega, by omega⟩ v2 ⟨by omega, by omega⟩ hI) kd_0 rfl rfl ⟨rfl, rfl, Nat.le_of_ble_eq_true rfl, Nat.le_of_ble_eq_true rfl⟩ ⟨Nat.le_of_ble_eq_true rfl, Nat.le_of_ble_eq_true rfl⟩ (Nat.le_of_ble_eq_true rfl) dL_1686 (fun r3 τ3 hp3 => ?_)
  obtain ⟨⟨x3, rfl, ⟨hx3a, hx3b⟩⟩, hI3, hG3⟩ := hp3
  show hpV _ _ _ _ _ _ _ _ _ _ _ _ _ _ _ _ _ _ _ _ _ (_ :: _)
  refine h_pop C rfl dL_1689 ?_
  refine h_aload_n C dL_1690 1 rfl rfl ?_
  refine h_aload_n C dL_1691 3 rfl rfl ?_
  refine h_iload_n C dL_1692 0 rfl rfl ?_
  refine h_iconst C dL_1693 ?_
  refine h_iadd C dL_1694 rfl ?_
  refine h_sldL C hX hbl (i + 1).toNat (Int.toNat_of_nonneg (by omega)) (by omega) (by omega) dL_1695 ?_
  have hq4 := hpR_of (xs (i + 1).toNat)
  obtain ⟨hq4a, hq4b⟩ := hq4
  obtain ⟨v4, ev4⟩ : ∃ v : Int, v = (xs (i + 1).toNat).toInt := ⟨_, rfl⟩
  rw [← ev4] at hq4a hq4b ⊢
  have ez4 : v1 = v4 := ev1.trans ev4.symm
  subst ez4
  refine h_aload_n C dL_1696 3 rfl rfl ?_
  refine h_iload_n C dL_1697 0 rfl rfl ?_
  refine h_iconst C dL_1698 ?_
  refine h_iadd C dL_1699 rfl ?_
  refine h_sldL C hX hbl (i + 2).toNat (Int.toNat_of_nonneg (by omega)) (by omega) (by omega) dL_1700 ?_
  have hq5 := hpR_of (xs (i + 2).toNat)
  obtain ⟨hq5a, hq5b⟩ := hq5
  obtain ⟨v5, ev5⟩ : ∃ v : Int, v = (xs (i + 2).toNat).toInt := ⟨_, rfl⟩
  rw [← ev5] at hq5a hq5b ⊢
  have ez5 : v2 = v5 := ev2.trans ev5.symm
  subst ez5
  refine h_callV (As := [.int (hpI v1), .int (hpI v2)]) (rest := []) C Z yyX9_moves wd_1909 (tgX9_moves l D cy s.heap.size _ v1 ⟨by omega, by omega⟩ v2 ⟨by omega, by omega⟩ hI3) kd_195 rfl rfl ⟨rfl, rfl, Nat.le_of_ble_eq_true rfl, Nat.le_of_ble_eq_true rfl⟩ ⟨Nat.le_of_ble_eq_true rfl, Nat.le_of_ble_eq_true rfl⟩ (Nat.le_of_ble_eq_true rfl) dL_1701 (fun r6 τ6 hp6 => ?_)
  obtain ⟨⟨x6, rfl, ⟨hx6a, hx6b⟩⟩, hI6, hG6⟩ := hp6
  show hpV _ _ _ _ _ _ _ _ _ _ _ _ _ _ _ _ _ _ _ _ _ (_ :: _)
  refine h_pop C rfl dL_1704 ?_
  refine h_goto (tgt := 2352) C dL_1705 (by decide) ?_
  exact K τ6 hI6 (hR.fr (fun j i h => (hG6 j i (by omega)).trans (hG3 j i (by omega))))
set_option maxHeartbeats 4000000 in
set_option maxRecDepth 20000 in
theorem law_54 {p : Program} {e : Env} {s : State} {m : MethodId} {below : List Frame} {meth : Method} {c : Code} (l : Launch) {b L : Nat} {xs : Nat → Int32} {D : va_G} {cy : Nat → ClassId} (C : hpC p s m #[.ref b] c code 4 RL D cy) (Z : hpStr s.heap.size cy s s.heap) (hr : meth.sig.returnType = ret) (hk : meth.locks = false) (hX : va_X b L xs s s.heap) (hbl : b < s.heap.size) (hL : L ≤ 3072) (σ : hpMem) (hI : hpInv σ) (hR : hpR72 σ) (i : Int) (hi0 : 0 ≤ i) (hi : i + 6 ≤ (L : Int)) (K : ∀ τ : hpMem, hpInv τ → hpR72 τ → hpV p l e room_1 s m #[.ref b] below meth c 217 24316 4 D cy s.heap.size s.heap (lw_Z below #[Value.ref b] s) τ 2352 [(3, .int (hpI i)), (2, .ref (s.heap.size + 195)), (1, .ref (s.heap.size + 0)), (0, .ref b)] []) : hpV p l e room_1 s m #[.ref b] below meth c 217 24316 4 D cy s.heap.size s.heap (lw_Z below #[Value.ref b] s) σ 1708 [(3, .int (hpI i)), (2, .ref (s.heap.size + 195)), (1, .ref (s.heap.size + 0)), (0, .ref b)] [] := by
  refine h_aload_n C dL_1708 2 rfl rfl ?_
  refine h_aload_n C dL_1709 3 rfl rfl ?_
  refine h_iload_n C dL_1710 0 rfl rfl ?_
  refine h_iconst C dL_1711 ?_
  refine h_iadd C dL_1712 rfl ?_
  refine h_sldL C hX hbl (i + 1).toNat (Int.toNat_of_nonneg (by omega)) (by omega) (by omega) dL_1713 ?_
  have hq1 := hpR_of (xs (i + 1).toNat)
  obtain ⟨hq1a, hq1b⟩ := hq1
  obtain ⟨v1, ev1⟩ : ∃ v : Int, v = (xs (i + 1).toNat).toInt := ⟨_, rfl⟩
  rw [← ev1] at hq1a hq1b ⊢
  refine h_aload_n C dL_1714 3 rfl rfl ?_
  refine h_iload_n C dL_1715 0 rfl rfl ?_
  refine h_iconst C dL_1716 ?_
  refine h_iadd C dL_1717 rfl ?_
  refine h_sldL C hX hbl (i + 2).toNat (Int.toNat_of_nonneg (by omega)) (by omega) (by omega) dL_1718 ?_
  have hq2 := hpR_of (xs (i + 2).toNat)
  obtain ⟨hq2a, hq2b⟩ := hq2
  obtain ⟨v2, ev2⟩ : ∃ v : Int, v = (xs (i + 2).toNat).toInt := ⟨_, rfl⟩
  rw [← ev2] at hq2a hq2b ⊢
  refine h_callV (As := [.int (hpI v1), .int (hpI v2)]) (rest := []) C Z yyX8_move wd_1109 (tgX8_move l D cy s.heap.size _ v1 ⟨by omega, by omega⟩ v2 ⟨by omega, by omega⟩ hI) kd_0 rfl rfl ⟨rfl, rfl, Nat.le_of_ble_eq_true rfl, Nat.le_of_ble_eq_true rfl⟩ ⟨Nat.le_of_ble_eq_true rfl, Nat.le_of_ble_eq_true rfl⟩ (Nat.le_of_ble_eq_true rfl) dL_1719 (fun r3 τ3 hp3 => ?_)
  obtain ⟨⟨x3, rfl, ⟨hx3a, hx3b⟩⟩, hI3, hG3⟩ := hp3
  show hpV _ _ _ _ _ _ _ _ _ _ _ _ _ _ _ _ _ _ _ _ _ (_ :: _)
  refine h_pop C rfl dL_1722 ?_
  refine h_aload_n C dL_1723 1 rfl rfl ?_
  refine h_aload_n C dL_1724 3 rfl rfl ?_
  refine h_iload_n C dL_1725 0 rfl rfl ?_
  refine h_iconst C dL_1726 ?_
  refine h_iadd C dL_1727 rfl ?_
  refine h_sldL C hX hbl (i + 1).toNat (Int.toNat_of_nonneg (by omega)) (by omega) (by omega) dL_1728 ?_
  have hq4 := hpR_of (xs (i + 1).toNat)
  obtain ⟨hq4a, hq4b⟩ := hq4
  obtain ⟨v4, ev4⟩ : ∃ v : Int, v = (xs (i + 1).toNat).toInt := ⟨_, rfl⟩
  rw [← ev4] at hq4a hq4b ⊢
  have ez4 : v1 = v4 := ev1.trans ev4.symm
  subst ez4
  refine h_aload_n C dL_1729 3 rfl rfl ?_
  refine h_iload_n C dL_1730 0 rfl rfl ?_
  refine h_iconst C dL_1731 ?_
  refine h_iadd C dL_1732 rfl ?_
  refine h_sldL C hX hbl (i + 2).toNat (Int.toNat_of_nonneg (by omega)) (by omega) (by omega) dL_1733 ?_
  have hq5 := hpR_of (xs (i + 2).toNat)
  obtain ⟨hq5a, hq5b⟩ := hq5
  obtain ⟨v5, ev5⟩ : ∃ v : Int, v = (xs (i + 2).toNat).toInt := ⟨_, rfl⟩
  rw [← ev5] at hq5a hq5b ⊢
  have ez5 : v2 = v5 := ev2.trans ev5.symm
  subst ez5
  refine h_callV (As := [.int (hpI v1), .int (hpI v2)]) (rest := []) C Z yyX9_move wd_1921 (tgX9_move l D cy s.heap.size _ v1 ⟨by omega, by omega⟩ v2 ⟨by omega, by omega⟩ hI3) kd_195 rfl rfl ⟨rfl, rfl, Nat.le_of_ble_eq_true rfl, Nat.le_of_ble_eq_true rfl⟩ ⟨Nat.le_of_ble_eq_true rfl, Nat.le_of_ble_eq_true rfl⟩ (Nat.le_of_ble_eq_true rfl) dL_1734 (fun r6 τ6 hp6 => ?_)
  obtain ⟨⟨x6, rfl, ⟨hx6a, hx6b⟩⟩, hI6, hG6⟩ := hp6
  show hpV _ _ _ _ _ _ _ _ _ _ _ _ _ _ _ _ _ _ _ _ _ (_ :: _)
  refine h_pop C rfl dL_1737 ?_
  refine h_goto (tgt := 2352) C dL_1738 (by decide) ?_
  exact K τ6 hI6 (hR.fr (fun j i h => (hG6 j i (by omega)).trans (hG3 j i (by omega))))
set_option maxHeartbeats 4000000 in
set_option maxRecDepth 20000 in
theorem law_55 {p : Program} {e : Env} {s : State} {m : MethodId} {below : List Frame} {meth : Method} {c : Code} (l : Launch) {b L : Nat} {xs : Nat → Int32} {D : va_G} {cy : Nat → ClassId} (C : hpC p s m #[.ref b] c code 4 RL D cy) (Z : hpStr s.heap.size cy s s.heap) (hr : meth.sig.returnType = ret) (hk : meth.locks = false) (hX : va_X b L xs s s.heap) (hbl : b < s.heap.size) (hL : L ≤ 3072) (σ : hpMem) (hI : hpInv σ) (hR : hpR72 σ) (i : Int) (hi0 : 0 ≤ i) (hi : i + 6 ≤ (L : Int)) (K : ∀ τ : hpMem, hpInv τ → hpR72 τ → hpV p l e room_1 s m #[.ref b] below meth c 217 24316 4 D cy s.heap.size s.heap (lw_Z below #[Value.ref b] s) τ 2352 [(3, .int (hpI i)), (2, .ref (s.heap.size + 195)), (1, .ref (s.heap.size + 0)), (0, .ref b)] []) : hpV p l e room_1 s m #[.ref b] below meth c 217 24316 4 D cy s.heap.size s.heap (lw_Z below #[Value.ref b] s) σ 1741 [(3, .int (hpI i)), (2, .ref (s.heap.size + 195)), (1, .ref (s.heap.size + 0)), (0, .ref b)] [] := by
  refine h_aload_n C dL_1741 2 rfl rfl ?_
  refine h_aload_n C dL_1742 3 rfl rfl ?_
  refine h_iload_n C dL_1743 0 rfl rfl ?_
  refine h_iconst C dL_1744 ?_
  refine h_iadd C dL_1745 rfl ?_
  refine h_sldL C hX hbl (i + 1).toNat (Int.toNat_of_nonneg (by omega)) (by omega) (by omega) dL_1746 ?_
  have hq1 := hpR_of (xs (i + 1).toNat)
  obtain ⟨hq1a, hq1b⟩ := hq1
  obtain ⟨v1, ev1⟩ : ∃ v : Int, v = (xs (i + 1).toNat).toInt := ⟨_, rfl⟩
  rw [← ev1] at hq1a hq1b ⊢
  refine h_aload_n C dL_1747 3 rfl rfl ?_
  refine h_iload_n C dL_1748 0 rfl rfl ?_
  refine h_iconst C dL_1749 ?_
  refine h_iadd C dL_1750 rfl ?_
  refine h_sldL C hX hbl (i + 2).toNat (Int.toNat_of_nonneg (by omega)) (by omega) (by omega) dL_1751 ?_
  have hq2 := hpR_of (xs (i + 2).toNat)
  obtain ⟨hq2a, hq2b⟩ := hq2
  obtain ⟨v2, ev2⟩ : ∃ v : Int, v = (xs (i + 2).toNat).toInt := ⟨_, rfl⟩
  rw [← ev2] at hq2a hq2b ⊢
  refine h_callV (As := [.int (hpI v1), .int (hpI v2)]) (rest := []) C Z yyX8_rests wd_1113 (tgX8_rests l D cy s.heap.size _ v1 ⟨by omega, by omega⟩ v2 ⟨by omega, by omega⟩ hI) kd_0 rfl rfl ⟨rfl, rfl, Nat.le_of_ble_eq_true rfl, Nat.le_of_ble_eq_true rfl⟩ ⟨Nat.le_of_ble_eq_true rfl, Nat.le_of_ble_eq_true rfl⟩ (Nat.le_of_ble_eq_true rfl) dL_1752 (fun r3 τ3 hp3 => ?_)
  obtain ⟨⟨x3, rfl, ⟨hx3a, hx3b⟩⟩, hI3, hG3⟩ := hp3
  show hpV _ _ _ _ _ _ _ _ _ _ _ _ _ _ _ _ _ _ _ _ _ (_ :: _)
  refine h_pop C rfl dL_1755 ?_
  refine h_aload_n C dL_1756 1 rfl rfl ?_
  refine h_aload_n C dL_1757 3 rfl rfl ?_
  refine h_iload_n C dL_1758 0 rfl rfl ?_
  refine h_iconst C dL_1759 ?_
  refine h_iadd C dL_1760 rfl ?_
  refine h_sldL C hX hbl (i + 1).toNat (Int.toNat_of_nonneg (by omega)) (by omega) (by omega) dL_1761 ?_
  have hq4 := hpR_of (xs (i + 1).toNat)
  obtain ⟨hq4a, hq4b⟩ := hq4
  obtain ⟨v4, ev4⟩ : ∃ v : Int, v = (xs (i + 1).toNat).toInt := ⟨_, rfl⟩
  rw [← ev4] at hq4a hq4b ⊢
  have ez4 : v1 = v4 := ev1.trans ev4.symm
  subst ez4
  refine h_aload_n C dL_1762 3 rfl rfl ?_
  refine h_iload_n C dL_1763 0 rfl rfl ?_
  refine h_iconst C dL_1764 ?_
  refine h_iadd C dL_1765 rfl ?_
  refine h_sldL C hX hbl (i + 2).toNat (Int.toNat_of_nonneg (by omega)) (by omega) (by omega) dL_1766 ?_
  have hq5 := hpR_of (xs (i + 2).toNat)
  obtain ⟨hq5a, hq5b⟩ := hq5
  obtain ⟨v5, ev5⟩ : ∃ v : Int, v = (xs (i + 2).toNat).toInt := ⟨_, rfl⟩
  rw [← ev5] at hq5a hq5b ⊢
  have ez5 : v2 = v5 := ev2.trans ev5.symm
  subst ez5
  refine h_callV (As := [.int (hpI v1), .int (hpI v2)]) (rest := []) C Z yyX9_rests wd_1925 (tgX9_rests l D cy s.heap.size _ v1 ⟨by omega, by omega⟩ v2 ⟨by omega, by omega⟩ hI3) kd_195 rfl rfl ⟨rfl, rfl, Nat.le_of_ble_eq_true rfl, Nat.le_of_ble_eq_true rfl⟩ ⟨Nat.le_of_ble_eq_true rfl, Nat.le_of_ble_eq_true rfl⟩ (Nat.le_of_ble_eq_true rfl) dL_1767 (fun r6 τ6 hp6 => ?_)
  obtain ⟨⟨x6, rfl, ⟨hx6a, hx6b⟩⟩, hI6, hG6⟩ := hp6
  show hpV _ _ _ _ _ _ _ _ _ _ _ _ _ _ _ _ _ _ _ _ _ (_ :: _)
  refine h_pop C rfl dL_1770 ?_
  refine h_goto (tgt := 2352) C dL_1771 (by decide) ?_
  exact K τ6 hI6 (hR.fr (fun j i h => (hG6 j i (by omega)).trans (hG3 j i (by omega))))
set_option maxHeartbeats 4000000 in
set_option maxRecDepth 20000 in
theorem law_56 {p : Program} {e : Env} {s : State} {m : MethodId} {below : List Frame} {meth : Method} {c : Code} (l : Launch) {b L : Nat} {xs : Nat → Int32} {D : va_G} {cy : Nat → ClassId} (C : hpC p s m #[.ref b] c code 4 RL D cy) (Z : hpStr s.heap.size cy s s.heap) (hr : meth.sig.returnType = ret) (hk : meth.locks = false) (hX : va_X b L xs s s.heap) (hbl : b < s.heap.size) (hL : L ≤ 3072) (σ : hpMem) (hI : hpInv σ) (hR : hpR72 σ) (i : Int) (hi0 : 0 ≤ i) (hi : i + 6 ≤ (L : Int)) (K : ∀ τ : hpMem, hpInv τ → hpR72 τ → hpV p l e room_1 s m #[.ref b] below meth c 217 24316 4 D cy s.heap.size s.heap (lw_Z below #[Value.ref b] s) τ 2352 [(3, .int (hpI i)), (2, .ref (s.heap.size + 195)), (1, .ref (s.heap.size + 0)), (0, .ref b)] []) : hpV p l e room_1 s m #[.ref b] below meth c 217 24316 4 D cy s.heap.size s.heap (lw_Z below #[Value.ref b] s) σ 1774 [(3, .int (hpI i)), (2, .ref (s.heap.size + 195)), (1, .ref (s.heap.size + 0)), (0, .ref b)] [] := by
  refine h_aload_n C dL_1774 2 rfl rfl ?_
  refine h_aload_n C dL_1775 3 rfl rfl ?_
  refine h_iload_n C dL_1776 0 rfl rfl ?_
  refine h_iconst C dL_1777 ?_
  refine h_iadd C dL_1778 rfl ?_
  refine h_sldL C hX hbl (i + 1).toNat (Int.toNat_of_nonneg (by omega)) (by omega) (by omega) dL_1779 ?_
  have hq1 := hpR_of (xs (i + 1).toNat)
  obtain ⟨hq1a, hq1b⟩ := hq1
  obtain ⟨v1, ev1⟩ : ∃ v : Int, v = (xs (i + 1).toNat).toInt := ⟨_, rfl⟩
  rw [← ev1] at hq1a hq1b ⊢
  refine h_aload_n C dL_1780 3 rfl rfl ?_
  refine h_iload_n C dL_1781 0 rfl rfl ?_
  refine h_iconst C dL_1782 ?_
  refine h_iadd C dL_1783 rfl ?_
  refine h_sldL C hX hbl (i + 2).toNat (Int.toNat_of_nonneg (by omega)) (by omega) (by omega) dL_1784 ?_
  have hq2 := hpR_of (xs (i + 2).toNat)
  obtain ⟨hq2a, hq2b⟩ := hq2
  obtain ⟨v2, ev2⟩ : ∃ v : Int, v = (xs (i + 2).toNat).toInt := ⟨_, rfl⟩
  rw [← ev2] at hq2a hq2b ⊢
  refine h_aload_n C dL_1785 3 rfl rfl ?_
  refine h_iload_n C dL_1786 0 rfl rfl ?_
  refine h_iconst C dL_1787 ?_
  refine h_iadd C dL_1788 rfl ?_
  refine h_sldL C hX hbl (i + 3).toNat (Int.toNat_of_nonneg (by omega)) (by omega) (by omega) dL_1789 ?_
  have hq3 := hpR_of (xs (i + 3).toNat)
  obtain ⟨hq3a, hq3b⟩ := hq3
  obtain ⟨v3, ev3⟩ : ∃ v : Int, v = (xs (i + 3).toNat).toInt := ⟨_, rfl⟩
  rw [← ev3] at hq3a hq3b ⊢
  refine h_aload_n C dL_1790 3 rfl rfl ?_
  refine h_iload_n C dL_1791 0 rfl rfl ?_
  refine h_iconst C dL_1792 ?_
  refine h_iadd C dL_1793 rfl ?_
  refine h_sldL C hX hbl (i + 4).toNat (Int.toNat_of_nonneg (by omega)) (by omega) (by omega) dL_1794 ?_
  have hq4 := hpR_of (xs (i + 4).toNat)
  obtain ⟨hq4a, hq4b⟩ := hq4
  obtain ⟨v4, ev4⟩ : ∃ v : Int, v = (xs (i + 4).toNat).toInt := ⟨_, rfl⟩
  rw [← ev4] at hq4a hq4b ⊢
  refine h_aload_n C dL_1795 3 rfl rfl ?_
  refine h_iload_n C dL_1796 0 rfl rfl ?_
  refine h_iconst C dL_1797 ?_
  refine h_iadd C dL_1798 rfl ?_
  refine h_sldL C hX hbl (i + 5).toNat (Int.toNat_of_nonneg (by omega)) (by omega) (by omega) dL_1799 ?_
  have hq5 := hpR_of (xs (i + 5).toNat)
  obtain ⟨hq5a, hq5b⟩ := hq5
  obtain ⟨v5, ev5⟩ : ∃ v : Int, v = (xs (i + 5).toNat).toInt := ⟨_, rfl⟩
  rw [← ev5] at hq5a hq5b ⊢
  refine h_callV (As := [.int (hpI v1), .int (hpI v2), .int (hpI v3), .int (hpI v4), .int (hpI v5)]) (rest := []) C Z yyX8_gets wd_1127 (tgX8_gets l D cy s.heap.size _ v1 ⟨by omega, by omega⟩ v2 ⟨by omega, by omega⟩ v3 ⟨by omega, by omega⟩ v4 ⟨by omega, by omega⟩ v5 ⟨by omega, by omega⟩ hI) kd_0 rfl rfl ⟨rfl, rfl, Nat.le_of_ble_eq_true rfl, Nat.le_of_ble_eq_true rfl⟩ ⟨Nat.le_of_ble_eq_true rfl, Nat.le_of_ble_eq_true rfl⟩ (Nat.le_of_ble_eq_true rfl) dL_1800 (fun r6 τ6 hp6 => ?_)
  obtain ⟨⟨x6, rfl, ⟨hx6a, hx6b⟩⟩, hI6, hG6⟩ := hp6
  show hpV _ _ _ _ _ _ _ _ _ _ _ _ _ _ _ _ _ _ _ _ _ (_ :: _)
  refine h_pop C rfl dL_1803 ?_
  refine h_aload_n C dL_1804 1 rfl rfl ?_
  refine h_aload_n C dL_1805 3 rfl rfl ?_
  refine h_iload_n C dL_1806 0 rfl rfl ?_
  refine h_iconst C dL_1807 ?_
  refine h_iadd C dL_1808 rfl ?_
  refine h_sldL C hX hbl (i + 1).toNat (Int.toNat_of_nonneg (by omega)) (by omega) (by omega) dL_1809 ?_
  have hq7 := hpR_of (xs (i + 1).toNat)
  obtain ⟨hq7a, hq7b⟩ := hq7
  obtain ⟨v7, ev7⟩ : ∃ v : Int, v = (xs (i + 1).toNat).toInt := ⟨_, rfl⟩
  rw [← ev7] at hq7a hq7b ⊢
  have ez7 : v1 = v7 := ev1.trans ev7.symm
  subst ez7
  refine h_aload_n C dL_1810 3 rfl rfl ?_
  refine h_iload_n C dL_1811 0 rfl rfl ?_
  refine h_iconst C dL_1812 ?_
  refine h_iadd C dL_1813 rfl ?_
  refine h_sldL C hX hbl (i + 2).toNat (Int.toNat_of_nonneg (by omega)) (by omega) (by omega) dL_1814 ?_
  have hq8 := hpR_of (xs (i + 2).toNat)
  obtain ⟨hq8a, hq8b⟩ := hq8
  obtain ⟨v8, ev8⟩ : ∃ v : Int, v = (xs (i + 2).toNat).toInt := ⟨_, rfl⟩
  rw [← ev8] at hq8a hq8b ⊢
  have ez8 : v2 = v8 := ev2.trans ev8.symm
  subst ez8
  refine h_aload_n C dL_1815 3 rfl rfl ?_
  refine h_iload_n C dL_1816 0 rfl rfl ?_
  refine h_iconst C dL_1817 ?_
  refine h_iadd C dL_1818 rfl ?_
  refine h_sldL C hX hbl (i + 3).toNat (Int.toNat_of_nonneg (by omega)) (by omega) (by omega) dL_1819 ?_
  have hq9 := hpR_of (xs (i + 3).toNat)
  obtain ⟨hq9a, hq9b⟩ := hq9
  obtain ⟨v9, ev9⟩ : ∃ v : Int, v = (xs (i + 3).toNat).toInt := ⟨_, rfl⟩
  rw [← ev9] at hq9a hq9b ⊢
  have ez9 : v3 = v9 := ev3.trans ev9.symm
  subst ez9
  refine h_aload_n C dL_1820 3 rfl rfl ?_
  refine h_iload_n C dL_1821 0 rfl rfl ?_
  refine h_iconst C dL_1822 ?_
  refine h_iadd C dL_1823 rfl ?_
  refine h_sldL C hX hbl (i + 4).toNat (Int.toNat_of_nonneg (by omega)) (by omega) (by omega) dL_1824 ?_
  have hq10 := hpR_of (xs (i + 4).toNat)
  obtain ⟨hq10a, hq10b⟩ := hq10
  obtain ⟨v10, ev10⟩ : ∃ v : Int, v = (xs (i + 4).toNat).toInt := ⟨_, rfl⟩
  rw [← ev10] at hq10a hq10b ⊢
  have ez10 : v4 = v10 := ev4.trans ev10.symm
  subst ez10
  refine h_aload_n C dL_1825 3 rfl rfl ?_
  refine h_iload_n C dL_1826 0 rfl rfl ?_
  refine h_iconst C dL_1827 ?_
  refine h_iadd C dL_1828 rfl ?_
  refine h_sldL C hX hbl (i + 5).toNat (Int.toNat_of_nonneg (by omega)) (by omega) (by omega) dL_1829 ?_
  have hq11 := hpR_of (xs (i + 5).toNat)
  obtain ⟨hq11a, hq11b⟩ := hq11
  obtain ⟨v11, ev11⟩ : ∃ v : Int, v = (xs (i + 5).toNat).toInt := ⟨_, rfl⟩
  rw [← ev11] at hq11a hq11b ⊢
  have ez11 : v5 = v11 := ev5.trans ev11.symm
  subst ez11
  refine h_callV (As := [.int (hpI v1), .int (hpI v2), .int (hpI v3), .int (hpI v4), .int (hpI v5)]) (rest := []) C Z yyX9_gets wd_1937 (tgX9_gets l D cy s.heap.size _ v1 ⟨by omega, by omega⟩ v2 ⟨by omega, by omega⟩ v3 ⟨by omega, by omega⟩ v4 ⟨by omega, by omega⟩ v5 ⟨by omega, by omega⟩ hI6) kd_195 rfl rfl ⟨rfl, rfl, Nat.le_of_ble_eq_true rfl, Nat.le_of_ble_eq_true rfl⟩ ⟨Nat.le_of_ble_eq_true rfl, Nat.le_of_ble_eq_true rfl⟩ (Nat.le_of_ble_eq_true rfl) dL_1830 (fun r12 τ12 hp12 => ?_)
  obtain ⟨⟨x12, rfl, ⟨hx12a, hx12b⟩⟩, hI12, hG12⟩ := hp12
  show hpV _ _ _ _ _ _ _ _ _ _ _ _ _ _ _ _ _ _ _ _ _ (_ :: _)
  refine h_pop C rfl dL_1833 ?_
  refine h_goto (tgt := 2352) C dL_1834 (by decide) ?_
  exact K τ12 hI12 (hR.fr (fun j i h => (hG12 j i (by omega)).trans (hG6 j i (by omega))))
set_option maxHeartbeats 4000000 in
set_option maxRecDepth 20000 in
theorem law_57 {p : Program} {e : Env} {s : State} {m : MethodId} {below : List Frame} {meth : Method} {c : Code} (l : Launch) {b L : Nat} {xs : Nat → Int32} {D : va_G} {cy : Nat → ClassId} (C : hpC p s m #[.ref b] c code 4 RL D cy) (Z : hpStr s.heap.size cy s s.heap) (hr : meth.sig.returnType = ret) (hk : meth.locks = false) (hX : va_X b L xs s s.heap) (hbl : b < s.heap.size) (hL : L ≤ 3072) (σ : hpMem) (hI : hpInv σ) (hR : hpR72 σ) (i : Int) (hi0 : 0 ≤ i) (hi : i + 6 ≤ (L : Int)) (K : ∀ τ : hpMem, hpInv τ → hpR72 τ → hpV p l e room_1 s m #[.ref b] below meth c 217 24316 4 D cy s.heap.size s.heap (lw_Z below #[Value.ref b] s) τ 2352 [(3, .int (hpI i)), (2, .ref (s.heap.size + 195)), (1, .ref (s.heap.size + 0)), (0, .ref b)] []) : hpV p l e room_1 s m #[.ref b] below meth c 217 24316 4 D cy s.heap.size s.heap (lw_Z below #[Value.ref b] s) σ 1837 [(3, .int (hpI i)), (2, .ref (s.heap.size + 195)), (1, .ref (s.heap.size + 0)), (0, .ref b)] [] := by
  refine h_aload_n C dL_1837 2 rfl rfl ?_
  refine h_aload_n C dL_1838 3 rfl rfl ?_
  refine h_iload_n C dL_1839 0 rfl rfl ?_
  refine h_iconst C dL_1840 ?_
  refine h_iadd C dL_1841 rfl ?_
  refine h_sldL C hX hbl (i + 1).toNat (Int.toNat_of_nonneg (by omega)) (by omega) (by omega) dL_1842 ?_
  have hq1 := hpR_of (xs (i + 1).toNat)
  obtain ⟨hq1a, hq1b⟩ := hq1
  obtain ⟨v1, ev1⟩ : ∃ v : Int, v = (xs (i + 1).toNat).toInt := ⟨_, rfl⟩
  rw [← ev1] at hq1a hq1b ⊢
  refine h_aload_n C dL_1843 3 rfl rfl ?_
  refine h_iload_n C dL_1844 0 rfl rfl ?_
  refine h_iconst C dL_1845 ?_
  refine h_iadd C dL_1846 rfl ?_
  refine h_sldL C hX hbl (i + 2).toNat (Int.toNat_of_nonneg (by omega)) (by omega) (by omega) dL_1847 ?_
  have hq2 := hpR_of (xs (i + 2).toNat)
  obtain ⟨hq2a, hq2b⟩ := hq2
  obtain ⟨v2, ev2⟩ : ∃ v : Int, v = (xs (i + 2).toNat).toInt := ⟨_, rfl⟩
  rw [← ev2] at hq2a hq2b ⊢
  refine h_aload_n C dL_1848 3 rfl rfl ?_
  refine h_iload_n C dL_1849 0 rfl rfl ?_
  refine h_iconst C dL_1850 ?_
  refine h_iadd C dL_1851 rfl ?_
  refine h_sldL C hX hbl (i + 3).toNat (Int.toNat_of_nonneg (by omega)) (by omega) (by omega) dL_1852 ?_
  have hq3 := hpR_of (xs (i + 3).toNat)
  obtain ⟨hq3a, hq3b⟩ := hq3
  obtain ⟨v3, ev3⟩ : ∃ v : Int, v = (xs (i + 3).toNat).toInt := ⟨_, rfl⟩
  rw [← ev3] at hq3a hq3b ⊢
  refine h_callV (As := [.int (hpI v1), .int (hpI v2), .int (hpI v3)]) (rest := []) C Z yyX8_chance wd_1131 (tgX8_chance l D cy s.heap.size _ v1 ⟨by omega, by omega⟩ v2 ⟨by omega, by omega⟩ v3 ⟨by omega, by omega⟩ hI) kd_0 rfl rfl ⟨rfl, rfl, Nat.le_of_ble_eq_true rfl, Nat.le_of_ble_eq_true rfl⟩ ⟨Nat.le_of_ble_eq_true rfl, Nat.le_of_ble_eq_true rfl⟩ (Nat.le_of_ble_eq_true rfl) dL_1853 (fun r4 τ4 hp4 => ?_)
  obtain ⟨⟨x4, rfl, ⟨hx4a, hx4b⟩⟩, hI4, hG4⟩ := hp4
  show hpV _ _ _ _ _ _ _ _ _ _ _ _ _ _ _ _ _ _ _ _ _ (_ :: _)
  refine h_pop2 C rfl dL_1856 ?_
  refine h_aload_n C dL_1857 1 rfl rfl ?_
  refine h_aload_n C dL_1858 3 rfl rfl ?_
  refine h_iload_n C dL_1859 0 rfl rfl ?_
  refine h_iconst C dL_1860 ?_
  refine h_iadd C dL_1861 rfl ?_
  refine h_sldL C hX hbl (i + 1).toNat (Int.toNat_of_nonneg (by omega)) (by omega) (by omega) dL_1862 ?_
  have hq5 := hpR_of (xs (i + 1).toNat)
  obtain ⟨hq5a, hq5b⟩ := hq5
  obtain ⟨v5, ev5⟩ : ∃ v : Int, v = (xs (i + 1).toNat).toInt := ⟨_, rfl⟩
  rw [← ev5] at hq5a hq5b ⊢
  have ez5 : v1 = v5 := ev1.trans ev5.symm
  subst ez5
  refine h_aload_n C dL_1863 3 rfl rfl ?_
  refine h_iload_n C dL_1864 0 rfl rfl ?_
  refine h_iconst C dL_1865 ?_
  refine h_iadd C dL_1866 rfl ?_
  refine h_sldL C hX hbl (i + 2).toNat (Int.toNat_of_nonneg (by omega)) (by omega) (by omega) dL_1867 ?_
  have hq6 := hpR_of (xs (i + 2).toNat)
  obtain ⟨hq6a, hq6b⟩ := hq6
  obtain ⟨v6, ev6⟩ : ∃ v : Int, v = (xs (i + 2).toNat).toInt := ⟨_, rfl⟩
  rw [← ev6] at hq6a hq6b ⊢
  have ez6 : v2 = v6 := ev2.trans ev6.symm
  subst ez6
  refine h_aload_n C dL_1868 3 rfl rfl ?_
  refine h_iload_n C dL_1869 0 rfl rfl ?_
  refine h_iconst C dL_1870 ?_
  refine h_iadd C dL_1871 rfl ?_
  refine h_sldL C hX hbl (i + 3).toNat (Int.toNat_of_nonneg (by omega)) (by omega) (by omega) dL_1872 ?_
  have hq7 := hpR_of (xs (i + 3).toNat)
  obtain ⟨hq7a, hq7b⟩ := hq7
  obtain ⟨v7, ev7⟩ : ∃ v : Int, v = (xs (i + 3).toNat).toInt := ⟨_, rfl⟩
  rw [← ev7] at hq7a hq7b ⊢
  have ez7 : v3 = v7 := ev3.trans ev7.symm
  subst ez7
  refine h_callV (As := [.int (hpI v1), .int (hpI v2), .int (hpI v3)]) (rest := []) C Z yyX9_chance wd_1941 (tgX9_chance l D cy s.heap.size _ v1 ⟨by omega, by omega⟩ v2 ⟨by omega, by omega⟩ v3 ⟨by omega, by omega⟩ hI4) kd_195 rfl rfl ⟨rfl, rfl, Nat.le_of_ble_eq_true rfl, Nat.le_of_ble_eq_true rfl⟩ ⟨Nat.le_of_ble_eq_true rfl, Nat.le_of_ble_eq_true rfl⟩ (Nat.le_of_ble_eq_true rfl) dL_1873 (fun r8 τ8 hp8 => ?_)
  obtain ⟨⟨x8, rfl, ⟨hx8a, hx8b⟩⟩, hI8, hG8⟩ := hp8
  show hpV _ _ _ _ _ _ _ _ _ _ _ _ _ _ _ _ _ _ _ _ _ (_ :: _)
  refine h_pop2 C rfl dL_1876 ?_
  refine h_goto (tgt := 2352) C dL_1877 (by decide) ?_
  exact K τ8 hI8 (hR.fr (fun j i h => (hG8 j i (by omega)).trans (hG4 j i (by omega))))
set_option maxHeartbeats 4000000 in
set_option maxRecDepth 20000 in
theorem law_58 {p : Program} {e : Env} {s : State} {m : MethodId} {below : List Frame} {meth : Method} {c : Code} (l : Launch) {b L : Nat} {xs : Nat → Int32} {D : va_G} {cy : Nat → ClassId} (C : hpC p s m #[.ref b] c code 4 RL D cy) (Z : hpStr s.heap.size cy s s.heap) (hr : meth.sig.returnType = ret) (hk : meth.locks = false) (hX : va_X b L xs s s.heap) (hbl : b < s.heap.size) (hL : L ≤ 3072) (σ : hpMem) (hI : hpInv σ) (hR : hpR72 σ) (i : Int) (hi0 : 0 ≤ i) (hi : i + 6 ≤ (L : Int)) (K : ∀ τ : hpMem, hpInv τ → hpR72 τ → hpV p l e room_1 s m #[.ref b] below meth c 217 24316 4 D cy s.heap.size s.heap (lw_Z below #[Value.ref b] s) τ 2352 [(3, .int (hpI i)), (2, .ref (s.heap.size + 195)), (1, .ref (s.heap.size + 0)), (0, .ref b)] []) : hpV p l e room_1 s m #[.ref b] below meth c 217 24316 4 D cy s.heap.size s.heap (lw_Z below #[Value.ref b] s) σ 1880 [(3, .int (hpI i)), (2, .ref (s.heap.size + 195)), (1, .ref (s.heap.size + 0)), (0, .ref b)] [] := by
  refine h_aload_n C dL_1880 2 rfl rfl ?_
  refine h_aload_n C dL_1881 3 rfl rfl ?_
  refine h_iload_n C dL_1882 0 rfl rfl ?_
  refine h_iconst C dL_1883 ?_
  refine h_iadd C dL_1884 rfl ?_
  refine h_sldL C hX hbl (i + 1).toNat (Int.toNat_of_nonneg (by omega)) (by omega) (by omega) dL_1885 ?_
  have hq1 := hpR_of (xs (i + 1).toNat)
  obtain ⟨hq1a, hq1b⟩ := hq1
  obtain ⟨v1, ev1⟩ : ∃ v : Int, v = (xs (i + 1).toNat).toInt := ⟨_, rfl⟩
  rw [← ev1] at hq1a hq1b ⊢
  refine h_aload_n C dL_1886 3 rfl rfl ?_
  refine h_iload_n C dL_1887 0 rfl rfl ?_
  refine h_iconst C dL_1888 ?_
  refine h_iadd C dL_1889 rfl ?_
  refine h_sldL C hX hbl (i + 2).toNat (Int.toNat_of_nonneg (by omega)) (by omega) (by omega) dL_1890 ?_
  have hq2 := hpR_of (xs (i + 2).toNat)
  obtain ⟨hq2a, hq2b⟩ := hq2
  obtain ⟨v2, ev2⟩ : ∃ v : Int, v = (xs (i + 2).toNat).toInt := ⟨_, rfl⟩
  rw [← ev2] at hq2a hq2b ⊢
  refine h_callV (As := [.int (hpI v1), .int (hpI v2)]) (rest := []) C Z yyX8_mean wd_1162 (tgX8_mean l D cy s.heap.size _ v1 ⟨by omega, by omega⟩ v2 ⟨by omega, by omega⟩ hI) kd_0 rfl rfl ⟨rfl, rfl, Nat.le_of_ble_eq_true rfl, Nat.le_of_ble_eq_true rfl⟩ ⟨Nat.le_of_ble_eq_true rfl, Nat.le_of_ble_eq_true rfl⟩ (Nat.le_of_ble_eq_true rfl) dL_1891 (fun r3 τ3 hp3 => ?_)
  obtain ⟨⟨x3, rfl, ⟨hx3a, hx3b⟩⟩, hI3, hG3⟩ := hp3
  show hpV _ _ _ _ _ _ _ _ _ _ _ _ _ _ _ _ _ _ _ _ _ (_ :: _)
  refine h_pop2 C rfl dL_1894 ?_
  refine h_aload_n C dL_1895 1 rfl rfl ?_
  refine h_aload_n C dL_1896 3 rfl rfl ?_
  refine h_iload_n C dL_1897 0 rfl rfl ?_
  refine h_iconst C dL_1898 ?_
  refine h_iadd C dL_1899 rfl ?_
  refine h_sldL C hX hbl (i + 1).toNat (Int.toNat_of_nonneg (by omega)) (by omega) (by omega) dL_1900 ?_
  have hq4 := hpR_of (xs (i + 1).toNat)
  obtain ⟨hq4a, hq4b⟩ := hq4
  obtain ⟨v4, ev4⟩ : ∃ v : Int, v = (xs (i + 1).toNat).toInt := ⟨_, rfl⟩
  rw [← ev4] at hq4a hq4b ⊢
  have ez4 : v1 = v4 := ev1.trans ev4.symm
  subst ez4
  refine h_aload_n C dL_1901 3 rfl rfl ?_
  refine h_iload_n C dL_1902 0 rfl rfl ?_
  refine h_iconst C dL_1903 ?_
  refine h_iadd C dL_1904 rfl ?_
  refine h_sldL C hX hbl (i + 2).toNat (Int.toNat_of_nonneg (by omega)) (by omega) (by omega) dL_1905 ?_
  have hq5 := hpR_of (xs (i + 2).toNat)
  obtain ⟨hq5a, hq5b⟩ := hq5
  obtain ⟨v5, ev5⟩ : ∃ v : Int, v = (xs (i + 2).toNat).toInt := ⟨_, rfl⟩
  rw [← ev5] at hq5a hq5b ⊢
  have ez5 : v2 = v5 := ev2.trans ev5.symm
  subst ez5
  refine h_callV (As := [.int (hpI v1), .int (hpI v2)]) (rest := []) C Z yyX9_mean wd_1954 (tgX9_mean l D cy s.heap.size _ v1 ⟨by omega, by omega⟩ v2 ⟨by omega, by omega⟩ hI3) kd_195 rfl rfl ⟨rfl, rfl, Nat.le_of_ble_eq_true rfl, Nat.le_of_ble_eq_true rfl⟩ ⟨Nat.le_of_ble_eq_true rfl, Nat.le_of_ble_eq_true rfl⟩ (Nat.le_of_ble_eq_true rfl) dL_1906 (fun r6 τ6 hp6 => ?_)
  obtain ⟨⟨x6, rfl, ⟨hx6a, hx6b⟩⟩, hI6, hG6⟩ := hp6
  show hpV _ _ _ _ _ _ _ _ _ _ _ _ _ _ _ _ _ _ _ _ _ (_ :: _)
  refine h_pop2 C rfl dL_1909 ?_
  refine h_goto (tgt := 2352) C dL_1910 (by decide) ?_
  exact K τ6 hI6 (hR.fr (fun j i h => (hG6 j i (by omega)).trans (hG3 j i (by omega))))
set_option maxHeartbeats 4000000 in
set_option maxRecDepth 20000 in
theorem law_59 {p : Program} {e : Env} {s : State} {m : MethodId} {below : List Frame} {meth : Method} {c : Code} (l : Launch) {b L : Nat} {xs : Nat → Int32} {D : va_G} {cy : Nat → ClassId} (C : hpC p s m #[.ref b] c code 4 RL D cy) (Z : hpStr s.heap.size cy s s.heap) (hr : meth.sig.returnType = ret) (hk : meth.locks = false) (hX : va_X b L xs s s.heap) (hbl : b < s.heap.size) (hL : L ≤ 3072) (σ : hpMem) (hI : hpInv σ) (hR : hpR72 σ) (i : Int) (hi0 : 0 ≤ i) (hi : i + 6 ≤ (L : Int)) (K : ∀ τ : hpMem, hpInv τ → hpR72 τ → hpV p l e room_1 s m #[.ref b] below meth c 217 24316 4 D cy s.heap.size s.heap (lw_Z below #[Value.ref b] s) τ 2352 [(3, .int (hpI i)), (2, .ref (s.heap.size + 195)), (1, .ref (s.heap.size + 0)), (0, .ref b)] []) : hpV p l e room_1 s m #[.ref b] below meth c 217 24316 4 D cy s.heap.size s.heap (lw_Z below #[Value.ref b] s) σ 1913 [(3, .int (hpI i)), (2, .ref (s.heap.size + 195)), (1, .ref (s.heap.size + 0)), (0, .ref b)] [] := by
  refine h_aload_n C dL_1913 2 rfl rfl ?_
  refine h_aload_n C dL_1914 3 rfl rfl ?_
  refine h_iload_n C dL_1915 0 rfl rfl ?_
  refine h_iconst C dL_1916 ?_
  refine h_iadd C dL_1917 rfl ?_
  refine h_sldL C hX hbl (i + 1).toNat (Int.toNat_of_nonneg (by omega)) (by omega) (by omega) dL_1918 ?_
  have hq1 := hpR_of (xs (i + 1).toNat)
  obtain ⟨hq1a, hq1b⟩ := hq1
  obtain ⟨v1, ev1⟩ : ∃ v : Int, v = (xs (i + 1).toNat).toInt := ⟨_, rfl⟩
  rw [← ev1] at hq1a hq1b ⊢
  refine h_aload_n C dL_1919 3 rfl rfl ?_
  refine h_iload_n C dL_1920 0 rfl rfl ?_
  refine h_iconst C dL_1921 ?_
  refine h_iadd C dL_1922 rfl ?_
  refine h_sldL C hX hbl (i + 2).toNat (Int.toNat_of_nonneg (by omega)) (by omega) (by omega) dL_1923 ?_
  have hq2 := hpR_of (xs (i + 2).toNat)
  obtain ⟨hq2a, hq2b⟩ := hq2
  obtain ⟨v2, ev2⟩ : ∃ v : Int, v = (xs (i + 2).toNat).toInt := ⟨_, rfl⟩
  rw [← ev2] at hq2a hq2b ⊢
  refine h_callV (As := [.int (hpI v1), .int (hpI v2)]) (rest := []) C Z yyX8_brings wd_1166 (tgX8_brings l D cy s.heap.size _ v1 ⟨by omega, by omega⟩ v2 ⟨by omega, by omega⟩ hI) kd_0 rfl rfl ⟨rfl, rfl, Nat.le_of_ble_eq_true rfl, Nat.le_of_ble_eq_true rfl⟩ ⟨Nat.le_of_ble_eq_true rfl, Nat.le_of_ble_eq_true rfl⟩ (Nat.le_of_ble_eq_true rfl) dL_1924 (fun r3 τ3 hp3 => ?_)
  obtain ⟨⟨x3, rfl, ⟨hx3a, hx3b⟩⟩, hI3, hG3⟩ := hp3
  show hpV _ _ _ _ _ _ _ _ _ _ _ _ _ _ _ _ _ _ _ _ _ (_ :: _)
  refine h_pop C rfl dL_1927 ?_
  refine h_aload_n C dL_1928 1 rfl rfl ?_
  refine h_aload_n C dL_1929 3 rfl rfl ?_
  refine h_iload_n C dL_1930 0 rfl rfl ?_
  refine h_iconst C dL_1931 ?_
  refine h_iadd C dL_1932 rfl ?_
  refine h_sldL C hX hbl (i + 1).toNat (Int.toNat_of_nonneg (by omega)) (by omega) (by omega) dL_1933 ?_
  have hq4 := hpR_of (xs (i + 1).toNat)
  obtain ⟨hq4a, hq4b⟩ := hq4
  obtain ⟨v4, ev4⟩ : ∃ v : Int, v = (xs (i + 1).toNat).toInt := ⟨_, rfl⟩
  rw [← ev4] at hq4a hq4b ⊢
  have ez4 : v1 = v4 := ev1.trans ev4.symm
  subst ez4
  refine h_aload_n C dL_1934 3 rfl rfl ?_
  refine h_iload_n C dL_1935 0 rfl rfl ?_
  refine h_iconst C dL_1936 ?_
  refine h_iadd C dL_1937 rfl ?_
  refine h_sldL C hX hbl (i + 2).toNat (Int.toNat_of_nonneg (by omega)) (by omega) (by omega) dL_1938 ?_
  have hq5 := hpR_of (xs (i + 2).toNat)
  obtain ⟨hq5a, hq5b⟩ := hq5
  obtain ⟨v5, ev5⟩ : ∃ v : Int, v = (xs (i + 2).toNat).toInt := ⟨_, rfl⟩
  rw [← ev5] at hq5a hq5b ⊢
  have ez5 : v2 = v5 := ev2.trans ev5.symm
  subst ez5
  refine h_callV (As := [.int (hpI v1), .int (hpI v2)]) (rest := []) C Z yyX9_brings wd_1958 (tgX9_brings l D cy s.heap.size _ v1 ⟨by omega, by omega⟩ v2 ⟨by omega, by omega⟩ hI3) kd_195 rfl rfl ⟨rfl, rfl, Nat.le_of_ble_eq_true rfl, Nat.le_of_ble_eq_true rfl⟩ ⟨Nat.le_of_ble_eq_true rfl, Nat.le_of_ble_eq_true rfl⟩ (Nat.le_of_ble_eq_true rfl) dL_1939 (fun r6 τ6 hp6 => ?_)
  obtain ⟨⟨x6, rfl, ⟨hx6a, hx6b⟩⟩, hI6, hG6⟩ := hp6
  show hpV _ _ _ _ _ _ _ _ _ _ _ _ _ _ _ _ _ _ _ _ _ (_ :: _)
  refine h_pop C rfl dL_1942 ?_
  refine h_goto (tgt := 2352) C dL_1943 (by decide) ?_
  exact K τ6 hI6 (hR.fr (fun j i h => (hG6 j i (by omega)).trans (hG3 j i (by omega))))
set_option maxHeartbeats 4000000 in
set_option maxRecDepth 20000 in
theorem law_60 {p : Program} {e : Env} {s : State} {m : MethodId} {below : List Frame} {meth : Method} {c : Code} (l : Launch) {b L : Nat} {xs : Nat → Int32} {D : va_G} {cy : Nat → ClassId} (C : hpC p s m #[.ref b] c code 4 RL D cy) (Z : hpStr s.heap.size cy s s.heap) (hr : meth.sig.returnType = ret) (hk : meth.locks = false) (hX : va_X b L xs s s.heap) (hbl : b < s.heap.size) (hL : L ≤ 3072) (σ : hpMem) (hI : hpInv σ) (hR : hpR72 σ) (i : Int) (hi0 : 0 ≤ i) (hi : i + 6 ≤ (L : Int)) (K : ∀ τ : hpMem, hpInv τ → hpR72 τ → hpV p l e room_1 s m #[.ref b] below meth c 217 24316 4 D cy s.heap.size s.heap (lw_Z below #[Value.ref b] s) τ 2352 [(3, .int (hpI i)), (2, .ref (s.heap.size + 195)), (1, .ref (s.heap.size + 0)), (0, .ref b)] []) : hpV p l e room_1 s m #[.ref b] below meth c 217 24316 4 D cy s.heap.size s.heap (lw_Z below #[Value.ref b] s) σ 1946 [(3, .int (hpI i)), (2, .ref (s.heap.size + 195)), (1, .ref (s.heap.size + 0)), (0, .ref b)] [] := by
  refine h_aload_n C dL_1946 2 rfl rfl ?_
  refine h_aload_n C dL_1947 3 rfl rfl ?_
  refine h_iload_n C dL_1948 0 rfl rfl ?_
  refine h_iconst C dL_1949 ?_
  refine h_iadd C dL_1950 rfl ?_
  refine h_sldL C hX hbl (i + 1).toNat (Int.toNat_of_nonneg (by omega)) (by omega) (by omega) dL_1951 ?_
  have hq1 := hpR_of (xs (i + 1).toNat)
  obtain ⟨hq1a, hq1b⟩ := hq1
  obtain ⟨v1, ev1⟩ : ∃ v : Int, v = (xs (i + 1).toNat).toInt := ⟨_, rfl⟩
  rw [← ev1] at hq1a hq1b ⊢
  refine h_callV (As := [.int (hpI v1)]) (rest := []) C Z yyX8_away wd_1174 (tgX8_away l D cy s.heap.size _ v1 ⟨by omega, by omega⟩ hI) kd_0 rfl rfl ⟨rfl, rfl, Nat.le_of_ble_eq_true rfl, Nat.le_of_ble_eq_true rfl⟩ ⟨Nat.le_of_ble_eq_true rfl, Nat.le_of_ble_eq_true rfl⟩ (Nat.le_of_ble_eq_true rfl) dL_1952 (fun r2 τ2 hp2 => ?_)
  obtain ⟨⟨x2, rfl, ⟨hx2a, hx2b⟩⟩, hI2, hG2⟩ := hp2
  show hpV _ _ _ _ _ _ _ _ _ _ _ _ _ _ _ _ _ _ _ _ _ (_ :: _)
  refine h_pop C rfl dL_1955 ?_
  refine h_aload_n C dL_1956 1 rfl rfl ?_
  refine h_aload_n C dL_1957 3 rfl rfl ?_
  refine h_iload_n C dL_1958 0 rfl rfl ?_
  refine h_iconst C dL_1959 ?_
  refine h_iadd C dL_1960 rfl ?_
  refine h_sldL C hX hbl (i + 1).toNat (Int.toNat_of_nonneg (by omega)) (by omega) (by omega) dL_1961 ?_
  have hq3 := hpR_of (xs (i + 1).toNat)
  obtain ⟨hq3a, hq3b⟩ := hq3
  obtain ⟨v3, ev3⟩ : ∃ v : Int, v = (xs (i + 1).toNat).toInt := ⟨_, rfl⟩
  rw [← ev3] at hq3a hq3b ⊢
  have ez3 : v1 = v3 := ev1.trans ev3.symm
  subst ez3
  refine h_callV (As := [.int (hpI v1)]) (rest := []) C Z yyX9_away wd_1967 (tgX9_away l D cy s.heap.size _ v1 ⟨by omega, by omega⟩ hI2) kd_195 rfl rfl ⟨rfl, rfl, Nat.le_of_ble_eq_true rfl, Nat.le_of_ble_eq_true rfl⟩ ⟨Nat.le_of_ble_eq_true rfl, Nat.le_of_ble_eq_true rfl⟩ (Nat.le_of_ble_eq_true rfl) dL_1962 (fun r4 τ4 hp4 => ?_)
  obtain ⟨⟨x4, rfl, ⟨hx4a, hx4b⟩⟩, hI4, hG4⟩ := hp4
  show hpV _ _ _ _ _ _ _ _ _ _ _ _ _ _ _ _ _ _ _ _ _ (_ :: _)
  refine h_pop C rfl dL_1965 ?_
  refine h_goto (tgt := 2352) C dL_1966 (by decide) ?_
  exact K τ4 hI4 (hR.fr (fun j i h => (hG4 j i (by omega)).trans (hG2 j i (by omega))))
set_option maxHeartbeats 4000000 in
set_option maxRecDepth 20000 in
theorem law_61 {p : Program} {e : Env} {s : State} {m : MethodId} {below : List Frame} {meth : Method} {c : Code} (l : Launch) {b L : Nat} {xs : Nat → Int32} {D : va_G} {cy : Nat → ClassId} (C : hpC p s m #[.ref b] c code 4 RL D cy) (Z : hpStr s.heap.size cy s s.heap) (hr : meth.sig.returnType = ret) (hk : meth.locks = false) (hX : va_X b L xs s s.heap) (hbl : b < s.heap.size) (hL : L ≤ 3072) (σ : hpMem) (hI : hpInv σ) (hR : hpR72 σ) (i : Int) (hi0 : 0 ≤ i) (hi : i + 6 ≤ (L : Int)) (K : ∀ τ : hpMem, hpInv τ → hpR72 τ → hpV p l e room_1 s m #[.ref b] below meth c 217 24316 4 D cy s.heap.size s.heap (lw_Z below #[Value.ref b] s) τ 2352 [(3, .int (hpI i)), (2, .ref (s.heap.size + 195)), (1, .ref (s.heap.size + 0)), (0, .ref b)] []) : hpV p l e room_1 s m #[.ref b] below meth c 217 24316 4 D cy s.heap.size s.heap (lw_Z below #[Value.ref b] s) σ 1969 [(3, .int (hpI i)), (2, .ref (s.heap.size + 195)), (1, .ref (s.heap.size + 0)), (0, .ref b)] [] := by
  refine h_aload_n C dL_1969 2 rfl rfl ?_
  refine h_callV (As := []) (rest := []) C Z yyX8_undo wd_1178 (tgX8_undo l D cy s.heap.size _ hI) kd_0 rfl rfl ⟨rfl, rfl, Nat.le_of_ble_eq_true rfl, Nat.le_of_ble_eq_true rfl⟩ ⟨Nat.le_of_ble_eq_true rfl, Nat.le_of_ble_eq_true rfl⟩ (Nat.le_of_ble_eq_true rfl) dL_1970 (fun r1 τ1 hp1 => ?_)
  obtain ⟨⟨x1, rfl, ⟨hx1a, hx1b⟩⟩, hI1, hG1⟩ := hp1
  show hpV _ _ _ _ _ _ _ _ _ _ _ _ _ _ _ _ _ _ _ _ _ (_ :: _)
  refine h_pop C rfl dL_1973 ?_
  refine h_aload_n C dL_1974 1 rfl rfl ?_
  refine h_callV (As := []) (rest := []) C Z yyX9_undo wd_1971 (tgX9_undo l D cy s.heap.size _ hI1) kd_195 rfl rfl ⟨rfl, rfl, Nat.le_of_ble_eq_true rfl, Nat.le_of_ble_eq_true rfl⟩ ⟨Nat.le_of_ble_eq_true rfl, Nat.le_of_ble_eq_true rfl⟩ (Nat.le_of_ble_eq_true rfl) dL_1975 (fun r2 τ2 hp2 => ?_)
  obtain ⟨⟨x2, rfl, ⟨hx2a, hx2b⟩⟩, hI2, hG2⟩ := hp2
  show hpV _ _ _ _ _ _ _ _ _ _ _ _ _ _ _ _ _ _ _ _ _ (_ :: _)
  refine h_pop C rfl dL_1978 ?_
  refine h_goto (tgt := 2352) C dL_1979 (by decide) ?_
  exact K τ2 hI2 (hR.fr (fun j i h => (hG2 j i (by omega)).trans (hG1 j i (by omega))))
set_option maxHeartbeats 4000000 in
set_option maxRecDepth 20000 in
theorem law_62 {p : Program} {e : Env} {s : State} {m : MethodId} {below : List Frame} {meth : Method} {c : Code} (l : Launch) {b L : Nat} {xs : Nat → Int32} {D : va_G} {cy : Nat → ClassId} (C : hpC p s m #[.ref b] c code 4 RL D cy) (Z : hpStr s.heap.size cy s s.heap) (hr : meth.sig.returnType = ret) (hk : meth.locks = false) (hX : va_X b L xs s s.heap) (hbl : b < s.heap.size) (hL : L ≤ 3072) (σ : hpMem) (hI : hpInv σ) (hR : hpR72 σ) (i : Int) (hi0 : 0 ≤ i) (hi : i + 6 ≤ (L : Int)) (K : ∀ τ : hpMem, hpInv τ → hpR72 τ → hpV p l e room_1 s m #[.ref b] below meth c 217 24316 4 D cy s.heap.size s.heap (lw_Z below #[Value.ref b] s) τ 2352 [(3, .int (hpI i)), (2, .ref (s.heap.size + 195)), (1, .ref (s.heap.size + 0)), (0, .ref b)] []) : hpV p l e room_1 s m #[.ref b] below meth c 217 24316 4 D cy s.heap.size s.heap (lw_Z below #[Value.ref b] s) σ 1982 [(3, .int (hpI i)), (2, .ref (s.heap.size + 195)), (1, .ref (s.heap.size + 0)), (0, .ref b)] [] := by
  refine h_aload_n C dL_1982 2 rfl rfl ?_
  refine h_callV (As := []) (rest := []) C Z yyX8_anew wd_1182 (tgX8_anew l D cy s.heap.size _ hI) kd_0 rfl rfl ⟨rfl, rfl, Nat.le_of_ble_eq_true rfl, Nat.le_of_ble_eq_true rfl⟩ ⟨Nat.le_of_ble_eq_true rfl, Nat.le_of_ble_eq_true rfl⟩ (Nat.le_of_ble_eq_true rfl) dL_1983 (fun r1 τ1 hp1 => ?_)
  obtain ⟨⟨x1, rfl, ⟨hx1a, hx1b⟩⟩, hI1, hG1⟩ := hp1
  show hpV _ _ _ _ _ _ _ _ _ _ _ _ _ _ _ _ _ _ _ _ _ (_ :: _)
  refine h_pop C rfl dL_1986 ?_
  refine h_aload_n C dL_1987 1 rfl rfl ?_
  refine h_callV (As := []) (rest := []) C Z yyX9_anew wd_1975 (tgX9_anew l D cy s.heap.size _ hI1) kd_195 rfl rfl ⟨rfl, rfl, Nat.le_of_ble_eq_true rfl, Nat.le_of_ble_eq_true rfl⟩ ⟨Nat.le_of_ble_eq_true rfl, Nat.le_of_ble_eq_true rfl⟩ (Nat.le_of_ble_eq_true rfl) dL_1988 (fun r2 τ2 hp2 => ?_)
  obtain ⟨⟨x2, rfl, ⟨hx2a, hx2b⟩⟩, hI2, hG2⟩ := hp2
  show hpV _ _ _ _ _ _ _ _ _ _ _ _ _ _ _ _ _ _ _ _ _ (_ :: _)
  refine h_pop C rfl dL_1991 ?_
  refine h_goto (tgt := 2352) C dL_1992 (by decide) ?_
  exact K τ2 hI2 (hR.fr (fun j i h => (hG2 j i (by omega)).trans (hG1 j i (by omega))))
set_option maxHeartbeats 4000000 in
set_option maxRecDepth 20000 in
theorem law_63 {p : Program} {e : Env} {s : State} {m : MethodId} {below : List Frame} {meth : Method} {c : Code} (l : Launch) {b L : Nat} {xs : Nat → Int32} {D : va_G} {cy : Nat → ClassId} (C : hpC p s m #[.ref b] c code 4 RL D cy) (Z : hpStr s.heap.size cy s s.heap) (hr : meth.sig.returnType = ret) (hk : meth.locks = false) (hX : va_X b L xs s s.heap) (hbl : b < s.heap.size) (hL : L ≤ 3072) (σ : hpMem) (hI : hpInv σ) (hR : hpR72 σ) (i : Int) (hi0 : 0 ≤ i) (hi : i + 6 ≤ (L : Int)) (K : ∀ τ : hpMem, hpInv τ → hpR72 τ → hpV p l e room_1 s m #[.ref b] below meth c 217 24316 4 D cy s.heap.size s.heap (lw_Z below #[Value.ref b] s) τ 2352 [(3, .int (hpI i)), (2, .ref (s.heap.size + 195)), (1, .ref (s.heap.size + 0)), (0, .ref b)] []) : hpV p l e room_1 s m #[.ref b] below meth c 217 24316 4 D cy s.heap.size s.heap (lw_Z below #[Value.ref b] s) σ 1995 [(3, .int (hpI i)), (2, .ref (s.heap.size + 195)), (1, .ref (s.heap.size + 0)), (0, .ref b)] [] := by
  refine h_aload_n C dL_1995 2 rfl rfl ?_
  refine h_aload_n C dL_1996 3 rfl rfl ?_
  refine h_iload_n C dL_1997 0 rfl rfl ?_
  refine h_iconst C dL_1998 ?_
  refine h_iadd C dL_1999 rfl ?_
  refine h_sldL C hX hbl (i + 1).toNat (Int.toNat_of_nonneg (by omega)) (by omega) (by omega) dL_2000 ?_
  have hq1 := hpR_of (xs (i + 1).toNat)
  obtain ⟨hq1a, hq1b⟩ := hq1
  obtain ⟨v1, ev1⟩ : ∃ v : Int, v = (xs (i + 1).toNat).toInt := ⟨_, rfl⟩
  rw [← ev1] at hq1a hq1b ⊢
  refine h_aload_n C dL_2001 3 rfl rfl ?_
  refine h_iload_n C dL_2002 0 rfl rfl ?_
  refine h_iconst C dL_2003 ?_
  refine h_iadd C dL_2004 rfl ?_
  refine h_sldL C hX hbl (i + 2).toNat (Int.toNat_of_nonneg (by omega)) (by omega) (by omega) dL_2005 ?_
  have hq2 := hpR_of (xs (i + 2).toNat)
  obtain ⟨hq2a, hq2b⟩ := hq2
  obtain ⟨v2, ev2⟩ : ∃ v : Int, v = (xs (i + 2).toNat).toInt := ⟨_, rfl⟩
  rw [← ev2] at hq2a hq2b ⊢
  refine h_callV (As := [.int (hpI v1), .int (hpI v2)]) (rest := []) C Z yyX8_drawn wd_1186 (tgX8_drawn l D cy s.heap.size _ v1 ⟨by omega, by omega⟩ v2 ⟨by omega, by omega⟩ hI) kd_0 rfl rfl ⟨rfl, rfl, Nat.le_of_ble_eq_true rfl, Nat.le_of_ble_eq_true rfl⟩ ⟨Nat.le_of_ble_eq_true rfl, Nat.le_of_ble_eq_true rfl⟩ (Nat.le_of_ble_eq_true rfl) dL_2006 (fun r3 τ3 hp3 => ?_)
  obtain ⟨⟨x3, rfl, ⟨hx3a, hx3b⟩⟩, hI3, hG3⟩ := hp3
  show hpV _ _ _ _ _ _ _ _ _ _ _ _ _ _ _ _ _ _ _ _ _ (_ :: _)
  refine h_pop C rfl dL_2009 ?_
  refine h_aload_n C dL_2010 1 rfl rfl ?_
  refine h_aload_n C dL_2011 3 rfl rfl ?_
  refine h_iload_n C dL_2012 0 rfl rfl ?_
  refine h_iconst C dL_2013 ?_
  refine h_iadd C dL_2014 rfl ?_
  refine h_sldL C hX hbl (i + 1).toNat (Int.toNat_of_nonneg (by omega)) (by omega) (by omega) dL_2015 ?_
  have hq4 := hpR_of (xs (i + 1).toNat)
  obtain ⟨hq4a, hq4b⟩ := hq4
  obtain ⟨v4, ev4⟩ : ∃ v : Int, v = (xs (i + 1).toNat).toInt := ⟨_, rfl⟩
  rw [← ev4] at hq4a hq4b ⊢
  have ez4 : v1 = v4 := ev1.trans ev4.symm
  subst ez4
  refine h_aload_n C dL_2016 3 rfl rfl ?_
  refine h_iload_n C dL_2017 0 rfl rfl ?_
  refine h_iconst C dL_2018 ?_
  refine h_iadd C dL_2019 rfl ?_
  refine h_sldL C hX hbl (i + 2).toNat (Int.toNat_of_nonneg (by omega)) (by omega) (by omega) dL_2020 ?_
  have hq5 := hpR_of (xs (i + 2).toNat)
  obtain ⟨hq5a, hq5b⟩ := hq5
  obtain ⟨v5, ev5⟩ : ∃ v : Int, v = (xs (i + 2).toNat).toInt := ⟨_, rfl⟩
  rw [← ev5] at hq5a hq5b ⊢
  have ez5 : v2 = v5 := ev2.trans ev5.symm
  subst ez5
  refine h_callV (As := [.int (hpI v1), .int (hpI v2)]) (rest := []) C Z yyX9_drawn wd_1979 (tgX9_drawn l D cy s.heap.size _ v1 ⟨by omega, by omega⟩ v2 ⟨by omega, by omega⟩ hI3) kd_195 rfl rfl ⟨rfl, rfl, Nat.le_of_ble_eq_true rfl, Nat.le_of_ble_eq_true rfl⟩ ⟨Nat.le_of_ble_eq_true rfl, Nat.le_of_ble_eq_true rfl⟩ (Nat.le_of_ble_eq_true rfl) dL_2021 (fun r6 τ6 hp6 => ?_)
  obtain ⟨⟨x6, rfl, ⟨hx6a, hx6b⟩⟩, hI6, hG6⟩ := hp6
  show hpV _ _ _ _ _ _ _ _ _ _ _ _ _ _ _ _ _ _ _ _ _ (_ :: _)
  refine h_pop C rfl dL_2024 ?_
  refine h_goto (tgt := 2352) C dL_2025 (by decide) ?_
  exact K τ6 hI6 (hR.fr (fun j i h => (hG6 j i (by omega)).trans (hG3 j i (by omega))))
set_option maxHeartbeats 4000000 in
set_option maxRecDepth 20000 in
theorem law_64 {p : Program} {e : Env} {s : State} {m : MethodId} {below : List Frame} {meth : Method} {c : Code} (l : Launch) {b L : Nat} {xs : Nat → Int32} {D : va_G} {cy : Nat → ClassId} (C : hpC p s m #[.ref b] c code 4 RL D cy) (Z : hpStr s.heap.size cy s s.heap) (hr : meth.sig.returnType = ret) (hk : meth.locks = false) (hX : va_X b L xs s s.heap) (hbl : b < s.heap.size) (hL : L ≤ 3072) (σ : hpMem) (hI : hpInv σ) (hR : hpR72 σ) (i : Int) (hi0 : 0 ≤ i) (hi : i + 6 ≤ (L : Int)) (K : ∀ τ : hpMem, hpInv τ → hpR72 τ → hpV p l e room_1 s m #[.ref b] below meth c 217 24316 4 D cy s.heap.size s.heap (lw_Z below #[Value.ref b] s) τ 2352 [(3, .int (hpI i)), (2, .ref (s.heap.size + 195)), (1, .ref (s.heap.size + 0)), (0, .ref b)] []) : hpV p l e room_1 s m #[.ref b] below meth c 217 24316 4 D cy s.heap.size s.heap (lw_Z below #[Value.ref b] s) σ 2028 [(3, .int (hpI i)), (2, .ref (s.heap.size + 195)), (1, .ref (s.heap.size + 0)), (0, .ref b)] [] := by
  refine h_aload_n C dL_2028 2 rfl rfl ?_
  refine h_aload_n C dL_2029 3 rfl rfl ?_
  refine h_iload_n C dL_2030 0 rfl rfl ?_
  refine h_iconst C dL_2031 ?_
  refine h_iadd C dL_2032 rfl ?_
  refine h_sldL C hX hbl (i + 1).toNat (Int.toNat_of_nonneg (by omega)) (by omega) (by omega) dL_2033 ?_
  have hq1 := hpR_of (xs (i + 1).toNat)
  obtain ⟨hq1a, hq1b⟩ := hq1
  obtain ⟨v1, ev1⟩ : ∃ v : Int, v = (xs (i + 1).toNat).toInt := ⟨_, rfl⟩
  rw [← ev1] at hq1a hq1b ⊢
  refine h_aload_n C dL_2034 3 rfl rfl ?_
  refine h_iload_n C dL_2035 0 rfl rfl ?_
  refine h_iconst C dL_2036 ?_
  refine h_iadd C dL_2037 rfl ?_
  refine h_sldL C hX hbl (i + 2).toNat (Int.toNat_of_nonneg (by omega)) (by omega) (by omega) dL_2038 ?_
  have hq2 := hpR_of (xs (i + 2).toNat)
  obtain ⟨hq2a, hq2b⟩ := hq2
  obtain ⟨v2, ev2⟩ : ∃ v : Int, v = (xs (i + 2).toNat).toInt := ⟨_, rfl⟩
  rw [← ev2] at hq2a hq2b ⊢
  refine h_aload_n C dL_2039 3 rfl rfl ?_
  refine h_iload_n C dL_2040 0 rfl rfl ?_
  refine h_iconst C dL_2041 ?_
  refine h_iadd C dL_2042 rfl ?_
  refine h_sldL C hX hbl (i + 3).toNat (Int.toNat_of_nonneg (by omega)) (by omega) (by omega) dL_2043 ?_
  have hq3 := hpR_of (xs (i + 3).toNat)
  obtain ⟨hq3a, hq3b⟩ := hq3
  obtain ⟨v3, ev3⟩ : ∃ v : Int, v = (xs (i + 3).toNat).toInt := ⟨_, rfl⟩
  rw [← ev3] at hq3a hq3b ⊢
  refine h_callV (As := [.int (hpI v1), .int (hpI v2), .int (hpI v3)]) (rest := []) C Z yyX8_luck wd_1203 (tgX8_luck l D cy s.heap.size _ v1 ⟨by omega, by omega⟩ v2 ⟨by omega, by omega⟩ v3 ⟨by omega, by omega⟩ hI) kd_0 rfl rfl ⟨rfl, rfl, Nat.le_of_ble_eq_true rfl, Nat.le_of_ble_eq_true rfl⟩ ⟨Nat.le_of_ble_eq_true rfl, Nat.le_of_ble_eq_true rfl⟩ (Nat.le_of_ble_eq_true rfl) dL_2044 (fun r4 τ4 hp4 => ?_)
  obtain ⟨⟨x4, rfl, ⟨hx4a, hx4b⟩⟩, hI4, hG4⟩ := hp4
  show hpV _ _ _ _ _ _ _ _ _ _ _ _ _ _ _ _ _ _ _ _ _ (_ :: _)
  refine h_pop C rfl dL_2047 ?_
  refine h_aload_n C dL_2048 1 rfl rfl ?_
  refine h_aload_n C dL_2049 3 rfl rfl ?_
  refine h_iload_n C dL_2050 0 rfl rfl ?_
  refine h_iconst C dL_2051 ?_
  refine h_iadd C dL_2052 rfl ?_
  refine h_sldL C hX hbl (i + 1).toNat (Int.toNat_of_nonneg (by omega)) (by omega) (by omega) dL_2053 ?_
  have hq5 := hpR_of (xs (i + 1).toNat)
  obtain ⟨hq5a, hq5b⟩ := hq5
  obtain ⟨v5, ev5⟩ : ∃ v : Int, v = (xs (i + 1).toNat).toInt := ⟨_, rfl⟩
  rw [← ev5] at hq5a hq5b ⊢
  have ez5 : v1 = v5 := ev1.trans ev5.symm
  subst ez5
  refine h_aload_n C dL_2054 3 rfl rfl ?_
  refine h_iload_n C dL_2055 0 rfl rfl ?_
  refine h_iconst C dL_2056 ?_
  refine h_iadd C dL_2057 rfl ?_
  refine h_sldL C hX hbl (i + 2).toNat (Int.toNat_of_nonneg (by omega)) (by omega) (by omega) dL_2058 ?_
  have hq6 := hpR_of (xs (i + 2).toNat)
  obtain ⟨hq6a, hq6b⟩ := hq6
  obtain ⟨v6, ev6⟩ : ∃ v : Int, v = (xs (i + 2).toNat).toInt := ⟨_, rfl⟩
  rw [← ev6] at hq6a hq6b ⊢
  have ez6 : v2 = v6 := ev2.trans ev6.symm
  subst ez6
  refine h_aload_n C dL_2059 3 rfl rfl ?_
  refine h_iload_n C dL_2060 0 rfl rfl ?_
  refine h_iconst C dL_2061 ?_
  refine h_iadd C dL_2062 rfl ?_
  refine h_sldL C hX hbl (i + 3).toNat (Int.toNat_of_nonneg (by omega)) (by omega) (by omega) dL_2063 ?_
  have hq7 := hpR_of (xs (i + 3).toNat)
  obtain ⟨hq7a, hq7b⟩ := hq7
  obtain ⟨v7, ev7⟩ : ∃ v : Int, v = (xs (i + 3).toNat).toInt := ⟨_, rfl⟩
  rw [← ev7] at hq7a hq7b ⊢
  have ez7 : v3 = v7 := ev3.trans ev7.symm
  subst ez7
  refine h_callV (As := [.int (hpI v1), .int (hpI v2), .int (hpI v3)]) (rest := []) C Z yyX9_luck wd_1996 (tgX9_luck l D cy s.heap.size _ v1 ⟨by omega, by omega⟩ v2 ⟨by omega, by omega⟩ v3 ⟨by omega, by omega⟩ hI4) kd_195 rfl rfl ⟨rfl, rfl, Nat.le_of_ble_eq_true rfl, Nat.le_of_ble_eq_true rfl⟩ ⟨Nat.le_of_ble_eq_true rfl, Nat.le_of_ble_eq_true rfl⟩ (Nat.le_of_ble_eq_true rfl) dL_2064 (fun r8 τ8 hp8 => ?_)
  obtain ⟨⟨x8, rfl, ⟨hx8a, hx8b⟩⟩, hI8, hG8⟩ := hp8
  show hpV _ _ _ _ _ _ _ _ _ _ _ _ _ _ _ _ _ _ _ _ _ (_ :: _)
  refine h_pop C rfl dL_2067 ?_
  refine h_goto (tgt := 2352) C dL_2068 (by decide) ?_
  exact K τ8 hI8 (hR.fr (fun j i h => (hG8 j i (by omega)).trans (hG4 j i (by omega))))
set_option maxHeartbeats 4000000 in
set_option maxRecDepth 20000 in
theorem law_65 {p : Program} {e : Env} {s : State} {m : MethodId} {below : List Frame} {meth : Method} {c : Code} (l : Launch) {b L : Nat} {xs : Nat → Int32} {D : va_G} {cy : Nat → ClassId} (C : hpC p s m #[.ref b] c code 4 RL D cy) (Z : hpStr s.heap.size cy s s.heap) (hr : meth.sig.returnType = ret) (hk : meth.locks = false) (hX : va_X b L xs s s.heap) (hbl : b < s.heap.size) (hL : L ≤ 3072) (σ : hpMem) (hI : hpInv σ) (hR : hpR72 σ) (i : Int) (hi0 : 0 ≤ i) (hi : i + 6 ≤ (L : Int)) (K : ∀ τ : hpMem, hpInv τ → hpR72 τ → hpV p l e room_1 s m #[.ref b] below meth c 217 24316 4 D cy s.heap.size s.heap (lw_Z below #[Value.ref b] s) τ 2352 [(3, .int (hpI i)), (2, .ref (s.heap.size + 195)), (1, .ref (s.heap.size + 0)), (0, .ref b)] []) : hpV p l e room_1 s m #[.ref b] below meth c 217 24316 4 D cy s.heap.size s.heap (lw_Z below #[Value.ref b] s) σ 2071 [(3, .int (hpI i)), (2, .ref (s.heap.size + 195)), (1, .ref (s.heap.size + 0)), (0, .ref b)] [] := by
  refine h_aload_n C dL_2071 2 rfl rfl ?_
  refine h_aload_n C dL_2072 3 rfl rfl ?_
  refine h_iload_n C dL_2073 0 rfl rfl ?_
  refine h_iconst C dL_2074 ?_
  refine h_iadd C dL_2075 rfl ?_
  refine h_sldL C hX hbl (i + 1).toNat (Int.toNat_of_nonneg (by omega)) (by omega) (by omega) dL_2076 ?_
  have hq1 := hpR_of (xs (i + 1).toNat)
  obtain ⟨hq1a, hq1b⟩ := hq1
  obtain ⟨v1, ev1⟩ : ∃ v : Int, v = (xs (i + 1).toNat).toInt := ⟨_, rfl⟩
  rw [← ev1] at hq1a hq1b ⊢
  refine h_aload_n C dL_2077 3 rfl rfl ?_
  refine h_iload_n C dL_2078 0 rfl rfl ?_
  refine h_iconst C dL_2079 ?_
  refine h_iadd C dL_2080 rfl ?_
  refine h_sldL C hX hbl (i + 2).toNat (Int.toNat_of_nonneg (by omega)) (by omega) (by omega) dL_2081 ?_
  have hq2 := hpR_of (xs (i + 2).toNat)
  obtain ⟨hq2a, hq2b⟩ := hq2
  obtain ⟨v2, ev2⟩ : ∃ v : Int, v = (xs (i + 2).toNat).toInt := ⟨_, rfl⟩
  rw [← ev2] at hq2a hq2b ⊢
  refine h_callV (As := [.int (hpI v1), .int (hpI v2)]) (rest := []) C Z yyX8_rate wd_1207 (tgX8_rate l D cy s.heap.size _ v1 ⟨by omega, by omega⟩ v2 ⟨by omega, by omega⟩ hI) kd_0 rfl rfl ⟨rfl, rfl, Nat.le_of_ble_eq_true rfl, Nat.le_of_ble_eq_true rfl⟩ ⟨Nat.le_of_ble_eq_true rfl, Nat.le_of_ble_eq_true rfl⟩ (Nat.le_of_ble_eq_true rfl) dL_2082 (fun r3 τ3 hp3 => ?_)
  obtain ⟨⟨x3, rfl, ⟨hx3a, hx3b⟩⟩, hI3, hG3⟩ := hp3
  show hpV _ _ _ _ _ _ _ _ _ _ _ _ _ _ _ _ _ _ _ _ _ (_ :: _)
  refine h_pop C rfl dL_2085 ?_
  refine h_aload_n C dL_2086 1 rfl rfl ?_
  refine h_aload_n C dL_2087 3 rfl rfl ?_
  refine h_iload_n C dL_2088 0 rfl rfl ?_
  refine h_iconst C dL_2089 ?_
  refine h_iadd C dL_2090 rfl ?_
  refine h_sldL C hX hbl (i + 1).toNat (Int.toNat_of_nonneg (by omega)) (by omega) (by omega) dL_2091 ?_
  have hq4 := hpR_of (xs (i + 1).toNat)
  obtain ⟨hq4a, hq4b⟩ := hq4
  obtain ⟨v4, ev4⟩ : ∃ v : Int, v = (xs (i + 1).toNat).toInt := ⟨_, rfl⟩
  rw [← ev4] at hq4a hq4b ⊢
  have ez4 : v1 = v4 := ev1.trans ev4.symm
  subst ez4
  refine h_aload_n C dL_2092 3 rfl rfl ?_
  refine h_iload_n C dL_2093 0 rfl rfl ?_
  refine h_iconst C dL_2094 ?_
  refine h_iadd C dL_2095 rfl ?_
  refine h_sldL C hX hbl (i + 2).toNat (Int.toNat_of_nonneg (by omega)) (by omega) (by omega) dL_2096 ?_
  have hq5 := hpR_of (xs (i + 2).toNat)
  obtain ⟨hq5a, hq5b⟩ := hq5
  obtain ⟨v5, ev5⟩ : ∃ v : Int, v = (xs (i + 2).toNat).toInt := ⟨_, rfl⟩
  rw [← ev5] at hq5a hq5b ⊢
  have ez5 : v2 = v5 := ev2.trans ev5.symm
  subst ez5
  refine h_callV (As := [.int (hpI v1), .int (hpI v2)]) (rest := []) C Z yyX9_rate wd_2000 (tgX9_rate l D cy s.heap.size _ v1 ⟨by omega, by omega⟩ v2 ⟨by omega, by omega⟩ hI3) kd_195 rfl rfl ⟨rfl, rfl, Nat.le_of_ble_eq_true rfl, Nat.le_of_ble_eq_true rfl⟩ ⟨Nat.le_of_ble_eq_true rfl, Nat.le_of_ble_eq_true rfl⟩ (Nat.le_of_ble_eq_true rfl) dL_2097 (fun r6 τ6 hp6 => ?_)
  obtain ⟨⟨x6, rfl, ⟨hx6a, hx6b⟩⟩, hI6, hG6⟩ := hp6
  show hpV _ _ _ _ _ _ _ _ _ _ _ _ _ _ _ _ _ _ _ _ _ (_ :: _)
  refine h_pop C rfl dL_2100 ?_
  refine h_goto (tgt := 2352) C dL_2101 (by decide) ?_
  exact K τ6 hI6 (hR.fr (fun j i h => (hG6 j i (by omega)).trans (hG3 j i (by omega))))
set_option maxHeartbeats 4000000 in
set_option maxRecDepth 20000 in
theorem law_66 {p : Program} {e : Env} {s : State} {m : MethodId} {below : List Frame} {meth : Method} {c : Code} (l : Launch) {b L : Nat} {xs : Nat → Int32} {D : va_G} {cy : Nat → ClassId} (C : hpC p s m #[.ref b] c code 4 RL D cy) (Z : hpStr s.heap.size cy s s.heap) (hr : meth.sig.returnType = ret) (hk : meth.locks = false) (hX : va_X b L xs s s.heap) (hbl : b < s.heap.size) (hL : L ≤ 3072) (σ : hpMem) (hI : hpInv σ) (hR : hpR72 σ) (i : Int) (hi0 : 0 ≤ i) (hi : i + 6 ≤ (L : Int)) (K : ∀ τ : hpMem, hpInv τ → hpR72 τ → hpV p l e room_1 s m #[.ref b] below meth c 217 24316 4 D cy s.heap.size s.heap (lw_Z below #[Value.ref b] s) τ 2352 [(3, .int (hpI i)), (2, .ref (s.heap.size + 195)), (1, .ref (s.heap.size + 0)), (0, .ref b)] []) : hpV p l e room_1 s m #[.ref b] below meth c 217 24316 4 D cy s.heap.size s.heap (lw_Z below #[Value.ref b] s) σ 2104 [(3, .int (hpI i)), (2, .ref (s.heap.size + 195)), (1, .ref (s.heap.size + 0)), (0, .ref b)] [] := by
  refine h_aload_n C dL_2104 2 rfl rfl ?_
  refine h_aload_n C dL_2105 3 rfl rfl ?_
  refine h_iload_n C dL_2106 0 rfl rfl ?_
  refine h_iconst C dL_2107 ?_
  refine h_iadd C dL_2108 rfl ?_
  refine h_sldL C hX hbl (i + 1).toNat (Int.toNat_of_nonneg (by omega)) (by omega) (by omega) dL_2109 ?_
  have hq1 := hpR_of (xs (i + 1).toNat)
  obtain ⟨hq1a, hq1b⟩ := hq1
  obtain ⟨v1, ev1⟩ : ∃ v : Int, v = (xs (i + 1).toNat).toInt := ⟨_, rfl⟩
  rw [← ev1] at hq1a hq1b ⊢
  refine h_callV (As := [.int (hpI v1)]) (rest := []) C Z yyX8_count wd_1211 (tgX8_count l D cy s.heap.size _ v1 ⟨by omega, by omega⟩ hI) kd_0 rfl rfl ⟨rfl, rfl, Nat.le_of_ble_eq_true rfl, Nat.le_of_ble_eq_true rfl⟩ ⟨Nat.le_of_ble_eq_true rfl, Nat.le_of_ble_eq_true rfl⟩ (Nat.le_of_ble_eq_true rfl) dL_2110 (fun r2 τ2 hp2 => ?_)
  obtain ⟨⟨x2, rfl, ⟨hx2a, hx2b⟩⟩, rfl⟩ := hp2
  show hpV _ _ _ _ _ _ _ _ _ _ _ _ _ _ _ _ _ _ _ _ _ (_ :: _)
  refine h_pop C rfl dL_2113 ?_
  refine h_aload_n C dL_2114 1 rfl rfl ?_
  refine h_aload_n C dL_2115 3 rfl rfl ?_
  refine h_iload_n C dL_2116 0 rfl rfl ?_
  refine h_iconst C dL_2117 ?_
  refine h_iadd C dL_2118 rfl ?_
  refine h_sldL C hX hbl (i + 1).toNat (Int.toNat_of_nonneg (by omega)) (by omega) (by omega) dL_2119 ?_
  have hq3 := hpR_of (xs (i + 1).toNat)
  obtain ⟨hq3a, hq3b⟩ := hq3
  obtain ⟨v3, ev3⟩ : ∃ v : Int, v = (xs (i + 1).toNat).toInt := ⟨_, rfl⟩
  rw [← ev3] at hq3a hq3b ⊢
  have ez3 : v1 = v3 := ev1.trans ev3.symm
  subst ez3
  refine h_callV (As := [.int (hpI v1)]) (rest := []) C Z yyX9_count wd_2004 (tgX9_count l D cy s.heap.size _ v1 ⟨by omega, by omega⟩ hI) kd_195 rfl rfl ⟨rfl, rfl, Nat.le_of_ble_eq_true rfl, Nat.le_of_ble_eq_true rfl⟩ ⟨Nat.le_of_ble_eq_true rfl, Nat.le_of_ble_eq_true rfl⟩ (Nat.le_of_ble_eq_true rfl) dL_2120 (fun r4 τ4 hp4 => ?_)
  obtain ⟨⟨x4, rfl, ⟨hx4a, hx4b⟩⟩, rfl⟩ := hp4
  show hpV _ _ _ _ _ _ _ _ _ _ _ _ _ _ _ _ _ _ _ _ _ (_ :: _)
  refine h_pop C rfl dL_2123 ?_
  refine h_goto (tgt := 2352) C dL_2124 (by decide) ?_
  exact K σ hI hR
set_option maxHeartbeats 4000000 in
set_option maxRecDepth 20000 in
theorem law_67 {p : Program} {e : Env} {s : State} {m : MethodId} {below : List Frame} {meth : Method} {c : Code} (l : Launch) {b L : Nat} {xs : Nat → Int32} {D : va_G} {cy : Nat → ClassId} (C : hpC p s m #[.ref b] c code 4 RL D cy) (Z : hpStr s.heap.size cy s s.heap) (hr : meth.sig.returnType = ret) (hk : meth.locks = false) (hX : va_X b L xs s s.heap) (hbl : b < s.heap.size) (hL : L ≤ 3072) (σ : hpMem) (hI : hpInv σ) (hR : hpR72 σ) (i : Int) (hi0 : 0 ≤ i) (hi : i + 6 ≤ (L : Int)) (K : ∀ τ : hpMem, hpInv τ → hpR72 τ → hpV p l e room_1 s m #[.ref b] below meth c 217 24316 4 D cy s.heap.size s.heap (lw_Z below #[Value.ref b] s) τ 2352 [(3, .int (hpI i)), (2, .ref (s.heap.size + 195)), (1, .ref (s.heap.size + 0)), (0, .ref b)] []) : hpV p l e room_1 s m #[.ref b] below meth c 217 24316 4 D cy s.heap.size s.heap (lw_Z below #[Value.ref b] s) σ 2127 [(3, .int (hpI i)), (2, .ref (s.heap.size + 195)), (1, .ref (s.heap.size + 0)), (0, .ref b)] [] := by
  refine h_aload_n C dL_2127 2 rfl rfl ?_
  refine h_aload_n C dL_2128 3 rfl rfl ?_
  refine h_iload_n C dL_2129 0 rfl rfl ?_
  refine h_iconst C dL_2130 ?_
  refine h_iadd C dL_2131 rfl ?_
  refine h_sldL C hX hbl (i + 1).toNat (Int.toNat_of_nonneg (by omega)) (by omega) (by omega) dL_2132 ?_
  have hq1 := hpR_of (xs (i + 1).toNat)
  obtain ⟨hq1a, hq1b⟩ := hq1
  obtain ⟨v1, ev1⟩ : ∃ v : Int, v = (xs (i + 1).toNat).toInt := ⟨_, rfl⟩
  rw [← ev1] at hq1a hq1b ⊢
  refine h_callV (As := [.int (hpI v1)]) (rest := []) C Z yyX8_image wd_1219 (tgX8_image l D cy s.heap.size _ v1 ⟨by omega, by omega⟩ hI) kd_0 rfl rfl ⟨rfl, rfl, Nat.le_of_ble_eq_true rfl, Nat.le_of_ble_eq_true rfl⟩ ⟨Nat.le_of_ble_eq_true rfl, Nat.le_of_ble_eq_true rfl⟩ (Nat.le_of_ble_eq_true rfl) dL_2133 (fun r2 τ2 hp2 => ?_)
  obtain ⟨x2, rfl, ⟨hx2a, hx2b⟩, hx2, hI2, hG2, hq2_0⟩ := hp2
  show hpV _ _ _ _ _ _ _ _ _ _ _ _ _ _ _ _ _ _ _ _ _ (_ :: _)
  refine h_pop C rfl dL_2136 ?_
  refine h_aload_n C dL_2137 1 rfl rfl ?_
  refine h_aload_n C dL_2138 3 rfl rfl ?_
  refine h_iload_n C dL_2139 0 rfl rfl ?_
  refine h_iconst C dL_2140 ?_
  refine h_iadd C dL_2141 rfl ?_
  refine h_sldL C hX hbl (i + 1).toNat (Int.toNat_of_nonneg (by omega)) (by omega) (by omega) dL_2142 ?_
  have hq3 := hpR_of (xs (i + 1).toNat)
  obtain ⟨hq3a, hq3b⟩ := hq3
  obtain ⟨v3, ev3⟩ : ∃ v : Int, v = (xs (i + 1).toNat).toInt := ⟨_, rfl⟩
  rw [← ev3] at hq3a hq3b ⊢
  have ez3 : v1 = v3 := ev1.trans ev3.symm
  subst ez3
  refine h_callV (As := [.int (hpI v1)]) (rest := []) C Z yyX9_image wd_1396 (tgX9_image l D cy s.heap.size _ v1 ⟨by omega, by omega⟩ hI2) kd_195 rfl rfl ⟨rfl, rfl, Nat.le_of_ble_eq_true rfl, Nat.le_of_ble_eq_true rfl⟩ ⟨Nat.le_of_ble_eq_true rfl, Nat.le_of_ble_eq_true rfl⟩ (Nat.le_of_ble_eq_true rfl) dL_2143 (fun r4 τ4 hp4 => ?_)
  obtain ⟨x4, rfl, ⟨hx4a, hx4b⟩, hx4, hI4, hG4, hq4_0⟩ := hp4
  show hpV _ _ _ _ _ _ _ _ _ _ _ _ _ _ _ _ _ _ _ _ _ (_ :: _)
  refine h_pop C rfl dL_2146 ?_
  refine h_goto (tgt := 2352) C dL_2147 (by decide) ?_
  exact K τ4 hI4 (hR.fr (fun j i h => (hG4 j i (by omega) (by omega)).trans (hG2 j i (by omega))))
set_option maxHeartbeats 4000000 in
set_option maxRecDepth 20000 in
theorem law_68 {p : Program} {e : Env} {s : State} {m : MethodId} {below : List Frame} {meth : Method} {c : Code} (l : Launch) {b L : Nat} {xs : Nat → Int32} {D : va_G} {cy : Nat → ClassId} (C : hpC p s m #[.ref b] c code 4 RL D cy) (Z : hpStr s.heap.size cy s s.heap) (hr : meth.sig.returnType = ret) (hk : meth.locks = false) (hX : va_X b L xs s s.heap) (hbl : b < s.heap.size) (hL : L ≤ 3072) (σ : hpMem) (hI : hpInv σ) (hR : hpR72 σ) (i : Int) (hi0 : 0 ≤ i) (hi : i + 6 ≤ (L : Int)) (K : ∀ τ : hpMem, hpInv τ → hpR72 τ → hpV p l e room_1 s m #[.ref b] below meth c 217 24316 4 D cy s.heap.size s.heap (lw_Z below #[Value.ref b] s) τ 2352 [(3, .int (hpI i)), (2, .ref (s.heap.size + 195)), (1, .ref (s.heap.size + 0)), (0, .ref b)] []) : hpV p l e room_1 s m #[.ref b] below meth c 217 24316 4 D cy s.heap.size s.heap (lw_Z below #[Value.ref b] s) σ 2150 [(3, .int (hpI i)), (2, .ref (s.heap.size + 195)), (1, .ref (s.heap.size + 0)), (0, .ref b)] [] := by
  refine h_aload_n C dL_2150 2 rfl rfl ?_
  refine h_aload_n C dL_2151 3 rfl rfl ?_
  refine h_iload_n C dL_2152 0 rfl rfl ?_
  refine h_iconst C dL_2153 ?_
  refine h_iadd C dL_2154 rfl ?_
  refine h_sldL C hX hbl (i + 1).toNat (Int.toNat_of_nonneg (by omega)) (by omega) (by omega) dL_2155 ?_
  have hq1 := hpR_of (xs (i + 1).toNat)
  obtain ⟨hq1a, hq1b⟩ := hq1
  obtain ⟨v1, ev1⟩ : ∃ v : Int, v = (xs (i + 1).toNat).toInt := ⟨_, rfl⟩
  rw [← ev1] at hq1a hq1b ⊢
  refine h_callV (As := [.int (hpI v1)]) (rest := []) C Z yyX8_back wd_1223 (tgX8_back l D cy s.heap.size _ v1 ⟨by omega, by omega⟩ hI) kd_0 rfl rfl ⟨rfl, rfl, Nat.le_of_ble_eq_true rfl, Nat.le_of_ble_eq_true rfl⟩ ⟨Nat.le_of_ble_eq_true rfl, Nat.le_of_ble_eq_true rfl⟩ (Nat.le_of_ble_eq_true rfl) dL_2156 (fun r2 τ2 hp2 => ?_)
  obtain ⟨⟨x2, rfl, ⟨hx2a, hx2b⟩, hx2⟩, hI2, hG2⟩ := hp2
  show hpV _ _ _ _ _ _ _ _ _ _ _ _ _ _ _ _ _ _ _ _ _ (_ :: _)
  refine h_pop C rfl dL_2159 ?_
  refine h_aload_n C dL_2160 1 rfl rfl ?_
  refine h_aload_n C dL_2161 3 rfl rfl ?_
  refine h_iload_n C dL_2162 0 rfl rfl ?_
  refine h_iconst C dL_2163 ?_
  refine h_iadd C dL_2164 rfl ?_
  refine h_sldL C hX hbl (i + 1).toNat (Int.toNat_of_nonneg (by omega)) (by omega) (by omega) dL_2165 ?_
  have hq3 := hpR_of (xs (i + 1).toNat)
  obtain ⟨hq3a, hq3b⟩ := hq3
  obtain ⟨v3, ev3⟩ : ∃ v : Int, v = (xs (i + 1).toNat).toInt := ⟨_, rfl⟩
  rw [← ev3] at hq3a hq3b ⊢
  have ez3 : v1 = v3 := ev1.trans ev3.symm
  subst ez3
  refine h_callV (As := [.int (hpI v1)]) (rest := []) C Z yyX9_back wd_1404 (tgX9_back l D cy s.heap.size _ v1 ⟨by omega, by omega⟩ hI2) kd_195 rfl rfl ⟨rfl, rfl, Nat.le_of_ble_eq_true rfl, Nat.le_of_ble_eq_true rfl⟩ ⟨Nat.le_of_ble_eq_true rfl, Nat.le_of_ble_eq_true rfl⟩ (Nat.le_of_ble_eq_true rfl) dL_2166 (fun r4 τ4 hp4 => ?_)
  obtain ⟨⟨x4, rfl, ⟨hx4a, hx4b⟩, hx4⟩, hI4, hG4⟩ := hp4
  show hpV _ _ _ _ _ _ _ _ _ _ _ _ _ _ _ _ _ _ _ _ _ (_ :: _)
  refine h_pop C rfl dL_2169 ?_
  refine h_goto (tgt := 2352) C dL_2170 (by decide) ?_
  exact K τ4 hI4 (hR.fr (fun j i h => (hG4 j i (by omega)).trans (hG2 j i (by omega))))
set_option maxHeartbeats 4000000 in
set_option maxRecDepth 20000 in
theorem law_69 {p : Program} {e : Env} {s : State} {m : MethodId} {below : List Frame} {meth : Method} {c : Code} (l : Launch) {b L : Nat} {xs : Nat → Int32} {D : va_G} {cy : Nat → ClassId} (C : hpC p s m #[.ref b] c code 4 RL D cy) (Z : hpStr s.heap.size cy s s.heap) (hr : meth.sig.returnType = ret) (hk : meth.locks = false) (hX : va_X b L xs s s.heap) (hbl : b < s.heap.size) (hL : L ≤ 3072) (σ : hpMem) (hI : hpInv σ) (hR : hpR72 σ) (i : Int) (hi0 : 0 ≤ i) (hi : i + 6 ≤ (L : Int)) (K : ∀ τ : hpMem, hpInv τ → hpR72 τ → hpV p l e room_1 s m #[.ref b] below meth c 217 24316 4 D cy s.heap.size s.heap (lw_Z below #[Value.ref b] s) τ 2352 [(3, .int (hpI i)), (2, .ref (s.heap.size + 195)), (1, .ref (s.heap.size + 0)), (0, .ref b)] []) : hpV p l e room_1 s m #[.ref b] below meth c 217 24316 4 D cy s.heap.size s.heap (lw_Z below #[Value.ref b] s) σ 2173 [(3, .int (hpI i)), (2, .ref (s.heap.size + 195)), (1, .ref (s.heap.size + 0)), (0, .ref b)] [] := by
  refine h_aload_n C dL_2173 2 rfl rfl ?_
  refine h_aload_n C dL_2174 3 rfl rfl ?_
  refine h_iload_n C dL_2175 0 rfl rfl ?_
  refine h_iconst C dL_2176 ?_
  refine h_iadd C dL_2177 rfl ?_
  refine h_sldL C hX hbl (i + 1).toNat (Int.toNat_of_nonneg (by omega)) (by omega) (by omega) dL_2178 ?_
  have hq1 := hpR_of (xs (i + 1).toNat)
  obtain ⟨hq1a, hq1b⟩ := hq1
  obtain ⟨v1, ev1⟩ : ∃ v : Int, v = (xs (i + 1).toNat).toInt := ⟨_, rfl⟩
  rw [← ev1] at hq1a hq1b ⊢
  refine h_aload_n C dL_2179 3 rfl rfl ?_
  refine h_iload_n C dL_2180 0 rfl rfl ?_
  refine h_iconst C dL_2181 ?_
  refine h_iadd C dL_2182 rfl ?_
  refine h_sldL C hX hbl (i + 2).toNat (Int.toNat_of_nonneg (by omega)) (by omega) (by omega) dL_2183 ?_
  have hq2 := hpR_of (xs (i + 2).toNat)
  obtain ⟨hq2a, hq2b⟩ := hq2
  obtain ⟨v2, ev2⟩ : ∃ v : Int, v = (xs (i + 2).toNat).toInt := ⟨_, rfl⟩
  rw [← ev2] at hq2a hq2b ⊢
  refine h_aload_n C dL_2184 3 rfl rfl ?_
  refine h_iload_n C dL_2185 0 rfl rfl ?_
  refine h_iconst C dL_2186 ?_
  refine h_iadd C dL_2187 rfl ?_
  refine h_sldL C hX hbl (i + 3).toNat (Int.toNat_of_nonneg (by omega)) (by omega) (by omega) dL_2188 ?_
  have hq3 := hpR_of (xs (i + 3).toNat)
  obtain ⟨hq3a, hq3b⟩ := hq3
  obtain ⟨v3, ev3⟩ : ∃ v : Int, v = (xs (i + 3).toNat).toInt := ⟨_, rfl⟩
  rw [← ev3] at hq3a hq3b ⊢
  refine h_callV (As := [.int (hpI v1), .int (hpI v2), .int (hpI v3)]) (rest := []) C Z yyX8_row wd_1227 (tgX8_row l D cy s.heap.size _ v1 ⟨by omega, by omega⟩ v2 ⟨by omega, by omega⟩ v3 ⟨by omega, by omega⟩ hI) kd_0 rfl rfl ⟨rfl, rfl, Nat.le_of_ble_eq_true rfl, Nat.le_of_ble_eq_true rfl⟩ ⟨Nat.le_of_ble_eq_true rfl, Nat.le_of_ble_eq_true rfl⟩ (Nat.le_of_ble_eq_true rfl) dL_2189 (fun r4 τ4 hp4 => ?_)
  obtain ⟨x4, rfl, ⟨hx4a, hx4b⟩, hx4, hI4, hG4, hq4_0⟩ := hp4
  show hpV _ _ _ _ _ _ _ _ _ _ _ _ _ _ _ _ _ _ _ _ _ (_ :: _)
  refine h_pop C rfl dL_2192 ?_
  refine h_aload_n C dL_2193 1 rfl rfl ?_
  refine h_aload_n C dL_2194 3 rfl rfl ?_
  refine h_iload_n C dL_2195 0 rfl rfl ?_
  refine h_iconst C dL_2196 ?_
  refine h_iadd C dL_2197 rfl ?_
  refine h_sldL C hX hbl (i + 1).toNat (Int.toNat_of_nonneg (by omega)) (by omega) (by omega) dL_2198 ?_
  have hq5 := hpR_of (xs (i + 1).toNat)
  obtain ⟨hq5a, hq5b⟩ := hq5
  obtain ⟨v5, ev5⟩ : ∃ v : Int, v = (xs (i + 1).toNat).toInt := ⟨_, rfl⟩
  rw [← ev5] at hq5a hq5b ⊢
  have ez5 : v1 = v5 := ev1.trans ev5.symm
  subst ez5
  refine h_aload_n C dL_2199 3 rfl rfl ?_
  refine h_iload_n C dL_2200 0 rfl rfl ?_
  refine h_iconst C dL_2201 ?_
  refine h_iadd C dL_2202 rfl ?_
  refine h_sldL C hX hbl (i + 2).toNat (Int.toNat_of_nonneg (by omega)) (by omega) (by omega) dL_2203 ?_
  have hq6 := hpR_of (xs (i + 2).toNat)
  obtain ⟨hq6a, hq6b⟩ := hq6
  obtain ⟨v6, ev6⟩ : ∃ v : Int, v = (xs (i + 2).toNat).toInt := ⟨_, rfl⟩
  rw [← ev6] at hq6a hq6b ⊢
  have ez6 : v2 = v6 := ev2.trans ev6.symm
  subst ez6
  refine h_aload_n C dL_2204 3 rfl rfl ?_
  refine h_iload_n C dL_2205 0 rfl rfl ?_
  refine h_iconst C dL_2206 ?_
  refine h_iadd C dL_2207 rfl ?_
  refine h_sldL C hX hbl (i + 3).toNat (Int.toNat_of_nonneg (by omega)) (by omega) (by omega) dL_2208 ?_
  have hq7 := hpR_of (xs (i + 3).toNat)
  obtain ⟨hq7a, hq7b⟩ := hq7
  obtain ⟨v7, ev7⟩ : ∃ v : Int, v = (xs (i + 3).toNat).toInt := ⟨_, rfl⟩
  rw [← ev7] at hq7a hq7b ⊢
  have ez7 : v3 = v7 := ev3.trans ev7.symm
  subst ez7
  refine h_callV (As := [.int (hpI v1), .int (hpI v2), .int (hpI v3)]) (rest := []) C Z yyX9_row wd_2009 (tgX9_row l D cy s.heap.size _ v1 ⟨by omega, by omega⟩ v2 ⟨by omega, by omega⟩ v3 ⟨by omega, by omega⟩ hI4) kd_195 rfl rfl ⟨rfl, rfl, Nat.le_of_ble_eq_true rfl, Nat.le_of_ble_eq_true rfl⟩ ⟨Nat.le_of_ble_eq_true rfl, Nat.le_of_ble_eq_true rfl⟩ (Nat.le_of_ble_eq_true rfl) dL_2209 (fun r8 τ8 hp8 => ?_)
  obtain ⟨x8, rfl, ⟨hx8a, hx8b⟩, hx8, hI8, hG8, hq8_0⟩ := hp8
  show hpV _ _ _ _ _ _ _ _ _ _ _ _ _ _ _ _ _ _ _ _ _ (_ :: _)
  refine h_pop C rfl dL_2212 ?_
  refine h_goto (tgt := 2352) C dL_2213 (by decide) ?_
  exact K τ8 hI8 (fun s2 hs => by have qa := hq4_0 s2 hs; have qb := hq8_0 s2 hs; have q1 := hG8 (187 + 2 * s2) 1 (by omega) (by omega) (by omega); have q2 := hG8 (187 + 2 * s2) 2 (by omega) (by omega) (by omega); have q3 := hG8 (187 + 2 * s2) 3 (by omega) (by omega) (by omega); have q4 := hG4 213 s2 (by omega); have q5 := hG4 214 s2 (by omega); have qr := hR s2 hs; have ra := hx4; have rb := hx8; omega)
set_option maxHeartbeats 4000000 in
set_option maxRecDepth 20000 in
theorem law_70 {p : Program} {e : Env} {s : State} {m : MethodId} {below : List Frame} {meth : Method} {c : Code} (l : Launch) {b L : Nat} {xs : Nat → Int32} {D : va_G} {cy : Nat → ClassId} (C : hpC p s m #[.ref b] c code 4 RL D cy) (Z : hpStr s.heap.size cy s s.heap) (hr : meth.sig.returnType = ret) (hk : meth.locks = false) (hX : va_X b L xs s s.heap) (hbl : b < s.heap.size) (hL : L ≤ 3072) (σ : hpMem) (hI : hpInv σ) (hR : hpR72 σ) (i : Int) (hi0 : 0 ≤ i) (hi : i + 6 ≤ (L : Int)) (K : ∀ τ : hpMem, hpInv τ → hpR72 τ → hpV p l e room_1 s m #[.ref b] below meth c 217 24316 4 D cy s.heap.size s.heap (lw_Z below #[Value.ref b] s) τ 2352 [(3, .int (hpI i)), (2, .ref (s.heap.size + 195)), (1, .ref (s.heap.size + 0)), (0, .ref b)] []) : hpV p l e room_1 s m #[.ref b] below meth c 217 24316 4 D cy s.heap.size s.heap (lw_Z below #[Value.ref b] s) σ 2216 [(3, .int (hpI i)), (2, .ref (s.heap.size + 195)), (1, .ref (s.heap.size + 0)), (0, .ref b)] [] := by
  refine h_aload_n C dL_2216 2 rfl rfl ?_
  refine h_aload_n C dL_2217 3 rfl rfl ?_
  refine h_iload_n C dL_2218 0 rfl rfl ?_
  refine h_iconst C dL_2219 ?_
  refine h_iadd C dL_2220 rfl ?_
  refine h_sldL C hX hbl (i + 1).toNat (Int.toNat_of_nonneg (by omega)) (by omega) (by omega) dL_2221 ?_
  have hq1 := hpR_of (xs (i + 1).toNat)
  obtain ⟨hq1a, hq1b⟩ := hq1
  obtain ⟨v1, ev1⟩ : ∃ v : Int, v = (xs (i + 1).toNat).toInt := ⟨_, rfl⟩
  rw [← ev1] at hq1a hq1b ⊢
  refine h_aload_n C dL_2222 3 rfl rfl ?_
  refine h_iload_n C dL_2223 0 rfl rfl ?_
  refine h_iconst C dL_2224 ?_
  refine h_iadd C dL_2225 rfl ?_
  refine h_sldL C hX hbl (i + 2).toNat (Int.toNat_of_nonneg (by omega)) (by omega) (by omega) dL_2226 ?_
  have hq2 := hpR_of (xs (i + 2).toNat)
  obtain ⟨hq2a, hq2b⟩ := hq2
  obtain ⟨v2, ev2⟩ : ∃ v : Int, v = (xs (i + 2).toNat).toInt := ⟨_, rfl⟩
  rw [← ev2] at hq2a hq2b ⊢
  refine h_aload_n C dL_2227 3 rfl rfl ?_
  refine h_iload_n C dL_2228 0 rfl rfl ?_
  refine h_iconst C dL_2229 ?_
  refine h_iadd C dL_2230 rfl ?_
  refine h_sldL C hX hbl (i + 3).toNat (Int.toNat_of_nonneg (by omega)) (by omega) (by omega) dL_2231 ?_
  have hq3 := hpR_of (xs (i + 3).toNat)
  obtain ⟨hq3a, hq3b⟩ := hq3
  obtain ⟨v3, ev3⟩ : ∃ v : Int, v = (xs (i + 3).toNat).toInt := ⟨_, rfl⟩
  rw [← ev3] at hq3a hq3b ⊢
  refine h_i2l C dL_2232 ⟨by omega, by omega⟩ ?_
  refine h_bipush C dL_2233 (by decide) ?_
  refine h_lshl_any C dL_2235 (fun r4 hr4 => ?_)
  obtain ⟨hr4a, hr4b⟩ := hr4
  refine h_aload_n C dL_2236 3 rfl rfl ?_
  refine h_iload_n C dL_2237 0 rfl rfl ?_
  refine h_iconst C dL_2238 ?_
  refine h_iadd C dL_2239 rfl ?_
  refine h_sldL C hX hbl (i + 4).toNat (Int.toNat_of_nonneg (by omega)) (by omega) (by omega) dL_2240 ?_
  have hq5 := hpR_of (xs (i + 4).toNat)
  obtain ⟨hq5a, hq5b⟩ := hq5
  obtain ⟨v5, ev5⟩ : ∃ v : Int, v = (xs (i + 4).toNat).toInt := ⟨_, rfl⟩
  rw [← ev5] at hq5a hq5b ⊢
  refine h_i2l C dL_2241 ⟨by omega, by omega⟩ ?_
  refine h_ldc2 C 4294967295 wd_2024 (by decide) dL_2242 ?_
  refine h_land_any C dL_2245 (fun r6 hr6 => ?_)
  obtain ⟨hr6a, hr6b⟩ := hr6
  refine h_lor_any C dL_2246 (fun r7 hr7 => ?_)
  obtain ⟨hr7a, hr7b⟩ := hr7
  refine h_callV (As := [.int (hpI v1), .int (hpI v2), .long (hpJ r7)]) (rest := []) C Z yyX8_write wd_1235 (tgX8_write l D cy s.heap.size _ v1 ⟨by omega, by omega⟩ v2 ⟨by omega, by omega⟩ r7 ⟨by omega, by omega⟩ hI) kd_0 rfl rfl ⟨rfl, rfl, Nat.le_of_ble_eq_true rfl, Nat.le_of_ble_eq_true rfl⟩ ⟨Nat.le_of_ble_eq_true rfl, Nat.le_of_ble_eq_true rfl⟩ (Nat.le_of_ble_eq_true rfl) dL_2247 (fun r8 τ8 hp8 => ?_)
  obtain ⟨⟨x8, rfl, ⟨hx8a, hx8b⟩, hx8⟩, hI8, hG8⟩ := hp8
  show hpV _ _ _ _ _ _ _ _ _ _ _ _ _ _ _ _ _ _ _ _ _ (_ :: _)
  refine h_aload_n C dL_2250 1 rfl rfl ?_
  refine h_aload_n C dL_2251 3 rfl rfl ?_
  refine h_iload_n C dL_2252 0 rfl rfl ?_
  refine h_iconst C dL_2253 ?_
  refine h_iadd C dL_2254 rfl ?_
  refine h_sldL C hX hbl (i + 1).toNat (Int.toNat_of_nonneg (by omega)) (by omega) (by omega) dL_2255 ?_
  have hq9 := hpR_of (xs (i + 1).toNat)
  obtain ⟨hq9a, hq9b⟩ := hq9
  obtain ⟨v9, ev9⟩ : ∃ v : Int, v = (xs (i + 1).toNat).toInt := ⟨_, rfl⟩
  rw [← ev9] at hq9a hq9b ⊢
  have ez9 : v1 = v9 := ev1.trans ev9.symm
  subst ez9
  refine h_aload_n C dL_2256 3 rfl rfl ?_
  refine h_iload_n C dL_2257 0 rfl rfl ?_
  refine h_iconst C dL_2258 ?_
  refine h_iadd C dL_2259 rfl ?_
  refine h_sldL C hX hbl (i + 2).toNat (Int.toNat_of_nonneg (by omega)) (by omega) (by omega) dL_2260 ?_
  have hq10 := hpR_of (xs (i + 2).toNat)
  obtain ⟨hq10a, hq10b⟩ := hq10
  obtain ⟨v10, ev10⟩ : ∃ v : Int, v = (xs (i + 2).toNat).toInt := ⟨_, rfl⟩
  rw [← ev10] at hq10a hq10b ⊢
  have ez10 : v2 = v10 := ev2.trans ev10.symm
  subst ez10
  refine h_aload_n C dL_2261 3 rfl rfl ?_
  refine h_iload_n C dL_2262 0 rfl rfl ?_
  refine h_iconst C dL_2263 ?_
  refine h_iadd C dL_2264 rfl ?_
  refine h_sldL C hX hbl (i + 3).toNat (Int.toNat_of_nonneg (by omega)) (by omega) (by omega) dL_2265 ?_
  have hq11 := hpR_of (xs (i + 3).toNat)
  obtain ⟨hq11a, hq11b⟩ := hq11
  obtain ⟨v11, ev11⟩ : ∃ v : Int, v = (xs (i + 3).toNat).toInt := ⟨_, rfl⟩
  rw [← ev11] at hq11a hq11b ⊢
  have ez11 : v3 = v11 := ev3.trans ev11.symm
  subst ez11
  refine h_i2l C dL_2266 ⟨by omega, by omega⟩ ?_
  refine h_bipush C dL_2267 (by decide) ?_
  refine h_lshl_any C dL_2269 (fun r12 hr12 => ?_)
  obtain ⟨hr12a, hr12b⟩ := hr12
  refine h_aload_n C dL_2270 3 rfl rfl ?_
  refine h_iload_n C dL_2271 0 rfl rfl ?_
  refine h_iconst C dL_2272 ?_
  refine h_iadd C dL_2273 rfl ?_
  refine h_sldL C hX hbl (i + 4).toNat (Int.toNat_of_nonneg (by omega)) (by omega) (by omega) dL_2274 ?_
  have hq13 := hpR_of (xs (i + 4).toNat)
  obtain ⟨hq13a, hq13b⟩ := hq13
  obtain ⟨v13, ev13⟩ : ∃ v : Int, v = (xs (i + 4).toNat).toInt := ⟨_, rfl⟩
  rw [← ev13] at hq13a hq13b ⊢
  have ez13 : v5 = v13 := ev5.trans ev13.symm
  subst ez13
  refine h_i2l C dL_2275 ⟨by omega, by omega⟩ ?_
  refine h_ldc2 C 4294967295 wd_2024 (by decide) dL_2276 ?_
  refine h_land_any C dL_2279 (fun r14 hr14 => ?_)
  obtain ⟨hr14a, hr14b⟩ := hr14
  refine h_lor_any C dL_2280 (fun r15 hr15 => ?_)
  obtain ⟨hr15a, hr15b⟩ := hr15
  refine h_callV (As := [.int (hpI v1), .int (hpI v2), .long (hpJ r15)]) (rest := [.int (hpI x8)]) C Z yyX9_write wd_2013 (tgX9_write l D cy s.heap.size _ v1 ⟨by omega, by omega⟩ v2 ⟨by omega, by omega⟩ r15 ⟨by omega, by omega⟩ hI8) kd_195 rfl rfl ⟨rfl, rfl, Nat.le_of_ble_eq_true rfl, Nat.le_of_ble_eq_true rfl⟩ ⟨Nat.le_of_ble_eq_true rfl, Nat.le_of_ble_eq_true rfl⟩ (Nat.le_of_ble_eq_true rfl) dL_2281 (fun r16 τ16 hp16 => ?_)
  obtain ⟨⟨x16, rfl, ⟨hx16a, hx16b⟩, hx16⟩, hI16, hG16⟩ := hp16
  show hpV _ _ _ _ _ _ _ _ _ _ _ _ _ _ _ _ _ _ _ _ _ (_ :: _)
  have hsl : (v1 < 0 ∨ 3 < v1) ∨ (σ (187 + 2 * (v1).toNat) 1 = 0 ∧ σ 213 (v1).toNat = -1) ∨ (σ (187 + 2 * (v1).toNat) 1 = 1 ∧ σ (187 + 2 * (v1).toNat) 3 = σ 213 (v1).toNat ∧ 0 ≤ σ 213 (v1).toNat ∧ σ (187 + 2 * (v1).toNat) 2 = σ 214 (v1).toNat) := by by_cases h : 0 ≤ v1 ∧ v1 ≤ 3; (exact Or.inr (hR (v1).toNat (by omega))); (exact Or.inl (by omega))
  have hsl_213 := hG8 213 (v1).toNat (by omega)
  have hsl_214 := hG8 214 (v1).toNat (by omega)
  refine h_icmp_eq (tgt := 2352) C dL_2284 (by decide) ⟨by omega, by omega⟩ ⟨by omega, by omega⟩ (fun h17 => ?_) (fun h17 => ?_)
  · exact K τ16 hI16 (hR.fr (fun j i h => (hG16 j i (by omega)).trans (hG8 j i (by omega))))
  · refine h_iconst C dL_2287 ?_
    exfalso; omega
set_option maxHeartbeats 4000000 in
set_option maxRecDepth 20000 in
theorem law_71 {p : Program} {e : Env} {s : State} {m : MethodId} {below : List Frame} {meth : Method} {c : Code} (l : Launch) {b L : Nat} {xs : Nat → Int32} {D : va_G} {cy : Nat → ClassId} (C : hpC p s m #[.ref b] c code 4 RL D cy) (Z : hpStr s.heap.size cy s s.heap) (hr : meth.sig.returnType = ret) (hk : meth.locks = false) (hX : va_X b L xs s s.heap) (hbl : b < s.heap.size) (hL : L ≤ 3072) (σ : hpMem) (hI : hpInv σ) (hR : hpR72 σ) (i : Int) (hi0 : 0 ≤ i) (hi : i + 6 ≤ (L : Int)) (K : ∀ τ : hpMem, hpInv τ → hpR72 τ → hpV p l e room_1 s m #[.ref b] below meth c 217 24316 4 D cy s.heap.size s.heap (lw_Z below #[Value.ref b] s) τ 2352 [(3, .int (hpI i)), (2, .ref (s.heap.size + 195)), (1, .ref (s.heap.size + 0)), (0, .ref b)] []) : hpV p l e room_1 s m #[.ref b] below meth c 217 24316 4 D cy s.heap.size s.heap (lw_Z below #[Value.ref b] s) σ 2289 [(3, .int (hpI i)), (2, .ref (s.heap.size + 195)), (1, .ref (s.heap.size + 0)), (0, .ref b)] [] := by
  refine h_aload_n C dL_2289 2 rfl rfl ?_
  refine h_aload_n C dL_2290 3 rfl rfl ?_
  refine h_iload_n C dL_2291 0 rfl rfl ?_
  refine h_iconst C dL_2292 ?_
  refine h_iadd C dL_2293 rfl ?_
  refine h_sldL C hX hbl (i + 1).toNat (Int.toNat_of_nonneg (by omega)) (by omega) (by omega) dL_2294 ?_
  have hq1 := hpR_of (xs (i + 1).toNat)
  obtain ⟨hq1a, hq1b⟩ := hq1
  obtain ⟨v1, ev1⟩ : ∃ v : Int, v = (xs (i + 1).toNat).toInt := ⟨_, rfl⟩
  rw [← ev1] at hq1a hq1b ⊢
  refine h_aload_n C dL_2295 3 rfl rfl ?_
  refine h_iload_n C dL_2296 0 rfl rfl ?_
  refine h_iconst C dL_2297 ?_
  refine h_iadd C dL_2298 rfl ?_
  refine h_sldL C hX hbl (i + 2).toNat (Int.toNat_of_nonneg (by omega)) (by omega) (by omega) dL_2299 ?_
  have hq2 := hpR_of (xs (i + 2).toNat)
  obtain ⟨hq2a, hq2b⟩ := hq2
  obtain ⟨v2, ev2⟩ : ∃ v : Int, v = (xs (i + 2).toNat).toInt := ⟨_, rfl⟩
  rw [← ev2] at hq2a hq2b ⊢
  refine h_aload_n C dL_2300 3 rfl rfl ?_
  refine h_iload_n C dL_2301 0 rfl rfl ?_
  refine h_iconst C dL_2302 ?_
  refine h_iadd C dL_2303 rfl ?_
  refine h_sldL C hX hbl (i + 3).toNat (Int.toNat_of_nonneg (by omega)) (by omega) (by omega) dL_2304 ?_
  have hq3 := hpR_of (xs (i + 3).toNat)
  obtain ⟨hq3a, hq3b⟩ := hq3
  obtain ⟨v3, ev3⟩ : ∃ v : Int, v = (xs (i + 3).toNat).toInt := ⟨_, rfl⟩
  rw [← ev3] at hq3a hq3b ⊢
  refine h_aload_n C dL_2305 3 rfl rfl ?_
  refine h_iload_n C dL_2306 0 rfl rfl ?_
  refine h_iconst C dL_2307 ?_
  refine h_iadd C dL_2308 rfl ?_
  refine h_sldL C hX hbl (i + 4).toNat (Int.toNat_of_nonneg (by omega)) (by omega) (by omega) dL_2309 ?_
  have hq4 := hpR_of (xs (i + 4).toNat)
  obtain ⟨hq4a, hq4b⟩ := hq4
  obtain ⟨v4, ev4⟩ : ∃ v : Int, v = (xs (i + 4).toNat).toInt := ⟨_, rfl⟩
  rw [← ev4] at hq4a hq4b ⊢
  refine h_aload_n C dL_2310 3 rfl rfl ?_
  refine h_iload_n C dL_2311 0 rfl rfl ?_
  refine h_iconst C dL_2312 ?_
  refine h_iadd C dL_2313 rfl ?_
  refine h_sldL C hX hbl (i + 5).toNat (Int.toNat_of_nonneg (by omega)) (by omega) (by omega) dL_2314 ?_
  have hq5 := hpR_of (xs (i + 5).toNat)
  obtain ⟨hq5a, hq5b⟩ := hq5
  obtain ⟨v5, ev5⟩ : ∃ v : Int, v = (xs (i + 5).toNat).toInt := ⟨_, rfl⟩
  rw [← ev5] at hq5a hq5b ⊢
  refine h_callV (As := [.int (hpI v1), .int (hpI v2), .int (hpI v3), .int (hpI v4), .int (hpI v5)]) (rest := []) C Z yyX8_paste wd_1242 (tgX8_paste l D cy s.heap.size _ v1 ⟨by omega, by omega⟩ v2 ⟨by omega, by omega⟩ v3 ⟨by omega, by omega⟩ v4 ⟨by omega, by omega⟩ v5 ⟨by omega, by omega⟩ hI) kd_0 rfl rfl ⟨rfl, rfl, Nat.le_of_ble_eq_true rfl, Nat.le_of_ble_eq_true rfl⟩ ⟨Nat.le_of_ble_eq_true rfl, Nat.le_of_ble_eq_true rfl⟩ (Nat.le_of_ble_eq_true rfl) dL_2315 (fun r6 τ6 hp6 => ?_)
  obtain ⟨⟨x6, rfl, ⟨hx6a, hx6b⟩, hx6⟩, hI6, hG6⟩ := hp6
  show hpV _ _ _ _ _ _ _ _ _ _ _ _ _ _ _ _ _ _ _ _ _ (_ :: _)
  refine h_pop C rfl dL_2318 ?_
  refine h_aload_n C dL_2319 1 rfl rfl ?_
  refine h_aload_n C dL_2320 3 rfl rfl ?_
  refine h_iload_n C dL_2321 0 rfl rfl ?_
  refine h_iconst C dL_2322 ?_
  refine h_iadd C dL_2323 rfl ?_
  refine h_sldL C hX hbl (i + 1).toNat (Int.toNat_of_nonneg (by omega)) (by omega) (by omega) dL_2324 ?_
  have hq7 := hpR_of (xs (i + 1).toNat)
  obtain ⟨hq7a, hq7b⟩ := hq7
  obtain ⟨v7, ev7⟩ : ∃ v : Int, v = (xs (i + 1).toNat).toInt := ⟨_, rfl⟩
  rw [← ev7] at hq7a hq7b ⊢
  have ez7 : v1 = v7 := ev1.trans ev7.symm
  subst ez7
  refine h_aload_n C dL_2325 3 rfl rfl ?_
  refine h_iload_n C dL_2326 0 rfl rfl ?_
  refine h_iconst C dL_2327 ?_
  refine h_iadd C dL_2328 rfl ?_
  refine h_sldL C hX hbl (i + 2).toNat (Int.toNat_of_nonneg (by omega)) (by omega) (by omega) dL_2329 ?_
  have hq8 := hpR_of (xs (i + 2).toNat)
  obtain ⟨hq8a, hq8b⟩ := hq8
  obtain ⟨v8, ev8⟩ : ∃ v : Int, v = (xs (i + 2).toNat).toInt := ⟨_, rfl⟩
  rw [← ev8] at hq8a hq8b ⊢
  have ez8 : v2 = v8 := ev2.trans ev8.symm
  subst ez8
  refine h_aload_n C dL_2330 3 rfl rfl ?_
  refine h_iload_n C dL_2331 0 rfl rfl ?_
  refine h_iconst C dL_2332 ?_
  refine h_iadd C dL_2333 rfl ?_
  refine h_sldL C hX hbl (i + 3).toNat (Int.toNat_of_nonneg (by omega)) (by omega) (by omega) dL_2334 ?_
  have hq9 := hpR_of (xs (i + 3).toNat)
  obtain ⟨hq9a, hq9b⟩ := hq9
  obtain ⟨v9, ev9⟩ : ∃ v : Int, v = (xs (i + 3).toNat).toInt := ⟨_, rfl⟩
  rw [← ev9] at hq9a hq9b ⊢
  have ez9 : v3 = v9 := ev3.trans ev9.symm
  subst ez9
  refine h_aload_n C dL_2335 3 rfl rfl ?_
  refine h_iload_n C dL_2336 0 rfl rfl ?_
  refine h_iconst C dL_2337 ?_
  refine h_iadd C dL_2338 rfl ?_
  refine h_sldL C hX hbl (i + 4).toNat (Int.toNat_of_nonneg (by omega)) (by omega) (by omega) dL_2339 ?_
  have hq10 := hpR_of (xs (i + 4).toNat)
  obtain ⟨hq10a, hq10b⟩ := hq10
  obtain ⟨v10, ev10⟩ : ∃ v : Int, v = (xs (i + 4).toNat).toInt := ⟨_, rfl⟩
  rw [← ev10] at hq10a hq10b ⊢
  have ez10 : v4 = v10 := ev4.trans ev10.symm
  subst ez10
  refine h_aload_n C dL_2340 3 rfl rfl ?_
  refine h_iload_n C dL_2341 0 rfl rfl ?_
  refine h_iconst C dL_2342 ?_
  refine h_iadd C dL_2343 rfl ?_
  refine h_sldL C hX hbl (i + 5).toNat (Int.toNat_of_nonneg (by omega)) (by omega) (by omega) dL_2344 ?_
  have hq11 := hpR_of (xs (i + 5).toNat)
  obtain ⟨hq11a, hq11b⟩ := hq11
  obtain ⟨v11, ev11⟩ : ∃ v : Int, v = (xs (i + 5).toNat).toInt := ⟨_, rfl⟩
  rw [← ev11] at hq11a hq11b ⊢
  have ez11 : v5 = v11 := ev5.trans ev11.symm
  subst ez11
  refine h_callV (As := [.int (hpI v1), .int (hpI v2), .int (hpI v3), .int (hpI v4), .int (hpI v5)]) (rest := []) C Z yyX9_paste wd_2020 (tgX9_paste l D cy s.heap.size _ v1 ⟨by omega, by omega⟩ v2 ⟨by omega, by omega⟩ v3 ⟨by omega, by omega⟩ v4 ⟨by omega, by omega⟩ v5 ⟨by omega, by omega⟩ hI6) kd_195 rfl rfl ⟨rfl, rfl, Nat.le_of_ble_eq_true rfl, Nat.le_of_ble_eq_true rfl⟩ ⟨Nat.le_of_ble_eq_true rfl, Nat.le_of_ble_eq_true rfl⟩ (Nat.le_of_ble_eq_true rfl) dL_2345 (fun r12 τ12 hp12 => ?_)
  obtain ⟨⟨x12, rfl, ⟨hx12a, hx12b⟩, hx12⟩, hI12, hG12⟩ := hp12
  show hpV _ _ _ _ _ _ _ _ _ _ _ _ _ _ _ _ _ _ _ _ _ (_ :: _)
  refine h_pop C rfl dL_2348 ?_
  refine h_goto (tgt := 2352) C dL_2349 (by decide) ?_
  exact K τ12 hI12 (hR.fr (fun j i h => (hG12 j i (by omega) (by omega)).trans (hG6 j i (by omega))))
set_option maxHeartbeats 4000000 in
set_option maxRecDepth 20000 in
theorem law_out {p : Program} {e : Env} {s : State} {m : MethodId} {below : List Frame} {meth : Method} {c : Code} (l : Launch) {b L : Nat} {xs : Nat → Int32} {D : va_G} {cy : Nat → ClassId} (C : hpC p s m #[.ref b] c code 4 RL D cy) (Z : hpStr s.heap.size cy s s.heap) (hr : meth.sig.returnType = ret) (hk : meth.locks = false) (hX : va_X b L xs s s.heap) (hbl : b < s.heap.size) (hL : L ≤ 3072) (σ : hpMem) (hI : hpInv σ) (hR : hpR72 σ) (i : Int) (hi0 : 0 ≤ i) (hi : i + 6 ≤ (L : Int)) (K : ∀ τ : hpMem, hpInv τ → hpR72 τ → hpV p l e room_1 s m #[.ref b] below meth c 217 24316 4 D cy s.heap.size s.heap (lw_Z below #[Value.ref b] s) τ 2352 [(3, .int (hpI i)), (2, .ref (s.heap.size + 195)), (1, .ref (s.heap.size + 0)), (0, .ref b)] []) : hpV p l e room_1 s m #[.ref b] below meth c 217 24316 4 D cy s.heap.size s.heap (lw_Z below #[Value.ref b] s) σ 2352 [(3, .int (hpI i)), (2, .ref (s.heap.size + 195)), (1, .ref (s.heap.size + 0)), (0, .ref b)] [] := by
  exact K σ hI hR

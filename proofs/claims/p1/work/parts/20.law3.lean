set_option maxHeartbeats 4000000 in
set_option maxRecDepth 20000 in
theorem law_50 {p : Program} {e : Env} {s : State} {m : MethodId} {below : List Frame} {meth : Method} {c : Code} (l : Launch) {b : Nat} {xs : Nat → Int32} {D : va_G} {cy : Nat → ClassId} (C : hpC p s m #[.ref b] c code 4 RL D cy) (hr : meth.sig.returnType = ret) (hk : meth.locks = false) (hX : va_X b 6 xs s s.heap) (hbl : b < s.heap.size) : hpV p l e room_1 s m #[.ref b] below meth c 217 24316 4 D cy s.heap.size s.heap (lw_Z below #[Value.ref b] s) hp0 1586 [(3, .int (hpI 0)), (2, .ref (s.heap.size + 195)), (1, .ref (s.heap.size + 0)), (0, .ref b)] [] := by
  refine h_aload_n C dL_1586 2 rfl rfl ?_
  refine h_aload_n C dL_1587 3 rfl rfl ?_
  refine h_iload_n C dL_1588 0 rfl rfl ?_
  refine h_iconst C dL_1589 ?_
  refine h_iadd (r := 1) C dL_1590 (by decide) ?_
  refine h_sld C hX hbl 1 rfl (by decide) dL_1591 ?_
  obtain ⟨hq1a, hq1b⟩ := hpR_of (xs 1)
  generalize ev1 : (xs 1).toInt = v1 at hq1a hq1b ⊢
  refine h_callV (As := [.int (hpI v1)]) (rest := []) C yyX8_worth wd_1058 (tX8_worth l D cy s.heap.size _ v1 ⟨by omega, by omega⟩ rfl) kd_0 rfl rfl ⟨rfl, rfl, Nat.le_of_ble_eq_true rfl, Nat.le_of_ble_eq_true rfl⟩ ⟨Nat.le_of_ble_eq_true rfl, Nat.le_of_ble_eq_true rfl⟩ (Nat.le_of_ble_eq_true rfl) dL_1592 (fun r2 τ2 hp2 => ?_)
  obtain ⟨rfl, rfl⟩ := hp2
  show hpV _ _ _ _ _ _ _ _ _ _ _ _ _ _ _ _ _ _ _ _ _ (_ :: _)
  refine h_aload_n C dL_1595 1 rfl rfl ?_
  refine h_aload_n C dL_1596 3 rfl rfl ?_
  refine h_iload_n C dL_1597 0 rfl rfl ?_
  refine h_iconst C dL_1598 ?_
  refine h_iadd (r := 1) C dL_1599 (by decide) ?_
  refine h_sld C hX hbl 1 rfl (by decide) dL_1600 ?_
  rw [ev1]
  refine h_callV (As := [.int (hpI v1)]) (rest := [.int (hpI (-2))]) C yyX9_worth wd_1872 (tX9_worth l D cy s.heap.size _ v1 ⟨by omega, by omega⟩ (fun i => ((fun i => hp0_z (by decide) (by decide) (by decide) (by decide) (by decide)) i))) kd_195 rfl rfl ⟨rfl, rfl, Nat.le_of_ble_eq_true rfl, Nat.le_of_ble_eq_true rfl⟩ ⟨Nat.le_of_ble_eq_true rfl, Nat.le_of_ble_eq_true rfl⟩ (Nat.le_of_ble_eq_true rfl) dL_1601 (fun r4 τ4 hp4 => ?_)
  obtain ⟨rfl, hF4⟩ := hp4
  show hpV _ _ _ _ _ _ _ _ _ _ _ _ _ _ _ _ _ _ _ _ _ (_ :: _)
  refine h_icmp_eq (tgt := 2354) C dL_1604 (by decide) ⟨by decide, by decide⟩ ⟨by decide, by decide⟩ (fun h5 => ?_) (fun h5 => ?_)
  · refine h_iinc (lv' := [(3, .int (hpI 6)), (2, .ref (s.heap.size + 195)), (1, .ref (s.heap.size + 0)), (0, .ref b)]) C dL_2354 0 rfl rfl (by decide) rfl ?_
    refine h_goto (tgt := 18) C dL_2357 (by decide) ?_
    refine h_iload_n C dL_18 0 rfl rfl ?_
    refine h_aload_n C dL_19 3 rfl rfl ?_
    refine h_slen C hX hbl dL_20 ?_
    refine h_bipush C dL_21 (by decide) ?_
    refine h_isub (r := 0) C dL_23 (by decide) ?_
    refine h_icmp_gt (tgt := 2360) C dL_24 (by decide) ⟨by decide, by decide⟩ ⟨by decide, by decide⟩ (fun h7 => ?_) (fun h7 => ?_)
    · refine h_iconst C dL_2360 ?_
      exact h_lawret C hr hk dL_2361
    · exfalso; omega
  · exfalso; omega
set_option maxHeartbeats 4000000 in
set_option maxRecDepth 20000 in
theorem law_51 {p : Program} {e : Env} {s : State} {m : MethodId} {below : List Frame} {meth : Method} {c : Code} (l : Launch) {b : Nat} {xs : Nat → Int32} {D : va_G} {cy : Nat → ClassId} (C : hpC p s m #[.ref b] c code 4 RL D cy) (hr : meth.sig.returnType = ret) (hk : meth.locks = false) (hX : va_X b 6 xs s s.heap) (hbl : b < s.heap.size) : hpV p l e room_1 s m #[.ref b] below meth c 217 24316 4 D cy s.heap.size s.heap (lw_Z below #[Value.ref b] s) hp0 1609 [(3, .int (hpI 0)), (2, .ref (s.heap.size + 195)), (1, .ref (s.heap.size + 0)), (0, .ref b)] [] := by
  refine h_aload_n C dL_1609 2 rfl rfl ?_
  refine h_aload_n C dL_1610 3 rfl rfl ?_
  refine h_iload_n C dL_1611 0 rfl rfl ?_
  refine h_iconst C dL_1612 ?_
  refine h_iadd (r := 1) C dL_1613 (by decide) ?_
  refine h_sld C hX hbl 1 rfl (by decide) dL_1614 ?_
  obtain ⟨hq1a, hq1b⟩ := hpR_of (xs 1)
  generalize ev1 : (xs 1).toInt = v1 at hq1a hq1b ⊢
  refine h_aload_n C dL_1615 3 rfl rfl ?_
  refine h_iload_n C dL_1616 0 rfl rfl ?_
  refine h_iconst C dL_1617 ?_
  refine h_iadd (r := 2) C dL_1618 (by decide) ?_
  refine h_sld C hX hbl 2 rfl (by decide) dL_1619 ?_
  obtain ⟨hq2a, hq2b⟩ := hpR_of (xs 2)
  generalize ev2 : (xs 2).toInt = v2 at hq2a hq2b ⊢
  refine h_callV (As := [.int (hpI v1), .int (hpI v2)]) (rest := []) C yyX8_share wd_1062 (tX8_share l D cy s.heap.size _ v1 ⟨by omega, by omega⟩ v2 ⟨by omega, by omega⟩ rfl) kd_0 rfl rfl ⟨rfl, rfl, Nat.le_of_ble_eq_true rfl, Nat.le_of_ble_eq_true rfl⟩ ⟨Nat.le_of_ble_eq_true rfl, Nat.le_of_ble_eq_true rfl⟩ (Nat.le_of_ble_eq_true rfl) dL_1620 (fun r3 τ3 hp3 => ?_)
  obtain ⟨rfl, rfl⟩ := hp3
  show hpV _ _ _ _ _ _ _ _ _ _ _ _ _ _ _ _ _ _ _ _ _ (_ :: _)
  refine h_aload_n C dL_1623 1 rfl rfl ?_
  refine h_aload_n C dL_1624 3 rfl rfl ?_
  refine h_iload_n C dL_1625 0 rfl rfl ?_
  refine h_iconst C dL_1626 ?_
  refine h_iadd (r := 1) C dL_1627 (by decide) ?_
  refine h_sld C hX hbl 1 rfl (by decide) dL_1628 ?_
  rw [ev1]
  refine h_aload_n C dL_1629 3 rfl rfl ?_
  refine h_iload_n C dL_1630 0 rfl rfl ?_
  refine h_iconst C dL_1631 ?_
  refine h_iadd (r := 2) C dL_1632 (by decide) ?_
  refine h_sld C hX hbl 2 rfl (by decide) dL_1633 ?_
  rw [ev2]
  refine h_callV (As := [.int (hpI v1), .int (hpI v2)]) (rest := [.int (hpI (-1000))]) C yyX9_share wd_1880 (tX9_share l D cy s.heap.size _ v1 ⟨by omega, by omega⟩ v2 ⟨by omega, by omega⟩ (fun i => ((fun i => hp0_z (by decide) (by decide) (by decide) (by decide) (by decide)) i))) kd_195 rfl rfl ⟨rfl, rfl, Nat.le_of_ble_eq_true rfl, Nat.le_of_ble_eq_true rfl⟩ ⟨Nat.le_of_ble_eq_true rfl, Nat.le_of_ble_eq_true rfl⟩ (Nat.le_of_ble_eq_true rfl) dL_1634 (fun r6 τ6 hp6 => ?_)
  obtain ⟨rfl, hF6⟩ := hp6
  show hpV _ _ _ _ _ _ _ _ _ _ _ _ _ _ _ _ _ _ _ _ _ (_ :: _)
  refine h_icmp_eq (tgt := 2354) C dL_1637 (by decide) ⟨by decide, by decide⟩ ⟨by decide, by decide⟩ (fun h7 => ?_) (fun h7 => ?_)
  · refine h_iinc (lv' := [(3, .int (hpI 6)), (2, .ref (s.heap.size + 195)), (1, .ref (s.heap.size + 0)), (0, .ref b)]) C dL_2354 0 rfl rfl (by decide) rfl ?_
    refine h_goto (tgt := 18) C dL_2357 (by decide) ?_
    refine h_iload_n C dL_18 0 rfl rfl ?_
    refine h_aload_n C dL_19 3 rfl rfl ?_
    refine h_slen C hX hbl dL_20 ?_
    refine h_bipush C dL_21 (by decide) ?_
    refine h_isub (r := 0) C dL_23 (by decide) ?_
    refine h_icmp_gt (tgt := 2360) C dL_24 (by decide) ⟨by decide, by decide⟩ ⟨by decide, by decide⟩ (fun h9 => ?_) (fun h9 => ?_)
    · refine h_iconst C dL_2360 ?_
      exact h_lawret C hr hk dL_2361
    · exfalso; omega
  · exfalso; omega
set_option maxHeartbeats 4000000 in
set_option maxRecDepth 20000 in
theorem law_52 {p : Program} {e : Env} {s : State} {m : MethodId} {below : List Frame} {meth : Method} {c : Code} (l : Launch) {b : Nat} {xs : Nat → Int32} {D : va_G} {cy : Nat → ClassId} (C : hpC p s m #[.ref b] c code 4 RL D cy) (hr : meth.sig.returnType = ret) (hk : meth.locks = false) (hX : va_X b 6 xs s s.heap) (hbl : b < s.heap.size) : hpV p l e room_1 s m #[.ref b] below meth c 217 24316 4 D cy s.heap.size s.heap (lw_Z below #[Value.ref b] s) hp0 1642 [(3, .int (hpI 0)), (2, .ref (s.heap.size + 195)), (1, .ref (s.heap.size + 0)), (0, .ref b)] [] := by
  refine h_aload_n C dL_1642 2 rfl rfl ?_
  refine h_aload_n C dL_1643 3 rfl rfl ?_
  refine h_iload_n C dL_1644 0 rfl rfl ?_
  refine h_iconst C dL_1645 ?_
  refine h_iadd (r := 1) C dL_1646 (by decide) ?_
  refine h_sld C hX hbl 1 rfl (by decide) dL_1647 ?_
  obtain ⟨hq1a, hq1b⟩ := hpR_of (xs 1)
  generalize ev1 : (xs 1).toInt = v1 at hq1a hq1b ⊢
  refine h_aload_n C dL_1648 3 rfl rfl ?_
  refine h_iload_n C dL_1649 0 rfl rfl ?_
  refine h_iconst C dL_1650 ?_
  refine h_iadd (r := 2) C dL_1651 (by decide) ?_
  refine h_sld C hX hbl 2 rfl (by decide) dL_1652 ?_
  obtain ⟨hq2a, hq2b⟩ := hpR_of (xs 2)
  generalize ev2 : (xs 2).toInt = v2 at hq2a hq2b ⊢
  refine h_callV (As := [.int (hpI v1), .int (hpI v2)]) (rest := []) C yyX8_wins wd_1092 (tX8_wins l D cy s.heap.size _ v1 ⟨by omega, by omega⟩ v2 ⟨by omega, by omega⟩ rfl) kd_0 rfl rfl ⟨rfl, rfl, Nat.le_of_ble_eq_true rfl, Nat.le_of_ble_eq_true rfl⟩ ⟨Nat.le_of_ble_eq_true rfl, Nat.le_of_ble_eq_true rfl⟩ (Nat.le_of_ble_eq_true rfl) dL_1653 (fun r3 τ3 hp3 => ?_)
  obtain ⟨rfl, rfl⟩ := hp3
  show hpV _ _ _ _ _ _ _ _ _ _ _ _ _ _ _ _ _ _ _ _ _ (_ :: _)
  refine h_aload_n C dL_1656 1 rfl rfl ?_
  refine h_aload_n C dL_1657 3 rfl rfl ?_
  refine h_iload_n C dL_1658 0 rfl rfl ?_
  refine h_iconst C dL_1659 ?_
  refine h_iadd (r := 1) C dL_1660 (by decide) ?_
  refine h_sld C hX hbl 1 rfl (by decide) dL_1661 ?_
  rw [ev1]
  refine h_aload_n C dL_1662 3 rfl rfl ?_
  refine h_iload_n C dL_1663 0 rfl rfl ?_
  refine h_iconst C dL_1664 ?_
  refine h_iadd (r := 2) C dL_1665 (by decide) ?_
  refine h_sld C hX hbl 2 rfl (by decide) dL_1666 ?_
  rw [ev2]
  refine h_callV (As := [.int (hpI v1), .int (hpI v2)]) (rest := [.int (hpI (-2))]) C yyX9_wins wd_1897 (tX9_wins l D cy s.heap.size _ v1 ⟨by omega, by omega⟩ v2 ⟨by omega, by omega⟩ (fun i => ((fun i => hp0_z (by decide) (by decide) (by decide) (by decide) (by decide)) i))) kd_195 rfl rfl ⟨rfl, rfl, Nat.le_of_ble_eq_true rfl, Nat.le_of_ble_eq_true rfl⟩ ⟨Nat.le_of_ble_eq_true rfl, Nat.le_of_ble_eq_true rfl⟩ (Nat.le_of_ble_eq_true rfl) dL_1667 (fun r6 τ6 hp6 => ?_)
  obtain ⟨rfl, hF6⟩ := hp6
  show hpV _ _ _ _ _ _ _ _ _ _ _ _ _ _ _ _ _ _ _ _ _ (_ :: _)
  refine h_icmp_eq (tgt := 2354) C dL_1670 (by decide) ⟨by decide, by decide⟩ ⟨by decide, by decide⟩ (fun h7 => ?_) (fun h7 => ?_)
  · refine h_iinc (lv' := [(3, .int (hpI 6)), (2, .ref (s.heap.size + 195)), (1, .ref (s.heap.size + 0)), (0, .ref b)]) C dL_2354 0 rfl rfl (by decide) rfl ?_
    refine h_goto (tgt := 18) C dL_2357 (by decide) ?_
    refine h_iload_n C dL_18 0 rfl rfl ?_
    refine h_aload_n C dL_19 3 rfl rfl ?_
    refine h_slen C hX hbl dL_20 ?_
    refine h_bipush C dL_21 (by decide) ?_
    refine h_isub (r := 0) C dL_23 (by decide) ?_
    refine h_icmp_gt (tgt := 2360) C dL_24 (by decide) ⟨by decide, by decide⟩ ⟨by decide, by decide⟩ (fun h9 => ?_) (fun h9 => ?_)
    · refine h_iconst C dL_2360 ?_
      exact h_lawret C hr hk dL_2361
    · exfalso; omega
  · exfalso; omega
set_option maxHeartbeats 4000000 in
set_option maxRecDepth 20000 in
theorem law_53 {p : Program} {e : Env} {s : State} {m : MethodId} {below : List Frame} {meth : Method} {c : Code} (l : Launch) {b : Nat} {xs : Nat → Int32} {D : va_G} {cy : Nat → ClassId} (C : hpC p s m #[.ref b] c code 4 RL D cy) (hr : meth.sig.returnType = ret) (hk : meth.locks = false) (hX : va_X b 6 xs s s.heap) (hbl : b < s.heap.size) : hpV p l e room_1 s m #[.ref b] below meth c 217 24316 4 D cy s.heap.size s.heap (lw_Z below #[Value.ref b] s) hp0 1675 [(3, .int (hpI 0)), (2, .ref (s.heap.size + 195)), (1, .ref (s.heap.size + 0)), (0, .ref b)] [] := by
  refine h_aload_n C dL_1675 2 rfl rfl ?_
  refine h_aload_n C dL_1676 3 rfl rfl ?_
  refine h_iload_n C dL_1677 0 rfl rfl ?_
  refine h_iconst C dL_1678 ?_
  refine h_iadd (r := 1) C dL_1679 (by decide) ?_
  refine h_sld C hX hbl 1 rfl (by decide) dL_1680 ?_
  obtain ⟨hq1a, hq1b⟩ := hpR_of (xs 1)
  generalize ev1 : (xs 1).toInt = v1 at hq1a hq1b ⊢
  refine h_aload_n C dL_1681 3 rfl rfl ?_
  refine h_iload_n C dL_1682 0 rfl rfl ?_
  refine h_iconst C dL_1683 ?_
  refine h_iadd (r := 2) C dL_1684 (by decide) ?_
  refine h_sld C hX hbl 2 rfl (by decide) dL_1685 ?_
  obtain ⟨hq2a, hq2b⟩ := hpR_of (xs 2)
  generalize ev2 : (xs 2).toInt = v2 at hq2a hq2b ⊢
  refine h_callV (As := [.int (hpI v1), .int (hpI v2)]) (rest := []) C yyX8_moves wd_1100 (tX8_moves l D cy s.heap.size _ v1 ⟨by omega, by omega⟩ v2 ⟨by omega, by omega⟩ rfl) kd_0 rfl rfl ⟨rfl, rfl, Nat.le_of_ble_eq_true rfl, Nat.le_of_ble_eq_true rfl⟩ ⟨Nat.le_of_ble_eq_true rfl, Nat.le_of_ble_eq_true rfl⟩ (Nat.le_of_ble_eq_true rfl) dL_1686 (fun r3 τ3 hp3 => ?_)
  obtain ⟨rfl, rfl⟩ := hp3
  show hpV _ _ _ _ _ _ _ _ _ _ _ _ _ _ _ _ _ _ _ _ _ (_ :: _)
  refine h_aload_n C dL_1689 1 rfl rfl ?_
  refine h_aload_n C dL_1690 3 rfl rfl ?_
  refine h_iload_n C dL_1691 0 rfl rfl ?_
  refine h_iconst C dL_1692 ?_
  refine h_iadd (r := 1) C dL_1693 (by decide) ?_
  refine h_sld C hX hbl 1 rfl (by decide) dL_1694 ?_
  rw [ev1]
  refine h_aload_n C dL_1695 3 rfl rfl ?_
  refine h_iload_n C dL_1696 0 rfl rfl ?_
  refine h_iconst C dL_1697 ?_
  refine h_iadd (r := 2) C dL_1698 (by decide) ?_
  refine h_sld C hX hbl 2 rfl (by decide) dL_1699 ?_
  rw [ev2]
  refine h_callV (As := [.int (hpI v1), .int (hpI v2)]) (rest := [.int (hpI (-2))]) C yyX9_moves wd_1909 (tX9_moves l D cy s.heap.size _ v1 ⟨by omega, by omega⟩ v2 ⟨by omega, by omega⟩ (fun i => ((fun i => hp0_z (by decide) (by decide) (by decide) (by decide) (by decide)) i))) kd_195 rfl rfl ⟨rfl, rfl, Nat.le_of_ble_eq_true rfl, Nat.le_of_ble_eq_true rfl⟩ ⟨Nat.le_of_ble_eq_true rfl, Nat.le_of_ble_eq_true rfl⟩ (Nat.le_of_ble_eq_true rfl) dL_1700 (fun r6 τ6 hp6 => ?_)
  obtain ⟨rfl, hF6⟩ := hp6
  show hpV _ _ _ _ _ _ _ _ _ _ _ _ _ _ _ _ _ _ _ _ _ (_ :: _)
  refine h_icmp_eq (tgt := 2354) C dL_1703 (by decide) ⟨by decide, by decide⟩ ⟨by decide, by decide⟩ (fun h7 => ?_) (fun h7 => ?_)
  · refine h_iinc (lv' := [(3, .int (hpI 6)), (2, .ref (s.heap.size + 195)), (1, .ref (s.heap.size + 0)), (0, .ref b)]) C dL_2354 0 rfl rfl (by decide) rfl ?_
    refine h_goto (tgt := 18) C dL_2357 (by decide) ?_
    refine h_iload_n C dL_18 0 rfl rfl ?_
    refine h_aload_n C dL_19 3 rfl rfl ?_
    refine h_slen C hX hbl dL_20 ?_
    refine h_bipush C dL_21 (by decide) ?_
    refine h_isub (r := 0) C dL_23 (by decide) ?_
    refine h_icmp_gt (tgt := 2360) C dL_24 (by decide) ⟨by decide, by decide⟩ ⟨by decide, by decide⟩ (fun h9 => ?_) (fun h9 => ?_)
    · refine h_iconst C dL_2360 ?_
      exact h_lawret C hr hk dL_2361
    · exfalso; omega
  · exfalso; omega
set_option maxHeartbeats 4000000 in
set_option maxRecDepth 20000 in
theorem law_54 {p : Program} {e : Env} {s : State} {m : MethodId} {below : List Frame} {meth : Method} {c : Code} (l : Launch) {b : Nat} {xs : Nat → Int32} {D : va_G} {cy : Nat → ClassId} (C : hpC p s m #[.ref b] c code 4 RL D cy) (hr : meth.sig.returnType = ret) (hk : meth.locks = false) (hX : va_X b 6 xs s s.heap) (hbl : b < s.heap.size) : hpV p l e room_1 s m #[.ref b] below meth c 217 24316 4 D cy s.heap.size s.heap (lw_Z below #[Value.ref b] s) hp0 1708 [(3, .int (hpI 0)), (2, .ref (s.heap.size + 195)), (1, .ref (s.heap.size + 0)), (0, .ref b)] [] := by
  refine h_aload_n C dL_1708 2 rfl rfl ?_
  refine h_aload_n C dL_1709 3 rfl rfl ?_
  refine h_iload_n C dL_1710 0 rfl rfl ?_
  refine h_iconst C dL_1711 ?_
  refine h_iadd (r := 1) C dL_1712 (by decide) ?_
  refine h_sld C hX hbl 1 rfl (by decide) dL_1713 ?_
  obtain ⟨hq1a, hq1b⟩ := hpR_of (xs 1)
  generalize ev1 : (xs 1).toInt = v1 at hq1a hq1b ⊢
  refine h_aload_n C dL_1714 3 rfl rfl ?_
  refine h_iload_n C dL_1715 0 rfl rfl ?_
  refine h_iconst C dL_1716 ?_
  refine h_iadd (r := 2) C dL_1717 (by decide) ?_
  refine h_sld C hX hbl 2 rfl (by decide) dL_1718 ?_
  obtain ⟨hq2a, hq2b⟩ := hpR_of (xs 2)
  generalize ev2 : (xs 2).toInt = v2 at hq2a hq2b ⊢
  refine h_callV (As := [.int (hpI v1), .int (hpI v2)]) (rest := []) C yyX8_move wd_1109 (tX8_move l D cy s.heap.size _ v1 ⟨by omega, by omega⟩ v2 ⟨by omega, by omega⟩ rfl) kd_0 rfl rfl ⟨rfl, rfl, Nat.le_of_ble_eq_true rfl, Nat.le_of_ble_eq_true rfl⟩ ⟨Nat.le_of_ble_eq_true rfl, Nat.le_of_ble_eq_true rfl⟩ (Nat.le_of_ble_eq_true rfl) dL_1719 (fun r3 τ3 hp3 => ?_)
  obtain ⟨rfl, rfl⟩ := hp3
  show hpV _ _ _ _ _ _ _ _ _ _ _ _ _ _ _ _ _ _ _ _ _ (_ :: _)
  refine h_aload_n C dL_1722 1 rfl rfl ?_
  refine h_aload_n C dL_1723 3 rfl rfl ?_
  refine h_iload_n C dL_1724 0 rfl rfl ?_
  refine h_iconst C dL_1725 ?_
  refine h_iadd (r := 1) C dL_1726 (by decide) ?_
  refine h_sld C hX hbl 1 rfl (by decide) dL_1727 ?_
  rw [ev1]
  refine h_aload_n C dL_1728 3 rfl rfl ?_
  refine h_iload_n C dL_1729 0 rfl rfl ?_
  refine h_iconst C dL_1730 ?_
  refine h_iadd (r := 2) C dL_1731 (by decide) ?_
  refine h_sld C hX hbl 2 rfl (by decide) dL_1732 ?_
  rw [ev2]
  refine h_callV (As := [.int (hpI v1), .int (hpI v2)]) (rest := [.int (hpI (-2))]) C yyX9_move wd_1921 (tX9_move l D cy s.heap.size _ v1 ⟨by omega, by omega⟩ v2 ⟨by omega, by omega⟩ (fun i => ((fun i => hp0_z (by decide) (by decide) (by decide) (by decide) (by decide)) i))) kd_195 rfl rfl ⟨rfl, rfl, Nat.le_of_ble_eq_true rfl, Nat.le_of_ble_eq_true rfl⟩ ⟨Nat.le_of_ble_eq_true rfl, Nat.le_of_ble_eq_true rfl⟩ (Nat.le_of_ble_eq_true rfl) dL_1733 (fun r6 τ6 hp6 => ?_)
  obtain ⟨rfl, hF6⟩ := hp6
  show hpV _ _ _ _ _ _ _ _ _ _ _ _ _ _ _ _ _ _ _ _ _ (_ :: _)
  refine h_icmp_eq (tgt := 2354) C dL_1736 (by decide) ⟨by decide, by decide⟩ ⟨by decide, by decide⟩ (fun h7 => ?_) (fun h7 => ?_)
  · refine h_iinc (lv' := [(3, .int (hpI 6)), (2, .ref (s.heap.size + 195)), (1, .ref (s.heap.size + 0)), (0, .ref b)]) C dL_2354 0 rfl rfl (by decide) rfl ?_
    refine h_goto (tgt := 18) C dL_2357 (by decide) ?_
    refine h_iload_n C dL_18 0 rfl rfl ?_
    refine h_aload_n C dL_19 3 rfl rfl ?_
    refine h_slen C hX hbl dL_20 ?_
    refine h_bipush C dL_21 (by decide) ?_
    refine h_isub (r := 0) C dL_23 (by decide) ?_
    refine h_icmp_gt (tgt := 2360) C dL_24 (by decide) ⟨by decide, by decide⟩ ⟨by decide, by decide⟩ (fun h9 => ?_) (fun h9 => ?_)
    · refine h_iconst C dL_2360 ?_
      exact h_lawret C hr hk dL_2361
    · exfalso; omega
  · exfalso; omega
set_option maxHeartbeats 4000000 in
set_option maxRecDepth 20000 in
theorem law_55 {p : Program} {e : Env} {s : State} {m : MethodId} {below : List Frame} {meth : Method} {c : Code} (l : Launch) {b : Nat} {xs : Nat → Int32} {D : va_G} {cy : Nat → ClassId} (C : hpC p s m #[.ref b] c code 4 RL D cy) (hr : meth.sig.returnType = ret) (hk : meth.locks = false) (hX : va_X b 6 xs s s.heap) (hbl : b < s.heap.size) : hpV p l e room_1 s m #[.ref b] below meth c 217 24316 4 D cy s.heap.size s.heap (lw_Z below #[Value.ref b] s) hp0 1741 [(3, .int (hpI 0)), (2, .ref (s.heap.size + 195)), (1, .ref (s.heap.size + 0)), (0, .ref b)] [] := by
  refine h_aload_n C dL_1741 2 rfl rfl ?_
  refine h_aload_n C dL_1742 3 rfl rfl ?_
  refine h_iload_n C dL_1743 0 rfl rfl ?_
  refine h_iconst C dL_1744 ?_
  refine h_iadd (r := 1) C dL_1745 (by decide) ?_
  refine h_sld C hX hbl 1 rfl (by decide) dL_1746 ?_
  obtain ⟨hq1a, hq1b⟩ := hpR_of (xs 1)
  generalize ev1 : (xs 1).toInt = v1 at hq1a hq1b ⊢
  refine h_aload_n C dL_1747 3 rfl rfl ?_
  refine h_iload_n C dL_1748 0 rfl rfl ?_
  refine h_iconst C dL_1749 ?_
  refine h_iadd (r := 2) C dL_1750 (by decide) ?_
  refine h_sld C hX hbl 2 rfl (by decide) dL_1751 ?_
  obtain ⟨hq2a, hq2b⟩ := hpR_of (xs 2)
  generalize ev2 : (xs 2).toInt = v2 at hq2a hq2b ⊢
  refine h_callV (As := [.int (hpI v1), .int (hpI v2)]) (rest := []) C yyX8_rests wd_1113 (tX8_rests l D cy s.heap.size _ v1 ⟨by omega, by omega⟩ v2 ⟨by omega, by omega⟩ rfl) kd_0 rfl rfl ⟨rfl, rfl, Nat.le_of_ble_eq_true rfl, Nat.le_of_ble_eq_true rfl⟩ ⟨Nat.le_of_ble_eq_true rfl, Nat.le_of_ble_eq_true rfl⟩ (Nat.le_of_ble_eq_true rfl) dL_1752 (fun r3 τ3 hp3 => ?_)
  obtain ⟨rfl, rfl⟩ := hp3
  show hpV _ _ _ _ _ _ _ _ _ _ _ _ _ _ _ _ _ _ _ _ _ (_ :: _)
  refine h_aload_n C dL_1755 1 rfl rfl ?_
  refine h_aload_n C dL_1756 3 rfl rfl ?_
  refine h_iload_n C dL_1757 0 rfl rfl ?_
  refine h_iconst C dL_1758 ?_
  refine h_iadd (r := 1) C dL_1759 (by decide) ?_
  refine h_sld C hX hbl 1 rfl (by decide) dL_1760 ?_
  rw [ev1]
  refine h_aload_n C dL_1761 3 rfl rfl ?_
  refine h_iload_n C dL_1762 0 rfl rfl ?_
  refine h_iconst C dL_1763 ?_
  refine h_iadd (r := 2) C dL_1764 (by decide) ?_
  refine h_sld C hX hbl 2 rfl (by decide) dL_1765 ?_
  rw [ev2]
  refine h_callV (As := [.int (hpI v1), .int (hpI v2)]) (rest := [.int (hpI (-2))]) C yyX9_rests wd_1925 (tX9_rests l D cy s.heap.size _ v1 ⟨by omega, by omega⟩ v2 ⟨by omega, by omega⟩ (fun i => ((fun i => hp0_z (by decide) (by decide) (by decide) (by decide) (by decide)) i))) kd_195 rfl rfl ⟨rfl, rfl, Nat.le_of_ble_eq_true rfl, Nat.le_of_ble_eq_true rfl⟩ ⟨Nat.le_of_ble_eq_true rfl, Nat.le_of_ble_eq_true rfl⟩ (Nat.le_of_ble_eq_true rfl) dL_1766 (fun r6 τ6 hp6 => ?_)
  obtain ⟨rfl, rfl⟩ := hp6
  show hpV _ _ _ _ _ _ _ _ _ _ _ _ _ _ _ _ _ _ _ _ _ (_ :: _)
  refine h_icmp_eq (tgt := 2354) C dL_1769 (by decide) ⟨by decide, by decide⟩ ⟨by decide, by decide⟩ (fun h7 => ?_) (fun h7 => ?_)
  · refine h_iinc (lv' := [(3, .int (hpI 6)), (2, .ref (s.heap.size + 195)), (1, .ref (s.heap.size + 0)), (0, .ref b)]) C dL_2354 0 rfl rfl (by decide) rfl ?_
    refine h_goto (tgt := 18) C dL_2357 (by decide) ?_
    refine h_iload_n C dL_18 0 rfl rfl ?_
    refine h_aload_n C dL_19 3 rfl rfl ?_
    refine h_slen C hX hbl dL_20 ?_
    refine h_bipush C dL_21 (by decide) ?_
    refine h_isub (r := 0) C dL_23 (by decide) ?_
    refine h_icmp_gt (tgt := 2360) C dL_24 (by decide) ⟨by decide, by decide⟩ ⟨by decide, by decide⟩ (fun h9 => ?_) (fun h9 => ?_)
    · refine h_iconst C dL_2360 ?_
      exact h_lawret C hr hk dL_2361
    · exfalso; omega
  · exfalso; omega
set_option maxHeartbeats 4000000 in
set_option maxRecDepth 20000 in
theorem law_56 {p : Program} {e : Env} {s : State} {m : MethodId} {below : List Frame} {meth : Method} {c : Code} (l : Launch) {b : Nat} {xs : Nat → Int32} {D : va_G} {cy : Nat → ClassId} (C : hpC p s m #[.ref b] c code 4 RL D cy) (hr : meth.sig.returnType = ret) (hk : meth.locks = false) (hX : va_X b 6 xs s s.heap) (hbl : b < s.heap.size) : hpV p l e room_1 s m #[.ref b] below meth c 217 24316 4 D cy s.heap.size s.heap (lw_Z below #[Value.ref b] s) hp0 1774 [(3, .int (hpI 0)), (2, .ref (s.heap.size + 195)), (1, .ref (s.heap.size + 0)), (0, .ref b)] [] := by
  refine h_aload_n C dL_1774 2 rfl rfl ?_
  refine h_aload_n C dL_1775 3 rfl rfl ?_
  refine h_iload_n C dL_1776 0 rfl rfl ?_
  refine h_iconst C dL_1777 ?_
  refine h_iadd (r := 1) C dL_1778 (by decide) ?_
  refine h_sld C hX hbl 1 rfl (by decide) dL_1779 ?_
  obtain ⟨hq1a, hq1b⟩ := hpR_of (xs 1)
  generalize ev1 : (xs 1).toInt = v1 at hq1a hq1b ⊢
  refine h_aload_n C dL_1780 3 rfl rfl ?_
  refine h_iload_n C dL_1781 0 rfl rfl ?_
  refine h_iconst C dL_1782 ?_
  refine h_iadd (r := 2) C dL_1783 (by decide) ?_
  refine h_sld C hX hbl 2 rfl (by decide) dL_1784 ?_
  obtain ⟨hq2a, hq2b⟩ := hpR_of (xs 2)
  generalize ev2 : (xs 2).toInt = v2 at hq2a hq2b ⊢
  refine h_aload_n C dL_1785 3 rfl rfl ?_
  refine h_iload_n C dL_1786 0 rfl rfl ?_
  refine h_iconst C dL_1787 ?_
  refine h_iadd (r := 3) C dL_1788 (by decide) ?_
  refine h_sld C hX hbl 3 rfl (by decide) dL_1789 ?_
  obtain ⟨hq3a, hq3b⟩ := hpR_of (xs 3)
  generalize ev3 : (xs 3).toInt = v3 at hq3a hq3b ⊢
  refine h_aload_n C dL_1790 3 rfl rfl ?_
  refine h_iload_n C dL_1791 0 rfl rfl ?_
  refine h_iconst C dL_1792 ?_
  refine h_iadd (r := 4) C dL_1793 (by decide) ?_
  refine h_sld C hX hbl 4 rfl (by decide) dL_1794 ?_
  obtain ⟨hq4a, hq4b⟩ := hpR_of (xs 4)
  generalize ev4 : (xs 4).toInt = v4 at hq4a hq4b ⊢
  refine h_aload_n C dL_1795 3 rfl rfl ?_
  refine h_iload_n C dL_1796 0 rfl rfl ?_
  refine h_iconst C dL_1797 ?_
  refine h_iadd (r := 5) C dL_1798 (by decide) ?_
  refine h_sld C hX hbl 5 rfl (by decide) dL_1799 ?_
  obtain ⟨hq5a, hq5b⟩ := hpR_of (xs 5)
  generalize ev5 : (xs 5).toInt = v5 at hq5a hq5b ⊢
  refine h_callV (As := [.int (hpI v1), .int (hpI v2), .int (hpI v3), .int (hpI v4), .int (hpI v5)]) (rest := []) C yyX8_gets wd_1127 (tX8_gets l D cy s.heap.size _ v1 ⟨by omega, by omega⟩ v2 ⟨by omega, by omega⟩ v3 ⟨by omega, by omega⟩ v4 ⟨by omega, by omega⟩ v5 ⟨by omega, by omega⟩ rfl) kd_0 rfl rfl ⟨rfl, rfl, Nat.le_of_ble_eq_true rfl, Nat.le_of_ble_eq_true rfl⟩ ⟨Nat.le_of_ble_eq_true rfl, Nat.le_of_ble_eq_true rfl⟩ (Nat.le_of_ble_eq_true rfl) dL_1800 (fun r6 τ6 hp6 => ?_)
  obtain ⟨rfl, rfl⟩ := hp6
  show hpV _ _ _ _ _ _ _ _ _ _ _ _ _ _ _ _ _ _ _ _ _ (_ :: _)
  refine h_aload_n C dL_1803 1 rfl rfl ?_
  refine h_aload_n C dL_1804 3 rfl rfl ?_
  refine h_iload_n C dL_1805 0 rfl rfl ?_
  refine h_iconst C dL_1806 ?_
  refine h_iadd (r := 1) C dL_1807 (by decide) ?_
  refine h_sld C hX hbl 1 rfl (by decide) dL_1808 ?_
  rw [ev1]
  refine h_aload_n C dL_1809 3 rfl rfl ?_
  refine h_iload_n C dL_1810 0 rfl rfl ?_
  refine h_iconst C dL_1811 ?_
  refine h_iadd (r := 2) C dL_1812 (by decide) ?_
  refine h_sld C hX hbl 2 rfl (by decide) dL_1813 ?_
  rw [ev2]
  refine h_aload_n C dL_1814 3 rfl rfl ?_
  refine h_iload_n C dL_1815 0 rfl rfl ?_
  refine h_iconst C dL_1816 ?_
  refine h_iadd (r := 3) C dL_1817 (by decide) ?_
  refine h_sld C hX hbl 3 rfl (by decide) dL_1818 ?_
  rw [ev3]
  refine h_aload_n C dL_1819 3 rfl rfl ?_
  refine h_iload_n C dL_1820 0 rfl rfl ?_
  refine h_iconst C dL_1821 ?_
  refine h_iadd (r := 4) C dL_1822 (by decide) ?_
  refine h_sld C hX hbl 4 rfl (by decide) dL_1823 ?_
  rw [ev4]
  refine h_aload_n C dL_1824 3 rfl rfl ?_
  refine h_iload_n C dL_1825 0 rfl rfl ?_
  refine h_iconst C dL_1826 ?_
  refine h_iadd (r := 5) C dL_1827 (by decide) ?_
  refine h_sld C hX hbl 5 rfl (by decide) dL_1828 ?_
  rw [ev5]
  refine h_callV (As := [.int (hpI v1), .int (hpI v2), .int (hpI v3), .int (hpI v4), .int (hpI v5)]) (rest := [.int (hpI (-1000))]) C yyX9_gets wd_1937 (tX9_gets l D cy s.heap.size _ v1 ⟨by omega, by omega⟩ v2 ⟨by omega, by omega⟩ v3 ⟨by omega, by omega⟩ v4 ⟨by omega, by omega⟩ v5 ⟨by omega, by omega⟩ (fun i => ((fun i => hp0_z (by decide) (by decide) (by decide) (by decide) (by decide)) i))) kd_195 rfl rfl ⟨rfl, rfl, Nat.le_of_ble_eq_true rfl, Nat.le_of_ble_eq_true rfl⟩ ⟨Nat.le_of_ble_eq_true rfl, Nat.le_of_ble_eq_true rfl⟩ (Nat.le_of_ble_eq_true rfl) dL_1829 (fun r12 τ12 hp12 => ?_)
  obtain ⟨rfl, rfl⟩ := hp12
  show hpV _ _ _ _ _ _ _ _ _ _ _ _ _ _ _ _ _ _ _ _ _ (_ :: _)
  refine h_icmp_eq (tgt := 2354) C dL_1832 (by decide) ⟨by decide, by decide⟩ ⟨by decide, by decide⟩ (fun h13 => ?_) (fun h13 => ?_)
  · refine h_iinc (lv' := [(3, .int (hpI 6)), (2, .ref (s.heap.size + 195)), (1, .ref (s.heap.size + 0)), (0, .ref b)]) C dL_2354 0 rfl rfl (by decide) rfl ?_
    refine h_goto (tgt := 18) C dL_2357 (by decide) ?_
    refine h_iload_n C dL_18 0 rfl rfl ?_
    refine h_aload_n C dL_19 3 rfl rfl ?_
    refine h_slen C hX hbl dL_20 ?_
    refine h_bipush C dL_21 (by decide) ?_
    refine h_isub (r := 0) C dL_23 (by decide) ?_
    refine h_icmp_gt (tgt := 2360) C dL_24 (by decide) ⟨by decide, by decide⟩ ⟨by decide, by decide⟩ (fun h15 => ?_) (fun h15 => ?_)
    · refine h_iconst C dL_2360 ?_
      exact h_lawret C hr hk dL_2361
    · exfalso; omega
  · exfalso; omega
set_option maxHeartbeats 4000000 in
set_option maxRecDepth 20000 in
theorem law_57 {p : Program} {e : Env} {s : State} {m : MethodId} {below : List Frame} {meth : Method} {c : Code} (l : Launch) {b : Nat} {xs : Nat → Int32} {D : va_G} {cy : Nat → ClassId} (C : hpC p s m #[.ref b] c code 4 RL D cy) (hr : meth.sig.returnType = ret) (hk : meth.locks = false) (hX : va_X b 6 xs s s.heap) (hbl : b < s.heap.size) : hpV p l e room_1 s m #[.ref b] below meth c 217 24316 4 D cy s.heap.size s.heap (lw_Z below #[Value.ref b] s) hp0 1837 [(3, .int (hpI 0)), (2, .ref (s.heap.size + 195)), (1, .ref (s.heap.size + 0)), (0, .ref b)] [] := by
  refine h_aload_n C dL_1837 2 rfl rfl ?_
  refine h_aload_n C dL_1838 3 rfl rfl ?_
  refine h_iload_n C dL_1839 0 rfl rfl ?_
  refine h_iconst C dL_1840 ?_
  refine h_iadd (r := 1) C dL_1841 (by decide) ?_
  refine h_sld C hX hbl 1 rfl (by decide) dL_1842 ?_
  obtain ⟨hq1a, hq1b⟩ := hpR_of (xs 1)
  generalize ev1 : (xs 1).toInt = v1 at hq1a hq1b ⊢
  refine h_aload_n C dL_1843 3 rfl rfl ?_
  refine h_iload_n C dL_1844 0 rfl rfl ?_
  refine h_iconst C dL_1845 ?_
  refine h_iadd (r := 2) C dL_1846 (by decide) ?_
  refine h_sld C hX hbl 2 rfl (by decide) dL_1847 ?_
  obtain ⟨hq2a, hq2b⟩ := hpR_of (xs 2)
  generalize ev2 : (xs 2).toInt = v2 at hq2a hq2b ⊢
  refine h_aload_n C dL_1848 3 rfl rfl ?_
  refine h_iload_n C dL_1849 0 rfl rfl ?_
  refine h_iconst C dL_1850 ?_
  refine h_iadd (r := 3) C dL_1851 (by decide) ?_
  refine h_sld C hX hbl 3 rfl (by decide) dL_1852 ?_
  obtain ⟨hq3a, hq3b⟩ := hpR_of (xs 3)
  generalize ev3 : (xs 3).toInt = v3 at hq3a hq3b ⊢
  refine h_callV (As := [.int (hpI v1), .int (hpI v2), .int (hpI v3)]) (rest := []) C yyX8_chance wd_1131 (tX8_chance l D cy s.heap.size _ v1 ⟨by omega, by omega⟩ v2 ⟨by omega, by omega⟩ v3 ⟨by omega, by omega⟩ rfl) kd_0 rfl rfl ⟨rfl, rfl, Nat.le_of_ble_eq_true rfl, Nat.le_of_ble_eq_true rfl⟩ ⟨Nat.le_of_ble_eq_true rfl, Nat.le_of_ble_eq_true rfl⟩ (Nat.le_of_ble_eq_true rfl) dL_1853 (fun r4 τ4 hp4 => ?_)
  obtain ⟨rfl, rfl⟩ := hp4
  show hpV _ _ _ _ _ _ _ _ _ _ _ _ _ _ _ _ _ _ _ _ _ (_ :: _)
  refine h_aload_n C dL_1856 1 rfl rfl ?_
  refine h_aload_n C dL_1857 3 rfl rfl ?_
  refine h_iload_n C dL_1858 0 rfl rfl ?_
  refine h_iconst C dL_1859 ?_
  refine h_iadd (r := 1) C dL_1860 (by decide) ?_
  refine h_sld C hX hbl 1 rfl (by decide) dL_1861 ?_
  rw [ev1]
  refine h_aload_n C dL_1862 3 rfl rfl ?_
  refine h_iload_n C dL_1863 0 rfl rfl ?_
  refine h_iconst C dL_1864 ?_
  refine h_iadd (r := 2) C dL_1865 (by decide) ?_
  refine h_sld C hX hbl 2 rfl (by decide) dL_1866 ?_
  rw [ev2]
  refine h_aload_n C dL_1867 3 rfl rfl ?_
  refine h_iload_n C dL_1868 0 rfl rfl ?_
  refine h_iconst C dL_1869 ?_
  refine h_iadd (r := 3) C dL_1870 (by decide) ?_
  refine h_sld C hX hbl 3 rfl (by decide) dL_1871 ?_
  rw [ev3]
  refine h_callV (As := [.int (hpI v1), .int (hpI v2), .int (hpI v3)]) (rest := [.long (hpJ (-2))]) C yyX9_chance wd_1941 (tX9_chance l D cy s.heap.size _ v1 ⟨by omega, by omega⟩ v2 ⟨by omega, by omega⟩ v3 ⟨by omega, by omega⟩ (fun i => ((fun i => hp0_z (by decide) (by decide) (by decide) (by decide) (by decide)) i))) kd_195 rfl rfl ⟨rfl, rfl, Nat.le_of_ble_eq_true rfl, Nat.le_of_ble_eq_true rfl⟩ ⟨Nat.le_of_ble_eq_true rfl, Nat.le_of_ble_eq_true rfl⟩ (Nat.le_of_ble_eq_true rfl) dL_1872 (fun r8 τ8 hp8 => ?_)
  obtain ⟨rfl, rfl⟩ := hp8
  show hpV _ _ _ _ _ _ _ _ _ _ _ _ _ _ _ _ _ _ _ _ _ (_ :: _)
  refine h_lcmp C dL_1875 ⟨by decide, by decide⟩ ⟨by decide, by decide⟩ (fun r9 hr9 => ?_)
  refine h_if_eq (tgt := 2354) C dL_1876 (by decide) ⟨by omega, by omega⟩ (fun h10 => ?_) (fun h10 => ?_)
  · refine h_iinc (lv' := [(3, .int (hpI 6)), (2, .ref (s.heap.size + 195)), (1, .ref (s.heap.size + 0)), (0, .ref b)]) C dL_2354 0 rfl rfl (by decide) rfl ?_
    refine h_goto (tgt := 18) C dL_2357 (by decide) ?_
    refine h_iload_n C dL_18 0 rfl rfl ?_
    refine h_aload_n C dL_19 3 rfl rfl ?_
    refine h_slen C hX hbl dL_20 ?_
    refine h_bipush C dL_21 (by decide) ?_
    refine h_isub (r := 0) C dL_23 (by decide) ?_
    refine h_icmp_gt (tgt := 2360) C dL_24 (by decide) ⟨by decide, by decide⟩ ⟨by decide, by decide⟩ (fun h12 => ?_) (fun h12 => ?_)
    · refine h_iconst C dL_2360 ?_
      exact h_lawret C hr hk dL_2361
    · exfalso; omega
  · exfalso; omega
set_option maxHeartbeats 4000000 in
set_option maxRecDepth 20000 in
theorem law_58 {p : Program} {e : Env} {s : State} {m : MethodId} {below : List Frame} {meth : Method} {c : Code} (l : Launch) {b : Nat} {xs : Nat → Int32} {D : va_G} {cy : Nat → ClassId} (C : hpC p s m #[.ref b] c code 4 RL D cy) (hr : meth.sig.returnType = ret) (hk : meth.locks = false) (hX : va_X b 6 xs s s.heap) (hbl : b < s.heap.size) : hpV p l e room_1 s m #[.ref b] below meth c 217 24316 4 D cy s.heap.size s.heap (lw_Z below #[Value.ref b] s) hp0 1881 [(3, .int (hpI 0)), (2, .ref (s.heap.size + 195)), (1, .ref (s.heap.size + 0)), (0, .ref b)] [] := by
  refine h_aload_n C dL_1881 2 rfl rfl ?_
  refine h_aload_n C dL_1882 3 rfl rfl ?_
  refine h_iload_n C dL_1883 0 rfl rfl ?_
  refine h_iconst C dL_1884 ?_
  refine h_iadd (r := 1) C dL_1885 (by decide) ?_
  refine h_sld C hX hbl 1 rfl (by decide) dL_1886 ?_
  obtain ⟨hq1a, hq1b⟩ := hpR_of (xs 1)
  generalize ev1 : (xs 1).toInt = v1 at hq1a hq1b ⊢
  refine h_aload_n C dL_1887 3 rfl rfl ?_
  refine h_iload_n C dL_1888 0 rfl rfl ?_
  refine h_iconst C dL_1889 ?_
  refine h_iadd (r := 2) C dL_1890 (by decide) ?_
  refine h_sld C hX hbl 2 rfl (by decide) dL_1891 ?_
  obtain ⟨hq2a, hq2b⟩ := hpR_of (xs 2)
  generalize ev2 : (xs 2).toInt = v2 at hq2a hq2b ⊢
  refine h_callV (As := [.int (hpI v1), .int (hpI v2)]) (rest := []) C yyX8_mean wd_1162 (tX8_mean l D cy s.heap.size _ v1 ⟨by omega, by omega⟩ v2 ⟨by omega, by omega⟩ rfl) kd_0 rfl rfl ⟨rfl, rfl, Nat.le_of_ble_eq_true rfl, Nat.le_of_ble_eq_true rfl⟩ ⟨Nat.le_of_ble_eq_true rfl, Nat.le_of_ble_eq_true rfl⟩ (Nat.le_of_ble_eq_true rfl) dL_1892 (fun r3 τ3 hp3 => ?_)
  obtain ⟨rfl, rfl⟩ := hp3
  show hpV _ _ _ _ _ _ _ _ _ _ _ _ _ _ _ _ _ _ _ _ _ (_ :: _)
  refine h_aload_n C dL_1895 1 rfl rfl ?_
  refine h_aload_n C dL_1896 3 rfl rfl ?_
  refine h_iload_n C dL_1897 0 rfl rfl ?_
  refine h_iconst C dL_1898 ?_
  refine h_iadd (r := 1) C dL_1899 (by decide) ?_
  refine h_sld C hX hbl 1 rfl (by decide) dL_1900 ?_
  rw [ev1]
  refine h_aload_n C dL_1901 3 rfl rfl ?_
  refine h_iload_n C dL_1902 0 rfl rfl ?_
  refine h_iconst C dL_1903 ?_
  refine h_iadd (r := 2) C dL_1904 (by decide) ?_
  refine h_sld C hX hbl 2 rfl (by decide) dL_1905 ?_
  rw [ev2]
  refine h_callV (As := [.int (hpI v1), .int (hpI v2)]) (rest := [.long (hpJ (-2))]) C yyX9_mean wd_1954 (tX9_mean l D cy s.heap.size _ v1 ⟨by omega, by omega⟩ v2 ⟨by omega, by omega⟩ (fun i => ((fun i => hp0_z (by decide) (by decide) (by decide) (by decide) (by decide)) i))) kd_195 rfl rfl ⟨rfl, rfl, Nat.le_of_ble_eq_true rfl, Nat.le_of_ble_eq_true rfl⟩ ⟨Nat.le_of_ble_eq_true rfl, Nat.le_of_ble_eq_true rfl⟩ (Nat.le_of_ble_eq_true rfl) dL_1906 (fun r6 τ6 hp6 => ?_)
  obtain ⟨rfl, rfl⟩ := hp6
  show hpV _ _ _ _ _ _ _ _ _ _ _ _ _ _ _ _ _ _ _ _ _ (_ :: _)
  refine h_lcmp C dL_1909 ⟨by decide, by decide⟩ ⟨by decide, by decide⟩ (fun r7 hr7 => ?_)
  refine h_if_eq (tgt := 2354) C dL_1910 (by decide) ⟨by omega, by omega⟩ (fun h8 => ?_) (fun h8 => ?_)
  · refine h_iinc (lv' := [(3, .int (hpI 6)), (2, .ref (s.heap.size + 195)), (1, .ref (s.heap.size + 0)), (0, .ref b)]) C dL_2354 0 rfl rfl (by decide) rfl ?_
    refine h_goto (tgt := 18) C dL_2357 (by decide) ?_
    refine h_iload_n C dL_18 0 rfl rfl ?_
    refine h_aload_n C dL_19 3 rfl rfl ?_
    refine h_slen C hX hbl dL_20 ?_
    refine h_bipush C dL_21 (by decide) ?_
    refine h_isub (r := 0) C dL_23 (by decide) ?_
    refine h_icmp_gt (tgt := 2360) C dL_24 (by decide) ⟨by decide, by decide⟩ ⟨by decide, by decide⟩ (fun h10 => ?_) (fun h10 => ?_)
    · refine h_iconst C dL_2360 ?_
      exact h_lawret C hr hk dL_2361
    · exfalso; omega
  · exfalso; omega
set_option maxHeartbeats 4000000 in
set_option maxRecDepth 20000 in
theorem law_59 {p : Program} {e : Env} {s : State} {m : MethodId} {below : List Frame} {meth : Method} {c : Code} (l : Launch) {b : Nat} {xs : Nat → Int32} {D : va_G} {cy : Nat → ClassId} (C : hpC p s m #[.ref b] c code 4 RL D cy) (hr : meth.sig.returnType = ret) (hk : meth.locks = false) (hX : va_X b 6 xs s s.heap) (hbl : b < s.heap.size) : hpV p l e room_1 s m #[.ref b] below meth c 217 24316 4 D cy s.heap.size s.heap (lw_Z below #[Value.ref b] s) hp0 1915 [(3, .int (hpI 0)), (2, .ref (s.heap.size + 195)), (1, .ref (s.heap.size + 0)), (0, .ref b)] [] := by
  refine h_aload_n C dL_1915 2 rfl rfl ?_
  refine h_aload_n C dL_1916 3 rfl rfl ?_
  refine h_iload_n C dL_1917 0 rfl rfl ?_
  refine h_iconst C dL_1918 ?_
  refine h_iadd (r := 1) C dL_1919 (by decide) ?_
  refine h_sld C hX hbl 1 rfl (by decide) dL_1920 ?_
  obtain ⟨hq1a, hq1b⟩ := hpR_of (xs 1)
  generalize ev1 : (xs 1).toInt = v1 at hq1a hq1b ⊢
  refine h_aload_n C dL_1921 3 rfl rfl ?_
  refine h_iload_n C dL_1922 0 rfl rfl ?_
  refine h_iconst C dL_1923 ?_
  refine h_iadd (r := 2) C dL_1924 (by decide) ?_
  refine h_sld C hX hbl 2 rfl (by decide) dL_1925 ?_
  obtain ⟨hq2a, hq2b⟩ := hpR_of (xs 2)
  generalize ev2 : (xs 2).toInt = v2 at hq2a hq2b ⊢
  refine h_callV (As := [.int (hpI v1), .int (hpI v2)]) (rest := []) C yyX8_brings wd_1166 (tX8_brings l D cy s.heap.size _ v1 ⟨by omega, by omega⟩ v2 ⟨by omega, by omega⟩ rfl) kd_0 rfl rfl ⟨rfl, rfl, Nat.le_of_ble_eq_true rfl, Nat.le_of_ble_eq_true rfl⟩ ⟨Nat.le_of_ble_eq_true rfl, Nat.le_of_ble_eq_true rfl⟩ (Nat.le_of_ble_eq_true rfl) dL_1926 (fun r3 τ3 hp3 => ?_)
  obtain ⟨rfl, rfl⟩ := hp3
  show hpV _ _ _ _ _ _ _ _ _ _ _ _ _ _ _ _ _ _ _ _ _ (_ :: _)
  refine h_aload_n C dL_1929 1 rfl rfl ?_
  refine h_aload_n C dL_1930 3 rfl rfl ?_
  refine h_iload_n C dL_1931 0 rfl rfl ?_
  refine h_iconst C dL_1932 ?_
  refine h_iadd (r := 1) C dL_1933 (by decide) ?_
  refine h_sld C hX hbl 1 rfl (by decide) dL_1934 ?_
  rw [ev1]
  refine h_aload_n C dL_1935 3 rfl rfl ?_
  refine h_iload_n C dL_1936 0 rfl rfl ?_
  refine h_iconst C dL_1937 ?_
  refine h_iadd (r := 2) C dL_1938 (by decide) ?_
  refine h_sld C hX hbl 2 rfl (by decide) dL_1939 ?_
  rw [ev2]
  refine h_callV (As := [.int (hpI v1), .int (hpI v2)]) (rest := [.int (hpI (-2))]) C yyX9_brings wd_1958 (tX9_brings l D cy s.heap.size _ v1 ⟨by omega, by omega⟩ v2 ⟨by omega, by omega⟩ (fun i => ((fun i => hp0_z (by decide) (by decide) (by decide) (by decide) (by decide)) i))) kd_195 rfl rfl ⟨rfl, rfl, Nat.le_of_ble_eq_true rfl, Nat.le_of_ble_eq_true rfl⟩ ⟨Nat.le_of_ble_eq_true rfl, Nat.le_of_ble_eq_true rfl⟩ (Nat.le_of_ble_eq_true rfl) dL_1940 (fun r6 τ6 hp6 => ?_)
  obtain ⟨rfl, rfl⟩ := hp6
  show hpV _ _ _ _ _ _ _ _ _ _ _ _ _ _ _ _ _ _ _ _ _ (_ :: _)
  refine h_icmp_eq (tgt := 2354) C dL_1943 (by decide) ⟨by decide, by decide⟩ ⟨by decide, by decide⟩ (fun h7 => ?_) (fun h7 => ?_)
  · refine h_iinc (lv' := [(3, .int (hpI 6)), (2, .ref (s.heap.size + 195)), (1, .ref (s.heap.size + 0)), (0, .ref b)]) C dL_2354 0 rfl rfl (by decide) rfl ?_
    refine h_goto (tgt := 18) C dL_2357 (by decide) ?_
    refine h_iload_n C dL_18 0 rfl rfl ?_
    refine h_aload_n C dL_19 3 rfl rfl ?_
    refine h_slen C hX hbl dL_20 ?_
    refine h_bipush C dL_21 (by decide) ?_
    refine h_isub (r := 0) C dL_23 (by decide) ?_
    refine h_icmp_gt (tgt := 2360) C dL_24 (by decide) ⟨by decide, by decide⟩ ⟨by decide, by decide⟩ (fun h9 => ?_) (fun h9 => ?_)
    · refine h_iconst C dL_2360 ?_
      exact h_lawret C hr hk dL_2361
    · exfalso; omega
  · exfalso; omega
set_option maxHeartbeats 4000000 in
set_option maxRecDepth 20000 in
theorem law_60 {p : Program} {e : Env} {s : State} {m : MethodId} {below : List Frame} {meth : Method} {c : Code} (l : Launch) {b : Nat} {xs : Nat → Int32} {D : va_G} {cy : Nat → ClassId} (C : hpC p s m #[.ref b] c code 4 RL D cy) (hr : meth.sig.returnType = ret) (hk : meth.locks = false) (hX : va_X b 6 xs s s.heap) (hbl : b < s.heap.size) : hpV p l e room_1 s m #[.ref b] below meth c 217 24316 4 D cy s.heap.size s.heap (lw_Z below #[Value.ref b] s) hp0 1948 [(3, .int (hpI 0)), (2, .ref (s.heap.size + 195)), (1, .ref (s.heap.size + 0)), (0, .ref b)] [] := by
  refine h_aload_n C dL_1948 2 rfl rfl ?_
  refine h_aload_n C dL_1949 3 rfl rfl ?_
  refine h_iload_n C dL_1950 0 rfl rfl ?_
  refine h_iconst C dL_1951 ?_
  refine h_iadd (r := 1) C dL_1952 (by decide) ?_
  refine h_sld C hX hbl 1 rfl (by decide) dL_1953 ?_
  obtain ⟨hq1a, hq1b⟩ := hpR_of (xs 1)
  generalize ev1 : (xs 1).toInt = v1 at hq1a hq1b ⊢
  refine h_callV (As := [.int (hpI v1)]) (rest := []) C yyX8_away wd_1174 (tX8_away l D cy s.heap.size _ v1 ⟨by omega, by omega⟩ rfl) kd_0 rfl rfl ⟨rfl, rfl, Nat.le_of_ble_eq_true rfl, Nat.le_of_ble_eq_true rfl⟩ ⟨Nat.le_of_ble_eq_true rfl, Nat.le_of_ble_eq_true rfl⟩ (Nat.le_of_ble_eq_true rfl) dL_1954 (fun r2 τ2 hp2 => ?_)
  obtain ⟨rfl, rfl⟩ := hp2
  show hpV _ _ _ _ _ _ _ _ _ _ _ _ _ _ _ _ _ _ _ _ _ (_ :: _)
  refine h_aload_n C dL_1957 1 rfl rfl ?_
  refine h_aload_n C dL_1958 3 rfl rfl ?_
  refine h_iload_n C dL_1959 0 rfl rfl ?_
  refine h_iconst C dL_1960 ?_
  refine h_iadd (r := 1) C dL_1961 (by decide) ?_
  refine h_sld C hX hbl 1 rfl (by decide) dL_1962 ?_
  rw [ev1]
  refine h_callV (As := [.int (hpI v1)]) (rest := [.int (hpI (-2))]) C yyX9_away wd_1967 (tX9_away l D cy s.heap.size _ v1 ⟨by omega, by omega⟩ (fun i => ((fun i => hp0_z (by decide) (by decide) (by decide) (by decide) (by decide)) i))) kd_195 rfl rfl ⟨rfl, rfl, Nat.le_of_ble_eq_true rfl, Nat.le_of_ble_eq_true rfl⟩ ⟨Nat.le_of_ble_eq_true rfl, Nat.le_of_ble_eq_true rfl⟩ (Nat.le_of_ble_eq_true rfl) dL_1963 (fun r4 τ4 hp4 => ?_)
  obtain ⟨rfl, rfl⟩ := hp4
  show hpV _ _ _ _ _ _ _ _ _ _ _ _ _ _ _ _ _ _ _ _ _ (_ :: _)
  refine h_icmp_eq (tgt := 2354) C dL_1966 (by decide) ⟨by decide, by decide⟩ ⟨by decide, by decide⟩ (fun h5 => ?_) (fun h5 => ?_)
  · refine h_iinc (lv' := [(3, .int (hpI 6)), (2, .ref (s.heap.size + 195)), (1, .ref (s.heap.size + 0)), (0, .ref b)]) C dL_2354 0 rfl rfl (by decide) rfl ?_
    refine h_goto (tgt := 18) C dL_2357 (by decide) ?_
    refine h_iload_n C dL_18 0 rfl rfl ?_
    refine h_aload_n C dL_19 3 rfl rfl ?_
    refine h_slen C hX hbl dL_20 ?_
    refine h_bipush C dL_21 (by decide) ?_
    refine h_isub (r := 0) C dL_23 (by decide) ?_
    refine h_icmp_gt (tgt := 2360) C dL_24 (by decide) ⟨by decide, by decide⟩ ⟨by decide, by decide⟩ (fun h7 => ?_) (fun h7 => ?_)
    · refine h_iconst C dL_2360 ?_
      exact h_lawret C hr hk dL_2361
    · exfalso; omega
  · exfalso; omega
set_option maxHeartbeats 4000000 in
set_option maxRecDepth 20000 in
theorem law_61 {p : Program} {e : Env} {s : State} {m : MethodId} {below : List Frame} {meth : Method} {c : Code} (l : Launch) {b : Nat} {xs : Nat → Int32} {D : va_G} {cy : Nat → ClassId} (C : hpC p s m #[.ref b] c code 4 RL D cy) (hr : meth.sig.returnType = ret) (hk : meth.locks = false) (hX : va_X b 6 xs s s.heap) (hbl : b < s.heap.size) : hpV p l e room_1 s m #[.ref b] below meth c 217 24316 4 D cy s.heap.size s.heap (lw_Z below #[Value.ref b] s) hp0 1971 [(3, .int (hpI 0)), (2, .ref (s.heap.size + 195)), (1, .ref (s.heap.size + 0)), (0, .ref b)] [] := by
  refine h_aload_n C dL_1971 2 rfl rfl ?_
  refine h_callV (As := []) (rest := []) C yyX8_undo wd_1178 (tX8_undo l D cy s.heap.size _ rfl) kd_0 rfl rfl ⟨rfl, rfl, Nat.le_of_ble_eq_true rfl, Nat.le_of_ble_eq_true rfl⟩ ⟨Nat.le_of_ble_eq_true rfl, Nat.le_of_ble_eq_true rfl⟩ (Nat.le_of_ble_eq_true rfl) dL_1972 (fun r1 τ1 hp1 => ?_)
  obtain ⟨rfl, rfl⟩ := hp1
  show hpV _ _ _ _ _ _ _ _ _ _ _ _ _ _ _ _ _ _ _ _ _ (_ :: _)
  refine h_aload_n C dL_1975 1 rfl rfl ?_
  refine h_callV (As := []) (rest := [.int (hpI (-2))]) C yyX9_undo wd_1971 (tX9_undo l D cy s.heap.size _ (fun i => ((fun i => hp0_z (by decide) (by decide) (by decide) (by decide) (by decide)) i))) kd_195 rfl rfl ⟨rfl, rfl, Nat.le_of_ble_eq_true rfl, Nat.le_of_ble_eq_true rfl⟩ ⟨Nat.le_of_ble_eq_true rfl, Nat.le_of_ble_eq_true rfl⟩ (Nat.le_of_ble_eq_true rfl) dL_1976 (fun r2 τ2 hp2 => ?_)
  obtain ⟨rfl, rfl⟩ := hp2
  show hpV _ _ _ _ _ _ _ _ _ _ _ _ _ _ _ _ _ _ _ _ _ (_ :: _)
  refine h_icmp_eq (tgt := 2354) C dL_1979 (by decide) ⟨by decide, by decide⟩ ⟨by decide, by decide⟩ (fun h3 => ?_) (fun h3 => ?_)
  · refine h_iinc (lv' := [(3, .int (hpI 6)), (2, .ref (s.heap.size + 195)), (1, .ref (s.heap.size + 0)), (0, .ref b)]) C dL_2354 0 rfl rfl (by decide) rfl ?_
    refine h_goto (tgt := 18) C dL_2357 (by decide) ?_
    refine h_iload_n C dL_18 0 rfl rfl ?_
    refine h_aload_n C dL_19 3 rfl rfl ?_
    refine h_slen C hX hbl dL_20 ?_
    refine h_bipush C dL_21 (by decide) ?_
    refine h_isub (r := 0) C dL_23 (by decide) ?_
    refine h_icmp_gt (tgt := 2360) C dL_24 (by decide) ⟨by decide, by decide⟩ ⟨by decide, by decide⟩ (fun h5 => ?_) (fun h5 => ?_)
    · refine h_iconst C dL_2360 ?_
      exact h_lawret C hr hk dL_2361
    · exfalso; omega
  · exfalso; omega
set_option maxHeartbeats 4000000 in
set_option maxRecDepth 20000 in
theorem law_62 {p : Program} {e : Env} {s : State} {m : MethodId} {below : List Frame} {meth : Method} {c : Code} (l : Launch) {b : Nat} {xs : Nat → Int32} {D : va_G} {cy : Nat → ClassId} (C : hpC p s m #[.ref b] c code 4 RL D cy) (hr : meth.sig.returnType = ret) (hk : meth.locks = false) (hX : va_X b 6 xs s s.heap) (hbl : b < s.heap.size) : hpV p l e room_1 s m #[.ref b] below meth c 217 24316 4 D cy s.heap.size s.heap (lw_Z below #[Value.ref b] s) hp0 1984 [(3, .int (hpI 0)), (2, .ref (s.heap.size + 195)), (1, .ref (s.heap.size + 0)), (0, .ref b)] [] := by
  refine h_aload_n C dL_1984 2 rfl rfl ?_
  refine h_callV (As := []) (rest := []) C yyX8_anew wd_1182 (tX8_anew l D cy s.heap.size _ rfl) kd_0 rfl rfl ⟨rfl, rfl, Nat.le_of_ble_eq_true rfl, Nat.le_of_ble_eq_true rfl⟩ ⟨Nat.le_of_ble_eq_true rfl, Nat.le_of_ble_eq_true rfl⟩ (Nat.le_of_ble_eq_true rfl) dL_1985 (fun r1 τ1 hp1 => ?_)
  obtain ⟨rfl, rfl⟩ := hp1
  show hpV _ _ _ _ _ _ _ _ _ _ _ _ _ _ _ _ _ _ _ _ _ (_ :: _)
  refine h_aload_n C dL_1988 1 rfl rfl ?_
  refine h_callV (As := []) (rest := [.int (hpI (-2))]) C yyX9_anew wd_1975 (tX9_anew l D cy s.heap.size _ (fun i => ((fun i => hp0_z (by decide) (by decide) (by decide) (by decide) (by decide)) i))) kd_195 rfl rfl ⟨rfl, rfl, Nat.le_of_ble_eq_true rfl, Nat.le_of_ble_eq_true rfl⟩ ⟨Nat.le_of_ble_eq_true rfl, Nat.le_of_ble_eq_true rfl⟩ (Nat.le_of_ble_eq_true rfl) dL_1989 (fun r2 τ2 hp2 => ?_)
  obtain ⟨rfl, rfl⟩ := hp2
  show hpV _ _ _ _ _ _ _ _ _ _ _ _ _ _ _ _ _ _ _ _ _ (_ :: _)
  refine h_icmp_eq (tgt := 2354) C dL_1992 (by decide) ⟨by decide, by decide⟩ ⟨by decide, by decide⟩ (fun h3 => ?_) (fun h3 => ?_)
  · refine h_iinc (lv' := [(3, .int (hpI 6)), (2, .ref (s.heap.size + 195)), (1, .ref (s.heap.size + 0)), (0, .ref b)]) C dL_2354 0 rfl rfl (by decide) rfl ?_
    refine h_goto (tgt := 18) C dL_2357 (by decide) ?_
    refine h_iload_n C dL_18 0 rfl rfl ?_
    refine h_aload_n C dL_19 3 rfl rfl ?_
    refine h_slen C hX hbl dL_20 ?_
    refine h_bipush C dL_21 (by decide) ?_
    refine h_isub (r := 0) C dL_23 (by decide) ?_
    refine h_icmp_gt (tgt := 2360) C dL_24 (by decide) ⟨by decide, by decide⟩ ⟨by decide, by decide⟩ (fun h5 => ?_) (fun h5 => ?_)
    · refine h_iconst C dL_2360 ?_
      exact h_lawret C hr hk dL_2361
    · exfalso; omega
  · exfalso; omega
set_option maxHeartbeats 4000000 in
set_option maxRecDepth 20000 in
theorem law_63 {p : Program} {e : Env} {s : State} {m : MethodId} {below : List Frame} {meth : Method} {c : Code} (l : Launch) {b : Nat} {xs : Nat → Int32} {D : va_G} {cy : Nat → ClassId} (C : hpC p s m #[.ref b] c code 4 RL D cy) (hr : meth.sig.returnType = ret) (hk : meth.locks = false) (hX : va_X b 6 xs s s.heap) (hbl : b < s.heap.size) : hpV p l e room_1 s m #[.ref b] below meth c 217 24316 4 D cy s.heap.size s.heap (lw_Z below #[Value.ref b] s) hp0 1997 [(3, .int (hpI 0)), (2, .ref (s.heap.size + 195)), (1, .ref (s.heap.size + 0)), (0, .ref b)] [] := by
  refine h_aload_n C dL_1997 2 rfl rfl ?_
  refine h_aload_n C dL_1998 3 rfl rfl ?_
  refine h_iload_n C dL_1999 0 rfl rfl ?_
  refine h_iconst C dL_2000 ?_
  refine h_iadd (r := 1) C dL_2001 (by decide) ?_
  refine h_sld C hX hbl 1 rfl (by decide) dL_2002 ?_
  obtain ⟨hq1a, hq1b⟩ := hpR_of (xs 1)
  generalize ev1 : (xs 1).toInt = v1 at hq1a hq1b ⊢
  refine h_aload_n C dL_2003 3 rfl rfl ?_
  refine h_iload_n C dL_2004 0 rfl rfl ?_
  refine h_iconst C dL_2005 ?_
  refine h_iadd (r := 2) C dL_2006 (by decide) ?_
  refine h_sld C hX hbl 2 rfl (by decide) dL_2007 ?_
  obtain ⟨hq2a, hq2b⟩ := hpR_of (xs 2)
  generalize ev2 : (xs 2).toInt = v2 at hq2a hq2b ⊢
  refine h_callV (As := [.int (hpI v1), .int (hpI v2)]) (rest := []) C yyX8_drawn wd_1186 (tX8_drawn l D cy s.heap.size _ v1 ⟨by omega, by omega⟩ v2 ⟨by omega, by omega⟩ rfl) kd_0 rfl rfl ⟨rfl, rfl, Nat.le_of_ble_eq_true rfl, Nat.le_of_ble_eq_true rfl⟩ ⟨Nat.le_of_ble_eq_true rfl, Nat.le_of_ble_eq_true rfl⟩ (Nat.le_of_ble_eq_true rfl) dL_2008 (fun r3 τ3 hp3 => ?_)
  obtain ⟨rfl, rfl⟩ := hp3
  show hpV _ _ _ _ _ _ _ _ _ _ _ _ _ _ _ _ _ _ _ _ _ (_ :: _)
  refine h_aload_n C dL_2011 1 rfl rfl ?_
  refine h_aload_n C dL_2012 3 rfl rfl ?_
  refine h_iload_n C dL_2013 0 rfl rfl ?_
  refine h_iconst C dL_2014 ?_
  refine h_iadd (r := 1) C dL_2015 (by decide) ?_
  refine h_sld C hX hbl 1 rfl (by decide) dL_2016 ?_
  rw [ev1]
  refine h_aload_n C dL_2017 3 rfl rfl ?_
  refine h_iload_n C dL_2018 0 rfl rfl ?_
  refine h_iconst C dL_2019 ?_
  refine h_iadd (r := 2) C dL_2020 (by decide) ?_
  refine h_sld C hX hbl 2 rfl (by decide) dL_2021 ?_
  rw [ev2]
  refine h_callV (As := [.int (hpI v1), .int (hpI v2)]) (rest := [.int (hpI (-2))]) C yyX9_drawn wd_1979 (tX9_drawn l D cy s.heap.size _ v1 ⟨by omega, by omega⟩ v2 ⟨by omega, by omega⟩ (fun i => ((fun i => hp0_z (by decide) (by decide) (by decide) (by decide) (by decide)) i))) kd_195 rfl rfl ⟨rfl, rfl, Nat.le_of_ble_eq_true rfl, Nat.le_of_ble_eq_true rfl⟩ ⟨Nat.le_of_ble_eq_true rfl, Nat.le_of_ble_eq_true rfl⟩ (Nat.le_of_ble_eq_true rfl) dL_2022 (fun r6 τ6 hp6 => ?_)
  obtain ⟨rfl, rfl⟩ := hp6
  show hpV _ _ _ _ _ _ _ _ _ _ _ _ _ _ _ _ _ _ _ _ _ (_ :: _)
  refine h_icmp_eq (tgt := 2354) C dL_2025 (by decide) ⟨by decide, by decide⟩ ⟨by decide, by decide⟩ (fun h7 => ?_) (fun h7 => ?_)
  · refine h_iinc (lv' := [(3, .int (hpI 6)), (2, .ref (s.heap.size + 195)), (1, .ref (s.heap.size + 0)), (0, .ref b)]) C dL_2354 0 rfl rfl (by decide) rfl ?_
    refine h_goto (tgt := 18) C dL_2357 (by decide) ?_
    refine h_iload_n C dL_18 0 rfl rfl ?_
    refine h_aload_n C dL_19 3 rfl rfl ?_
    refine h_slen C hX hbl dL_20 ?_
    refine h_bipush C dL_21 (by decide) ?_
    refine h_isub (r := 0) C dL_23 (by decide) ?_
    refine h_icmp_gt (tgt := 2360) C dL_24 (by decide) ⟨by decide, by decide⟩ ⟨by decide, by decide⟩ (fun h9 => ?_) (fun h9 => ?_)
    · refine h_iconst C dL_2360 ?_
      exact h_lawret C hr hk dL_2361
    · exfalso; omega
  · exfalso; omega
set_option maxHeartbeats 4000000 in
set_option maxRecDepth 20000 in
theorem law_64 {p : Program} {e : Env} {s : State} {m : MethodId} {below : List Frame} {meth : Method} {c : Code} (l : Launch) {b : Nat} {xs : Nat → Int32} {D : va_G} {cy : Nat → ClassId} (C : hpC p s m #[.ref b] c code 4 RL D cy) (hr : meth.sig.returnType = ret) (hk : meth.locks = false) (hX : va_X b 6 xs s s.heap) (hbl : b < s.heap.size) : hpV p l e room_1 s m #[.ref b] below meth c 217 24316 4 D cy s.heap.size s.heap (lw_Z below #[Value.ref b] s) hp0 2030 [(3, .int (hpI 0)), (2, .ref (s.heap.size + 195)), (1, .ref (s.heap.size + 0)), (0, .ref b)] [] := by
  refine h_aload_n C dL_2030 2 rfl rfl ?_
  refine h_aload_n C dL_2031 3 rfl rfl ?_
  refine h_iload_n C dL_2032 0 rfl rfl ?_
  refine h_iconst C dL_2033 ?_
  refine h_iadd (r := 1) C dL_2034 (by decide) ?_
  refine h_sld C hX hbl 1 rfl (by decide) dL_2035 ?_
  obtain ⟨hq1a, hq1b⟩ := hpR_of (xs 1)
  generalize ev1 : (xs 1).toInt = v1 at hq1a hq1b ⊢
  refine h_aload_n C dL_2036 3 rfl rfl ?_
  refine h_iload_n C dL_2037 0 rfl rfl ?_
  refine h_iconst C dL_2038 ?_
  refine h_iadd (r := 2) C dL_2039 (by decide) ?_
  refine h_sld C hX hbl 2 rfl (by decide) dL_2040 ?_
  obtain ⟨hq2a, hq2b⟩ := hpR_of (xs 2)
  generalize ev2 : (xs 2).toInt = v2 at hq2a hq2b ⊢
  refine h_aload_n C dL_2041 3 rfl rfl ?_
  refine h_iload_n C dL_2042 0 rfl rfl ?_
  refine h_iconst C dL_2043 ?_
  refine h_iadd (r := 3) C dL_2044 (by decide) ?_
  refine h_sld C hX hbl 3 rfl (by decide) dL_2045 ?_
  obtain ⟨hq3a, hq3b⟩ := hpR_of (xs 3)
  generalize ev3 : (xs 3).toInt = v3 at hq3a hq3b ⊢
  refine h_callV (As := [.int (hpI v1), .int (hpI v2), .int (hpI v3)]) (rest := []) C yyX8_luck wd_1203 (tX8_luck l D cy s.heap.size _ v1 ⟨by omega, by omega⟩ v2 ⟨by omega, by omega⟩ v3 ⟨by omega, by omega⟩ rfl) kd_0 rfl rfl ⟨rfl, rfl, Nat.le_of_ble_eq_true rfl, Nat.le_of_ble_eq_true rfl⟩ ⟨Nat.le_of_ble_eq_true rfl, Nat.le_of_ble_eq_true rfl⟩ (Nat.le_of_ble_eq_true rfl) dL_2046 (fun r4 τ4 hp4 => ?_)
  obtain ⟨rfl, rfl⟩ := hp4
  show hpV _ _ _ _ _ _ _ _ _ _ _ _ _ _ _ _ _ _ _ _ _ (_ :: _)
  refine h_aload_n C dL_2049 1 rfl rfl ?_
  refine h_aload_n C dL_2050 3 rfl rfl ?_
  refine h_iload_n C dL_2051 0 rfl rfl ?_
  refine h_iconst C dL_2052 ?_
  refine h_iadd (r := 1) C dL_2053 (by decide) ?_
  refine h_sld C hX hbl 1 rfl (by decide) dL_2054 ?_
  rw [ev1]
  refine h_aload_n C dL_2055 3 rfl rfl ?_
  refine h_iload_n C dL_2056 0 rfl rfl ?_
  refine h_iconst C dL_2057 ?_
  refine h_iadd (r := 2) C dL_2058 (by decide) ?_
  refine h_sld C hX hbl 2 rfl (by decide) dL_2059 ?_
  rw [ev2]
  refine h_aload_n C dL_2060 3 rfl rfl ?_
  refine h_iload_n C dL_2061 0 rfl rfl ?_
  refine h_iconst C dL_2062 ?_
  refine h_iadd (r := 3) C dL_2063 (by decide) ?_
  refine h_sld C hX hbl 3 rfl (by decide) dL_2064 ?_
  rw [ev3]
  refine h_callV (As := [.int (hpI v1), .int (hpI v2), .int (hpI v3)]) (rest := [.int (hpI (-2))]) C yyX9_luck wd_1996 (tX9_luck l D cy s.heap.size _ v1 ⟨by omega, by omega⟩ v2 ⟨by omega, by omega⟩ v3 ⟨by omega, by omega⟩ (fun i => ((fun i => hp0_z (by decide) (by decide) (by decide) (by decide) (by decide)) i))) kd_195 rfl rfl ⟨rfl, rfl, Nat.le_of_ble_eq_true rfl, Nat.le_of_ble_eq_true rfl⟩ ⟨Nat.le_of_ble_eq_true rfl, Nat.le_of_ble_eq_true rfl⟩ (Nat.le_of_ble_eq_true rfl) dL_2065 (fun r8 τ8 hp8 => ?_)
  obtain ⟨rfl, rfl⟩ := hp8
  show hpV _ _ _ _ _ _ _ _ _ _ _ _ _ _ _ _ _ _ _ _ _ (_ :: _)
  refine h_icmp_eq (tgt := 2354) C dL_2068 (by decide) ⟨by decide, by decide⟩ ⟨by decide, by decide⟩ (fun h9 => ?_) (fun h9 => ?_)
  · refine h_iinc (lv' := [(3, .int (hpI 6)), (2, .ref (s.heap.size + 195)), (1, .ref (s.heap.size + 0)), (0, .ref b)]) C dL_2354 0 rfl rfl (by decide) rfl ?_
    refine h_goto (tgt := 18) C dL_2357 (by decide) ?_
    refine h_iload_n C dL_18 0 rfl rfl ?_
    refine h_aload_n C dL_19 3 rfl rfl ?_
    refine h_slen C hX hbl dL_20 ?_
    refine h_bipush C dL_21 (by decide) ?_
    refine h_isub (r := 0) C dL_23 (by decide) ?_
    refine h_icmp_gt (tgt := 2360) C dL_24 (by decide) ⟨by decide, by decide⟩ ⟨by decide, by decide⟩ (fun h11 => ?_) (fun h11 => ?_)
    · refine h_iconst C dL_2360 ?_
      exact h_lawret C hr hk dL_2361
    · exfalso; omega
  · exfalso; omega
set_option maxHeartbeats 4000000 in
set_option maxRecDepth 20000 in
theorem law_65 {p : Program} {e : Env} {s : State} {m : MethodId} {below : List Frame} {meth : Method} {c : Code} (l : Launch) {b : Nat} {xs : Nat → Int32} {D : va_G} {cy : Nat → ClassId} (C : hpC p s m #[.ref b] c code 4 RL D cy) (hr : meth.sig.returnType = ret) (hk : meth.locks = false) (hX : va_X b 6 xs s s.heap) (hbl : b < s.heap.size) : hpV p l e room_1 s m #[.ref b] below meth c 217 24316 4 D cy s.heap.size s.heap (lw_Z below #[Value.ref b] s) hp0 2073 [(3, .int (hpI 0)), (2, .ref (s.heap.size + 195)), (1, .ref (s.heap.size + 0)), (0, .ref b)] [] := by
  refine h_aload_n C dL_2073 2 rfl rfl ?_
  refine h_aload_n C dL_2074 3 rfl rfl ?_
  refine h_iload_n C dL_2075 0 rfl rfl ?_
  refine h_iconst C dL_2076 ?_
  refine h_iadd (r := 1) C dL_2077 (by decide) ?_
  refine h_sld C hX hbl 1 rfl (by decide) dL_2078 ?_
  obtain ⟨hq1a, hq1b⟩ := hpR_of (xs 1)
  generalize ev1 : (xs 1).toInt = v1 at hq1a hq1b ⊢
  refine h_aload_n C dL_2079 3 rfl rfl ?_
  refine h_iload_n C dL_2080 0 rfl rfl ?_
  refine h_iconst C dL_2081 ?_
  refine h_iadd (r := 2) C dL_2082 (by decide) ?_
  refine h_sld C hX hbl 2 rfl (by decide) dL_2083 ?_
  obtain ⟨hq2a, hq2b⟩ := hpR_of (xs 2)
  generalize ev2 : (xs 2).toInt = v2 at hq2a hq2b ⊢
  refine h_callV (As := [.int (hpI v1), .int (hpI v2)]) (rest := []) C yyX8_rate wd_1207 (tX8_rate l D cy s.heap.size _ v1 ⟨by omega, by omega⟩ v2 ⟨by omega, by omega⟩ rfl) kd_0 rfl rfl ⟨rfl, rfl, Nat.le_of_ble_eq_true rfl, Nat.le_of_ble_eq_true rfl⟩ ⟨Nat.le_of_ble_eq_true rfl, Nat.le_of_ble_eq_true rfl⟩ (Nat.le_of_ble_eq_true rfl) dL_2084 (fun r3 τ3 hp3 => ?_)
  obtain ⟨rfl, rfl⟩ := hp3
  show hpV _ _ _ _ _ _ _ _ _ _ _ _ _ _ _ _ _ _ _ _ _ (_ :: _)
  refine h_aload_n C dL_2087 1 rfl rfl ?_
  refine h_aload_n C dL_2088 3 rfl rfl ?_
  refine h_iload_n C dL_2089 0 rfl rfl ?_
  refine h_iconst C dL_2090 ?_
  refine h_iadd (r := 1) C dL_2091 (by decide) ?_
  refine h_sld C hX hbl 1 rfl (by decide) dL_2092 ?_
  rw [ev1]
  refine h_aload_n C dL_2093 3 rfl rfl ?_
  refine h_iload_n C dL_2094 0 rfl rfl ?_
  refine h_iconst C dL_2095 ?_
  refine h_iadd (r := 2) C dL_2096 (by decide) ?_
  refine h_sld C hX hbl 2 rfl (by decide) dL_2097 ?_
  rw [ev2]
  refine h_callV (As := [.int (hpI v1), .int (hpI v2)]) (rest := [.int (hpI (-2))]) C yyX9_rate wd_2000 (tX9_rate l D cy s.heap.size _ v1 ⟨by omega, by omega⟩ v2 ⟨by omega, by omega⟩ (fun i => ((fun i => hp0_z (by decide) (by decide) (by decide) (by decide) (by decide)) i))) kd_195 rfl rfl ⟨rfl, rfl, Nat.le_of_ble_eq_true rfl, Nat.le_of_ble_eq_true rfl⟩ ⟨Nat.le_of_ble_eq_true rfl, Nat.le_of_ble_eq_true rfl⟩ (Nat.le_of_ble_eq_true rfl) dL_2098 (fun r6 τ6 hp6 => ?_)
  obtain ⟨rfl, rfl⟩ := hp6
  show hpV _ _ _ _ _ _ _ _ _ _ _ _ _ _ _ _ _ _ _ _ _ (_ :: _)
  refine h_icmp_eq (tgt := 2354) C dL_2101 (by decide) ⟨by decide, by decide⟩ ⟨by decide, by decide⟩ (fun h7 => ?_) (fun h7 => ?_)
  · refine h_iinc (lv' := [(3, .int (hpI 6)), (2, .ref (s.heap.size + 195)), (1, .ref (s.heap.size + 0)), (0, .ref b)]) C dL_2354 0 rfl rfl (by decide) rfl ?_
    refine h_goto (tgt := 18) C dL_2357 (by decide) ?_
    refine h_iload_n C dL_18 0 rfl rfl ?_
    refine h_aload_n C dL_19 3 rfl rfl ?_
    refine h_slen C hX hbl dL_20 ?_
    refine h_bipush C dL_21 (by decide) ?_
    refine h_isub (r := 0) C dL_23 (by decide) ?_
    refine h_icmp_gt (tgt := 2360) C dL_24 (by decide) ⟨by decide, by decide⟩ ⟨by decide, by decide⟩ (fun h9 => ?_) (fun h9 => ?_)
    · refine h_iconst C dL_2360 ?_
      exact h_lawret C hr hk dL_2361
    · exfalso; omega
  · exfalso; omega
set_option maxHeartbeats 4000000 in
set_option maxRecDepth 20000 in
theorem law_66 {p : Program} {e : Env} {s : State} {m : MethodId} {below : List Frame} {meth : Method} {c : Code} (l : Launch) {b : Nat} {xs : Nat → Int32} {D : va_G} {cy : Nat → ClassId} (C : hpC p s m #[.ref b] c code 4 RL D cy) (hr : meth.sig.returnType = ret) (hk : meth.locks = false) (hX : va_X b 6 xs s s.heap) (hbl : b < s.heap.size) : hpV p l e room_1 s m #[.ref b] below meth c 217 24316 4 D cy s.heap.size s.heap (lw_Z below #[Value.ref b] s) hp0 2106 [(3, .int (hpI 0)), (2, .ref (s.heap.size + 195)), (1, .ref (s.heap.size + 0)), (0, .ref b)] [] := by
  refine h_aload_n C dL_2106 2 rfl rfl ?_
  refine h_aload_n C dL_2107 3 rfl rfl ?_
  refine h_iload_n C dL_2108 0 rfl rfl ?_
  refine h_iconst C dL_2109 ?_
  refine h_iadd (r := 1) C dL_2110 (by decide) ?_
  refine h_sld C hX hbl 1 rfl (by decide) dL_2111 ?_
  obtain ⟨hq1a, hq1b⟩ := hpR_of (xs 1)
  generalize ev1 : (xs 1).toInt = v1 at hq1a hq1b ⊢
  refine h_callV (As := [.int (hpI v1)]) (rest := []) C yyX8_count wd_1211 (tX8_count l D cy s.heap.size _ v1 ⟨by omega, by omega⟩ rfl rfl rfl rfl rfl rfl rfl rfl rfl rfl rfl rfl) kd_0 rfl rfl ⟨rfl, rfl, Nat.le_of_ble_eq_true rfl, Nat.le_of_ble_eq_true rfl⟩ ⟨Nat.le_of_ble_eq_true rfl, Nat.le_of_ble_eq_true rfl⟩ (Nat.le_of_ble_eq_true rfl) dL_2112 (fun r2 τ2 hp2 => ?_)
  obtain ⟨⟨x2, rfl, ⟨hx2a, hx2b⟩, hx2⟩, rfl⟩ := hp2
  show hpV _ _ _ _ _ _ _ _ _ _ _ _ _ _ _ _ _ _ _ _ _ (_ :: _)
  refine h_aload_n C dL_2115 1 rfl rfl ?_
  refine h_aload_n C dL_2116 3 rfl rfl ?_
  refine h_iload_n C dL_2117 0 rfl rfl ?_
  refine h_iconst C dL_2118 ?_
  refine h_iadd (r := 1) C dL_2119 (by decide) ?_
  refine h_sld C hX hbl 1 rfl (by decide) dL_2120 ?_
  rw [ev1]
  refine h_callV (As := [.int (hpI v1)]) (rest := [.int (hpI x2)]) C yyX9_count wd_2004 (tX9_count l D cy s.heap.size _ v1 ⟨by omega, by omega⟩ rfl rfl rfl rfl rfl (fun i => ((fun i => hp0_z (by decide) (by decide) (by decide) (by decide) (by decide)) i))) kd_195 rfl rfl ⟨rfl, rfl, Nat.le_of_ble_eq_true rfl, Nat.le_of_ble_eq_true rfl⟩ ⟨Nat.le_of_ble_eq_true rfl, Nat.le_of_ble_eq_true rfl⟩ (Nat.le_of_ble_eq_true rfl) dL_2121 (fun r4 τ4 hp4 => ?_)
  obtain ⟨⟨x4, rfl, ⟨hx4a, hx4b⟩, hx4⟩, rfl⟩ := hp4
  show hpV _ _ _ _ _ _ _ _ _ _ _ _ _ _ _ _ _ _ _ _ _ (_ :: _)
  refine h_icmp_eq (tgt := 2354) C dL_2124 (by decide) ⟨by omega, by omega⟩ ⟨by omega, by omega⟩ (fun h5 => ?_) (fun h5 => ?_)
  · refine h_iinc (lv' := [(3, .int (hpI 6)), (2, .ref (s.heap.size + 195)), (1, .ref (s.heap.size + 0)), (0, .ref b)]) C dL_2354 0 rfl rfl (by decide) rfl ?_
    refine h_goto (tgt := 18) C dL_2357 (by decide) ?_
    refine h_iload_n C dL_18 0 rfl rfl ?_
    refine h_aload_n C dL_19 3 rfl rfl ?_
    refine h_slen C hX hbl dL_20 ?_
    refine h_bipush C dL_21 (by decide) ?_
    refine h_isub (r := 0) C dL_23 (by decide) ?_
    refine h_icmp_gt (tgt := 2360) C dL_24 (by decide) ⟨by decide, by decide⟩ ⟨by decide, by decide⟩ (fun h7 => ?_) (fun h7 => ?_)
    · refine h_iconst C dL_2360 ?_
      exact h_lawret C hr hk dL_2361
    · exfalso; omega
  · refine h_iconst C dL_2127 ?_
    exfalso; omega
set_option maxHeartbeats 4000000 in
set_option maxRecDepth 20000 in
theorem law_67 {p : Program} {e : Env} {s : State} {m : MethodId} {below : List Frame} {meth : Method} {c : Code} (l : Launch) {b : Nat} {xs : Nat → Int32} {D : va_G} {cy : Nat → ClassId} (C : hpC p s m #[.ref b] c code 4 RL D cy) (hr : meth.sig.returnType = ret) (hk : meth.locks = false) (hX : va_X b 6 xs s s.heap) (hbl : b < s.heap.size) : hpV p l e room_1 s m #[.ref b] below meth c 217 24316 4 D cy s.heap.size s.heap (lw_Z below #[Value.ref b] s) hp0 2129 [(3, .int (hpI 0)), (2, .ref (s.heap.size + 195)), (1, .ref (s.heap.size + 0)), (0, .ref b)] [] := by
  refine h_aload_n C dL_2129 2 rfl rfl ?_
  refine h_aload_n C dL_2130 3 rfl rfl ?_
  refine h_iload_n C dL_2131 0 rfl rfl ?_
  refine h_iconst C dL_2132 ?_
  refine h_iadd (r := 1) C dL_2133 (by decide) ?_
  refine h_sld C hX hbl 1 rfl (by decide) dL_2134 ?_
  obtain ⟨hq1a, hq1b⟩ := hpR_of (xs 1)
  generalize ev1 : (xs 1).toInt = v1 at hq1a hq1b ⊢
  refine h_callV (As := [.int (hpI v1)]) (rest := []) C yyX8_image wd_1219 (tX8_image l D cy s.heap.size _ v1 ⟨by omega, by omega⟩ rfl) kd_0 rfl rfl ⟨rfl, rfl, Nat.le_of_ble_eq_true rfl, Nat.le_of_ble_eq_true rfl⟩ ⟨Nat.le_of_ble_eq_true rfl, Nat.le_of_ble_eq_true rfl⟩ (Nat.le_of_ble_eq_true rfl) dL_2135 (fun r2 τ2 hp2 => ?_)
  obtain ⟨⟨x2, rfl, ⟨hx2a, hx2b⟩, hx2⟩, hF2⟩ := hp2
  show hpV _ _ _ _ _ _ _ _ _ _ _ _ _ _ _ _ _ _ _ _ _ (_ :: _)
  refine h_aload_n C dL_2138 1 rfl rfl ?_
  refine h_aload_n C dL_2139 3 rfl rfl ?_
  refine h_iload_n C dL_2140 0 rfl rfl ?_
  refine h_iconst C dL_2141 ?_
  refine h_iadd (r := 1) C dL_2142 (by decide) ?_
  refine h_sld C hX hbl 1 rfl (by decide) dL_2143 ?_
  rw [ev1]
  refine h_callV (As := [.int (hpI v1)]) (rest := [.int (hpI x2)]) C yyX9_image wd_1396 (tX9_image l D cy s.heap.size _ v1 ⟨by omega, by omega⟩) kd_195 rfl rfl ⟨rfl, rfl, Nat.le_of_ble_eq_true rfl, Nat.le_of_ble_eq_true rfl⟩ ⟨Nat.le_of_ble_eq_true rfl, Nat.le_of_ble_eq_true rfl⟩ (Nat.le_of_ble_eq_true rfl) dL_2144 (fun r4 τ4 hp4 => ?_)
  obtain ⟨⟨x4, rfl, ⟨hx4a, hx4b⟩, hx4⟩, hF4⟩ := hp4
  show hpV _ _ _ _ _ _ _ _ _ _ _ _ _ _ _ _ _ _ _ _ _ (_ :: _)
  refine h_icmp_eq (tgt := 2354) C dL_2147 (by decide) ⟨by omega, by omega⟩ ⟨by omega, by omega⟩ (fun h5 => ?_) (fun h5 => ?_)
  · refine h_iinc (lv' := [(3, .int (hpI 6)), (2, .ref (s.heap.size + 195)), (1, .ref (s.heap.size + 0)), (0, .ref b)]) C dL_2354 0 rfl rfl (by decide) rfl ?_
    refine h_goto (tgt := 18) C dL_2357 (by decide) ?_
    refine h_iload_n C dL_18 0 rfl rfl ?_
    refine h_aload_n C dL_19 3 rfl rfl ?_
    refine h_slen C hX hbl dL_20 ?_
    refine h_bipush C dL_21 (by decide) ?_
    refine h_isub (r := 0) C dL_23 (by decide) ?_
    refine h_icmp_gt (tgt := 2360) C dL_24 (by decide) ⟨by decide, by decide⟩ ⟨by decide, by decide⟩ (fun h7 => ?_) (fun h7 => ?_)
    · refine h_iconst C dL_2360 ?_
      exact h_lawret C hr hk dL_2361
    · exfalso; omega
  · refine h_iconst C dL_2150 ?_
    exfalso; omega
set_option maxHeartbeats 4000000 in
set_option maxRecDepth 20000 in
theorem law_68 {p : Program} {e : Env} {s : State} {m : MethodId} {below : List Frame} {meth : Method} {c : Code} (l : Launch) {b : Nat} {xs : Nat → Int32} {D : va_G} {cy : Nat → ClassId} (C : hpC p s m #[.ref b] c code 4 RL D cy) (hr : meth.sig.returnType = ret) (hk : meth.locks = false) (hX : va_X b 6 xs s s.heap) (hbl : b < s.heap.size) : hpV p l e room_1 s m #[.ref b] below meth c 217 24316 4 D cy s.heap.size s.heap (lw_Z below #[Value.ref b] s) hp0 2152 [(3, .int (hpI 0)), (2, .ref (s.heap.size + 195)), (1, .ref (s.heap.size + 0)), (0, .ref b)] [] := by
  refine h_aload_n C dL_2152 2 rfl rfl ?_
  refine h_aload_n C dL_2153 3 rfl rfl ?_
  refine h_iload_n C dL_2154 0 rfl rfl ?_
  refine h_iconst C dL_2155 ?_
  refine h_iadd (r := 1) C dL_2156 (by decide) ?_
  refine h_sld C hX hbl 1 rfl (by decide) dL_2157 ?_
  obtain ⟨hq1a, hq1b⟩ := hpR_of (xs 1)
  generalize ev1 : (xs 1).toInt = v1 at hq1a hq1b ⊢
  refine h_callV (As := [.int (hpI v1)]) (rest := []) C yyX8_back wd_1223 (tX8_back l D cy s.heap.size _ v1 ⟨by omega, by omega⟩ rfl rfl rfl) kd_0 rfl rfl ⟨rfl, rfl, Nat.le_of_ble_eq_true rfl, Nat.le_of_ble_eq_true rfl⟩ ⟨Nat.le_of_ble_eq_true rfl, Nat.le_of_ble_eq_true rfl⟩ (Nat.le_of_ble_eq_true rfl) dL_2158 (fun r2 τ2 hp2 => ?_)
  obtain ⟨⟨x2, rfl, ⟨hx2a, hx2b⟩, hx2⟩, rfl⟩ := hp2
  show hpV _ _ _ _ _ _ _ _ _ _ _ _ _ _ _ _ _ _ _ _ _ (_ :: _)
  refine h_aload_n C dL_2161 1 rfl rfl ?_
  refine h_aload_n C dL_2162 3 rfl rfl ?_
  refine h_iload_n C dL_2163 0 rfl rfl ?_
  refine h_iconst C dL_2164 ?_
  refine h_iadd (r := 1) C dL_2165 (by decide) ?_
  refine h_sld C hX hbl 1 rfl (by decide) dL_2166 ?_
  rw [ev1]
  refine h_callV (As := [.int (hpI v1)]) (rest := [.int (hpI x2)]) C yyX9_back wd_1404 (tX9_back l D cy s.heap.size _ v1 ⟨by omega, by omega⟩ (fun i => ((fun i => hp0_z (by decide) (by decide) (by decide) (by decide) (by decide)) i))) kd_195 rfl rfl ⟨rfl, rfl, Nat.le_of_ble_eq_true rfl, Nat.le_of_ble_eq_true rfl⟩ ⟨Nat.le_of_ble_eq_true rfl, Nat.le_of_ble_eq_true rfl⟩ (Nat.le_of_ble_eq_true rfl) dL_2167 (fun r4 τ4 hp4 => ?_)
  obtain ⟨⟨x4, rfl, ⟨hx4a, hx4b⟩, hx4⟩, rfl⟩ := hp4
  show hpV _ _ _ _ _ _ _ _ _ _ _ _ _ _ _ _ _ _ _ _ _ (_ :: _)
  refine h_icmp_eq (tgt := 2354) C dL_2170 (by decide) ⟨by omega, by omega⟩ ⟨by omega, by omega⟩ (fun h5 => ?_) (fun h5 => ?_)
  · refine h_iinc (lv' := [(3, .int (hpI 6)), (2, .ref (s.heap.size + 195)), (1, .ref (s.heap.size + 0)), (0, .ref b)]) C dL_2354 0 rfl rfl (by decide) rfl ?_
    refine h_goto (tgt := 18) C dL_2357 (by decide) ?_
    refine h_iload_n C dL_18 0 rfl rfl ?_
    refine h_aload_n C dL_19 3 rfl rfl ?_
    refine h_slen C hX hbl dL_20 ?_
    refine h_bipush C dL_21 (by decide) ?_
    refine h_isub (r := 0) C dL_23 (by decide) ?_
    refine h_icmp_gt (tgt := 2360) C dL_24 (by decide) ⟨by decide, by decide⟩ ⟨by decide, by decide⟩ (fun h7 => ?_) (fun h7 => ?_)
    · refine h_iconst C dL_2360 ?_
      exact h_lawret C hr hk dL_2361
    · exfalso; omega
  · refine h_iconst C dL_2173 ?_
    exfalso; omega
set_option maxHeartbeats 4000000 in
set_option maxRecDepth 20000 in
theorem law_69 {p : Program} {e : Env} {s : State} {m : MethodId} {below : List Frame} {meth : Method} {c : Code} (l : Launch) {b : Nat} {xs : Nat → Int32} {D : va_G} {cy : Nat → ClassId} (C : hpC p s m #[.ref b] c code 4 RL D cy) (hr : meth.sig.returnType = ret) (hk : meth.locks = false) (hX : va_X b 6 xs s s.heap) (hbl : b < s.heap.size) : hpV p l e room_1 s m #[.ref b] below meth c 217 24316 4 D cy s.heap.size s.heap (lw_Z below #[Value.ref b] s) hp0 2175 [(3, .int (hpI 0)), (2, .ref (s.heap.size + 195)), (1, .ref (s.heap.size + 0)), (0, .ref b)] [] := by
  refine h_aload_n C dL_2175 2 rfl rfl ?_
  refine h_aload_n C dL_2176 3 rfl rfl ?_
  refine h_iload_n C dL_2177 0 rfl rfl ?_
  refine h_iconst C dL_2178 ?_
  refine h_iadd (r := 1) C dL_2179 (by decide) ?_
  refine h_sld C hX hbl 1 rfl (by decide) dL_2180 ?_
  obtain ⟨hq1a, hq1b⟩ := hpR_of (xs 1)
  generalize ev1 : (xs 1).toInt = v1 at hq1a hq1b ⊢
  refine h_aload_n C dL_2181 3 rfl rfl ?_
  refine h_iload_n C dL_2182 0 rfl rfl ?_
  refine h_iconst C dL_2183 ?_
  refine h_iadd (r := 2) C dL_2184 (by decide) ?_
  refine h_sld C hX hbl 2 rfl (by decide) dL_2185 ?_
  obtain ⟨hq2a, hq2b⟩ := hpR_of (xs 2)
  generalize ev2 : (xs 2).toInt = v2 at hq2a hq2b ⊢
  refine h_aload_n C dL_2186 3 rfl rfl ?_
  refine h_iload_n C dL_2187 0 rfl rfl ?_
  refine h_iconst C dL_2188 ?_
  refine h_iadd (r := 3) C dL_2189 (by decide) ?_
  refine h_sld C hX hbl 3 rfl (by decide) dL_2190 ?_
  obtain ⟨hq3a, hq3b⟩ := hpR_of (xs 3)
  generalize ev3 : (xs 3).toInt = v3 at hq3a hq3b ⊢
  refine h_callV (As := [.int (hpI v1), .int (hpI v2), .int (hpI v3)]) (rest := []) C yyX8_row wd_1227 (tX8_row l D cy s.heap.size _ v1 ⟨by omega, by omega⟩ v2 ⟨by omega, by omega⟩ v3 ⟨by omega, by omega⟩) kd_0 rfl rfl ⟨rfl, rfl, Nat.le_of_ble_eq_true rfl, Nat.le_of_ble_eq_true rfl⟩ ⟨Nat.le_of_ble_eq_true rfl, Nat.le_of_ble_eq_true rfl⟩ (Nat.le_of_ble_eq_true rfl) dL_2191 (fun r4 τ4 hp4 => ?_)
  obtain ⟨⟨x4, rfl, ⟨hx4a, hx4b⟩, hx4⟩, hF4⟩ := hp4
  show hpV _ _ _ _ _ _ _ _ _ _ _ _ _ _ _ _ _ _ _ _ _ (_ :: _)
  refine h_aload_n C dL_2194 1 rfl rfl ?_
  refine h_aload_n C dL_2195 3 rfl rfl ?_
  refine h_iload_n C dL_2196 0 rfl rfl ?_
  refine h_iconst C dL_2197 ?_
  refine h_iadd (r := 1) C dL_2198 (by decide) ?_
  refine h_sld C hX hbl 1 rfl (by decide) dL_2199 ?_
  rw [ev1]
  refine h_aload_n C dL_2200 3 rfl rfl ?_
  refine h_iload_n C dL_2201 0 rfl rfl ?_
  refine h_iconst C dL_2202 ?_
  refine h_iadd (r := 2) C dL_2203 (by decide) ?_
  refine h_sld C hX hbl 2 rfl (by decide) dL_2204 ?_
  rw [ev2]
  refine h_aload_n C dL_2205 3 rfl rfl ?_
  refine h_iload_n C dL_2206 0 rfl rfl ?_
  refine h_iconst C dL_2207 ?_
  refine h_iadd (r := 3) C dL_2208 (by decide) ?_
  refine h_sld C hX hbl 3 rfl (by decide) dL_2209 ?_
  rw [ev3]
  refine h_callV (As := [.int (hpI v1), .int (hpI v2), .int (hpI v3)]) (rest := [.int (hpI x4)]) C yyX9_row wd_2009 (tX9_row l D cy s.heap.size _ v1 ⟨by omega, by omega⟩ v2 ⟨by omega, by omega⟩ v3 ⟨by omega, by omega⟩) kd_195 rfl rfl ⟨rfl, rfl, Nat.le_of_ble_eq_true rfl, Nat.le_of_ble_eq_true rfl⟩ ⟨Nat.le_of_ble_eq_true rfl, Nat.le_of_ble_eq_true rfl⟩ (Nat.le_of_ble_eq_true rfl) dL_2210 (fun r8 τ8 hp8 => ?_)
  obtain ⟨⟨x8, rfl, ⟨hx8a, hx8b⟩, hx8⟩, hF8⟩ := hp8
  show hpV _ _ _ _ _ _ _ _ _ _ _ _ _ _ _ _ _ _ _ _ _ (_ :: _)
  refine h_icmp_eq (tgt := 2354) C dL_2213 (by decide) ⟨by omega, by omega⟩ ⟨by omega, by omega⟩ (fun h9 => ?_) (fun h9 => ?_)
  · refine h_iinc (lv' := [(3, .int (hpI 6)), (2, .ref (s.heap.size + 195)), (1, .ref (s.heap.size + 0)), (0, .ref b)]) C dL_2354 0 rfl rfl (by decide) rfl ?_
    refine h_goto (tgt := 18) C dL_2357 (by decide) ?_
    refine h_iload_n C dL_18 0 rfl rfl ?_
    refine h_aload_n C dL_19 3 rfl rfl ?_
    refine h_slen C hX hbl dL_20 ?_
    refine h_bipush C dL_21 (by decide) ?_
    refine h_isub (r := 0) C dL_23 (by decide) ?_
    refine h_icmp_gt (tgt := 2360) C dL_24 (by decide) ⟨by decide, by decide⟩ ⟨by decide, by decide⟩ (fun h11 => ?_) (fun h11 => ?_)
    · refine h_iconst C dL_2360 ?_
      exact h_lawret C hr hk dL_2361
    · exfalso; omega
  · refine h_iconst C dL_2216 ?_
    exfalso; omega
set_option maxHeartbeats 4000000 in
set_option maxRecDepth 20000 in
theorem law_70 {p : Program} {e : Env} {s : State} {m : MethodId} {below : List Frame} {meth : Method} {c : Code} (l : Launch) {b : Nat} {xs : Nat → Int32} {D : va_G} {cy : Nat → ClassId} (C : hpC p s m #[.ref b] c code 4 RL D cy) (hr : meth.sig.returnType = ret) (hk : meth.locks = false) (hX : va_X b 6 xs s s.heap) (hbl : b < s.heap.size) : hpV p l e room_1 s m #[.ref b] below meth c 217 24316 4 D cy s.heap.size s.heap (lw_Z below #[Value.ref b] s) hp0 2218 [(3, .int (hpI 0)), (2, .ref (s.heap.size + 195)), (1, .ref (s.heap.size + 0)), (0, .ref b)] [] := by
  refine h_aload_n C dL_2218 2 rfl rfl ?_
  refine h_aload_n C dL_2219 3 rfl rfl ?_
  refine h_iload_n C dL_2220 0 rfl rfl ?_
  refine h_iconst C dL_2221 ?_
  refine h_iadd (r := 1) C dL_2222 (by decide) ?_
  refine h_sld C hX hbl 1 rfl (by decide) dL_2223 ?_
  obtain ⟨hq1a, hq1b⟩ := hpR_of (xs 1)
  generalize ev1 : (xs 1).toInt = v1 at hq1a hq1b ⊢
  refine h_aload_n C dL_2224 3 rfl rfl ?_
  refine h_iload_n C dL_2225 0 rfl rfl ?_
  refine h_iconst C dL_2226 ?_
  refine h_iadd (r := 2) C dL_2227 (by decide) ?_
  refine h_sld C hX hbl 2 rfl (by decide) dL_2228 ?_
  obtain ⟨hq2a, hq2b⟩ := hpR_of (xs 2)
  generalize ev2 : (xs 2).toInt = v2 at hq2a hq2b ⊢
  refine h_aload_n C dL_2229 3 rfl rfl ?_
  refine h_iload_n C dL_2230 0 rfl rfl ?_
  refine h_iconst C dL_2231 ?_
  refine h_iadd (r := 3) C dL_2232 (by decide) ?_
  refine h_sld C hX hbl 3 rfl (by decide) dL_2233 ?_
  obtain ⟨hq3a, hq3b⟩ := hpR_of (xs 3)
  generalize ev3 : (xs 3).toInt = v3 at hq3a hq3b ⊢
  refine h_i2l C dL_2234 ⟨by omega, by omega⟩ ?_
  refine h_bipush C dL_2235 (by decide) ?_
  refine h_lshl_any C dL_2237 (fun r4 hr4 => ?_)
  obtain ⟨hr4a, hr4b⟩ := hr4
  refine h_aload_n C dL_2238 3 rfl rfl ?_
  refine h_iload_n C dL_2239 0 rfl rfl ?_
  refine h_iconst C dL_2240 ?_
  refine h_iadd (r := 4) C dL_2241 (by decide) ?_
  refine h_sld C hX hbl 4 rfl (by decide) dL_2242 ?_
  obtain ⟨hq4a, hq4b⟩ := hpR_of (xs 4)
  generalize ev4 : (xs 4).toInt = v4 at hq4a hq4b ⊢
  refine h_i2l C dL_2243 ⟨by omega, by omega⟩ ?_
  refine h_ldc2 C 4294967295 wd_2024 (by decide) dL_2244 ?_
  refine h_land_any C dL_2247 (fun r6 hr6 => ?_)
  obtain ⟨hr6a, hr6b⟩ := hr6
  refine h_lor_any C dL_2248 (fun r7 hr7 => ?_)
  obtain ⟨hr7a, hr7b⟩ := hr7
  refine h_callV (As := [.int (hpI v1), .int (hpI v2), .long (hpJ r7)]) (rest := []) C yyX8_write wd_1235 (tX8_write l D cy s.heap.size _ v1 ⟨by omega, by omega⟩ v2 ⟨by omega, by omega⟩ r7 ⟨by omega, by omega⟩ rfl rfl rfl rfl) kd_0 rfl rfl ⟨rfl, rfl, Nat.le_of_ble_eq_true rfl, Nat.le_of_ble_eq_true rfl⟩ ⟨Nat.le_of_ble_eq_true rfl, Nat.le_of_ble_eq_true rfl⟩ (Nat.le_of_ble_eq_true rfl) dL_2249 (fun r8 τ8 hp8 => ?_)
  obtain ⟨⟨x8, rfl, ⟨hx8a, hx8b⟩, hx8⟩, rfl⟩ := hp8
  show hpV _ _ _ _ _ _ _ _ _ _ _ _ _ _ _ _ _ _ _ _ _ (_ :: _)
  refine h_aload_n C dL_2252 1 rfl rfl ?_
  refine h_aload_n C dL_2253 3 rfl rfl ?_
  refine h_iload_n C dL_2254 0 rfl rfl ?_
  refine h_iconst C dL_2255 ?_
  refine h_iadd (r := 1) C dL_2256 (by decide) ?_
  refine h_sld C hX hbl 1 rfl (by decide) dL_2257 ?_
  rw [ev1]
  refine h_aload_n C dL_2258 3 rfl rfl ?_
  refine h_iload_n C dL_2259 0 rfl rfl ?_
  refine h_iconst C dL_2260 ?_
  refine h_iadd (r := 2) C dL_2261 (by decide) ?_
  refine h_sld C hX hbl 2 rfl (by decide) dL_2262 ?_
  rw [ev2]
  refine h_aload_n C dL_2263 3 rfl rfl ?_
  refine h_iload_n C dL_2264 0 rfl rfl ?_
  refine h_iconst C dL_2265 ?_
  refine h_iadd (r := 3) C dL_2266 (by decide) ?_
  refine h_sld C hX hbl 3 rfl (by decide) dL_2267 ?_
  rw [ev3]
  refine h_i2l C dL_2268 ⟨by omega, by omega⟩ ?_
  refine h_bipush C dL_2269 (by decide) ?_
  refine h_lshl_any C dL_2271 (fun r12 hr12 => ?_)
  obtain ⟨hr12a, hr12b⟩ := hr12
  refine h_aload_n C dL_2272 3 rfl rfl ?_
  refine h_iload_n C dL_2273 0 rfl rfl ?_
  refine h_iconst C dL_2274 ?_
  refine h_iadd (r := 4) C dL_2275 (by decide) ?_
  refine h_sld C hX hbl 4 rfl (by decide) dL_2276 ?_
  rw [ev4]
  refine h_i2l C dL_2277 ⟨by omega, by omega⟩ ?_
  refine h_ldc2 C 4294967295 wd_2024 (by decide) dL_2278 ?_
  refine h_land_any C dL_2281 (fun r14 hr14 => ?_)
  obtain ⟨hr14a, hr14b⟩ := hr14
  refine h_lor_any C dL_2282 (fun r15 hr15 => ?_)
  obtain ⟨hr15a, hr15b⟩ := hr15
  refine h_callV (As := [.int (hpI v1), .int (hpI v2), .long (hpJ r15)]) (rest := [.int (hpI x8)]) C yyX9_write wd_2013 (tX9_write l D cy s.heap.size _ v1 ⟨by omega, by omega⟩ v2 ⟨by omega, by omega⟩ r15 ⟨by omega, by omega⟩ rfl) kd_195 rfl rfl ⟨rfl, rfl, Nat.le_of_ble_eq_true rfl, Nat.le_of_ble_eq_true rfl⟩ ⟨Nat.le_of_ble_eq_true rfl, Nat.le_of_ble_eq_true rfl⟩ (Nat.le_of_ble_eq_true rfl) dL_2283 (fun r16 τ16 hp16 => ?_)
  obtain ⟨⟨x16, rfl, ⟨hx16a, hx16b⟩, hx16⟩, rfl⟩ := hp16
  show hpV _ _ _ _ _ _ _ _ _ _ _ _ _ _ _ _ _ _ _ _ _ (_ :: _)
  refine h_icmp_eq (tgt := 2354) C dL_2286 (by decide) ⟨by omega, by omega⟩ ⟨by omega, by omega⟩ (fun h17 => ?_) (fun h17 => ?_)
  · refine h_iinc (lv' := [(3, .int (hpI 6)), (2, .ref (s.heap.size + 195)), (1, .ref (s.heap.size + 0)), (0, .ref b)]) C dL_2354 0 rfl rfl (by decide) rfl ?_
    refine h_goto (tgt := 18) C dL_2357 (by decide) ?_
    refine h_iload_n C dL_18 0 rfl rfl ?_
    refine h_aload_n C dL_19 3 rfl rfl ?_
    refine h_slen C hX hbl dL_20 ?_
    refine h_bipush C dL_21 (by decide) ?_
    refine h_isub (r := 0) C dL_23 (by decide) ?_
    refine h_icmp_gt (tgt := 2360) C dL_24 (by decide) ⟨by decide, by decide⟩ ⟨by decide, by decide⟩ (fun h19 => ?_) (fun h19 => ?_)
    · refine h_iconst C dL_2360 ?_
      exact h_lawret C hr hk dL_2361
    · exfalso; omega
  · refine h_iconst C dL_2289 ?_
    exfalso; omega
set_option maxHeartbeats 4000000 in
set_option maxRecDepth 20000 in
theorem law_71 {p : Program} {e : Env} {s : State} {m : MethodId} {below : List Frame} {meth : Method} {c : Code} (l : Launch) {b : Nat} {xs : Nat → Int32} {D : va_G} {cy : Nat → ClassId} (C : hpC p s m #[.ref b] c code 4 RL D cy) (hr : meth.sig.returnType = ret) (hk : meth.locks = false) (hX : va_X b 6 xs s s.heap) (hbl : b < s.heap.size) : hpV p l e room_1 s m #[.ref b] below meth c 217 24316 4 D cy s.heap.size s.heap (lw_Z below #[Value.ref b] s) hp0 2291 [(3, .int (hpI 0)), (2, .ref (s.heap.size + 195)), (1, .ref (s.heap.size + 0)), (0, .ref b)] [] := by
  refine h_aload_n C dL_2291 2 rfl rfl ?_
  refine h_aload_n C dL_2292 3 rfl rfl ?_
  refine h_iload_n C dL_2293 0 rfl rfl ?_
  refine h_iconst C dL_2294 ?_
  refine h_iadd (r := 1) C dL_2295 (by decide) ?_
  refine h_sld C hX hbl 1 rfl (by decide) dL_2296 ?_
  obtain ⟨hq1a, hq1b⟩ := hpR_of (xs 1)
  generalize ev1 : (xs 1).toInt = v1 at hq1a hq1b ⊢
  refine h_aload_n C dL_2297 3 rfl rfl ?_
  refine h_iload_n C dL_2298 0 rfl rfl ?_
  refine h_iconst C dL_2299 ?_
  refine h_iadd (r := 2) C dL_2300 (by decide) ?_
  refine h_sld C hX hbl 2 rfl (by decide) dL_2301 ?_
  obtain ⟨hq2a, hq2b⟩ := hpR_of (xs 2)
  generalize ev2 : (xs 2).toInt = v2 at hq2a hq2b ⊢
  refine h_aload_n C dL_2302 3 rfl rfl ?_
  refine h_iload_n C dL_2303 0 rfl rfl ?_
  refine h_iconst C dL_2304 ?_
  refine h_iadd (r := 3) C dL_2305 (by decide) ?_
  refine h_sld C hX hbl 3 rfl (by decide) dL_2306 ?_
  obtain ⟨hq3a, hq3b⟩ := hpR_of (xs 3)
  generalize ev3 : (xs 3).toInt = v3 at hq3a hq3b ⊢
  refine h_aload_n C dL_2307 3 rfl rfl ?_
  refine h_iload_n C dL_2308 0 rfl rfl ?_
  refine h_iconst C dL_2309 ?_
  refine h_iadd (r := 4) C dL_2310 (by decide) ?_
  refine h_sld C hX hbl 4 rfl (by decide) dL_2311 ?_
  obtain ⟨hq4a, hq4b⟩ := hpR_of (xs 4)
  generalize ev4 : (xs 4).toInt = v4 at hq4a hq4b ⊢
  refine h_aload_n C dL_2312 3 rfl rfl ?_
  refine h_iload_n C dL_2313 0 rfl rfl ?_
  refine h_iconst C dL_2314 ?_
  refine h_iadd (r := 5) C dL_2315 (by decide) ?_
  refine h_sld C hX hbl 5 rfl (by decide) dL_2316 ?_
  obtain ⟨hq5a, hq5b⟩ := hpR_of (xs 5)
  generalize ev5 : (xs 5).toInt = v5 at hq5a hq5b ⊢
  refine h_callV (As := [.int (hpI v1), .int (hpI v2), .int (hpI v3), .int (hpI v4), .int (hpI v5)]) (rest := []) C yyX8_paste wd_1242 (tX8_paste l D cy s.heap.size _ v1 ⟨by omega, by omega⟩ v2 ⟨by omega, by omega⟩ v3 ⟨by omega, by omega⟩ v4 ⟨by omega, by omega⟩ v5 ⟨by omega, by omega⟩ rfl rfl rfl rfl) kd_0 rfl rfl ⟨rfl, rfl, Nat.le_of_ble_eq_true rfl, Nat.le_of_ble_eq_true rfl⟩ ⟨Nat.le_of_ble_eq_true rfl, Nat.le_of_ble_eq_true rfl⟩ (Nat.le_of_ble_eq_true rfl) dL_2317 (fun r6 τ6 hp6 => ?_)
  obtain ⟨⟨x6, rfl, ⟨hx6a, hx6b⟩, hx6⟩, rfl⟩ := hp6
  show hpV _ _ _ _ _ _ _ _ _ _ _ _ _ _ _ _ _ _ _ _ _ (_ :: _)
  refine h_aload_n C dL_2320 1 rfl rfl ?_
  refine h_aload_n C dL_2321 3 rfl rfl ?_
  refine h_iload_n C dL_2322 0 rfl rfl ?_
  refine h_iconst C dL_2323 ?_
  refine h_iadd (r := 1) C dL_2324 (by decide) ?_
  refine h_sld C hX hbl 1 rfl (by decide) dL_2325 ?_
  rw [ev1]
  refine h_aload_n C dL_2326 3 rfl rfl ?_
  refine h_iload_n C dL_2327 0 rfl rfl ?_
  refine h_iconst C dL_2328 ?_
  refine h_iadd (r := 2) C dL_2329 (by decide) ?_
  refine h_sld C hX hbl 2 rfl (by decide) dL_2330 ?_
  rw [ev2]
  refine h_aload_n C dL_2331 3 rfl rfl ?_
  refine h_iload_n C dL_2332 0 rfl rfl ?_
  refine h_iconst C dL_2333 ?_
  refine h_iadd (r := 3) C dL_2334 (by decide) ?_
  refine h_sld C hX hbl 3 rfl (by decide) dL_2335 ?_
  rw [ev3]
  refine h_aload_n C dL_2336 3 rfl rfl ?_
  refine h_iload_n C dL_2337 0 rfl rfl ?_
  refine h_iconst C dL_2338 ?_
  refine h_iadd (r := 4) C dL_2339 (by decide) ?_
  refine h_sld C hX hbl 4 rfl (by decide) dL_2340 ?_
  rw [ev4]
  refine h_aload_n C dL_2341 3 rfl rfl ?_
  refine h_iload_n C dL_2342 0 rfl rfl ?_
  refine h_iconst C dL_2343 ?_
  refine h_iadd (r := 5) C dL_2344 (by decide) ?_
  refine h_sld C hX hbl 5 rfl (by decide) dL_2345 ?_
  rw [ev5]
  refine h_callV (As := [.int (hpI v1), .int (hpI v2), .int (hpI v3), .int (hpI v4), .int (hpI v5)]) (rest := [.int (hpI x6)]) C yyX9_paste wd_2020 (tX9_paste l D cy s.heap.size _ v1 ⟨by omega, by omega⟩ v2 ⟨by omega, by omega⟩ v3 ⟨by omega, by omega⟩ v4 ⟨by omega, by omega⟩ v5 ⟨by omega, by omega⟩ rfl) kd_195 rfl rfl ⟨rfl, rfl, Nat.le_of_ble_eq_true rfl, Nat.le_of_ble_eq_true rfl⟩ ⟨Nat.le_of_ble_eq_true rfl, Nat.le_of_ble_eq_true rfl⟩ (Nat.le_of_ble_eq_true rfl) dL_2346 (fun r12 τ12 hp12 => ?_)
  obtain ⟨⟨x12, rfl, ⟨hx12a, hx12b⟩, hx12⟩, rfl⟩ := hp12
  show hpV _ _ _ _ _ _ _ _ _ _ _ _ _ _ _ _ _ _ _ _ _ (_ :: _)
  refine h_icmp_eq (tgt := 2354) C dL_2349 (by decide) ⟨by omega, by omega⟩ ⟨by omega, by omega⟩ (fun h13 => ?_) (fun h13 => ?_)
  · refine h_iinc (lv' := [(3, .int (hpI 6)), (2, .ref (s.heap.size + 195)), (1, .ref (s.heap.size + 0)), (0, .ref b)]) C dL_2354 0 rfl rfl (by decide) rfl ?_
    refine h_goto (tgt := 18) C dL_2357 (by decide) ?_
    refine h_iload_n C dL_18 0 rfl rfl ?_
    refine h_aload_n C dL_19 3 rfl rfl ?_
    refine h_slen C hX hbl dL_20 ?_
    refine h_bipush C dL_21 (by decide) ?_
    refine h_isub (r := 0) C dL_23 (by decide) ?_
    refine h_icmp_gt (tgt := 2360) C dL_24 (by decide) ⟨by decide, by decide⟩ ⟨by decide, by decide⟩ (fun h15 => ?_) (fun h15 => ?_)
    · refine h_iconst C dL_2360 ?_
      exact h_lawret C hr hk dL_2361
    · exfalso; omega
  · refine h_iconst C dL_2352 ?_
    exfalso; omega
set_option maxHeartbeats 4000000 in
set_option maxRecDepth 20000 in
theorem law_out {p : Program} {e : Env} {s : State} {m : MethodId} {below : List Frame} {meth : Method} {c : Code} (l : Launch) {b : Nat} {xs : Nat → Int32} {D : va_G} {cy : Nat → ClassId} (C : hpC p s m #[.ref b] c code 4 RL D cy) (hr : meth.sig.returnType = ret) (hk : meth.locks = false) (hX : va_X b 6 xs s s.heap) (hbl : b < s.heap.size) : hpV p l e room_1 s m #[.ref b] below meth c 217 24316 4 D cy s.heap.size s.heap (lw_Z below #[Value.ref b] s) hp0 2354 [(3, .int (hpI 0)), (2, .ref (s.heap.size + 195)), (1, .ref (s.heap.size + 0)), (0, .ref b)] [] := by
  refine h_iinc (lv' := [(3, .int (hpI 6)), (2, .ref (s.heap.size + 195)), (1, .ref (s.heap.size + 0)), (0, .ref b)]) C dL_2354 0 rfl rfl (by decide) rfl ?_
  refine h_goto (tgt := 18) C dL_2357 (by decide) ?_
  refine h_iload_n C dL_18 0 rfl rfl ?_
  refine h_aload_n C dL_19 3 rfl rfl ?_
  refine h_slen C hX hbl dL_20 ?_
  refine h_bipush C dL_21 (by decide) ?_
  refine h_isub (r := 0) C dL_23 (by decide) ?_
  refine h_icmp_gt (tgt := 2360) C dL_24 (by decide) ⟨by decide, by decide⟩ ⟨by decide, by decide⟩ (fun h2 => ?_) (fun h2 => ?_)
  · refine h_iconst C dL_2360 ?_
    exact h_lawret C hr hk dL_2361
  · exfalso; omega

set_option maxHeartbeats 4000000 in
set_option maxRecDepth 20000 in
theorem law_25 {p : Program} {e : Env} {s : State} {m : MethodId} {below : List Frame} {meth : Method} {c : Code} (l : Launch) {b L : Nat} {xs : Nat → Int32} {D : va_G} {cy : Nat → ClassId} (C : hpC p s m #[.ref b] c code 4 RL D cy) (Z : hpStr s.heap.size cy s s.heap) (hr : meth.sig.returnType = ret) (hk : meth.locks = false) (hX : va_X b L xs s s.heap) (hbl : b < s.heap.size) (hL : L ≤ 3072) (σ : hpMem) (hI : hpInv σ) (hR : hpR72 σ) (i : Int) (hi0 : 0 ≤ i) (hi : i + 6 ≤ (L : Int)) (K : ∀ τ : hpMem, hpInv τ → hpR72 τ → hpV p l e room_1 s m #[.ref b] below meth c 217 24316 4 D cy s.heap.size s.heap (lw_Z below #[Value.ref b] s) τ 2352 [(3, .int (hpI i)), (2, .ref (s.heap.size + 195)), (1, .ref (s.heap.size + 0)), (0, .ref b)] []) : hpV p l e room_1 s m #[.ref b] below meth c 217 24316 4 D cy s.heap.size s.heap (lw_Z below #[Value.ref b] s) σ 931 [(3, .int (hpI i)), (2, .ref (s.heap.size + 195)), (1, .ref (s.heap.size + 0)), (0, .ref b)] [] := by
  refine h_aload_n C dL_931 2 rfl rfl ?_
  refine h_aload_n C dL_932 3 rfl rfl ?_
  refine h_iload_n C dL_933 0 rfl rfl ?_
  refine h_iconst C dL_934 ?_
  refine h_iadd C dL_935 rfl ?_
  refine h_sldL C hX hbl (i + 1).toNat (Int.toNat_of_nonneg (by omega)) (by omega) (by omega) dL_936 ?_
  have hq1 := hpR_of (xs (i + 1).toNat)
  obtain ⟨hq1a, hq1b⟩ := hq1
  obtain ⟨v1, ev1⟩ : ∃ v : Int, v = (xs (i + 1).toNat).toInt := ⟨_, rfl⟩
  rw [← ev1] at hq1a hq1b ⊢
  refine h_aload_n C dL_937 3 rfl rfl ?_
  refine h_iload_n C dL_938 0 rfl rfl ?_
  refine h_iconst C dL_939 ?_
  refine h_iadd C dL_940 rfl ?_
  refine h_sldL C hX hbl (i + 2).toNat (Int.toNat_of_nonneg (by omega)) (by omega) (by omega) dL_941 ?_
  have hq2 := hpR_of (xs (i + 2).toNat)
  obtain ⟨hq2a, hq2b⟩ := hq2
  obtain ⟨v2, ev2⟩ : ∃ v : Int, v = (xs (i + 2).toNat).toInt := ⟨_, rfl⟩
  rw [← ev2] at hq2a hq2b ⊢
  refine h_callV (As := [.int (hpI v1), .int (hpI v2)]) (rest := []) C Z yyX8_above wd_776 (tgX8_above l D cy s.heap.size _ v1 ⟨by omega, by omega⟩ v2 ⟨by omega, by omega⟩ hI) kd_0 rfl rfl ⟨rfl, rfl, Nat.le_of_ble_eq_true rfl, Nat.le_of_ble_eq_true rfl⟩ ⟨Nat.le_of_ble_eq_true rfl, Nat.le_of_ble_eq_true rfl⟩ (Nat.le_of_ble_eq_true rfl) dL_942 (fun r3 τ3 hp3 => ?_)
  obtain ⟨⟨x3, rfl, ⟨hx3a, hx3b⟩⟩, hI3, hG3⟩ := hp3
  show hpV _ _ _ _ _ _ _ _ _ _ _ _ _ _ _ _ _ _ _ _ _ (_ :: _)
  refine h_pop C rfl dL_945 ?_
  refine h_aload_n C dL_946 1 rfl rfl ?_
  refine h_aload_n C dL_947 3 rfl rfl ?_
  refine h_iload_n C dL_948 0 rfl rfl ?_
  refine h_iconst C dL_949 ?_
  refine h_iadd C dL_950 rfl ?_
  refine h_sldL C hX hbl (i + 1).toNat (Int.toNat_of_nonneg (by omega)) (by omega) (by omega) dL_951 ?_
  have hq4 := hpR_of (xs (i + 1).toNat)
  obtain ⟨hq4a, hq4b⟩ := hq4
  obtain ⟨v4, ev4⟩ : ∃ v : Int, v = (xs (i + 1).toNat).toInt := ⟨_, rfl⟩
  rw [← ev4] at hq4a hq4b ⊢
  have ez4 : v1 = v4 := ev1.trans ev4.symm
  subst ez4
  refine h_aload_n C dL_952 3 rfl rfl ?_
  refine h_iload_n C dL_953 0 rfl rfl ?_
  refine h_iconst C dL_954 ?_
  refine h_iadd C dL_955 rfl ?_
  refine h_sldL C hX hbl (i + 2).toNat (Int.toNat_of_nonneg (by omega)) (by omega) (by omega) dL_956 ?_
  have hq5 := hpR_of (xs (i + 2).toNat)
  obtain ⟨hq5a, hq5b⟩ := hq5
  obtain ⟨v5, ev5⟩ : ∃ v : Int, v = (xs (i + 2).toNat).toInt := ⟨_, rfl⟩
  rw [← ev5] at hq5a hq5b ⊢
  have ez5 : v2 = v5 := ev2.trans ev5.symm
  subst ez5
  refine h_callV (As := [.int (hpI v1), .int (hpI v2)]) (rest := []) C Z yyX9_above wd_1681 (tgX9_above l D cy s.heap.size _ v1 ⟨by omega, by omega⟩ v2 ⟨by omega, by omega⟩ hI3) kd_195 rfl rfl ⟨rfl, rfl, Nat.le_of_ble_eq_true rfl, Nat.le_of_ble_eq_true rfl⟩ ⟨Nat.le_of_ble_eq_true rfl, Nat.le_of_ble_eq_true rfl⟩ (Nat.le_of_ble_eq_true rfl) dL_957 (fun r6 τ6 hp6 => ?_)
  obtain ⟨⟨x6, rfl, ⟨hx6a, hx6b⟩⟩, hI6, hG6⟩ := hp6
  show hpV _ _ _ _ _ _ _ _ _ _ _ _ _ _ _ _ _ _ _ _ _ (_ :: _)
  refine h_pop C rfl dL_960 ?_
  refine h_goto (tgt := 2352) C dL_961 (by decide) ?_
  exact K τ6 hI6 (hR.fr (fun j i h => (hG6 j i (by omega)).trans (hG3 j i (by omega))))
set_option maxHeartbeats 4000000 in
set_option maxRecDepth 20000 in
theorem law_26 {p : Program} {e : Env} {s : State} {m : MethodId} {below : List Frame} {meth : Method} {c : Code} (l : Launch) {b L : Nat} {xs : Nat → Int32} {D : va_G} {cy : Nat → ClassId} (C : hpC p s m #[.ref b] c code 4 RL D cy) (Z : hpStr s.heap.size cy s s.heap) (hr : meth.sig.returnType = ret) (hk : meth.locks = false) (hX : va_X b L xs s s.heap) (hbl : b < s.heap.size) (hL : L ≤ 3072) (σ : hpMem) (hI : hpInv σ) (hR : hpR72 σ) (i : Int) (hi0 : 0 ≤ i) (hi : i + 6 ≤ (L : Int)) (K : ∀ τ : hpMem, hpInv τ → hpR72 τ → hpV p l e room_1 s m #[.ref b] below meth c 217 24316 4 D cy s.heap.size s.heap (lw_Z below #[Value.ref b] s) τ 2352 [(3, .int (hpI i)), (2, .ref (s.heap.size + 195)), (1, .ref (s.heap.size + 0)), (0, .ref b)] []) : hpV p l e room_1 s m #[.ref b] below meth c 217 24316 4 D cy s.heap.size s.heap (lw_Z below #[Value.ref b] s) σ 964 [(3, .int (hpI i)), (2, .ref (s.heap.size + 195)), (1, .ref (s.heap.size + 0)), (0, .ref b)] [] := by
  refine h_aload_n C dL_964 2 rfl rfl ?_
  refine h_aload_n C dL_965 3 rfl rfl ?_
  refine h_iload_n C dL_966 0 rfl rfl ?_
  refine h_iconst C dL_967 ?_
  refine h_iadd C dL_968 rfl ?_
  refine h_sldL C hX hbl (i + 1).toNat (Int.toNat_of_nonneg (by omega)) (by omega) (by omega) dL_969 ?_
  have hq1 := hpR_of (xs (i + 1).toNat)
  obtain ⟨hq1a, hq1b⟩ := hq1
  obtain ⟨v1, ev1⟩ : ∃ v : Int, v = (xs (i + 1).toNat).toInt := ⟨_, rfl⟩
  rw [← ev1] at hq1a hq1b ⊢
  refine h_callV (As := [.int (hpI v1)]) (rest := []) C Z yyX8_tail wd_785 (tgX8_tail l D cy s.heap.size _ v1 ⟨by omega, by omega⟩ hI) kd_0 rfl rfl ⟨rfl, rfl, Nat.le_of_ble_eq_true rfl, Nat.le_of_ble_eq_true rfl⟩ ⟨Nat.le_of_ble_eq_true rfl, Nat.le_of_ble_eq_true rfl⟩ (Nat.le_of_ble_eq_true rfl) dL_970 (fun r2 τ2 hp2 => ?_)
  obtain ⟨⟨x2, rfl, ⟨hx2a, hx2b⟩⟩, hI2, hG2⟩ := hp2
  show hpV _ _ _ _ _ _ _ _ _ _ _ _ _ _ _ _ _ _ _ _ _ (_ :: _)
  refine h_pop C rfl dL_973 ?_
  refine h_aload_n C dL_974 1 rfl rfl ?_
  refine h_aload_n C dL_975 3 rfl rfl ?_
  refine h_iload_n C dL_976 0 rfl rfl ?_
  refine h_iconst C dL_977 ?_
  refine h_iadd C dL_978 rfl ?_
  refine h_sldL C hX hbl (i + 1).toNat (Int.toNat_of_nonneg (by omega)) (by omega) (by omega) dL_979 ?_
  have hq3 := hpR_of (xs (i + 1).toNat)
  obtain ⟨hq3a, hq3b⟩ := hq3
  obtain ⟨v3, ev3⟩ : ∃ v : Int, v = (xs (i + 1).toNat).toInt := ⟨_, rfl⟩
  rw [← ev3] at hq3a hq3b ⊢
  have ez3 : v1 = v3 := ev1.trans ev3.symm
  subst ez3
  refine h_callV (As := [.int (hpI v1)]) (rest := []) C Z yyX9_tail wd_1689 (tgX9_tail l D cy s.heap.size _ v1 ⟨by omega, by omega⟩ hI2) kd_195 rfl rfl ⟨rfl, rfl, Nat.le_of_ble_eq_true rfl, Nat.le_of_ble_eq_true rfl⟩ ⟨Nat.le_of_ble_eq_true rfl, Nat.le_of_ble_eq_true rfl⟩ (Nat.le_of_ble_eq_true rfl) dL_980 (fun r4 τ4 hp4 => ?_)
  obtain ⟨⟨x4, rfl, ⟨hx4a, hx4b⟩⟩, hI4, hG4⟩ := hp4
  show hpV _ _ _ _ _ _ _ _ _ _ _ _ _ _ _ _ _ _ _ _ _ (_ :: _)
  refine h_pop C rfl dL_983 ?_
  refine h_goto (tgt := 2352) C dL_984 (by decide) ?_
  exact K τ4 hI4 (hR.fr (fun j i h => (hG4 j i (by omega)).trans (hG2 j i (by omega))))
set_option maxHeartbeats 4000000 in
set_option maxRecDepth 20000 in
theorem law_27 {p : Program} {e : Env} {s : State} {m : MethodId} {below : List Frame} {meth : Method} {c : Code} (l : Launch) {b L : Nat} {xs : Nat → Int32} {D : va_G} {cy : Nat → ClassId} (C : hpC p s m #[.ref b] c code 4 RL D cy) (Z : hpStr s.heap.size cy s s.heap) (hr : meth.sig.returnType = ret) (hk : meth.locks = false) (hX : va_X b L xs s s.heap) (hbl : b < s.heap.size) (hL : L ≤ 3072) (σ : hpMem) (hI : hpInv σ) (hR : hpR72 σ) (i : Int) (hi0 : 0 ≤ i) (hi : i + 6 ≤ (L : Int)) (K : ∀ τ : hpMem, hpInv τ → hpR72 τ → hpV p l e room_1 s m #[.ref b] below meth c 217 24316 4 D cy s.heap.size s.heap (lw_Z below #[Value.ref b] s) τ 2352 [(3, .int (hpI i)), (2, .ref (s.heap.size + 195)), (1, .ref (s.heap.size + 0)), (0, .ref b)] []) : hpV p l e room_1 s m #[.ref b] below meth c 217 24316 4 D cy s.heap.size s.heap (lw_Z below #[Value.ref b] s) σ 987 [(3, .int (hpI i)), (2, .ref (s.heap.size + 195)), (1, .ref (s.heap.size + 0)), (0, .ref b)] [] := by
  refine h_aload_n C dL_987 2 rfl rfl ?_
  refine h_aload_n C dL_988 3 rfl rfl ?_
  refine h_iload_n C dL_989 0 rfl rfl ?_
  refine h_iconst C dL_990 ?_
  refine h_iadd C dL_991 rfl ?_
  refine h_sldL C hX hbl (i + 1).toNat (Int.toNat_of_nonneg (by omega)) (by omega) (by omega) dL_992 ?_
  have hq1 := hpR_of (xs (i + 1).toNat)
  obtain ⟨hq1a, hq1b⟩ := hq1
  obtain ⟨v1, ev1⟩ : ∃ v : Int, v = (xs (i + 1).toNat).toInt := ⟨_, rfl⟩
  rw [← ev1] at hq1a hq1b ⊢
  refine h_callV (As := [.int (hpI v1)]) (rest := []) C Z yyX8_length wd_814 (tgX8_length l D cy s.heap.size _ v1 ⟨by omega, by omega⟩ hI) kd_0 rfl rfl ⟨rfl, rfl, Nat.le_of_ble_eq_true rfl, Nat.le_of_ble_eq_true rfl⟩ ⟨Nat.le_of_ble_eq_true rfl, Nat.le_of_ble_eq_true rfl⟩ (Nat.le_of_ble_eq_true rfl) dL_993 (fun r2 τ2 hp2 => ?_)
  obtain ⟨⟨x2, rfl, ⟨hx2a, hx2b⟩⟩, hI2, hG2⟩ := hp2
  show hpV _ _ _ _ _ _ _ _ _ _ _ _ _ _ _ _ _ _ _ _ _ (_ :: _)
  refine h_pop C rfl dL_996 ?_
  refine h_aload_n C dL_997 1 rfl rfl ?_
  refine h_aload_n C dL_998 3 rfl rfl ?_
  refine h_iload_n C dL_999 0 rfl rfl ?_
  refine h_iconst C dL_1000 ?_
  refine h_iadd C dL_1001 rfl ?_
  refine h_sldL C hX hbl (i + 1).toNat (Int.toNat_of_nonneg (by omega)) (by omega) (by omega) dL_1002 ?_
  have hq3 := hpR_of (xs (i + 1).toNat)
  obtain ⟨hq3a, hq3b⟩ := hq3
  obtain ⟨v3, ev3⟩ : ∃ v : Int, v = (xs (i + 1).toNat).toInt := ⟨_, rfl⟩
  rw [← ev3] at hq3a hq3b ⊢
  have ez3 : v1 = v3 := ev1.trans ev3.symm
  subst ez3
  refine h_callV (As := [.int (hpI v1)]) (rest := []) C Z yyX9_length wd_1697 (tgX9_length l D cy s.heap.size _ v1 ⟨by omega, by omega⟩ hI2) kd_195 rfl rfl ⟨rfl, rfl, Nat.le_of_ble_eq_true rfl, Nat.le_of_ble_eq_true rfl⟩ ⟨Nat.le_of_ble_eq_true rfl, Nat.le_of_ble_eq_true rfl⟩ (Nat.le_of_ble_eq_true rfl) dL_1003 (fun r4 τ4 hp4 => ?_)
  obtain ⟨⟨x4, rfl, ⟨hx4a, hx4b⟩⟩, hI4, hG4⟩ := hp4
  show hpV _ _ _ _ _ _ _ _ _ _ _ _ _ _ _ _ _ _ _ _ _ (_ :: _)
  refine h_pop C rfl dL_1006 ?_
  refine h_goto (tgt := 2352) C dL_1007 (by decide) ?_
  exact K τ4 hI4 (hR.fr (fun j i h => (hG4 j i (by omega)).trans (hG2 j i (by omega))))
set_option maxHeartbeats 4000000 in
set_option maxRecDepth 20000 in
theorem law_28 {p : Program} {e : Env} {s : State} {m : MethodId} {below : List Frame} {meth : Method} {c : Code} (l : Launch) {b L : Nat} {xs : Nat → Int32} {D : va_G} {cy : Nat → ClassId} (C : hpC p s m #[.ref b] c code 4 RL D cy) (Z : hpStr s.heap.size cy s s.heap) (hr : meth.sig.returnType = ret) (hk : meth.locks = false) (hX : va_X b L xs s s.heap) (hbl : b < s.heap.size) (hL : L ≤ 3072) (σ : hpMem) (hI : hpInv σ) (hR : hpR72 σ) (i : Int) (hi0 : 0 ≤ i) (hi : i + 6 ≤ (L : Int)) (K : ∀ τ : hpMem, hpInv τ → hpR72 τ → hpV p l e room_1 s m #[.ref b] below meth c 217 24316 4 D cy s.heap.size s.heap (lw_Z below #[Value.ref b] s) τ 2352 [(3, .int (hpI i)), (2, .ref (s.heap.size + 195)), (1, .ref (s.heap.size + 0)), (0, .ref b)] []) : hpV p l e room_1 s m #[.ref b] below meth c 217 24316 4 D cy s.heap.size s.heap (lw_Z below #[Value.ref b] s) σ 1010 [(3, .int (hpI i)), (2, .ref (s.heap.size + 195)), (1, .ref (s.heap.size + 0)), (0, .ref b)] [] := by
  refine h_aload_n C dL_1010 2 rfl rfl ?_
  refine h_aload_n C dL_1011 3 rfl rfl ?_
  refine h_iload_n C dL_1012 0 rfl rfl ?_
  refine h_iconst C dL_1013 ?_
  refine h_iadd C dL_1014 rfl ?_
  refine h_sldL C hX hbl (i + 1).toNat (Int.toNat_of_nonneg (by omega)) (by omega) (by omega) dL_1015 ?_
  have hq1 := hpR_of (xs (i + 1).toNat)
  obtain ⟨hq1a, hq1b⟩ := hq1
  obtain ⟨v1, ev1⟩ : ∃ v : Int, v = (xs (i + 1).toNat).toInt := ⟨_, rfl⟩
  rw [← ev1] at hq1a hq1b ⊢
  refine h_callV (As := [.int (hpI v1)]) (rest := []) C Z yyX8_ring wd_818 (tgX8_ring l D cy s.heap.size _ v1 ⟨by omega, by omega⟩ hI) kd_0 rfl rfl ⟨rfl, rfl, Nat.le_of_ble_eq_true rfl, Nat.le_of_ble_eq_true rfl⟩ ⟨Nat.le_of_ble_eq_true rfl, Nat.le_of_ble_eq_true rfl⟩ (Nat.le_of_ble_eq_true rfl) dL_1016 (fun r2 τ2 hp2 => ?_)
  obtain ⟨⟨x2, rfl, ⟨hx2a, hx2b⟩⟩, hI2, hG2⟩ := hp2
  show hpV _ _ _ _ _ _ _ _ _ _ _ _ _ _ _ _ _ _ _ _ _ (_ :: _)
  refine h_pop C rfl dL_1019 ?_
  refine h_aload_n C dL_1020 1 rfl rfl ?_
  refine h_aload_n C dL_1021 3 rfl rfl ?_
  refine h_iload_n C dL_1022 0 rfl rfl ?_
  refine h_iconst C dL_1023 ?_
  refine h_iadd C dL_1024 rfl ?_
  refine h_sldL C hX hbl (i + 1).toNat (Int.toNat_of_nonneg (by omega)) (by omega) (by omega) dL_1025 ?_
  have hq3 := hpR_of (xs (i + 1).toNat)
  obtain ⟨hq3a, hq3b⟩ := hq3
  obtain ⟨v3, ev3⟩ : ∃ v : Int, v = (xs (i + 1).toNat).toInt := ⟨_, rfl⟩
  rw [← ev3] at hq3a hq3b ⊢
  have ez3 : v1 = v3 := ev1.trans ev3.symm
  subst ez3
  refine h_callV (As := [.int (hpI v1)]) (rest := []) C Z yyX9_ring wd_1701 (tgX9_ring l D cy s.heap.size _ v1 ⟨by omega, by omega⟩ hI2) kd_195 rfl rfl ⟨rfl, rfl, Nat.le_of_ble_eq_true rfl, Nat.le_of_ble_eq_true rfl⟩ ⟨Nat.le_of_ble_eq_true rfl, Nat.le_of_ble_eq_true rfl⟩ (Nat.le_of_ble_eq_true rfl) dL_1026 (fun r4 τ4 hp4 => ?_)
  obtain ⟨⟨x4, rfl, ⟨hx4a, hx4b⟩⟩, hI4, hG4⟩ := hp4
  show hpV _ _ _ _ _ _ _ _ _ _ _ _ _ _ _ _ _ _ _ _ _ (_ :: _)
  refine h_pop C rfl dL_1029 ?_
  refine h_goto (tgt := 2352) C dL_1030 (by decide) ?_
  exact K τ4 hI4 (hR.fr (fun j i h => (hG4 j i (by omega)).trans (hG2 j i (by omega))))
set_option maxHeartbeats 4000000 in
set_option maxRecDepth 20000 in
theorem law_29 {p : Program} {e : Env} {s : State} {m : MethodId} {below : List Frame} {meth : Method} {c : Code} (l : Launch) {b L : Nat} {xs : Nat → Int32} {D : va_G} {cy : Nat → ClassId} (C : hpC p s m #[.ref b] c code 4 RL D cy) (Z : hpStr s.heap.size cy s s.heap) (hr : meth.sig.returnType = ret) (hk : meth.locks = false) (hX : va_X b L xs s s.heap) (hbl : b < s.heap.size) (hL : L ≤ 3072) (σ : hpMem) (hI : hpInv σ) (hR : hpR72 σ) (i : Int) (hi0 : 0 ≤ i) (hi : i + 6 ≤ (L : Int)) (K : ∀ τ : hpMem, hpInv τ → hpR72 τ → hpV p l e room_1 s m #[.ref b] below meth c 217 24316 4 D cy s.heap.size s.heap (lw_Z below #[Value.ref b] s) τ 2352 [(3, .int (hpI i)), (2, .ref (s.heap.size + 195)), (1, .ref (s.heap.size + 0)), (0, .ref b)] []) : hpV p l e room_1 s m #[.ref b] below meth c 217 24316 4 D cy s.heap.size s.heap (lw_Z below #[Value.ref b] s) σ 1033 [(3, .int (hpI i)), (2, .ref (s.heap.size + 195)), (1, .ref (s.heap.size + 0)), (0, .ref b)] [] := by
  refine h_aload_n C dL_1033 2 rfl rfl ?_
  refine h_aload_n C dL_1034 3 rfl rfl ?_
  refine h_iload_n C dL_1035 0 rfl rfl ?_
  refine h_iconst C dL_1036 ?_
  refine h_iadd C dL_1037 rfl ?_
  refine h_sldL C hX hbl (i + 1).toNat (Int.toNat_of_nonneg (by omega)) (by omega) (by omega) dL_1038 ?_
  have hq1 := hpR_of (xs (i + 1).toNat)
  obtain ⟨hq1a, hq1b⟩ := hq1
  obtain ⟨v1, ev1⟩ : ∃ v : Int, v = (xs (i + 1).toNat).toInt := ⟨_, rfl⟩
  rw [← ev1] at hq1a hq1b ⊢
  refine h_aload_n C dL_1039 3 rfl rfl ?_
  refine h_iload_n C dL_1040 0 rfl rfl ?_
  refine h_iconst C dL_1041 ?_
  refine h_iadd C dL_1042 rfl ?_
  refine h_sldL C hX hbl (i + 2).toNat (Int.toNat_of_nonneg (by omega)) (by omega) (by omega) dL_1043 ?_
  have hq2 := hpR_of (xs (i + 2).toNat)
  obtain ⟨hq2a, hq2b⟩ := hq2
  obtain ⟨v2, ev2⟩ : ∃ v : Int, v = (xs (i + 2).toNat).toInt := ⟨_, rfl⟩
  rw [← ev2] at hq2a hq2b ⊢
  refine h_aload_n C dL_1044 3 rfl rfl ?_
  refine h_iload_n C dL_1045 0 rfl rfl ?_
  refine h_iconst C dL_1046 ?_
  refine h_iadd C dL_1047 rfl ?_
  refine h_sldL C hX hbl (i + 3).toNat (Int.toNat_of_nonneg (by omega)) (by omega) (by omega) dL_1048 ?_
  have hq3 := hpR_of (xs (i + 3).toNat)
  obtain ⟨hq3a, hq3b⟩ := hq3
  obtain ⟨v3, ev3⟩ : ∃ v : Int, v = (xs (i + 3).toNat).toInt := ⟨_, rfl⟩
  rw [← ev3] at hq3a hq3b ⊢
  refine h_callV (As := [.int (hpI v1), .int (hpI v2), .int (hpI v3)]) (rest := []) C Z yyX8_later wd_822 (tgX8_later l D cy s.heap.size _ v1 ⟨by omega, by omega⟩ v2 ⟨by omega, by omega⟩ v3 ⟨by omega, by omega⟩ hI) kd_0 rfl rfl ⟨rfl, rfl, Nat.le_of_ble_eq_true rfl, Nat.le_of_ble_eq_true rfl⟩ ⟨Nat.le_of_ble_eq_true rfl, Nat.le_of_ble_eq_true rfl⟩ (Nat.le_of_ble_eq_true rfl) dL_1049 (fun r4 τ4 hp4 => ?_)
  obtain ⟨⟨x4, rfl, ⟨hx4a, hx4b⟩⟩, hI4, hG4⟩ := hp4
  show hpV _ _ _ _ _ _ _ _ _ _ _ _ _ _ _ _ _ _ _ _ _ (_ :: _)
  refine h_pop C rfl dL_1052 ?_
  refine h_aload_n C dL_1053 1 rfl rfl ?_
  refine h_aload_n C dL_1054 3 rfl rfl ?_
  refine h_iload_n C dL_1055 0 rfl rfl ?_
  refine h_iconst C dL_1056 ?_
  refine h_iadd C dL_1057 rfl ?_
  refine h_sldL C hX hbl (i + 1).toNat (Int.toNat_of_nonneg (by omega)) (by omega) (by omega) dL_1058 ?_
  have hq5 := hpR_of (xs (i + 1).toNat)
  obtain ⟨hq5a, hq5b⟩ := hq5
  obtain ⟨v5, ev5⟩ : ∃ v : Int, v = (xs (i + 1).toNat).toInt := ⟨_, rfl⟩
  rw [← ev5] at hq5a hq5b ⊢
  have ez5 : v1 = v5 := ev1.trans ev5.symm
  subst ez5
  refine h_aload_n C dL_1059 3 rfl rfl ?_
  refine h_iload_n C dL_1060 0 rfl rfl ?_
  refine h_iconst C dL_1061 ?_
  refine h_iadd C dL_1062 rfl ?_
  refine h_sldL C hX hbl (i + 2).toNat (Int.toNat_of_nonneg (by omega)) (by omega) (by omega) dL_1063 ?_
  have hq6 := hpR_of (xs (i + 2).toNat)
  obtain ⟨hq6a, hq6b⟩ := hq6
  obtain ⟨v6, ev6⟩ : ∃ v : Int, v = (xs (i + 2).toNat).toInt := ⟨_, rfl⟩
  rw [← ev6] at hq6a hq6b ⊢
  have ez6 : v2 = v6 := ev2.trans ev6.symm
  subst ez6
  refine h_aload_n C dL_1064 3 rfl rfl ?_
  refine h_iload_n C dL_1065 0 rfl rfl ?_
  refine h_iconst C dL_1066 ?_
  refine h_iadd C dL_1067 rfl ?_
  refine h_sldL C hX hbl (i + 3).toNat (Int.toNat_of_nonneg (by omega)) (by omega) (by omega) dL_1068 ?_
  have hq7 := hpR_of (xs (i + 3).toNat)
  obtain ⟨hq7a, hq7b⟩ := hq7
  obtain ⟨v7, ev7⟩ : ∃ v : Int, v = (xs (i + 3).toNat).toInt := ⟨_, rfl⟩
  rw [← ev7] at hq7a hq7b ⊢
  have ez7 : v3 = v7 := ev3.trans ev7.symm
  subst ez7
  refine h_callV (As := [.int (hpI v1), .int (hpI v2), .int (hpI v3)]) (rest := []) C Z yyX9_later wd_1705 (tgX9_later l D cy s.heap.size _ v1 ⟨by omega, by omega⟩ v2 ⟨by omega, by omega⟩ v3 ⟨by omega, by omega⟩ hI4) kd_195 rfl rfl ⟨rfl, rfl, Nat.le_of_ble_eq_true rfl, Nat.le_of_ble_eq_true rfl⟩ ⟨Nat.le_of_ble_eq_true rfl, Nat.le_of_ble_eq_true rfl⟩ (Nat.le_of_ble_eq_true rfl) dL_1069 (fun r8 τ8 hp8 => ?_)
  obtain ⟨⟨x8, rfl, ⟨hx8a, hx8b⟩⟩, hI8, hG8⟩ := hp8
  show hpV _ _ _ _ _ _ _ _ _ _ _ _ _ _ _ _ _ _ _ _ _ (_ :: _)
  refine h_pop C rfl dL_1072 ?_
  refine h_goto (tgt := 2352) C dL_1073 (by decide) ?_
  exact K τ8 hI8 (hR.fr (fun j i h => (hG8 j i (by omega)).trans (hG4 j i (by omega))))
set_option maxHeartbeats 4000000 in
set_option maxRecDepth 20000 in
theorem law_30 {p : Program} {e : Env} {s : State} {m : MethodId} {below : List Frame} {meth : Method} {c : Code} (l : Launch) {b L : Nat} {xs : Nat → Int32} {D : va_G} {cy : Nat → ClassId} (C : hpC p s m #[.ref b] c code 4 RL D cy) (Z : hpStr s.heap.size cy s s.heap) (hr : meth.sig.returnType = ret) (hk : meth.locks = false) (hX : va_X b L xs s s.heap) (hbl : b < s.heap.size) (hL : L ≤ 3072) (σ : hpMem) (hI : hpInv σ) (hR : hpR72 σ) (i : Int) (hi0 : 0 ≤ i) (hi : i + 6 ≤ (L : Int)) (K : ∀ τ : hpMem, hpInv τ → hpR72 τ → hpV p l e room_1 s m #[.ref b] below meth c 217 24316 4 D cy s.heap.size s.heap (lw_Z below #[Value.ref b] s) τ 2352 [(3, .int (hpI i)), (2, .ref (s.heap.size + 195)), (1, .ref (s.heap.size + 0)), (0, .ref b)] []) : hpV p l e room_1 s m #[.ref b] below meth c 217 24316 4 D cy s.heap.size s.heap (lw_Z below #[Value.ref b] s) σ 1076 [(3, .int (hpI i)), (2, .ref (s.heap.size + 195)), (1, .ref (s.heap.size + 0)), (0, .ref b)] [] := by
  refine h_aload_n C dL_1076 2 rfl rfl ?_
  refine h_aload_n C dL_1077 3 rfl rfl ?_
  refine h_iload_n C dL_1078 0 rfl rfl ?_
  refine h_iconst C dL_1079 ?_
  refine h_iadd C dL_1080 rfl ?_
  refine h_sldL C hX hbl (i + 1).toNat (Int.toNat_of_nonneg (by omega)) (by omega) (by omega) dL_1081 ?_
  have hq1 := hpR_of (xs (i + 1).toNat)
  obtain ⟨hq1a, hq1b⟩ := hq1
  obtain ⟨v1, ev1⟩ : ∃ v : Int, v = (xs (i + 1).toNat).toInt := ⟨_, rfl⟩
  rw [← ev1] at hq1a hq1b ⊢
  refine h_callV (As := [.int (hpI v1)]) (rest := []) C Z yyX8_soon wd_828 (tgX8_soon l D cy s.heap.size _ v1 ⟨by omega, by omega⟩ hI) kd_0 rfl rfl ⟨rfl, rfl, Nat.le_of_ble_eq_true rfl, Nat.le_of_ble_eq_true rfl⟩ ⟨Nat.le_of_ble_eq_true rfl, Nat.le_of_ble_eq_true rfl⟩ (Nat.le_of_ble_eq_true rfl) dL_1082 (fun r2 τ2 hp2 => ?_)
  obtain ⟨⟨x2, rfl, ⟨hx2a, hx2b⟩⟩, hI2, hG2⟩ := hp2
  show hpV _ _ _ _ _ _ _ _ _ _ _ _ _ _ _ _ _ _ _ _ _ (_ :: _)
  refine h_pop C rfl dL_1085 ?_
  refine h_aload_n C dL_1086 1 rfl rfl ?_
  refine h_aload_n C dL_1087 3 rfl rfl ?_
  refine h_iload_n C dL_1088 0 rfl rfl ?_
  refine h_iconst C dL_1089 ?_
  refine h_iadd C dL_1090 rfl ?_
  refine h_sldL C hX hbl (i + 1).toNat (Int.toNat_of_nonneg (by omega)) (by omega) (by omega) dL_1091 ?_
  have hq3 := hpR_of (xs (i + 1).toNat)
  obtain ⟨hq3a, hq3b⟩ := hq3
  obtain ⟨v3, ev3⟩ : ∃ v : Int, v = (xs (i + 1).toNat).toInt := ⟨_, rfl⟩
  rw [← ev3] at hq3a hq3b ⊢
  have ez3 : v1 = v3 := ev1.trans ev3.symm
  subst ez3
  refine h_callV (As := [.int (hpI v1)]) (rest := []) C Z yyX9_soon wd_1710 (tgX9_soon l D cy s.heap.size _ v1 ⟨by omega, by omega⟩ hI2) kd_195 rfl rfl ⟨rfl, rfl, Nat.le_of_ble_eq_true rfl, Nat.le_of_ble_eq_true rfl⟩ ⟨Nat.le_of_ble_eq_true rfl, Nat.le_of_ble_eq_true rfl⟩ (Nat.le_of_ble_eq_true rfl) dL_1092 (fun r4 τ4 hp4 => ?_)
  obtain ⟨⟨x4, rfl, ⟨hx4a, hx4b⟩⟩, hI4, hG4⟩ := hp4
  show hpV _ _ _ _ _ _ _ _ _ _ _ _ _ _ _ _ _ _ _ _ _ (_ :: _)
  refine h_pop C rfl dL_1095 ?_
  refine h_goto (tgt := 2352) C dL_1096 (by decide) ?_
  exact K τ4 hI4 (hR.fr (fun j i h => (hG4 j i (by omega)).trans (hG2 j i (by omega))))
set_option maxHeartbeats 4000000 in
set_option maxRecDepth 20000 in
theorem law_31 {p : Program} {e : Env} {s : State} {m : MethodId} {below : List Frame} {meth : Method} {c : Code} (l : Launch) {b L : Nat} {xs : Nat → Int32} {D : va_G} {cy : Nat → ClassId} (C : hpC p s m #[.ref b] c code 4 RL D cy) (Z : hpStr s.heap.size cy s s.heap) (hr : meth.sig.returnType = ret) (hk : meth.locks = false) (hX : va_X b L xs s s.heap) (hbl : b < s.heap.size) (hL : L ≤ 3072) (σ : hpMem) (hI : hpInv σ) (hR : hpR72 σ) (i : Int) (hi0 : 0 ≤ i) (hi : i + 6 ≤ (L : Int)) (K : ∀ τ : hpMem, hpInv τ → hpR72 τ → hpV p l e room_1 s m #[.ref b] below meth c 217 24316 4 D cy s.heap.size s.heap (lw_Z below #[Value.ref b] s) τ 2352 [(3, .int (hpI i)), (2, .ref (s.heap.size + 195)), (1, .ref (s.heap.size + 0)), (0, .ref b)] []) : hpV p l e room_1 s m #[.ref b] below meth c 217 24316 4 D cy s.heap.size s.heap (lw_Z below #[Value.ref b] s) σ 1099 [(3, .int (hpI i)), (2, .ref (s.heap.size + 195)), (1, .ref (s.heap.size + 0)), (0, .ref b)] [] := by
  refine h_aload_n C dL_1099 2 rfl rfl ?_
  refine h_aload_n C dL_1100 3 rfl rfl ?_
  refine h_iload_n C dL_1101 0 rfl rfl ?_
  refine h_iconst C dL_1102 ?_
  refine h_iadd C dL_1103 rfl ?_
  refine h_sldL C hX hbl (i + 1).toNat (Int.toNat_of_nonneg (by omega)) (by omega) (by omega) dL_1104 ?_
  have hq1 := hpR_of (xs (i + 1).toNat)
  obtain ⟨hq1a, hq1b⟩ := hq1
  obtain ⟨v1, ev1⟩ : ∃ v : Int, v = (xs (i + 1).toNat).toInt := ⟨_, rfl⟩
  rw [← ev1] at hq1a hq1b ⊢
  refine h_callV (As := [.int (hpI v1)]) (rest := []) C Z yyX8_rowsOf wd_832 (tgX8_rowsOf l D cy s.heap.size _ v1 ⟨by omega, by omega⟩ hI) kd_0 rfl rfl ⟨rfl, rfl, Nat.le_of_ble_eq_true rfl, Nat.le_of_ble_eq_true rfl⟩ ⟨Nat.le_of_ble_eq_true rfl, Nat.le_of_ble_eq_true rfl⟩ (Nat.le_of_ble_eq_true rfl) dL_1105 (fun r2 τ2 hp2 => ?_)
  obtain ⟨⟨x2, rfl, ⟨hx2a, hx2b⟩⟩, hI2, hG2⟩ := hp2
  show hpV _ _ _ _ _ _ _ _ _ _ _ _ _ _ _ _ _ _ _ _ _ (_ :: _)
  refine h_pop C rfl dL_1108 ?_
  refine h_aload_n C dL_1109 1 rfl rfl ?_
  refine h_aload_n C dL_1110 3 rfl rfl ?_
  refine h_iload_n C dL_1111 0 rfl rfl ?_
  refine h_iconst C dL_1112 ?_
  refine h_iadd C dL_1113 rfl ?_
  refine h_sldL C hX hbl (i + 1).toNat (Int.toNat_of_nonneg (by omega)) (by omega) (by omega) dL_1114 ?_
  have hq3 := hpR_of (xs (i + 1).toNat)
  obtain ⟨hq3a, hq3b⟩ := hq3
  obtain ⟨v3, ev3⟩ : ∃ v : Int, v = (xs (i + 1).toNat).toInt := ⟨_, rfl⟩
  rw [← ev3] at hq3a hq3b ⊢
  have ez3 : v1 = v3 := ev1.trans ev3.symm
  subst ez3
  refine h_callV (As := [.int (hpI v1)]) (rest := []) C Z yyX9_rowsOf wd_1714 (tgX9_rowsOf l D cy s.heap.size _ v1 ⟨by omega, by omega⟩ hI2) kd_195 rfl rfl ⟨rfl, rfl, Nat.le_of_ble_eq_true rfl, Nat.le_of_ble_eq_true rfl⟩ ⟨Nat.le_of_ble_eq_true rfl, Nat.le_of_ble_eq_true rfl⟩ (Nat.le_of_ble_eq_true rfl) dL_1115 (fun r4 τ4 hp4 => ?_)
  obtain ⟨⟨x4, rfl, ⟨hx4a, hx4b⟩⟩, hI4, hG4⟩ := hp4
  show hpV _ _ _ _ _ _ _ _ _ _ _ _ _ _ _ _ _ _ _ _ _ (_ :: _)
  refine h_pop C rfl dL_1118 ?_
  refine h_goto (tgt := 2352) C dL_1119 (by decide) ?_
  exact K τ4 hI4 (hR.fr (fun j i h => (hG4 j i (by omega)).trans (hG2 j i (by omega))))
set_option maxHeartbeats 4000000 in
set_option maxRecDepth 20000 in
theorem law_32 {p : Program} {e : Env} {s : State} {m : MethodId} {below : List Frame} {meth : Method} {c : Code} (l : Launch) {b L : Nat} {xs : Nat → Int32} {D : va_G} {cy : Nat → ClassId} (C : hpC p s m #[.ref b] c code 4 RL D cy) (Z : hpStr s.heap.size cy s s.heap) (hr : meth.sig.returnType = ret) (hk : meth.locks = false) (hX : va_X b L xs s s.heap) (hbl : b < s.heap.size) (hL : L ≤ 3072) (σ : hpMem) (hI : hpInv σ) (hR : hpR72 σ) (i : Int) (hi0 : 0 ≤ i) (hi : i + 6 ≤ (L : Int)) (K : ∀ τ : hpMem, hpInv τ → hpR72 τ → hpV p l e room_1 s m #[.ref b] below meth c 217 24316 4 D cy s.heap.size s.heap (lw_Z below #[Value.ref b] s) τ 2352 [(3, .int (hpI i)), (2, .ref (s.heap.size + 195)), (1, .ref (s.heap.size + 0)), (0, .ref b)] []) : hpV p l e room_1 s m #[.ref b] below meth c 217 24316 4 D cy s.heap.size s.heap (lw_Z below #[Value.ref b] s) σ 1122 [(3, .int (hpI i)), (2, .ref (s.heap.size + 195)), (1, .ref (s.heap.size + 0)), (0, .ref b)] [] := by
  refine h_aload_n C dL_1122 2 rfl rfl ?_
  refine h_aload_n C dL_1123 3 rfl rfl ?_
  refine h_iload_n C dL_1124 0 rfl rfl ?_
  refine h_iconst C dL_1125 ?_
  refine h_iadd C dL_1126 rfl ?_
  refine h_sldL C hX hbl (i + 1).toNat (Int.toNat_of_nonneg (by omega)) (by omega) (by omega) dL_1127 ?_
  have hq1 := hpR_of (xs (i + 1).toNat)
  obtain ⟨hq1a, hq1b⟩ := hq1
  obtain ⟨v1, ev1⟩ : ∃ v : Int, v = (xs (i + 1).toNat).toInt := ⟨_, rfl⟩
  rw [← ev1] at hq1a hq1b ⊢
  refine h_callV (As := [.int (hpI v1)]) (rest := []) C Z yyX8_ringed wd_896 (tgX8_ringed l D cy s.heap.size _ v1 ⟨by omega, by omega⟩ hI) kd_0 rfl rfl ⟨rfl, rfl, Nat.le_of_ble_eq_true rfl, Nat.le_of_ble_eq_true rfl⟩ ⟨Nat.le_of_ble_eq_true rfl, Nat.le_of_ble_eq_true rfl⟩ (Nat.le_of_ble_eq_true rfl) dL_1128 (fun r2 τ2 hp2 => ?_)
  obtain ⟨⟨x2, rfl, ⟨hx2a, hx2b⟩⟩, hI2, hG2⟩ := hp2
  show hpV _ _ _ _ _ _ _ _ _ _ _ _ _ _ _ _ _ _ _ _ _ (_ :: _)
  refine h_pop C rfl dL_1131 ?_
  refine h_aload_n C dL_1132 1 rfl rfl ?_
  refine h_aload_n C dL_1133 3 rfl rfl ?_
  refine h_iload_n C dL_1134 0 rfl rfl ?_
  refine h_iconst C dL_1135 ?_
  refine h_iadd C dL_1136 rfl ?_
  refine h_sldL C hX hbl (i + 1).toNat (Int.toNat_of_nonneg (by omega)) (by omega) (by omega) dL_1137 ?_
  have hq3 := hpR_of (xs (i + 1).toNat)
  obtain ⟨hq3a, hq3b⟩ := hq3
  obtain ⟨v3, ev3⟩ : ∃ v : Int, v = (xs (i + 1).toNat).toInt := ⟨_, rfl⟩
  rw [← ev3] at hq3a hq3b ⊢
  have ez3 : v1 = v3 := ev1.trans ev3.symm
  subst ez3
  refine h_callV (As := [.int (hpI v1)]) (rest := []) C Z yyX9_ringed wd_1751 (tgX9_ringed l D cy s.heap.size _ v1 ⟨by omega, by omega⟩ hI2) kd_195 rfl rfl ⟨rfl, rfl, Nat.le_of_ble_eq_true rfl, Nat.le_of_ble_eq_true rfl⟩ ⟨Nat.le_of_ble_eq_true rfl, Nat.le_of_ble_eq_true rfl⟩ (Nat.le_of_ble_eq_true rfl) dL_1138 (fun r4 τ4 hp4 => ?_)
  obtain ⟨⟨x4, rfl, ⟨hx4a, hx4b⟩⟩, hI4, hG4⟩ := hp4
  show hpV _ _ _ _ _ _ _ _ _ _ _ _ _ _ _ _ _ _ _ _ _ (_ :: _)
  refine h_pop C rfl dL_1141 ?_
  refine h_goto (tgt := 2352) C dL_1142 (by decide) ?_
  exact K τ4 hI4 (hR.fr (fun j i h => (hG4 j i (by omega)).trans (hG2 j i (by omega))))
set_option maxHeartbeats 4000000 in
set_option maxRecDepth 20000 in
theorem law_33 {p : Program} {e : Env} {s : State} {m : MethodId} {below : List Frame} {meth : Method} {c : Code} (l : Launch) {b L : Nat} {xs : Nat → Int32} {D : va_G} {cy : Nat → ClassId} (C : hpC p s m #[.ref b] c code 4 RL D cy) (Z : hpStr s.heap.size cy s s.heap) (hr : meth.sig.returnType = ret) (hk : meth.locks = false) (hX : va_X b L xs s s.heap) (hbl : b < s.heap.size) (hL : L ≤ 3072) (σ : hpMem) (hI : hpInv σ) (hR : hpR72 σ) (i : Int) (hi0 : 0 ≤ i) (hi : i + 6 ≤ (L : Int)) (K : ∀ τ : hpMem, hpInv τ → hpR72 τ → hpV p l e room_1 s m #[.ref b] below meth c 217 24316 4 D cy s.heap.size s.heap (lw_Z below #[Value.ref b] s) τ 2352 [(3, .int (hpI i)), (2, .ref (s.heap.size + 195)), (1, .ref (s.heap.size + 0)), (0, .ref b)] []) : hpV p l e room_1 s m #[.ref b] below meth c 217 24316 4 D cy s.heap.size s.heap (lw_Z below #[Value.ref b] s) σ 1145 [(3, .int (hpI i)), (2, .ref (s.heap.size + 195)), (1, .ref (s.heap.size + 0)), (0, .ref b)] [] := by
  refine h_aload_n C dL_1145 2 rfl rfl ?_
  refine h_aload_n C dL_1146 3 rfl rfl ?_
  refine h_iload_n C dL_1147 0 rfl rfl ?_
  refine h_iconst C dL_1148 ?_
  refine h_iadd C dL_1149 rfl ?_
  refine h_sldL C hX hbl (i + 1).toNat (Int.toNat_of_nonneg (by omega)) (by omega) (by omega) dL_1150 ?_
  have hq1 := hpR_of (xs (i + 1).toNat)
  obtain ⟨hq1a, hq1b⟩ := hq1
  obtain ⟨v1, ev1⟩ : ∃ v : Int, v = (xs (i + 1).toNat).toInt := ⟨_, rfl⟩
  rw [← ev1] at hq1a hq1b ⊢
  refine h_callV (As := [.int (hpI v1)]) (rest := []) C Z yyX8_rings wd_900 (tgX8_rings l D cy s.heap.size _ v1 ⟨by omega, by omega⟩ hI) kd_0 rfl rfl ⟨rfl, rfl, Nat.le_of_ble_eq_true rfl, Nat.le_of_ble_eq_true rfl⟩ ⟨Nat.le_of_ble_eq_true rfl, Nat.le_of_ble_eq_true rfl⟩ (Nat.le_of_ble_eq_true rfl) dL_1151 (fun r2 τ2 hp2 => ?_)
  obtain ⟨⟨x2, rfl, ⟨hx2a, hx2b⟩⟩, hI2, hG2⟩ := hp2
  show hpV _ _ _ _ _ _ _ _ _ _ _ _ _ _ _ _ _ _ _ _ _ (_ :: _)
  refine h_pop C rfl dL_1154 ?_
  refine h_aload_n C dL_1155 1 rfl rfl ?_
  refine h_aload_n C dL_1156 3 rfl rfl ?_
  refine h_iload_n C dL_1157 0 rfl rfl ?_
  refine h_iconst C dL_1158 ?_
  refine h_iadd C dL_1159 rfl ?_
  refine h_sldL C hX hbl (i + 1).toNat (Int.toNat_of_nonneg (by omega)) (by omega) (by omega) dL_1160 ?_
  have hq3 := hpR_of (xs (i + 1).toNat)
  obtain ⟨hq3a, hq3b⟩ := hq3
  obtain ⟨v3, ev3⟩ : ∃ v : Int, v = (xs (i + 1).toNat).toInt := ⟨_, rfl⟩
  rw [← ev3] at hq3a hq3b ⊢
  have ez3 : v1 = v3 := ev1.trans ev3.symm
  subst ez3
  refine h_callV (As := [.int (hpI v1)]) (rest := []) C Z yyX9_rings wd_1755 (tgX9_rings l D cy s.heap.size _ v1 ⟨by omega, by omega⟩ hI2) kd_195 rfl rfl ⟨rfl, rfl, Nat.le_of_ble_eq_true rfl, Nat.le_of_ble_eq_true rfl⟩ ⟨Nat.le_of_ble_eq_true rfl, Nat.le_of_ble_eq_true rfl⟩ (Nat.le_of_ble_eq_true rfl) dL_1161 (fun r4 τ4 hp4 => ?_)
  obtain ⟨⟨x4, rfl, ⟨hx4a, hx4b⟩⟩, hI4, hG4⟩ := hp4
  show hpV _ _ _ _ _ _ _ _ _ _ _ _ _ _ _ _ _ _ _ _ _ (_ :: _)
  refine h_pop C rfl dL_1164 ?_
  refine h_goto (tgt := 2352) C dL_1165 (by decide) ?_
  exact K τ4 hI4 (hR.fr (fun j i h => (hG4 j i (by omega)).trans (hG2 j i (by omega))))
set_option maxHeartbeats 4000000 in
set_option maxRecDepth 20000 in
theorem law_34 {p : Program} {e : Env} {s : State} {m : MethodId} {below : List Frame} {meth : Method} {c : Code} (l : Launch) {b L : Nat} {xs : Nat → Int32} {D : va_G} {cy : Nat → ClassId} (C : hpC p s m #[.ref b] c code 4 RL D cy) (Z : hpStr s.heap.size cy s s.heap) (hr : meth.sig.returnType = ret) (hk : meth.locks = false) (hX : va_X b L xs s s.heap) (hbl : b < s.heap.size) (hL : L ≤ 3072) (σ : hpMem) (hI : hpInv σ) (hR : hpR72 σ) (i : Int) (hi0 : 0 ≤ i) (hi : i + 6 ≤ (L : Int)) (K : ∀ τ : hpMem, hpInv τ → hpR72 τ → hpV p l e room_1 s m #[.ref b] below meth c 217 24316 4 D cy s.heap.size s.heap (lw_Z below #[Value.ref b] s) τ 2352 [(3, .int (hpI i)), (2, .ref (s.heap.size + 195)), (1, .ref (s.heap.size + 0)), (0, .ref b)] []) : hpV p l e room_1 s m #[.ref b] below meth c 217 24316 4 D cy s.heap.size s.heap (lw_Z below #[Value.ref b] s) σ 1168 [(3, .int (hpI i)), (2, .ref (s.heap.size + 195)), (1, .ref (s.heap.size + 0)), (0, .ref b)] [] := by
  refine h_aload_n C dL_1168 2 rfl rfl ?_
  refine h_aload_n C dL_1169 3 rfl rfl ?_
  refine h_iload_n C dL_1170 0 rfl rfl ?_
  refine h_iconst C dL_1171 ?_
  refine h_iadd C dL_1172 rfl ?_
  refine h_sldL C hX hbl (i + 1).toNat (Int.toNat_of_nonneg (by omega)) (by omega) (by omega) dL_1173 ?_
  have hq1 := hpR_of (xs (i + 1).toNat)
  obtain ⟨hq1a, hq1b⟩ := hq1
  obtain ⟨v1, ev1⟩ : ∃ v : Int, v = (xs (i + 1).toNat).toInt := ⟨_, rfl⟩
  rw [← ev1] at hq1a hq1b ⊢
  refine h_callV (As := [.int (hpI v1)]) (rest := []) C Z yyX8_gardens wd_904 (tgX8_gardens l D cy s.heap.size _ v1 ⟨by omega, by omega⟩ hI) kd_0 rfl rfl ⟨rfl, rfl, Nat.le_of_ble_eq_true rfl, Nat.le_of_ble_eq_true rfl⟩ ⟨Nat.le_of_ble_eq_true rfl, Nat.le_of_ble_eq_true rfl⟩ (Nat.le_of_ble_eq_true rfl) dL_1174 (fun r2 τ2 hp2 => ?_)
  obtain ⟨⟨x2, rfl, ⟨hx2a, hx2b⟩⟩, hI2, hG2⟩ := hp2
  show hpV _ _ _ _ _ _ _ _ _ _ _ _ _ _ _ _ _ _ _ _ _ (_ :: _)
  refine h_pop C rfl dL_1177 ?_
  refine h_aload_n C dL_1178 1 rfl rfl ?_
  refine h_aload_n C dL_1179 3 rfl rfl ?_
  refine h_iload_n C dL_1180 0 rfl rfl ?_
  refine h_iconst C dL_1181 ?_
  refine h_iadd C dL_1182 rfl ?_
  refine h_sldL C hX hbl (i + 1).toNat (Int.toNat_of_nonneg (by omega)) (by omega) (by omega) dL_1183 ?_
  have hq3 := hpR_of (xs (i + 1).toNat)
  obtain ⟨hq3a, hq3b⟩ := hq3
  obtain ⟨v3, ev3⟩ : ∃ v : Int, v = (xs (i + 1).toNat).toInt := ⟨_, rfl⟩
  rw [← ev3] at hq3a hq3b ⊢
  have ez3 : v1 = v3 := ev1.trans ev3.symm
  subst ez3
  refine h_callV (As := [.int (hpI v1)]) (rest := []) C Z yyX9_gardens wd_1759 (tgX9_gardens l D cy s.heap.size _ v1 ⟨by omega, by omega⟩ hI2) kd_195 rfl rfl ⟨rfl, rfl, Nat.le_of_ble_eq_true rfl, Nat.le_of_ble_eq_true rfl⟩ ⟨Nat.le_of_ble_eq_true rfl, Nat.le_of_ble_eq_true rfl⟩ (Nat.le_of_ble_eq_true rfl) dL_1184 (fun r4 τ4 hp4 => ?_)
  obtain ⟨⟨x4, rfl, ⟨hx4a, hx4b⟩⟩, hI4, hG4⟩ := hp4
  show hpV _ _ _ _ _ _ _ _ _ _ _ _ _ _ _ _ _ _ _ _ _ (_ :: _)
  refine h_pop C rfl dL_1187 ?_
  refine h_goto (tgt := 2352) C dL_1188 (by decide) ?_
  exact K τ4 hI4 (hR.fr (fun j i h => (hG4 j i (by omega)).trans (hG2 j i (by omega))))
set_option maxHeartbeats 4000000 in
set_option maxRecDepth 20000 in
theorem law_35 {p : Program} {e : Env} {s : State} {m : MethodId} {below : List Frame} {meth : Method} {c : Code} (l : Launch) {b L : Nat} {xs : Nat → Int32} {D : va_G} {cy : Nat → ClassId} (C : hpC p s m #[.ref b] c code 4 RL D cy) (Z : hpStr s.heap.size cy s s.heap) (hr : meth.sig.returnType = ret) (hk : meth.locks = false) (hX : va_X b L xs s s.heap) (hbl : b < s.heap.size) (hL : L ≤ 3072) (σ : hpMem) (hI : hpInv σ) (hR : hpR72 σ) (i : Int) (hi0 : 0 ≤ i) (hi : i + 6 ≤ (L : Int)) (K : ∀ τ : hpMem, hpInv τ → hpR72 τ → hpV p l e room_1 s m #[.ref b] below meth c 217 24316 4 D cy s.heap.size s.heap (lw_Z below #[Value.ref b] s) τ 2352 [(3, .int (hpI i)), (2, .ref (s.heap.size + 195)), (1, .ref (s.heap.size + 0)), (0, .ref b)] []) : hpV p l e room_1 s m #[.ref b] below meth c 217 24316 4 D cy s.heap.size s.heap (lw_Z below #[Value.ref b] s) σ 1191 [(3, .int (hpI i)), (2, .ref (s.heap.size + 195)), (1, .ref (s.heap.size + 0)), (0, .ref b)] [] := by
  refine h_aload_n C dL_1191 2 rfl rfl ?_
  refine h_aload_n C dL_1192 3 rfl rfl ?_
  refine h_iload_n C dL_1193 0 rfl rfl ?_
  refine h_iconst C dL_1194 ?_
  refine h_iadd C dL_1195 rfl ?_
  refine h_sldL C hX hbl (i + 1).toNat (Int.toNat_of_nonneg (by omega)) (by omega) (by omega) dL_1196 ?_
  have hq1 := hpR_of (xs (i + 1).toNat)
  obtain ⟨hq1a, hq1b⟩ := hq1
  obtain ⟨v1, ev1⟩ : ∃ v : Int, v = (xs (i + 1).toNat).toInt := ⟨_, rfl⟩
  rw [← ev1] at hq1a hq1b ⊢
  refine h_callV (As := [.int (hpI v1)]) (rest := []) C Z yyX8_longest wd_908 (tgX8_longest l D cy s.heap.size _ v1 ⟨by omega, by omega⟩ hI) kd_0 rfl rfl ⟨rfl, rfl, Nat.le_of_ble_eq_true rfl, Nat.le_of_ble_eq_true rfl⟩ ⟨Nat.le_of_ble_eq_true rfl, Nat.le_of_ble_eq_true rfl⟩ (Nat.le_of_ble_eq_true rfl) dL_1197 (fun r2 τ2 hp2 => ?_)
  obtain ⟨⟨x2, rfl, ⟨hx2a, hx2b⟩⟩, hI2, hG2⟩ := hp2
  show hpV _ _ _ _ _ _ _ _ _ _ _ _ _ _ _ _ _ _ _ _ _ (_ :: _)
  refine h_pop C rfl dL_1200 ?_
  refine h_aload_n C dL_1201 1 rfl rfl ?_
  refine h_aload_n C dL_1202 3 rfl rfl ?_
  refine h_iload_n C dL_1203 0 rfl rfl ?_
  refine h_iconst C dL_1204 ?_
  refine h_iadd C dL_1205 rfl ?_
  refine h_sldL C hX hbl (i + 1).toNat (Int.toNat_of_nonneg (by omega)) (by omega) (by omega) dL_1206 ?_
  have hq3 := hpR_of (xs (i + 1).toNat)
  obtain ⟨hq3a, hq3b⟩ := hq3
  obtain ⟨v3, ev3⟩ : ∃ v : Int, v = (xs (i + 1).toNat).toInt := ⟨_, rfl⟩
  rw [← ev3] at hq3a hq3b ⊢
  have ez3 : v1 = v3 := ev1.trans ev3.symm
  subst ez3
  refine h_callV (As := [.int (hpI v1)]) (rest := []) C Z yyX9_longest wd_1767 (tgX9_longest l D cy s.heap.size _ v1 ⟨by omega, by omega⟩ hI2) kd_195 rfl rfl ⟨rfl, rfl, Nat.le_of_ble_eq_true rfl, Nat.le_of_ble_eq_true rfl⟩ ⟨Nat.le_of_ble_eq_true rfl, Nat.le_of_ble_eq_true rfl⟩ (Nat.le_of_ble_eq_true rfl) dL_1207 (fun r4 τ4 hp4 => ?_)
  obtain ⟨⟨x4, rfl, ⟨hx4a, hx4b⟩⟩, hI4, hG4⟩ := hp4
  show hpV _ _ _ _ _ _ _ _ _ _ _ _ _ _ _ _ _ _ _ _ _ (_ :: _)
  refine h_pop C rfl dL_1210 ?_
  refine h_goto (tgt := 2352) C dL_1211 (by decide) ?_
  exact K τ4 hI4 (hR.fr (fun j i h => (hG4 j i (by omega)).trans (hG2 j i (by omega))))
set_option maxHeartbeats 4000000 in
set_option maxRecDepth 20000 in
theorem law_36 {p : Program} {e : Env} {s : State} {m : MethodId} {below : List Frame} {meth : Method} {c : Code} (l : Launch) {b L : Nat} {xs : Nat → Int32} {D : va_G} {cy : Nat → ClassId} (C : hpC p s m #[.ref b] c code 4 RL D cy) (Z : hpStr s.heap.size cy s s.heap) (hr : meth.sig.returnType = ret) (hk : meth.locks = false) (hX : va_X b L xs s s.heap) (hbl : b < s.heap.size) (hL : L ≤ 3072) (σ : hpMem) (hI : hpInv σ) (hR : hpR72 σ) (i : Int) (hi0 : 0 ≤ i) (hi : i + 6 ≤ (L : Int)) (K : ∀ τ : hpMem, hpInv τ → hpR72 τ → hpV p l e room_1 s m #[.ref b] below meth c 217 24316 4 D cy s.heap.size s.heap (lw_Z below #[Value.ref b] s) τ 2352 [(3, .int (hpI i)), (2, .ref (s.heap.size + 195)), (1, .ref (s.heap.size + 0)), (0, .ref b)] []) : hpV p l e room_1 s m #[.ref b] below meth c 217 24316 4 D cy s.heap.size s.heap (lw_Z below #[Value.ref b] s) σ 1214 [(3, .int (hpI i)), (2, .ref (s.heap.size + 195)), (1, .ref (s.heap.size + 0)), (0, .ref b)] [] := by
  refine h_aload_n C dL_1214 2 rfl rfl ?_
  refine h_aload_n C dL_1215 3 rfl rfl ?_
  refine h_iload_n C dL_1216 0 rfl rfl ?_
  refine h_iconst C dL_1217 ?_
  refine h_iadd C dL_1218 rfl ?_
  refine h_sldL C hX hbl (i + 1).toNat (Int.toNat_of_nonneg (by omega)) (by omega) (by omega) dL_1219 ?_
  have hq1 := hpR_of (xs (i + 1).toNat)
  obtain ⟨hq1a, hq1b⟩ := hq1
  obtain ⟨v1, ev1⟩ : ∃ v : Int, v = (xs (i + 1).toNat).toInt := ⟨_, rfl⟩
  rw [← ev1] at hq1a hq1b ⊢
  refine h_callV (As := [.int (hpI v1)]) (rest := []) C Z yyX8_ahead wd_912 (tgX8_ahead l D cy s.heap.size _ v1 ⟨by omega, by omega⟩ hI) kd_0 rfl rfl ⟨rfl, rfl, Nat.le_of_ble_eq_true rfl, Nat.le_of_ble_eq_true rfl⟩ ⟨Nat.le_of_ble_eq_true rfl, Nat.le_of_ble_eq_true rfl⟩ (Nat.le_of_ble_eq_true rfl) dL_1220 (fun r2 τ2 hp2 => ?_)
  obtain ⟨⟨x2, rfl, ⟨hx2a, hx2b⟩⟩, hI2, hG2⟩ := hp2
  show hpV _ _ _ _ _ _ _ _ _ _ _ _ _ _ _ _ _ _ _ _ _ (_ :: _)
  refine h_pop C rfl dL_1223 ?_
  refine h_aload_n C dL_1224 1 rfl rfl ?_
  refine h_aload_n C dL_1225 3 rfl rfl ?_
  refine h_iload_n C dL_1226 0 rfl rfl ?_
  refine h_iconst C dL_1227 ?_
  refine h_iadd C dL_1228 rfl ?_
  refine h_sldL C hX hbl (i + 1).toNat (Int.toNat_of_nonneg (by omega)) (by omega) (by omega) dL_1229 ?_
  have hq3 := hpR_of (xs (i + 1).toNat)
  obtain ⟨hq3a, hq3b⟩ := hq3
  obtain ⟨v3, ev3⟩ : ∃ v : Int, v = (xs (i + 1).toNat).toInt := ⟨_, rfl⟩
  rw [← ev3] at hq3a hq3b ⊢
  have ez3 : v1 = v3 := ev1.trans ev3.symm
  subst ez3
  refine h_callV (As := [.int (hpI v1)]) (rest := []) C Z yyX9_ahead wd_1771 (tgX9_ahead l D cy s.heap.size _ v1 ⟨by omega, by omega⟩ hI2) kd_195 rfl rfl ⟨rfl, rfl, Nat.le_of_ble_eq_true rfl, Nat.le_of_ble_eq_true rfl⟩ ⟨Nat.le_of_ble_eq_true rfl, Nat.le_of_ble_eq_true rfl⟩ (Nat.le_of_ble_eq_true rfl) dL_1230 (fun r4 τ4 hp4 => ?_)
  obtain ⟨⟨x4, rfl, ⟨hx4a, hx4b⟩⟩, hI4, hG4⟩ := hp4
  show hpV _ _ _ _ _ _ _ _ _ _ _ _ _ _ _ _ _ _ _ _ _ (_ :: _)
  refine h_pop C rfl dL_1233 ?_
  refine h_goto (tgt := 2352) C dL_1234 (by decide) ?_
  exact K τ4 hI4 (hR.fr (fun j i h => (hG4 j i (by omega)).trans (hG2 j i (by omega))))
set_option maxHeartbeats 4000000 in
set_option maxRecDepth 20000 in
theorem law_37 {p : Program} {e : Env} {s : State} {m : MethodId} {below : List Frame} {meth : Method} {c : Code} (l : Launch) {b L : Nat} {xs : Nat → Int32} {D : va_G} {cy : Nat → ClassId} (C : hpC p s m #[.ref b] c code 4 RL D cy) (Z : hpStr s.heap.size cy s s.heap) (hr : meth.sig.returnType = ret) (hk : meth.locks = false) (hX : va_X b L xs s s.heap) (hbl : b < s.heap.size) (hL : L ≤ 3072) (σ : hpMem) (hI : hpInv σ) (hR : hpR72 σ) (i : Int) (hi0 : 0 ≤ i) (hi : i + 6 ≤ (L : Int)) (K : ∀ τ : hpMem, hpInv τ → hpR72 τ → hpV p l e room_1 s m #[.ref b] below meth c 217 24316 4 D cy s.heap.size s.heap (lw_Z below #[Value.ref b] s) τ 2352 [(3, .int (hpI i)), (2, .ref (s.heap.size + 195)), (1, .ref (s.heap.size + 0)), (0, .ref b)] []) : hpV p l e room_1 s m #[.ref b] below meth c 217 24316 4 D cy s.heap.size s.heap (lw_Z below #[Value.ref b] s) σ 1237 [(3, .int (hpI i)), (2, .ref (s.heap.size + 195)), (1, .ref (s.heap.size + 0)), (0, .ref b)] [] := by
  refine h_aload_n C dL_1237 2 rfl rfl ?_
  refine h_aload_n C dL_1238 3 rfl rfl ?_
  refine h_iload_n C dL_1239 0 rfl rfl ?_
  refine h_iconst C dL_1240 ?_
  refine h_iadd C dL_1241 rfl ?_
  refine h_sldL C hX hbl (i + 1).toNat (Int.toNat_of_nonneg (by omega)) (by omega) (by omega) dL_1242 ?_
  have hq1 := hpR_of (xs (i + 1).toNat)
  obtain ⟨hq1a, hq1b⟩ := hq1
  obtain ⟨v1, ev1⟩ : ∃ v : Int, v = (xs (i + 1).toNat).toInt := ⟨_, rfl⟩
  rw [← ev1] at hq1a hq1b ⊢
  refine h_aload_n C dL_1243 3 rfl rfl ?_
  refine h_iload_n C dL_1244 0 rfl rfl ?_
  refine h_iconst C dL_1245 ?_
  refine h_iadd C dL_1246 rfl ?_
  refine h_sldL C hX hbl (i + 2).toNat (Int.toNat_of_nonneg (by omega)) (by omega) (by omega) dL_1247 ?_
  have hq2 := hpR_of (xs (i + 2).toNat)
  obtain ⟨hq2a, hq2b⟩ := hq2
  obtain ⟨v2, ev2⟩ : ∃ v : Int, v = (xs (i + 2).toNat).toInt := ⟨_, rfl⟩
  rw [← ev2] at hq2a hq2b ⊢
  refine h_callV (As := [.int (hpI v1), .int (hpI v2)]) (rest := []) C Z yyX8_from wd_933 (tgX8_from l D cy s.heap.size _ v1 ⟨by omega, by omega⟩ v2 ⟨by omega, by omega⟩ hI) kd_0 rfl rfl ⟨rfl, rfl, Nat.le_of_ble_eq_true rfl, Nat.le_of_ble_eq_true rfl⟩ ⟨Nat.le_of_ble_eq_true rfl, Nat.le_of_ble_eq_true rfl⟩ (Nat.le_of_ble_eq_true rfl) dL_1248 (fun r3 τ3 hp3 => ?_)
  obtain ⟨⟨x3, rfl, ⟨hx3a, hx3b⟩⟩, hI3, hG3⟩ := hp3
  show hpV _ _ _ _ _ _ _ _ _ _ _ _ _ _ _ _ _ _ _ _ _ (_ :: _)
  refine h_pop C rfl dL_1251 ?_
  refine h_aload_n C dL_1252 1 rfl rfl ?_
  refine h_aload_n C dL_1253 3 rfl rfl ?_
  refine h_iload_n C dL_1254 0 rfl rfl ?_
  refine h_iconst C dL_1255 ?_
  refine h_iadd C dL_1256 rfl ?_
  refine h_sldL C hX hbl (i + 1).toNat (Int.toNat_of_nonneg (by omega)) (by omega) (by omega) dL_1257 ?_
  have hq4 := hpR_of (xs (i + 1).toNat)
  obtain ⟨hq4a, hq4b⟩ := hq4
  obtain ⟨v4, ev4⟩ : ∃ v : Int, v = (xs (i + 1).toNat).toInt := ⟨_, rfl⟩
  rw [← ev4] at hq4a hq4b ⊢
  have ez4 : v1 = v4 := ev1.trans ev4.symm
  subst ez4
  refine h_aload_n C dL_1258 3 rfl rfl ?_
  refine h_iload_n C dL_1259 0 rfl rfl ?_
  refine h_iconst C dL_1260 ?_
  refine h_iadd C dL_1261 rfl ?_
  refine h_sldL C hX hbl (i + 2).toNat (Int.toNat_of_nonneg (by omega)) (by omega) (by omega) dL_1262 ?_
  have hq5 := hpR_of (xs (i + 2).toNat)
  obtain ⟨hq5a, hq5b⟩ := hq5
  obtain ⟨v5, ev5⟩ : ∃ v : Int, v = (xs (i + 2).toNat).toInt := ⟨_, rfl⟩
  rw [← ev5] at hq5a hq5b ⊢
  have ez5 : v2 = v5 := ev2.trans ev5.symm
  subst ez5
  refine h_callV (As := [.int (hpI v1), .int (hpI v2)]) (rest := []) C Z yyX9_from wd_1787 (tgX9_from l D cy s.heap.size _ v1 ⟨by omega, by omega⟩ v2 ⟨by omega, by omega⟩ hI3) kd_195 rfl rfl ⟨rfl, rfl, Nat.le_of_ble_eq_true rfl, Nat.le_of_ble_eq_true rfl⟩ ⟨Nat.le_of_ble_eq_true rfl, Nat.le_of_ble_eq_true rfl⟩ (Nat.le_of_ble_eq_true rfl) dL_1263 (fun r6 τ6 hp6 => ?_)
  obtain ⟨⟨x6, rfl, ⟨hx6a, hx6b⟩⟩, hI6, hG6⟩ := hp6
  show hpV _ _ _ _ _ _ _ _ _ _ _ _ _ _ _ _ _ _ _ _ _ (_ :: _)
  refine h_pop C rfl dL_1266 ?_
  refine h_goto (tgt := 2352) C dL_1267 (by decide) ?_
  exact K τ6 hI6 (hR.fr (fun j i h => (hG6 j i (by omega)).trans (hG3 j i (by omega))))
set_option maxHeartbeats 4000000 in
set_option maxRecDepth 20000 in
theorem law_38 {p : Program} {e : Env} {s : State} {m : MethodId} {below : List Frame} {meth : Method} {c : Code} (l : Launch) {b L : Nat} {xs : Nat → Int32} {D : va_G} {cy : Nat → ClassId} (C : hpC p s m #[.ref b] c code 4 RL D cy) (Z : hpStr s.heap.size cy s s.heap) (hr : meth.sig.returnType = ret) (hk : meth.locks = false) (hX : va_X b L xs s s.heap) (hbl : b < s.heap.size) (hL : L ≤ 3072) (σ : hpMem) (hI : hpInv σ) (hR : hpR72 σ) (i : Int) (hi0 : 0 ≤ i) (hi : i + 6 ≤ (L : Int)) (K : ∀ τ : hpMem, hpInv τ → hpR72 τ → hpV p l e room_1 s m #[.ref b] below meth c 217 24316 4 D cy s.heap.size s.heap (lw_Z below #[Value.ref b] s) τ 2352 [(3, .int (hpI i)), (2, .ref (s.heap.size + 195)), (1, .ref (s.heap.size + 0)), (0, .ref b)] []) : hpV p l e room_1 s m #[.ref b] below meth c 217 24316 4 D cy s.heap.size s.heap (lw_Z below #[Value.ref b] s) σ 1270 [(3, .int (hpI i)), (2, .ref (s.heap.size + 195)), (1, .ref (s.heap.size + 0)), (0, .ref b)] [] := by
  refine h_aload_n C dL_1270 2 rfl rfl ?_
  refine h_aload_n C dL_1271 3 rfl rfl ?_
  refine h_iload_n C dL_1272 0 rfl rfl ?_
  refine h_iconst C dL_1273 ?_
  refine h_iadd C dL_1274 rfl ?_
  refine h_sldL C hX hbl (i + 1).toNat (Int.toNat_of_nonneg (by omega)) (by omega) (by omega) dL_1275 ?_
  have hq1 := hpR_of (xs (i + 1).toNat)
  obtain ⟨hq1a, hq1b⟩ := hq1
  obtain ⟨v1, ev1⟩ : ∃ v : Int, v = (xs (i + 1).toNat).toInt := ⟨_, rfl⟩
  rw [← ev1] at hq1a hq1b ⊢
  refine h_callV (As := [.int (hpI v1)]) (rest := []) C Z yyX8_way wd_941 (tgX8_way l D cy s.heap.size _ v1 ⟨by omega, by omega⟩ hI) kd_0 rfl rfl ⟨rfl, rfl, Nat.le_of_ble_eq_true rfl, Nat.le_of_ble_eq_true rfl⟩ ⟨Nat.le_of_ble_eq_true rfl, Nat.le_of_ble_eq_true rfl⟩ (Nat.le_of_ble_eq_true rfl) dL_1276 (fun r2 τ2 hp2 => ?_)
  obtain ⟨⟨x2, rfl, ⟨hx2a, hx2b⟩⟩, hI2, hG2⟩ := hp2
  show hpV _ _ _ _ _ _ _ _ _ _ _ _ _ _ _ _ _ _ _ _ _ (_ :: _)
  refine h_pop C rfl dL_1279 ?_
  refine h_aload_n C dL_1280 1 rfl rfl ?_
  refine h_aload_n C dL_1281 3 rfl rfl ?_
  refine h_iload_n C dL_1282 0 rfl rfl ?_
  refine h_iconst C dL_1283 ?_
  refine h_iadd C dL_1284 rfl ?_
  refine h_sldL C hX hbl (i + 1).toNat (Int.toNat_of_nonneg (by omega)) (by omega) (by omega) dL_1285 ?_
  have hq3 := hpR_of (xs (i + 1).toNat)
  obtain ⟨hq3a, hq3b⟩ := hq3
  obtain ⟨v3, ev3⟩ : ∃ v : Int, v = (xs (i + 1).toNat).toInt := ⟨_, rfl⟩
  rw [← ev3] at hq3a hq3b ⊢
  have ez3 : v1 = v3 := ev1.trans ev3.symm
  subst ez3
  refine h_callV (As := [.int (hpI v1)]) (rest := []) C Z yyX9_way wd_1791 (tgX9_way l D cy s.heap.size _ v1 ⟨by omega, by omega⟩ hI2) kd_195 rfl rfl ⟨rfl, rfl, Nat.le_of_ble_eq_true rfl, Nat.le_of_ble_eq_true rfl⟩ ⟨Nat.le_of_ble_eq_true rfl, Nat.le_of_ble_eq_true rfl⟩ (Nat.le_of_ble_eq_true rfl) dL_1286 (fun r4 τ4 hp4 => ?_)
  obtain ⟨⟨x4, rfl, ⟨hx4a, hx4b⟩⟩, hI4, hG4⟩ := hp4
  show hpV _ _ _ _ _ _ _ _ _ _ _ _ _ _ _ _ _ _ _ _ _ (_ :: _)
  refine h_pop C rfl dL_1289 ?_
  refine h_goto (tgt := 2352) C dL_1290 (by decide) ?_
  exact K τ4 hI4 (hR.fr (fun j i h => (hG4 j i (by omega)).trans (hG2 j i (by omega))))
set_option maxHeartbeats 4000000 in
set_option maxRecDepth 20000 in
theorem law_39 {p : Program} {e : Env} {s : State} {m : MethodId} {below : List Frame} {meth : Method} {c : Code} (l : Launch) {b L : Nat} {xs : Nat → Int32} {D : va_G} {cy : Nat → ClassId} (C : hpC p s m #[.ref b] c code 4 RL D cy) (Z : hpStr s.heap.size cy s s.heap) (hr : meth.sig.returnType = ret) (hk : meth.locks = false) (hX : va_X b L xs s s.heap) (hbl : b < s.heap.size) (hL : L ≤ 3072) (σ : hpMem) (hI : hpInv σ) (hR : hpR72 σ) (i : Int) (hi0 : 0 ≤ i) (hi : i + 6 ≤ (L : Int)) (K : ∀ τ : hpMem, hpInv τ → hpR72 τ → hpV p l e room_1 s m #[.ref b] below meth c 217 24316 4 D cy s.heap.size s.heap (lw_Z below #[Value.ref b] s) τ 2352 [(3, .int (hpI i)), (2, .ref (s.heap.size + 195)), (1, .ref (s.heap.size + 0)), (0, .ref b)] []) : hpV p l e room_1 s m #[.ref b] below meth c 217 24316 4 D cy s.heap.size s.heap (lw_Z below #[Value.ref b] s) σ 1293 [(3, .int (hpI i)), (2, .ref (s.heap.size + 195)), (1, .ref (s.heap.size + 0)), (0, .ref b)] [] := by
  refine h_aload_n C dL_1293 2 rfl rfl ?_
  refine h_aload_n C dL_1294 3 rfl rfl ?_
  refine h_iload_n C dL_1295 0 rfl rfl ?_
  refine h_iconst C dL_1296 ?_
  refine h_iadd C dL_1297 rfl ?_
  refine h_sldL C hX hbl (i + 1).toNat (Int.toNat_of_nonneg (by omega)) (by omega) (by omega) dL_1298 ?_
  have hq1 := hpR_of (xs (i + 1).toNat)
  obtain ⟨hq1a, hq1b⟩ := hq1
  obtain ⟨v1, ev1⟩ : ∃ v : Int, v = (xs (i + 1).toNat).toInt := ⟨_, rfl⟩
  rw [← ev1] at hq1a hq1b ⊢
  refine h_aload_n C dL_1299 3 rfl rfl ?_
  refine h_iload_n C dL_1300 0 rfl rfl ?_
  refine h_iconst C dL_1301 ?_
  refine h_iadd C dL_1302 rfl ?_
  refine h_sldL C hX hbl (i + 2).toNat (Int.toNat_of_nonneg (by omega)) (by omega) (by omega) dL_1303 ?_
  have hq2 := hpR_of (xs (i + 2).toNat)
  obtain ⟨hq2a, hq2b⟩ := hq2
  obtain ⟨v2, ev2⟩ : ∃ v : Int, v = (xs (i + 2).toNat).toInt := ⟨_, rfl⟩
  rw [← ev2] at hq2a hq2b ⊢
  refine h_callV (As := [.int (hpI v1), .int (hpI v2)]) (rest := []) C Z yyX8_bring wd_949 (tgX8_bring l D cy s.heap.size _ v1 ⟨by omega, by omega⟩ v2 ⟨by omega, by omega⟩ hI) kd_0 rfl rfl ⟨rfl, rfl, Nat.le_of_ble_eq_true rfl, Nat.le_of_ble_eq_true rfl⟩ ⟨Nat.le_of_ble_eq_true rfl, Nat.le_of_ble_eq_true rfl⟩ (Nat.le_of_ble_eq_true rfl) dL_1304 (fun r3 τ3 hp3 => ?_)
  obtain ⟨⟨x3, rfl, ⟨hx3a, hx3b⟩⟩, hI3, hG3⟩ := hp3
  show hpV _ _ _ _ _ _ _ _ _ _ _ _ _ _ _ _ _ _ _ _ _ (_ :: _)
  refine h_pop C rfl dL_1307 ?_
  refine h_aload_n C dL_1308 1 rfl rfl ?_
  refine h_aload_n C dL_1309 3 rfl rfl ?_
  refine h_iload_n C dL_1310 0 rfl rfl ?_
  refine h_iconst C dL_1311 ?_
  refine h_iadd C dL_1312 rfl ?_
  refine h_sldL C hX hbl (i + 1).toNat (Int.toNat_of_nonneg (by omega)) (by omega) (by omega) dL_1313 ?_
  have hq4 := hpR_of (xs (i + 1).toNat)
  obtain ⟨hq4a, hq4b⟩ := hq4
  obtain ⟨v4, ev4⟩ : ∃ v : Int, v = (xs (i + 1).toNat).toInt := ⟨_, rfl⟩
  rw [← ev4] at hq4a hq4b ⊢
  have ez4 : v1 = v4 := ev1.trans ev4.symm
  subst ez4
  refine h_aload_n C dL_1314 3 rfl rfl ?_
  refine h_iload_n C dL_1315 0 rfl rfl ?_
  refine h_iconst C dL_1316 ?_
  refine h_iadd C dL_1317 rfl ?_
  refine h_sldL C hX hbl (i + 2).toNat (Int.toNat_of_nonneg (by omega)) (by omega) (by omega) dL_1318 ?_
  have hq5 := hpR_of (xs (i + 2).toNat)
  obtain ⟨hq5a, hq5b⟩ := hq5
  obtain ⟨v5, ev5⟩ : ∃ v : Int, v = (xs (i + 2).toNat).toInt := ⟨_, rfl⟩
  rw [← ev5] at hq5a hq5b ⊢
  have ez5 : v2 = v5 := ev2.trans ev5.symm
  subst ez5
  refine h_callV (As := [.int (hpI v1), .int (hpI v2)]) (rest := []) C Z yyX9_bring wd_1795 (tgX9_bring l D cy s.heap.size _ v1 ⟨by omega, by omega⟩ v2 ⟨by omega, by omega⟩ hI3) kd_195 rfl rfl ⟨rfl, rfl, Nat.le_of_ble_eq_true rfl, Nat.le_of_ble_eq_true rfl⟩ ⟨Nat.le_of_ble_eq_true rfl, Nat.le_of_ble_eq_true rfl⟩ (Nat.le_of_ble_eq_true rfl) dL_1319 (fun r6 τ6 hp6 => ?_)
  obtain ⟨⟨x6, rfl, ⟨hx6a, hx6b⟩⟩, hI6, hG6⟩ := hp6
  show hpV _ _ _ _ _ _ _ _ _ _ _ _ _ _ _ _ _ _ _ _ _ (_ :: _)
  refine h_pop C rfl dL_1322 ?_
  refine h_goto (tgt := 2352) C dL_1323 (by decide) ?_
  exact K τ6 hI6 (hR.fr (fun j i h => (hG6 j i (by omega)).trans (hG3 j i (by omega))))
set_option maxHeartbeats 4000000 in
set_option maxRecDepth 20000 in
theorem law_40 {p : Program} {e : Env} {s : State} {m : MethodId} {below : List Frame} {meth : Method} {c : Code} (l : Launch) {b L : Nat} {xs : Nat → Int32} {D : va_G} {cy : Nat → ClassId} (C : hpC p s m #[.ref b] c code 4 RL D cy) (Z : hpStr s.heap.size cy s s.heap) (hr : meth.sig.returnType = ret) (hk : meth.locks = false) (hX : va_X b L xs s s.heap) (hbl : b < s.heap.size) (hL : L ≤ 3072) (σ : hpMem) (hI : hpInv σ) (hR : hpR72 σ) (i : Int) (hi0 : 0 ≤ i) (hi : i + 6 ≤ (L : Int)) (K : ∀ τ : hpMem, hpInv τ → hpR72 τ → hpV p l e room_1 s m #[.ref b] below meth c 217 24316 4 D cy s.heap.size s.heap (lw_Z below #[Value.ref b] s) τ 2352 [(3, .int (hpI i)), (2, .ref (s.heap.size + 195)), (1, .ref (s.heap.size + 0)), (0, .ref b)] []) : hpV p l e room_1 s m #[.ref b] below meth c 217 24316 4 D cy s.heap.size s.heap (lw_Z below #[Value.ref b] s) σ 1326 [(3, .int (hpI i)), (2, .ref (s.heap.size + 195)), (1, .ref (s.heap.size + 0)), (0, .ref b)] [] := by
  refine h_aload_n C dL_1326 2 rfl rfl ?_
  refine h_aload_n C dL_1327 3 rfl rfl ?_
  refine h_iload_n C dL_1328 0 rfl rfl ?_
  refine h_iconst C dL_1329 ?_
  refine h_iadd C dL_1330 rfl ?_
  refine h_sldL C hX hbl (i + 1).toNat (Int.toNat_of_nonneg (by omega)) (by omega) (by omega) dL_1331 ?_
  have hq1 := hpR_of (xs (i + 1).toNat)
  obtain ⟨hq1a, hq1b⟩ := hq1
  obtain ⟨v1, ev1⟩ : ∃ v : Int, v = (xs (i + 1).toNat).toInt := ⟨_, rfl⟩
  rw [← ev1] at hq1a hq1b ⊢
  refine h_callV (As := [.int (hpI v1)]) (rest := []) C Z yyX8_latest wd_961 (tgX8_latest l D cy s.heap.size _ v1 ⟨by omega, by omega⟩ hI) kd_0 rfl rfl ⟨rfl, rfl, Nat.le_of_ble_eq_true rfl, Nat.le_of_ble_eq_true rfl⟩ ⟨Nat.le_of_ble_eq_true rfl, Nat.le_of_ble_eq_true rfl⟩ (Nat.le_of_ble_eq_true rfl) dL_1332 (fun r2 τ2 hp2 => ?_)
  obtain ⟨⟨x2, rfl, ⟨hx2a, hx2b⟩⟩, hI2, hG2⟩ := hp2
  show hpV _ _ _ _ _ _ _ _ _ _ _ _ _ _ _ _ _ _ _ _ _ (_ :: _)
  refine h_pop C rfl dL_1335 ?_
  refine h_aload_n C dL_1336 1 rfl rfl ?_
  refine h_aload_n C dL_1337 3 rfl rfl ?_
  refine h_iload_n C dL_1338 0 rfl rfl ?_
  refine h_iconst C dL_1339 ?_
  refine h_iadd C dL_1340 rfl ?_
  refine h_sldL C hX hbl (i + 1).toNat (Int.toNat_of_nonneg (by omega)) (by omega) (by omega) dL_1341 ?_
  have hq3 := hpR_of (xs (i + 1).toNat)
  obtain ⟨hq3a, hq3b⟩ := hq3
  obtain ⟨v3, ev3⟩ : ∃ v : Int, v = (xs (i + 1).toNat).toInt := ⟨_, rfl⟩
  rw [← ev3] at hq3a hq3b ⊢
  have ez3 : v1 = v3 := ev1.trans ev3.symm
  subst ez3
  refine h_callV (As := [.int (hpI v1)]) (rest := []) C Z yyX9_latest wd_1808 (tgX9_latest l D cy s.heap.size _ v1 ⟨by omega, by omega⟩ hI2) kd_195 rfl rfl ⟨rfl, rfl, Nat.le_of_ble_eq_true rfl, Nat.le_of_ble_eq_true rfl⟩ ⟨Nat.le_of_ble_eq_true rfl, Nat.le_of_ble_eq_true rfl⟩ (Nat.le_of_ble_eq_true rfl) dL_1342 (fun r4 τ4 hp4 => ?_)
  obtain ⟨⟨x4, rfl, ⟨hx4a, hx4b⟩⟩, hI4, hG4⟩ := hp4
  show hpV _ _ _ _ _ _ _ _ _ _ _ _ _ _ _ _ _ _ _ _ _ (_ :: _)
  refine h_pop C rfl dL_1345 ?_
  refine h_goto (tgt := 2352) C dL_1346 (by decide) ?_
  exact K τ4 hI4 (hR.fr (fun j i h => (hG4 j i (by omega)).trans (hG2 j i (by omega))))
set_option maxHeartbeats 4000000 in
set_option maxRecDepth 20000 in
theorem law_41 {p : Program} {e : Env} {s : State} {m : MethodId} {below : List Frame} {meth : Method} {c : Code} (l : Launch) {b L : Nat} {xs : Nat → Int32} {D : va_G} {cy : Nat → ClassId} (C : hpC p s m #[.ref b] c code 4 RL D cy) (Z : hpStr s.heap.size cy s s.heap) (hr : meth.sig.returnType = ret) (hk : meth.locks = false) (hX : va_X b L xs s s.heap) (hbl : b < s.heap.size) (hL : L ≤ 3072) (σ : hpMem) (hI : hpInv σ) (hR : hpR72 σ) (i : Int) (hi0 : 0 ≤ i) (hi : i + 6 ≤ (L : Int)) (K : ∀ τ : hpMem, hpInv τ → hpR72 τ → hpV p l e room_1 s m #[.ref b] below meth c 217 24316 4 D cy s.heap.size s.heap (lw_Z below #[Value.ref b] s) τ 2352 [(3, .int (hpI i)), (2, .ref (s.heap.size + 195)), (1, .ref (s.heap.size + 0)), (0, .ref b)] []) : hpV p l e room_1 s m #[.ref b] below meth c 217 24316 4 D cy s.heap.size s.heap (lw_Z below #[Value.ref b] s) σ 1349 [(3, .int (hpI i)), (2, .ref (s.heap.size + 195)), (1, .ref (s.heap.size + 0)), (0, .ref b)] [] := by
  refine h_aload_n C dL_1349 2 rfl rfl ?_
  refine h_callV (As := []) (rest := []) C Z yyX8_spare wd_965 (tgX8_spare l D cy s.heap.size _ hI) kd_0 rfl rfl ⟨rfl, rfl, Nat.le_of_ble_eq_true rfl, Nat.le_of_ble_eq_true rfl⟩ ⟨Nat.le_of_ble_eq_true rfl, Nat.le_of_ble_eq_true rfl⟩ (Nat.le_of_ble_eq_true rfl) dL_1350 (fun r1 τ1 hp1 => ?_)
  obtain ⟨⟨x1, rfl, ⟨hx1a, hx1b⟩⟩, hI1, hG1⟩ := hp1
  show hpV _ _ _ _ _ _ _ _ _ _ _ _ _ _ _ _ _ _ _ _ _ (_ :: _)
  refine h_pop C rfl dL_1353 ?_
  refine h_aload_n C dL_1354 1 rfl rfl ?_
  refine h_callV (As := []) (rest := []) C Z yyX9_spare wd_1812 (tgX9_spare l D cy s.heap.size _ hI1) kd_195 rfl rfl ⟨rfl, rfl, Nat.le_of_ble_eq_true rfl, Nat.le_of_ble_eq_true rfl⟩ ⟨Nat.le_of_ble_eq_true rfl, Nat.le_of_ble_eq_true rfl⟩ (Nat.le_of_ble_eq_true rfl) dL_1355 (fun r2 τ2 hp2 => ?_)
  obtain ⟨⟨x2, rfl, ⟨hx2a, hx2b⟩⟩, hI2, hG2⟩ := hp2
  show hpV _ _ _ _ _ _ _ _ _ _ _ _ _ _ _ _ _ _ _ _ _ (_ :: _)
  refine h_pop C rfl dL_1358 ?_
  refine h_goto (tgt := 2352) C dL_1359 (by decide) ?_
  exact K τ2 hI2 (hR.fr (fun j i h => (hG2 j i (by omega)).trans (hG1 j i (by omega))))
set_option maxHeartbeats 4000000 in
set_option maxRecDepth 20000 in
theorem law_42 {p : Program} {e : Env} {s : State} {m : MethodId} {below : List Frame} {meth : Method} {c : Code} (l : Launch) {b L : Nat} {xs : Nat → Int32} {D : va_G} {cy : Nat → ClassId} (C : hpC p s m #[.ref b] c code 4 RL D cy) (Z : hpStr s.heap.size cy s s.heap) (hr : meth.sig.returnType = ret) (hk : meth.locks = false) (hX : va_X b L xs s s.heap) (hbl : b < s.heap.size) (hL : L ≤ 3072) (σ : hpMem) (hI : hpInv σ) (hR : hpR72 σ) (i : Int) (hi0 : 0 ≤ i) (hi : i + 6 ≤ (L : Int)) (K : ∀ τ : hpMem, hpInv τ → hpR72 τ → hpV p l e room_1 s m #[.ref b] below meth c 217 24316 4 D cy s.heap.size s.heap (lw_Z below #[Value.ref b] s) τ 2352 [(3, .int (hpI i)), (2, .ref (s.heap.size + 195)), (1, .ref (s.heap.size + 0)), (0, .ref b)] []) : hpV p l e room_1 s m #[.ref b] below meth c 217 24316 4 D cy s.heap.size s.heap (lw_Z below #[Value.ref b] s) σ 1362 [(3, .int (hpI i)), (2, .ref (s.heap.size + 195)), (1, .ref (s.heap.size + 0)), (0, .ref b)] [] := by
  refine h_aload_n C dL_1362 2 rfl rfl ?_
  refine h_aload_n C dL_1363 3 rfl rfl ?_
  refine h_iload_n C dL_1364 0 rfl rfl ?_
  refine h_iconst C dL_1365 ?_
  refine h_iadd C dL_1366 rfl ?_
  refine h_sldL C hX hbl (i + 1).toNat (Int.toNat_of_nonneg (by omega)) (by omega) (by omega) dL_1367 ?_
  have hq1 := hpR_of (xs (i + 1).toNat)
  obtain ⟨hq1a, hq1b⟩ := hq1
  obtain ⟨v1, ev1⟩ : ∃ v : Int, v = (xs (i + 1).toNat).toInt := ⟨_, rfl⟩
  rw [← ev1] at hq1a hq1b ⊢
  refine h_aload_n C dL_1368 3 rfl rfl ?_
  refine h_iload_n C dL_1369 0 rfl rfl ?_
  refine h_iconst C dL_1370 ?_
  refine h_iadd C dL_1371 rfl ?_
  refine h_sldL C hX hbl (i + 2).toNat (Int.toNat_of_nonneg (by omega)) (by omega) (by omega) dL_1372 ?_
  have hq2 := hpR_of (xs (i + 2).toNat)
  obtain ⟨hq2a, hq2b⟩ := hq2
  obtain ⟨v2, ev2⟩ : ∃ v : Int, v = (xs (i + 2).toNat).toInt := ⟨_, rfl⟩
  rw [← ev2] at hq2a hq2b ⊢
  refine h_callV (As := [.int (hpI v1), .int (hpI v2)]) (rest := []) C Z yyX8_heights wd_973 (tgX8_heights l D cy s.heap.size _ v1 ⟨by omega, by omega⟩ v2 ⟨by omega, by omega⟩ hI) kd_0 rfl rfl ⟨rfl, rfl, Nat.le_of_ble_eq_true rfl, Nat.le_of_ble_eq_true rfl⟩ ⟨Nat.le_of_ble_eq_true rfl, Nat.le_of_ble_eq_true rfl⟩ (Nat.le_of_ble_eq_true rfl) dL_1373 (fun r3 τ3 hp3 => ?_)
  obtain ⟨⟨x3, rfl, ⟨hx3a, hx3b⟩⟩, hI3, hG3⟩ := hp3
  show hpV _ _ _ _ _ _ _ _ _ _ _ _ _ _ _ _ _ _ _ _ _ (_ :: _)
  refine h_pop C rfl dL_1376 ?_
  refine h_aload_n C dL_1377 1 rfl rfl ?_
  refine h_aload_n C dL_1378 3 rfl rfl ?_
  refine h_iload_n C dL_1379 0 rfl rfl ?_
  refine h_iconst C dL_1380 ?_
  refine h_iadd C dL_1381 rfl ?_
  refine h_sldL C hX hbl (i + 1).toNat (Int.toNat_of_nonneg (by omega)) (by omega) (by omega) dL_1382 ?_
  have hq4 := hpR_of (xs (i + 1).toNat)
  obtain ⟨hq4a, hq4b⟩ := hq4
  obtain ⟨v4, ev4⟩ : ∃ v : Int, v = (xs (i + 1).toNat).toInt := ⟨_, rfl⟩
  rw [← ev4] at hq4a hq4b ⊢
  have ez4 : v1 = v4 := ev1.trans ev4.symm
  subst ez4
  refine h_aload_n C dL_1383 3 rfl rfl ?_
  refine h_iload_n C dL_1384 0 rfl rfl ?_
  refine h_iconst C dL_1385 ?_
  refine h_iadd C dL_1386 rfl ?_
  refine h_sldL C hX hbl (i + 2).toNat (Int.toNat_of_nonneg (by omega)) (by omega) (by omega) dL_1387 ?_
  have hq5 := hpR_of (xs (i + 2).toNat)
  obtain ⟨hq5a, hq5b⟩ := hq5
  obtain ⟨v5, ev5⟩ : ∃ v : Int, v = (xs (i + 2).toNat).toInt := ⟨_, rfl⟩
  rw [← ev5] at hq5a hq5b ⊢
  have ez5 : v2 = v5 := ev2.trans ev5.symm
  subst ez5
  refine h_callV (As := [.int (hpI v1), .int (hpI v2)]) (rest := []) C Z yyX9_heights wd_1816 (tgX9_heights l D cy s.heap.size _ v1 ⟨by omega, by omega⟩ v2 ⟨by omega, by omega⟩ hI3) kd_195 rfl rfl ⟨rfl, rfl, Nat.le_of_ble_eq_true rfl, Nat.le_of_ble_eq_true rfl⟩ ⟨Nat.le_of_ble_eq_true rfl, Nat.le_of_ble_eq_true rfl⟩ (Nat.le_of_ble_eq_true rfl) dL_1388 (fun r6 τ6 hp6 => ?_)
  obtain ⟨⟨x6, rfl, ⟨hx6a, hx6b⟩⟩, hI6, hG6⟩ := hp6
  show hpV _ _ _ _ _ _ _ _ _ _ _ _ _ _ _ _ _ _ _ _ _ (_ :: _)
  refine h_pop C rfl dL_1391 ?_
  refine h_goto (tgt := 2352) C dL_1392 (by decide) ?_
  exact K τ6 hI6 (hR.fr (fun j i h => (hG6 j i (by omega)).trans (hG3 j i (by omega))))
set_option maxHeartbeats 4000000 in
set_option maxRecDepth 20000 in
theorem law_43 {p : Program} {e : Env} {s : State} {m : MethodId} {below : List Frame} {meth : Method} {c : Code} (l : Launch) {b L : Nat} {xs : Nat → Int32} {D : va_G} {cy : Nat → ClassId} (C : hpC p s m #[.ref b] c code 4 RL D cy) (Z : hpStr s.heap.size cy s s.heap) (hr : meth.sig.returnType = ret) (hk : meth.locks = false) (hX : va_X b L xs s s.heap) (hbl : b < s.heap.size) (hL : L ≤ 3072) (σ : hpMem) (hI : hpInv σ) (hR : hpR72 σ) (i : Int) (hi0 : 0 ≤ i) (hi : i + 6 ≤ (L : Int)) (K : ∀ τ : hpMem, hpInv τ → hpR72 τ → hpV p l e room_1 s m #[.ref b] below meth c 217 24316 4 D cy s.heap.size s.heap (lw_Z below #[Value.ref b] s) τ 2352 [(3, .int (hpI i)), (2, .ref (s.heap.size + 195)), (1, .ref (s.heap.size + 0)), (0, .ref b)] []) : hpV p l e room_1 s m #[.ref b] below meth c 217 24316 4 D cy s.heap.size s.heap (lw_Z below #[Value.ref b] s) σ 1395 [(3, .int (hpI i)), (2, .ref (s.heap.size + 195)), (1, .ref (s.heap.size + 0)), (0, .ref b)] [] := by
  refine h_aload_n C dL_1395 2 rfl rfl ?_
  refine h_aload_n C dL_1396 3 rfl rfl ?_
  refine h_iload_n C dL_1397 0 rfl rfl ?_
  refine h_iconst C dL_1398 ?_
  refine h_iadd C dL_1399 rfl ?_
  refine h_sldL C hX hbl (i + 1).toNat (Int.toNat_of_nonneg (by omega)) (by omega) (by omega) dL_1400 ?_
  have hq1 := hpR_of (xs (i + 1).toNat)
  obtain ⟨hq1a, hq1b⟩ := hq1
  obtain ⟨v1, ev1⟩ : ∃ v : Int, v = (xs (i + 1).toNat).toInt := ⟨_, rfl⟩
  rw [← ev1] at hq1a hq1b ⊢
  refine h_aload_n C dL_1401 3 rfl rfl ?_
  refine h_iload_n C dL_1402 0 rfl rfl ?_
  refine h_iconst C dL_1403 ?_
  refine h_iadd C dL_1404 rfl ?_
  refine h_sldL C hX hbl (i + 2).toNat (Int.toNat_of_nonneg (by omega)) (by omega) (by omega) dL_1405 ?_
  have hq2 := hpR_of (xs (i + 2).toNat)
  obtain ⟨hq2a, hq2b⟩ := hq2
  obtain ⟨v2, ev2⟩ : ∃ v : Int, v = (xs (i + 2).toNat).toInt := ⟨_, rfl⟩
  rw [← ev2] at hq2a hq2b ⊢
  refine h_callV (As := [.int (hpI v1), .int (hpI v2)]) (rest := []) C Z yyX8_least wd_1004 (tgX8_least l D cy s.heap.size _ v1 ⟨by omega, by omega⟩ v2 ⟨by omega, by omega⟩ hI) kd_0 rfl rfl ⟨rfl, rfl, Nat.le_of_ble_eq_true rfl, Nat.le_of_ble_eq_true rfl⟩ ⟨Nat.le_of_ble_eq_true rfl, Nat.le_of_ble_eq_true rfl⟩ (Nat.le_of_ble_eq_true rfl) dL_1406 (fun r3 τ3 hp3 => ?_)
  obtain ⟨⟨x3, rfl, ⟨hx3a, hx3b⟩⟩, hI3, hG3⟩ := hp3
  show hpV _ _ _ _ _ _ _ _ _ _ _ _ _ _ _ _ _ _ _ _ _ (_ :: _)
  refine h_pop C rfl dL_1409 ?_
  refine h_aload_n C dL_1410 1 rfl rfl ?_
  refine h_aload_n C dL_1411 3 rfl rfl ?_
  refine h_iload_n C dL_1412 0 rfl rfl ?_
  refine h_iconst C dL_1413 ?_
  refine h_iadd C dL_1414 rfl ?_
  refine h_sldL C hX hbl (i + 1).toNat (Int.toNat_of_nonneg (by omega)) (by omega) (by omega) dL_1415 ?_
  have hq4 := hpR_of (xs (i + 1).toNat)
  obtain ⟨hq4a, hq4b⟩ := hq4
  obtain ⟨v4, ev4⟩ : ∃ v : Int, v = (xs (i + 1).toNat).toInt := ⟨_, rfl⟩
  rw [← ev4] at hq4a hq4b ⊢
  have ez4 : v1 = v4 := ev1.trans ev4.symm
  subst ez4
  refine h_aload_n C dL_1416 3 rfl rfl ?_
  refine h_iload_n C dL_1417 0 rfl rfl ?_
  refine h_iconst C dL_1418 ?_
  refine h_iadd C dL_1419 rfl ?_
  refine h_sldL C hX hbl (i + 2).toNat (Int.toNat_of_nonneg (by omega)) (by omega) (by omega) dL_1420 ?_
  have hq5 := hpR_of (xs (i + 2).toNat)
  obtain ⟨hq5a, hq5b⟩ := hq5
  obtain ⟨v5, ev5⟩ : ∃ v : Int, v = (xs (i + 2).toNat).toInt := ⟨_, rfl⟩
  rw [← ev5] at hq5a hq5b ⊢
  have ez5 : v2 = v5 := ev2.trans ev5.symm
  subst ez5
  refine h_callV (As := [.int (hpI v1), .int (hpI v2)]) (rest := []) C Z yyX9_least wd_1832 (tgX9_least l D cy s.heap.size _ v1 ⟨by omega, by omega⟩ v2 ⟨by omega, by omega⟩ hI3) kd_195 rfl rfl ⟨rfl, rfl, Nat.le_of_ble_eq_true rfl, Nat.le_of_ble_eq_true rfl⟩ ⟨Nat.le_of_ble_eq_true rfl, Nat.le_of_ble_eq_true rfl⟩ (Nat.le_of_ble_eq_true rfl) dL_1421 (fun r6 τ6 hp6 => ?_)
  obtain ⟨⟨x6, rfl, ⟨hx6a, hx6b⟩⟩, hI6, hG6⟩ := hp6
  show hpV _ _ _ _ _ _ _ _ _ _ _ _ _ _ _ _ _ _ _ _ _ (_ :: _)
  refine h_pop C rfl dL_1424 ?_
  refine h_goto (tgt := 2352) C dL_1425 (by decide) ?_
  exact K τ6 hI6 (hR.fr (fun j i h => (hG6 j i (by omega)).trans (hG3 j i (by omega))))
set_option maxHeartbeats 4000000 in
set_option maxRecDepth 20000 in
theorem law_44 {p : Program} {e : Env} {s : State} {m : MethodId} {below : List Frame} {meth : Method} {c : Code} (l : Launch) {b L : Nat} {xs : Nat → Int32} {D : va_G} {cy : Nat → ClassId} (C : hpC p s m #[.ref b] c code 4 RL D cy) (Z : hpStr s.heap.size cy s s.heap) (hr : meth.sig.returnType = ret) (hk : meth.locks = false) (hX : va_X b L xs s s.heap) (hbl : b < s.heap.size) (hL : L ≤ 3072) (σ : hpMem) (hI : hpInv σ) (hR : hpR72 σ) (i : Int) (hi0 : 0 ≤ i) (hi : i + 6 ≤ (L : Int)) (K : ∀ τ : hpMem, hpInv τ → hpR72 τ → hpV p l e room_1 s m #[.ref b] below meth c 217 24316 4 D cy s.heap.size s.heap (lw_Z below #[Value.ref b] s) τ 2352 [(3, .int (hpI i)), (2, .ref (s.heap.size + 195)), (1, .ref (s.heap.size + 0)), (0, .ref b)] []) : hpV p l e room_1 s m #[.ref b] below meth c 217 24316 4 D cy s.heap.size s.heap (lw_Z below #[Value.ref b] s) σ 1428 [(3, .int (hpI i)), (2, .ref (s.heap.size + 195)), (1, .ref (s.heap.size + 0)), (0, .ref b)] [] := by
  refine h_aload_n C dL_1428 2 rfl rfl ?_
  refine h_aload_n C dL_1429 3 rfl rfl ?_
  refine h_iload_n C dL_1430 0 rfl rfl ?_
  refine h_iconst C dL_1431 ?_
  refine h_iadd C dL_1432 rfl ?_
  refine h_sldL C hX hbl (i + 1).toNat (Int.toNat_of_nonneg (by omega)) (by omega) (by omega) dL_1433 ?_
  have hq1 := hpR_of (xs (i + 1).toNat)
  obtain ⟨hq1a, hq1b⟩ := hq1
  obtain ⟨v1, ev1⟩ : ∃ v : Int, v = (xs (i + 1).toNat).toInt := ⟨_, rfl⟩
  rw [← ev1] at hq1a hq1b ⊢
  refine h_aload_n C dL_1434 3 rfl rfl ?_
  refine h_iload_n C dL_1435 0 rfl rfl ?_
  refine h_iconst C dL_1436 ?_
  refine h_iadd C dL_1437 rfl ?_
  refine h_sldL C hX hbl (i + 2).toNat (Int.toNat_of_nonneg (by omega)) (by omega) (by omega) dL_1438 ?_
  have hq2 := hpR_of (xs (i + 2).toNat)
  obtain ⟨hq2a, hq2b⟩ := hq2
  obtain ⟨v2, ev2⟩ : ∃ v : Int, v = (xs (i + 2).toNat).toInt := ⟨_, rfl⟩
  rw [← ev2] at hq2a hq2b ⊢
  refine h_callV (As := [.int (hpI v1), .int (hpI v2)]) (rest := []) C Z yyX8_greatest wd_1012 (tgX8_greatest l D cy s.heap.size _ v1 ⟨by omega, by omega⟩ v2 ⟨by omega, by omega⟩ hI) kd_0 rfl rfl ⟨rfl, rfl, Nat.le_of_ble_eq_true rfl, Nat.le_of_ble_eq_true rfl⟩ ⟨Nat.le_of_ble_eq_true rfl, Nat.le_of_ble_eq_true rfl⟩ (Nat.le_of_ble_eq_true rfl) dL_1439 (fun r3 τ3 hp3 => ?_)
  obtain ⟨⟨x3, rfl, ⟨hx3a, hx3b⟩⟩, hI3, hG3⟩ := hp3
  show hpV _ _ _ _ _ _ _ _ _ _ _ _ _ _ _ _ _ _ _ _ _ (_ :: _)
  refine h_pop C rfl dL_1442 ?_
  refine h_aload_n C dL_1443 1 rfl rfl ?_
  refine h_aload_n C dL_1444 3 rfl rfl ?_
  refine h_iload_n C dL_1445 0 rfl rfl ?_
  refine h_iconst C dL_1446 ?_
  refine h_iadd C dL_1447 rfl ?_
  refine h_sldL C hX hbl (i + 1).toNat (Int.toNat_of_nonneg (by omega)) (by omega) (by omega) dL_1448 ?_
  have hq4 := hpR_of (xs (i + 1).toNat)
  obtain ⟨hq4a, hq4b⟩ := hq4
  obtain ⟨v4, ev4⟩ : ∃ v : Int, v = (xs (i + 1).toNat).toInt := ⟨_, rfl⟩
  rw [← ev4] at hq4a hq4b ⊢
  have ez4 : v1 = v4 := ev1.trans ev4.symm
  subst ez4
  refine h_aload_n C dL_1449 3 rfl rfl ?_
  refine h_iload_n C dL_1450 0 rfl rfl ?_
  refine h_iconst C dL_1451 ?_
  refine h_iadd C dL_1452 rfl ?_
  refine h_sldL C hX hbl (i + 2).toNat (Int.toNat_of_nonneg (by omega)) (by omega) (by omega) dL_1453 ?_
  have hq5 := hpR_of (xs (i + 2).toNat)
  obtain ⟨hq5a, hq5b⟩ := hq5
  obtain ⟨v5, ev5⟩ : ∃ v : Int, v = (xs (i + 2).toNat).toInt := ⟨_, rfl⟩
  rw [← ev5] at hq5a hq5b ⊢
  have ez5 : v2 = v5 := ev2.trans ev5.symm
  subst ez5
  refine h_callV (As := [.int (hpI v1), .int (hpI v2)]) (rest := []) C Z yyX9_greatest wd_1836 (tgX9_greatest l D cy s.heap.size _ v1 ⟨by omega, by omega⟩ v2 ⟨by omega, by omega⟩ hI3) kd_195 rfl rfl ⟨rfl, rfl, Nat.le_of_ble_eq_true rfl, Nat.le_of_ble_eq_true rfl⟩ ⟨Nat.le_of_ble_eq_true rfl, Nat.le_of_ble_eq_true rfl⟩ (Nat.le_of_ble_eq_true rfl) dL_1454 (fun r6 τ6 hp6 => ?_)
  obtain ⟨⟨x6, rfl, ⟨hx6a, hx6b⟩⟩, hI6, hG6⟩ := hp6
  show hpV _ _ _ _ _ _ _ _ _ _ _ _ _ _ _ _ _ _ _ _ _ (_ :: _)
  refine h_pop C rfl dL_1457 ?_
  refine h_goto (tgt := 2352) C dL_1458 (by decide) ?_
  exact K τ6 hI6 (hR.fr (fun j i h => (hG6 j i (by omega)).trans (hG3 j i (by omega))))
set_option maxHeartbeats 4000000 in
set_option maxRecDepth 20000 in
theorem law_45 {p : Program} {e : Env} {s : State} {m : MethodId} {below : List Frame} {meth : Method} {c : Code} (l : Launch) {b L : Nat} {xs : Nat → Int32} {D : va_G} {cy : Nat → ClassId} (C : hpC p s m #[.ref b] c code 4 RL D cy) (Z : hpStr s.heap.size cy s s.heap) (hr : meth.sig.returnType = ret) (hk : meth.locks = false) (hX : va_X b L xs s s.heap) (hbl : b < s.heap.size) (hL : L ≤ 3072) (σ : hpMem) (hI : hpInv σ) (hR : hpR72 σ) (i : Int) (hi0 : 0 ≤ i) (hi : i + 6 ≤ (L : Int)) (K : ∀ τ : hpMem, hpInv τ → hpR72 τ → hpV p l e room_1 s m #[.ref b] below meth c 217 24316 4 D cy s.heap.size s.heap (lw_Z below #[Value.ref b] s) τ 2352 [(3, .int (hpI i)), (2, .ref (s.heap.size + 195)), (1, .ref (s.heap.size + 0)), (0, .ref b)] []) : hpV p l e room_1 s m #[.ref b] below meth c 217 24316 4 D cy s.heap.size s.heap (lw_Z below #[Value.ref b] s) σ 1461 [(3, .int (hpI i)), (2, .ref (s.heap.size + 195)), (1, .ref (s.heap.size + 0)), (0, .ref b)] [] := by
  refine h_aload_n C dL_1461 2 rfl rfl ?_
  refine h_aload_n C dL_1462 3 rfl rfl ?_
  refine h_iload_n C dL_1463 0 rfl rfl ?_
  refine h_iconst C dL_1464 ?_
  refine h_iadd C dL_1465 rfl ?_
  refine h_sldL C hX hbl (i + 1).toNat (Int.toNat_of_nonneg (by omega)) (by omega) (by omega) dL_1466 ?_
  have hq1 := hpR_of (xs (i + 1).toNat)
  obtain ⟨hq1a, hq1b⟩ := hq1
  obtain ⟨v1, ev1⟩ : ∃ v : Int, v = (xs (i + 1).toNat).toInt := ⟨_, rfl⟩
  rw [← ev1] at hq1a hq1b ⊢
  refine h_aload_n C dL_1467 3 rfl rfl ?_
  refine h_iload_n C dL_1468 0 rfl rfl ?_
  refine h_iconst C dL_1469 ?_
  refine h_iadd C dL_1470 rfl ?_
  refine h_sldL C hX hbl (i + 2).toNat (Int.toNat_of_nonneg (by omega)) (by omega) (by omega) dL_1471 ?_
  have hq2 := hpR_of (xs (i + 2).toNat)
  obtain ⟨hq2a, hq2b⟩ := hq2
  obtain ⟨v2, ev2⟩ : ∃ v : Int, v = (xs (i + 2).toNat).toInt := ⟨_, rfl⟩
  rw [← ev2] at hq2a hq2b ⊢
  refine h_callV (As := [.int (hpI v1), .int (hpI v2)]) (rest := []) C Z yyX8_ask wd_1020 (tgX8_ask l D cy s.heap.size _ v1 ⟨by omega, by omega⟩ v2 ⟨by omega, by omega⟩ hI) kd_0 rfl rfl ⟨rfl, rfl, Nat.le_of_ble_eq_true rfl, Nat.le_of_ble_eq_true rfl⟩ ⟨Nat.le_of_ble_eq_true rfl, Nat.le_of_ble_eq_true rfl⟩ (Nat.le_of_ble_eq_true rfl) dL_1472 (fun r3 τ3 hp3 => ?_)
  obtain ⟨⟨x3, rfl, ⟨hx3a, hx3b⟩⟩, hI3, hG3⟩ := hp3
  show hpV _ _ _ _ _ _ _ _ _ _ _ _ _ _ _ _ _ _ _ _ _ (_ :: _)
  refine h_pop C rfl dL_1475 ?_
  refine h_aload_n C dL_1476 1 rfl rfl ?_
  refine h_aload_n C dL_1477 3 rfl rfl ?_
  refine h_iload_n C dL_1478 0 rfl rfl ?_
  refine h_iconst C dL_1479 ?_
  refine h_iadd C dL_1480 rfl ?_
  refine h_sldL C hX hbl (i + 1).toNat (Int.toNat_of_nonneg (by omega)) (by omega) (by omega) dL_1481 ?_
  have hq4 := hpR_of (xs (i + 1).toNat)
  obtain ⟨hq4a, hq4b⟩ := hq4
  obtain ⟨v4, ev4⟩ : ∃ v : Int, v = (xs (i + 1).toNat).toInt := ⟨_, rfl⟩
  rw [← ev4] at hq4a hq4b ⊢
  have ez4 : v1 = v4 := ev1.trans ev4.symm
  subst ez4
  refine h_aload_n C dL_1482 3 rfl rfl ?_
  refine h_iload_n C dL_1483 0 rfl rfl ?_
  refine h_iconst C dL_1484 ?_
  refine h_iadd C dL_1485 rfl ?_
  refine h_sldL C hX hbl (i + 2).toNat (Int.toNat_of_nonneg (by omega)) (by omega) (by omega) dL_1486 ?_
  have hq5 := hpR_of (xs (i + 2).toNat)
  obtain ⟨hq5a, hq5b⟩ := hq5
  obtain ⟨v5, ev5⟩ : ∃ v : Int, v = (xs (i + 2).toNat).toInt := ⟨_, rfl⟩
  rw [← ev5] at hq5a hq5b ⊢
  have ez5 : v2 = v5 := ev2.trans ev5.symm
  subst ez5
  refine h_callV (As := [.int (hpI v1), .int (hpI v2)]) (rest := []) C Z yyX9_ask wd_1840 (tgX9_ask l D cy s.heap.size _ v1 ⟨by omega, by omega⟩ v2 ⟨by omega, by omega⟩ hI3) kd_195 rfl rfl ⟨rfl, rfl, Nat.le_of_ble_eq_true rfl, Nat.le_of_ble_eq_true rfl⟩ ⟨Nat.le_of_ble_eq_true rfl, Nat.le_of_ble_eq_true rfl⟩ (Nat.le_of_ble_eq_true rfl) dL_1487 (fun r6 τ6 hp6 => ?_)
  obtain ⟨⟨x6, rfl, ⟨hx6a, hx6b⟩⟩, hI6, hG6⟩ := hp6
  show hpV _ _ _ _ _ _ _ _ _ _ _ _ _ _ _ _ _ _ _ _ _ (_ :: _)
  refine h_pop C rfl dL_1490 ?_
  refine h_goto (tgt := 2352) C dL_1491 (by decide) ?_
  exact K τ6 hI6 (hR.fr (fun j i h => (hG6 j i (by omega)).trans (hG3 j i (by omega))))
set_option maxHeartbeats 4000000 in
set_option maxRecDepth 20000 in
theorem law_46 {p : Program} {e : Env} {s : State} {m : MethodId} {below : List Frame} {meth : Method} {c : Code} (l : Launch) {b L : Nat} {xs : Nat → Int32} {D : va_G} {cy : Nat → ClassId} (C : hpC p s m #[.ref b] c code 4 RL D cy) (Z : hpStr s.heap.size cy s s.heap) (hr : meth.sig.returnType = ret) (hk : meth.locks = false) (hX : va_X b L xs s s.heap) (hbl : b < s.heap.size) (hL : L ≤ 3072) (σ : hpMem) (hI : hpInv σ) (hR : hpR72 σ) (i : Int) (hi0 : 0 ≤ i) (hi : i + 6 ≤ (L : Int)) (K : ∀ τ : hpMem, hpInv τ → hpR72 τ → hpV p l e room_1 s m #[.ref b] below meth c 217 24316 4 D cy s.heap.size s.heap (lw_Z below #[Value.ref b] s) τ 2352 [(3, .int (hpI i)), (2, .ref (s.heap.size + 195)), (1, .ref (s.heap.size + 0)), (0, .ref b)] []) : hpV p l e room_1 s m #[.ref b] below meth c 217 24316 4 D cy s.heap.size s.heap (lw_Z below #[Value.ref b] s) σ 1494 [(3, .int (hpI i)), (2, .ref (s.heap.size + 195)), (1, .ref (s.heap.size + 0)), (0, .ref b)] [] := by
  refine h_aload_n C dL_1494 2 rfl rfl ?_
  refine h_aload_n C dL_1495 3 rfl rfl ?_
  refine h_iload_n C dL_1496 0 rfl rfl ?_
  refine h_iconst C dL_1497 ?_
  refine h_iadd C dL_1498 rfl ?_
  refine h_sldL C hX hbl (i + 1).toNat (Int.toNat_of_nonneg (by omega)) (by omega) (by omega) dL_1499 ?_
  have hq1 := hpR_of (xs (i + 1).toNat)
  obtain ⟨hq1a, hq1b⟩ := hq1
  obtain ⟨v1, ev1⟩ : ∃ v : Int, v = (xs (i + 1).toNat).toInt := ⟨_, rfl⟩
  rw [← ev1] at hq1a hq1b ⊢
  refine h_aload_n C dL_1500 3 rfl rfl ?_
  refine h_iload_n C dL_1501 0 rfl rfl ?_
  refine h_iconst C dL_1502 ?_
  refine h_iadd C dL_1503 rfl ?_
  refine h_sldL C hX hbl (i + 2).toNat (Int.toNat_of_nonneg (by omega)) (by omega) (by omega) dL_1504 ?_
  have hq2 := hpR_of (xs (i + 2).toNat)
  obtain ⟨hq2a, hq2b⟩ := hq2
  obtain ⟨v2, ev2⟩ : ∃ v : Int, v = (xs (i + 2).toNat).toInt := ⟨_, rfl⟩
  rw [← ev2] at hq2a hq2b ⊢
  refine h_callV (As := [.int (hpI v1), .int (hpI v2)]) (rest := []) C Z yyX8_leaves wd_1033 (tgX8_leaves l D cy s.heap.size _ v1 ⟨by omega, by omega⟩ v2 ⟨by omega, by omega⟩ hI) kd_0 rfl rfl ⟨rfl, rfl, Nat.le_of_ble_eq_true rfl, Nat.le_of_ble_eq_true rfl⟩ ⟨Nat.le_of_ble_eq_true rfl, Nat.le_of_ble_eq_true rfl⟩ (Nat.le_of_ble_eq_true rfl) dL_1505 (fun r3 τ3 hp3 => ?_)
  obtain ⟨⟨x3, rfl, ⟨hx3a, hx3b⟩⟩, hI3, hG3⟩ := hp3
  show hpV _ _ _ _ _ _ _ _ _ _ _ _ _ _ _ _ _ _ _ _ _ (_ :: _)
  refine h_pop C rfl dL_1508 ?_
  refine h_aload_n C dL_1509 1 rfl rfl ?_
  refine h_aload_n C dL_1510 3 rfl rfl ?_
  refine h_iload_n C dL_1511 0 rfl rfl ?_
  refine h_iconst C dL_1512 ?_
  refine h_iadd C dL_1513 rfl ?_
  refine h_sldL C hX hbl (i + 1).toNat (Int.toNat_of_nonneg (by omega)) (by omega) (by omega) dL_1514 ?_
  have hq4 := hpR_of (xs (i + 1).toNat)
  obtain ⟨hq4a, hq4b⟩ := hq4
  obtain ⟨v4, ev4⟩ : ∃ v : Int, v = (xs (i + 1).toNat).toInt := ⟨_, rfl⟩
  rw [← ev4] at hq4a hq4b ⊢
  have ez4 : v1 = v4 := ev1.trans ev4.symm
  subst ez4
  refine h_aload_n C dL_1515 3 rfl rfl ?_
  refine h_iload_n C dL_1516 0 rfl rfl ?_
  refine h_iconst C dL_1517 ?_
  refine h_iadd C dL_1518 rfl ?_
  refine h_sldL C hX hbl (i + 2).toNat (Int.toNat_of_nonneg (by omega)) (by omega) (by omega) dL_1519 ?_
  have hq5 := hpR_of (xs (i + 2).toNat)
  obtain ⟨hq5a, hq5b⟩ := hq5
  obtain ⟨v5, ev5⟩ : ∃ v : Int, v = (xs (i + 2).toNat).toInt := ⟨_, rfl⟩
  rw [← ev5] at hq5a hq5b ⊢
  have ez5 : v2 = v5 := ev2.trans ev5.symm
  subst ez5
  refine h_callV (As := [.int (hpI v1), .int (hpI v2)]) (rest := []) C Z yyX9_leaves wd_1852 (tgX9_leaves l D cy s.heap.size _ v1 ⟨by omega, by omega⟩ v2 ⟨by omega, by omega⟩ hI3) kd_195 rfl rfl ⟨rfl, rfl, Nat.le_of_ble_eq_true rfl, Nat.le_of_ble_eq_true rfl⟩ ⟨Nat.le_of_ble_eq_true rfl, Nat.le_of_ble_eq_true rfl⟩ (Nat.le_of_ble_eq_true rfl) dL_1520 (fun r6 τ6 hp6 => ?_)
  obtain ⟨⟨x6, rfl, ⟨hx6a, hx6b⟩⟩, hI6, hG6⟩ := hp6
  show hpV _ _ _ _ _ _ _ _ _ _ _ _ _ _ _ _ _ _ _ _ _ (_ :: _)
  refine h_pop C rfl dL_1523 ?_
  refine h_goto (tgt := 2352) C dL_1524 (by decide) ?_
  exact K τ6 hI6 (hR.fr (fun j i h => (hG6 j i (by omega)).trans (hG3 j i (by omega))))
set_option maxHeartbeats 4000000 in
set_option maxRecDepth 20000 in
theorem law_47 {p : Program} {e : Env} {s : State} {m : MethodId} {below : List Frame} {meth : Method} {c : Code} (l : Launch) {b L : Nat} {xs : Nat → Int32} {D : va_G} {cy : Nat → ClassId} (C : hpC p s m #[.ref b] c code 4 RL D cy) (Z : hpStr s.heap.size cy s s.heap) (hr : meth.sig.returnType = ret) (hk : meth.locks = false) (hX : va_X b L xs s s.heap) (hbl : b < s.heap.size) (hL : L ≤ 3072) (σ : hpMem) (hI : hpInv σ) (hR : hpR72 σ) (i : Int) (hi0 : 0 ≤ i) (hi : i + 6 ≤ (L : Int)) (K : ∀ τ : hpMem, hpInv τ → hpR72 τ → hpV p l e room_1 s m #[.ref b] below meth c 217 24316 4 D cy s.heap.size s.heap (lw_Z below #[Value.ref b] s) τ 2352 [(3, .int (hpI i)), (2, .ref (s.heap.size + 195)), (1, .ref (s.heap.size + 0)), (0, .ref b)] []) : hpV p l e room_1 s m #[.ref b] below meth c 217 24316 4 D cy s.heap.size s.heap (lw_Z below #[Value.ref b] s) σ 1527 [(3, .int (hpI i)), (2, .ref (s.heap.size + 195)), (1, .ref (s.heap.size + 0)), (0, .ref b)] [] := by
  refine h_aload_n C dL_1527 2 rfl rfl ?_
  refine h_aload_n C dL_1528 3 rfl rfl ?_
  refine h_iload_n C dL_1529 0 rfl rfl ?_
  refine h_iconst C dL_1530 ?_
  refine h_iadd C dL_1531 rfl ?_
  refine h_sldL C hX hbl (i + 1).toNat (Int.toNat_of_nonneg (by omega)) (by omega) (by omega) dL_1532 ?_
  have hq1 := hpR_of (xs (i + 1).toNat)
  obtain ⟨hq1a, hq1b⟩ := hq1
  obtain ⟨v1, ev1⟩ : ∃ v : Int, v = (xs (i + 1).toNat).toInt := ⟨_, rfl⟩
  rw [← ev1] at hq1a hq1b ⊢
  refine h_callV (As := [.int (hpI v1)]) (rest := []) C Z yyX8_laws wd_1042 (tgX8_laws l D cy s.heap.size _ v1 ⟨by omega, by omega⟩ hI) kd_0 rfl rfl ⟨rfl, rfl, Nat.le_of_ble_eq_true rfl, Nat.le_of_ble_eq_true rfl⟩ ⟨Nat.le_of_ble_eq_true rfl, Nat.le_of_ble_eq_true rfl⟩ (Nat.le_of_ble_eq_true rfl) dL_1533 (fun r2 τ2 hp2 => ?_)
  obtain ⟨⟨x2, rfl, ⟨hx2a, hx2b⟩⟩, hI2, hG2⟩ := hp2
  show hpV _ _ _ _ _ _ _ _ _ _ _ _ _ _ _ _ _ _ _ _ _ (_ :: _)
  refine h_pop C rfl dL_1536 ?_
  refine h_aload_n C dL_1537 1 rfl rfl ?_
  refine h_aload_n C dL_1538 3 rfl rfl ?_
  refine h_iload_n C dL_1539 0 rfl rfl ?_
  refine h_iconst C dL_1540 ?_
  refine h_iadd C dL_1541 rfl ?_
  refine h_sldL C hX hbl (i + 1).toNat (Int.toNat_of_nonneg (by omega)) (by omega) (by omega) dL_1542 ?_
  have hq3 := hpR_of (xs (i + 1).toNat)
  obtain ⟨hq3a, hq3b⟩ := hq3
  obtain ⟨v3, ev3⟩ : ∃ v : Int, v = (xs (i + 1).toNat).toInt := ⟨_, rfl⟩
  rw [← ev3] at hq3a hq3b ⊢
  have ez3 : v1 = v3 := ev1.trans ev3.symm
  subst ez3
  refine h_callV (As := [.int (hpI v1)]) (rest := []) C Z yyX9_laws wd_1856 (tgX9_laws l D cy s.heap.size _ v1 ⟨by omega, by omega⟩ hI2) kd_195 rfl rfl ⟨rfl, rfl, Nat.le_of_ble_eq_true rfl, Nat.le_of_ble_eq_true rfl⟩ ⟨Nat.le_of_ble_eq_true rfl, Nat.le_of_ble_eq_true rfl⟩ (Nat.le_of_ble_eq_true rfl) dL_1543 (fun r4 τ4 hp4 => ?_)
  obtain ⟨⟨x4, rfl, ⟨hx4a, hx4b⟩⟩, hI4, hG4⟩ := hp4
  show hpV _ _ _ _ _ _ _ _ _ _ _ _ _ _ _ _ _ _ _ _ _ (_ :: _)
  refine h_pop C rfl dL_1546 ?_
  refine h_goto (tgt := 2352) C dL_1547 (by decide) ?_
  exact K τ4 hI4 (hR.fr (fun j i h => (hG4 j i (by omega)).trans (hG2 j i (by omega))))
set_option maxHeartbeats 4000000 in
set_option maxRecDepth 20000 in
theorem law_48 {p : Program} {e : Env} {s : State} {m : MethodId} {below : List Frame} {meth : Method} {c : Code} (l : Launch) {b L : Nat} {xs : Nat → Int32} {D : va_G} {cy : Nat → ClassId} (C : hpC p s m #[.ref b] c code 4 RL D cy) (Z : hpStr s.heap.size cy s s.heap) (hr : meth.sig.returnType = ret) (hk : meth.locks = false) (hX : va_X b L xs s s.heap) (hbl : b < s.heap.size) (hL : L ≤ 3072) (σ : hpMem) (hI : hpInv σ) (hR : hpR72 σ) (i : Int) (hi0 : 0 ≤ i) (hi : i + 6 ≤ (L : Int)) (K : ∀ τ : hpMem, hpInv τ → hpR72 τ → hpV p l e room_1 s m #[.ref b] below meth c 217 24316 4 D cy s.heap.size s.heap (lw_Z below #[Value.ref b] s) τ 2352 [(3, .int (hpI i)), (2, .ref (s.heap.size + 195)), (1, .ref (s.heap.size + 0)), (0, .ref b)] []) : hpV p l e room_1 s m #[.ref b] below meth c 217 24316 4 D cy s.heap.size s.heap (lw_Z below #[Value.ref b] s) σ 1550 [(3, .int (hpI i)), (2, .ref (s.heap.size + 195)), (1, .ref (s.heap.size + 0)), (0, .ref b)] [] := by
  refine h_aload_n C dL_1550 2 rfl rfl ?_
  refine h_aload_n C dL_1551 3 rfl rfl ?_
  refine h_iload_n C dL_1552 0 rfl rfl ?_
  refine h_iconst C dL_1553 ?_
  refine h_iadd C dL_1554 rfl ?_
  refine h_sldL C hX hbl (i + 1).toNat (Int.toNat_of_nonneg (by omega)) (by omega) (by omega) dL_1555 ?_
  have hq1 := hpR_of (xs (i + 1).toNat)
  obtain ⟨hq1a, hq1b⟩ := hq1
  obtain ⟨v1, ev1⟩ : ∃ v : Int, v = (xs (i + 1).toNat).toInt := ⟨_, rfl⟩
  rw [← ev1] at hq1a hq1b ⊢
  refine h_callV (As := [.int (hpI v1)]) (rest := []) C Z yyX8_by wd_1050 (tgX8_by l D cy s.heap.size _ v1 ⟨by omega, by omega⟩ hI) kd_0 rfl rfl ⟨rfl, rfl, Nat.le_of_ble_eq_true rfl, Nat.le_of_ble_eq_true rfl⟩ ⟨Nat.le_of_ble_eq_true rfl, Nat.le_of_ble_eq_true rfl⟩ (Nat.le_of_ble_eq_true rfl) dL_1556 (fun r2 τ2 hp2 => ?_)
  obtain ⟨⟨x2, rfl, ⟨hx2a, hx2b⟩⟩, hI2, hG2⟩ := hp2
  show hpV _ _ _ _ _ _ _ _ _ _ _ _ _ _ _ _ _ _ _ _ _ (_ :: _)
  refine h_pop C rfl dL_1559 ?_
  refine h_aload_n C dL_1560 1 rfl rfl ?_
  refine h_aload_n C dL_1561 3 rfl rfl ?_
  refine h_iload_n C dL_1562 0 rfl rfl ?_
  refine h_iconst C dL_1563 ?_
  refine h_iadd C dL_1564 rfl ?_
  refine h_sldL C hX hbl (i + 1).toNat (Int.toNat_of_nonneg (by omega)) (by omega) (by omega) dL_1565 ?_
  have hq3 := hpR_of (xs (i + 1).toNat)
  obtain ⟨hq3a, hq3b⟩ := hq3
  obtain ⟨v3, ev3⟩ : ∃ v : Int, v = (xs (i + 1).toNat).toInt := ⟨_, rfl⟩
  rw [← ev3] at hq3a hq3b ⊢
  have ez3 : v1 = v3 := ev1.trans ev3.symm
  subst ez3
  refine h_callV (As := [.int (hpI v1)]) (rest := []) C Z yyX9_by wd_1860 (tgX9_by l D cy s.heap.size _ v1 ⟨by omega, by omega⟩ hI2) kd_195 rfl rfl ⟨rfl, rfl, Nat.le_of_ble_eq_true rfl, Nat.le_of_ble_eq_true rfl⟩ ⟨Nat.le_of_ble_eq_true rfl, Nat.le_of_ble_eq_true rfl⟩ (Nat.le_of_ble_eq_true rfl) dL_1566 (fun r4 τ4 hp4 => ?_)
  obtain ⟨⟨x4, rfl, ⟨hx4a, hx4b⟩⟩, hI4, hG4⟩ := hp4
  show hpV _ _ _ _ _ _ _ _ _ _ _ _ _ _ _ _ _ _ _ _ _ (_ :: _)
  refine h_pop C rfl dL_1569 ?_
  refine h_goto (tgt := 2352) C dL_1570 (by decide) ?_
  exact K τ4 hI4 (hR.fr (fun j i h => (hG4 j i (by omega)).trans (hG2 j i (by omega))))
set_option maxHeartbeats 4000000 in
set_option maxRecDepth 20000 in
theorem law_49 {p : Program} {e : Env} {s : State} {m : MethodId} {below : List Frame} {meth : Method} {c : Code} (l : Launch) {b L : Nat} {xs : Nat → Int32} {D : va_G} {cy : Nat → ClassId} (C : hpC p s m #[.ref b] c code 4 RL D cy) (Z : hpStr s.heap.size cy s s.heap) (hr : meth.sig.returnType = ret) (hk : meth.locks = false) (hX : va_X b L xs s s.heap) (hbl : b < s.heap.size) (hL : L ≤ 3072) (σ : hpMem) (hI : hpInv σ) (hR : hpR72 σ) (i : Int) (hi0 : 0 ≤ i) (hi : i + 6 ≤ (L : Int)) (K : ∀ τ : hpMem, hpInv τ → hpR72 τ → hpV p l e room_1 s m #[.ref b] below meth c 217 24316 4 D cy s.heap.size s.heap (lw_Z below #[Value.ref b] s) τ 2352 [(3, .int (hpI i)), (2, .ref (s.heap.size + 195)), (1, .ref (s.heap.size + 0)), (0, .ref b)] []) : hpV p l e room_1 s m #[.ref b] below meth c 217 24316 4 D cy s.heap.size s.heap (lw_Z below #[Value.ref b] s) σ 1573 [(3, .int (hpI i)), (2, .ref (s.heap.size + 195)), (1, .ref (s.heap.size + 0)), (0, .ref b)] [] := by
  refine h_aload_n C dL_1573 2 rfl rfl ?_
  refine h_callV (As := []) (rest := []) C Z yyX8_law wd_1054 (tgX8_law l D cy s.heap.size _ hI) kd_0 rfl rfl ⟨rfl, rfl, Nat.le_of_ble_eq_true rfl, Nat.le_of_ble_eq_true rfl⟩ ⟨Nat.le_of_ble_eq_true rfl, Nat.le_of_ble_eq_true rfl⟩ (Nat.le_of_ble_eq_true rfl) dL_1574 (fun r1 τ1 hp1 => ?_)
  obtain ⟨⟨x1, rfl, ⟨hx1a, hx1b⟩⟩, hI1, hG1⟩ := hp1
  show hpV _ _ _ _ _ _ _ _ _ _ _ _ _ _ _ _ _ _ _ _ _ (_ :: _)
  refine h_pop C rfl dL_1577 ?_
  refine h_aload_n C dL_1578 1 rfl rfl ?_
  refine h_callV (As := []) (rest := []) C Z yyX9_law wd_1868 (tgX9_law l D cy s.heap.size _ hI1) kd_195 rfl rfl ⟨rfl, rfl, Nat.le_of_ble_eq_true rfl, Nat.le_of_ble_eq_true rfl⟩ ⟨Nat.le_of_ble_eq_true rfl, Nat.le_of_ble_eq_true rfl⟩ (Nat.le_of_ble_eq_true rfl) dL_1579 (fun r2 τ2 hp2 => ?_)
  obtain ⟨⟨x2, rfl, ⟨hx2a, hx2b⟩⟩, hI2, hG2⟩ := hp2
  show hpV _ _ _ _ _ _ _ _ _ _ _ _ _ _ _ _ _ _ _ _ _ (_ :: _)
  refine h_pop C rfl dL_1582 ?_
  refine h_goto (tgt := 2352) C dL_1583 (by decide) ?_
  exact K τ2 hI2 (hR.fr (fun j i h => (hG2 j i (by omega)).trans (hG1 j i (by omega))))

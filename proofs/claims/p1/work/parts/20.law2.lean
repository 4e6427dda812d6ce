set_option maxHeartbeats 4000000 in
set_option maxRecDepth 20000 in
theorem law_25 {p : Program} {e : Env} {s : State} {m : MethodId} {below : List Frame} {meth : Method} {c : Code} (l : Launch) {b : Nat} {xs : Nat → Int32} {D : va_G} {cy : Nat → ClassId} (C : hpC p s m #[.ref b] c code 4 RL D cy) (hr : meth.sig.returnType = ret) (hk : meth.locks = false) (hX : va_X b 6 xs s s.heap) (hbl : b < s.heap.size) : hpV p l e room_1 s m #[.ref b] below meth c 217 24316 4 D cy s.heap.size s.heap (lw_Z below #[Value.ref b] s) hp0 931 [(3, .int (hpI 0)), (2, .ref (s.heap.size + 195)), (1, .ref (s.heap.size + 0)), (0, .ref b)] [] := by
  refine h_aload_n C dL_931 2 rfl rfl ?_
  refine h_aload_n C dL_932 3 rfl rfl ?_
  refine h_iload_n C dL_933 0 rfl rfl ?_
  refine h_iconst C dL_934 ?_
  refine h_iadd (r := 1) C dL_935 (by decide) ?_
  refine h_sld C hX hbl 1 rfl (by decide) dL_936 ?_
  obtain ⟨hq1a, hq1b⟩ := hpR_of (xs 1)
  generalize ev1 : (xs 1).toInt = v1 at hq1a hq1b ⊢
  refine h_aload_n C dL_937 3 rfl rfl ?_
  refine h_iload_n C dL_938 0 rfl rfl ?_
  refine h_iconst C dL_939 ?_
  refine h_iadd (r := 2) C dL_940 (by decide) ?_
  refine h_sld C hX hbl 2 rfl (by decide) dL_941 ?_
  obtain ⟨hq2a, hq2b⟩ := hpR_of (xs 2)
  generalize ev2 : (xs 2).toInt = v2 at hq2a hq2b ⊢
  refine h_callV (As := [.int (hpI v1), .int (hpI v2)]) (rest := []) C yyX8_above wd_776 (tX8_above l D cy s.heap.size _ v1 ⟨by omega, by omega⟩ v2 ⟨by omega, by omega⟩ rfl) kd_0 rfl rfl ⟨rfl, rfl, Nat.le_of_ble_eq_true rfl, Nat.le_of_ble_eq_true rfl⟩ ⟨Nat.le_of_ble_eq_true rfl, Nat.le_of_ble_eq_true rfl⟩ (Nat.le_of_ble_eq_true rfl) dL_942 (fun r3 τ3 hp3 => ?_)
  obtain ⟨rfl, rfl⟩ := hp3
  show hpV _ _ _ _ _ _ _ _ _ _ _ _ _ _ _ _ _ _ _ _ _ (_ :: _)
  refine h_aload_n C dL_945 1 rfl rfl ?_
  refine h_aload_n C dL_946 3 rfl rfl ?_
  refine h_iload_n C dL_947 0 rfl rfl ?_
  refine h_iconst C dL_948 ?_
  refine h_iadd (r := 1) C dL_949 (by decide) ?_
  refine h_sld C hX hbl 1 rfl (by decide) dL_950 ?_
  rw [ev1]
  refine h_aload_n C dL_951 3 rfl rfl ?_
  refine h_iload_n C dL_952 0 rfl rfl ?_
  refine h_iconst C dL_953 ?_
  refine h_iadd (r := 2) C dL_954 (by decide) ?_
  refine h_sld C hX hbl 2 rfl (by decide) dL_955 ?_
  rw [ev2]
  refine h_callV (As := [.int (hpI v1), .int (hpI v2)]) (rest := [.int (hpI (-2))]) C yyX9_above wd_1681 (tX9_above l D cy s.heap.size _ v1 ⟨by omega, by omega⟩ v2 ⟨by omega, by omega⟩ (fun i => ((fun i => hp0_z (by decide) (by decide) (by decide) (by decide) (by decide)) i))) kd_195 rfl rfl ⟨rfl, rfl, Nat.le_of_ble_eq_true rfl, Nat.le_of_ble_eq_true rfl⟩ ⟨Nat.le_of_ble_eq_true rfl, Nat.le_of_ble_eq_true rfl⟩ (Nat.le_of_ble_eq_true rfl) dL_956 (fun r6 τ6 hp6 => ?_)
  obtain ⟨rfl, hF6⟩ := hp6
  show hpV _ _ _ _ _ _ _ _ _ _ _ _ _ _ _ _ _ _ _ _ _ (_ :: _)
  refine h_icmp_eq (tgt := 2354) C dL_959 (by decide) ⟨by decide, by decide⟩ ⟨by decide, by decide⟩ (fun h7 => ?_) (fun h7 => ?_)
  · refine h_iinc (lv' := [(3, .int (hpI 6)), (2, .ref (s.heap.size + 195)), (1, .ref (s.heap.size + 0)), (0, .ref b)]) C dL_2354 0 rfl rfl (by decide) rfl ?_
    refine h_goto (tgt := 18) C dL_2357 (by decide) ?_
    refine h_iload_n C dL_18 0 rfl rfl ?_
    refine h_aload_n C dL_19 3 rfl rfl ?_
    refine h_slen C hX hbl dL_20 ?_
    refine h_bipush C dL_21 (by decide) ?_
    refine h_isub (r := 0) C dL_23 (by decide) ?_
    refine h_icmp_gt (tgt := 2360) C dL_24 (by decide) ⟨by decide, by decide⟩ ⟨by decide, by decide⟩ (fun h9 => ?_) (fun h9 => ?_)
    · refine h_iconst C dL_2360 ?_
      exact h_lawret C hr hk dL_2361
    · exfalso; omega
  · exfalso; omega
set_option maxHeartbeats 4000000 in
set_option maxRecDepth 20000 in
theorem law_26 {p : Program} {e : Env} {s : State} {m : MethodId} {below : List Frame} {meth : Method} {c : Code} (l : Launch) {b : Nat} {xs : Nat → Int32} {D : va_G} {cy : Nat → ClassId} (C : hpC p s m #[.ref b] c code 4 RL D cy) (hr : meth.sig.returnType = ret) (hk : meth.locks = false) (hX : va_X b 6 xs s s.heap) (hbl : b < s.heap.size) : hpV p l e room_1 s m #[.ref b] below meth c 217 24316 4 D cy s.heap.size s.heap (lw_Z below #[Value.ref b] s) hp0 964 [(3, .int (hpI 0)), (2, .ref (s.heap.size + 195)), (1, .ref (s.heap.size + 0)), (0, .ref b)] [] := by
  refine h_aload_n C dL_964 2 rfl rfl ?_
  refine h_aload_n C dL_965 3 rfl rfl ?_
  refine h_iload_n C dL_966 0 rfl rfl ?_
  refine h_iconst C dL_967 ?_
  refine h_iadd (r := 1) C dL_968 (by decide) ?_
  refine h_sld C hX hbl 1 rfl (by decide) dL_969 ?_
  obtain ⟨hq1a, hq1b⟩ := hpR_of (xs 1)
  generalize ev1 : (xs 1).toInt = v1 at hq1a hq1b ⊢
  refine h_callV (As := [.int (hpI v1)]) (rest := []) C yyX8_tail wd_785 (tX8_tail l D cy s.heap.size _ v1 ⟨by omega, by omega⟩ rfl) kd_0 rfl rfl ⟨rfl, rfl, Nat.le_of_ble_eq_true rfl, Nat.le_of_ble_eq_true rfl⟩ ⟨Nat.le_of_ble_eq_true rfl, Nat.le_of_ble_eq_true rfl⟩ (Nat.le_of_ble_eq_true rfl) dL_970 (fun r2 τ2 hp2 => ?_)
  obtain ⟨rfl, rfl⟩ := hp2
  show hpV _ _ _ _ _ _ _ _ _ _ _ _ _ _ _ _ _ _ _ _ _ (_ :: _)
  refine h_aload_n C dL_973 1 rfl rfl ?_
  refine h_aload_n C dL_974 3 rfl rfl ?_
  refine h_iload_n C dL_975 0 rfl rfl ?_
  refine h_iconst C dL_976 ?_
  refine h_iadd (r := 1) C dL_977 (by decide) ?_
  refine h_sld C hX hbl 1 rfl (by decide) dL_978 ?_
  rw [ev1]
  refine h_callV (As := [.int (hpI v1)]) (rest := [.int (hpI (-2))]) C yyX9_tail wd_1689 (tX9_tail l D cy s.heap.size _ v1 ⟨by omega, by omega⟩ (fun i => ((fun i => hp0_z (by decide) (by decide) (by decide) (by decide) (by decide)) i))) kd_195 rfl rfl ⟨rfl, rfl, Nat.le_of_ble_eq_true rfl, Nat.le_of_ble_eq_true rfl⟩ ⟨Nat.le_of_ble_eq_true rfl, Nat.le_of_ble_eq_true rfl⟩ (Nat.le_of_ble_eq_true rfl) dL_979 (fun r4 τ4 hp4 => ?_)
  obtain ⟨rfl, hF4⟩ := hp4
  show hpV _ _ _ _ _ _ _ _ _ _ _ _ _ _ _ _ _ _ _ _ _ (_ :: _)
  refine h_icmp_eq (tgt := 2354) C dL_982 (by decide) ⟨by decide, by decide⟩ ⟨by decide, by decide⟩ (fun h5 => ?_) (fun h5 => ?_)
  · refine h_iinc (lv' := [(3, .int (hpI 6)), (2, .ref (s.heap.size + 195)), (1, .ref (s.heap.size + 0)), (0, .ref b)]) C dL_2354 0 rfl rfl (by decide) rfl ?_
    refine h_goto (tgt := 18) C dL_2357 (by decide) ?_
    refine h_iload_n C dL_18 0 rfl rfl ?_
    refine h_aload_n C dL_19 3 rfl rfl ?_
    refine h_slen C hX hbl dL_20 ?_
    refine h_bipush C dL_21 (by decide) ?_
    refine h_isub (r := 0) C dL_23 (by decide) ?_
    refine h_icmp_gt (tgt := 2360) C dL_24 (by decide) ⟨by decide, by decide⟩ ⟨by decide, by decide⟩ (fun h7 => ?_) (fun h7 => ?_)
    · refine h_iconst C dL_2360 ?_
      exact h_lawret C hr hk dL_2361
    · exfalso; omega
  · exfalso; omega
set_option maxHeartbeats 4000000 in
set_option maxRecDepth 20000 in
theorem law_27 {p : Program} {e : Env} {s : State} {m : MethodId} {below : List Frame} {meth : Method} {c : Code} (l : Launch) {b : Nat} {xs : Nat → Int32} {D : va_G} {cy : Nat → ClassId} (C : hpC p s m #[.ref b] c code 4 RL D cy) (hr : meth.sig.returnType = ret) (hk : meth.locks = false) (hX : va_X b 6 xs s s.heap) (hbl : b < s.heap.size) : hpV p l e room_1 s m #[.ref b] below meth c 217 24316 4 D cy s.heap.size s.heap (lw_Z below #[Value.ref b] s) hp0 987 [(3, .int (hpI 0)), (2, .ref (s.heap.size + 195)), (1, .ref (s.heap.size + 0)), (0, .ref b)] [] := by
  refine h_aload_n C dL_987 2 rfl rfl ?_
  refine h_aload_n C dL_988 3 rfl rfl ?_
  refine h_iload_n C dL_989 0 rfl rfl ?_
  refine h_iconst C dL_990 ?_
  refine h_iadd (r := 1) C dL_991 (by decide) ?_
  refine h_sld C hX hbl 1 rfl (by decide) dL_992 ?_
  obtain ⟨hq1a, hq1b⟩ := hpR_of (xs 1)
  generalize ev1 : (xs 1).toInt = v1 at hq1a hq1b ⊢
  refine h_callV (As := [.int (hpI v1)]) (rest := []) C yyX8_length wd_814 (tX8_length l D cy s.heap.size _ v1 ⟨by omega, by omega⟩ rfl) kd_0 rfl rfl ⟨rfl, rfl, Nat.le_of_ble_eq_true rfl, Nat.le_of_ble_eq_true rfl⟩ ⟨Nat.le_of_ble_eq_true rfl, Nat.le_of_ble_eq_true rfl⟩ (Nat.le_of_ble_eq_true rfl) dL_993 (fun r2 τ2 hp2 => ?_)
  obtain ⟨rfl, rfl⟩ := hp2
  show hpV _ _ _ _ _ _ _ _ _ _ _ _ _ _ _ _ _ _ _ _ _ (_ :: _)
  refine h_aload_n C dL_996 1 rfl rfl ?_
  refine h_aload_n C dL_997 3 rfl rfl ?_
  refine h_iload_n C dL_998 0 rfl rfl ?_
  refine h_iconst C dL_999 ?_
  refine h_iadd (r := 1) C dL_1000 (by decide) ?_
  refine h_sld C hX hbl 1 rfl (by decide) dL_1001 ?_
  rw [ev1]
  refine h_callV (As := [.int (hpI v1)]) (rest := [.int (hpI (-2))]) C yyX9_length wd_1697 (tX9_length l D cy s.heap.size _ v1 ⟨by omega, by omega⟩ (fun i => ((fun i => hp0_z (by decide) (by decide) (by decide) (by decide) (by decide)) i))) kd_195 rfl rfl ⟨rfl, rfl, Nat.le_of_ble_eq_true rfl, Nat.le_of_ble_eq_true rfl⟩ ⟨Nat.le_of_ble_eq_true rfl, Nat.le_of_ble_eq_true rfl⟩ (Nat.le_of_ble_eq_true rfl) dL_1002 (fun r4 τ4 hp4 => ?_)
  obtain ⟨rfl, hF4⟩ := hp4
  show hpV _ _ _ _ _ _ _ _ _ _ _ _ _ _ _ _ _ _ _ _ _ (_ :: _)
  refine h_icmp_eq (tgt := 2354) C dL_1005 (by decide) ⟨by decide, by decide⟩ ⟨by decide, by decide⟩ (fun h5 => ?_) (fun h5 => ?_)
  · refine h_iinc (lv' := [(3, .int (hpI 6)), (2, .ref (s.heap.size + 195)), (1, .ref (s.heap.size + 0)), (0, .ref b)]) C dL_2354 0 rfl rfl (by decide) rfl ?_
    refine h_goto (tgt := 18) C dL_2357 (by decide) ?_
    refine h_iload_n C dL_18 0 rfl rfl ?_
    refine h_aload_n C dL_19 3 rfl rfl ?_
    refine h_slen C hX hbl dL_20 ?_
    refine h_bipush C dL_21 (by decide) ?_
    refine h_isub (r := 0) C dL_23 (by decide) ?_
    refine h_icmp_gt (tgt := 2360) C dL_24 (by decide) ⟨by decide, by decide⟩ ⟨by decide, by decide⟩ (fun h7 => ?_) (fun h7 => ?_)
    · refine h_iconst C dL_2360 ?_
      exact h_lawret C hr hk dL_2361
    · exfalso; omega
  · exfalso; omega
set_option maxHeartbeats 4000000 in
set_option maxRecDepth 20000 in
theorem law_28 {p : Program} {e : Env} {s : State} {m : MethodId} {below : List Frame} {meth : Method} {c : Code} (l : Launch) {b : Nat} {xs : Nat → Int32} {D : va_G} {cy : Nat → ClassId} (C : hpC p s m #[.ref b] c code 4 RL D cy) (hr : meth.sig.returnType = ret) (hk : meth.locks = false) (hX : va_X b 6 xs s s.heap) (hbl : b < s.heap.size) : hpV p l e room_1 s m #[.ref b] below meth c 217 24316 4 D cy s.heap.size s.heap (lw_Z below #[Value.ref b] s) hp0 1010 [(3, .int (hpI 0)), (2, .ref (s.heap.size + 195)), (1, .ref (s.heap.size + 0)), (0, .ref b)] [] := by
  refine h_aload_n C dL_1010 2 rfl rfl ?_
  refine h_aload_n C dL_1011 3 rfl rfl ?_
  refine h_iload_n C dL_1012 0 rfl rfl ?_
  refine h_iconst C dL_1013 ?_
  refine h_iadd (r := 1) C dL_1014 (by decide) ?_
  refine h_sld C hX hbl 1 rfl (by decide) dL_1015 ?_
  obtain ⟨hq1a, hq1b⟩ := hpR_of (xs 1)
  generalize ev1 : (xs 1).toInt = v1 at hq1a hq1b ⊢
  refine h_callV (As := [.int (hpI v1)]) (rest := []) C yyX8_ring wd_818 (tX8_ring l D cy s.heap.size _ v1 ⟨by omega, by omega⟩ rfl) kd_0 rfl rfl ⟨rfl, rfl, Nat.le_of_ble_eq_true rfl, Nat.le_of_ble_eq_true rfl⟩ ⟨Nat.le_of_ble_eq_true rfl, Nat.le_of_ble_eq_true rfl⟩ (Nat.le_of_ble_eq_true rfl) dL_1016 (fun r2 τ2 hp2 => ?_)
  obtain ⟨rfl, rfl⟩ := hp2
  show hpV _ _ _ _ _ _ _ _ _ _ _ _ _ _ _ _ _ _ _ _ _ (_ :: _)
  refine h_aload_n C dL_1019 1 rfl rfl ?_
  refine h_aload_n C dL_1020 3 rfl rfl ?_
  refine h_iload_n C dL_1021 0 rfl rfl ?_
  refine h_iconst C dL_1022 ?_
  refine h_iadd (r := 1) C dL_1023 (by decide) ?_
  refine h_sld C hX hbl 1 rfl (by decide) dL_1024 ?_
  rw [ev1]
  refine h_callV (As := [.int (hpI v1)]) (rest := [.int (hpI (-2))]) C yyX9_ring wd_1701 (tX9_ring l D cy s.heap.size _ v1 ⟨by omega, by omega⟩ (fun i => ((fun i => hp0_z (by decide) (by decide) (by decide) (by decide) (by decide)) i))) kd_195 rfl rfl ⟨rfl, rfl, Nat.le_of_ble_eq_true rfl, Nat.le_of_ble_eq_true rfl⟩ ⟨Nat.le_of_ble_eq_true rfl, Nat.le_of_ble_eq_true rfl⟩ (Nat.le_of_ble_eq_true rfl) dL_1025 (fun r4 τ4 hp4 => ?_)
  obtain ⟨rfl, hF4⟩ := hp4
  show hpV _ _ _ _ _ _ _ _ _ _ _ _ _ _ _ _ _ _ _ _ _ (_ :: _)
  refine h_icmp_eq (tgt := 2354) C dL_1028 (by decide) ⟨by decide, by decide⟩ ⟨by decide, by decide⟩ (fun h5 => ?_) (fun h5 => ?_)
  · refine h_iinc (lv' := [(3, .int (hpI 6)), (2, .ref (s.heap.size + 195)), (1, .ref (s.heap.size + 0)), (0, .ref b)]) C dL_2354 0 rfl rfl (by decide) rfl ?_
    refine h_goto (tgt := 18) C dL_2357 (by decide) ?_
    refine h_iload_n C dL_18 0 rfl rfl ?_
    refine h_aload_n C dL_19 3 rfl rfl ?_
    refine h_slen C hX hbl dL_20 ?_
    refine h_bipush C dL_21 (by decide) ?_
    refine h_isub (r := 0) C dL_23 (by decide) ?_
    refine h_icmp_gt (tgt := 2360) C dL_24 (by decide) ⟨by decide, by decide⟩ ⟨by decide, by decide⟩ (fun h7 => ?_) (fun h7 => ?_)
    · refine h_iconst C dL_2360 ?_
      exact h_lawret C hr hk dL_2361
    · exfalso; omega
  · exfalso; omega
set_option maxHeartbeats 4000000 in
set_option maxRecDepth 20000 in
theorem law_29 {p : Program} {e : Env} {s : State} {m : MethodId} {below : List Frame} {meth : Method} {c : Code} (l : Launch) {b : Nat} {xs : Nat → Int32} {D : va_G} {cy : Nat → ClassId} (C : hpC p s m #[.ref b] c code 4 RL D cy) (hr : meth.sig.returnType = ret) (hk : meth.locks = false) (hX : va_X b 6 xs s s.heap) (hbl : b < s.heap.size) : hpV p l e room_1 s m #[.ref b] below meth c 217 24316 4 D cy s.heap.size s.heap (lw_Z below #[Value.ref b] s) hp0 1033 [(3, .int (hpI 0)), (2, .ref (s.heap.size + 195)), (1, .ref (s.heap.size + 0)), (0, .ref b)] [] := by
  refine h_aload_n C dL_1033 2 rfl rfl ?_
  refine h_aload_n C dL_1034 3 rfl rfl ?_
  refine h_iload_n C dL_1035 0 rfl rfl ?_
  refine h_iconst C dL_1036 ?_
  refine h_iadd (r := 1) C dL_1037 (by decide) ?_
  refine h_sld C hX hbl 1 rfl (by decide) dL_1038 ?_
  obtain ⟨hq1a, hq1b⟩ := hpR_of (xs 1)
  generalize ev1 : (xs 1).toInt = v1 at hq1a hq1b ⊢
  refine h_aload_n C dL_1039 3 rfl rfl ?_
  refine h_iload_n C dL_1040 0 rfl rfl ?_
  refine h_iconst C dL_1041 ?_
  refine h_iadd (r := 2) C dL_1042 (by decide) ?_
  refine h_sld C hX hbl 2 rfl (by decide) dL_1043 ?_
  obtain ⟨hq2a, hq2b⟩ := hpR_of (xs 2)
  generalize ev2 : (xs 2).toInt = v2 at hq2a hq2b ⊢
  refine h_aload_n C dL_1044 3 rfl rfl ?_
  refine h_iload_n C dL_1045 0 rfl rfl ?_
  refine h_iconst C dL_1046 ?_
  refine h_iadd (r := 3) C dL_1047 (by decide) ?_
  refine h_sld C hX hbl 3 rfl (by decide) dL_1048 ?_
  obtain ⟨hq3a, hq3b⟩ := hpR_of (xs 3)
  generalize ev3 : (xs 3).toInt = v3 at hq3a hq3b ⊢
  refine h_callV (As := [.int (hpI v1), .int (hpI v2), .int (hpI v3)]) (rest := []) C yyX8_later wd_822 (tX8_later l D cy s.heap.size _ v1 ⟨by omega, by omega⟩ v2 ⟨by omega, by omega⟩ v3 ⟨by omega, by omega⟩ rfl) kd_0 rfl rfl ⟨rfl, rfl, Nat.le_of_ble_eq_true rfl, Nat.le_of_ble_eq_true rfl⟩ ⟨Nat.le_of_ble_eq_true rfl, Nat.le_of_ble_eq_true rfl⟩ (Nat.le_of_ble_eq_true rfl) dL_1049 (fun r4 τ4 hp4 => ?_)
  obtain ⟨rfl, rfl⟩ := hp4
  show hpV _ _ _ _ _ _ _ _ _ _ _ _ _ _ _ _ _ _ _ _ _ (_ :: _)
  refine h_aload_n C dL_1052 1 rfl rfl ?_
  refine h_aload_n C dL_1053 3 rfl rfl ?_
  refine h_iload_n C dL_1054 0 rfl rfl ?_
  refine h_iconst C dL_1055 ?_
  refine h_iadd (r := 1) C dL_1056 (by decide) ?_
  refine h_sld C hX hbl 1 rfl (by decide) dL_1057 ?_
  rw [ev1]
  refine h_aload_n C dL_1058 3 rfl rfl ?_
  refine h_iload_n C dL_1059 0 rfl rfl ?_
  refine h_iconst C dL_1060 ?_
  refine h_iadd (r := 2) C dL_1061 (by decide) ?_
  refine h_sld C hX hbl 2 rfl (by decide) dL_1062 ?_
  rw [ev2]
  refine h_aload_n C dL_1063 3 rfl rfl ?_
  refine h_iload_n C dL_1064 0 rfl rfl ?_
  refine h_iconst C dL_1065 ?_
  refine h_iadd (r := 3) C dL_1066 (by decide) ?_
  refine h_sld C hX hbl 3 rfl (by decide) dL_1067 ?_
  rw [ev3]
  refine h_callV (As := [.int (hpI v1), .int (hpI v2), .int (hpI v3)]) (rest := [.int (hpI (-2))]) C yyX9_later wd_1705 (tX9_later l D cy s.heap.size _ v1 ⟨by omega, by omega⟩ v2 ⟨by omega, by omega⟩ v3 ⟨by omega, by omega⟩ (fun i => ((fun i => hp0_z (by decide) (by decide) (by decide) (by decide) (by decide)) i))) kd_195 rfl rfl ⟨rfl, rfl, Nat.le_of_ble_eq_true rfl, Nat.le_of_ble_eq_true rfl⟩ ⟨Nat.le_of_ble_eq_true rfl, Nat.le_of_ble_eq_true rfl⟩ (Nat.le_of_ble_eq_true rfl) dL_1068 (fun r8 τ8 hp8 => ?_)
  obtain ⟨rfl, hF8⟩ := hp8
  show hpV _ _ _ _ _ _ _ _ _ _ _ _ _ _ _ _ _ _ _ _ _ (_ :: _)
  refine h_icmp_eq (tgt := 2354) C dL_1071 (by decide) ⟨by decide, by decide⟩ ⟨by decide, by decide⟩ (fun h9 => ?_) (fun h9 => ?_)
  · refine h_iinc (lv' := [(3, .int (hpI 6)), (2, .ref (s.heap.size + 195)), (1, .ref (s.heap.size + 0)), (0, .ref b)]) C dL_2354 0 rfl rfl (by decide) rfl ?_
    refine h_goto (tgt := 18) C dL_2357 (by decide) ?_
    refine h_iload_n C dL_18 0 rfl rfl ?_
    refine h_aload_n C dL_19 3 rfl rfl ?_
    refine h_slen C hX hbl dL_20 ?_
    refine h_bipush C dL_21 (by decide) ?_
    refine h_isub (r := 0) C dL_23 (by decide) ?_
    refine h_icmp_gt (tgt := 2360) C dL_24 (by decide) ⟨by decide, by decide⟩ ⟨by decide, by decide⟩ (fun h11 => ?_) (fun h11 => ?_)
    · refine h_iconst C dL_2360 ?_
      exact h_lawret C hr hk dL_2361
    · exfalso; omega
  · exfalso; omega
set_option maxHeartbeats 4000000 in
set_option maxRecDepth 20000 in
theorem law_30 {p : Program} {e : Env} {s : State} {m : MethodId} {below : List Frame} {meth : Method} {c : Code} (l : Launch) {b : Nat} {xs : Nat → Int32} {D : va_G} {cy : Nat → ClassId} (C : hpC p s m #[.ref b] c code 4 RL D cy) (hr : meth.sig.returnType = ret) (hk : meth.locks = false) (hX : va_X b 6 xs s s.heap) (hbl : b < s.heap.size) : hpV p l e room_1 s m #[.ref b] below meth c 217 24316 4 D cy s.heap.size s.heap (lw_Z below #[Value.ref b] s) hp0 1076 [(3, .int (hpI 0)), (2, .ref (s.heap.size + 195)), (1, .ref (s.heap.size + 0)), (0, .ref b)] [] := by
  refine h_aload_n C dL_1076 2 rfl rfl ?_
  refine h_aload_n C dL_1077 3 rfl rfl ?_
  refine h_iload_n C dL_1078 0 rfl rfl ?_
  refine h_iconst C dL_1079 ?_
  refine h_iadd (r := 1) C dL_1080 (by decide) ?_
  refine h_sld C hX hbl 1 rfl (by decide) dL_1081 ?_
  obtain ⟨hq1a, hq1b⟩ := hpR_of (xs 1)
  generalize ev1 : (xs 1).toInt = v1 at hq1a hq1b ⊢
  refine h_callV (As := [.int (hpI v1)]) (rest := []) C yyX8_soon wd_828 (tX8_soon l D cy s.heap.size _ v1 ⟨by omega, by omega⟩ rfl) kd_0 rfl rfl ⟨rfl, rfl, Nat.le_of_ble_eq_true rfl, Nat.le_of_ble_eq_true rfl⟩ ⟨Nat.le_of_ble_eq_true rfl, Nat.le_of_ble_eq_true rfl⟩ (Nat.le_of_ble_eq_true rfl) dL_1082 (fun r2 τ2 hp2 => ?_)
  obtain ⟨rfl, rfl⟩ := hp2
  show hpV _ _ _ _ _ _ _ _ _ _ _ _ _ _ _ _ _ _ _ _ _ (_ :: _)
  refine h_aload_n C dL_1085 1 rfl rfl ?_
  refine h_aload_n C dL_1086 3 rfl rfl ?_
  refine h_iload_n C dL_1087 0 rfl rfl ?_
  refine h_iconst C dL_1088 ?_
  refine h_iadd (r := 1) C dL_1089 (by decide) ?_
  refine h_sld C hX hbl 1 rfl (by decide) dL_1090 ?_
  rw [ev1]
  refine h_callV (As := [.int (hpI v1)]) (rest := [.int (hpI (-2))]) C yyX9_soon wd_1710 (tX9_soon l D cy s.heap.size _ v1 ⟨by omega, by omega⟩ (fun i => ((fun i => hp0_z (by decide) (by decide) (by decide) (by decide) (by decide)) i))) kd_195 rfl rfl ⟨rfl, rfl, Nat.le_of_ble_eq_true rfl, Nat.le_of_ble_eq_true rfl⟩ ⟨Nat.le_of_ble_eq_true rfl, Nat.le_of_ble_eq_true rfl⟩ (Nat.le_of_ble_eq_true rfl) dL_1091 (fun r4 τ4 hp4 => ?_)
  obtain ⟨rfl, hF4⟩ := hp4
  show hpV _ _ _ _ _ _ _ _ _ _ _ _ _ _ _ _ _ _ _ _ _ (_ :: _)
  refine h_icmp_eq (tgt := 2354) C dL_1094 (by decide) ⟨by decide, by decide⟩ ⟨by decide, by decide⟩ (fun h5 => ?_) (fun h5 => ?_)
  · refine h_iinc (lv' := [(3, .int (hpI 6)), (2, .ref (s.heap.size + 195)), (1, .ref (s.heap.size + 0)), (0, .ref b)]) C dL_2354 0 rfl rfl (by decide) rfl ?_
    refine h_goto (tgt := 18) C dL_2357 (by decide) ?_
    refine h_iload_n C dL_18 0 rfl rfl ?_
    refine h_aload_n C dL_19 3 rfl rfl ?_
    refine h_slen C hX hbl dL_20 ?_
    refine h_bipush C dL_21 (by decide) ?_
    refine h_isub (r := 0) C dL_23 (by decide) ?_
    refine h_icmp_gt (tgt := 2360) C dL_24 (by decide) ⟨by decide, by decide⟩ ⟨by decide, by decide⟩ (fun h7 => ?_) (fun h7 => ?_)
    · refine h_iconst C dL_2360 ?_
      exact h_lawret C hr hk dL_2361
    · exfalso; omega
  · exfalso; omega
set_option maxHeartbeats 4000000 in
set_option maxRecDepth 20000 in
theorem law_31 {p : Program} {e : Env} {s : State} {m : MethodId} {below : List Frame} {meth : Method} {c : Code} (l : Launch) {b : Nat} {xs : Nat → Int32} {D : va_G} {cy : Nat → ClassId} (C : hpC p s m #[.ref b] c code 4 RL D cy) (hr : meth.sig.returnType = ret) (hk : meth.locks = false) (hX : va_X b 6 xs s s.heap) (hbl : b < s.heap.size) : hpV p l e room_1 s m #[.ref b] below meth c 217 24316 4 D cy s.heap.size s.heap (lw_Z below #[Value.ref b] s) hp0 1099 [(3, .int (hpI 0)), (2, .ref (s.heap.size + 195)), (1, .ref (s.heap.size + 0)), (0, .ref b)] [] := by
  refine h_aload_n C dL_1099 2 rfl rfl ?_
  refine h_aload_n C dL_1100 3 rfl rfl ?_
  refine h_iload_n C dL_1101 0 rfl rfl ?_
  refine h_iconst C dL_1102 ?_
  refine h_iadd (r := 1) C dL_1103 (by decide) ?_
  refine h_sld C hX hbl 1 rfl (by decide) dL_1104 ?_
  obtain ⟨hq1a, hq1b⟩ := hpR_of (xs 1)
  generalize ev1 : (xs 1).toInt = v1 at hq1a hq1b ⊢
  refine h_callV (As := [.int (hpI v1)]) (rest := []) C yyX8_rowsOf wd_832 (tX8_rowsOf l D cy s.heap.size _ v1 ⟨by omega, by omega⟩ rfl) kd_0 rfl rfl ⟨rfl, rfl, Nat.le_of_ble_eq_true rfl, Nat.le_of_ble_eq_true rfl⟩ ⟨Nat.le_of_ble_eq_true rfl, Nat.le_of_ble_eq_true rfl⟩ (Nat.le_of_ble_eq_true rfl) dL_1105 (fun r2 τ2 hp2 => ?_)
  obtain ⟨rfl, rfl⟩ := hp2
  show hpV _ _ _ _ _ _ _ _ _ _ _ _ _ _ _ _ _ _ _ _ _ (_ :: _)
  refine h_aload_n C dL_1108 1 rfl rfl ?_
  refine h_aload_n C dL_1109 3 rfl rfl ?_
  refine h_iload_n C dL_1110 0 rfl rfl ?_
  refine h_iconst C dL_1111 ?_
  refine h_iadd (r := 1) C dL_1112 (by decide) ?_
  refine h_sld C hX hbl 1 rfl (by decide) dL_1113 ?_
  rw [ev1]
  refine h_callV (As := [.int (hpI v1)]) (rest := [.int (hpI (-2))]) C yyX9_rowsOf wd_1714 (tX9_rowsOf l D cy s.heap.size _ v1 ⟨by omega, by omega⟩ (fun i => ((fun i => hp0_z (by decide) (by decide) (by decide) (by decide) (by decide)) i))) kd_195 rfl rfl ⟨rfl, rfl, Nat.le_of_ble_eq_true rfl, Nat.le_of_ble_eq_true rfl⟩ ⟨Nat.le_of_ble_eq_true rfl, Nat.le_of_ble_eq_true rfl⟩ (Nat.le_of_ble_eq_true rfl) dL_1114 (fun r4 τ4 hp4 => ?_)
  obtain ⟨rfl, hF4⟩ := hp4
  show hpV _ _ _ _ _ _ _ _ _ _ _ _ _ _ _ _ _ _ _ _ _ (_ :: _)
  refine h_icmp_eq (tgt := 2354) C dL_1117 (by decide) ⟨by decide, by decide⟩ ⟨by decide, by decide⟩ (fun h5 => ?_) (fun h5 => ?_)
  · refine h_iinc (lv' := [(3, .int (hpI 6)), (2, .ref (s.heap.size + 195)), (1, .ref (s.heap.size + 0)), (0, .ref b)]) C dL_2354 0 rfl rfl (by decide) rfl ?_
    refine h_goto (tgt := 18) C dL_2357 (by decide) ?_
    refine h_iload_n C dL_18 0 rfl rfl ?_
    refine h_aload_n C dL_19 3 rfl rfl ?_
    refine h_slen C hX hbl dL_20 ?_
    refine h_bipush C dL_21 (by decide) ?_
    refine h_isub (r := 0) C dL_23 (by decide) ?_
    refine h_icmp_gt (tgt := 2360) C dL_24 (by decide) ⟨by decide, by decide⟩ ⟨by decide, by decide⟩ (fun h7 => ?_) (fun h7 => ?_)
    · refine h_iconst C dL_2360 ?_
      exact h_lawret C hr hk dL_2361
    · exfalso; omega
  · exfalso; omega
set_option maxHeartbeats 4000000 in
set_option maxRecDepth 20000 in
theorem law_32 {p : Program} {e : Env} {s : State} {m : MethodId} {below : List Frame} {meth : Method} {c : Code} (l : Launch) {b : Nat} {xs : Nat → Int32} {D : va_G} {cy : Nat → ClassId} (C : hpC p s m #[.ref b] c code 4 RL D cy) (hr : meth.sig.returnType = ret) (hk : meth.locks = false) (hX : va_X b 6 xs s s.heap) (hbl : b < s.heap.size) : hpV p l e room_1 s m #[.ref b] below meth c 217 24316 4 D cy s.heap.size s.heap (lw_Z below #[Value.ref b] s) hp0 1122 [(3, .int (hpI 0)), (2, .ref (s.heap.size + 195)), (1, .ref (s.heap.size + 0)), (0, .ref b)] [] := by
  refine h_aload_n C dL_1122 2 rfl rfl ?_
  refine h_aload_n C dL_1123 3 rfl rfl ?_
  refine h_iload_n C dL_1124 0 rfl rfl ?_
  refine h_iconst C dL_1125 ?_
  refine h_iadd (r := 1) C dL_1126 (by decide) ?_
  refine h_sld C hX hbl 1 rfl (by decide) dL_1127 ?_
  obtain ⟨hq1a, hq1b⟩ := hpR_of (xs 1)
  generalize ev1 : (xs 1).toInt = v1 at hq1a hq1b ⊢
  refine h_callV (As := [.int (hpI v1)]) (rest := []) C yyX8_ringed wd_896 (tX8_ringed l D cy s.heap.size _ v1 ⟨by omega, by omega⟩ rfl) kd_0 rfl rfl ⟨rfl, rfl, Nat.le_of_ble_eq_true rfl, Nat.le_of_ble_eq_true rfl⟩ ⟨Nat.le_of_ble_eq_true rfl, Nat.le_of_ble_eq_true rfl⟩ (Nat.le_of_ble_eq_true rfl) dL_1128 (fun r2 τ2 hp2 => ?_)
  obtain ⟨rfl, rfl⟩ := hp2
  show hpV _ _ _ _ _ _ _ _ _ _ _ _ _ _ _ _ _ _ _ _ _ (_ :: _)
  refine h_aload_n C dL_1131 1 rfl rfl ?_
  refine h_aload_n C dL_1132 3 rfl rfl ?_
  refine h_iload_n C dL_1133 0 rfl rfl ?_
  refine h_iconst C dL_1134 ?_
  refine h_iadd (r := 1) C dL_1135 (by decide) ?_
  refine h_sld C hX hbl 1 rfl (by decide) dL_1136 ?_
  rw [ev1]
  refine h_callV (As := [.int (hpI v1)]) (rest := [.int (hpI (-2))]) C yyX9_ringed wd_1751 (tX9_ringed l D cy s.heap.size _ v1 ⟨by omega, by omega⟩ (fun i => ((fun i => hp0_z (by decide) (by decide) (by decide) (by decide) (by decide)) i))) kd_195 rfl rfl ⟨rfl, rfl, Nat.le_of_ble_eq_true rfl, Nat.le_of_ble_eq_true rfl⟩ ⟨Nat.le_of_ble_eq_true rfl, Nat.le_of_ble_eq_true rfl⟩ (Nat.le_of_ble_eq_true rfl) dL_1137 (fun r4 τ4 hp4 => ?_)
  obtain ⟨rfl, hF4⟩ := hp4
  show hpV _ _ _ _ _ _ _ _ _ _ _ _ _ _ _ _ _ _ _ _ _ (_ :: _)
  refine h_icmp_eq (tgt := 2354) C dL_1140 (by decide) ⟨by decide, by decide⟩ ⟨by decide, by decide⟩ (fun h5 => ?_) (fun h5 => ?_)
  · refine h_iinc (lv' := [(3, .int (hpI 6)), (2, .ref (s.heap.size + 195)), (1, .ref (s.heap.size + 0)), (0, .ref b)]) C dL_2354 0 rfl rfl (by decide) rfl ?_
    refine h_goto (tgt := 18) C dL_2357 (by decide) ?_
    refine h_iload_n C dL_18 0 rfl rfl ?_
    refine h_aload_n C dL_19 3 rfl rfl ?_
    refine h_slen C hX hbl dL_20 ?_
    refine h_bipush C dL_21 (by decide) ?_
    refine h_isub (r := 0) C dL_23 (by decide) ?_
    refine h_icmp_gt (tgt := 2360) C dL_24 (by decide) ⟨by decide, by decide⟩ ⟨by decide, by decide⟩ (fun h7 => ?_) (fun h7 => ?_)
    · refine h_iconst C dL_2360 ?_
      exact h_lawret C hr hk dL_2361
    · exfalso; omega
  · exfalso; omega
set_option maxHeartbeats 4000000 in
set_option maxRecDepth 20000 in
theorem law_33 {p : Program} {e : Env} {s : State} {m : MethodId} {below : List Frame} {meth : Method} {c : Code} (l : Launch) {b : Nat} {xs : Nat → Int32} {D : va_G} {cy : Nat → ClassId} (C : hpC p s m #[.ref b] c code 4 RL D cy) (hr : meth.sig.returnType = ret) (hk : meth.locks = false) (hX : va_X b 6 xs s s.heap) (hbl : b < s.heap.size) : hpV p l e room_1 s m #[.ref b] below meth c 217 24316 4 D cy s.heap.size s.heap (lw_Z below #[Value.ref b] s) hp0 1145 [(3, .int (hpI 0)), (2, .ref (s.heap.size + 195)), (1, .ref (s.heap.size + 0)), (0, .ref b)] [] := by
  refine h_aload_n C dL_1145 2 rfl rfl ?_
  refine h_aload_n C dL_1146 3 rfl rfl ?_
  refine h_iload_n C dL_1147 0 rfl rfl ?_
  refine h_iconst C dL_1148 ?_
  refine h_iadd (r := 1) C dL_1149 (by decide) ?_
  refine h_sld C hX hbl 1 rfl (by decide) dL_1150 ?_
  obtain ⟨hq1a, hq1b⟩ := hpR_of (xs 1)
  generalize ev1 : (xs 1).toInt = v1 at hq1a hq1b ⊢
  refine h_callV (As := [.int (hpI v1)]) (rest := []) C yyX8_rings wd_900 (tX8_rings l D cy s.heap.size _ v1 ⟨by omega, by omega⟩ rfl) kd_0 rfl rfl ⟨rfl, rfl, Nat.le_of_ble_eq_true rfl, Nat.le_of_ble_eq_true rfl⟩ ⟨Nat.le_of_ble_eq_true rfl, Nat.le_of_ble_eq_true rfl⟩ (Nat.le_of_ble_eq_true rfl) dL_1151 (fun r2 τ2 hp2 => ?_)
  obtain ⟨rfl, rfl⟩ := hp2
  show hpV _ _ _ _ _ _ _ _ _ _ _ _ _ _ _ _ _ _ _ _ _ (_ :: _)
  refine h_aload_n C dL_1154 1 rfl rfl ?_
  refine h_aload_n C dL_1155 3 rfl rfl ?_
  refine h_iload_n C dL_1156 0 rfl rfl ?_
  refine h_iconst C dL_1157 ?_
  refine h_iadd (r := 1) C dL_1158 (by decide) ?_
  refine h_sld C hX hbl 1 rfl (by decide) dL_1159 ?_
  rw [ev1]
  refine h_callV (As := [.int (hpI v1)]) (rest := [.int (hpI (-2))]) C yyX9_rings wd_1755 (tX9_rings l D cy s.heap.size _ v1 ⟨by omega, by omega⟩ (fun i => ((fun i => hp0_z (by decide) (by decide) (by decide) (by decide) (by decide)) i))) kd_195 rfl rfl ⟨rfl, rfl, Nat.le_of_ble_eq_true rfl, Nat.le_of_ble_eq_true rfl⟩ ⟨Nat.le_of_ble_eq_true rfl, Nat.le_of_ble_eq_true rfl⟩ (Nat.le_of_ble_eq_true rfl) dL_1160 (fun r4 τ4 hp4 => ?_)
  obtain ⟨rfl, hF4⟩ := hp4
  show hpV _ _ _ _ _ _ _ _ _ _ _ _ _ _ _ _ _ _ _ _ _ (_ :: _)
  refine h_icmp_eq (tgt := 2354) C dL_1163 (by decide) ⟨by decide, by decide⟩ ⟨by decide, by decide⟩ (fun h5 => ?_) (fun h5 => ?_)
  · refine h_iinc (lv' := [(3, .int (hpI 6)), (2, .ref (s.heap.size + 195)), (1, .ref (s.heap.size + 0)), (0, .ref b)]) C dL_2354 0 rfl rfl (by decide) rfl ?_
    refine h_goto (tgt := 18) C dL_2357 (by decide) ?_
    refine h_iload_n C dL_18 0 rfl rfl ?_
    refine h_aload_n C dL_19 3 rfl rfl ?_
    refine h_slen C hX hbl dL_20 ?_
    refine h_bipush C dL_21 (by decide) ?_
    refine h_isub (r := 0) C dL_23 (by decide) ?_
    refine h_icmp_gt (tgt := 2360) C dL_24 (by decide) ⟨by decide, by decide⟩ ⟨by decide, by decide⟩ (fun h7 => ?_) (fun h7 => ?_)
    · refine h_iconst C dL_2360 ?_
      exact h_lawret C hr hk dL_2361
    · exfalso; omega
  · exfalso; omega
set_option maxHeartbeats 4000000 in
set_option maxRecDepth 20000 in
theorem law_34 {p : Program} {e : Env} {s : State} {m : MethodId} {below : List Frame} {meth : Method} {c : Code} (l : Launch) {b : Nat} {xs : Nat → Int32} {D : va_G} {cy : Nat → ClassId} (C : hpC p s m #[.ref b] c code 4 RL D cy) (hr : meth.sig.returnType = ret) (hk : meth.locks = false) (hX : va_X b 6 xs s s.heap) (hbl : b < s.heap.size) : hpV p l e room_1 s m #[.ref b] below meth c 217 24316 4 D cy s.heap.size s.heap (lw_Z below #[Value.ref b] s) hp0 1168 [(3, .int (hpI 0)), (2, .ref (s.heap.size + 195)), (1, .ref (s.heap.size + 0)), (0, .ref b)] [] := by
  refine h_aload_n C dL_1168 2 rfl rfl ?_
  refine h_aload_n C dL_1169 3 rfl rfl ?_
  refine h_iload_n C dL_1170 0 rfl rfl ?_
  refine h_iconst C dL_1171 ?_
  refine h_iadd (r := 1) C dL_1172 (by decide) ?_
  refine h_sld C hX hbl 1 rfl (by decide) dL_1173 ?_
  obtain ⟨hq1a, hq1b⟩ := hpR_of (xs 1)
  generalize ev1 : (xs 1).toInt = v1 at hq1a hq1b ⊢
  refine h_callV (As := [.int (hpI v1)]) (rest := []) C yyX8_gardens wd_904 (tX8_gardens l D cy s.heap.size _ v1 ⟨by omega, by omega⟩ rfl) kd_0 rfl rfl ⟨rfl, rfl, Nat.le_of_ble_eq_true rfl, Nat.le_of_ble_eq_true rfl⟩ ⟨Nat.le_of_ble_eq_true rfl, Nat.le_of_ble_eq_true rfl⟩ (Nat.le_of_ble_eq_true rfl) dL_1174 (fun r2 τ2 hp2 => ?_)
  obtain ⟨rfl, rfl⟩ := hp2
  show hpV _ _ _ _ _ _ _ _ _ _ _ _ _ _ _ _ _ _ _ _ _ (_ :: _)
  refine h_aload_n C dL_1177 1 rfl rfl ?_
  refine h_aload_n C dL_1178 3 rfl rfl ?_
  refine h_iload_n C dL_1179 0 rfl rfl ?_
  refine h_iconst C dL_1180 ?_
  refine h_iadd (r := 1) C dL_1181 (by decide) ?_
  refine h_sld C hX hbl 1 rfl (by decide) dL_1182 ?_
  rw [ev1]
  refine h_callV (As := [.int (hpI v1)]) (rest := [.int (hpI (-2))]) C yyX9_gardens wd_1759 (tX9_gardens l D cy s.heap.size _ v1 ⟨by omega, by omega⟩ (fun i => ((fun i => hp0_z (by decide) (by decide) (by decide) (by decide) (by decide)) i))) kd_195 rfl rfl ⟨rfl, rfl, Nat.le_of_ble_eq_true rfl, Nat.le_of_ble_eq_true rfl⟩ ⟨Nat.le_of_ble_eq_true rfl, Nat.le_of_ble_eq_true rfl⟩ (Nat.le_of_ble_eq_true rfl) dL_1183 (fun r4 τ4 hp4 => ?_)
  obtain ⟨rfl, hF4⟩ := hp4
  show hpV _ _ _ _ _ _ _ _ _ _ _ _ _ _ _ _ _ _ _ _ _ (_ :: _)
  refine h_icmp_eq (tgt := 2354) C dL_1186 (by decide) ⟨by decide, by decide⟩ ⟨by decide, by decide⟩ (fun h5 => ?_) (fun h5 => ?_)
  · refine h_iinc (lv' := [(3, .int (hpI 6)), (2, .ref (s.heap.size + 195)), (1, .ref (s.heap.size + 0)), (0, .ref b)]) C dL_2354 0 rfl rfl (by decide) rfl ?_
    refine h_goto (tgt := 18) C dL_2357 (by decide) ?_
    refine h_iload_n C dL_18 0 rfl rfl ?_
    refine h_aload_n C dL_19 3 rfl rfl ?_
    refine h_slen C hX hbl dL_20 ?_
    refine h_bipush C dL_21 (by decide) ?_
    refine h_isub (r := 0) C dL_23 (by decide) ?_
    refine h_icmp_gt (tgt := 2360) C dL_24 (by decide) ⟨by decide, by decide⟩ ⟨by decide, by decide⟩ (fun h7 => ?_) (fun h7 => ?_)
    · refine h_iconst C dL_2360 ?_
      exact h_lawret C hr hk dL_2361
    · exfalso; omega
  · exfalso; omega
set_option maxHeartbeats 4000000 in
set_option maxRecDepth 20000 in
theorem law_35 {p : Program} {e : Env} {s : State} {m : MethodId} {below : List Frame} {meth : Method} {c : Code} (l : Launch) {b : Nat} {xs : Nat → Int32} {D : va_G} {cy : Nat → ClassId} (C : hpC p s m #[.ref b] c code 4 RL D cy) (hr : meth.sig.returnType = ret) (hk : meth.locks = false) (hX : va_X b 6 xs s s.heap) (hbl : b < s.heap.size) : hpV p l e room_1 s m #[.ref b] below meth c 217 24316 4 D cy s.heap.size s.heap (lw_Z below #[Value.ref b] s) hp0 1191 [(3, .int (hpI 0)), (2, .ref (s.heap.size + 195)), (1, .ref (s.heap.size + 0)), (0, .ref b)] [] := by
  refine h_aload_n C dL_1191 2 rfl rfl ?_
  refine h_aload_n C dL_1192 3 rfl rfl ?_
  refine h_iload_n C dL_1193 0 rfl rfl ?_
  refine h_iconst C dL_1194 ?_
  refine h_iadd (r := 1) C dL_1195 (by decide) ?_
  refine h_sld C hX hbl 1 rfl (by decide) dL_1196 ?_
  obtain ⟨hq1a, hq1b⟩ := hpR_of (xs 1)
  generalize ev1 : (xs 1).toInt = v1 at hq1a hq1b ⊢
  refine h_callV (As := [.int (hpI v1)]) (rest := []) C yyX8_longest wd_908 (tX8_longest l D cy s.heap.size _ v1 ⟨by omega, by omega⟩ rfl) kd_0 rfl rfl ⟨rfl, rfl, Nat.le_of_ble_eq_true rfl, Nat.le_of_ble_eq_true rfl⟩ ⟨Nat.le_of_ble_eq_true rfl, Nat.le_of_ble_eq_true rfl⟩ (Nat.le_of_ble_eq_true rfl) dL_1197 (fun r2 τ2 hp2 => ?_)
  obtain ⟨rfl, rfl⟩ := hp2
  show hpV _ _ _ _ _ _ _ _ _ _ _ _ _ _ _ _ _ _ _ _ _ (_ :: _)
  refine h_aload_n C dL_1200 1 rfl rfl ?_
  refine h_aload_n C dL_1201 3 rfl rfl ?_
  refine h_iload_n C dL_1202 0 rfl rfl ?_
  refine h_iconst C dL_1203 ?_
  refine h_iadd (r := 1) C dL_1204 (by decide) ?_
  refine h_sld C hX hbl 1 rfl (by decide) dL_1205 ?_
  rw [ev1]
  refine h_callV (As := [.int (hpI v1)]) (rest := [.int (hpI (-2))]) C yyX9_longest wd_1767 (tX9_longest l D cy s.heap.size _ v1 ⟨by omega, by omega⟩ (fun i => ((fun i => hp0_z (by decide) (by decide) (by decide) (by decide) (by decide)) i))) kd_195 rfl rfl ⟨rfl, rfl, Nat.le_of_ble_eq_true rfl, Nat.le_of_ble_eq_true rfl⟩ ⟨Nat.le_of_ble_eq_true rfl, Nat.le_of_ble_eq_true rfl⟩ (Nat.le_of_ble_eq_true rfl) dL_1206 (fun r4 τ4 hp4 => ?_)
  obtain ⟨rfl, hF4⟩ := hp4
  show hpV _ _ _ _ _ _ _ _ _ _ _ _ _ _ _ _ _ _ _ _ _ (_ :: _)
  refine h_icmp_eq (tgt := 2354) C dL_1209 (by decide) ⟨by decide, by decide⟩ ⟨by decide, by decide⟩ (fun h5 => ?_) (fun h5 => ?_)
  · refine h_iinc (lv' := [(3, .int (hpI 6)), (2, .ref (s.heap.size + 195)), (1, .ref (s.heap.size + 0)), (0, .ref b)]) C dL_2354 0 rfl rfl (by decide) rfl ?_
    refine h_goto (tgt := 18) C dL_2357 (by decide) ?_
    refine h_iload_n C dL_18 0 rfl rfl ?_
    refine h_aload_n C dL_19 3 rfl rfl ?_
    refine h_slen C hX hbl dL_20 ?_
    refine h_bipush C dL_21 (by decide) ?_
    refine h_isub (r := 0) C dL_23 (by decide) ?_
    refine h_icmp_gt (tgt := 2360) C dL_24 (by decide) ⟨by decide, by decide⟩ ⟨by decide, by decide⟩ (fun h7 => ?_) (fun h7 => ?_)
    · refine h_iconst C dL_2360 ?_
      exact h_lawret C hr hk dL_2361
    · exfalso; omega
  · exfalso; omega
set_option maxHeartbeats 4000000 in
set_option maxRecDepth 20000 in
theorem law_36 {p : Program} {e : Env} {s : State} {m : MethodId} {below : List Frame} {meth : Method} {c : Code} (l : Launch) {b : Nat} {xs : Nat → Int32} {D : va_G} {cy : Nat → ClassId} (C : hpC p s m #[.ref b] c code 4 RL D cy) (hr : meth.sig.returnType = ret) (hk : meth.locks = false) (hX : va_X b 6 xs s s.heap) (hbl : b < s.heap.size) : hpV p l e room_1 s m #[.ref b] below meth c 217 24316 4 D cy s.heap.size s.heap (lw_Z below #[Value.ref b] s) hp0 1214 [(3, .int (hpI 0)), (2, .ref (s.heap.size + 195)), (1, .ref (s.heap.size + 0)), (0, .ref b)] [] := by
  refine h_aload_n C dL_1214 2 rfl rfl ?_
  refine h_aload_n C dL_1215 3 rfl rfl ?_
  refine h_iload_n C dL_1216 0 rfl rfl ?_
  refine h_iconst C dL_1217 ?_
  refine h_iadd (r := 1) C dL_1218 (by decide) ?_
  refine h_sld C hX hbl 1 rfl (by decide) dL_1219 ?_
  obtain ⟨hq1a, hq1b⟩ := hpR_of (xs 1)
  generalize ev1 : (xs 1).toInt = v1 at hq1a hq1b ⊢
  refine h_callV (As := [.int (hpI v1)]) (rest := []) C yyX8_ahead wd_912 (tX8_ahead l D cy s.heap.size _ v1 ⟨by omega, by omega⟩ rfl) kd_0 rfl rfl ⟨rfl, rfl, Nat.le_of_ble_eq_true rfl, Nat.le_of_ble_eq_true rfl⟩ ⟨Nat.le_of_ble_eq_true rfl, Nat.le_of_ble_eq_true rfl⟩ (Nat.le_of_ble_eq_true rfl) dL_1220 (fun r2 τ2 hp2 => ?_)
  obtain ⟨rfl, rfl⟩ := hp2
  show hpV _ _ _ _ _ _ _ _ _ _ _ _ _ _ _ _ _ _ _ _ _ (_ :: _)
  refine h_aload_n C dL_1223 1 rfl rfl ?_
  refine h_aload_n C dL_1224 3 rfl rfl ?_
  refine h_iload_n C dL_1225 0 rfl rfl ?_
  refine h_iconst C dL_1226 ?_
  refine h_iadd (r := 1) C dL_1227 (by decide) ?_
  refine h_sld C hX hbl 1 rfl (by decide) dL_1228 ?_
  rw [ev1]
  refine h_callV (As := [.int (hpI v1)]) (rest := [.int (hpI (-2))]) C yyX9_ahead wd_1771 (tX9_ahead l D cy s.heap.size _ v1 ⟨by omega, by omega⟩ (fun i => ((fun i => hp0_z (by decide) (by decide) (by decide) (by decide) (by decide)) i))) kd_195 rfl rfl ⟨rfl, rfl, Nat.le_of_ble_eq_true rfl, Nat.le_of_ble_eq_true rfl⟩ ⟨Nat.le_of_ble_eq_true rfl, Nat.le_of_ble_eq_true rfl⟩ (Nat.le_of_ble_eq_true rfl) dL_1229 (fun r4 τ4 hp4 => ?_)
  obtain ⟨rfl, rfl⟩ := hp4
  show hpV _ _ _ _ _ _ _ _ _ _ _ _ _ _ _ _ _ _ _ _ _ (_ :: _)
  refine h_icmp_eq (tgt := 2354) C dL_1232 (by decide) ⟨by decide, by decide⟩ ⟨by decide, by decide⟩ (fun h5 => ?_) (fun h5 => ?_)
  · refine h_iinc (lv' := [(3, .int (hpI 6)), (2, .ref (s.heap.size + 195)), (1, .ref (s.heap.size + 0)), (0, .ref b)]) C dL_2354 0 rfl rfl (by decide) rfl ?_
    refine h_goto (tgt := 18) C dL_2357 (by decide) ?_
    refine h_iload_n C dL_18 0 rfl rfl ?_
    refine h_aload_n C dL_19 3 rfl rfl ?_
    refine h_slen C hX hbl dL_20 ?_
    refine h_bipush C dL_21 (by decide) ?_
    refine h_isub (r := 0) C dL_23 (by decide) ?_
    refine h_icmp_gt (tgt := 2360) C dL_24 (by decide) ⟨by decide, by decide⟩ ⟨by decide, by decide⟩ (fun h7 => ?_) (fun h7 => ?_)
    · refine h_iconst C dL_2360 ?_
      exact h_lawret C hr hk dL_2361
    · exfalso; omega
  · exfalso; omega
set_option maxHeartbeats 4000000 in
set_option maxRecDepth 20000 in
theorem law_37 {p : Program} {e : Env} {s : State} {m : MethodId} {below : List Frame} {meth : Method} {c : Code} (l : Launch) {b : Nat} {xs : Nat → Int32} {D : va_G} {cy : Nat → ClassId} (C : hpC p s m #[.ref b] c code 4 RL D cy) (hr : meth.sig.returnType = ret) (hk : meth.locks = false) (hX : va_X b 6 xs s s.heap) (hbl : b < s.heap.size) : hpV p l e room_1 s m #[.ref b] below meth c 217 24316 4 D cy s.heap.size s.heap (lw_Z below #[Value.ref b] s) hp0 1237 [(3, .int (hpI 0)), (2, .ref (s.heap.size + 195)), (1, .ref (s.heap.size + 0)), (0, .ref b)] [] := by
  refine h_aload_n C dL_1237 2 rfl rfl ?_
  refine h_aload_n C dL_1238 3 rfl rfl ?_
  refine h_iload_n C dL_1239 0 rfl rfl ?_
  refine h_iconst C dL_1240 ?_
  refine h_iadd (r := 1) C dL_1241 (by decide) ?_
  refine h_sld C hX hbl 1 rfl (by decide) dL_1242 ?_
  obtain ⟨hq1a, hq1b⟩ := hpR_of (xs 1)
  generalize ev1 : (xs 1).toInt = v1 at hq1a hq1b ⊢
  refine h_aload_n C dL_1243 3 rfl rfl ?_
  refine h_iload_n C dL_1244 0 rfl rfl ?_
  refine h_iconst C dL_1245 ?_
  refine h_iadd (r := 2) C dL_1246 (by decide) ?_
  refine h_sld C hX hbl 2 rfl (by decide) dL_1247 ?_
  obtain ⟨hq2a, hq2b⟩ := hpR_of (xs 2)
  generalize ev2 : (xs 2).toInt = v2 at hq2a hq2b ⊢
  refine h_callV (As := [.int (hpI v1), .int (hpI v2)]) (rest := []) C yyX8_from wd_933 (tX8_from l D cy s.heap.size _ v1 ⟨by omega, by omega⟩ v2 ⟨by omega, by omega⟩ rfl) kd_0 rfl rfl ⟨rfl, rfl, Nat.le_of_ble_eq_true rfl, Nat.le_of_ble_eq_true rfl⟩ ⟨Nat.le_of_ble_eq_true rfl, Nat.le_of_ble_eq_true rfl⟩ (Nat.le_of_ble_eq_true rfl) dL_1248 (fun r3 τ3 hp3 => ?_)
  obtain ⟨rfl, rfl⟩ := hp3
  show hpV _ _ _ _ _ _ _ _ _ _ _ _ _ _ _ _ _ _ _ _ _ (_ :: _)
  refine h_aload_n C dL_1251 1 rfl rfl ?_
  refine h_aload_n C dL_1252 3 rfl rfl ?_
  refine h_iload_n C dL_1253 0 rfl rfl ?_
  refine h_iconst C dL_1254 ?_
  refine h_iadd (r := 1) C dL_1255 (by decide) ?_
  refine h_sld C hX hbl 1 rfl (by decide) dL_1256 ?_
  rw [ev1]
  refine h_aload_n C dL_1257 3 rfl rfl ?_
  refine h_iload_n C dL_1258 0 rfl rfl ?_
  refine h_iconst C dL_1259 ?_
  refine h_iadd (r := 2) C dL_1260 (by decide) ?_
  refine h_sld C hX hbl 2 rfl (by decide) dL_1261 ?_
  rw [ev2]
  refine h_callV (As := [.int (hpI v1), .int (hpI v2)]) (rest := [.int (hpI (-2))]) C yyX9_from wd_1787 (tX9_from l D cy s.heap.size _ v1 ⟨by omega, by omega⟩ v2 ⟨by omega, by omega⟩ (fun i => ((fun i => hp0_z (by decide) (by decide) (by decide) (by decide) (by decide)) i))) kd_195 rfl rfl ⟨rfl, rfl, Nat.le_of_ble_eq_true rfl, Nat.le_of_ble_eq_true rfl⟩ ⟨Nat.le_of_ble_eq_true rfl, Nat.le_of_ble_eq_true rfl⟩ (Nat.le_of_ble_eq_true rfl) dL_1262 (fun r6 τ6 hp6 => ?_)
  obtain ⟨rfl, rfl⟩ := hp6
  show hpV _ _ _ _ _ _ _ _ _ _ _ _ _ _ _ _ _ _ _ _ _ (_ :: _)
  refine h_icmp_eq (tgt := 2354) C dL_1265 (by decide) ⟨by decide, by decide⟩ ⟨by decide, by decide⟩ (fun h7 => ?_) (fun h7 => ?_)
  · refine h_iinc (lv' := [(3, .int (hpI 6)), (2, .ref (s.heap.size + 195)), (1, .ref (s.heap.size + 0)), (0, .ref b)]) C dL_2354 0 rfl rfl (by decide) rfl ?_
    refine h_goto (tgt := 18) C dL_2357 (by decide) ?_
    refine h_iload_n C dL_18 0 rfl rfl ?_
    refine h_aload_n C dL_19 3 rfl rfl ?_
    refine h_slen C hX hbl dL_20 ?_
    refine h_bipush C dL_21 (by decide) ?_
    refine h_isub (r := 0) C dL_23 (by decide) ?_
    refine h_icmp_gt (tgt := 2360) C dL_24 (by decide) ⟨by decide, by decide⟩ ⟨by decide, by decide⟩ (fun h9 => ?_) (fun h9 => ?_)
    · refine h_iconst C dL_2360 ?_
      exact h_lawret C hr hk dL_2361
    · exfalso; omega
  · exfalso; omega
set_option maxHeartbeats 4000000 in
set_option maxRecDepth 20000 in
theorem law_38 {p : Program} {e : Env} {s : State} {m : MethodId} {below : List Frame} {meth : Method} {c : Code} (l : Launch) {b : Nat} {xs : Nat → Int32} {D : va_G} {cy : Nat → ClassId} (C : hpC p s m #[.ref b] c code 4 RL D cy) (hr : meth.sig.returnType = ret) (hk : meth.locks = false) (hX : va_X b 6 xs s s.heap) (hbl : b < s.heap.size) : hpV p l e room_1 s m #[.ref b] below meth c 217 24316 4 D cy s.heap.size s.heap (lw_Z below #[Value.ref b] s) hp0 1270 [(3, .int (hpI 0)), (2, .ref (s.heap.size + 195)), (1, .ref (s.heap.size + 0)), (0, .ref b)] [] := by
  refine h_aload_n C dL_1270 2 rfl rfl ?_
  refine h_aload_n C dL_1271 3 rfl rfl ?_
  refine h_iload_n C dL_1272 0 rfl rfl ?_
  refine h_iconst C dL_1273 ?_
  refine h_iadd (r := 1) C dL_1274 (by decide) ?_
  refine h_sld C hX hbl 1 rfl (by decide) dL_1275 ?_
  obtain ⟨hq1a, hq1b⟩ := hpR_of (xs 1)
  generalize ev1 : (xs 1).toInt = v1 at hq1a hq1b ⊢
  refine h_callV (As := [.int (hpI v1)]) (rest := []) C yyX8_way wd_941 (tX8_way l D cy s.heap.size _ v1 ⟨by omega, by omega⟩ rfl) kd_0 rfl rfl ⟨rfl, rfl, Nat.le_of_ble_eq_true rfl, Nat.le_of_ble_eq_true rfl⟩ ⟨Nat.le_of_ble_eq_true rfl, Nat.le_of_ble_eq_true rfl⟩ (Nat.le_of_ble_eq_true rfl) dL_1276 (fun r2 τ2 hp2 => ?_)
  obtain ⟨rfl, rfl⟩ := hp2
  show hpV _ _ _ _ _ _ _ _ _ _ _ _ _ _ _ _ _ _ _ _ _ (_ :: _)
  refine h_aload_n C dL_1279 1 rfl rfl ?_
  refine h_aload_n C dL_1280 3 rfl rfl ?_
  refine h_iload_n C dL_1281 0 rfl rfl ?_
  refine h_iconst C dL_1282 ?_
  refine h_iadd (r := 1) C dL_1283 (by decide) ?_
  refine h_sld C hX hbl 1 rfl (by decide) dL_1284 ?_
  rw [ev1]
  refine h_callV (As := [.int (hpI v1)]) (rest := [.int (hpI (-2))]) C yyX9_way wd_1791 (tX9_way l D cy s.heap.size _ v1 ⟨by omega, by omega⟩ (fun i => ((fun i => hp0_z (by decide) (by decide) (by decide) (by decide) (by decide)) i))) kd_195 rfl rfl ⟨rfl, rfl, Nat.le_of_ble_eq_true rfl, Nat.le_of_ble_eq_true rfl⟩ ⟨Nat.le_of_ble_eq_true rfl, Nat.le_of_ble_eq_true rfl⟩ (Nat.le_of_ble_eq_true rfl) dL_1285 (fun r4 τ4 hp4 => ?_)
  obtain ⟨rfl, rfl⟩ := hp4
  show hpV _ _ _ _ _ _ _ _ _ _ _ _ _ _ _ _ _ _ _ _ _ (_ :: _)
  refine h_icmp_eq (tgt := 2354) C dL_1288 (by decide) ⟨by decide, by decide⟩ ⟨by decide, by decide⟩ (fun h5 => ?_) (fun h5 => ?_)
  · refine h_iinc (lv' := [(3, .int (hpI 6)), (2, .ref (s.heap.size + 195)), (1, .ref (s.heap.size + 0)), (0, .ref b)]) C dL_2354 0 rfl rfl (by decide) rfl ?_
    refine h_goto (tgt := 18) C dL_2357 (by decide) ?_
    refine h_iload_n C dL_18 0 rfl rfl ?_
    refine h_aload_n C dL_19 3 rfl rfl ?_
    refine h_slen C hX hbl dL_20 ?_
    refine h_bipush C dL_21 (by decide) ?_
    refine h_isub (r := 0) C dL_23 (by decide) ?_
    refine h_icmp_gt (tgt := 2360) C dL_24 (by decide) ⟨by decide, by decide⟩ ⟨by decide, by decide⟩ (fun h7 => ?_) (fun h7 => ?_)
    · refine h_iconst C dL_2360 ?_
      exact h_lawret C hr hk dL_2361
    · exfalso; omega
  · exfalso; omega
set_option maxHeartbeats 4000000 in
set_option maxRecDepth 20000 in
theorem law_39 {p : Program} {e : Env} {s : State} {m : MethodId} {below : List Frame} {meth : Method} {c : Code} (l : Launch) {b : Nat} {xs : Nat → Int32} {D : va_G} {cy : Nat → ClassId} (C : hpC p s m #[.ref b] c code 4 RL D cy) (hr : meth.sig.returnType = ret) (hk : meth.locks = false) (hX : va_X b 6 xs s s.heap) (hbl : b < s.heap.size) : hpV p l e room_1 s m #[.ref b] below meth c 217 24316 4 D cy s.heap.size s.heap (lw_Z below #[Value.ref b] s) hp0 1293 [(3, .int (hpI 0)), (2, .ref (s.heap.size + 195)), (1, .ref (s.heap.size + 0)), (0, .ref b)] [] := by
  refine h_aload_n C dL_1293 2 rfl rfl ?_
  refine h_aload_n C dL_1294 3 rfl rfl ?_
  refine h_iload_n C dL_1295 0 rfl rfl ?_
  refine h_iconst C dL_1296 ?_
  refine h_iadd (r := 1) C dL_1297 (by decide) ?_
  refine h_sld C hX hbl 1 rfl (by decide) dL_1298 ?_
  obtain ⟨hq1a, hq1b⟩ := hpR_of (xs 1)
  generalize ev1 : (xs 1).toInt = v1 at hq1a hq1b ⊢
  refine h_aload_n C dL_1299 3 rfl rfl ?_
  refine h_iload_n C dL_1300 0 rfl rfl ?_
  refine h_iconst C dL_1301 ?_
  refine h_iadd (r := 2) C dL_1302 (by decide) ?_
  refine h_sld C hX hbl 2 rfl (by decide) dL_1303 ?_
  obtain ⟨hq2a, hq2b⟩ := hpR_of (xs 2)
  generalize ev2 : (xs 2).toInt = v2 at hq2a hq2b ⊢
  refine h_callV (As := [.int (hpI v1), .int (hpI v2)]) (rest := []) C yyX8_bring wd_949 (tX8_bring l D cy s.heap.size _ v1 ⟨by omega, by omega⟩ v2 ⟨by omega, by omega⟩ rfl) kd_0 rfl rfl ⟨rfl, rfl, Nat.le_of_ble_eq_true rfl, Nat.le_of_ble_eq_true rfl⟩ ⟨Nat.le_of_ble_eq_true rfl, Nat.le_of_ble_eq_true rfl⟩ (Nat.le_of_ble_eq_true rfl) dL_1304 (fun r3 τ3 hp3 => ?_)
  obtain ⟨rfl, rfl⟩ := hp3
  show hpV _ _ _ _ _ _ _ _ _ _ _ _ _ _ _ _ _ _ _ _ _ (_ :: _)
  refine h_aload_n C dL_1307 1 rfl rfl ?_
  refine h_aload_n C dL_1308 3 rfl rfl ?_
  refine h_iload_n C dL_1309 0 rfl rfl ?_
  refine h_iconst C dL_1310 ?_
  refine h_iadd (r := 1) C dL_1311 (by decide) ?_
  refine h_sld C hX hbl 1 rfl (by decide) dL_1312 ?_
  rw [ev1]
  refine h_aload_n C dL_1313 3 rfl rfl ?_
  refine h_iload_n C dL_1314 0 rfl rfl ?_
  refine h_iconst C dL_1315 ?_
  refine h_iadd (r := 2) C dL_1316 (by decide) ?_
  refine h_sld C hX hbl 2 rfl (by decide) dL_1317 ?_
  rw [ev2]
  refine h_callV (As := [.int (hpI v1), .int (hpI v2)]) (rest := [.int (hpI (-2))]) C yyX9_bring wd_1795 (tX9_bring l D cy s.heap.size _ v1 ⟨by omega, by omega⟩ v2 ⟨by omega, by omega⟩ (fun i => ((fun i => hp0_z (by decide) (by decide) (by decide) (by decide) (by decide)) i))) kd_195 rfl rfl ⟨rfl, rfl, Nat.le_of_ble_eq_true rfl, Nat.le_of_ble_eq_true rfl⟩ ⟨Nat.le_of_ble_eq_true rfl, Nat.le_of_ble_eq_true rfl⟩ (Nat.le_of_ble_eq_true rfl) dL_1318 (fun r6 τ6 hp6 => ?_)
  obtain ⟨rfl, hF6⟩ := hp6
  show hpV _ _ _ _ _ _ _ _ _ _ _ _ _ _ _ _ _ _ _ _ _ (_ :: _)
  refine h_icmp_eq (tgt := 2354) C dL_1321 (by decide) ⟨by decide, by decide⟩ ⟨by decide, by decide⟩ (fun h7 => ?_) (fun h7 => ?_)
  · refine h_iinc (lv' := [(3, .int (hpI 6)), (2, .ref (s.heap.size + 195)), (1, .ref (s.heap.size + 0)), (0, .ref b)]) C dL_2354 0 rfl rfl (by decide) rfl ?_
    refine h_goto (tgt := 18) C dL_2357 (by decide) ?_
    refine h_iload_n C dL_18 0 rfl rfl ?_
    refine h_aload_n C dL_19 3 rfl rfl ?_
    refine h_slen C hX hbl dL_20 ?_
    refine h_bipush C dL_21 (by decide) ?_
    refine h_isub (r := 0) C dL_23 (by decide) ?_
    refine h_icmp_gt (tgt := 2360) C dL_24 (by decide) ⟨by decide, by decide⟩ ⟨by decide, by decide⟩ (fun h9 => ?_) (fun h9 => ?_)
    · refine h_iconst C dL_2360 ?_
      exact h_lawret C hr hk dL_2361
    · exfalso; omega
  · exfalso; omega
set_option maxHeartbeats 4000000 in
set_option maxRecDepth 20000 in
theorem law_40 {p : Program} {e : Env} {s : State} {m : MethodId} {below : List Frame} {meth : Method} {c : Code} (l : Launch) {b : Nat} {xs : Nat → Int32} {D : va_G} {cy : Nat → ClassId} (C : hpC p s m #[.ref b] c code 4 RL D cy) (hr : meth.sig.returnType = ret) (hk : meth.locks = false) (hX : va_X b 6 xs s s.heap) (hbl : b < s.heap.size) : hpV p l e room_1 s m #[.ref b] below meth c 217 24316 4 D cy s.heap.size s.heap (lw_Z below #[Value.ref b] s) hp0 1326 [(3, .int (hpI 0)), (2, .ref (s.heap.size + 195)), (1, .ref (s.heap.size + 0)), (0, .ref b)] [] := by
  refine h_aload_n C dL_1326 2 rfl rfl ?_
  refine h_aload_n C dL_1327 3 rfl rfl ?_
  refine h_iload_n C dL_1328 0 rfl rfl ?_
  refine h_iconst C dL_1329 ?_
  refine h_iadd (r := 1) C dL_1330 (by decide) ?_
  refine h_sld C hX hbl 1 rfl (by decide) dL_1331 ?_
  obtain ⟨hq1a, hq1b⟩ := hpR_of (xs 1)
  generalize ev1 : (xs 1).toInt = v1 at hq1a hq1b ⊢
  refine h_callV (As := [.int (hpI v1)]) (rest := []) C yyX8_latest wd_961 (tX8_latest l D cy s.heap.size _ v1 ⟨by omega, by omega⟩ rfl) kd_0 rfl rfl ⟨rfl, rfl, Nat.le_of_ble_eq_true rfl, Nat.le_of_ble_eq_true rfl⟩ ⟨Nat.le_of_ble_eq_true rfl, Nat.le_of_ble_eq_true rfl⟩ (Nat.le_of_ble_eq_true rfl) dL_1332 (fun r2 τ2 hp2 => ?_)
  obtain ⟨rfl, rfl⟩ := hp2
  show hpV _ _ _ _ _ _ _ _ _ _ _ _ _ _ _ _ _ _ _ _ _ (_ :: _)
  refine h_aload_n C dL_1335 1 rfl rfl ?_
  refine h_aload_n C dL_1336 3 rfl rfl ?_
  refine h_iload_n C dL_1337 0 rfl rfl ?_
  refine h_iconst C dL_1338 ?_
  refine h_iadd (r := 1) C dL_1339 (by decide) ?_
  refine h_sld C hX hbl 1 rfl (by decide) dL_1340 ?_
  rw [ev1]
  refine h_callV (As := [.int (hpI v1)]) (rest := [.int (hpI (-2))]) C yyX9_latest wd_1808 (tX9_latest l D cy s.heap.size _ v1 ⟨by omega, by omega⟩ (fun i => ((fun i => hp0_z (by decide) (by decide) (by decide) (by decide) (by decide)) i))) kd_195 rfl rfl ⟨rfl, rfl, Nat.le_of_ble_eq_true rfl, Nat.le_of_ble_eq_true rfl⟩ ⟨Nat.le_of_ble_eq_true rfl, Nat.le_of_ble_eq_true rfl⟩ (Nat.le_of_ble_eq_true rfl) dL_1341 (fun r4 τ4 hp4 => ?_)
  obtain ⟨rfl, hF4⟩ := hp4
  show hpV _ _ _ _ _ _ _ _ _ _ _ _ _ _ _ _ _ _ _ _ _ (_ :: _)
  refine h_icmp_eq (tgt := 2354) C dL_1344 (by decide) ⟨by decide, by decide⟩ ⟨by decide, by decide⟩ (fun h5 => ?_) (fun h5 => ?_)
  · refine h_iinc (lv' := [(3, .int (hpI 6)), (2, .ref (s.heap.size + 195)), (1, .ref (s.heap.size + 0)), (0, .ref b)]) C dL_2354 0 rfl rfl (by decide) rfl ?_
    refine h_goto (tgt := 18) C dL_2357 (by decide) ?_
    refine h_iload_n C dL_18 0 rfl rfl ?_
    refine h_aload_n C dL_19 3 rfl rfl ?_
    refine h_slen C hX hbl dL_20 ?_
    refine h_bipush C dL_21 (by decide) ?_
    refine h_isub (r := 0) C dL_23 (by decide) ?_
    refine h_icmp_gt (tgt := 2360) C dL_24 (by decide) ⟨by decide, by decide⟩ ⟨by decide, by decide⟩ (fun h7 => ?_) (fun h7 => ?_)
    · refine h_iconst C dL_2360 ?_
      exact h_lawret C hr hk dL_2361
    · exfalso; omega
  · exfalso; omega
set_option maxHeartbeats 4000000 in
set_option maxRecDepth 20000 in
theorem law_41 {p : Program} {e : Env} {s : State} {m : MethodId} {below : List Frame} {meth : Method} {c : Code} (l : Launch) {b : Nat} {xs : Nat → Int32} {D : va_G} {cy : Nat → ClassId} (C : hpC p s m #[.ref b] c code 4 RL D cy) (hr : meth.sig.returnType = ret) (hk : meth.locks = false) (hX : va_X b 6 xs s s.heap) (hbl : b < s.heap.size) : hpV p l e room_1 s m #[.ref b] below meth c 217 24316 4 D cy s.heap.size s.heap (lw_Z below #[Value.ref b] s) hp0 1349 [(3, .int (hpI 0)), (2, .ref (s.heap.size + 195)), (1, .ref (s.heap.size + 0)), (0, .ref b)] [] := by
  refine h_aload_n C dL_1349 2 rfl rfl ?_
  refine h_callV (As := []) (rest := []) C yyX8_spare wd_965 (tX8_spare l D cy s.heap.size _ rfl) kd_0 rfl rfl ⟨rfl, rfl, Nat.le_of_ble_eq_true rfl, Nat.le_of_ble_eq_true rfl⟩ ⟨Nat.le_of_ble_eq_true rfl, Nat.le_of_ble_eq_true rfl⟩ (Nat.le_of_ble_eq_true rfl) dL_1350 (fun r1 τ1 hp1 => ?_)
  obtain ⟨rfl, rfl⟩ := hp1
  show hpV _ _ _ _ _ _ _ _ _ _ _ _ _ _ _ _ _ _ _ _ _ (_ :: _)
  refine h_aload_n C dL_1353 1 rfl rfl ?_
  refine h_callV (As := []) (rest := [.int (hpI (-2))]) C yyX9_spare wd_1812 (tX9_spare l D cy s.heap.size _ (fun i => ((fun i => hp0_z (by decide) (by decide) (by decide) (by decide) (by decide)) i))) kd_195 rfl rfl ⟨rfl, rfl, Nat.le_of_ble_eq_true rfl, Nat.le_of_ble_eq_true rfl⟩ ⟨Nat.le_of_ble_eq_true rfl, Nat.le_of_ble_eq_true rfl⟩ (Nat.le_of_ble_eq_true rfl) dL_1354 (fun r2 τ2 hp2 => ?_)
  obtain ⟨rfl, hF2⟩ := hp2
  show hpV _ _ _ _ _ _ _ _ _ _ _ _ _ _ _ _ _ _ _ _ _ (_ :: _)
  refine h_icmp_eq (tgt := 2354) C dL_1357 (by decide) ⟨by decide, by decide⟩ ⟨by decide, by decide⟩ (fun h3 => ?_) (fun h3 => ?_)
  · refine h_iinc (lv' := [(3, .int (hpI 6)), (2, .ref (s.heap.size + 195)), (1, .ref (s.heap.size + 0)), (0, .ref b)]) C dL_2354 0 rfl rfl (by decide) rfl ?_
    refine h_goto (tgt := 18) C dL_2357 (by decide) ?_
    refine h_iload_n C dL_18 0 rfl rfl ?_
    refine h_aload_n C dL_19 3 rfl rfl ?_
    refine h_slen C hX hbl dL_20 ?_
    refine h_bipush C dL_21 (by decide) ?_
    refine h_isub (r := 0) C dL_23 (by decide) ?_
    refine h_icmp_gt (tgt := 2360) C dL_24 (by decide) ⟨by decide, by decide⟩ ⟨by decide, by decide⟩ (fun h5 => ?_) (fun h5 => ?_)
    · refine h_iconst C dL_2360 ?_
      exact h_lawret C hr hk dL_2361
    · exfalso; omega
  · exfalso; omega
set_option maxHeartbeats 4000000 in
set_option maxRecDepth 20000 in
theorem law_42 {p : Program} {e : Env} {s : State} {m : MethodId} {below : List Frame} {meth : Method} {c : Code} (l : Launch) {b : Nat} {xs : Nat → Int32} {D : va_G} {cy : Nat → ClassId} (C : hpC p s m #[.ref b] c code 4 RL D cy) (hr : meth.sig.returnType = ret) (hk : meth.locks = false) (hX : va_X b 6 xs s s.heap) (hbl : b < s.heap.size) : hpV p l e room_1 s m #[.ref b] below meth c 217 24316 4 D cy s.heap.size s.heap (lw_Z below #[Value.ref b] s) hp0 1362 [(3, .int (hpI 0)), (2, .ref (s.heap.size + 195)), (1, .ref (s.heap.size + 0)), (0, .ref b)] [] := by
  refine h_aload_n C dL_1362 2 rfl rfl ?_
  refine h_aload_n C dL_1363 3 rfl rfl ?_
  refine h_iload_n C dL_1364 0 rfl rfl ?_
  refine h_iconst C dL_1365 ?_
  refine h_iadd (r := 1) C dL_1366 (by decide) ?_
  refine h_sld C hX hbl 1 rfl (by decide) dL_1367 ?_
  obtain ⟨hq1a, hq1b⟩ := hpR_of (xs 1)
  generalize ev1 : (xs 1).toInt = v1 at hq1a hq1b ⊢
  refine h_aload_n C dL_1368 3 rfl rfl ?_
  refine h_iload_n C dL_1369 0 rfl rfl ?_
  refine h_iconst C dL_1370 ?_
  refine h_iadd (r := 2) C dL_1371 (by decide) ?_
  refine h_sld C hX hbl 2 rfl (by decide) dL_1372 ?_
  obtain ⟨hq2a, hq2b⟩ := hpR_of (xs 2)
  generalize ev2 : (xs 2).toInt = v2 at hq2a hq2b ⊢
  refine h_callV (As := [.int (hpI v1), .int (hpI v2)]) (rest := []) C yyX8_heights wd_973 (tX8_heights l D cy s.heap.size _ v1 ⟨by omega, by omega⟩ v2 ⟨by omega, by omega⟩ rfl) kd_0 rfl rfl ⟨rfl, rfl, Nat.le_of_ble_eq_true rfl, Nat.le_of_ble_eq_true rfl⟩ ⟨Nat.le_of_ble_eq_true rfl, Nat.le_of_ble_eq_true rfl⟩ (Nat.le_of_ble_eq_true rfl) dL_1373 (fun r3 τ3 hp3 => ?_)
  obtain ⟨rfl, rfl⟩ := hp3
  show hpV _ _ _ _ _ _ _ _ _ _ _ _ _ _ _ _ _ _ _ _ _ (_ :: _)
  refine h_aload_n C dL_1376 1 rfl rfl ?_
  refine h_aload_n C dL_1377 3 rfl rfl ?_
  refine h_iload_n C dL_1378 0 rfl rfl ?_
  refine h_iconst C dL_1379 ?_
  refine h_iadd (r := 1) C dL_1380 (by decide) ?_
  refine h_sld C hX hbl 1 rfl (by decide) dL_1381 ?_
  rw [ev1]
  refine h_aload_n C dL_1382 3 rfl rfl ?_
  refine h_iload_n C dL_1383 0 rfl rfl ?_
  refine h_iconst C dL_1384 ?_
  refine h_iadd (r := 2) C dL_1385 (by decide) ?_
  refine h_sld C hX hbl 2 rfl (by decide) dL_1386 ?_
  rw [ev2]
  refine h_callV (As := [.int (hpI v1), .int (hpI v2)]) (rest := [.int (hpI (-2))]) C yyX9_heights wd_1816 (tX9_heights l D cy s.heap.size _ v1 ⟨by omega, by omega⟩ v2 ⟨by omega, by omega⟩ (fun i => ((fun i => hp0_z (by decide) (by decide) (by decide) (by decide) (by decide)) i))) kd_195 rfl rfl ⟨rfl, rfl, Nat.le_of_ble_eq_true rfl, Nat.le_of_ble_eq_true rfl⟩ ⟨Nat.le_of_ble_eq_true rfl, Nat.le_of_ble_eq_true rfl⟩ (Nat.le_of_ble_eq_true rfl) dL_1387 (fun r6 τ6 hp6 => ?_)
  obtain ⟨rfl, rfl⟩ := hp6
  show hpV _ _ _ _ _ _ _ _ _ _ _ _ _ _ _ _ _ _ _ _ _ (_ :: _)
  refine h_icmp_eq (tgt := 2354) C dL_1390 (by decide) ⟨by decide, by decide⟩ ⟨by decide, by decide⟩ (fun h7 => ?_) (fun h7 => ?_)
  · refine h_iinc (lv' := [(3, .int (hpI 6)), (2, .ref (s.heap.size + 195)), (1, .ref (s.heap.size + 0)), (0, .ref b)]) C dL_2354 0 rfl rfl (by decide) rfl ?_
    refine h_goto (tgt := 18) C dL_2357 (by decide) ?_
    refine h_iload_n C dL_18 0 rfl rfl ?_
    refine h_aload_n C dL_19 3 rfl rfl ?_
    refine h_slen C hX hbl dL_20 ?_
    refine h_bipush C dL_21 (by decide) ?_
    refine h_isub (r := 0) C dL_23 (by decide) ?_
    refine h_icmp_gt (tgt := 2360) C dL_24 (by decide) ⟨by decide, by decide⟩ ⟨by decide, by decide⟩ (fun h9 => ?_) (fun h9 => ?_)
    · refine h_iconst C dL_2360 ?_
      exact h_lawret C hr hk dL_2361
    · exfalso; omega
  · exfalso; omega
set_option maxHeartbeats 4000000 in
set_option maxRecDepth 20000 in
theorem law_43 {p : Program} {e : Env} {s : State} {m : MethodId} {below : List Frame} {meth : Method} {c : Code} (l : Launch) {b : Nat} {xs : Nat → Int32} {D : va_G} {cy : Nat → ClassId} (C : hpC p s m #[.ref b] c code 4 RL D cy) (hr : meth.sig.returnType = ret) (hk : meth.locks = false) (hX : va_X b 6 xs s s.heap) (hbl : b < s.heap.size) : hpV p l e room_1 s m #[.ref b] below meth c 217 24316 4 D cy s.heap.size s.heap (lw_Z below #[Value.ref b] s) hp0 1395 [(3, .int (hpI 0)), (2, .ref (s.heap.size + 195)), (1, .ref (s.heap.size + 0)), (0, .ref b)] [] := by
  refine h_aload_n C dL_1395 2 rfl rfl ?_
  refine h_aload_n C dL_1396 3 rfl rfl ?_
  refine h_iload_n C dL_1397 0 rfl rfl ?_
  refine h_iconst C dL_1398 ?_
  refine h_iadd (r := 1) C dL_1399 (by decide) ?_
  refine h_sld C hX hbl 1 rfl (by decide) dL_1400 ?_
  obtain ⟨hq1a, hq1b⟩ := hpR_of (xs 1)
  generalize ev1 : (xs 1).toInt = v1 at hq1a hq1b ⊢
  refine h_aload_n C dL_1401 3 rfl rfl ?_
  refine h_iload_n C dL_1402 0 rfl rfl ?_
  refine h_iconst C dL_1403 ?_
  refine h_iadd (r := 2) C dL_1404 (by decide) ?_
  refine h_sld C hX hbl 2 rfl (by decide) dL_1405 ?_
  obtain ⟨hq2a, hq2b⟩ := hpR_of (xs 2)
  generalize ev2 : (xs 2).toInt = v2 at hq2a hq2b ⊢
  refine h_callV (As := [.int (hpI v1), .int (hpI v2)]) (rest := []) C yyX8_least wd_1004 (tX8_least l D cy s.heap.size _ v1 ⟨by omega, by omega⟩ v2 ⟨by omega, by omega⟩ rfl) kd_0 rfl rfl ⟨rfl, rfl, Nat.le_of_ble_eq_true rfl, Nat.le_of_ble_eq_true rfl⟩ ⟨Nat.le_of_ble_eq_true rfl, Nat.le_of_ble_eq_true rfl⟩ (Nat.le_of_ble_eq_true rfl) dL_1406 (fun r3 τ3 hp3 => ?_)
  obtain ⟨rfl, rfl⟩ := hp3
  show hpV _ _ _ _ _ _ _ _ _ _ _ _ _ _ _ _ _ _ _ _ _ (_ :: _)
  refine h_aload_n C dL_1409 1 rfl rfl ?_
  refine h_aload_n C dL_1410 3 rfl rfl ?_
  refine h_iload_n C dL_1411 0 rfl rfl ?_
  refine h_iconst C dL_1412 ?_
  refine h_iadd (r := 1) C dL_1413 (by decide) ?_
  refine h_sld C hX hbl 1 rfl (by decide) dL_1414 ?_
  rw [ev1]
  refine h_aload_n C dL_1415 3 rfl rfl ?_
  refine h_iload_n C dL_1416 0 rfl rfl ?_
  refine h_iconst C dL_1417 ?_
  refine h_iadd (r := 2) C dL_1418 (by decide) ?_
  refine h_sld C hX hbl 2 rfl (by decide) dL_1419 ?_
  rw [ev2]
  refine h_callV (As := [.int (hpI v1), .int (hpI v2)]) (rest := [.int (hpI (-2))]) C yyX9_least wd_1832 (tX9_least l D cy s.heap.size _ v1 ⟨by omega, by omega⟩ v2 ⟨by omega, by omega⟩ (fun i => ((fun i => hp0_z (by decide) (by decide) (by decide) (by decide) (by decide)) i))) kd_195 rfl rfl ⟨rfl, rfl, Nat.le_of_ble_eq_true rfl, Nat.le_of_ble_eq_true rfl⟩ ⟨Nat.le_of_ble_eq_true rfl, Nat.le_of_ble_eq_true rfl⟩ (Nat.le_of_ble_eq_true rfl) dL_1420 (fun r6 τ6 hp6 => ?_)
  obtain ⟨rfl, rfl⟩ := hp6
  show hpV _ _ _ _ _ _ _ _ _ _ _ _ _ _ _ _ _ _ _ _ _ (_ :: _)
  refine h_icmp_eq (tgt := 2354) C dL_1423 (by decide) ⟨by decide, by decide⟩ ⟨by decide, by decide⟩ (fun h7 => ?_) (fun h7 => ?_)
  · refine h_iinc (lv' := [(3, .int (hpI 6)), (2, .ref (s.heap.size + 195)), (1, .ref (s.heap.size + 0)), (0, .ref b)]) C dL_2354 0 rfl rfl (by decide) rfl ?_
    refine h_goto (tgt := 18) C dL_2357 (by decide) ?_
    refine h_iload_n C dL_18 0 rfl rfl ?_
    refine h_aload_n C dL_19 3 rfl rfl ?_
    refine h_slen C hX hbl dL_20 ?_
    refine h_bipush C dL_21 (by decide) ?_
    refine h_isub (r := 0) C dL_23 (by decide) ?_
    refine h_icmp_gt (tgt := 2360) C dL_24 (by decide) ⟨by decide, by decide⟩ ⟨by decide, by decide⟩ (fun h9 => ?_) (fun h9 => ?_)
    · refine h_iconst C dL_2360 ?_
      exact h_lawret C hr hk dL_2361
    · exfalso; omega
  · exfalso; omega
set_option maxHeartbeats 4000000 in
set_option maxRecDepth 20000 in
theorem law_44 {p : Program} {e : Env} {s : State} {m : MethodId} {below : List Frame} {meth : Method} {c : Code} (l : Launch) {b : Nat} {xs : Nat → Int32} {D : va_G} {cy : Nat → ClassId} (C : hpC p s m #[.ref b] c code 4 RL D cy) (hr : meth.sig.returnType = ret) (hk : meth.locks = false) (hX : va_X b 6 xs s s.heap) (hbl : b < s.heap.size) : hpV p l e room_1 s m #[.ref b] below meth c 217 24316 4 D cy s.heap.size s.heap (lw_Z below #[Value.ref b] s) hp0 1428 [(3, .int (hpI 0)), (2, .ref (s.heap.size + 195)), (1, .ref (s.heap.size + 0)), (0, .ref b)] [] := by
  refine h_aload_n C dL_1428 2 rfl rfl ?_
  refine h_aload_n C dL_1429 3 rfl rfl ?_
  refine h_iload_n C dL_1430 0 rfl rfl ?_
  refine h_iconst C dL_1431 ?_
  refine h_iadd (r := 1) C dL_1432 (by decide) ?_
  refine h_sld C hX hbl 1 rfl (by decide) dL_1433 ?_
  obtain ⟨hq1a, hq1b⟩ := hpR_of (xs 1)
  generalize ev1 : (xs 1).toInt = v1 at hq1a hq1b ⊢
  refine h_aload_n C dL_1434 3 rfl rfl ?_
  refine h_iload_n C dL_1435 0 rfl rfl ?_
  refine h_iconst C dL_1436 ?_
  refine h_iadd (r := 2) C dL_1437 (by decide) ?_
  refine h_sld C hX hbl 2 rfl (by decide) dL_1438 ?_
  obtain ⟨hq2a, hq2b⟩ := hpR_of (xs 2)
  generalize ev2 : (xs 2).toInt = v2 at hq2a hq2b ⊢
  refine h_callV (As := [.int (hpI v1), .int (hpI v2)]) (rest := []) C yyX8_greatest wd_1012 (tX8_greatest l D cy s.heap.size _ v1 ⟨by omega, by omega⟩ v2 ⟨by omega, by omega⟩ rfl) kd_0 rfl rfl ⟨rfl, rfl, Nat.le_of_ble_eq_true rfl, Nat.le_of_ble_eq_true rfl⟩ ⟨Nat.le_of_ble_eq_true rfl, Nat.le_of_ble_eq_true rfl⟩ (Nat.le_of_ble_eq_true rfl) dL_1439 (fun r3 τ3 hp3 => ?_)
  obtain ⟨rfl, rfl⟩ := hp3
  show hpV _ _ _ _ _ _ _ _ _ _ _ _ _ _ _ _ _ _ _ _ _ (_ :: _)
  refine h_aload_n C dL_1442 1 rfl rfl ?_
  refine h_aload_n C dL_1443 3 rfl rfl ?_
  refine h_iload_n C dL_1444 0 rfl rfl ?_
  refine h_iconst C dL_1445 ?_
  refine h_iadd (r := 1) C dL_1446 (by decide) ?_
  refine h_sld C hX hbl 1 rfl (by decide) dL_1447 ?_
  rw [ev1]
  refine h_aload_n C dL_1448 3 rfl rfl ?_
  refine h_iload_n C dL_1449 0 rfl rfl ?_
  refine h_iconst C dL_1450 ?_
  refine h_iadd (r := 2) C dL_1451 (by decide) ?_
  refine h_sld C hX hbl 2 rfl (by decide) dL_1452 ?_
  rw [ev2]
  refine h_callV (As := [.int (hpI v1), .int (hpI v2)]) (rest := [.int (hpI (-2))]) C yyX9_greatest wd_1836 (tX9_greatest l D cy s.heap.size _ v1 ⟨by omega, by omega⟩ v2 ⟨by omega, by omega⟩ (fun i => ((fun i => hp0_z (by decide) (by decide) (by decide) (by decide) (by decide)) i))) kd_195 rfl rfl ⟨rfl, rfl, Nat.le_of_ble_eq_true rfl, Nat.le_of_ble_eq_true rfl⟩ ⟨Nat.le_of_ble_eq_true rfl, Nat.le_of_ble_eq_true rfl⟩ (Nat.le_of_ble_eq_true rfl) dL_1453 (fun r6 τ6 hp6 => ?_)
  obtain ⟨rfl, rfl⟩ := hp6
  show hpV _ _ _ _ _ _ _ _ _ _ _ _ _ _ _ _ _ _ _ _ _ (_ :: _)
  refine h_icmp_eq (tgt := 2354) C dL_1456 (by decide) ⟨by decide, by decide⟩ ⟨by decide, by decide⟩ (fun h7 => ?_) (fun h7 => ?_)
  · refine h_iinc (lv' := [(3, .int (hpI 6)), (2, .ref (s.heap.size + 195)), (1, .ref (s.heap.size + 0)), (0, .ref b)]) C dL_2354 0 rfl rfl (by decide) rfl ?_
    refine h_goto (tgt := 18) C dL_2357 (by decide) ?_
    refine h_iload_n C dL_18 0 rfl rfl ?_
    refine h_aload_n C dL_19 3 rfl rfl ?_
    refine h_slen C hX hbl dL_20 ?_
    refine h_bipush C dL_21 (by decide) ?_
    refine h_isub (r := 0) C dL_23 (by decide) ?_
    refine h_icmp_gt (tgt := 2360) C dL_24 (by decide) ⟨by decide, by decide⟩ ⟨by decide, by decide⟩ (fun h9 => ?_) (fun h9 => ?_)
    · refine h_iconst C dL_2360 ?_
      exact h_lawret C hr hk dL_2361
    · exfalso; omega
  · exfalso; omega
set_option maxHeartbeats 4000000 in
set_option maxRecDepth 20000 in
theorem law_45 {p : Program} {e : Env} {s : State} {m : MethodId} {below : List Frame} {meth : Method} {c : Code} (l : Launch) {b : Nat} {xs : Nat → Int32} {D : va_G} {cy : Nat → ClassId} (C : hpC p s m #[.ref b] c code 4 RL D cy) (hr : meth.sig.returnType = ret) (hk : meth.locks = false) (hX : va_X b 6 xs s s.heap) (hbl : b < s.heap.size) : hpV p l e room_1 s m #[.ref b] below meth c 217 24316 4 D cy s.heap.size s.heap (lw_Z below #[Value.ref b] s) hp0 1461 [(3, .int (hpI 0)), (2, .ref (s.heap.size + 195)), (1, .ref (s.heap.size + 0)), (0, .ref b)] [] := by
  refine h_aload_n C dL_1461 2 rfl rfl ?_
  refine h_aload_n C dL_1462 3 rfl rfl ?_
  refine h_iload_n C dL_1463 0 rfl rfl ?_
  refine h_iconst C dL_1464 ?_
  refine h_iadd (r := 1) C dL_1465 (by decide) ?_
  refine h_sld C hX hbl 1 rfl (by decide) dL_1466 ?_
  obtain ⟨hq1a, hq1b⟩ := hpR_of (xs 1)
  generalize ev1 : (xs 1).toInt = v1 at hq1a hq1b ⊢
  refine h_aload_n C dL_1467 3 rfl rfl ?_
  refine h_iload_n C dL_1468 0 rfl rfl ?_
  refine h_iconst C dL_1469 ?_
  refine h_iadd (r := 2) C dL_1470 (by decide) ?_
  refine h_sld C hX hbl 2 rfl (by decide) dL_1471 ?_
  obtain ⟨hq2a, hq2b⟩ := hpR_of (xs 2)
  generalize ev2 : (xs 2).toInt = v2 at hq2a hq2b ⊢
  refine h_callV (As := [.int (hpI v1), .int (hpI v2)]) (rest := []) C yyX8_ask wd_1020 (tX8_ask l D cy s.heap.size _ v1 ⟨by omega, by omega⟩ v2 ⟨by omega, by omega⟩ rfl) kd_0 rfl rfl ⟨rfl, rfl, Nat.le_of_ble_eq_true rfl, Nat.le_of_ble_eq_true rfl⟩ ⟨Nat.le_of_ble_eq_true rfl, Nat.le_of_ble_eq_true rfl⟩ (Nat.le_of_ble_eq_true rfl) dL_1472 (fun r3 τ3 hp3 => ?_)
  obtain ⟨rfl, rfl⟩ := hp3
  show hpV _ _ _ _ _ _ _ _ _ _ _ _ _ _ _ _ _ _ _ _ _ (_ :: _)
  refine h_aload_n C dL_1475 1 rfl rfl ?_
  refine h_aload_n C dL_1476 3 rfl rfl ?_
  refine h_iload_n C dL_1477 0 rfl rfl ?_
  refine h_iconst C dL_1478 ?_
  refine h_iadd (r := 1) C dL_1479 (by decide) ?_
  refine h_sld C hX hbl 1 rfl (by decide) dL_1480 ?_
  rw [ev1]
  refine h_aload_n C dL_1481 3 rfl rfl ?_
  refine h_iload_n C dL_1482 0 rfl rfl ?_
  refine h_iconst C dL_1483 ?_
  refine h_iadd (r := 2) C dL_1484 (by decide) ?_
  refine h_sld C hX hbl 2 rfl (by decide) dL_1485 ?_
  rw [ev2]
  refine h_callV (As := [.int (hpI v1), .int (hpI v2)]) (rest := [.int (hpI (-2))]) C yyX9_ask wd_1840 (tX9_ask l D cy s.heap.size _ v1 ⟨by omega, by omega⟩ v2 ⟨by omega, by omega⟩ (fun i => ((fun i => hp0_z (by decide) (by decide) (by decide) (by decide) (by decide)) i))) kd_195 rfl rfl ⟨rfl, rfl, Nat.le_of_ble_eq_true rfl, Nat.le_of_ble_eq_true rfl⟩ ⟨Nat.le_of_ble_eq_true rfl, Nat.le_of_ble_eq_true rfl⟩ (Nat.le_of_ble_eq_true rfl) dL_1486 (fun r6 τ6 hp6 => ?_)
  obtain ⟨rfl, rfl⟩ := hp6
  show hpV _ _ _ _ _ _ _ _ _ _ _ _ _ _ _ _ _ _ _ _ _ (_ :: _)
  refine h_icmp_eq (tgt := 2354) C dL_1489 (by decide) ⟨by decide, by decide⟩ ⟨by decide, by decide⟩ (fun h7 => ?_) (fun h7 => ?_)
  · refine h_iinc (lv' := [(3, .int (hpI 6)), (2, .ref (s.heap.size + 195)), (1, .ref (s.heap.size + 0)), (0, .ref b)]) C dL_2354 0 rfl rfl (by decide) rfl ?_
    refine h_goto (tgt := 18) C dL_2357 (by decide) ?_
    refine h_iload_n C dL_18 0 rfl rfl ?_
    refine h_aload_n C dL_19 3 rfl rfl ?_
    refine h_slen C hX hbl dL_20 ?_
    refine h_bipush C dL_21 (by decide) ?_
    refine h_isub (r := 0) C dL_23 (by decide) ?_
    refine h_icmp_gt (tgt := 2360) C dL_24 (by decide) ⟨by decide, by decide⟩ ⟨by decide, by decide⟩ (fun h9 => ?_) (fun h9 => ?_)
    · refine h_iconst C dL_2360 ?_
      exact h_lawret C hr hk dL_2361
    · exfalso; omega
  · exfalso; omega
set_option maxHeartbeats 4000000 in
set_option maxRecDepth 20000 in
theorem law_46 {p : Program} {e : Env} {s : State} {m : MethodId} {below : List Frame} {meth : Method} {c : Code} (l : Launch) {b : Nat} {xs : Nat → Int32} {D : va_G} {cy : Nat → ClassId} (C : hpC p s m #[.ref b] c code 4 RL D cy) (hr : meth.sig.returnType = ret) (hk : meth.locks = false) (hX : va_X b 6 xs s s.heap) (hbl : b < s.heap.size) : hpV p l e room_1 s m #[.ref b] below meth c 217 24316 4 D cy s.heap.size s.heap (lw_Z below #[Value.ref b] s) hp0 1494 [(3, .int (hpI 0)), (2, .ref (s.heap.size + 195)), (1, .ref (s.heap.size + 0)), (0, .ref b)] [] := by
  refine h_aload_n C dL_1494 2 rfl rfl ?_
  refine h_aload_n C dL_1495 3 rfl rfl ?_
  refine h_iload_n C dL_1496 0 rfl rfl ?_
  refine h_iconst C dL_1497 ?_
  refine h_iadd (r := 1) C dL_1498 (by decide) ?_
  refine h_sld C hX hbl 1 rfl (by decide) dL_1499 ?_
  obtain ⟨hq1a, hq1b⟩ := hpR_of (xs 1)
  generalize ev1 : (xs 1).toInt = v1 at hq1a hq1b ⊢
  refine h_aload_n C dL_1500 3 rfl rfl ?_
  refine h_iload_n C dL_1501 0 rfl rfl ?_
  refine h_iconst C dL_1502 ?_
  refine h_iadd (r := 2) C dL_1503 (by decide) ?_
  refine h_sld C hX hbl 2 rfl (by decide) dL_1504 ?_
  obtain ⟨hq2a, hq2b⟩ := hpR_of (xs 2)
  generalize ev2 : (xs 2).toInt = v2 at hq2a hq2b ⊢
  refine h_callV (As := [.int (hpI v1), .int (hpI v2)]) (rest := []) C yyX8_leaves wd_1033 (tX8_leaves l D cy s.heap.size _ v1 ⟨by omega, by omega⟩ v2 ⟨by omega, by omega⟩ rfl) kd_0 rfl rfl ⟨rfl, rfl, Nat.le_of_ble_eq_true rfl, Nat.le_of_ble_eq_true rfl⟩ ⟨Nat.le_of_ble_eq_true rfl, Nat.le_of_ble_eq_true rfl⟩ (Nat.le_of_ble_eq_true rfl) dL_1505 (fun r3 τ3 hp3 => ?_)
  obtain ⟨rfl, rfl⟩ := hp3
  show hpV _ _ _ _ _ _ _ _ _ _ _ _ _ _ _ _ _ _ _ _ _ (_ :: _)
  refine h_aload_n C dL_1508 1 rfl rfl ?_
  refine h_aload_n C dL_1509 3 rfl rfl ?_
  refine h_iload_n C dL_1510 0 rfl rfl ?_
  refine h_iconst C dL_1511 ?_
  refine h_iadd (r := 1) C dL_1512 (by decide) ?_
  refine h_sld C hX hbl 1 rfl (by decide) dL_1513 ?_
  rw [ev1]
  refine h_aload_n C dL_1514 3 rfl rfl ?_
  refine h_iload_n C dL_1515 0 rfl rfl ?_
  refine h_iconst C dL_1516 ?_
  refine h_iadd (r := 2) C dL_1517 (by decide) ?_
  refine h_sld C hX hbl 2 rfl (by decide) dL_1518 ?_
  rw [ev2]
  refine h_callV (As := [.int (hpI v1), .int (hpI v2)]) (rest := [.int (hpI (-2))]) C yyX9_leaves wd_1852 (tX9_leaves l D cy s.heap.size _ v1 ⟨by omega, by omega⟩ v2 ⟨by omega, by omega⟩ (fun i => ((fun i => hp0_z (by decide) (by decide) (by decide) (by decide) (by decide)) i))) kd_195 rfl rfl ⟨rfl, rfl, Nat.le_of_ble_eq_true rfl, Nat.le_of_ble_eq_true rfl⟩ ⟨Nat.le_of_ble_eq_true rfl, Nat.le_of_ble_eq_true rfl⟩ (Nat.le_of_ble_eq_true rfl) dL_1519 (fun r6 τ6 hp6 => ?_)
  obtain ⟨rfl, rfl⟩ := hp6
  show hpV _ _ _ _ _ _ _ _ _ _ _ _ _ _ _ _ _ _ _ _ _ (_ :: _)
  refine h_icmp_eq (tgt := 2354) C dL_1522 (by decide) ⟨by decide, by decide⟩ ⟨by decide, by decide⟩ (fun h7 => ?_) (fun h7 => ?_)
  · refine h_iinc (lv' := [(3, .int (hpI 6)), (2, .ref (s.heap.size + 195)), (1, .ref (s.heap.size + 0)), (0, .ref b)]) C dL_2354 0 rfl rfl (by decide) rfl ?_
    refine h_goto (tgt := 18) C dL_2357 (by decide) ?_
    refine h_iload_n C dL_18 0 rfl rfl ?_
    refine h_aload_n C dL_19 3 rfl rfl ?_
    refine h_slen C hX hbl dL_20 ?_
    refine h_bipush C dL_21 (by decide) ?_
    refine h_isub (r := 0) C dL_23 (by decide) ?_
    refine h_icmp_gt (tgt := 2360) C dL_24 (by decide) ⟨by decide, by decide⟩ ⟨by decide, by decide⟩ (fun h9 => ?_) (fun h9 => ?_)
    · refine h_iconst C dL_2360 ?_
      exact h_lawret C hr hk dL_2361
    · exfalso; omega
  · exfalso; omega
set_option maxHeartbeats 4000000 in
set_option maxRecDepth 20000 in
theorem law_47 {p : Program} {e : Env} {s : State} {m : MethodId} {below : List Frame} {meth : Method} {c : Code} (l : Launch) {b : Nat} {xs : Nat → Int32} {D : va_G} {cy : Nat → ClassId} (C : hpC p s m #[.ref b] c code 4 RL D cy) (hr : meth.sig.returnType = ret) (hk : meth.locks = false) (hX : va_X b 6 xs s s.heap) (hbl : b < s.heap.size) : hpV p l e room_1 s m #[.ref b] below meth c 217 24316 4 D cy s.heap.size s.heap (lw_Z below #[Value.ref b] s) hp0 1527 [(3, .int (hpI 0)), (2, .ref (s.heap.size + 195)), (1, .ref (s.heap.size + 0)), (0, .ref b)] [] := by
  refine h_aload_n C dL_1527 2 rfl rfl ?_
  refine h_aload_n C dL_1528 3 rfl rfl ?_
  refine h_iload_n C dL_1529 0 rfl rfl ?_
  refine h_iconst C dL_1530 ?_
  refine h_iadd (r := 1) C dL_1531 (by decide) ?_
  refine h_sld C hX hbl 1 rfl (by decide) dL_1532 ?_
  obtain ⟨hq1a, hq1b⟩ := hpR_of (xs 1)
  generalize ev1 : (xs 1).toInt = v1 at hq1a hq1b ⊢
  refine h_callV (As := [.int (hpI v1)]) (rest := []) C yyX8_laws wd_1042 (tX8_laws l D cy s.heap.size _ v1 ⟨by omega, by omega⟩ rfl) kd_0 rfl rfl ⟨rfl, rfl, Nat.le_of_ble_eq_true rfl, Nat.le_of_ble_eq_true rfl⟩ ⟨Nat.le_of_ble_eq_true rfl, Nat.le_of_ble_eq_true rfl⟩ (Nat.le_of_ble_eq_true rfl) dL_1533 (fun r2 τ2 hp2 => ?_)
  obtain ⟨rfl, rfl⟩ := hp2
  show hpV _ _ _ _ _ _ _ _ _ _ _ _ _ _ _ _ _ _ _ _ _ (_ :: _)
  refine h_aload_n C dL_1536 1 rfl rfl ?_
  refine h_aload_n C dL_1537 3 rfl rfl ?_
  refine h_iload_n C dL_1538 0 rfl rfl ?_
  refine h_iconst C dL_1539 ?_
  refine h_iadd (r := 1) C dL_1540 (by decide) ?_
  refine h_sld C hX hbl 1 rfl (by decide) dL_1541 ?_
  rw [ev1]
  refine h_callV (As := [.int (hpI v1)]) (rest := [.int (hpI (-2))]) C yyX9_laws wd_1856 (tX9_laws l D cy s.heap.size _ v1 ⟨by omega, by omega⟩ (fun i => ((fun i => hp0_z (by decide) (by decide) (by decide) (by decide) (by decide)) i))) kd_195 rfl rfl ⟨rfl, rfl, Nat.le_of_ble_eq_true rfl, Nat.le_of_ble_eq_true rfl⟩ ⟨Nat.le_of_ble_eq_true rfl, Nat.le_of_ble_eq_true rfl⟩ (Nat.le_of_ble_eq_true rfl) dL_1542 (fun r4 τ4 hp4 => ?_)
  obtain ⟨rfl, rfl⟩ := hp4
  show hpV _ _ _ _ _ _ _ _ _ _ _ _ _ _ _ _ _ _ _ _ _ (_ :: _)
  refine h_icmp_eq (tgt := 2354) C dL_1545 (by decide) ⟨by decide, by decide⟩ ⟨by decide, by decide⟩ (fun h5 => ?_) (fun h5 => ?_)
  · refine h_iinc (lv' := [(3, .int (hpI 6)), (2, .ref (s.heap.size + 195)), (1, .ref (s.heap.size + 0)), (0, .ref b)]) C dL_2354 0 rfl rfl (by decide) rfl ?_
    refine h_goto (tgt := 18) C dL_2357 (by decide) ?_
    refine h_iload_n C dL_18 0 rfl rfl ?_
    refine h_aload_n C dL_19 3 rfl rfl ?_
    refine h_slen C hX hbl dL_20 ?_
    refine h_bipush C dL_21 (by decide) ?_
    refine h_isub (r := 0) C dL_23 (by decide) ?_
    refine h_icmp_gt (tgt := 2360) C dL_24 (by decide) ⟨by decide, by decide⟩ ⟨by decide, by decide⟩ (fun h7 => ?_) (fun h7 => ?_)
    · refine h_iconst C dL_2360 ?_
      exact h_lawret C hr hk dL_2361
    · exfalso; omega
  · exfalso; omega
set_option maxHeartbeats 4000000 in
set_option maxRecDepth 20000 in
theorem law_48 {p : Program} {e : Env} {s : State} {m : MethodId} {below : List Frame} {meth : Method} {c : Code} (l : Launch) {b : Nat} {xs : Nat → Int32} {D : va_G} {cy : Nat → ClassId} (C : hpC p s m #[.ref b] c code 4 RL D cy) (hr : meth.sig.returnType = ret) (hk : meth.locks = false) (hX : va_X b 6 xs s s.heap) (hbl : b < s.heap.size) : hpV p l e room_1 s m #[.ref b] below meth c 217 24316 4 D cy s.heap.size s.heap (lw_Z below #[Value.ref b] s) hp0 1550 [(3, .int (hpI 0)), (2, .ref (s.heap.size + 195)), (1, .ref (s.heap.size + 0)), (0, .ref b)] [] := by
  refine h_aload_n C dL_1550 2 rfl rfl ?_
  refine h_aload_n C dL_1551 3 rfl rfl ?_
  refine h_iload_n C dL_1552 0 rfl rfl ?_
  refine h_iconst C dL_1553 ?_
  refine h_iadd (r := 1) C dL_1554 (by decide) ?_
  refine h_sld C hX hbl 1 rfl (by decide) dL_1555 ?_
  obtain ⟨hq1a, hq1b⟩ := hpR_of (xs 1)
  generalize ev1 : (xs 1).toInt = v1 at hq1a hq1b ⊢
  refine h_callV (As := [.int (hpI v1)]) (rest := []) C yyX8_by wd_1050 (tX8_by l D cy s.heap.size _ v1 ⟨by omega, by omega⟩ rfl) kd_0 rfl rfl ⟨rfl, rfl, Nat.le_of_ble_eq_true rfl, Nat.le_of_ble_eq_true rfl⟩ ⟨Nat.le_of_ble_eq_true rfl, Nat.le_of_ble_eq_true rfl⟩ (Nat.le_of_ble_eq_true rfl) dL_1556 (fun r2 τ2 hp2 => ?_)
  obtain ⟨rfl, rfl⟩ := hp2
  show hpV _ _ _ _ _ _ _ _ _ _ _ _ _ _ _ _ _ _ _ _ _ (_ :: _)
  refine h_aload_n C dL_1559 1 rfl rfl ?_
  refine h_aload_n C dL_1560 3 rfl rfl ?_
  refine h_iload_n C dL_1561 0 rfl rfl ?_
  refine h_iconst C dL_1562 ?_
  refine h_iadd (r := 1) C dL_1563 (by decide) ?_
  refine h_sld C hX hbl 1 rfl (by decide) dL_1564 ?_
  rw [ev1]
  refine h_callV (As := [.int (hpI v1)]) (rest := [.int (hpI (-2))]) C yyX9_by wd_1860 (tX9_by l D cy s.heap.size _ v1 ⟨by omega, by omega⟩ (fun i => ((fun i => hp0_z (by decide) (by decide) (by decide) (by decide) (by decide)) i))) kd_195 rfl rfl ⟨rfl, rfl, Nat.le_of_ble_eq_true rfl, Nat.le_of_ble_eq_true rfl⟩ ⟨Nat.le_of_ble_eq_true rfl, Nat.le_of_ble_eq_true rfl⟩ (Nat.le_of_ble_eq_true rfl) dL_1565 (fun r4 τ4 hp4 => ?_)
  obtain ⟨rfl, hF4⟩ := hp4
  show hpV _ _ _ _ _ _ _ _ _ _ _ _ _ _ _ _ _ _ _ _ _ (_ :: _)
  refine h_icmp_eq (tgt := 2354) C dL_1568 (by decide) ⟨by decide, by decide⟩ ⟨by decide, by decide⟩ (fun h5 => ?_) (fun h5 => ?_)
  · refine h_iinc (lv' := [(3, .int (hpI 6)), (2, .ref (s.heap.size + 195)), (1, .ref (s.heap.size + 0)), (0, .ref b)]) C dL_2354 0 rfl rfl (by decide) rfl ?_
    refine h_goto (tgt := 18) C dL_2357 (by decide) ?_
    refine h_iload_n C dL_18 0 rfl rfl ?_
    refine h_aload_n C dL_19 3 rfl rfl ?_
    refine h_slen C hX hbl dL_20 ?_
    refine h_bipush C dL_21 (by decide) ?_
    refine h_isub (r := 0) C dL_23 (by decide) ?_
    refine h_icmp_gt (tgt := 2360) C dL_24 (by decide) ⟨by decide, by decide⟩ ⟨by decide, by decide⟩ (fun h7 => ?_) (fun h7 => ?_)
    · refine h_iconst C dL_2360 ?_
      exact h_lawret C hr hk dL_2361
    · exfalso; omega
  · exfalso; omega
set_option maxHeartbeats 4000000 in
set_option maxRecDepth 20000 in
theorem law_49 {p : Program} {e : Env} {s : State} {m : MethodId} {below : List Frame} {meth : Method} {c : Code} (l : Launch) {b : Nat} {xs : Nat → Int32} {D : va_G} {cy : Nat → ClassId} (C : hpC p s m #[.ref b] c code 4 RL D cy) (hr : meth.sig.returnType = ret) (hk : meth.locks = false) (hX : va_X b 6 xs s s.heap) (hbl : b < s.heap.size) : hpV p l e room_1 s m #[.ref b] below meth c 217 24316 4 D cy s.heap.size s.heap (lw_Z below #[Value.ref b] s) hp0 1573 [(3, .int (hpI 0)), (2, .ref (s.heap.size + 195)), (1, .ref (s.heap.size + 0)), (0, .ref b)] [] := by
  refine h_aload_n C dL_1573 2 rfl rfl ?_
  refine h_callV (As := []) (rest := []) C yyX8_law wd_1054 (tX8_law l D cy s.heap.size _ rfl) kd_0 rfl rfl ⟨rfl, rfl, Nat.le_of_ble_eq_true rfl, Nat.le_of_ble_eq_true rfl⟩ ⟨Nat.le_of_ble_eq_true rfl, Nat.le_of_ble_eq_true rfl⟩ (Nat.le_of_ble_eq_true rfl) dL_1574 (fun r1 τ1 hp1 => ?_)
  obtain ⟨rfl, rfl⟩ := hp1
  show hpV _ _ _ _ _ _ _ _ _ _ _ _ _ _ _ _ _ _ _ _ _ (_ :: _)
  refine h_aload_n C dL_1577 1 rfl rfl ?_
  refine h_callV (As := []) (rest := [.int (hpI (-2))]) C yyX9_law wd_1868 (tX9_law l D cy s.heap.size _ (fun i => ((fun i => hp0_z (by decide) (by decide) (by decide) (by decide) (by decide)) i))) kd_195 rfl rfl ⟨rfl, rfl, Nat.le_of_ble_eq_true rfl, Nat.le_of_ble_eq_true rfl⟩ ⟨Nat.le_of_ble_eq_true rfl, Nat.le_of_ble_eq_true rfl⟩ (Nat.le_of_ble_eq_true rfl) dL_1578 (fun r2 τ2 hp2 => ?_)
  obtain ⟨rfl, hF2⟩ := hp2
  show hpV _ _ _ _ _ _ _ _ _ _ _ _ _ _ _ _ _ _ _ _ _ (_ :: _)
  refine h_icmp_eq (tgt := 2354) C dL_1581 (by decide) ⟨by decide, by decide⟩ ⟨by decide, by decide⟩ (fun h3 => ?_) (fun h3 => ?_)
  · refine h_iinc (lv' := [(3, .int (hpI 6)), (2, .ref (s.heap.size + 195)), (1, .ref (s.heap.size + 0)), (0, .ref b)]) C dL_2354 0 rfl rfl (by decide) rfl ?_
    refine h_goto (tgt := 18) C dL_2357 (by decide) ?_
    refine h_iload_n C dL_18 0 rfl rfl ?_
    refine h_aload_n C dL_19 3 rfl rfl ?_
    refine h_slen C hX hbl dL_20 ?_
    refine h_bipush C dL_21 (by decide) ?_
    refine h_isub (r := 0) C dL_23 (by decide) ?_
    refine h_icmp_gt (tgt := 2360) C dL_24 (by decide) ⟨by decide, by decide⟩ ⟨by decide, by decide⟩ (fun h5 => ?_) (fun h5 => ?_)
    · refine h_iconst C dL_2360 ?_
      exact h_lawret C hr hk dL_2361
    · exfalso; omega
  · exfalso; omega

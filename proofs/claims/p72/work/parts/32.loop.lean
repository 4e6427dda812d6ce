set_option maxHeartbeats 4000000 in
set_option maxRecDepth 20000 in
theorem law_loop {p : Program} {e : Env} {s : State} {m : MethodId} {below : List Frame} {meth : Method} {c : Code} (l : Launch) {b L : Nat} {xs : Nat → Int32} {D : va_G} {cy : Nat → ClassId} (C : hpC p s m #[.ref b] c code 4 RL D cy) (Z : hpStr s.heap.size cy s s.heap) (hr : meth.sig.returnType = ret) (hk : meth.locks = false) (hX : va_X b L xs s s.heap) (hbl : b < s.heap.size) (hL : L ≤ 3072) : ∀ (n : Nat) (σ : hpMem) (i : Int), hpInv σ → hpR72 σ → 0 ≤ i → i ≤ 3072 → 3073 - i < (n : Int) → hpV p l e room_1 s m #[.ref b] below meth c 217 24316 4 D cy s.heap.size s.heap (lw_Z below #[Value.ref b] s) σ 18 [(3, .int (hpI i)), (2, .ref (s.heap.size + 195)), (1, .ref (s.heap.size + 0)), (0, .ref b)] [] := by
  intro n
  induction n with
  | zero => intro σ i hI hR h0 h1 hm; exfalso; omega
  | succ n ih =>
    intro σ i hI hR h0 h1 hm
    refine h_iload_n C dL_18 0 rfl rfl ?_
    refine h_aload_n C dL_19 3 rfl rfl ?_
    refine h_slenL C hX hbl dL_20 ?_
    refine h_bipush C dL_21 (by decide) ?_
    refine h_isub C dL_23 rfl ?_
    refine h_icmp_gt (tgt := 2358) C dL_24 (by decide) ⟨by omega, by omega⟩ ⟨by omega, by omega⟩ (fun h => ?_) (fun h => ?_)
    · refine h_iconst C dL_2358 ?_
      exact h_lawret C hr hk dL_2359
    · refine h_aload_n C dL_27 3 rfl rfl ?_
      refine h_iload_n C dL_28 0 rfl rfl ?_
      refine h_sldL C hX hbl i.toNat (Int.toNat_of_nonneg (by omega)) (by omega) (by omega) dL_29 ?_
      refine h_bipush C dL_30 (by decide) ?_
      refine h_and127 C dL_32 (fun r hra hrb => ?_)
      have K : ∀ τ : hpMem, hpInv τ → hpR72 τ → hpV p l e room_1 s m #[.ref b] below meth c 217 24316 4 D cy s.heap.size s.heap (lw_Z below #[Value.ref b] s) τ 2352 [(3, .int (hpI i)), (2, .ref (s.heap.size + 195)), (1, .ref (s.heap.size + 0)), (0, .ref b)] [] := fun τ hI2 hR2 => by
        refine h_iinc (lv' := [(3, .int (hpI (i + 6))), (2, .ref (s.heap.size + 195)), (1, .ref (s.heap.size + 0)), (0, .ref b)]) C dL_2352 0 rfl rfl (by decide) rfl ?_
        refine h_goto (tgt := 18) C dL_2355 (by decide) ?_
        exact ih τ (i + 6) hI2 hR2 (by omega) (by omega) (by omega)
      rcases (show r = 0 ∨ r = 1 ∨ r = 2 ∨ r = 3 ∨ r = 4 ∨ r = 5 ∨ r = 6 ∨ r = 7 ∨ r = 8 ∨ r = 9 ∨ r = 10 ∨ r = 11 ∨ r = 12 ∨ r = 13 ∨ r = 14 ∨ r = 15 ∨ r = 16 ∨ r = 17 ∨ r = 18 ∨ r = 19 ∨ r = 20 ∨ r = 21 ∨ r = 22 ∨ r = 23 ∨ r = 24 ∨ r = 25 ∨ r = 26 ∨ r = 27 ∨ r = 28 ∨ r = 29 ∨ r = 30 ∨ r = 31 ∨ r = 32 ∨ r = 33 ∨ r = 34 ∨ r = 35 ∨ r = 36 ∨ r = 37 ∨ r = 38 ∨ r = 39 ∨ r = 40 ∨ r = 41 ∨ r = 42 ∨ r = 43 ∨ r = 44 ∨ r = 45 ∨ r = 46 ∨ r = 47 ∨ r = 48 ∨ r = 49 ∨ r = 50 ∨ r = 51 ∨ r = 52 ∨ r = 53 ∨ r = 54 ∨ r = 55 ∨ r = 56 ∨ r = 57 ∨ r = 58 ∨ r = 59 ∨ r = 60 ∨ r = 61 ∨ r = 62 ∨ r = 63 ∨ r = 64 ∨ r = 65 ∨ r = 66 ∨ r = 67 ∨ r = 68 ∨ r = 69 ∨ r = 70 ∨ r = 71 ∨ 71 < r by omega) with rfl | rfl | rfl | rfl | rfl | rfl | rfl | rfl | rfl | rfl | rfl | rfl | rfl | rfl | rfl | rfl | rfl | rfl | rfl | rfl | rfl | rfl | rfl | rfl | rfl | rfl | rfl | rfl | rfl | rfl | rfl | rfl | rfl | rfl | rfl | rfl | rfl | rfl | rfl | rfl | rfl | rfl | rfl | rfl | rfl | rfl | rfl | rfl | rfl | rfl | rfl | rfl | rfl | rfl | rfl | rfl | rfl | rfl | rfl | rfl | rfl | rfl | rfl | rfl | rfl | rfl | rfl | rfl | rfl | rfl | rfl | rfl | h_out
      · refine h_tableIn (tgt := 336) C dL_33 ⟨by decide, by decide⟩ (by decide) (by decide) rfl (by decide) ?_
        exact law_0 l C Z hr hk hX hbl hL σ hI hR i h0 (by omega) K
      · refine h_tableIn (tgt := 399) C dL_33 ⟨by decide, by decide⟩ (by decide) (by decide) rfl (by decide) ?_
        exact law_1 l C Z hr hk hX hbl hL σ hI hR i h0 (by omega) K
      · refine h_tableIn (tgt := 422) C dL_33 ⟨by decide, by decide⟩ (by decide) (by decide) rfl (by decide) ?_
        exact law_2 l C Z hr hk hX hbl hL σ hI hR i h0 (by omega) K
      · refine h_tableIn (tgt := 435) C dL_33 ⟨by decide, by decide⟩ (by decide) (by decide) rfl (by decide) ?_
        exact law_3 l C Z hr hk hX hbl hL σ hI hR i h0 (by omega) K
      · refine h_tableIn (tgt := 458) C dL_33 ⟨by decide, by decide⟩ (by decide) (by decide) rfl (by decide) ?_
        exact law_4 l C Z hr hk hX hbl hL σ hI hR i h0 (by omega) K
      · refine h_tableIn (tgt := 481) C dL_33 ⟨by decide, by decide⟩ (by decide) (by decide) rfl (by decide) ?_
        exact law_5 l C Z hr hk hX hbl hL σ hI hR i h0 (by omega) K
      · refine h_tableIn (tgt := 514) C dL_33 ⟨by decide, by decide⟩ (by decide) (by decide) rfl (by decide) ?_
        exact law_6 l C Z hr hk hX hbl hL σ hI hR i h0 (by omega) K
      · refine h_tableIn (tgt := 537) C dL_33 ⟨by decide, by decide⟩ (by decide) (by decide) rfl (by decide) ?_
        exact law_7 l C Z hr hk hX hbl hL σ hI hR i h0 (by omega) K
      · refine h_tableIn (tgt := 570) C dL_33 ⟨by decide, by decide⟩ (by decide) (by decide) rfl (by decide) ?_
        exact law_8 l C Z hr hk hX hbl hL σ hI hR i h0 (by omega) K
      · refine h_tableIn (tgt := 593) C dL_33 ⟨by decide, by decide⟩ (by decide) (by decide) rfl (by decide) ?_
        exact law_9 l C Z hr hk hX hbl hL σ hI hR i h0 (by omega) K
      · refine h_tableIn (tgt := 626) C dL_33 ⟨by decide, by decide⟩ (by decide) (by decide) rfl (by decide) ?_
        exact law_10 l C Z hr hk hX hbl hL σ hI hR i h0 (by omega) K
      · refine h_tableIn (tgt := 649) C dL_33 ⟨by decide, by decide⟩ (by decide) (by decide) rfl (by decide) ?_
        exact law_11 l C Z hr hk hX hbl hL σ hI hR i h0 (by omega) K
      · refine h_tableIn (tgt := 672) C dL_33 ⟨by decide, by decide⟩ (by decide) (by decide) rfl (by decide) ?_
        exact law_12 l C Z hr hk hX hbl hL σ hI hR i h0 (by omega) K
      · refine h_tableIn (tgt := 695) C dL_33 ⟨by decide, by decide⟩ (by decide) (by decide) rfl (by decide) ?_
        exact law_13 l C Z hr hk hX hbl hL σ hI hR i h0 (by omega) K
      · refine h_tableIn (tgt := 718) C dL_33 ⟨by decide, by decide⟩ (by decide) (by decide) rfl (by decide) ?_
        exact law_14 l C Z hr hk hX hbl hL σ hI hR i h0 (by omega) K
      · refine h_tableIn (tgt := 741) C dL_33 ⟨by decide, by decide⟩ (by decide) (by decide) rfl (by decide) ?_
        exact law_15 l C Z hr hk hX hbl hL σ hI hR i h0 (by omega) K
      · refine h_tableIn (tgt := 754) C dL_33 ⟨by decide, by decide⟩ (by decide) (by decide) rfl (by decide) ?_
        exact law_16 l C Z hr hk hX hbl hL σ hI hR i h0 (by omega) K
      · refine h_tableIn (tgt := 767) C dL_33 ⟨by decide, by decide⟩ (by decide) (by decide) rfl (by decide) ?_
        exact law_17 l C Z hr hk hX hbl hL σ hI hR i h0 (by omega) K
      · refine h_tableIn (tgt := 790) C dL_33 ⟨by decide, by decide⟩ (by decide) (by decide) rfl (by decide) ?_
        exact law_18 l C Z hr hk hX hbl hL σ hI hR i h0 (by omega) K
      · refine h_tableIn (tgt := 803) C dL_33 ⟨by decide, by decide⟩ (by decide) (by decide) rfl (by decide) ?_
        exact law_19 l C Z hr hk hX hbl hL σ hI hR i h0 (by omega) K
      · refine h_tableIn (tgt := 816) C dL_33 ⟨by decide, by decide⟩ (by decide) (by decide) rfl (by decide) ?_
        exact law_20 l C Z hr hk hX hbl hL σ hI hR i h0 (by omega) K
      · refine h_tableIn (tgt := 839) C dL_33 ⟨by decide, by decide⟩ (by decide) (by decide) rfl (by decide) ?_
        exact law_21 l C Z hr hk hX hbl hL σ hI hR i h0 (by omega) K
      · refine h_tableIn (tgt := 852) C dL_33 ⟨by decide, by decide⟩ (by decide) (by decide) rfl (by decide) ?_
        exact law_22 l C Z hr hk hX hbl hL σ hI hR i h0 (by omega) K
      · refine h_tableIn (tgt := 875) C dL_33 ⟨by decide, by decide⟩ (by decide) (by decide) rfl (by decide) ?_
        exact law_23 l C Z hr hk hX hbl hL σ hI hR i h0 (by omega) K
      · refine h_tableIn (tgt := 908) C dL_33 ⟨by decide, by decide⟩ (by decide) (by decide) rfl (by decide) ?_
        exact law_24 l C Z hr hk hX hbl hL σ hI hR i h0 (by omega) K
      · refine h_tableIn (tgt := 931) C dL_33 ⟨by decide, by decide⟩ (by decide) (by decide) rfl (by decide) ?_
        exact law_25 l C Z hr hk hX hbl hL σ hI hR i h0 (by omega) K
      · refine h_tableIn (tgt := 964) C dL_33 ⟨by decide, by decide⟩ (by decide) (by decide) rfl (by decide) ?_
        exact law_26 l C Z hr hk hX hbl hL σ hI hR i h0 (by omega) K
      · refine h_tableIn (tgt := 987) C dL_33 ⟨by decide, by decide⟩ (by decide) (by decide) rfl (by decide) ?_
        exact law_27 l C Z hr hk hX hbl hL σ hI hR i h0 (by omega) K
      · refine h_tableIn (tgt := 1010) C dL_33 ⟨by decide, by decide⟩ (by decide) (by decide) rfl (by decide) ?_
        exact law_28 l C Z hr hk hX hbl hL σ hI hR i h0 (by omega) K
      · refine h_tableIn (tgt := 1033) C dL_33 ⟨by decide, by decide⟩ (by decide) (by decide) rfl (by decide) ?_
        exact law_29 l C Z hr hk hX hbl hL σ hI hR i h0 (by omega) K
      · refine h_tableIn (tgt := 1076) C dL_33 ⟨by decide, by decide⟩ (by decide) (by decide) rfl (by decide) ?_
        exact law_30 l C Z hr hk hX hbl hL σ hI hR i h0 (by omega) K
      · refine h_tableIn (tgt := 1099) C dL_33 ⟨by decide, by decide⟩ (by decide) (by decide) rfl (by decide) ?_
        exact law_31 l C Z hr hk hX hbl hL σ hI hR i h0 (by omega) K
      · refine h_tableIn (tgt := 1122) C dL_33 ⟨by decide, by decide⟩ (by decide) (by decide) rfl (by decide) ?_
        exact law_32 l C Z hr hk hX hbl hL σ hI hR i h0 (by omega) K
      · refine h_tableIn (tgt := 1145) C dL_33 ⟨by decide, by decide⟩ (by decide) (by decide) rfl (by decide) ?_
        exact law_33 l C Z hr hk hX hbl hL σ hI hR i h0 (by omega) K
      · refine h_tableIn (tgt := 1168) C dL_33 ⟨by decide, by decide⟩ (by decide) (by decide) rfl (by decide) ?_
        exact law_34 l C Z hr hk hX hbl hL σ hI hR i h0 (by omega) K
      · refine h_tableIn (tgt := 1191) C dL_33 ⟨by decide, by decide⟩ (by decide) (by decide) rfl (by decide) ?_
        exact law_35 l C Z hr hk hX hbl hL σ hI hR i h0 (by omega) K
      · refine h_tableIn (tgt := 1214) C dL_33 ⟨by decide, by decide⟩ (by decide) (by decide) rfl (by decide) ?_
        exact law_36 l C Z hr hk hX hbl hL σ hI hR i h0 (by omega) K
      · refine h_tableIn (tgt := 1237) C dL_33 ⟨by decide, by decide⟩ (by decide) (by decide) rfl (by decide) ?_
        exact law_37 l C Z hr hk hX hbl hL σ hI hR i h0 (by omega) K
      · refine h_tableIn (tgt := 1270) C dL_33 ⟨by decide, by decide⟩ (by decide) (by decide) rfl (by decide) ?_
        exact law_38 l C Z hr hk hX hbl hL σ hI hR i h0 (by omega) K
      · refine h_tableIn (tgt := 1293) C dL_33 ⟨by decide, by decide⟩ (by decide) (by decide) rfl (by decide) ?_
        exact law_39 l C Z hr hk hX hbl hL σ hI hR i h0 (by omega) K
      · refine h_tableIn (tgt := 1326) C dL_33 ⟨by decide, by decide⟩ (by decide) (by decide) rfl (by decide) ?_
        exact law_40 l C Z hr hk hX hbl hL σ hI hR i h0 (by omega) K
      · refine h_tableIn (tgt := 1349) C dL_33 ⟨by decide, by decide⟩ (by decide) (by decide) rfl (by decide) ?_
        exact law_41 l C Z hr hk hX hbl hL σ hI hR i h0 (by omega) K
      · refine h_tableIn (tgt := 1362) C dL_33 ⟨by decide, by decide⟩ (by decide) (by decide) rfl (by decide) ?_
        exact law_42 l C Z hr hk hX hbl hL σ hI hR i h0 (by omega) K
      · refine h_tableIn (tgt := 1395) C dL_33 ⟨by decide, by decide⟩ (by decide) (by decide) rfl (by decide) ?_
        exact law_43 l C Z hr hk hX hbl hL σ hI hR i h0 (by omega) K
      · refine h_tableIn (tgt := 1428) C dL_33 ⟨by decide, by decide⟩ (by decide) (by decide) rfl (by decide) ?_
        exact law_44 l C Z hr hk hX hbl hL σ hI hR i h0 (by omega) K
      · refine h_tableIn (tgt := 1461) C dL_33 ⟨by decide, by decide⟩ (by decide) (by decide) rfl (by decide) ?_
        exact law_45 l C Z hr hk hX hbl hL σ hI hR i h0 (by omega) K
      · refine h_tableIn (tgt := 1494) C dL_33 ⟨by decide, by decide⟩ (by decide) (by decide) rfl (by decide) ?_
        exact law_46 l C Z hr hk hX hbl hL σ hI hR i h0 (by omega) K
      · refine h_tableIn (tgt := 1527) C dL_33 ⟨by decide, by decide⟩ (by decide) (by decide) rfl (by decide) ?_
        exact law_47 l C Z hr hk hX hbl hL σ hI hR i h0 (by omega) K
      · refine h_tableIn (tgt := 1550) C dL_33 ⟨by decide, by decide⟩ (by decide) (by decide) rfl (by decide) ?_
        exact law_48 l C Z hr hk hX hbl hL σ hI hR i h0 (by omega) K
      · refine h_tableIn (tgt := 1573) C dL_33 ⟨by decide, by decide⟩ (by decide) (by decide) rfl (by decide) ?_
        exact law_49 l C Z hr hk hX hbl hL σ hI hR i h0 (by omega) K
      · refine h_tableIn (tgt := 1586) C dL_33 ⟨by decide, by decide⟩ (by decide) (by decide) rfl (by decide) ?_
        exact law_50 l C Z hr hk hX hbl hL σ hI hR i h0 (by omega) K
      · refine h_tableIn (tgt := 1609) C dL_33 ⟨by decide, by decide⟩ (by decide) (by decide) rfl (by decide) ?_
        exact law_51 l C Z hr hk hX hbl hL σ hI hR i h0 (by omega) K
      · refine h_tableIn (tgt := 1642) C dL_33 ⟨by decide, by decide⟩ (by decide) (by decide) rfl (by decide) ?_
        exact law_52 l C Z hr hk hX hbl hL σ hI hR i h0 (by omega) K
      · refine h_tableIn (tgt := 1675) C dL_33 ⟨by decide, by decide⟩ (by decide) (by decide) rfl (by decide) ?_
        exact law_53 l C Z hr hk hX hbl hL σ hI hR i h0 (by omega) K
      · refine h_tableIn (tgt := 1708) C dL_33 ⟨by decide, by decide⟩ (by decide) (by decide) rfl (by decide) ?_
        exact law_54 l C Z hr hk hX hbl hL σ hI hR i h0 (by omega) K
      · refine h_tableIn (tgt := 1741) C dL_33 ⟨by decide, by decide⟩ (by decide) (by decide) rfl (by decide) ?_
        exact law_55 l C Z hr hk hX hbl hL σ hI hR i h0 (by omega) K
      · refine h_tableIn (tgt := 1774) C dL_33 ⟨by decide, by decide⟩ (by decide) (by decide) rfl (by decide) ?_
        exact law_56 l C Z hr hk hX hbl hL σ hI hR i h0 (by omega) K
      · refine h_tableIn (tgt := 1837) C dL_33 ⟨by decide, by decide⟩ (by decide) (by decide) rfl (by decide) ?_
        exact law_57 l C Z hr hk hX hbl hL σ hI hR i h0 (by omega) K
      · refine h_tableIn (tgt := 1880) C dL_33 ⟨by decide, by decide⟩ (by decide) (by decide) rfl (by decide) ?_
        exact law_58 l C Z hr hk hX hbl hL σ hI hR i h0 (by omega) K
      · refine h_tableIn (tgt := 1913) C dL_33 ⟨by decide, by decide⟩ (by decide) (by decide) rfl (by decide) ?_
        exact law_59 l C Z hr hk hX hbl hL σ hI hR i h0 (by omega) K
      · refine h_tableIn (tgt := 1946) C dL_33 ⟨by decide, by decide⟩ (by decide) (by decide) rfl (by decide) ?_
        exact law_60 l C Z hr hk hX hbl hL σ hI hR i h0 (by omega) K
      · refine h_tableIn (tgt := 1969) C dL_33 ⟨by decide, by decide⟩ (by decide) (by decide) rfl (by decide) ?_
        exact law_61 l C Z hr hk hX hbl hL σ hI hR i h0 (by omega) K
      · refine h_tableIn (tgt := 1982) C dL_33 ⟨by decide, by decide⟩ (by decide) (by decide) rfl (by decide) ?_
        exact law_62 l C Z hr hk hX hbl hL σ hI hR i h0 (by omega) K
      · refine h_tableIn (tgt := 1995) C dL_33 ⟨by decide, by decide⟩ (by decide) (by decide) rfl (by decide) ?_
        exact law_63 l C Z hr hk hX hbl hL σ hI hR i h0 (by omega) K
      · refine h_tableIn (tgt := 2028) C dL_33 ⟨by decide, by decide⟩ (by decide) (by decide) rfl (by decide) ?_
        exact law_64 l C Z hr hk hX hbl hL σ hI hR i h0 (by omega) K
      · refine h_tableIn (tgt := 2071) C dL_33 ⟨by decide, by decide⟩ (by decide) (by decide) rfl (by decide) ?_
        exact law_65 l C Z hr hk hX hbl hL σ hI hR i h0 (by omega) K
      · refine h_tableIn (tgt := 2104) C dL_33 ⟨by decide, by decide⟩ (by decide) (by decide) rfl (by decide) ?_
        exact law_66 l C Z hr hk hX hbl hL σ hI hR i h0 (by omega) K
      · refine h_tableIn (tgt := 2127) C dL_33 ⟨by decide, by decide⟩ (by decide) (by decide) rfl (by decide) ?_
        exact law_67 l C Z hr hk hX hbl hL σ hI hR i h0 (by omega) K
      · refine h_tableIn (tgt := 2150) C dL_33 ⟨by decide, by decide⟩ (by decide) (by decide) rfl (by decide) ?_
        exact law_68 l C Z hr hk hX hbl hL σ hI hR i h0 (by omega) K
      · refine h_tableIn (tgt := 2173) C dL_33 ⟨by decide, by decide⟩ (by decide) (by decide) rfl (by decide) ?_
        exact law_69 l C Z hr hk hX hbl hL σ hI hR i h0 (by omega) K
      · refine h_tableIn (tgt := 2216) C dL_33 ⟨by decide, by decide⟩ (by decide) (by decide) rfl (by decide) ?_
        exact law_70 l C Z hr hk hX hbl hL σ hI hR i h0 (by omega) K
      · refine h_tableIn (tgt := 2289) C dL_33 ⟨by decide, by decide⟩ (by decide) (by decide) rfl (by decide) ?_
        exact law_71 l C Z hr hk hX hbl hL σ hI hR i h0 (by omega) K
      · refine h_tableOut (tgt := 2352) C dL_33 ⟨by omega, by omega⟩ (Or.inr h_out) (by decide) ?_
        exact law_out l C Z hr hk hX hbl hL σ hI hR i h0 (by omega) K

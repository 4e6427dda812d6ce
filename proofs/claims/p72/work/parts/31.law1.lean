set_option maxHeartbeats 4000000 in
set_option maxRecDepth 20000 in
theorem law_0 {p : Program} {e : Env} {s : State} {m : MethodId} {below : List Frame} {meth : Method} {c : Code} (l : Launch) {b L : Nat} {xs : Nat → Int32} {D : va_G} {cy : Nat → ClassId} (C : hpC p s m #[.ref b] c code 4 RL D cy) (Z : hpStr s.heap.size cy s s.heap) (hr : meth.sig.returnType = ret) (hk : meth.locks = false) (hX : va_X b L xs s s.heap) (hbl : b < s.heap.size) (hL : L ≤ 3072) (σ : hpMem) (hI : hpInv σ) (hR : hpR72 σ) (i : Int) (hi0 : 0 ≤ i) (hi : i + 6 ≤ (L : Int)) (K : ∀ τ : hpMem, hpInv τ → hpR72 τ → hpV p l e room_1 s m #[.ref b] below meth c 217 24316 4 D cy s.heap.size s.heap (lw_Z below #[Value.ref b] s) τ 2352 [(3, .int (hpI i)), (2, .ref (s.heap.size + 195)), (1, .ref (s.heap.size + 0)), (0, .ref b)] []) : hpV p l e room_1 s m #[.ref b] below meth c 217 24316 4 D cy s.heap.size s.heap (lw_Z below #[Value.ref b] s) σ 336 [(3, .int (hpI i)), (2, .ref (s.heap.size + 195)), (1, .ref (s.heap.size + 0)), (0, .ref b)] [] := by
  refine h_aload_n C dL_336 2 rfl rfl ?_
  refine h_aload_n C dL_337 3 rfl rfl ?_
  refine h_iload_n C dL_338 0 rfl rfl ?_
  refine h_iconst C dL_339 ?_
  refine h_iadd C dL_340 rfl ?_
  refine h_sldL C hX hbl (i + 1).toNat (Int.toNat_of_nonneg (by omega)) (by omega) (by omega) dL_341 ?_
  have hq1 := hpR_of (xs (i + 1).toNat)
  obtain ⟨hq1a, hq1b⟩ := hq1
  obtain ⟨v1, ev1⟩ : ∃ v : Int, v = (xs (i + 1).toNat).toInt := ⟨_, rfl⟩
  rw [← ev1] at hq1a hq1b ⊢
  refine h_aload_n C dL_342 3 rfl rfl ?_
  refine h_iload_n C dL_343 0 rfl rfl ?_
  refine h_iconst C dL_344 ?_
  refine h_iadd C dL_345 rfl ?_
  refine h_sldL C hX hbl (i + 2).toNat (Int.toNat_of_nonneg (by omega)) (by omega) (by omega) dL_346 ?_
  have hq2 := hpR_of (xs (i + 2).toNat)
  obtain ⟨hq2a, hq2b⟩ := hq2
  obtain ⟨v2, ev2⟩ : ∃ v : Int, v = (xs (i + 2).toNat).toInt := ⟨_, rfl⟩
  rw [← ev2] at hq2a hq2b ⊢
  refine h_aload_n C dL_347 3 rfl rfl ?_
  refine h_iload_n C dL_348 0 rfl rfl ?_
  refine h_iconst C dL_349 ?_
  refine h_iadd C dL_350 rfl ?_
  refine h_sldL C hX hbl (i + 3).toNat (Int.toNat_of_nonneg (by omega)) (by omega) (by omega) dL_351 ?_
  have hq3 := hpR_of (xs (i + 3).toNat)
  obtain ⟨hq3a, hq3b⟩ := hq3
  obtain ⟨v3, ev3⟩ : ∃ v : Int, v = (xs (i + 3).toNat).toInt := ⟨_, rfl⟩
  rw [← ev3] at hq3a hq3b ⊢
  refine h_aload_n C dL_352 3 rfl rfl ?_
  refine h_iload_n C dL_353 0 rfl rfl ?_
  refine h_iconst C dL_354 ?_
  refine h_iadd C dL_355 rfl ?_
  refine h_sldL C hX hbl (i + 4).toNat (Int.toNat_of_nonneg (by omega)) (by omega) (by omega) dL_356 ?_
  have hq4 := hpR_of (xs (i + 4).toNat)
  obtain ⟨hq4a, hq4b⟩ := hq4
  obtain ⟨v4, ev4⟩ : ∃ v : Int, v = (xs (i + 4).toNat).toInt := ⟨_, rfl⟩
  rw [← ev4] at hq4a hq4b ⊢
  refine h_aload_n C dL_357 3 rfl rfl ?_
  refine h_iload_n C dL_358 0 rfl rfl ?_
  refine h_iconst C dL_359 ?_
  refine h_iadd C dL_360 rfl ?_
  refine h_sldL C hX hbl (i + 5).toNat (Int.toNat_of_nonneg (by omega)) (by omega) (by omega) dL_361 ?_
  have hq5 := hpR_of (xs (i + 5).toNat)
  obtain ⟨hq5a, hq5b⟩ := hq5
  obtain ⟨v5, ev5⟩ : ∃ v : Int, v = (xs (i + 5).toNat).toInt := ⟨_, rfl⟩
  rw [← ev5] at hq5a hq5b ⊢
  refine h_callV (As := [.int (hpI v1), .int (hpI v2), .int (hpI v3), .int (hpI v4), .int (hpI v5)]) (rest := []) C Z yyX8_feed wd_398 (tgX8_feed l D cy s.heap.size _ v1 ⟨by omega, by omega⟩ v2 ⟨by omega, by omega⟩ v3 ⟨by omega, by omega⟩ v4 ⟨by omega, by omega⟩ v5 ⟨by omega, by omega⟩ hI) kd_0 rfl rfl ⟨rfl, rfl, Nat.le_of_ble_eq_true rfl, Nat.le_of_ble_eq_true rfl⟩ ⟨Nat.le_of_ble_eq_true rfl, Nat.le_of_ble_eq_true rfl⟩ (Nat.le_of_ble_eq_true rfl) dL_362 (fun r6 τ6 hp6 => ?_)
  obtain ⟨⟨x6, rfl, ⟨hx6a, hx6b⟩⟩, hI6, hG6⟩ := hp6
  show hpV _ _ _ _ _ _ _ _ _ _ _ _ _ _ _ _ _ _ _ _ _ (_ :: _)
  refine h_pop C rfl dL_365 ?_
  refine h_aload_n C dL_366 1 rfl rfl ?_
  refine h_aload_n C dL_367 3 rfl rfl ?_
  refine h_iload_n C dL_368 0 rfl rfl ?_
  refine h_iconst C dL_369 ?_
  refine h_iadd C dL_370 rfl ?_
  refine h_sldL C hX hbl (i + 1).toNat (Int.toNat_of_nonneg (by omega)) (by omega) (by omega) dL_371 ?_
  have hq7 := hpR_of (xs (i + 1).toNat)
  obtain ⟨hq7a, hq7b⟩ := hq7
  obtain ⟨v7, ev7⟩ : ∃ v : Int, v = (xs (i + 1).toNat).toInt := ⟨_, rfl⟩
  rw [← ev7] at hq7a hq7b ⊢
  have ez7 : v1 = v7 := ev1.trans ev7.symm
  subst ez7
  refine h_aload_n C dL_372 3 rfl rfl ?_
  refine h_iload_n C dL_373 0 rfl rfl ?_
  refine h_iconst C dL_374 ?_
  refine h_iadd C dL_375 rfl ?_
  refine h_sldL C hX hbl (i + 2).toNat (Int.toNat_of_nonneg (by omega)) (by omega) (by omega) dL_376 ?_
  have hq8 := hpR_of (xs (i + 2).toNat)
  obtain ⟨hq8a, hq8b⟩ := hq8
  obtain ⟨v8, ev8⟩ : ∃ v : Int, v = (xs (i + 2).toNat).toInt := ⟨_, rfl⟩
  rw [← ev8] at hq8a hq8b ⊢
  have ez8 : v2 = v8 := ev2.trans ev8.symm
  subst ez8
  refine h_aload_n C dL_377 3 rfl rfl ?_
  refine h_iload_n C dL_378 0 rfl rfl ?_
  refine h_iconst C dL_379 ?_
  refine h_iadd C dL_380 rfl ?_
  refine h_sldL C hX hbl (i + 3).toNat (Int.toNat_of_nonneg (by omega)) (by omega) (by omega) dL_381 ?_
  have hq9 := hpR_of (xs (i + 3).toNat)
  obtain ⟨hq9a, hq9b⟩ := hq9
  obtain ⟨v9, ev9⟩ : ∃ v : Int, v = (xs (i + 3).toNat).toInt := ⟨_, rfl⟩
  rw [← ev9] at hq9a hq9b ⊢
  have ez9 : v3 = v9 := ev3.trans ev9.symm
  subst ez9
  refine h_aload_n C dL_382 3 rfl rfl ?_
  refine h_iload_n C dL_383 0 rfl rfl ?_
  refine h_iconst C dL_384 ?_
  refine h_iadd C dL_385 rfl ?_
  refine h_sldL C hX hbl (i + 4).toNat (Int.toNat_of_nonneg (by omega)) (by omega) (by omega) dL_386 ?_
  have hq10 := hpR_of (xs (i + 4).toNat)
  obtain ⟨hq10a, hq10b⟩ := hq10
  obtain ⟨v10, ev10⟩ : ∃ v : Int, v = (xs (i + 4).toNat).toInt := ⟨_, rfl⟩
  rw [← ev10] at hq10a hq10b ⊢
  have ez10 : v4 = v10 := ev4.trans ev10.symm
  subst ez10
  refine h_aload_n C dL_387 3 rfl rfl ?_
  refine h_iload_n C dL_388 0 rfl rfl ?_
  refine h_iconst C dL_389 ?_
  refine h_iadd C dL_390 rfl ?_
  refine h_sldL C hX hbl (i + 5).toNat (Int.toNat_of_nonneg (by omega)) (by omega) (by omega) dL_391 ?_
  have hq11 := hpR_of (xs (i + 5).toNat)
  obtain ⟨hq11a, hq11b⟩ := hq11
  obtain ⟨v11, ev11⟩ : ∃ v : Int, v = (xs (i + 5).toNat).toInt := ⟨_, rfl⟩
  rw [← ev11] at hq11a hq11b ⊢
  have ez11 : v5 = v11 := ev5.trans ev11.symm
  subst ez11
  refine h_callV (As := [.int (hpI v1), .int (hpI v2), .int (hpI v3), .int (hpI v4), .int (hpI v5)]) (rest := []) C Z yyX9_feed wd_1408 (tgX9_feed l D cy s.heap.size _ v1 ⟨by omega, by omega⟩ v2 ⟨by omega, by omega⟩ v3 ⟨by omega, by omega⟩ v4 ⟨by omega, by omega⟩ v5 ⟨by omega, by omega⟩ hI6) kd_195 rfl rfl ⟨rfl, rfl, Nat.le_of_ble_eq_true rfl, Nat.le_of_ble_eq_true rfl⟩ ⟨Nat.le_of_ble_eq_true rfl, Nat.le_of_ble_eq_true rfl⟩ (Nat.le_of_ble_eq_true rfl) dL_392 (fun r12 τ12 hp12 => ?_)
  obtain ⟨⟨x12, rfl, ⟨hx12a, hx12b⟩⟩, hI12, hG12⟩ := hp12
  show hpV _ _ _ _ _ _ _ _ _ _ _ _ _ _ _ _ _ _ _ _ _ (_ :: _)
  refine h_pop C rfl dL_395 ?_
  refine h_goto (tgt := 2352) C dL_396 (by decide) ?_
  exact K τ12 hI12 (hR.fr (fun j i h => (hG12 j i (by omega) (by omega) (by omega)).trans (hG6 j i (by omega))))
set_option maxHeartbeats 4000000 in
set_option maxRecDepth 20000 in
theorem law_1 {p : Program} {e : Env} {s : State} {m : MethodId} {below : List Frame} {meth : Method} {c : Code} (l : Launch) {b L : Nat} {xs : Nat → Int32} {D : va_G} {cy : Nat → ClassId} (C : hpC p s m #[.ref b] c code 4 RL D cy) (Z : hpStr s.heap.size cy s s.heap) (hr : meth.sig.returnType = ret) (hk : meth.locks = false) (hX : va_X b L xs s s.heap) (hbl : b < s.heap.size) (hL : L ≤ 3072) (σ : hpMem) (hI : hpInv σ) (hR : hpR72 σ) (i : Int) (hi0 : 0 ≤ i) (hi : i + 6 ≤ (L : Int)) (K : ∀ τ : hpMem, hpInv τ → hpR72 τ → hpV p l e room_1 s m #[.ref b] below meth c 217 24316 4 D cy s.heap.size s.heap (lw_Z below #[Value.ref b] s) τ 2352 [(3, .int (hpI i)), (2, .ref (s.heap.size + 195)), (1, .ref (s.heap.size + 0)), (0, .ref b)] []) : hpV p l e room_1 s m #[.ref b] below meth c 217 24316 4 D cy s.heap.size s.heap (lw_Z below #[Value.ref b] s) σ 399 [(3, .int (hpI i)), (2, .ref (s.heap.size + 195)), (1, .ref (s.heap.size + 0)), (0, .ref b)] [] := by
  refine h_aload_n C dL_399 2 rfl rfl ?_
  refine h_aload_n C dL_400 3 rfl rfl ?_
  refine h_iload_n C dL_401 0 rfl rfl ?_
  refine h_iconst C dL_402 ?_
  refine h_iadd C dL_403 rfl ?_
  refine h_sldL C hX hbl (i + 1).toNat (Int.toNat_of_nonneg (by omega)) (by omega) (by omega) dL_404 ?_
  have hq1 := hpR_of (xs (i + 1).toNat)
  obtain ⟨hq1a, hq1b⟩ := hq1
  obtain ⟨v1, ev1⟩ : ∃ v : Int, v = (xs (i + 1).toNat).toInt := ⟨_, rfl⟩
  rw [← ev1] at hq1a hq1b ⊢
  refine h_callV (As := [.int (hpI v1)]) (rest := []) C Z yyX8_end wd_406 (tgX8_end l D cy s.heap.size _ v1 ⟨by omega, by omega⟩ hI) kd_0 rfl rfl ⟨rfl, rfl, Nat.le_of_ble_eq_true rfl, Nat.le_of_ble_eq_true rfl⟩ ⟨Nat.le_of_ble_eq_true rfl, Nat.le_of_ble_eq_true rfl⟩ (Nat.le_of_ble_eq_true rfl) dL_405 (fun r2 τ2 hp2 => ?_)
  obtain ⟨⟨x2, rfl, ⟨hx2a, hx2b⟩⟩, hI2, hG2⟩ := hp2
  show hpV _ _ _ _ _ _ _ _ _ _ _ _ _ _ _ _ _ _ _ _ _ (_ :: _)
  refine h_pop C rfl dL_408 ?_
  refine h_aload_n C dL_409 1 rfl rfl ?_
  refine h_aload_n C dL_410 3 rfl rfl ?_
  refine h_iload_n C dL_411 0 rfl rfl ?_
  refine h_iconst C dL_412 ?_
  refine h_iadd C dL_413 rfl ?_
  refine h_sldL C hX hbl (i + 1).toNat (Int.toNat_of_nonneg (by omega)) (by omega) (by omega) dL_414 ?_
  have hq3 := hpR_of (xs (i + 1).toNat)
  obtain ⟨hq3a, hq3b⟩ := hq3
  obtain ⟨v3, ev3⟩ : ∃ v : Int, v = (xs (i + 1).toNat).toInt := ⟨_, rfl⟩
  rw [← ev3] at hq3a hq3b ⊢
  have ez3 : v1 = v3 := ev1.trans ev3.symm
  subst ez3
  refine h_callV (As := [.int (hpI v1)]) (rest := []) C Z yyX9_end wd_1412 (tgX9_end l D cy s.heap.size _ v1 ⟨by omega, by omega⟩ hI2) kd_195 rfl rfl ⟨rfl, rfl, Nat.le_of_ble_eq_true rfl, Nat.le_of_ble_eq_true rfl⟩ ⟨Nat.le_of_ble_eq_true rfl, Nat.le_of_ble_eq_true rfl⟩ (Nat.le_of_ble_eq_true rfl) dL_415 (fun r4 τ4 hp4 => ?_)
  obtain ⟨⟨x4, rfl, ⟨hx4a, hx4b⟩⟩, hI4, hG4⟩ := hp4
  show hpV _ _ _ _ _ _ _ _ _ _ _ _ _ _ _ _ _ _ _ _ _ (_ :: _)
  refine h_pop C rfl dL_418 ?_
  refine h_goto (tgt := 2352) C dL_419 (by decide) ?_
  exact K τ4 hI4 (hR.fr (fun j i h => (hG4 j i (by omega)).trans (hG2 j i (by omega))))
set_option maxHeartbeats 4000000 in
set_option maxRecDepth 20000 in
theorem law_2 {p : Program} {e : Env} {s : State} {m : MethodId} {below : List Frame} {meth : Method} {c : Code} (l : Launch) {b L : Nat} {xs : Nat → Int32} {D : va_G} {cy : Nat → ClassId} (C : hpC p s m #[.ref b] c code 4 RL D cy) (Z : hpStr s.heap.size cy s s.heap) (hr : meth.sig.returnType = ret) (hk : meth.locks = false) (hX : va_X b L xs s s.heap) (hbl : b < s.heap.size) (hL : L ≤ 3072) (σ : hpMem) (hI : hpInv σ) (hR : hpR72 σ) (i : Int) (hi0 : 0 ≤ i) (hi : i + 6 ≤ (L : Int)) (K : ∀ τ : hpMem, hpInv τ → hpR72 τ → hpV p l e room_1 s m #[.ref b] below meth c 217 24316 4 D cy s.heap.size s.heap (lw_Z below #[Value.ref b] s) τ 2352 [(3, .int (hpI i)), (2, .ref (s.heap.size + 195)), (1, .ref (s.heap.size + 0)), (0, .ref b)] []) : hpV p l e room_1 s m #[.ref b] below meth c 217 24316 4 D cy s.heap.size s.heap (lw_Z below #[Value.ref b] s) σ 422 [(3, .int (hpI i)), (2, .ref (s.heap.size + 195)), (1, .ref (s.heap.size + 0)), (0, .ref b)] [] := by
  refine h_aload_n C dL_422 2 rfl rfl ?_
  refine h_callV (As := []) (rest := []) C Z yyX8_moor wd_410 (tgX8_moor l D cy s.heap.size _ hI) kd_0 rfl rfl ⟨rfl, rfl, Nat.le_of_ble_eq_true rfl, Nat.le_of_ble_eq_true rfl⟩ ⟨Nat.le_of_ble_eq_true rfl, Nat.le_of_ble_eq_true rfl⟩ (Nat.le_of_ble_eq_true rfl) dL_423 (fun r1 τ1 hp1 => ?_)
  obtain ⟨⟨x1, rfl, ⟨hx1a, hx1b⟩⟩, hI1, hG1⟩ := hp1
  show hpV _ _ _ _ _ _ _ _ _ _ _ _ _ _ _ _ _ _ _ _ _ (_ :: _)
  refine h_pop C rfl dL_426 ?_
  refine h_aload_n C dL_427 1 rfl rfl ?_
  refine h_callV (As := []) (rest := []) C Z yyX9_moor wd_1420 (tgX9_moor l D cy s.heap.size _ hI1) kd_195 rfl rfl ⟨rfl, rfl, Nat.le_of_ble_eq_true rfl, Nat.le_of_ble_eq_true rfl⟩ ⟨Nat.le_of_ble_eq_true rfl, Nat.le_of_ble_eq_true rfl⟩ (Nat.le_of_ble_eq_true rfl) dL_428 (fun r2 τ2 hp2 => ?_)
  obtain ⟨⟨x2, rfl, ⟨hx2a, hx2b⟩⟩, hI2, hG2⟩ := hp2
  show hpV _ _ _ _ _ _ _ _ _ _ _ _ _ _ _ _ _ _ _ _ _ (_ :: _)
  refine h_pop C rfl dL_431 ?_
  refine h_goto (tgt := 2352) C dL_432 (by decide) ?_
  exact K τ2 hI2 (hR.fr (fun j i h => (hG2 j i (by omega) (by omega) (by omega)).trans (hG1 j i (by omega))))
set_option maxHeartbeats 4000000 in
set_option maxRecDepth 20000 in
theorem law_3 {p : Program} {e : Env} {s : State} {m : MethodId} {below : List Frame} {meth : Method} {c : Code} (l : Launch) {b L : Nat} {xs : Nat → Int32} {D : va_G} {cy : Nat → ClassId} (C : hpC p s m #[.ref b] c code 4 RL D cy) (Z : hpStr s.heap.size cy s s.heap) (hr : meth.sig.returnType = ret) (hk : meth.locks = false) (hX : va_X b L xs s s.heap) (hbl : b < s.heap.size) (hL : L ≤ 3072) (σ : hpMem) (hI : hpInv σ) (hR : hpR72 σ) (i : Int) (hi0 : 0 ≤ i) (hi : i + 6 ≤ (L : Int)) (K : ∀ τ : hpMem, hpInv τ → hpR72 τ → hpV p l e room_1 s m #[.ref b] below meth c 217 24316 4 D cy s.heap.size s.heap (lw_Z below #[Value.ref b] s) τ 2352 [(3, .int (hpI i)), (2, .ref (s.heap.size + 195)), (1, .ref (s.heap.size + 0)), (0, .ref b)] []) : hpV p l e room_1 s m #[.ref b] below meth c 217 24316 4 D cy s.heap.size s.heap (lw_Z below #[Value.ref b] s) σ 435 [(3, .int (hpI i)), (2, .ref (s.heap.size + 195)), (1, .ref (s.heap.size + 0)), (0, .ref b)] [] := by
  refine h_aload_n C dL_435 2 rfl rfl ?_
  refine h_aload_n C dL_436 3 rfl rfl ?_
  refine h_iload_n C dL_437 0 rfl rfl ?_
  refine h_iconst C dL_438 ?_
  refine h_iadd C dL_439 rfl ?_
  refine h_sldL C hX hbl (i + 1).toNat (Int.toNat_of_nonneg (by omega)) (by omega) (by omega) dL_440 ?_
  have hq1 := hpR_of (xs (i + 1).toNat)
  obtain ⟨hq1a, hq1b⟩ := hq1
  obtain ⟨v1, ev1⟩ : ∃ v : Int, v = (xs (i + 1).toNat).toInt := ⟨_, rfl⟩
  rw [← ev1] at hq1a hq1b ⊢
  refine h_callV (As := [.int (hpI v1)]) (rest := []) C Z yyX8_fault wd_541 (tgX8_fault l D cy s.heap.size _ v1 ⟨by omega, by omega⟩ hI) kd_0 rfl rfl ⟨rfl, rfl, Nat.le_of_ble_eq_true rfl, Nat.le_of_ble_eq_true rfl⟩ ⟨Nat.le_of_ble_eq_true rfl, Nat.le_of_ble_eq_true rfl⟩ (Nat.le_of_ble_eq_true rfl) dL_441 (fun r2 τ2 hp2 => ?_)
  obtain ⟨⟨x2, rfl, ⟨hx2a, hx2b⟩⟩, rfl⟩ := hp2
  show hpV _ _ _ _ _ _ _ _ _ _ _ _ _ _ _ _ _ _ _ _ _ (_ :: _)
  refine h_pop C rfl dL_444 ?_
  refine h_aload_n C dL_445 1 rfl rfl ?_
  refine h_aload_n C dL_446 3 rfl rfl ?_
  refine h_iload_n C dL_447 0 rfl rfl ?_
  refine h_iconst C dL_448 ?_
  refine h_iadd C dL_449 rfl ?_
  refine h_sldL C hX hbl (i + 1).toNat (Int.toNat_of_nonneg (by omega)) (by omega) (by omega) dL_450 ?_
  have hq3 := hpR_of (xs (i + 1).toNat)
  obtain ⟨hq3a, hq3b⟩ := hq3
  obtain ⟨v3, ev3⟩ : ∃ v : Int, v = (xs (i + 1).toNat).toInt := ⟨_, rfl⟩
  rw [← ev3] at hq3a hq3b ⊢
  have ez3 : v1 = v3 := ev1.trans ev3.symm
  subst ez3
  refine h_callV (As := [.int (hpI v1)]) (rest := []) C Z yyX9_fault wd_1416 (tgX9_fault l D cy s.heap.size _ v1 ⟨by omega, by omega⟩ hI) kd_195 rfl rfl ⟨rfl, rfl, Nat.le_of_ble_eq_true rfl, Nat.le_of_ble_eq_true rfl⟩ ⟨Nat.le_of_ble_eq_true rfl, Nat.le_of_ble_eq_true rfl⟩ (Nat.le_of_ble_eq_true rfl) dL_451 (fun r4 τ4 hp4 => ?_)
  obtain ⟨⟨x4, rfl, ⟨hx4a, hx4b⟩⟩, rfl⟩ := hp4
  show hpV _ _ _ _ _ _ _ _ _ _ _ _ _ _ _ _ _ _ _ _ _ (_ :: _)
  refine h_pop C rfl dL_454 ?_
  refine h_goto (tgt := 2352) C dL_455 (by decide) ?_
  exact K σ hI hR
set_option maxHeartbeats 4000000 in
set_option maxRecDepth 20000 in
theorem law_4 {p : Program} {e : Env} {s : State} {m : MethodId} {below : List Frame} {meth : Method} {c : Code} (l : Launch) {b L : Nat} {xs : Nat → Int32} {D : va_G} {cy : Nat → ClassId} (C : hpC p s m #[.ref b] c code 4 RL D cy) (Z : hpStr s.heap.size cy s s.heap) (hr : meth.sig.returnType = ret) (hk : meth.locks = false) (hX : va_X b L xs s s.heap) (hbl : b < s.heap.size) (hL : L ≤ 3072) (σ : hpMem) (hI : hpInv σ) (hR : hpR72 σ) (i : Int) (hi0 : 0 ≤ i) (hi : i + 6 ≤ (L : Int)) (K : ∀ τ : hpMem, hpInv τ → hpR72 τ → hpV p l e room_1 s m #[.ref b] below meth c 217 24316 4 D cy s.heap.size s.heap (lw_Z below #[Value.ref b] s) τ 2352 [(3, .int (hpI i)), (2, .ref (s.heap.size + 195)), (1, .ref (s.heap.size + 0)), (0, .ref b)] []) : hpV p l e room_1 s m #[.ref b] below meth c 217 24316 4 D cy s.heap.size s.heap (lw_Z below #[Value.ref b] s) σ 458 [(3, .int (hpI i)), (2, .ref (s.heap.size + 195)), (1, .ref (s.heap.size + 0)), (0, .ref b)] [] := by
  refine h_aload_n C dL_458 2 rfl rfl ?_
  refine h_aload_n C dL_459 3 rfl rfl ?_
  refine h_iload_n C dL_460 0 rfl rfl ?_
  refine h_iconst C dL_461 ?_
  refine h_iadd C dL_462 rfl ?_
  refine h_sldL C hX hbl (i + 1).toNat (Int.toNat_of_nonneg (by omega)) (by omega) (by omega) dL_463 ?_
  have hq1 := hpR_of (xs (i + 1).toNat)
  obtain ⟨hq1a, hq1b⟩ := hq1
  obtain ⟨v1, ev1⟩ : ∃ v : Int, v = (xs (i + 1).toNat).toInt := ⟨_, rfl⟩
  rw [← ev1] at hq1a hq1b ⊢
  refine h_callV (As := [.int (hpI v1)]) (rest := []) C Z yyX8_told wd_545 (tgX8_told l D cy s.heap.size _ v1 ⟨by omega, by omega⟩ hI) kd_0 rfl rfl ⟨rfl, rfl, Nat.le_of_ble_eq_true rfl, Nat.le_of_ble_eq_true rfl⟩ ⟨Nat.le_of_ble_eq_true rfl, Nat.le_of_ble_eq_true rfl⟩ (Nat.le_of_ble_eq_true rfl) dL_464 (fun r2 τ2 hp2 => ?_)
  obtain ⟨⟨x2, rfl, ⟨hx2a, hx2b⟩⟩, rfl⟩ := hp2
  show hpV _ _ _ _ _ _ _ _ _ _ _ _ _ _ _ _ _ _ _ _ _ (_ :: _)
  refine h_pop C rfl dL_467 ?_
  refine h_aload_n C dL_468 1 rfl rfl ?_
  refine h_aload_n C dL_469 3 rfl rfl ?_
  refine h_iload_n C dL_470 0 rfl rfl ?_
  refine h_iconst C dL_471 ?_
  refine h_iadd C dL_472 rfl ?_
  refine h_sldL C hX hbl (i + 1).toNat (Int.toNat_of_nonneg (by omega)) (by omega) (by omega) dL_473 ?_
  have hq3 := hpR_of (xs (i + 1).toNat)
  obtain ⟨hq3a, hq3b⟩ := hq3
  obtain ⟨v3, ev3⟩ : ∃ v : Int, v = (xs (i + 1).toNat).toInt := ⟨_, rfl⟩
  rw [← ev3] at hq3a hq3b ⊢
  have ez3 : v1 = v3 := ev1.trans ev3.symm
  subst ez3
  refine h_callV (As := [.int (hpI v1)]) (rest := []) C Z yyX9_told wd_1488 (tgX9_told l D cy s.heap.size _ v1 ⟨by omega, by omega⟩ hI) kd_195 rfl rfl ⟨rfl, rfl, Nat.le_of_ble_eq_true rfl, Nat.le_of_ble_eq_true rfl⟩ ⟨Nat.le_of_ble_eq_true rfl, Nat.le_of_ble_eq_true rfl⟩ (Nat.le_of_ble_eq_true rfl) dL_474 (fun r4 τ4 hp4 => ?_)
  obtain ⟨⟨x4, rfl, ⟨hx4a, hx4b⟩⟩, rfl⟩ := hp4
  show hpV _ _ _ _ _ _ _ _ _ _ _ _ _ _ _ _ _ _ _ _ _ (_ :: _)
  refine h_pop C rfl dL_477 ?_
  refine h_goto (tgt := 2352) C dL_478 (by decide) ?_
  exact K σ hI hR
set_option maxHeartbeats 4000000 in
set_option maxRecDepth 20000 in
theorem law_5 {p : Program} {e : Env} {s : State} {m : MethodId} {below : List Frame} {meth : Method} {c : Code} (l : Launch) {b L : Nat} {xs : Nat → Int32} {D : va_G} {cy : Nat → ClassId} (C : hpC p s m #[.ref b] c code 4 RL D cy) (Z : hpStr s.heap.size cy s s.heap) (hr : meth.sig.returnType = ret) (hk : meth.locks = false) (hX : va_X b L xs s s.heap) (hbl : b < s.heap.size) (hL : L ≤ 3072) (σ : hpMem) (hI : hpInv σ) (hR : hpR72 σ) (i : Int) (hi0 : 0 ≤ i) (hi : i + 6 ≤ (L : Int)) (K : ∀ τ : hpMem, hpInv τ → hpR72 τ → hpV p l e room_1 s m #[.ref b] below meth c 217 24316 4 D cy s.heap.size s.heap (lw_Z below #[Value.ref b] s) τ 2352 [(3, .int (hpI i)), (2, .ref (s.heap.size + 195)), (1, .ref (s.heap.size + 0)), (0, .ref b)] []) : hpV p l e room_1 s m #[.ref b] below meth c 217 24316 4 D cy s.heap.size s.heap (lw_Z below #[Value.ref b] s) σ 481 [(3, .int (hpI i)), (2, .ref (s.heap.size + 195)), (1, .ref (s.heap.size + 0)), (0, .ref b)] [] := by
  refine h_aload_n C dL_481 2 rfl rfl ?_
  refine h_aload_n C dL_482 3 rfl rfl ?_
  refine h_iload_n C dL_483 0 rfl rfl ?_
  refine h_iconst C dL_484 ?_
  refine h_iadd C dL_485 rfl ?_
  refine h_sldL C hX hbl (i + 1).toNat (Int.toNat_of_nonneg (by omega)) (by omega) (by omega) dL_486 ?_
  have hq1 := hpR_of (xs (i + 1).toNat)
  obtain ⟨hq1a, hq1b⟩ := hq1
  obtain ⟨v1, ev1⟩ : ∃ v : Int, v = (xs (i + 1).toNat).toInt := ⟨_, rfl⟩
  rw [← ev1] at hq1a hq1b ⊢
  refine h_aload_n C dL_487 3 rfl rfl ?_
  refine h_iload_n C dL_488 0 rfl rfl ?_
  refine h_iconst C dL_489 ?_
  refine h_iadd C dL_490 rfl ?_
  refine h_sldL C hX hbl (i + 2).toNat (Int.toNat_of_nonneg (by omega)) (by omega) (by omega) dL_491 ?_
  have hq2 := hpR_of (xs (i + 2).toNat)
  obtain ⟨hq2a, hq2b⟩ := hq2
  obtain ⟨v2, ev2⟩ : ∃ v : Int, v = (xs (i + 2).toNat).toInt := ⟨_, rfl⟩
  rw [← ev2] at hq2a hq2b ⊢
  refine h_callV (As := [.int (hpI v1), .int (hpI v2)]) (rest := []) C Z yyX8_cart wd_553 (tgX8_cart l D cy s.heap.size _ v1 ⟨by omega, by omega⟩ v2 ⟨by omega, by omega⟩ hI) kd_0 rfl rfl ⟨rfl, rfl, Nat.le_of_ble_eq_true rfl, Nat.le_of_ble_eq_true rfl⟩ ⟨Nat.le_of_ble_eq_true rfl, Nat.le_of_ble_eq_true rfl⟩ (Nat.le_of_ble_eq_true rfl) dL_492 (fun r3 τ3 hp3 => ?_)
  obtain ⟨⟨x3, rfl, ⟨hx3a, hx3b⟩⟩, rfl⟩ := hp3
  show hpV _ _ _ _ _ _ _ _ _ _ _ _ _ _ _ _ _ _ _ _ _ (_ :: _)
  refine h_pop C rfl dL_495 ?_
  refine h_aload_n C dL_496 1 rfl rfl ?_
  refine h_aload_n C dL_497 3 rfl rfl ?_
  refine h_iload_n C dL_498 0 rfl rfl ?_
  refine h_iconst C dL_499 ?_
  refine h_iadd C dL_500 rfl ?_
  refine h_sldL C hX hbl (i + 1).toNat (Int.toNat_of_nonneg (by omega)) (by omega) (by omega) dL_501 ?_
  have hq4 := hpR_of (xs (i + 1).toNat)
  obtain ⟨hq4a, hq4b⟩ := hq4
  obtain ⟨v4, ev4⟩ : ∃ v : Int, v = (xs (i + 1).toNat).toInt := ⟨_, rfl⟩
  rw [← ev4] at hq4a hq4b ⊢
  have ez4 : v1 = v4 := ev1.trans ev4.symm
  subst ez4
  refine h_aload_n C dL_502 3 rfl rfl ?_
  refine h_iload_n C dL_503 0 rfl rfl ?_
  refine h_iconst C dL_504 ?_
  refine h_iadd C dL_505 rfl ?_
  refine h_sldL C hX hbl (i + 2).toNat (Int.toNat_of_nonneg (by omega)) (by omega) (by omega) dL_506 ?_
  have hq5 := hpR_of (xs (i + 2).toNat)
  obtain ⟨hq5a, hq5b⟩ := hq5
  obtain ⟨v5, ev5⟩ : ∃ v : Int, v = (xs (i + 2).toNat).toInt := ⟨_, rfl⟩
  rw [← ev5] at hq5a hq5b ⊢
  have ez5 : v2 = v5 := ev2.trans ev5.symm
  subst ez5
  refine h_callV (As := [.int (hpI v1), .int (hpI v2)]) (rest := []) C Z yyX9_cart wd_1496 (tgX9_cart l D cy s.heap.size _ v1 ⟨by omega, by omega⟩ v2 ⟨by omega, by omega⟩ hI) kd_195 rfl rfl ⟨rfl, rfl, Nat.le_of_ble_eq_true rfl, Nat.le_of_ble_eq_true rfl⟩ ⟨Nat.le_of_ble_eq_true rfl, Nat.le_of_ble_eq_true rfl⟩ (Nat.le_of_ble_eq_true rfl) dL_507 (fun r6 τ6 hp6 => ?_)
  obtain ⟨⟨x6, rfl, ⟨hx6a, hx6b⟩⟩, rfl⟩ := hp6
  show hpV _ _ _ _ _ _ _ _ _ _ _ _ _ _ _ _ _ _ _ _ _ (_ :: _)
  refine h_pop C rfl dL_510 ?_
  refine h_goto (tgt := 2352) C dL_511 (by decide) ?_
  exact K σ hI hR
set_option maxHeartbeats 4000000 in
set_option maxRecDepth 20000 in
theorem law_6 {p : Program} {e : Env} {s : State} {m : MethodId} {below : List Frame} {meth : Method} {c : Code} (l : Launch) {b L : Nat} {xs : Nat → Int32} {D : va_G} {cy : Nat → ClassId} (C : hpC p s m #[.ref b] c code 4 RL D cy) (Z : hpStr s.heap.size cy s s.heap) (hr : meth.sig.returnType = ret) (hk : meth.locks = false) (hX : va_X b L xs s s.heap) (hbl : b < s.heap.size) (hL : L ≤ 3072) (σ : hpMem) (hI : hpInv σ) (hR : hpR72 σ) (i : Int) (hi0 : 0 ≤ i) (hi : i + 6 ≤ (L : Int)) (K : ∀ τ : hpMem, hpInv τ → hpR72 τ → hpV p l e room_1 s m #[.ref b] below meth c 217 24316 4 D cy s.heap.size s.heap (lw_Z below #[Value.ref b] s) τ 2352 [(3, .int (hpI i)), (2, .ref (s.heap.size + 195)), (1, .ref (s.heap.size + 0)), (0, .ref b)] []) : hpV p l e room_1 s m #[.ref b] below meth c 217 24316 4 D cy s.heap.size s.heap (lw_Z below #[Value.ref b] s) σ 514 [(3, .int (hpI i)), (2, .ref (s.heap.size + 195)), (1, .ref (s.heap.size + 0)), (0, .ref b)] [] := by
  refine h_aload_n C dL_514 2 rfl rfl ?_
  refine h_aload_n C dL_515 3 rfl rfl ?_
  refine h_iload_n C dL_516 0 rfl rfl ?_
  refine h_iconst C dL_517 ?_
  refine h_iadd C dL_518 rfl ?_
  refine h_sldL C hX hbl (i + 1).toNat (Int.toNat_of_nonneg (by omega)) (by omega) (by omega) dL_519 ?_
  have hq1 := hpR_of (xs (i + 1).toNat)
  obtain ⟨hq1a, hq1b⟩ := hq1
  obtain ⟨v1, ev1⟩ : ∃ v : Int, v = (xs (i + 1).toNat).toInt := ⟨_, rfl⟩
  rw [← ev1] at hq1a hq1b ⊢
  refine h_callV (As := [.int (hpI v1)]) (rest := []) C Z yyX8_heaps wd_564 (tgX8_heaps l D cy s.heap.size _ v1 ⟨by omega, by omega⟩ hI) kd_0 rfl rfl ⟨rfl, rfl, Nat.le_of_ble_eq_true rfl, Nat.le_of_ble_eq_true rfl⟩ ⟨Nat.le_of_ble_eq_true rfl, Nat.le_of_ble_eq_true rfl⟩ (Nat.le_of_ble_eq_true rfl) dL_520 (fun r2 τ2 hp2 => ?_)
  obtain ⟨⟨x2, rfl, ⟨hx2a, hx2b⟩⟩, hI2, hG2⟩ := hp2
  show hpV _ _ _ _ _ _ _ _ _ _ _ _ _ _ _ _ _ _ _ _ _ (_ :: _)
  refine h_pop C rfl dL_523 ?_
  refine h_aload_n C dL_524 1 rfl rfl ?_
  refine h_aload_n C dL_525 3 rfl rfl ?_
  refine h_iload_n C dL_526 0 rfl rfl ?_
  refine h_iconst C dL_527 ?_
  refine h_iadd C dL_528 rfl ?_
  refine h_sldL C hX hbl (i + 1).toNat (Int.toNat_of_nonneg (by omega)) (by omega) (by omega) dL_529 ?_
  have hq3 := hpR_of (xs (i + 1).toNat)
  obtain ⟨hq3a, hq3b⟩ := hq3
  obtain ⟨v3, ev3⟩ : ∃ v : Int, v = (xs (i + 1).toNat).toInt := ⟨_, rfl⟩
  rw [← ev3] at hq3a hq3b ⊢
  have ez3 : v1 = v3 := ev1.trans ev3.symm
  subst ez3
  refine h_callV (As := [.int (hpI v1)]) (rest := []) C Z yyX9_heaps wd_1508 (tgX9_heaps l D cy s.heap.size _ v1 ⟨by omega, by omega⟩ hI2) kd_195 rfl rfl ⟨rfl, rfl, Nat.le_of_ble_eq_true rfl, Nat.le_of_ble_eq_true rfl⟩ ⟨Nat.le_of_ble_eq_true rfl, Nat.le_of_ble_eq_true rfl⟩ (Nat.le_of_ble_eq_true rfl) dL_530 (fun r4 τ4 hp4 => ?_)
  obtain ⟨⟨x4, rfl, ⟨hx4a, hx4b⟩⟩, hI4, hG4⟩ := hp4
  show hpV _ _ _ _ _ _ _ _ _ _ _ _ _ _ _ _ _ _ _ _ _ (_ :: _)
  refine h_pop C rfl dL_533 ?_
  refine h_goto (tgt := 2352) C dL_534 (by decide) ?_
  exact K τ4 hI4 (hR.fr (fun j i h => (hG4 j i (by omega)).trans (hG2 j i (by omega))))
set_option maxHeartbeats 4000000 in
set_option maxRecDepth 20000 in
theorem law_7 {p : Program} {e : Env} {s : State} {m : MethodId} {below : List Frame} {meth : Method} {c : Code} (l : Launch) {b L : Nat} {xs : Nat → Int32} {D : va_G} {cy : Nat → ClassId} (C : hpC p s m #[.ref b] c code 4 RL D cy) (Z : hpStr s.heap.size cy s s.heap) (hr : meth.sig.returnType = ret) (hk : meth.locks = false) (hX : va_X b L xs s s.heap) (hbl : b < s.heap.size) (hL : L ≤ 3072) (σ : hpMem) (hI : hpInv σ) (hR : hpR72 σ) (i : Int) (hi0 : 0 ≤ i) (hi : i + 6 ≤ (L : Int)) (K : ∀ τ : hpMem, hpInv τ → hpR72 τ → hpV p l e room_1 s m #[.ref b] below meth c 217 24316 4 D cy s.heap.size s.heap (lw_Z below #[Value.ref b] s) τ 2352 [(3, .int (hpI i)), (2, .ref (s.heap.size + 195)), (1, .ref (s.heap.size + 0)), (0, .ref b)] []) : hpV p l e room_1 s m #[.ref b] below meth c 217 24316 4 D cy s.heap.size s.heap (lw_Z below #[Value.ref b] s) σ 537 [(3, .int (hpI i)), (2, .ref (s.heap.size + 195)), (1, .ref (s.heap.size + 0)), (0, .ref b)] [] := by
  refine h_aload_n C dL_537 2 rfl rfl ?_
  refine h_aload_n C dL_538 3 rfl rfl ?_
  refine h_iload_n C dL_539 0 rfl rfl ?_
  refine h_iconst C dL_540 ?_
  refine h_iadd C dL_541 rfl ?_
  refine h_sldL C hX hbl (i + 1).toNat (Int.toNat_of_nonneg (by omega)) (by omega) (by omega) dL_542 ?_
  have hq1 := hpR_of (xs (i + 1).toNat)
  obtain ⟨hq1a, hq1b⟩ := hq1
  obtain ⟨v1, ev1⟩ : ∃ v : Int, v = (xs (i + 1).toNat).toInt := ⟨_, rfl⟩
  rw [← ev1] at hq1a hq1b ⊢
  refine h_aload_n C dL_543 3 rfl rfl ?_
  refine h_iload_n C dL_544 0 rfl rfl ?_
  refine h_iconst C dL_545 ?_
  refine h_iadd C dL_546 rfl ?_
  refine h_sldL C hX hbl (i + 2).toNat (Int.toNat_of_nonneg (by omega)) (by omega) (by omega) dL_547 ?_
  have hq2 := hpR_of (xs (i + 2).toNat)
  obtain ⟨hq2a, hq2b⟩ := hq2
  obtain ⟨v2, ev2⟩ : ∃ v : Int, v = (xs (i + 2).toNat).toInt := ⟨_, rfl⟩
  rw [← ev2] at hq2a hq2b ⊢
  refine h_callV (As := [.int (hpI v1), .int (hpI v2)]) (rest := []) C Z yyX8_heap wd_635 (tgX8_heap l D cy s.heap.size _ v1 ⟨by omega, by omega⟩ v2 ⟨by omega, by omega⟩ hI) kd_0 rfl rfl ⟨rfl, rfl, Nat.le_of_ble_eq_true rfl, Nat.le_of_ble_eq_true rfl⟩ ⟨Nat.le_of_ble_eq_true rfl, Nat.le_of_ble_eq_true rfl⟩ (Nat.le_of_ble_eq_true rfl) dL_548 (fun r3 τ3 hp3 => ?_)
  obtain ⟨⟨x3, rfl, ⟨hx3a, hx3b⟩⟩, hI3, hG3⟩ := hp3
  show hpV _ _ _ _ _ _ _ _ _ _ _ _ _ _ _ _ _ _ _ _ _ (_ :: _)
  refine h_pop C rfl dL_551 ?_
  refine h_aload_n C dL_552 1 rfl rfl ?_
  refine h_aload_n C dL_553 3 rfl rfl ?_
  refine h_iload_n C dL_554 0 rfl rfl ?_
  refine h_iconst C dL_555 ?_
  refine h_iadd C dL_556 rfl ?_
  refine h_sldL C hX hbl (i + 1).toNat (Int.toNat_of_nonneg (by omega)) (by omega) (by omega) dL_557 ?_
  have hq4 := hpR_of (xs (i + 1).toNat)
  obtain ⟨hq4a, hq4b⟩ := hq4
  obtain ⟨v4, ev4⟩ : ∃ v : Int, v = (xs (i + 1).toNat).toInt := ⟨_, rfl⟩
  rw [← ev4] at hq4a hq4b ⊢
  have ez4 : v1 = v4 := ev1.trans ev4.symm
  subst ez4
  refine h_aload_n C dL_558 3 rfl rfl ?_
  refine h_iload_n C dL_559 0 rfl rfl ?_
  refine h_iconst C dL_560 ?_
  refine h_iadd C dL_561 rfl ?_
  refine h_sldL C hX hbl (i + 2).toNat (Int.toNat_of_nonneg (by omega)) (by omega) (by omega) dL_562 ?_
  have hq5 := hpR_of (xs (i + 2).toNat)
  obtain ⟨hq5a, hq5b⟩ := hq5
  obtain ⟨v5, ev5⟩ : ∃ v : Int, v = (xs (i + 2).toNat).toInt := ⟨_, rfl⟩
  rw [← ev5] at hq5a hq5b ⊢
  have ez5 : v2 = v5 := ev2.trans ev5.symm
  subst ez5
  refine h_callV (As := [.int (hpI v1), .int (hpI v2)]) (rest := []) C Z yyX9_heap wd_1579 (tgX9_heap l D cy s.heap.size _ v1 ⟨by omega, by omega⟩ v2 ⟨by omega, by omega⟩ hI3) kd_195 rfl rfl ⟨rfl, rfl, Nat.le_of_ble_eq_true rfl, Nat.le_of_ble_eq_true rfl⟩ ⟨Nat.le_of_ble_eq_true rfl, Nat.le_of_ble_eq_true rfl⟩ (Nat.le_of_ble_eq_true rfl) dL_563 (fun r6 τ6 hp6 => ?_)
  obtain ⟨⟨x6, rfl, ⟨hx6a, hx6b⟩⟩, hI6, hG6⟩ := hp6
  show hpV _ _ _ _ _ _ _ _ _ _ _ _ _ _ _ _ _ _ _ _ _ (_ :: _)
  refine h_pop C rfl dL_566 ?_
  refine h_goto (tgt := 2352) C dL_567 (by decide) ?_
  exact K τ6 hI6 (hR.fr (fun j i h => (hG6 j i (by omega)).trans (hG3 j i (by omega))))
set_option maxHeartbeats 4000000 in
set_option maxRecDepth 20000 in
theorem law_8 {p : Program} {e : Env} {s : State} {m : MethodId} {below : List Frame} {meth : Method} {c : Code} (l : Launch) {b L : Nat} {xs : Nat → Int32} {D : va_G} {cy : Nat → ClassId} (C : hpC p s m #[.ref b] c code 4 RL D cy) (Z : hpStr s.heap.size cy s s.heap) (hr : meth.sig.returnType = ret) (hk : meth.locks = false) (hX : va_X b L xs s s.heap) (hbl : b < s.heap.size) (hL : L ≤ 3072) (σ : hpMem) (hI : hpInv σ) (hR : hpR72 σ) (i : Int) (hi0 : 0 ≤ i) (hi : i + 6 ≤ (L : Int)) (K : ∀ τ : hpMem, hpInv τ → hpR72 τ → hpV p l e room_1 s m #[.ref b] below meth c 217 24316 4 D cy s.heap.size s.heap (lw_Z below #[Value.ref b] s) τ 2352 [(3, .int (hpI i)), (2, .ref (s.heap.size + 195)), (1, .ref (s.heap.size + 0)), (0, .ref b)] []) : hpV p l e room_1 s m #[.ref b] below meth c 217 24316 4 D cy s.heap.size s.heap (lw_Z below #[Value.ref b] s) σ 570 [(3, .int (hpI i)), (2, .ref (s.heap.size + 195)), (1, .ref (s.heap.size + 0)), (0, .ref b)] [] := by
  refine h_aload_n C dL_570 2 rfl rfl ?_
  refine h_aload_n C dL_571 3 rfl rfl ?_
  refine h_iload_n C dL_572 0 rfl rfl ?_
  refine h_iconst C dL_573 ?_
  refine h_iadd C dL_574 rfl ?_
  refine h_sldL C hX hbl (i + 1).toNat (Int.toNat_of_nonneg (by omega)) (by omega) (by omega) dL_575 ?_
  have hq1 := hpR_of (xs (i + 1).toNat)
  obtain ⟨hq1a, hq1b⟩ := hq1
  obtain ⟨v1, ev1⟩ : ∃ v : Int, v = (xs (i + 1).toNat).toInt := ⟨_, rfl⟩
  rw [← ev1] at hq1a hq1b ⊢
  refine h_callV (As := [.int (hpI v1)]) (rest := []) C Z yyX8_all wd_643 (tgX8_all l D cy s.heap.size _ v1 ⟨by omega, by omega⟩ hI) kd_0 rfl rfl ⟨rfl, rfl, Nat.le_of_ble_eq_true rfl, Nat.le_of_ble_eq_true rfl⟩ ⟨Nat.le_of_ble_eq_true rfl, Nat.le_of_ble_eq_true rfl⟩ (Nat.le_of_ble_eq_true rfl) dL_576 (fun r2 τ2 hp2 => ?_)
  obtain ⟨⟨x2, rfl, ⟨hx2a, hx2b⟩⟩, hI2, hG2⟩ := hp2
  show hpV _ _ _ _ _ _ _ _ _ _ _ _ _ _ _ _ _ _ _ _ _ (_ :: _)
  refine h_pop C rfl dL_579 ?_
  refine h_aload_n C dL_580 1 rfl rfl ?_
  refine h_aload_n C dL_581 3 rfl rfl ?_
  refine h_iload_n C dL_582 0 rfl rfl ?_
  refine h_iconst C dL_583 ?_
  refine h_iadd C dL_584 rfl ?_
  refine h_sldL C hX hbl (i + 1).toNat (Int.toNat_of_nonneg (by omega)) (by omega) (by omega) dL_585 ?_
  have hq3 := hpR_of (xs (i + 1).toNat)
  obtain ⟨hq3a, hq3b⟩ := hq3
  obtain ⟨v3, ev3⟩ : ∃ v : Int, v = (xs (i + 1).toNat).toInt := ⟨_, rfl⟩
  rw [← ev3] at hq3a hq3b ⊢
  have ez3 : v1 = v3 := ev1.trans ev3.symm
  subst ez3
  refine h_callV (As := [.int (hpI v1)]) (rest := []) C Z yyX9_all wd_1583 (tgX9_all l D cy s.heap.size _ v1 ⟨by omega, by omega⟩ hI2) kd_195 rfl rfl ⟨rfl, rfl, Nat.le_of_ble_eq_true rfl, Nat.le_of_ble_eq_true rfl⟩ ⟨Nat.le_of_ble_eq_true rfl, Nat.le_of_ble_eq_true rfl⟩ (Nat.le_of_ble_eq_true rfl) dL_586 (fun r4 τ4 hp4 => ?_)
  obtain ⟨⟨x4, rfl, ⟨hx4a, hx4b⟩⟩, hI4, hG4⟩ := hp4
  show hpV _ _ _ _ _ _ _ _ _ _ _ _ _ _ _ _ _ _ _ _ _ (_ :: _)
  refine h_pop C rfl dL_589 ?_
  refine h_goto (tgt := 2352) C dL_590 (by decide) ?_
  exact K τ4 hI4 (hR.fr (fun j i h => (hG4 j i (by omega)).trans (hG2 j i (by omega))))
set_option maxHeartbeats 4000000 in
set_option maxRecDepth 20000 in
theorem law_9 {p : Program} {e : Env} {s : State} {m : MethodId} {below : List Frame} {meth : Method} {c : Code} (l : Launch) {b L : Nat} {xs : Nat → Int32} {D : va_G} {cy : Nat → ClassId} (C : hpC p s m #[.ref b] c code 4 RL D cy) (Z : hpStr s.heap.size cy s s.heap) (hr : meth.sig.returnType = ret) (hk : meth.locks = false) (hX : va_X b L xs s s.heap) (hbl : b < s.heap.size) (hL : L ≤ 3072) (σ : hpMem) (hI : hpInv σ) (hR : hpR72 σ) (i : Int) (hi0 : 0 ≤ i) (hi : i + 6 ≤ (L : Int)) (K : ∀ τ : hpMem, hpInv τ → hpR72 τ → hpV p l e room_1 s m #[.ref b] below meth c 217 24316 4 D cy s.heap.size s.heap (lw_Z below #[Value.ref b] s) τ 2352 [(3, .int (hpI i)), (2, .ref (s.heap.size + 195)), (1, .ref (s.heap.size + 0)), (0, .ref b)] []) : hpV p l e room_1 s m #[.ref b] below meth c 217 24316 4 D cy s.heap.size s.heap (lw_Z below #[Value.ref b] s) σ 593 [(3, .int (hpI i)), (2, .ref (s.heap.size + 195)), (1, .ref (s.heap.size + 0)), (0, .ref b)] [] := by
  refine h_aload_n C dL_593 2 rfl rfl ?_
  refine h_aload_n C dL_594 3 rfl rfl ?_
  refine h_iload_n C dL_595 0 rfl rfl ?_
  refine h_iconst C dL_596 ?_
  refine h_iadd C dL_597 rfl ?_
  refine h_sldL C hX hbl (i + 1).toNat (Int.toNat_of_nonneg (by omega)) (by omega) (by omega) dL_598 ?_
  have hq1 := hpR_of (xs (i + 1).toNat)
  obtain ⟨hq1a, hq1b⟩ := hq1
  obtain ⟨v1, ev1⟩ : ∃ v : Int, v = (xs (i + 1).toNat).toInt := ⟨_, rfl⟩
  rw [← ev1] at hq1a hq1b ⊢
  refine h_aload_n C dL_599 3 rfl rfl ?_
  refine h_iload_n C dL_600 0 rfl rfl ?_
  refine h_iconst C dL_601 ?_
  refine h_iadd C dL_602 rfl ?_
  refine h_sldL C hX hbl (i + 2).toNat (Int.toNat_of_nonneg (by omega)) (by omega) (by omega) dL_603 ?_
  have hq2 := hpR_of (xs (i + 2).toNat)
  obtain ⟨hq2a, hq2b⟩ := hq2
  obtain ⟨v2, ev2⟩ : ∃ v : Int, v = (xs (i + 2).toNat).toInt := ⟨_, rfl⟩
  rw [← ev2] at hq2a hq2b ⊢
  refine h_callV (As := [.int (hpI v1), .int (hpI v2)]) (rest := []) C Z yyX8_many wd_647 (tgX8_many l D cy s.heap.size _ v1 ⟨by omega, by omega⟩ v2 ⟨by omega, by omega⟩ hI) kd_0 rfl rfl ⟨rfl, rfl, Nat.le_of_ble_eq_true rfl, Nat.le_of_ble_eq_true rfl⟩ ⟨Nat.le_of_ble_eq_true rfl, Nat.le_of_ble_eq_true rfl⟩ (Nat.le_of_ble_eq_true rfl) dL_604 (fun r3 τ3 hp3 => ?_)
  obtain ⟨⟨x3, rfl, ⟨hx3a, hx3b⟩⟩, hI3, hG3⟩ := hp3
  show hpV _ _ _ _ _ _ _ _ _ _ _ _ _ _ _ _ _ _ _ _ _ (_ :: _)
  refine h_pop C rfl dL_607 ?_
  refine h_aload_n C dL_608 1 rfl rfl ?_
  refine h_aload_n C dL_609 3 rfl rfl ?_
  refine h_iload_n C dL_610 0 rfl rfl ?_
  refine h_iconst C dL_611 ?_
  refine h_iadd C dL_612 rfl ?_
  refine h_sldL C hX hbl (i + 1).toNat (Int.toNat_of_nonneg (by omega)) (by omega) (by omega) dL_613 ?_
  have hq4 := hpR_of (xs (i + 1).toNat)
  obtain ⟨hq4a, hq4b⟩ := hq4
  obtain ⟨v4, ev4⟩ : ∃ v : Int, v = (xs (i + 1).toNat).toInt := ⟨_, rfl⟩
  rw [← ev4] at hq4a hq4b ⊢
  have ez4 : v1 = v4 := ev1.trans ev4.symm
  subst ez4
  refine h_aload_n C dL_614 3 rfl rfl ?_
  refine h_iload_n C dL_615 0 rfl rfl ?_
  refine h_iconst C dL_616 ?_
  refine h_iadd C dL_617 rfl ?_
  refine h_sldL C hX hbl (i + 2).toNat (Int.toNat_of_nonneg (by omega)) (by omega) (by omega) dL_618 ?_
  have hq5 := hpR_of (xs (i + 2).toNat)
  obtain ⟨hq5a, hq5b⟩ := hq5
  obtain ⟨v5, ev5⟩ : ∃ v : Int, v = (xs (i + 2).toNat).toInt := ⟨_, rfl⟩
  rw [← ev5] at hq5a hq5b ⊢
  have ez5 : v2 = v5 := ev2.trans ev5.symm
  subst ez5
  refine h_callV (As := [.int (hpI v1), .int (hpI v2)]) (rest := []) C Z yyX9_many wd_1591 (tgX9_many l D cy s.heap.size _ v1 ⟨by omega, by omega⟩ v2 ⟨by omega, by omega⟩ hI3) kd_195 rfl rfl ⟨rfl, rfl, Nat.le_of_ble_eq_true rfl, Nat.le_of_ble_eq_true rfl⟩ ⟨Nat.le_of_ble_eq_true rfl, Nat.le_of_ble_eq_true rfl⟩ (Nat.le_of_ble_eq_true rfl) dL_619 (fun r6 τ6 hp6 => ?_)
  obtain ⟨⟨x6, rfl, ⟨hx6a, hx6b⟩⟩, hI6, hG6⟩ := hp6
  show hpV _ _ _ _ _ _ _ _ _ _ _ _ _ _ _ _ _ _ _ _ _ (_ :: _)
  refine h_pop C rfl dL_622 ?_
  refine h_goto (tgt := 2352) C dL_623 (by decide) ?_
  exact K τ6 hI6 (hR.fr (fun j i h => (hG6 j i (by omega)).trans (hG3 j i (by omega))))
set_option maxHeartbeats 4000000 in
set_option maxRecDepth 20000 in
theorem law_10 {p : Program} {e : Env} {s : State} {m : MethodId} {below : List Frame} {meth : Method} {c : Code} (l : Launch) {b L : Nat} {xs : Nat → Int32} {D : va_G} {cy : Nat → ClassId} (C : hpC p s m #[.ref b] c code 4 RL D cy) (Z : hpStr s.heap.size cy s s.heap) (hr : meth.sig.returnType = ret) (hk : meth.locks = false) (hX : va_X b L xs s s.heap) (hbl : b < s.heap.size) (hL : L ≤ 3072) (σ : hpMem) (hI : hpInv σ) (hR : hpR72 σ) (i : Int) (hi0 : 0 ≤ i) (hi : i + 6 ≤ (L : Int)) (K : ∀ τ : hpMem, hpInv τ → hpR72 τ → hpV p l e room_1 s m #[.ref b] below meth c 217 24316 4 D cy s.heap.size s.heap (lw_Z below #[Value.ref b] s) τ 2352 [(3, .int (hpI i)), (2, .ref (s.heap.size + 195)), (1, .ref (s.heap.size + 0)), (0, .ref b)] []) : hpV p l e room_1 s m #[.ref b] below meth c 217 24316 4 D cy s.heap.size s.heap (lw_Z below #[Value.ref b] s) σ 626 [(3, .int (hpI i)), (2, .ref (s.heap.size + 195)), (1, .ref (s.heap.size + 0)), (0, .ref b)] [] := by
  refine h_aload_n C dL_626 2 rfl rfl ?_
  refine h_aload_n C dL_627 3 rfl rfl ?_
  refine h_iload_n C dL_628 0 rfl rfl ?_
  refine h_iconst C dL_629 ?_
  refine h_iadd C dL_630 rfl ?_
  refine h_sldL C hX hbl (i + 1).toNat (Int.toNat_of_nonneg (by omega)) (by omega) (by omega) dL_631 ?_
  have hq1 := hpR_of (xs (i + 1).toNat)
  obtain ⟨hq1a, hq1b⟩ := hq1
  obtain ⟨v1, ev1⟩ : ∃ v : Int, v = (xs (i + 1).toNat).toInt := ⟨_, rfl⟩
  rw [← ev1] at hq1a hq1b ⊢
  refine h_callV (As := [.int (hpI v1)]) (rest := []) C Z yyX8_sorts wd_655 (tgX8_sorts l D cy s.heap.size _ v1 ⟨by omega, by omega⟩ hI) kd_0 rfl rfl ⟨rfl, rfl, Nat.le_of_ble_eq_true rfl, Nat.le_of_ble_eq_true rfl⟩ ⟨Nat.le_of_ble_eq_true rfl, Nat.le_of_ble_eq_true rfl⟩ (Nat.le_of_ble_eq_true rfl) dL_632 (fun r2 τ2 hp2 => ?_)
  obtain ⟨⟨x2, rfl, ⟨hx2a, hx2b⟩⟩, hI2, hG2⟩ := hp2
  show hpV _ _ _ _ _ _ _ _ _ _ _ _ _ _ _ _ _ _ _ _ _ (_ :: _)
  refine h_pop C rfl dL_635 ?_
  refine h_aload_n C dL_636 1 rfl rfl ?_
  refine h_aload_n C dL_637 3 rfl rfl ?_
  refine h_iload_n C dL_638 0 rfl rfl ?_
  refine h_iconst C dL_639 ?_
  refine h_iadd C dL_640 rfl ?_
  refine h_sldL C hX hbl (i + 1).toNat (Int.toNat_of_nonneg (by omega)) (by omega) (by omega) dL_641 ?_
  have hq3 := hpR_of (xs (i + 1).toNat)
  obtain ⟨hq3a, hq3b⟩ := hq3
  obtain ⟨v3, ev3⟩ : ∃ v : Int, v = (xs (i + 1).toNat).toInt := ⟨_, rfl⟩
  rw [← ev3] at hq3a hq3b ⊢
  have ez3 : v1 = v3 := ev1.trans ev3.symm
  subst ez3
  refine h_callV (As := [.int (hpI v1)]) (rest := []) C Z yyX9_sorts wd_1600 (tgX9_sorts l D cy s.heap.size _ v1 ⟨by omega, by omega⟩ hI2) kd_195 rfl rfl ⟨rfl, rfl, Nat.le_of_ble_eq_true rfl, Nat.le_of_ble_eq_true rfl⟩ ⟨Nat.le_of_ble_eq_true rfl, Nat.le_of_ble_eq_true rfl⟩ (Nat.le_of_ble_eq_true rfl) dL_642 (fun r4 τ4 hp4 => ?_)
  obtain ⟨⟨x4, rfl, ⟨hx4a, hx4b⟩⟩, hI4, hG4⟩ := hp4
  show hpV _ _ _ _ _ _ _ _ _ _ _ _ _ _ _ _ _ _ _ _ _ (_ :: _)
  refine h_pop C rfl dL_645 ?_
  refine h_goto (tgt := 2352) C dL_646 (by decide) ?_
  exact K τ4 hI4 (hR.fr (fun j i h => (hG4 j i (by omega)).trans (hG2 j i (by omega))))
set_option maxHeartbeats 4000000 in
set_option maxRecDepth 20000 in
theorem law_11 {p : Program} {e : Env} {s : State} {m : MethodId} {below : List Frame} {meth : Method} {c : Code} (l : Launch) {b L : Nat} {xs : Nat → Int32} {D : va_G} {cy : Nat → ClassId} (C : hpC p s m #[.ref b] c code 4 RL D cy) (Z : hpStr s.heap.size cy s s.heap) (hr : meth.sig.returnType = ret) (hk : meth.locks = false) (hX : va_X b L xs s s.heap) (hbl : b < s.heap.size) (hL : L ≤ 3072) (σ : hpMem) (hI : hpInv σ) (hR : hpR72 σ) (i : Int) (hi0 : 0 ≤ i) (hi : i + 6 ≤ (L : Int)) (K : ∀ τ : hpMem, hpInv τ → hpR72 τ → hpV p l e room_1 s m #[.ref b] below meth c 217 24316 4 D cy s.heap.size s.heap (lw_Z below #[Value.ref b] s) τ 2352 [(3, .int (hpI i)), (2, .ref (s.heap.size + 195)), (1, .ref (s.heap.size + 0)), (0, .ref b)] []) : hpV p l e room_1 s m #[.ref b] below meth c 217 24316 4 D cy s.heap.size s.heap (lw_Z below #[Value.ref b] s) σ 649 [(3, .int (hpI i)), (2, .ref (s.heap.size + 195)), (1, .ref (s.heap.size + 0)), (0, .ref b)] [] := by
  refine h_aload_n C dL_649 2 rfl rfl ?_
  refine h_aload_n C dL_650 3 rfl rfl ?_
  refine h_iload_n C dL_651 0 rfl rfl ?_
  refine h_iconst C dL_652 ?_
  refine h_iadd C dL_653 rfl ?_
  refine h_sldL C hX hbl (i + 1).toNat (Int.toNat_of_nonneg (by omega)) (by omega) (by omega) dL_654 ?_
  have hq1 := hpR_of (xs (i + 1).toNat)
  obtain ⟨hq1a, hq1b⟩ := hq1
  obtain ⟨v1, ev1⟩ : ∃ v : Int, v = (xs (i + 1).toNat).toInt := ⟨_, rfl⟩
  rw [← ev1] at hq1a hq1b ⊢
  refine h_callV (As := [.int (hpI v1)]) (rest := []) C Z yyX8_spread wd_659 (tgX8_spread l D cy s.heap.size _ v1 ⟨by omega, by omega⟩ hI) kd_0 rfl rfl ⟨rfl, rfl, Nat.le_of_ble_eq_true rfl, Nat.le_of_ble_eq_true rfl⟩ ⟨Nat.le_of_ble_eq_true rfl, Nat.le_of_ble_eq_true rfl⟩ (Nat.le_of_ble_eq_true rfl) dL_655 (fun r2 τ2 hp2 => ?_)
  obtain ⟨⟨x2, rfl, ⟨hx2a, hx2b⟩⟩, hI2, hG2⟩ := hp2
  show hpV _ _ _ _ _ _ _ _ _ _ _ _ _ _ _ _ _ _ _ _ _ (_ :: _)
  refine h_pop C rfl dL_658 ?_
  refine h_aload_n C dL_659 1 rfl rfl ?_
  refine h_aload_n C dL_660 3 rfl rfl ?_
  refine h_iload_n C dL_661 0 rfl rfl ?_
  refine h_iconst C dL_662 ?_
  refine h_iadd C dL_663 rfl ?_
  refine h_sldL C hX hbl (i + 1).toNat (Int.toNat_of_nonneg (by omega)) (by omega) (by omega) dL_664 ?_
  have hq3 := hpR_of (xs (i + 1).toNat)
  obtain ⟨hq3a, hq3b⟩ := hq3
  obtain ⟨v3, ev3⟩ : ∃ v : Int, v = (xs (i + 1).toNat).toInt := ⟨_, rfl⟩
  rw [← ev3] at hq3a hq3b ⊢
  have ez3 : v1 = v3 := ev1.trans ev3.symm
  subst ez3
  refine h_callV (As := [.int (hpI v1)]) (rest := []) C Z yyX9_spread wd_1604 (tgX9_spread l D cy s.heap.size _ v1 ⟨by omega, by omega⟩ hI2) kd_195 rfl rfl ⟨rfl, rfl, Nat.le_of_ble_eq_true rfl, Nat.le_of_ble_eq_true rfl⟩ ⟨Nat.le_of_ble_eq_true rfl, Nat.le_of_ble_eq_true rfl⟩ (Nat.le_of_ble_eq_true rfl) dL_665 (fun r4 τ4 hp4 => ?_)
  obtain ⟨⟨x4, rfl, ⟨hx4a, hx4b⟩⟩, hI4, hG4⟩ := hp4
  show hpV _ _ _ _ _ _ _ _ _ _ _ _ _ _ _ _ _ _ _ _ _ (_ :: _)
  refine h_pop C rfl dL_668 ?_
  refine h_goto (tgt := 2352) C dL_669 (by decide) ?_
  exact K τ4 hI4 (hR.fr (fun j i h => (hG4 j i (by omega)).trans (hG2 j i (by omega))))
set_option maxHeartbeats 4000000 in
set_option maxRecDepth 20000 in
theorem law_12 {p : Program} {e : Env} {s : State} {m : MethodId} {below : List Frame} {meth : Method} {c : Code} (l : Launch) {b L : Nat} {xs : Nat → Int32} {D : va_G} {cy : Nat → ClassId} (C : hpC p s m #[.ref b] c code 4 RL D cy) (Z : hpStr s.heap.size cy s s.heap) (hr : meth.sig.returnType = ret) (hk : meth.locks = false) (hX : va_X b L xs s s.heap) (hbl : b < s.heap.size) (hL : L ≤ 3072) (σ : hpMem) (hI : hpInv σ) (hR : hpR72 σ) (i : Int) (hi0 : 0 ≤ i) (hi : i + 6 ≤ (L : Int)) (K : ∀ τ : hpMem, hpInv τ → hpR72 τ → hpV p l e room_1 s m #[.ref b] below meth c 217 24316 4 D cy s.heap.size s.heap (lw_Z below #[Value.ref b] s) τ 2352 [(3, .int (hpI i)), (2, .ref (s.heap.size + 195)), (1, .ref (s.heap.size + 0)), (0, .ref b)] []) : hpV p l e room_1 s m #[.ref b] below meth c 217 24316 4 D cy s.heap.size s.heap (lw_Z below #[Value.ref b] s) σ 672 [(3, .int (hpI i)), (2, .ref (s.heap.size + 195)), (1, .ref (s.heap.size + 0)), (0, .ref b)] [] := by
  refine h_aload_n C dL_672 2 rfl rfl ?_
  refine h_aload_n C dL_673 3 rfl rfl ?_
  refine h_iload_n C dL_674 0 rfl rfl ?_
  refine h_iconst C dL_675 ?_
  refine h_iadd C dL_676 rfl ?_
  refine h_sldL C hX hbl (i + 1).toNat (Int.toNat_of_nonneg (by omega)) (by omega) (by omega) dL_677 ?_
  have hq1 := hpR_of (xs (i + 1).toNat)
  obtain ⟨hq1a, hq1b⟩ := hq1
  obtain ⟨v1, ev1⟩ : ∃ v : Int, v = (xs (i + 1).toNat).toInt := ⟨_, rfl⟩
  rw [← ev1] at hq1a hq1b ⊢
  refine h_callV (As := [.int (hpI v1)]) (rest := []) C Z yyX8_odd wd_671 (tgX8_odd l D cy s.heap.size _ v1 ⟨by omega, by omega⟩ hI) kd_0 rfl rfl ⟨rfl, rfl, Nat.le_of_ble_eq_true rfl, Nat.le_of_ble_eq_true rfl⟩ ⟨Nat.le_of_ble_eq_true rfl, Nat.le_of_ble_eq_true rfl⟩ (Nat.le_of_ble_eq_true rfl) dL_678 (fun r2 τ2 hp2 => ?_)
  obtain ⟨⟨x2, rfl, ⟨hx2a, hx2b⟩⟩, hI2, hG2⟩ := hp2
  show hpV _ _ _ _ _ _ _ _ _ _ _ _ _ _ _ _ _ _ _ _ _ (_ :: _)
  refine h_pop C rfl dL_681 ?_
  refine h_aload_n C dL_682 1 rfl rfl ?_
  refine h_aload_n C dL_683 3 rfl rfl ?_
  refine h_iload_n C dL_684 0 rfl rfl ?_
  refine h_iconst C dL_685 ?_
  refine h_iadd C dL_686 rfl ?_
  refine h_sldL C hX hbl (i + 1).toNat (Int.toNat_of_nonneg (by omega)) (by omega) (by omega) dL_687 ?_
  have hq3 := hpR_of (xs (i + 1).toNat)
  obtain ⟨hq3a, hq3b⟩ := hq3
  obtain ⟨v3, ev3⟩ : ∃ v : Int, v = (xs (i + 1).toNat).toInt := ⟨_, rfl⟩
  rw [← ev3] at hq3a hq3b ⊢
  have ez3 : v1 = v3 := ev1.trans ev3.symm
  subst ez3
  refine h_callV (As := [.int (hpI v1)]) (rest := []) C Z yyX9_odd wd_1596 (tgX9_odd l D cy s.heap.size _ v1 ⟨by omega, by omega⟩ hI2) kd_195 rfl rfl ⟨rfl, rfl, Nat.le_of_ble_eq_true rfl, Nat.le_of_ble_eq_true rfl⟩ ⟨Nat.le_of_ble_eq_true rfl, Nat.le_of_ble_eq_true rfl⟩ (Nat.le_of_ble_eq_true rfl) dL_688 (fun r4 τ4 hp4 => ?_)
  obtain ⟨⟨x4, rfl, ⟨hx4a, hx4b⟩⟩, hI4, hG4⟩ := hp4
  show hpV _ _ _ _ _ _ _ _ _ _ _ _ _ _ _ _ _ _ _ _ _ (_ :: _)
  refine h_pop C rfl dL_691 ?_
  refine h_goto (tgt := 2352) C dL_692 (by decide) ?_
  exact K τ4 hI4 (hR.fr (fun j i h => (hG4 j i (by omega)).trans (hG2 j i (by omega))))
set_option maxHeartbeats 4000000 in
set_option maxRecDepth 20000 in
theorem law_13 {p : Program} {e : Env} {s : State} {m : MethodId} {below : List Frame} {meth : Method} {c : Code} (l : Launch) {b L : Nat} {xs : Nat → Int32} {D : va_G} {cy : Nat → ClassId} (C : hpC p s m #[.ref b] c code 4 RL D cy) (Z : hpStr s.heap.size cy s s.heap) (hr : meth.sig.returnType = ret) (hk : meth.locks = false) (hX : va_X b L xs s s.heap) (hbl : b < s.heap.size) (hL : L ≤ 3072) (σ : hpMem) (hI : hpInv σ) (hR : hpR72 σ) (i : Int) (hi0 : 0 ≤ i) (hi : i + 6 ≤ (L : Int)) (K : ∀ τ : hpMem, hpInv τ → hpR72 τ → hpV p l e room_1 s m #[.ref b] below meth c 217 24316 4 D cy s.heap.size s.heap (lw_Z below #[Value.ref b] s) τ 2352 [(3, .int (hpI i)), (2, .ref (s.heap.size + 195)), (1, .ref (s.heap.size + 0)), (0, .ref b)] []) : hpV p l e room_1 s m #[.ref b] below meth c 217 24316 4 D cy s.heap.size s.heap (lw_Z below #[Value.ref b] s) σ 695 [(3, .int (hpI i)), (2, .ref (s.heap.size + 195)), (1, .ref (s.heap.size + 0)), (0, .ref b)] [] := by
  refine h_aload_n C dL_695 2 rfl rfl ?_
  refine h_aload_n C dL_696 3 rfl rfl ?_
  refine h_iload_n C dL_697 0 rfl rfl ?_
  refine h_iconst C dL_698 ?_
  refine h_iadd C dL_699 rfl ?_
  refine h_sldL C hX hbl (i + 1).toNat (Int.toNat_of_nonneg (by omega)) (by omega) (by omega) dL_700 ?_
  have hq1 := hpR_of (xs (i + 1).toNat)
  obtain ⟨hq1a, hq1b⟩ := hq1
  obtain ⟨v1, ev1⟩ : ∃ v : Int, v = (xs (i + 1).toNat).toInt := ⟨_, rfl⟩
  rw [← ev1] at hq1a hq1b ⊢
  refine h_callV (As := [.int (hpI v1)]) (rest := []) C Z yyX8_taken wd_679 (tgX8_taken l D cy s.heap.size _ v1 ⟨by omega, by omega⟩ hI) kd_0 rfl rfl ⟨rfl, rfl, Nat.le_of_ble_eq_true rfl, Nat.le_of_ble_eq_true rfl⟩ ⟨Nat.le_of_ble_eq_true rfl, Nat.le_of_ble_eq_true rfl⟩ (Nat.le_of_ble_eq_true rfl) dL_701 (fun r2 τ2 hp2 => ?_)
  obtain ⟨⟨x2, rfl, ⟨hx2a, hx2b⟩⟩, hI2, hG2⟩ := hp2
  show hpV _ _ _ _ _ _ _ _ _ _ _ _ _ _ _ _ _ _ _ _ _ (_ :: _)
  refine h_pop C rfl dL_704 ?_
  refine h_aload_n C dL_705 1 rfl rfl ?_
  refine h_aload_n C dL_706 3 rfl rfl ?_
  refine h_iload_n C dL_707 0 rfl rfl ?_
  refine h_iconst C dL_708 ?_
  refine h_iadd C dL_709 rfl ?_
  refine h_sldL C hX hbl (i + 1).toNat (Int.toNat_of_nonneg (by omega)) (by omega) (by omega) dL_710 ?_
  have hq3 := hpR_of (xs (i + 1).toNat)
  obtain ⟨hq3a, hq3b⟩ := hq3
  obtain ⟨v3, ev3⟩ : ∃ v : Int, v = (xs (i + 1).toNat).toInt := ⟨_, rfl⟩
  rw [← ev3] at hq3a hq3b ⊢
  have ez3 : v1 = v3 := ev1.trans ev3.symm
  subst ez3
  refine h_callV (As := [.int (hpI v1)]) (rest := []) C Z yyX9_taken wd_1608 (tgX9_taken l D cy s.heap.size _ v1 ⟨by omega, by omega⟩ hI2) kd_195 rfl rfl ⟨rfl, rfl, Nat.le_of_ble_eq_true rfl, Nat.le_of_ble_eq_true rfl⟩ ⟨Nat.le_of_ble_eq_true rfl, Nat.le_of_ble_eq_true rfl⟩ (Nat.le_of_ble_eq_true rfl) dL_711 (fun r4 τ4 hp4 => ?_)
  obtain ⟨⟨x4, rfl, ⟨hx4a, hx4b⟩⟩, hI4, hG4⟩ := hp4
  show hpV _ _ _ _ _ _ _ _ _ _ _ _ _ _ _ _ _ _ _ _ _ (_ :: _)
  refine h_pop C rfl dL_714 ?_
  refine h_goto (tgt := 2352) C dL_715 (by decide) ?_
  exact K τ4 hI4 (hR.fr (fun j i h => (hG4 j i (by omega)).trans (hG2 j i (by omega))))
set_option maxHeartbeats 4000000 in
set_option maxRecDepth 20000 in
theorem law_14 {p : Program} {e : Env} {s : State} {m : MethodId} {below : List Frame} {meth : Method} {c : Code} (l : Launch) {b L : Nat} {xs : Nat → Int32} {D : va_G} {cy : Nat → ClassId} (C : hpC p s m #[.ref b] c code 4 RL D cy) (Z : hpStr s.heap.size cy s s.heap) (hr : meth.sig.returnType = ret) (hk : meth.locks = false) (hX : va_X b L xs s s.heap) (hbl : b < s.heap.size) (hL : L ≤ 3072) (σ : hpMem) (hI : hpInv σ) (hR : hpR72 σ) (i : Int) (hi0 : 0 ≤ i) (hi : i + 6 ≤ (L : Int)) (K : ∀ τ : hpMem, hpInv τ → hpR72 τ → hpV p l e room_1 s m #[.ref b] below meth c 217 24316 4 D cy s.heap.size s.heap (lw_Z below #[Value.ref b] s) τ 2352 [(3, .int (hpI i)), (2, .ref (s.heap.size + 195)), (1, .ref (s.heap.size + 0)), (0, .ref b)] []) : hpV p l e room_1 s m #[.ref b] below meth c 217 24316 4 D cy s.heap.size s.heap (lw_Z below #[Value.ref b] s) σ 718 [(3, .int (hpI i)), (2, .ref (s.heap.size + 195)), (1, .ref (s.heap.size + 0)), (0, .ref b)] [] := by
  refine h_aload_n C dL_718 2 rfl rfl ?_
  refine h_aload_n C dL_719 3 rfl rfl ?_
  refine h_iload_n C dL_720 0 rfl rfl ?_
  refine h_iconst C dL_721 ?_
  refine h_iadd C dL_722 rfl ?_
  refine h_sldL C hX hbl (i + 1).toNat (Int.toNat_of_nonneg (by omega)) (by omega) (by omega) dL_723 ?_
  have hq1 := hpR_of (xs (i + 1).toNat)
  obtain ⟨hq1a, hq1b⟩ := hq1
  obtain ⟨v1, ev1⟩ : ∃ v : Int, v = (xs (i + 1).toNat).toInt := ⟨_, rfl⟩
  rw [← ev1] at hq1a hq1b ⊢
  refine h_callV (As := [.int (hpI v1)]) (rest := []) C Z yyX8_gone wd_695 (tgX8_gone l D cy s.heap.size _ v1 ⟨by omega, by omega⟩ hI) kd_0 rfl rfl ⟨rfl, rfl, Nat.le_of_ble_eq_true rfl, Nat.le_of_ble_eq_true rfl⟩ ⟨Nat.le_of_ble_eq_true rfl, Nat.le_of_ble_eq_true rfl⟩ (Nat.le_of_ble_eq_true rfl) dL_724 (fun r2 τ2 hp2 => ?_)
  obtain ⟨⟨x2, rfl, ⟨hx2a, hx2b⟩⟩, hI2, hG2⟩ := hp2
  show hpV _ _ _ _ _ _ _ _ _ _ _ _ _ _ _ _ _ _ _ _ _ (_ :: _)
  refine h_pop C rfl dL_727 ?_
  refine h_aload_n C dL_728 1 rfl rfl ?_
  refine h_aload_n C dL_729 3 rfl rfl ?_
  refine h_iload_n C dL_730 0 rfl rfl ?_
  refine h_iconst C dL_731 ?_
  refine h_iadd C dL_732 rfl ?_
  refine h_sldL C hX hbl (i + 1).toNat (Int.toNat_of_nonneg (by omega)) (by omega) (by omega) dL_733 ?_
  have hq3 := hpR_of (xs (i + 1).toNat)
  obtain ⟨hq3a, hq3b⟩ := hq3
  obtain ⟨v3, ev3⟩ : ∃ v : Int, v = (xs (i + 1).toNat).toInt := ⟨_, rfl⟩
  rw [← ev3] at hq3a hq3b ⊢
  have ez3 : v1 = v3 := ev1.trans ev3.symm
  subst ez3
  refine h_callV (As := [.int (hpI v1)]) (rest := []) C Z yyX9_gone wd_1616 (tgX9_gone l D cy s.heap.size _ v1 ⟨by omega, by omega⟩ hI2) kd_195 rfl rfl ⟨rfl, rfl, Nat.le_of_ble_eq_true rfl, Nat.le_of_ble_eq_true rfl⟩ ⟨Nat.le_of_ble_eq_true rfl, Nat.le_of_ble_eq_true rfl⟩ (Nat.le_of_ble_eq_true rfl) dL_734 (fun r4 τ4 hp4 => ?_)
  obtain ⟨⟨x4, rfl, ⟨hx4a, hx4b⟩⟩, hI4, hG4⟩ := hp4
  show hpV _ _ _ _ _ _ _ _ _ _ _ _ _ _ _ _ _ _ _ _ _ (_ :: _)
  refine h_pop C rfl dL_737 ?_
  refine h_goto (tgt := 2352) C dL_738 (by decide) ?_
  exact K τ4 hI4 (hR.fr (fun j i h => (hG4 j i (by omega)).trans (hG2 j i (by omega))))
set_option maxHeartbeats 4000000 in
set_option maxRecDepth 20000 in
theorem law_15 {p : Program} {e : Env} {s : State} {m : MethodId} {below : List Frame} {meth : Method} {c : Code} (l : Launch) {b L : Nat} {xs : Nat → Int32} {D : va_G} {cy : Nat → ClassId} (C : hpC p s m #[.ref b] c code 4 RL D cy) (Z : hpStr s.heap.size cy s s.heap) (hr : meth.sig.returnType = ret) (hk : meth.locks = false) (hX : va_X b L xs s s.heap) (hbl : b < s.heap.size) (hL : L ≤ 3072) (σ : hpMem) (hI : hpInv σ) (hR : hpR72 σ) (i : Int) (hi0 : 0 ≤ i) (hi : i + 6 ≤ (L : Int)) (K : ∀ τ : hpMem, hpInv τ → hpR72 τ → hpV p l e room_1 s m #[.ref b] below meth c 217 24316 4 D cy s.heap.size s.heap (lw_Z below #[Value.ref b] s) τ 2352 [(3, .int (hpI i)), (2, .ref (s.heap.size + 195)), (1, .ref (s.heap.size + 0)), (0, .ref b)] []) : hpV p l e room_1 s m #[.ref b] below meth c 217 24316 4 D cy s.heap.size s.heap (lw_Z below #[Value.ref b] s) σ 741 [(3, .int (hpI i)), (2, .ref (s.heap.size + 195)), (1, .ref (s.heap.size + 0)), (0, .ref b)] [] := by
  refine h_aload_n C dL_741 2 rfl rfl ?_
  refine h_callV (As := []) (rest := []) C Z yyX8_most wd_703 (tgX8_most l D cy s.heap.size _ hI) kd_0 rfl rfl ⟨rfl, rfl, Nat.le_of_ble_eq_true rfl, Nat.le_of_ble_eq_true rfl⟩ ⟨Nat.le_of_ble_eq_true rfl, Nat.le_of_ble_eq_true rfl⟩ (Nat.le_of_ble_eq_true rfl) dL_742 (fun r1 τ1 hp1 => ?_)
  obtain ⟨⟨x1, rfl, ⟨hx1a, hx1b⟩⟩, hI1, hG1⟩ := hp1
  show hpV _ _ _ _ _ _ _ _ _ _ _ _ _ _ _ _ _ _ _ _ _ (_ :: _)
  refine h_pop C rfl dL_745 ?_
  refine h_aload_n C dL_746 1 rfl rfl ?_
  refine h_callV (As := []) (rest := []) C Z yyX9_most wd_1620 (tgX9_most l D cy s.heap.size _ hI1) kd_195 rfl rfl ⟨rfl, rfl, Nat.le_of_ble_eq_true rfl, Nat.le_of_ble_eq_true rfl⟩ ⟨Nat.le_of_ble_eq_true rfl, Nat.le_of_ble_eq_true rfl⟩ (Nat.le_of_ble_eq_true rfl) dL_747 (fun r2 τ2 hp2 => ?_)
  obtain ⟨⟨x2, rfl, ⟨hx2a, hx2b⟩⟩, hI2, hG2⟩ := hp2
  show hpV _ _ _ _ _ _ _ _ _ _ _ _ _ _ _ _ _ _ _ _ _ (_ :: _)
  refine h_pop C rfl dL_750 ?_
  refine h_goto (tgt := 2352) C dL_751 (by decide) ?_
  exact K τ2 hI2 (hR.fr (fun j i h => (hG2 j i (by omega)).trans (hG1 j i (by omega))))
set_option maxHeartbeats 4000000 in
set_option maxRecDepth 20000 in
theorem law_16 {p : Program} {e : Env} {s : State} {m : MethodId} {below : List Frame} {meth : Method} {c : Code} (l : Launch) {b L : Nat} {xs : Nat → Int32} {D : va_G} {cy : Nat → ClassId} (C : hpC p s m #[.ref b] c code 4 RL D cy) (Z : hpStr s.heap.size cy s s.heap) (hr : meth.sig.returnType = ret) (hk : meth.locks = false) (hX : va_X b L xs s s.heap) (hbl : b < s.heap.size) (hL : L ≤ 3072) (σ : hpMem) (hI : hpInv σ) (hR : hpR72 σ) (i : Int) (hi0 : 0 ≤ i) (hi : i + 6 ≤ (L : Int)) (K : ∀ τ : hpMem, hpInv τ → hpR72 τ → hpV p l e room_1 s m #[.ref b] below meth c 217 24316 4 D cy s.heap.size s.heap (lw_Z below #[Value.ref b] s) τ 2352 [(3, .int (hpI i)), (2, .ref (s.heap.size + 195)), (1, .ref (s.heap.size + 0)), (0, .ref b)] []) : hpV p l e room_1 s m #[.ref b] below meth c 217 24316 4 D cy s.heap.size s.heap (lw_Z below #[Value.ref b] s) σ 754 [(3, .int (hpI i)), (2, .ref (s.heap.size + 195)), (1, .ref (s.heap.size + 0)), (0, .ref b)] [] := by
  refine h_aload_n C dL_754 2 rfl rfl ?_
  refine h_callV (As := []) (rest := []) C Z yyX8_peak wd_710 (tgX8_peak l D cy s.heap.size _ hI) kd_0 rfl rfl ⟨rfl, rfl, Nat.le_of_ble_eq_true rfl, Nat.le_of_ble_eq_true rfl⟩ ⟨Nat.le_of_ble_eq_true rfl, Nat.le_of_ble_eq_true rfl⟩ (Nat.le_of_ble_eq_true rfl) dL_755 (fun r1 τ1 hp1 => ?_)
  obtain ⟨⟨x1, rfl, ⟨hx1a, hx1b⟩⟩, hI1, hG1⟩ := hp1
  show hpV _ _ _ _ _ _ _ _ _ _ _ _ _ _ _ _ _ _ _ _ _ (_ :: _)
  refine h_pop C rfl dL_758 ?_
  refine h_aload_n C dL_759 1 rfl rfl ?_
  refine h_callV (As := []) (rest := []) C Z yyX9_peak wd_1625 (tgX9_peak l D cy s.heap.size _ hI1) kd_195 rfl rfl ⟨rfl, rfl, Nat.le_of_ble_eq_true rfl, Nat.le_of_ble_eq_true rfl⟩ ⟨Nat.le_of_ble_eq_true rfl, Nat.le_of_ble_eq_true rfl⟩ (Nat.le_of_ble_eq_true rfl) dL_760 (fun r2 τ2 hp2 => ?_)
  obtain ⟨⟨x2, rfl, ⟨hx2a, hx2b⟩⟩, hI2, hG2⟩ := hp2
  show hpV _ _ _ _ _ _ _ _ _ _ _ _ _ _ _ _ _ _ _ _ _ (_ :: _)
  refine h_pop C rfl dL_763 ?_
  refine h_goto (tgt := 2352) C dL_764 (by decide) ?_
  exact K τ2 hI2 (hR.fr (fun j i h => (hG2 j i (by omega)).trans (hG1 j i (by omega))))
set_option maxHeartbeats 4000000 in
set_option maxRecDepth 20000 in
theorem law_17 {p : Program} {e : Env} {s : State} {m : MethodId} {below : List Frame} {meth : Method} {c : Code} (l : Launch) {b L : Nat} {xs : Nat → Int32} {D : va_G} {cy : Nat → ClassId} (C : hpC p s m #[.ref b] c code 4 RL D cy) (Z : hpStr s.heap.size cy s s.heap) (hr : meth.sig.returnType = ret) (hk : meth.locks = false) (hX : va_X b L xs s s.heap) (hbl : b < s.heap.size) (hL : L ≤ 3072) (σ : hpMem) (hI : hpInv σ) (hR : hpR72 σ) (i : Int) (hi0 : 0 ≤ i) (hi : i + 6 ≤ (L : Int)) (K : ∀ τ : hpMem, hpInv τ → hpR72 τ → hpV p l e room_1 s m #[.ref b] below meth c 217 24316 4 D cy s.heap.size s.heap (lw_Z below #[Value.ref b] s) τ 2352 [(3, .int (hpI i)), (2, .ref (s.heap.size + 195)), (1, .ref (s.heap.size + 0)), (0, .ref b)] []) : hpV p l e room_1 s m #[.ref b] below meth c 217 24316 4 D cy s.heap.size s.heap (lw_Z below #[Value.ref b] s) σ 767 [(3, .int (hpI i)), (2, .ref (s.heap.size + 195)), (1, .ref (s.heap.size + 0)), (0, .ref b)] [] := by
  refine h_aload_n C dL_767 2 rfl rfl ?_
  refine h_aload_n C dL_768 3 rfl rfl ?_
  refine h_iload_n C dL_769 0 rfl rfl ?_
  refine h_iconst C dL_770 ?_
  refine h_iadd C dL_771 rfl ?_
  refine h_sldL C hX hbl (i + 1).toNat (Int.toNat_of_nonneg (by omega)) (by omega) (by omega) dL_772 ?_
  have hq1 := hpR_of (xs (i + 1).toNat)
  obtain ⟨hq1a, hq1b⟩ := hq1
  obtain ⟨v1, ev1⟩ : ∃ v : Int, v = (xs (i + 1).toNat).toInt := ⟨_, rfl⟩
  rw [← ev1] at hq1a hq1b ⊢
  refine h_callV (As := [.int (hpI v1)]) (rest := []) C Z yyX8_same wd_714 (tgX8_same l D cy s.heap.size _ v1 ⟨by omega, by omega⟩ hI) kd_0 rfl rfl ⟨rfl, rfl, Nat.le_of_ble_eq_true rfl, Nat.le_of_ble_eq_true rfl⟩ ⟨Nat.le_of_ble_eq_true rfl, Nat.le_of_ble_eq_true rfl⟩ (Nat.le_of_ble_eq_true rfl) dL_773 (fun r2 τ2 hp2 => ?_)
  obtain ⟨⟨x2, rfl, ⟨hx2a, hx2b⟩⟩, hI2, hG2⟩ := hp2
  show hpV _ _ _ _ _ _ _ _ _ _ _ _ _ _ _ _ _ _ _ _ _ (_ :: _)
  refine h_pop C rfl dL_776 ?_
  refine h_aload_n C dL_777 1 rfl rfl ?_
  refine h_aload_n C dL_778 3 rfl rfl ?_
  refine h_iload_n C dL_779 0 rfl rfl ?_
  refine h_iconst C dL_780 ?_
  refine h_iadd C dL_781 rfl ?_
  refine h_sldL C hX hbl (i + 1).toNat (Int.toNat_of_nonneg (by omega)) (by omega) (by omega) dL_782 ?_
  have hq3 := hpR_of (xs (i + 1).toNat)
  obtain ⟨hq3a, hq3b⟩ := hq3
  obtain ⟨v3, ev3⟩ : ∃ v : Int, v = (xs (i + 1).toNat).toInt := ⟨_, rfl⟩
  rw [← ev3] at hq3a hq3b ⊢
  have ez3 : v1 = v3 := ev1.trans ev3.symm
  subst ez3
  refine h_callV (As := [.int (hpI v1)]) (rest := []) C Z yyX9_same wd_1633 (tgX9_same l D cy s.heap.size _ v1 ⟨by omega, by omega⟩ hI2) kd_195 rfl rfl ⟨rfl, rfl, Nat.le_of_ble_eq_true rfl, Nat.le_of_ble_eq_true rfl⟩ ⟨Nat.le_of_ble_eq_true rfl, Nat.le_of_ble_eq_true rfl⟩ (Nat.le_of_ble_eq_true rfl) dL_783 (fun r4 τ4 hp4 => ?_)
  obtain ⟨⟨x4, rfl, ⟨hx4a, hx4b⟩⟩, hI4, hG4⟩ := hp4
  show hpV _ _ _ _ _ _ _ _ _ _ _ _ _ _ _ _ _ _ _ _ _ (_ :: _)
  refine h_pop C rfl dL_786 ?_
  refine h_goto (tgt := 2352) C dL_787 (by decide) ?_
  exact K τ4 hI4 (hR.fr (fun j i h => (hG4 j i (by omega)).trans (hG2 j i (by omega))))
set_option maxHeartbeats 4000000 in
set_option maxRecDepth 20000 in
theorem law_18 {p : Program} {e : Env} {s : State} {m : MethodId} {below : List Frame} {meth : Method} {c : Code} (l : Launch) {b L : Nat} {xs : Nat → Int32} {D : va_G} {cy : Nat → ClassId} (C : hpC p s m #[.ref b] c code 4 RL D cy) (Z : hpStr s.heap.size cy s s.heap) (hr : meth.sig.returnType = ret) (hk : meth.locks = false) (hX : va_X b L xs s s.heap) (hbl : b < s.heap.size) (hL : L ≤ 3072) (σ : hpMem) (hI : hpInv σ) (hR : hpR72 σ) (i : Int) (hi0 : 0 ≤ i) (hi : i + 6 ≤ (L : Int)) (K : ∀ τ : hpMem, hpInv τ → hpR72 τ → hpV p l e room_1 s m #[.ref b] below meth c 217 24316 4 D cy s.heap.size s.heap (lw_Z below #[Value.ref b] s) τ 2352 [(3, .int (hpI i)), (2, .ref (s.heap.size + 195)), (1, .ref (s.heap.size + 0)), (0, .ref b)] []) : hpV p l e room_1 s m #[.ref b] below meth c 217 24316 4 D cy s.heap.size s.heap (lw_Z below #[Value.ref b] s) σ 790 [(3, .int (hpI i)), (2, .ref (s.heap.size + 195)), (1, .ref (s.heap.size + 0)), (0, .ref b)] [] := by
  refine h_aload_n C dL_790 2 rfl rfl ?_
  refine h_callV (As := []) (rest := []) C Z yyX8_still wd_726 (tgX8_still l D cy s.heap.size _ hI) kd_0 rfl rfl ⟨rfl, rfl, Nat.le_of_ble_eq_true rfl, Nat.le_of_ble_eq_true rfl⟩ ⟨Nat.le_of_ble_eq_true rfl, Nat.le_of_ble_eq_true rfl⟩ (Nat.le_of_ble_eq_true rfl) dL_791 (fun r1 τ1 hp1 => ?_)
  obtain ⟨⟨x1, rfl, ⟨hx1a, hx1b⟩⟩, hI1, hG1⟩ := hp1
  show hpV _ _ _ _ _ _ _ _ _ _ _ _ _ _ _ _ _ _ _ _ _ (_ :: _)
  refine h_pop C rfl dL_794 ?_
  refine h_aload_n C dL_795 1 rfl rfl ?_
  refine h_callV (As := []) (rest := []) C Z yyX9_still wd_1645 (tgX9_still l D cy s.heap.size _ hI1) kd_195 rfl rfl ⟨rfl, rfl, Nat.le_of_ble_eq_true rfl, Nat.le_of_ble_eq_true rfl⟩ ⟨Nat.le_of_ble_eq_true rfl, Nat.le_of_ble_eq_true rfl⟩ (Nat.le_of_ble_eq_true rfl) dL_796 (fun r2 τ2 hp2 => ?_)
  obtain ⟨⟨x2, rfl, ⟨hx2a, hx2b⟩⟩, hI2, hG2⟩ := hp2
  show hpV _ _ _ _ _ _ _ _ _ _ _ _ _ _ _ _ _ _ _ _ _ (_ :: _)
  refine h_pop C rfl dL_799 ?_
  refine h_goto (tgt := 2352) C dL_800 (by decide) ?_
  exact K τ2 hI2 (hR.fr (fun j i h => (hG2 j i (by omega)).trans (hG1 j i (by omega))))
set_option maxHeartbeats 4000000 in
set_option maxRecDepth 20000 in
theorem law_19 {p : Program} {e : Env} {s : State} {m : MethodId} {below : List Frame} {meth : Method} {c : Code} (l : Launch) {b L : Nat} {xs : Nat → Int32} {D : va_G} {cy : Nat → ClassId} (C : hpC p s m #[.ref b] c code 4 RL D cy) (Z : hpStr s.heap.size cy s s.heap) (hr : meth.sig.returnType = ret) (hk : meth.locks = false) (hX : va_X b L xs s s.heap) (hbl : b < s.heap.size) (hL : L ≤ 3072) (σ : hpMem) (hI : hpInv σ) (hR : hpR72 σ) (i : Int) (hi0 : 0 ≤ i) (hi : i + 6 ≤ (L : Int)) (K : ∀ τ : hpMem, hpInv τ → hpR72 τ → hpV p l e room_1 s m #[.ref b] below meth c 217 24316 4 D cy s.heap.size s.heap (lw_Z below #[Value.ref b] s) τ 2352 [(3, .int (hpI i)), (2, .ref (s.heap.size + 195)), (1, .ref (s.heap.size + 0)), (0, .ref b)] []) : hpV p l e room_1 s m #[.ref b] below meth c 217 24316 4 D cy s.heap.size s.heap (lw_Z below #[Value.ref b] s) σ 803 [(3, .int (hpI i)), (2, .ref (s.heap.size + 195)), (1, .ref (s.heap.size + 0)), (0, .ref b)] [] := by
  refine h_aload_n C dL_803 2 rfl rfl ?_
  refine h_callV (As := []) (rest := []) C Z yyX8_rows wd_730 (tgX8_rows l D cy s.heap.size _ hI) kd_0 rfl rfl ⟨rfl, rfl, Nat.le_of_ble_eq_true rfl, Nat.le_of_ble_eq_true rfl⟩ ⟨Nat.le_of_ble_eq_true rfl, Nat.le_of_ble_eq_true rfl⟩ (Nat.le_of_ble_eq_true rfl) dL_804 (fun r1 τ1 hp1 => ?_)
  obtain ⟨⟨x1, rfl, ⟨hx1a, hx1b⟩⟩, hI1, hG1⟩ := hp1
  show hpV _ _ _ _ _ _ _ _ _ _ _ _ _ _ _ _ _ _ _ _ _ (_ :: _)
  refine h_pop C rfl dL_807 ?_
  refine h_aload_n C dL_808 1 rfl rfl ?_
  refine h_callV (As := []) (rest := []) C Z yyX9_rows wd_1649 (tgX9_rows l D cy s.heap.size _ hI1) kd_195 rfl rfl ⟨rfl, rfl, Nat.le_of_ble_eq_true rfl, Nat.le_of_ble_eq_true rfl⟩ ⟨Nat.le_of_ble_eq_true rfl, Nat.le_of_ble_eq_true rfl⟩ (Nat.le_of_ble_eq_true rfl) dL_809 (fun r2 τ2 hp2 => ?_)
  obtain ⟨⟨x2, rfl, ⟨hx2a, hx2b⟩⟩, hI2, hG2⟩ := hp2
  show hpV _ _ _ _ _ _ _ _ _ _ _ _ _ _ _ _ _ _ _ _ _ (_ :: _)
  refine h_pop C rfl dL_812 ?_
  refine h_goto (tgt := 2352) C dL_813 (by decide) ?_
  exact K τ2 hI2 (hR.fr (fun j i h => (hG2 j i (by omega)).trans (hG1 j i (by omega))))
set_option maxHeartbeats 4000000 in
set_option maxRecDepth 20000 in
theorem law_20 {p : Program} {e : Env} {s : State} {m : MethodId} {below : List Frame} {meth : Method} {c : Code} (l : Launch) {b L : Nat} {xs : Nat → Int32} {D : va_G} {cy : Nat → ClassId} (C : hpC p s m #[.ref b] c code 4 RL D cy) (Z : hpStr s.heap.size cy s s.heap) (hr : meth.sig.returnType = ret) (hk : meth.locks = false) (hX : va_X b L xs s s.heap) (hbl : b < s.heap.size) (hL : L ≤ 3072) (σ : hpMem) (hI : hpInv σ) (hR : hpR72 σ) (i : Int) (hi0 : 0 ≤ i) (hi : i + 6 ≤ (L : Int)) (K : ∀ τ : hpMem, hpInv τ → hpR72 τ → hpV p l e room_1 s m #[.ref b] below meth c 217 24316 4 D cy s.heap.size s.heap (lw_Z below #[Value.ref b] s) τ 2352 [(3, .int (hpI i)), (2, .ref (s.heap.size + 195)), (1, .ref (s.heap.size + 0)), (0, .ref b)] []) : hpV p l e room_1 s m #[.ref b] below meth c 217 24316 4 D cy s.heap.size s.heap (lw_Z below #[Value.ref b] s) σ 816 [(3, .int (hpI i)), (2, .ref (s.heap.size + 195)), (1, .ref (s.heap.size + 0)), (0, .ref b)] [] := by
  refine h_aload_n C dL_816 2 rfl rfl ?_
  refine h_aload_n C dL_817 3 rfl rfl ?_
  refine h_iload_n C dL_818 0 rfl rfl ?_
  refine h_iconst C dL_819 ?_
  refine h_iadd C dL_820 rfl ?_
  refine h_sldL C hX hbl (i + 1).toNat (Int.toNat_of_nonneg (by omega)) (by omega) (by omega) dL_821 ?_
  have hq1 := hpR_of (xs (i + 1).toNat)
  obtain ⟨hq1a, hq1b⟩ := hq1
  obtain ⟨v1, ev1⟩ : ∃ v : Int, v = (xs (i + 1).toNat).toInt := ⟨_, rfl⟩
  rw [← ev1] at hq1a hq1b ⊢
  refine h_callV (As := [.int (hpI v1)]) (rest := []) C Z yyX8_stair wd_734 (tgX8_stair l D cy s.heap.size _ v1 ⟨by omega, by omega⟩ hI) kd_0 rfl rfl ⟨rfl, rfl, Nat.le_of_ble_eq_true rfl, Nat.le_of_ble_eq_true rfl⟩ ⟨Nat.le_of_ble_eq_true rfl, Nat.le_of_ble_eq_true rfl⟩ (Nat.le_of_ble_eq_true rfl) dL_822 (fun r2 τ2 hp2 => ?_)
  obtain ⟨⟨x2, rfl, ⟨hx2a, hx2b⟩⟩, hI2, hG2⟩ := hp2
  show hpV _ _ _ _ _ _ _ _ _ _ _ _ _ _ _ _ _ _ _ _ _ (_ :: _)
  refine h_pop C rfl dL_825 ?_
  refine h_aload_n C dL_826 1 rfl rfl ?_
  refine h_aload_n C dL_827 3 rfl rfl ?_
  refine h_iload_n C dL_828 0 rfl rfl ?_
  refine h_iconst C dL_829 ?_
  refine h_iadd C dL_830 rfl ?_
  refine h_sldL C hX hbl (i + 1).toNat (Int.toNat_of_nonneg (by omega)) (by omega) (by omega) dL_831 ?_
  have hq3 := hpR_of (xs (i + 1).toNat)
  obtain ⟨hq3a, hq3b⟩ := hq3
  obtain ⟨v3, ev3⟩ : ∃ v : Int, v = (xs (i + 1).toNat).toInt := ⟨_, rfl⟩
  rw [← ev3] at hq3a hq3b ⊢
  have ez3 : v1 = v3 := ev1.trans ev3.symm
  subst ez3
  refine h_callV (As := [.int (hpI v1)]) (rest := []) C Z yyX9_stair wd_1653 (tgX9_stair l D cy s.heap.size _ v1 ⟨by omega, by omega⟩ hI2) kd_195 rfl rfl ⟨rfl, rfl, Nat.le_of_ble_eq_true rfl, Nat.le_of_ble_eq_true rfl⟩ ⟨Nat.le_of_ble_eq_true rfl, Nat.le_of_ble_eq_true rfl⟩ (Nat.le_of_ble_eq_true rfl) dL_832 (fun r4 τ4 hp4 => ?_)
  obtain ⟨⟨x4, rfl, ⟨hx4a, hx4b⟩⟩, hI4, hG4⟩ := hp4
  show hpV _ _ _ _ _ _ _ _ _ _ _ _ _ _ _ _ _ _ _ _ _ (_ :: _)
  refine h_pop C rfl dL_835 ?_
  refine h_goto (tgt := 2352) C dL_836 (by decide) ?_
  exact K τ4 hI4 (hR.fr (fun j i h => (hG4 j i (by omega)).trans (hG2 j i (by omega))))
set_option maxHeartbeats 4000000 in
set_option maxRecDepth 20000 in
theorem law_21 {p : Program} {e : Env} {s : State} {m : MethodId} {below : List Frame} {meth : Method} {c : Code} (l : Launch) {b L : Nat} {xs : Nat → Int32} {D : va_G} {cy : Nat → ClassId} (C : hpC p s m #[.ref b] c code 4 RL D cy) (Z : hpStr s.heap.size cy s s.heap) (hr : meth.sig.returnType = ret) (hk : meth.locks = false) (hX : va_X b L xs s s.heap) (hbl : b < s.heap.size) (hL : L ≤ 3072) (σ : hpMem) (hI : hpInv σ) (hR : hpR72 σ) (i : Int) (hi0 : 0 ≤ i) (hi : i + 6 ≤ (L : Int)) (K : ∀ τ : hpMem, hpInv τ → hpR72 τ → hpV p l e room_1 s m #[.ref b] below meth c 217 24316 4 D cy s.heap.size s.heap (lw_Z below #[Value.ref b] s) τ 2352 [(3, .int (hpI i)), (2, .ref (s.heap.size + 195)), (1, .ref (s.heap.size + 0)), (0, .ref b)] []) : hpV p l e room_1 s m #[.ref b] below meth c 217 24316 4 D cy s.heap.size s.heap (lw_Z below #[Value.ref b] s) σ 839 [(3, .int (hpI i)), (2, .ref (s.heap.size + 195)), (1, .ref (s.heap.size + 0)), (0, .ref b)] [] := by
  refine h_aload_n C dL_839 2 rfl rfl ?_
  refine h_callV (As := []) (rest := []) C Z yyX8_stairs wd_745 (tgX8_stairs l D cy s.heap.size _ hI) kd_0 rfl rfl ⟨rfl, rfl, Nat.le_of_ble_eq_true rfl, Nat.le_of_ble_eq_true rfl⟩ ⟨Nat.le_of_ble_eq_true rfl, Nat.le_of_ble_eq_true rfl⟩ (Nat.le_of_ble_eq_true rfl) dL_840 (fun r1 τ1 hp1 => ?_)
  obtain ⟨⟨x1, rfl, ⟨hx1a, hx1b⟩⟩, hI1, hG1⟩ := hp1
  show hpV _ _ _ _ _ _ _ _ _ _ _ _ _ _ _ _ _ _ _ _ _ (_ :: _)
  refine h_pop C rfl dL_843 ?_
  refine h_aload_n C dL_844 1 rfl rfl ?_
  refine h_callV (As := []) (rest := []) C Z yyX9_stairs wd_1661 (tgX9_stairs l D cy s.heap.size _ hI1) kd_195 rfl rfl ⟨rfl, rfl, Nat.le_of_ble_eq_true rfl, Nat.le_of_ble_eq_true rfl⟩ ⟨Nat.le_of_ble_eq_true rfl, Nat.le_of_ble_eq_true rfl⟩ (Nat.le_of_ble_eq_true rfl) dL_845 (fun r2 τ2 hp2 => ?_)
  obtain ⟨⟨x2, rfl, ⟨hx2a, hx2b⟩⟩, hI2, hG2⟩ := hp2
  show hpV _ _ _ _ _ _ _ _ _ _ _ _ _ _ _ _ _ _ _ _ _ (_ :: _)
  refine h_pop C rfl dL_848 ?_
  refine h_goto (tgt := 2352) C dL_849 (by decide) ?_
  exact K τ2 hI2 (hR.fr (fun j i h => (hG2 j i (by omega)).trans (hG1 j i (by omega))))
set_option maxHeartbeats 4000000 in
set_option maxRecDepth 20000 in
theorem law_22 {p : Program} {e : Env} {s : State} {m : MethodId} {below : List Frame} {meth : Method} {c : Code} (l : Launch) {b L : Nat} {xs : Nat → Int32} {D : va_G} {cy : Nat → ClassId} (C : hpC p s m #[.ref b] c code 4 RL D cy) (Z : hpStr s.heap.size cy s s.heap) (hr : meth.sig.returnType = ret) (hk : meth.locks = false) (hX : va_X b L xs s s.heap) (hbl : b < s.heap.size) (hL : L ≤ 3072) (σ : hpMem) (hI : hpInv σ) (hR : hpR72 σ) (i : Int) (hi0 : 0 ≤ i) (hi : i + 6 ≤ (L : Int)) (K : ∀ τ : hpMem, hpInv τ → hpR72 τ → hpV p l e room_1 s m #[.ref b] below meth c 217 24316 4 D cy s.heap.size s.heap (lw_Z below #[Value.ref b] s) τ 2352 [(3, .int (hpI i)), (2, .ref (s.heap.size + 195)), (1, .ref (s.heap.size + 0)), (0, .ref b)] []) : hpV p l e room_1 s m #[.ref b] below meth c 217 24316 4 D cy s.heap.size s.heap (lw_Z below #[Value.ref b] s) σ 852 [(3, .int (hpI i)), (2, .ref (s.heap.size + 195)), (1, .ref (s.heap.size + 0)), (0, .ref b)] [] := by
  refine h_aload_n C dL_852 2 rfl rfl ?_
  refine h_aload_n C dL_853 3 rfl rfl ?_
  refine h_iload_n C dL_854 0 rfl rfl ?_
  refine h_iconst C dL_855 ?_
  refine h_iadd C dL_856 rfl ?_
  refine h_sldL C hX hbl (i + 1).toNat (Int.toNat_of_nonneg (by omega)) (by omega) (by omega) dL_857 ?_
  have hq1 := hpR_of (xs (i + 1).toNat)
  obtain ⟨hq1a, hq1b⟩ := hq1
  obtain ⟨v1, ev1⟩ : ∃ v : Int, v = (xs (i + 1).toNat).toInt := ⟨_, rfl⟩
  rw [← ev1] at hq1a hq1b ⊢
  refine h_callV (As := [.int (hpI v1)]) (rest := []) C Z yyX8_square wd_749 (tgX8_square l D cy s.heap.size _ v1 ⟨by omega, by omega⟩ hI) kd_0 rfl rfl ⟨rfl, rfl, Nat.le_of_ble_eq_true rfl, Nat.le_of_ble_eq_true rfl⟩ ⟨Nat.le_of_ble_eq_true rfl, Nat.le_of_ble_eq_true rfl⟩ (Nat.le_of_ble_eq_true rfl) dL_858 (fun r2 τ2 hp2 => ?_)
  obtain ⟨⟨x2, rfl, ⟨hx2a, hx2b⟩⟩, hI2, hG2⟩ := hp2
  show hpV _ _ _ _ _ _ _ _ _ _ _ _ _ _ _ _ _ _ _ _ _ (_ :: _)
  refine h_pop C rfl dL_861 ?_
  refine h_aload_n C dL_862 1 rfl rfl ?_
  refine h_aload_n C dL_863 3 rfl rfl ?_
  refine h_iload_n C dL_864 0 rfl rfl ?_
  refine h_iconst C dL_865 ?_
  refine h_iadd C dL_866 rfl ?_
  refine h_sldL C hX hbl (i + 1).toNat (Int.toNat_of_nonneg (by omega)) (by omega) (by omega) dL_867 ?_
  have hq3 := hpR_of (xs (i + 1).toNat)
  obtain ⟨hq3a, hq3b⟩ := hq3
  obtain ⟨v3, ev3⟩ : ∃ v : Int, v = (xs (i + 1).toNat).toInt := ⟨_, rfl⟩
  rw [← ev3] at hq3a hq3b ⊢
  have ez3 : v1 = v3 := ev1.trans ev3.symm
  subst ez3
  refine h_callV (As := [.int (hpI v1)]) (rest := []) C Z yyX9_square wd_1665 (tgX9_square l D cy s.heap.size _ v1 ⟨by omega, by omega⟩ hI2) kd_195 rfl rfl ⟨rfl, rfl, Nat.le_of_ble_eq_true rfl, Nat.le_of_ble_eq_true rfl⟩ ⟨Nat.le_of_ble_eq_true rfl, Nat.le_of_ble_eq_true rfl⟩ (Nat.le_of_ble_eq_true rfl) dL_868 (fun r4 τ4 hp4 => ?_)
  obtain ⟨⟨x4, rfl, ⟨hx4a, hx4b⟩⟩, hI4, hG4⟩ := hp4
  show hpV _ _ _ _ _ _ _ _ _ _ _ _ _ _ _ _ _ _ _ _ _ (_ :: _)
  refine h_pop C rfl dL_871 ?_
  refine h_goto (tgt := 2352) C dL_872 (by decide) ?_
  exact K τ4 hI4 (hR.fr (fun j i h => (hG4 j i (by omega)).trans (hG2 j i (by omega))))
set_option maxHeartbeats 4000000 in
set_option maxRecDepth 20000 in
theorem law_23 {p : Program} {e : Env} {s : State} {m : MethodId} {below : List Frame} {meth : Method} {c : Code} (l : Launch) {b L : Nat} {xs : Nat → Int32} {D : va_G} {cy : Nat → ClassId} (C : hpC p s m #[.ref b] c code 4 RL D cy) (Z : hpStr s.heap.size cy s s.heap) (hr : meth.sig.returnType = ret) (hk : meth.locks = false) (hX : va_X b L xs s s.heap) (hbl : b < s.heap.size) (hL : L ≤ 3072) (σ : hpMem) (hI : hpInv σ) (hR : hpR72 σ) (i : Int) (hi0 : 0 ≤ i) (hi : i + 6 ≤ (L : Int)) (K : ∀ τ : hpMem, hpInv τ → hpR72 τ → hpV p l e room_1 s m #[.ref b] below meth c 217 24316 4 D cy s.heap.size s.heap (lw_Z below #[Value.ref b] s) τ 2352 [(3, .int (hpI i)), (2, .ref (s.heap.size + 195)), (1, .ref (s.heap.size + 0)), (0, .ref b)] []) : hpV p l e room_1 s m #[.ref b] below meth c 217 24316 4 D cy s.heap.size s.heap (lw_Z below #[Value.ref b] s) σ 875 [(3, .int (hpI i)), (2, .ref (s.heap.size + 195)), (1, .ref (s.heap.size + 0)), (0, .ref b)] [] := by
  refine h_aload_n C dL_875 2 rfl rfl ?_
  refine h_aload_n C dL_876 3 rfl rfl ?_
  refine h_iload_n C dL_877 0 rfl rfl ?_
  refine h_iconst C dL_878 ?_
  refine h_iadd C dL_879 rfl ?_
  refine h_sldL C hX hbl (i + 1).toNat (Int.toNat_of_nonneg (by omega)) (by omega) (by omega) dL_880 ?_
  have hq1 := hpR_of (xs (i + 1).toNat)
  obtain ⟨hq1a, hq1b⟩ := hq1
  obtain ⟨v1, ev1⟩ : ∃ v : Int, v = (xs (i + 1).toNat).toInt := ⟨_, rfl⟩
  rw [← ev1] at hq1a hq1b ⊢
  refine h_aload_n C dL_881 3 rfl rfl ?_
  refine h_iload_n C dL_882 0 rfl rfl ?_
  refine h_iconst C dL_883 ?_
  refine h_iadd C dL_884 rfl ?_
  refine h_sldL C hX hbl (i + 2).toNat (Int.toNat_of_nonneg (by omega)) (by omega) (by omega) dL_885 ?_
  have hq2 := hpR_of (xs (i + 2).toNat)
  obtain ⟨hq2a, hq2b⟩ := hq2
  obtain ⟨v2, ev2⟩ : ∃ v : Int, v = (xs (i + 2).toNat).toInt := ⟨_, rfl⟩
  rw [← ev2] at hq2a hq2b ⊢
  refine h_callV (As := [.int (hpI v1), .int (hpI v2)]) (rest := []) C Z yyX8_flip wd_761 (tgX8_flip l D cy s.heap.size _ v1 ⟨by omega, by omega⟩ v2 ⟨by omega, by omega⟩ hI) kd_0 rfl rfl ⟨rfl, rfl, Nat.le_of_ble_eq_true rfl, Nat.le_of_ble_eq_true rfl⟩ ⟨Nat.le_of_ble_eq_true rfl, Nat.le_of_ble_eq_true rfl⟩ (Nat.le_of_ble_eq_true rfl) dL_886 (fun r3 τ3 hp3 => ?_)
  obtain ⟨⟨x3, rfl, ⟨hx3a, hx3b⟩⟩, hI3, hG3⟩ := hp3
  show hpV _ _ _ _ _ _ _ _ _ _ _ _ _ _ _ _ _ _ _ _ _ (_ :: _)
  refine h_pop C rfl dL_889 ?_
  refine h_aload_n C dL_890 1 rfl rfl ?_
  refine h_aload_n C dL_891 3 rfl rfl ?_
  refine h_iload_n C dL_892 0 rfl rfl ?_
  refine h_iconst C dL_893 ?_
  refine h_iadd C dL_894 rfl ?_
  refine h_sldL C hX hbl (i + 1).toNat (Int.toNat_of_nonneg (by omega)) (by omega) (by omega) dL_895 ?_
  have hq4 := hpR_of (xs (i + 1).toNat)
  obtain ⟨hq4a, hq4b⟩ := hq4
  obtain ⟨v4, ev4⟩ : ∃ v : Int, v = (xs (i + 1).toNat).toInt := ⟨_, rfl⟩
  rw [← ev4] at hq4a hq4b ⊢
  have ez4 : v1 = v4 := ev1.trans ev4.symm
  subst ez4
  refine h_aload_n C dL_896 3 rfl rfl ?_
  refine h_iload_n C dL_897 0 rfl rfl ?_
  refine h_iconst C dL_898 ?_
  refine h_iadd C dL_899 rfl ?_
  refine h_sldL C hX hbl (i + 2).toNat (Int.toNat_of_nonneg (by omega)) (by omega) (by omega) dL_900 ?_
  have hq5 := hpR_of (xs (i + 2).toNat)
  obtain ⟨hq5a, hq5b⟩ := hq5
  obtain ⟨v5, ev5⟩ : ∃ v : Int, v = (xs (i + 2).toNat).toInt := ⟨_, rfl⟩
  rw [← ev5] at hq5a hq5b ⊢
  have ez5 : v2 = v5 := ev2.trans ev5.symm
  subst ez5
  refine h_callV (As := [.int (hpI v1), .int (hpI v2)]) (rest := []) C Z yyX9_flip wd_1669 (tgX9_flip l D cy s.heap.size _ v1 ⟨by omega, by omega⟩ v2 ⟨by omega, by omega⟩ hI3) kd_195 rfl rfl ⟨rfl, rfl, Nat.le_of_ble_eq_true rfl, Nat.le_of_ble_eq_true rfl⟩ ⟨Nat.le_of_ble_eq_true rfl, Nat.le_of_ble_eq_true rfl⟩ (Nat.le_of_ble_eq_true rfl) dL_901 (fun r6 τ6 hp6 => ?_)
  obtain ⟨⟨x6, rfl, ⟨hx6a, hx6b⟩⟩, hI6, hG6⟩ := hp6
  show hpV _ _ _ _ _ _ _ _ _ _ _ _ _ _ _ _ _ _ _ _ _ (_ :: _)
  refine h_pop C rfl dL_904 ?_
  refine h_goto (tgt := 2352) C dL_905 (by decide) ?_
  exact K τ6 hI6 (hR.fr (fun j i h => (hG6 j i (by omega)).trans (hG3 j i (by omega))))
set_option maxHeartbeats 4000000 in
set_option maxRecDepth 20000 in
theorem law_24 {p : Program} {e : Env} {s : State} {m : MethodId} {below : List Frame} {meth : Method} {c : Code} (l : Launch) {b L : Nat} {xs : Nat → Int32} {D : va_G} {cy : Nat → ClassId} (C : hpC p s m #[.ref b] c code 4 RL D cy) (Z : hpStr s.heap.size cy s s.heap) (hr : meth.sig.returnType = ret) (hk : meth.locks = false) (hX : va_X b L xs s s.heap) (hbl : b < s.heap.size) (hL : L ≤ 3072) (σ : hpMem) (hI : hpInv σ) (hR : hpR72 σ) (i : Int) (hi0 : 0 ≤ i) (hi : i + 6 ≤ (L : Int)) (K : ∀ τ : hpMem, hpInv τ → hpR72 τ → hpV p l e room_1 s m #[.ref b] below meth c 217 24316 4 D cy s.heap.size s.heap (lw_Z below #[Value.ref b] s) τ 2352 [(3, .int (hpI i)), (2, .ref (s.heap.size + 195)), (1, .ref (s.heap.size + 0)), (0, .ref b)] []) : hpV p l e room_1 s m #[.ref b] below meth c 217 24316 4 D cy s.heap.size s.heap (lw_Z below #[Value.ref b] s) σ 908 [(3, .int (hpI i)), (2, .ref (s.heap.size + 195)), (1, .ref (s.heap.size + 0)), (0, .ref b)] [] := by
  refine h_aload_n C dL_908 2 rfl rfl ?_
  refine h_aload_n C dL_909 3 rfl rfl ?_
  refine h_iload_n C dL_910 0 rfl rfl ?_
  refine h_iconst C dL_911 ?_
  refine h_iadd C dL_912 rfl ?_
  refine h_sldL C hX hbl (i + 1).toNat (Int.toNat_of_nonneg (by omega)) (by omega) (by omega) dL_913 ?_
  have hq1 := hpR_of (xs (i + 1).toNat)
  obtain ⟨hq1a, hq1b⟩ := hq1
  obtain ⟨v1, ev1⟩ : ∃ v : Int, v = (xs (i + 1).toNat).toInt := ⟨_, rfl⟩
  rw [← ev1] at hq1a hq1b ⊢
  refine h_callV (As := [.int (hpI v1)]) (rest := []) C Z yyX8_even wd_766 (tgX8_even l D cy s.heap.size _ v1 ⟨by omega, by omega⟩ hI) kd_0 rfl rfl ⟨rfl, rfl, Nat.le_of_ble_eq_true rfl, Nat.le_of_ble_eq_true rfl⟩ ⟨Nat.le_of_ble_eq_true rfl, Nat.le_of_ble_eq_true rfl⟩ (Nat.le_of_ble_eq_true rfl) dL_914 (fun r2 τ2 hp2 => ?_)
  obtain ⟨⟨x2, rfl, ⟨hx2a, hx2b⟩⟩, hI2, hG2⟩ := hp2
  show hpV _ _ _ _ _ _ _ _ _ _ _ _ _ _ _ _ _ _ _ _ _ (_ :: _)
  refine h_pop C rfl dL_917 ?_
  refine h_aload_n C dL_918 1 rfl rfl ?_
  refine h_aload_n C dL_919 3 rfl rfl ?_
  refine h_iload_n C dL_920 0 rfl rfl ?_
  refine h_iconst C dL_921 ?_
  refine h_iadd C dL_922 rfl ?_
  refine h_sldL C hX hbl (i + 1).toNat (Int.toNat_of_nonneg (by omega)) (by omega) (by omega) dL_923 ?_
  have hq3 := hpR_of (xs (i + 1).toNat)
  obtain ⟨hq3a, hq3b⟩ := hq3
  obtain ⟨v3, ev3⟩ : ∃ v : Int, v = (xs (i + 1).toNat).toInt := ⟨_, rfl⟩
  rw [← ev3] at hq3a hq3b ⊢
  have ez3 : v1 = v3 := ev1.trans ev3.symm
  subst ez3
  refine h_callV (As := [.int (hpI v1)]) (rest := []) C Z yyX9_even wd_1677 (tgX9_even l D cy s.heap.size _ v1 ⟨by omega, by omega⟩ hI2) kd_195 rfl rfl ⟨rfl, rfl, Nat.le_of_ble_eq_true rfl, Nat.le_of_ble_eq_true rfl⟩ ⟨Nat.le_of_ble_eq_true rfl, Nat.le_of_ble_eq_true rfl⟩ (Nat.le_of_ble_eq_true rfl) dL_924 (fun r4 τ4 hp4 => ?_)
  obtain ⟨⟨x4, rfl, ⟨hx4a, hx4b⟩⟩, hI4, hG4⟩ := hp4
  show hpV _ _ _ _ _ _ _ _ _ _ _ _ _ _ _ _ _ _ _ _ _ (_ :: _)
  refine h_pop C rfl dL_927 ?_
  refine h_goto (tgt := 2352) C dL_928 (by decide) ?_
  exact K τ4 hI4 (hR.fr (fun j i h => (hG4 j i (by omega)).trans (hG2 j i (by omega))))

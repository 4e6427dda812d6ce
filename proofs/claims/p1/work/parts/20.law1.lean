set_option maxHeartbeats 4000000 in
set_option maxRecDepth 20000 in
theorem law_0 {p : Program} {e : Env} {s : State} {m : MethodId} {below : List Frame} {meth : Method} {c : Code} (l : Launch) {b : Nat} {xs : Nat → Int32} {D : va_G} {cy : Nat → ClassId} (C : hpC p s m #[.ref b] c code 4 RL D cy) (hr : meth.sig.returnType = ret) (hk : meth.locks = false) (hX : va_X b 6 xs s s.heap) (hbl : b < s.heap.size) : hpV p l e room_1 s m #[.ref b] below meth c 217 24316 4 D cy s.heap.size s.heap (lw_Z below #[Value.ref b] s) hp0 336 [(3, .int (hpI 0)), (2, .ref (s.heap.size + 195)), (1, .ref (s.heap.size + 0)), (0, .ref b)] [] := by
  refine h_aload_n C dL_336 2 rfl rfl ?_
  refine h_aload_n C dL_337 3 rfl rfl ?_
  refine h_iload_n C dL_338 0 rfl rfl ?_
  refine h_iconst C dL_339 ?_
  refine h_iadd (r := 1) C dL_340 (by decide) ?_
  refine h_sld C hX hbl 1 rfl (by decide) dL_341 ?_
  obtain ⟨hq1a, hq1b⟩ := hpR_of (xs 1)
  generalize ev1 : (xs 1).toInt = v1 at hq1a hq1b ⊢
  refine h_aload_n C dL_342 3 rfl rfl ?_
  refine h_iload_n C dL_343 0 rfl rfl ?_
  refine h_iconst C dL_344 ?_
  refine h_iadd (r := 2) C dL_345 (by decide) ?_
  refine h_sld C hX hbl 2 rfl (by decide) dL_346 ?_
  obtain ⟨hq2a, hq2b⟩ := hpR_of (xs 2)
  generalize ev2 : (xs 2).toInt = v2 at hq2a hq2b ⊢
  refine h_aload_n C dL_347 3 rfl rfl ?_
  refine h_iload_n C dL_348 0 rfl rfl ?_
  refine h_iconst C dL_349 ?_
  refine h_iadd (r := 3) C dL_350 (by decide) ?_
  refine h_sld C hX hbl 3 rfl (by decide) dL_351 ?_
  obtain ⟨hq3a, hq3b⟩ := hpR_of (xs 3)
  generalize ev3 : (xs 3).toInt = v3 at hq3a hq3b ⊢
  refine h_aload_n C dL_352 3 rfl rfl ?_
  refine h_iload_n C dL_353 0 rfl rfl ?_
  refine h_iconst C dL_354 ?_
  refine h_iadd (r := 4) C dL_355 (by decide) ?_
  refine h_sld C hX hbl 4 rfl (by decide) dL_356 ?_
  obtain ⟨hq4a, hq4b⟩ := hpR_of (xs 4)
  generalize ev4 : (xs 4).toInt = v4 at hq4a hq4b ⊢
  refine h_aload_n C dL_357 3 rfl rfl ?_
  refine h_iload_n C dL_358 0 rfl rfl ?_
  refine h_iconst C dL_359 ?_
  refine h_iadd (r := 5) C dL_360 (by decide) ?_
  refine h_sld C hX hbl 5 rfl (by decide) dL_361 ?_
  obtain ⟨hq5a, hq5b⟩ := hpR_of (xs 5)
  generalize ev5 : (xs 5).toInt = v5 at hq5a hq5b ⊢
  refine h_callV (As := [.int (hpI v1), .int (hpI v2), .int (hpI v3), .int (hpI v4), .int (hpI v5)]) (rest := []) C yyX8_feed wd_398 (tX8_feed l D cy s.heap.size _ v1 ⟨by omega, by omega⟩ v2 ⟨by omega, by omega⟩ v3 ⟨by omega, by omega⟩ v4 ⟨by omega, by omega⟩ v5 ⟨by omega, by omega⟩ rfl) kd_0 rfl rfl ⟨rfl, rfl, Nat.le_of_ble_eq_true rfl, Nat.le_of_ble_eq_true rfl⟩ ⟨Nat.le_of_ble_eq_true rfl, Nat.le_of_ble_eq_true rfl⟩ (Nat.le_of_ble_eq_true rfl) dL_362 (fun r6 τ6 hp6 => ?_)
  obtain ⟨rfl, hF6⟩ := hp6
  show hpV _ _ _ _ _ _ _ _ _ _ _ _ _ _ _ _ _ _ _ _ _ (_ :: _)
  refine h_aload_n C dL_365 1 rfl rfl ?_
  refine h_aload_n C dL_366 3 rfl rfl ?_
  refine h_iload_n C dL_367 0 rfl rfl ?_
  refine h_iconst C dL_368 ?_
  refine h_iadd (r := 1) C dL_369 (by decide) ?_
  refine h_sld C hX hbl 1 rfl (by decide) dL_370 ?_
  rw [ev1]
  refine h_aload_n C dL_371 3 rfl rfl ?_
  refine h_iload_n C dL_372 0 rfl rfl ?_
  refine h_iconst C dL_373 ?_
  refine h_iadd (r := 2) C dL_374 (by decide) ?_
  refine h_sld C hX hbl 2 rfl (by decide) dL_375 ?_
  rw [ev2]
  refine h_aload_n C dL_376 3 rfl rfl ?_
  refine h_iload_n C dL_377 0 rfl rfl ?_
  refine h_iconst C dL_378 ?_
  refine h_iadd (r := 3) C dL_379 (by decide) ?_
  refine h_sld C hX hbl 3 rfl (by decide) dL_380 ?_
  rw [ev3]
  refine h_aload_n C dL_381 3 rfl rfl ?_
  refine h_iload_n C dL_382 0 rfl rfl ?_
  refine h_iconst C dL_383 ?_
  refine h_iadd (r := 4) C dL_384 (by decide) ?_
  refine h_sld C hX hbl 4 rfl (by decide) dL_385 ?_
  rw [ev4]
  refine h_aload_n C dL_386 3 rfl rfl ?_
  refine h_iload_n C dL_387 0 rfl rfl ?_
  refine h_iconst C dL_388 ?_
  refine h_iadd (r := 5) C dL_389 (by decide) ?_
  refine h_sld C hX hbl 5 rfl (by decide) dL_390 ?_
  rw [ev5]
  refine h_callV (As := [.int (hpI v1), .int (hpI v2), .int (hpI v3), .int (hpI v4), .int (hpI v5)]) (rest := [.int (hpI 20)]) C yyX9_feed wd_1408 (tX9_feed l D cy s.heap.size _ v1 ⟨by omega, by omega⟩ v2 ⟨by omega, by omega⟩ v3 ⟨by omega, by omega⟩ v4 ⟨by omega, by omega⟩ v5 ⟨by omega, by omega⟩ ((congrFun (hF6 195 (by decide) (by decide)) _).trans rfl)) kd_195 rfl rfl ⟨rfl, rfl, Nat.le_of_ble_eq_true rfl, Nat.le_of_ble_eq_true rfl⟩ ⟨Nat.le_of_ble_eq_true rfl, Nat.le_of_ble_eq_true rfl⟩ (Nat.le_of_ble_eq_true rfl) dL_391 (fun r12 τ12 hp12 => ?_)
  obtain ⟨rfl, hF12⟩ := hp12
  show hpV _ _ _ _ _ _ _ _ _ _ _ _ _ _ _ _ _ _ _ _ _ (_ :: _)
  refine h_icmp_eq (tgt := 2354) C dL_394 (by decide) ⟨by decide, by decide⟩ ⟨by decide, by decide⟩ (fun h13 => ?_) (fun h13 => ?_)
  · refine h_iinc (lv' := [(3, .int (hpI 6)), (2, .ref (s.heap.size + 195)), (1, .ref (s.heap.size + 0)), (0, .ref b)]) C dL_2354 0 rfl rfl (by decide) rfl ?_
    refine h_goto (tgt := 18) C dL_2357 (by decide) ?_
    refine h_iload_n C dL_18 0 rfl rfl ?_
    refine h_aload_n C dL_19 3 rfl rfl ?_
    refine h_slen C hX hbl dL_20 ?_
    refine h_bipush C dL_21 (by decide) ?_
    refine h_isub (r := 0) C dL_23 (by decide) ?_
    refine h_icmp_gt (tgt := 2360) C dL_24 (by decide) ⟨by decide, by decide⟩ ⟨by decide, by decide⟩ (fun h15 => ?_) (fun h15 => ?_)
    · refine h_iconst C dL_2360 ?_
      exact h_lawret C hr hk dL_2361
    · exfalso; omega
  · exfalso; omega
set_option maxHeartbeats 4000000 in
set_option maxRecDepth 20000 in
theorem law_1 {p : Program} {e : Env} {s : State} {m : MethodId} {below : List Frame} {meth : Method} {c : Code} (l : Launch) {b : Nat} {xs : Nat → Int32} {D : va_G} {cy : Nat → ClassId} (C : hpC p s m #[.ref b] c code 4 RL D cy) (hr : meth.sig.returnType = ret) (hk : meth.locks = false) (hX : va_X b 6 xs s s.heap) (hbl : b < s.heap.size) : hpV p l e room_1 s m #[.ref b] below meth c 217 24316 4 D cy s.heap.size s.heap (lw_Z below #[Value.ref b] s) hp0 399 [(3, .int (hpI 0)), (2, .ref (s.heap.size + 195)), (1, .ref (s.heap.size + 0)), (0, .ref b)] [] := by
  refine h_aload_n C dL_399 2 rfl rfl ?_
  refine h_aload_n C dL_400 3 rfl rfl ?_
  refine h_iload_n C dL_401 0 rfl rfl ?_
  refine h_iconst C dL_402 ?_
  refine h_iadd (r := 1) C dL_403 (by decide) ?_
  refine h_sld C hX hbl 1 rfl (by decide) dL_404 ?_
  obtain ⟨hq1a, hq1b⟩ := hpR_of (xs 1)
  generalize ev1 : (xs 1).toInt = v1 at hq1a hq1b ⊢
  refine h_callV (As := [.int (hpI v1)]) (rest := []) C yyX8_end wd_406 (tX8_end l D cy s.heap.size _ v1 ⟨by omega, by omega⟩ rfl) kd_0 rfl rfl ⟨rfl, rfl, Nat.le_of_ble_eq_true rfl, Nat.le_of_ble_eq_true rfl⟩ ⟨Nat.le_of_ble_eq_true rfl, Nat.le_of_ble_eq_true rfl⟩ (Nat.le_of_ble_eq_true rfl) dL_405 (fun r2 τ2 hp2 => ?_)
  obtain ⟨⟨x2, rfl, ⟨hx2a, hx2b⟩, hx2⟩, hF2⟩ := hp2
  show hpV _ _ _ _ _ _ _ _ _ _ _ _ _ _ _ _ _ _ _ _ _ (_ :: _)
  refine h_aload_n C dL_408 1 rfl rfl ?_
  refine h_aload_n C dL_409 3 rfl rfl ?_
  refine h_iload_n C dL_410 0 rfl rfl ?_
  refine h_iconst C dL_411 ?_
  refine h_iadd (r := 1) C dL_412 (by decide) ?_
  refine h_sld C hX hbl 1 rfl (by decide) dL_413 ?_
  rw [ev1]
  refine h_callV (As := [.int (hpI v1)]) (rest := [.int (hpI x2)]) C yyX9_end wd_1412 (tX9_end l D cy s.heap.size _ v1 ⟨by omega, by omega⟩ ((congrFun (hF2 195 (by decide)) _).trans rfl)) kd_195 rfl rfl ⟨rfl, rfl, Nat.le_of_ble_eq_true rfl, Nat.le_of_ble_eq_true rfl⟩ ⟨Nat.le_of_ble_eq_true rfl, Nat.le_of_ble_eq_true rfl⟩ (Nat.le_of_ble_eq_true rfl) dL_414 (fun r4 τ4 hp4 => ?_)
  obtain ⟨⟨x4, rfl, ⟨hx4a, hx4b⟩, hx4⟩, hF4⟩ := hp4
  show hpV _ _ _ _ _ _ _ _ _ _ _ _ _ _ _ _ _ _ _ _ _ (_ :: _)
  refine h_icmp_eq (tgt := 2354) C dL_417 (by decide) ⟨by omega, by omega⟩ ⟨by omega, by omega⟩ (fun h5 => ?_) (fun h5 => ?_)
  · refine h_iinc (lv' := [(3, .int (hpI 6)), (2, .ref (s.heap.size + 195)), (1, .ref (s.heap.size + 0)), (0, .ref b)]) C dL_2354 0 rfl rfl (by decide) rfl ?_
    refine h_goto (tgt := 18) C dL_2357 (by decide) ?_
    refine h_iload_n C dL_18 0 rfl rfl ?_
    refine h_aload_n C dL_19 3 rfl rfl ?_
    refine h_slen C hX hbl dL_20 ?_
    refine h_bipush C dL_21 (by decide) ?_
    refine h_isub (r := 0) C dL_23 (by decide) ?_
    refine h_icmp_gt (tgt := 2360) C dL_24 (by decide) ⟨by decide, by decide⟩ ⟨by decide, by decide⟩ (fun h7 => ?_) (fun h7 => ?_)
    · refine h_iconst C dL_2360 ?_
      exact h_lawret C hr hk dL_2361
    · exfalso; omega
  · refine h_iconst C dL_420 ?_
    exfalso; omega
set_option maxHeartbeats 4000000 in
set_option maxRecDepth 20000 in
theorem law_2 {p : Program} {e : Env} {s : State} {m : MethodId} {below : List Frame} {meth : Method} {c : Code} (l : Launch) {b : Nat} {xs : Nat → Int32} {D : va_G} {cy : Nat → ClassId} (C : hpC p s m #[.ref b] c code 4 RL D cy) (hr : meth.sig.returnType = ret) (hk : meth.locks = false) (hX : va_X b 6 xs s s.heap) (hbl : b < s.heap.size) : hpV p l e room_1 s m #[.ref b] below meth c 217 24316 4 D cy s.heap.size s.heap (lw_Z below #[Value.ref b] s) hp0 422 [(3, .int (hpI 0)), (2, .ref (s.heap.size + 195)), (1, .ref (s.heap.size + 0)), (0, .ref b)] [] := by
  refine h_aload_n C dL_422 2 rfl rfl ?_
  refine h_callV (As := []) (rest := []) C yyX8_moor wd_410 (tX8_moor l D cy s.heap.size _ rfl) kd_0 rfl rfl ⟨rfl, rfl, Nat.le_of_ble_eq_true rfl, Nat.le_of_ble_eq_true rfl⟩ ⟨Nat.le_of_ble_eq_true rfl, Nat.le_of_ble_eq_true rfl⟩ (Nat.le_of_ble_eq_true rfl) dL_423 (fun r1 τ1 hp1 => ?_)
  obtain ⟨rfl, hF1⟩ := hp1
  show hpV _ _ _ _ _ _ _ _ _ _ _ _ _ _ _ _ _ _ _ _ _ (_ :: _)
  refine h_aload_n C dL_426 1 rfl rfl ?_
  refine h_callV (As := []) (rest := [.int (hpI 0)]) C yyX9_moor wd_1420 (tX9_moor l D cy s.heap.size _ ((congrFun (hF1 195 (by decide) (by decide) (by decide) (by decide) (by decide) (by decide) (by decide) (by decide) (by decide)) _).trans rfl) (fun i => ((fun i => (congrFun (hF1 196 (by decide) (by decide) (by decide) (by decide) (by decide) (by decide) (by decide) (by decide) (by decide)) i).trans ((fun i => ((fun i => hp0_z (by decide) (by decide) (by decide) (by decide) (by decide)) i)) i)) i)) (fun i => ((fun i => (congrFun (hF1 201 (by decide) (by decide) (by decide) (by decide) (by decide) (by decide) (by decide) (by decide) (by decide)) i).trans ((fun i => ((fun i => hp0_z (by decide) (by decide) (by decide) (by decide) (by decide)) i)) i)) i))) kd_195 rfl rfl ⟨rfl, rfl, Nat.le_of_ble_eq_true rfl, Nat.le_of_ble_eq_true rfl⟩ ⟨Nat.le_of_ble_eq_true rfl, Nat.le_of_ble_eq_true rfl⟩ (Nat.le_of_ble_eq_true rfl) dL_427 (fun r2 τ2 hp2 => ?_)
  obtain ⟨rfl, hF2⟩ := hp2
  show hpV _ _ _ _ _ _ _ _ _ _ _ _ _ _ _ _ _ _ _ _ _ (_ :: _)
  refine h_icmp_eq (tgt := 2354) C dL_430 (by decide) ⟨by decide, by decide⟩ ⟨by decide, by decide⟩ (fun h3 => ?_) (fun h3 => ?_)
  · refine h_iinc (lv' := [(3, .int (hpI 6)), (2, .ref (s.heap.size + 195)), (1, .ref (s.heap.size + 0)), (0, .ref b)]) C dL_2354 0 rfl rfl (by decide) rfl ?_
    refine h_goto (tgt := 18) C dL_2357 (by decide) ?_
    refine h_iload_n C dL_18 0 rfl rfl ?_
    refine h_aload_n C dL_19 3 rfl rfl ?_
    refine h_slen C hX hbl dL_20 ?_
    refine h_bipush C dL_21 (by decide) ?_
    refine h_isub (r := 0) C dL_23 (by decide) ?_
    refine h_icmp_gt (tgt := 2360) C dL_24 (by decide) ⟨by decide, by decide⟩ ⟨by decide, by decide⟩ (fun h5 => ?_) (fun h5 => ?_)
    · refine h_iconst C dL_2360 ?_
      exact h_lawret C hr hk dL_2361
    · exfalso; omega
  · exfalso; omega
set_option maxHeartbeats 4000000 in
set_option maxRecDepth 20000 in
theorem law_3 {p : Program} {e : Env} {s : State} {m : MethodId} {below : List Frame} {meth : Method} {c : Code} (l : Launch) {b : Nat} {xs : Nat → Int32} {D : va_G} {cy : Nat → ClassId} (C : hpC p s m #[.ref b] c code 4 RL D cy) (hr : meth.sig.returnType = ret) (hk : meth.locks = false) (hX : va_X b 6 xs s s.heap) (hbl : b < s.heap.size) : hpV p l e room_1 s m #[.ref b] below meth c 217 24316 4 D cy s.heap.size s.heap (lw_Z below #[Value.ref b] s) hp0 435 [(3, .int (hpI 0)), (2, .ref (s.heap.size + 195)), (1, .ref (s.heap.size + 0)), (0, .ref b)] [] := by
  refine h_aload_n C dL_435 2 rfl rfl ?_
  refine h_aload_n C dL_436 3 rfl rfl ?_
  refine h_iload_n C dL_437 0 rfl rfl ?_
  refine h_iconst C dL_438 ?_
  refine h_iadd (r := 1) C dL_439 (by decide) ?_
  refine h_sld C hX hbl 1 rfl (by decide) dL_440 ?_
  obtain ⟨hq1a, hq1b⟩ := hpR_of (xs 1)
  generalize ev1 : (xs 1).toInt = v1 at hq1a hq1b ⊢
  refine h_callV (As := [.int (hpI v1)]) (rest := []) C yyX8_fault wd_541 (tX8_fault l D cy s.heap.size _ v1 ⟨by omega, by omega⟩ rfl rfl) kd_0 rfl rfl ⟨rfl, rfl, Nat.le_of_ble_eq_true rfl, Nat.le_of_ble_eq_true rfl⟩ ⟨Nat.le_of_ble_eq_true rfl, Nat.le_of_ble_eq_true rfl⟩ (Nat.le_of_ble_eq_true rfl) dL_441 (fun r2 τ2 hp2 => ?_)
  obtain ⟨⟨x2, rfl, ⟨hx2a, hx2b⟩, hx2⟩, rfl⟩ := hp2
  show hpV _ _ _ _ _ _ _ _ _ _ _ _ _ _ _ _ _ _ _ _ _ (_ :: _)
  refine h_aload_n C dL_444 1 rfl rfl ?_
  refine h_aload_n C dL_445 3 rfl rfl ?_
  refine h_iload_n C dL_446 0 rfl rfl ?_
  refine h_iconst C dL_447 ?_
  refine h_iadd (r := 1) C dL_448 (by decide) ?_
  refine h_sld C hX hbl 1 rfl (by decide) dL_449 ?_
  rw [ev1]
  refine h_callV (As := [.int (hpI v1)]) (rest := [.int (hpI x2)]) C yyX9_fault wd_1416 (tX9_fault l D cy s.heap.size _ v1 ⟨by omega, by omega⟩ rfl rfl) kd_195 rfl rfl ⟨rfl, rfl, Nat.le_of_ble_eq_true rfl, Nat.le_of_ble_eq_true rfl⟩ ⟨Nat.le_of_ble_eq_true rfl, Nat.le_of_ble_eq_true rfl⟩ (Nat.le_of_ble_eq_true rfl) dL_450 (fun r4 τ4 hp4 => ?_)
  obtain ⟨⟨x4, rfl, ⟨hx4a, hx4b⟩, hx4⟩, rfl⟩ := hp4
  show hpV _ _ _ _ _ _ _ _ _ _ _ _ _ _ _ _ _ _ _ _ _ (_ :: _)
  refine h_icmp_eq (tgt := 2354) C dL_453 (by decide) ⟨by omega, by omega⟩ ⟨by omega, by omega⟩ (fun h5 => ?_) (fun h5 => ?_)
  · refine h_iinc (lv' := [(3, .int (hpI 6)), (2, .ref (s.heap.size + 195)), (1, .ref (s.heap.size + 0)), (0, .ref b)]) C dL_2354 0 rfl rfl (by decide) rfl ?_
    refine h_goto (tgt := 18) C dL_2357 (by decide) ?_
    refine h_iload_n C dL_18 0 rfl rfl ?_
    refine h_aload_n C dL_19 3 rfl rfl ?_
    refine h_slen C hX hbl dL_20 ?_
    refine h_bipush C dL_21 (by decide) ?_
    refine h_isub (r := 0) C dL_23 (by decide) ?_
    refine h_icmp_gt (tgt := 2360) C dL_24 (by decide) ⟨by decide, by decide⟩ ⟨by decide, by decide⟩ (fun h7 => ?_) (fun h7 => ?_)
    · refine h_iconst C dL_2360 ?_
      exact h_lawret C hr hk dL_2361
    · exfalso; omega
  · refine h_iconst C dL_456 ?_
    exfalso; omega
set_option maxHeartbeats 4000000 in
set_option maxRecDepth 20000 in
theorem law_4 {p : Program} {e : Env} {s : State} {m : MethodId} {below : List Frame} {meth : Method} {c : Code} (l : Launch) {b : Nat} {xs : Nat → Int32} {D : va_G} {cy : Nat → ClassId} (C : hpC p s m #[.ref b] c code 4 RL D cy) (hr : meth.sig.returnType = ret) (hk : meth.locks = false) (hX : va_X b 6 xs s s.heap) (hbl : b < s.heap.size) : hpV p l e room_1 s m #[.ref b] below meth c 217 24316 4 D cy s.heap.size s.heap (lw_Z below #[Value.ref b] s) hp0 458 [(3, .int (hpI 0)), (2, .ref (s.heap.size + 195)), (1, .ref (s.heap.size + 0)), (0, .ref b)] [] := by
  refine h_aload_n C dL_458 2 rfl rfl ?_
  refine h_aload_n C dL_459 3 rfl rfl ?_
  refine h_iload_n C dL_460 0 rfl rfl ?_
  refine h_iconst C dL_461 ?_
  refine h_iadd (r := 1) C dL_462 (by decide) ?_
  refine h_sld C hX hbl 1 rfl (by decide) dL_463 ?_
  obtain ⟨hq1a, hq1b⟩ := hpR_of (xs 1)
  generalize ev1 : (xs 1).toInt = v1 at hq1a hq1b ⊢
  refine h_callV (As := [.int (hpI v1)]) (rest := []) C yyX8_told wd_545 (tX8_told l D cy s.heap.size _ v1 ⟨by omega, by omega⟩ rfl) kd_0 rfl rfl ⟨rfl, rfl, Nat.le_of_ble_eq_true rfl, Nat.le_of_ble_eq_true rfl⟩ ⟨Nat.le_of_ble_eq_true rfl, Nat.le_of_ble_eq_true rfl⟩ (Nat.le_of_ble_eq_true rfl) dL_464 (fun r2 τ2 hp2 => ?_)
  obtain ⟨rfl, rfl⟩ := hp2
  show hpV _ _ _ _ _ _ _ _ _ _ _ _ _ _ _ _ _ _ _ _ _ (_ :: _)
  refine h_aload_n C dL_467 1 rfl rfl ?_
  refine h_aload_n C dL_468 3 rfl rfl ?_
  refine h_iload_n C dL_469 0 rfl rfl ?_
  refine h_iconst C dL_470 ?_
  refine h_iadd (r := 1) C dL_471 (by decide) ?_
  refine h_sld C hX hbl 1 rfl (by decide) dL_472 ?_
  rw [ev1]
  refine h_callV (As := [.int (hpI v1)]) (rest := [.int (hpI (-2))]) C yyX9_told wd_1488 (tX9_told l D cy s.heap.size _ v1 ⟨by omega, by omega⟩ (fun i => ((fun i => hp0_z (by decide) (by decide) (by decide) (by decide) (by decide)) i))) kd_195 rfl rfl ⟨rfl, rfl, Nat.le_of_ble_eq_true rfl, Nat.le_of_ble_eq_true rfl⟩ ⟨Nat.le_of_ble_eq_true rfl, Nat.le_of_ble_eq_true rfl⟩ (Nat.le_of_ble_eq_true rfl) dL_473 (fun r4 τ4 hp4 => ?_)
  obtain ⟨rfl, rfl⟩ := hp4
  show hpV _ _ _ _ _ _ _ _ _ _ _ _ _ _ _ _ _ _ _ _ _ (_ :: _)
  refine h_icmp_eq (tgt := 2354) C dL_476 (by decide) ⟨by decide, by decide⟩ ⟨by decide, by decide⟩ (fun h5 => ?_) (fun h5 => ?_)
  · refine h_iinc (lv' := [(3, .int (hpI 6)), (2, .ref (s.heap.size + 195)), (1, .ref (s.heap.size + 0)), (0, .ref b)]) C dL_2354 0 rfl rfl (by decide) rfl ?_
    refine h_goto (tgt := 18) C dL_2357 (by decide) ?_
    refine h_iload_n C dL_18 0 rfl rfl ?_
    refine h_aload_n C dL_19 3 rfl rfl ?_
    refine h_slen C hX hbl dL_20 ?_
    refine h_bipush C dL_21 (by decide) ?_
    refine h_isub (r := 0) C dL_23 (by decide) ?_
    refine h_icmp_gt (tgt := 2360) C dL_24 (by decide) ⟨by decide, by decide⟩ ⟨by decide, by decide⟩ (fun h7 => ?_) (fun h7 => ?_)
    · refine h_iconst C dL_2360 ?_
      exact h_lawret C hr hk dL_2361
    · exfalso; omega
  · exfalso; omega
set_option maxHeartbeats 4000000 in
set_option maxRecDepth 20000 in
theorem law_5 {p : Program} {e : Env} {s : State} {m : MethodId} {below : List Frame} {meth : Method} {c : Code} (l : Launch) {b : Nat} {xs : Nat → Int32} {D : va_G} {cy : Nat → ClassId} (C : hpC p s m #[.ref b] c code 4 RL D cy) (hr : meth.sig.returnType = ret) (hk : meth.locks = false) (hX : va_X b 6 xs s s.heap) (hbl : b < s.heap.size) : hpV p l e room_1 s m #[.ref b] below meth c 217 24316 4 D cy s.heap.size s.heap (lw_Z below #[Value.ref b] s) hp0 481 [(3, .int (hpI 0)), (2, .ref (s.heap.size + 195)), (1, .ref (s.heap.size + 0)), (0, .ref b)] [] := by
  refine h_aload_n C dL_481 2 rfl rfl ?_
  refine h_aload_n C dL_482 3 rfl rfl ?_
  refine h_iload_n C dL_483 0 rfl rfl ?_
  refine h_iconst C dL_484 ?_
  refine h_iadd (r := 1) C dL_485 (by decide) ?_
  refine h_sld C hX hbl 1 rfl (by decide) dL_486 ?_
  obtain ⟨hq1a, hq1b⟩ := hpR_of (xs 1)
  generalize ev1 : (xs 1).toInt = v1 at hq1a hq1b ⊢
  refine h_aload_n C dL_487 3 rfl rfl ?_
  refine h_iload_n C dL_488 0 rfl rfl ?_
  refine h_iconst C dL_489 ?_
  refine h_iadd (r := 2) C dL_490 (by decide) ?_
  refine h_sld C hX hbl 2 rfl (by decide) dL_491 ?_
  obtain ⟨hq2a, hq2b⟩ := hpR_of (xs 2)
  generalize ev2 : (xs 2).toInt = v2 at hq2a hq2b ⊢
  refine h_callV (As := [.int (hpI v1), .int (hpI v2)]) (rest := []) C yyX8_cart wd_553 (tX8_cart l D cy s.heap.size _ v1 ⟨by omega, by omega⟩ v2 ⟨by omega, by omega⟩ rfl) kd_0 rfl rfl ⟨rfl, rfl, Nat.le_of_ble_eq_true rfl, Nat.le_of_ble_eq_true rfl⟩ ⟨Nat.le_of_ble_eq_true rfl, Nat.le_of_ble_eq_true rfl⟩ (Nat.le_of_ble_eq_true rfl) dL_492 (fun r3 τ3 hp3 => ?_)
  obtain ⟨rfl, rfl⟩ := hp3
  show hpV _ _ _ _ _ _ _ _ _ _ _ _ _ _ _ _ _ _ _ _ _ (_ :: _)
  refine h_aload_n C dL_495 1 rfl rfl ?_
  refine h_aload_n C dL_496 3 rfl rfl ?_
  refine h_iload_n C dL_497 0 rfl rfl ?_
  refine h_iconst C dL_498 ?_
  refine h_iadd (r := 1) C dL_499 (by decide) ?_
  refine h_sld C hX hbl 1 rfl (by decide) dL_500 ?_
  rw [ev1]
  refine h_aload_n C dL_501 3 rfl rfl ?_
  refine h_iload_n C dL_502 0 rfl rfl ?_
  refine h_iconst C dL_503 ?_
  refine h_iadd (r := 2) C dL_504 (by decide) ?_
  refine h_sld C hX hbl 2 rfl (by decide) dL_505 ?_
  rw [ev2]
  refine h_callV (As := [.int (hpI v1), .int (hpI v2)]) (rest := [.int (hpI (-2))]) C yyX9_cart wd_1496 (tX9_cart l D cy s.heap.size _ v1 ⟨by omega, by omega⟩ v2 ⟨by omega, by omega⟩ (fun i => ((fun i => hp0_z (by decide) (by decide) (by decide) (by decide) (by decide)) i))) kd_195 rfl rfl ⟨rfl, rfl, Nat.le_of_ble_eq_true rfl, Nat.le_of_ble_eq_true rfl⟩ ⟨Nat.le_of_ble_eq_true rfl, Nat.le_of_ble_eq_true rfl⟩ (Nat.le_of_ble_eq_true rfl) dL_506 (fun r6 τ6 hp6 => ?_)
  obtain ⟨rfl, rfl⟩ := hp6
  show hpV _ _ _ _ _ _ _ _ _ _ _ _ _ _ _ _ _ _ _ _ _ (_ :: _)
  refine h_icmp_eq (tgt := 2354) C dL_509 (by decide) ⟨by decide, by decide⟩ ⟨by decide, by decide⟩ (fun h7 => ?_) (fun h7 => ?_)
  · refine h_iinc (lv' := [(3, .int (hpI 6)), (2, .ref (s.heap.size + 195)), (1, .ref (s.heap.size + 0)), (0, .ref b)]) C dL_2354 0 rfl rfl (by decide) rfl ?_
    refine h_goto (tgt := 18) C dL_2357 (by decide) ?_
    refine h_iload_n C dL_18 0 rfl rfl ?_
    refine h_aload_n C dL_19 3 rfl rfl ?_
    refine h_slen C hX hbl dL_20 ?_
    refine h_bipush C dL_21 (by decide) ?_
    refine h_isub (r := 0) C dL_23 (by decide) ?_
    refine h_icmp_gt (tgt := 2360) C dL_24 (by decide) ⟨by decide, by decide⟩ ⟨by decide, by decide⟩ (fun h9 => ?_) (fun h9 => ?_)
    · refine h_iconst C dL_2360 ?_
      exact h_lawret C hr hk dL_2361
    · exfalso; omega
  · exfalso; omega
set_option maxHeartbeats 4000000 in
set_option maxRecDepth 20000 in
theorem law_6 {p : Program} {e : Env} {s : State} {m : MethodId} {below : List Frame} {meth : Method} {c : Code} (l : Launch) {b : Nat} {xs : Nat → Int32} {D : va_G} {cy : Nat → ClassId} (C : hpC p s m #[.ref b] c code 4 RL D cy) (hr : meth.sig.returnType = ret) (hk : meth.locks = false) (hX : va_X b 6 xs s s.heap) (hbl : b < s.heap.size) : hpV p l e room_1 s m #[.ref b] below meth c 217 24316 4 D cy s.heap.size s.heap (lw_Z below #[Value.ref b] s) hp0 514 [(3, .int (hpI 0)), (2, .ref (s.heap.size + 195)), (1, .ref (s.heap.size + 0)), (0, .ref b)] [] := by
  refine h_aload_n C dL_514 2 rfl rfl ?_
  refine h_aload_n C dL_515 3 rfl rfl ?_
  refine h_iload_n C dL_516 0 rfl rfl ?_
  refine h_iconst C dL_517 ?_
  refine h_iadd (r := 1) C dL_518 (by decide) ?_
  refine h_sld C hX hbl 1 rfl (by decide) dL_519 ?_
  obtain ⟨hq1a, hq1b⟩ := hpR_of (xs 1)
  generalize ev1 : (xs 1).toInt = v1 at hq1a hq1b ⊢
  refine h_callV (As := [.int (hpI v1)]) (rest := []) C yyX8_heaps wd_564 (tX8_heaps l D cy s.heap.size _ v1 ⟨by omega, by omega⟩ rfl) kd_0 rfl rfl ⟨rfl, rfl, Nat.le_of_ble_eq_true rfl, Nat.le_of_ble_eq_true rfl⟩ ⟨Nat.le_of_ble_eq_true rfl, Nat.le_of_ble_eq_true rfl⟩ (Nat.le_of_ble_eq_true rfl) dL_520 (fun r2 τ2 hp2 => ?_)
  obtain ⟨rfl, rfl⟩ := hp2
  show hpV _ _ _ _ _ _ _ _ _ _ _ _ _ _ _ _ _ _ _ _ _ (_ :: _)
  refine h_aload_n C dL_523 1 rfl rfl ?_
  refine h_aload_n C dL_524 3 rfl rfl ?_
  refine h_iload_n C dL_525 0 rfl rfl ?_
  refine h_iconst C dL_526 ?_
  refine h_iadd (r := 1) C dL_527 (by decide) ?_
  refine h_sld C hX hbl 1 rfl (by decide) dL_528 ?_
  rw [ev1]
  refine h_callV (As := [.int (hpI v1)]) (rest := [.int (hpI (-2))]) C yyX9_heaps wd_1508 (tX9_heaps l D cy s.heap.size _ v1 ⟨by omega, by omega⟩ (fun i => ((fun i => hp0_z (by decide) (by decide) (by decide) (by decide) (by decide)) i))) kd_195 rfl rfl ⟨rfl, rfl, Nat.le_of_ble_eq_true rfl, Nat.le_of_ble_eq_true rfl⟩ ⟨Nat.le_of_ble_eq_true rfl, Nat.le_of_ble_eq_true rfl⟩ (Nat.le_of_ble_eq_true rfl) dL_529 (fun r4 τ4 hp4 => ?_)
  obtain ⟨rfl, hF4⟩ := hp4
  show hpV _ _ _ _ _ _ _ _ _ _ _ _ _ _ _ _ _ _ _ _ _ (_ :: _)
  refine h_icmp_eq (tgt := 2354) C dL_532 (by decide) ⟨by decide, by decide⟩ ⟨by decide, by decide⟩ (fun h5 => ?_) (fun h5 => ?_)
  · refine h_iinc (lv' := [(3, .int (hpI 6)), (2, .ref (s.heap.size + 195)), (1, .ref (s.heap.size + 0)), (0, .ref b)]) C dL_2354 0 rfl rfl (by decide) rfl ?_
    refine h_goto (tgt := 18) C dL_2357 (by decide) ?_
    refine h_iload_n C dL_18 0 rfl rfl ?_
    refine h_aload_n C dL_19 3 rfl rfl ?_
    refine h_slen C hX hbl dL_20 ?_
    refine h_bipush C dL_21 (by decide) ?_
    refine h_isub (r := 0) C dL_23 (by decide) ?_
    refine h_icmp_gt (tgt := 2360) C dL_24 (by decide) ⟨by decide, by decide⟩ ⟨by decide, by decide⟩ (fun h7 => ?_) (fun h7 => ?_)
    · refine h_iconst C dL_2360 ?_
      exact h_lawret C hr hk dL_2361
    · exfalso; omega
  · exfalso; omega
set_option maxHeartbeats 4000000 in
set_option maxRecDepth 20000 in
theorem law_7 {p : Program} {e : Env} {s : State} {m : MethodId} {below : List Frame} {meth : Method} {c : Code} (l : Launch) {b : Nat} {xs : Nat → Int32} {D : va_G} {cy : Nat → ClassId} (C : hpC p s m #[.ref b] c code 4 RL D cy) (hr : meth.sig.returnType = ret) (hk : meth.locks = false) (hX : va_X b 6 xs s s.heap) (hbl : b < s.heap.size) : hpV p l e room_1 s m #[.ref b] below meth c 217 24316 4 D cy s.heap.size s.heap (lw_Z below #[Value.ref b] s) hp0 537 [(3, .int (hpI 0)), (2, .ref (s.heap.size + 195)), (1, .ref (s.heap.size + 0)), (0, .ref b)] [] := by
  refine h_aload_n C dL_537 2 rfl rfl ?_
  refine h_aload_n C dL_538 3 rfl rfl ?_
  refine h_iload_n C dL_539 0 rfl rfl ?_
  refine h_iconst C dL_540 ?_
  refine h_iadd (r := 1) C dL_541 (by decide) ?_
  refine h_sld C hX hbl 1 rfl (by decide) dL_542 ?_
  obtain ⟨hq1a, hq1b⟩ := hpR_of (xs 1)
  generalize ev1 : (xs 1).toInt = v1 at hq1a hq1b ⊢
  refine h_aload_n C dL_543 3 rfl rfl ?_
  refine h_iload_n C dL_544 0 rfl rfl ?_
  refine h_iconst C dL_545 ?_
  refine h_iadd (r := 2) C dL_546 (by decide) ?_
  refine h_sld C hX hbl 2 rfl (by decide) dL_547 ?_
  obtain ⟨hq2a, hq2b⟩ := hpR_of (xs 2)
  generalize ev2 : (xs 2).toInt = v2 at hq2a hq2b ⊢
  refine h_callV (As := [.int (hpI v1), .int (hpI v2)]) (rest := []) C yyX8_heap wd_635 (tX8_heap l D cy s.heap.size _ v1 ⟨by omega, by omega⟩ v2 ⟨by omega, by omega⟩ rfl) kd_0 rfl rfl ⟨rfl, rfl, Nat.le_of_ble_eq_true rfl, Nat.le_of_ble_eq_true rfl⟩ ⟨Nat.le_of_ble_eq_true rfl, Nat.le_of_ble_eq_true rfl⟩ (Nat.le_of_ble_eq_true rfl) dL_548 (fun r3 τ3 hp3 => ?_)
  obtain ⟨rfl, rfl⟩ := hp3
  show hpV _ _ _ _ _ _ _ _ _ _ _ _ _ _ _ _ _ _ _ _ _ (_ :: _)
  refine h_aload_n C dL_551 1 rfl rfl ?_
  refine h_aload_n C dL_552 3 rfl rfl ?_
  refine h_iload_n C dL_553 0 rfl rfl ?_
  refine h_iconst C dL_554 ?_
  refine h_iadd (r := 1) C dL_555 (by decide) ?_
  refine h_sld C hX hbl 1 rfl (by decide) dL_556 ?_
  rw [ev1]
  refine h_aload_n C dL_557 3 rfl rfl ?_
  refine h_iload_n C dL_558 0 rfl rfl ?_
  refine h_iconst C dL_559 ?_
  refine h_iadd (r := 2) C dL_560 (by decide) ?_
  refine h_sld C hX hbl 2 rfl (by decide) dL_561 ?_
  rw [ev2]
  refine h_callV (As := [.int (hpI v1), .int (hpI v2)]) (rest := [.int (hpI (-2))]) C yyX9_heap wd_1579 (tX9_heap l D cy s.heap.size _ v1 ⟨by omega, by omega⟩ v2 ⟨by omega, by omega⟩ (fun i => ((fun i => hp0_z (by decide) (by decide) (by decide) (by decide) (by decide)) i))) kd_195 rfl rfl ⟨rfl, rfl, Nat.le_of_ble_eq_true rfl, Nat.le_of_ble_eq_true rfl⟩ ⟨Nat.le_of_ble_eq_true rfl, Nat.le_of_ble_eq_true rfl⟩ (Nat.le_of_ble_eq_true rfl) dL_562 (fun r6 τ6 hp6 => ?_)
  obtain ⟨rfl, hF6⟩ := hp6
  show hpV _ _ _ _ _ _ _ _ _ _ _ _ _ _ _ _ _ _ _ _ _ (_ :: _)
  refine h_icmp_eq (tgt := 2354) C dL_565 (by decide) ⟨by decide, by decide⟩ ⟨by decide, by decide⟩ (fun h7 => ?_) (fun h7 => ?_)
  · refine h_iinc (lv' := [(3, .int (hpI 6)), (2, .ref (s.heap.size + 195)), (1, .ref (s.heap.size + 0)), (0, .ref b)]) C dL_2354 0 rfl rfl (by decide) rfl ?_
    refine h_goto (tgt := 18) C dL_2357 (by decide) ?_
    refine h_iload_n C dL_18 0 rfl rfl ?_
    refine h_aload_n C dL_19 3 rfl rfl ?_
    refine h_slen C hX hbl dL_20 ?_
    refine h_bipush C dL_21 (by decide) ?_
    refine h_isub (r := 0) C dL_23 (by decide) ?_
    refine h_icmp_gt (tgt := 2360) C dL_24 (by decide) ⟨by decide, by decide⟩ ⟨by decide, by decide⟩ (fun h9 => ?_) (fun h9 => ?_)
    · refine h_iconst C dL_2360 ?_
      exact h_lawret C hr hk dL_2361
    · exfalso; omega
  · exfalso; omega
set_option maxHeartbeats 4000000 in
set_option maxRecDepth 20000 in
theorem law_8 {p : Program} {e : Env} {s : State} {m : MethodId} {below : List Frame} {meth : Method} {c : Code} (l : Launch) {b : Nat} {xs : Nat → Int32} {D : va_G} {cy : Nat → ClassId} (C : hpC p s m #[.ref b] c code 4 RL D cy) (hr : meth.sig.returnType = ret) (hk : meth.locks = false) (hX : va_X b 6 xs s s.heap) (hbl : b < s.heap.size) : hpV p l e room_1 s m #[.ref b] below meth c 217 24316 4 D cy s.heap.size s.heap (lw_Z below #[Value.ref b] s) hp0 570 [(3, .int (hpI 0)), (2, .ref (s.heap.size + 195)), (1, .ref (s.heap.size + 0)), (0, .ref b)] [] := by
  refine h_aload_n C dL_570 2 rfl rfl ?_
  refine h_aload_n C dL_571 3 rfl rfl ?_
  refine h_iload_n C dL_572 0 rfl rfl ?_
  refine h_iconst C dL_573 ?_
  refine h_iadd (r := 1) C dL_574 (by decide) ?_
  refine h_sld C hX hbl 1 rfl (by decide) dL_575 ?_
  obtain ⟨hq1a, hq1b⟩ := hpR_of (xs 1)
  generalize ev1 : (xs 1).toInt = v1 at hq1a hq1b ⊢
  refine h_callV (As := [.int (hpI v1)]) (rest := []) C yyX8_all wd_643 (tX8_all l D cy s.heap.size _ v1 ⟨by omega, by omega⟩ rfl) kd_0 rfl rfl ⟨rfl, rfl, Nat.le_of_ble_eq_true rfl, Nat.le_of_ble_eq_true rfl⟩ ⟨Nat.le_of_ble_eq_true rfl, Nat.le_of_ble_eq_true rfl⟩ (Nat.le_of_ble_eq_true rfl) dL_576 (fun r2 τ2 hp2 => ?_)
  obtain ⟨rfl, rfl⟩ := hp2
  show hpV _ _ _ _ _ _ _ _ _ _ _ _ _ _ _ _ _ _ _ _ _ (_ :: _)
  refine h_aload_n C dL_579 1 rfl rfl ?_
  refine h_aload_n C dL_580 3 rfl rfl ?_
  refine h_iload_n C dL_581 0 rfl rfl ?_
  refine h_iconst C dL_582 ?_
  refine h_iadd (r := 1) C dL_583 (by decide) ?_
  refine h_sld C hX hbl 1 rfl (by decide) dL_584 ?_
  rw [ev1]
  refine h_callV (As := [.int (hpI v1)]) (rest := [.int (hpI (-2))]) C yyX9_all wd_1583 (tX9_all l D cy s.heap.size _ v1 ⟨by omega, by omega⟩ (fun i => ((fun i => hp0_z (by decide) (by decide) (by decide) (by decide) (by decide)) i))) kd_195 rfl rfl ⟨rfl, rfl, Nat.le_of_ble_eq_true rfl, Nat.le_of_ble_eq_true rfl⟩ ⟨Nat.le_of_ble_eq_true rfl, Nat.le_of_ble_eq_true rfl⟩ (Nat.le_of_ble_eq_true rfl) dL_585 (fun r4 τ4 hp4 => ?_)
  obtain ⟨rfl, hF4⟩ := hp4
  show hpV _ _ _ _ _ _ _ _ _ _ _ _ _ _ _ _ _ _ _ _ _ (_ :: _)
  refine h_icmp_eq (tgt := 2354) C dL_588 (by decide) ⟨by decide, by decide⟩ ⟨by decide, by decide⟩ (fun h5 => ?_) (fun h5 => ?_)
  · refine h_iinc (lv' := [(3, .int (hpI 6)), (2, .ref (s.heap.size + 195)), (1, .ref (s.heap.size + 0)), (0, .ref b)]) C dL_2354 0 rfl rfl (by decide) rfl ?_
    refine h_goto (tgt := 18) C dL_2357 (by decide) ?_
    refine h_iload_n C dL_18 0 rfl rfl ?_
    refine h_aload_n C dL_19 3 rfl rfl ?_
    refine h_slen C hX hbl dL_20 ?_
    refine h_bipush C dL_21 (by decide) ?_
    refine h_isub (r := 0) C dL_23 (by decide) ?_
    refine h_icmp_gt (tgt := 2360) C dL_24 (by decide) ⟨by decide, by decide⟩ ⟨by decide, by decide⟩ (fun h7 => ?_) (fun h7 => ?_)
    · refine h_iconst C dL_2360 ?_
      exact h_lawret C hr hk dL_2361
    · exfalso; omega
  · exfalso; omega
set_option maxHeartbeats 4000000 in
set_option maxRecDepth 20000 in
theorem law_9 {p : Program} {e : Env} {s : State} {m : MethodId} {below : List Frame} {meth : Method} {c : Code} (l : Launch) {b : Nat} {xs : Nat → Int32} {D : va_G} {cy : Nat → ClassId} (C : hpC p s m #[.ref b] c code 4 RL D cy) (hr : meth.sig.returnType = ret) (hk : meth.locks = false) (hX : va_X b 6 xs s s.heap) (hbl : b < s.heap.size) : hpV p l e room_1 s m #[.ref b] below meth c 217 24316 4 D cy s.heap.size s.heap (lw_Z below #[Value.ref b] s) hp0 593 [(3, .int (hpI 0)), (2, .ref (s.heap.size + 195)), (1, .ref (s.heap.size + 0)), (0, .ref b)] [] := by
  refine h_aload_n C dL_593 2 rfl rfl ?_
  refine h_aload_n C dL_594 3 rfl rfl ?_
  refine h_iload_n C dL_595 0 rfl rfl ?_
  refine h_iconst C dL_596 ?_
  refine h_iadd (r := 1) C dL_597 (by decide) ?_
  refine h_sld C hX hbl 1 rfl (by decide) dL_598 ?_
  obtain ⟨hq1a, hq1b⟩ := hpR_of (xs 1)
  generalize ev1 : (xs 1).toInt = v1 at hq1a hq1b ⊢
  refine h_aload_n C dL_599 3 rfl rfl ?_
  refine h_iload_n C dL_600 0 rfl rfl ?_
  refine h_iconst C dL_601 ?_
  refine h_iadd (r := 2) C dL_602 (by decide) ?_
  refine h_sld C hX hbl 2 rfl (by decide) dL_603 ?_
  obtain ⟨hq2a, hq2b⟩ := hpR_of (xs 2)
  generalize ev2 : (xs 2).toInt = v2 at hq2a hq2b ⊢
  refine h_callV (As := [.int (hpI v1), .int (hpI v2)]) (rest := []) C yyX8_many wd_647 (tX8_many l D cy s.heap.size _ v1 ⟨by omega, by omega⟩ v2 ⟨by omega, by omega⟩ rfl) kd_0 rfl rfl ⟨rfl, rfl, Nat.le_of_ble_eq_true rfl, Nat.le_of_ble_eq_true rfl⟩ ⟨Nat.le_of_ble_eq_true rfl, Nat.le_of_ble_eq_true rfl⟩ (Nat.le_of_ble_eq_true rfl) dL_604 (fun r3 τ3 hp3 => ?_)
  obtain ⟨rfl, rfl⟩ := hp3
  show hpV _ _ _ _ _ _ _ _ _ _ _ _ _ _ _ _ _ _ _ _ _ (_ :: _)
  refine h_aload_n C dL_607 1 rfl rfl ?_
  refine h_aload_n C dL_608 3 rfl rfl ?_
  refine h_iload_n C dL_609 0 rfl rfl ?_
  refine h_iconst C dL_610 ?_
  refine h_iadd (r := 1) C dL_611 (by decide) ?_
  refine h_sld C hX hbl 1 rfl (by decide) dL_612 ?_
  rw [ev1]
  refine h_aload_n C dL_613 3 rfl rfl ?_
  refine h_iload_n C dL_614 0 rfl rfl ?_
  refine h_iconst C dL_615 ?_
  refine h_iadd (r := 2) C dL_616 (by decide) ?_
  refine h_sld C hX hbl 2 rfl (by decide) dL_617 ?_
  rw [ev2]
  refine h_callV (As := [.int (hpI v1), .int (hpI v2)]) (rest := [.int (hpI (-2))]) C yyX9_many wd_1591 (tX9_many l D cy s.heap.size _ v1 ⟨by omega, by omega⟩ v2 ⟨by omega, by omega⟩ (fun i => ((fun i => hp0_z (by decide) (by decide) (by decide) (by decide) (by decide)) i))) kd_195 rfl rfl ⟨rfl, rfl, Nat.le_of_ble_eq_true rfl, Nat.le_of_ble_eq_true rfl⟩ ⟨Nat.le_of_ble_eq_true rfl, Nat.le_of_ble_eq_true rfl⟩ (Nat.le_of_ble_eq_true rfl) dL_618 (fun r6 τ6 hp6 => ?_)
  obtain ⟨rfl, hF6⟩ := hp6
  show hpV _ _ _ _ _ _ _ _ _ _ _ _ _ _ _ _ _ _ _ _ _ (_ :: _)
  refine h_icmp_eq (tgt := 2354) C dL_621 (by decide) ⟨by decide, by decide⟩ ⟨by decide, by decide⟩ (fun h7 => ?_) (fun h7 => ?_)
  · refine h_iinc (lv' := [(3, .int (hpI 6)), (2, .ref (s.heap.size + 195)), (1, .ref (s.heap.size + 0)), (0, .ref b)]) C dL_2354 0 rfl rfl (by decide) rfl ?_
    refine h_goto (tgt := 18) C dL_2357 (by decide) ?_
    refine h_iload_n C dL_18 0 rfl rfl ?_
    refine h_aload_n C dL_19 3 rfl rfl ?_
    refine h_slen C hX hbl dL_20 ?_
    refine h_bipush C dL_21 (by decide) ?_
    refine h_isub (r := 0) C dL_23 (by decide) ?_
    refine h_icmp_gt (tgt := 2360) C dL_24 (by decide) ⟨by decide, by decide⟩ ⟨by decide, by decide⟩ (fun h9 => ?_) (fun h9 => ?_)
    · refine h_iconst C dL_2360 ?_
      exact h_lawret C hr hk dL_2361
    · exfalso; omega
  · exfalso; omega
set_option maxHeartbeats 4000000 in
set_option maxRecDepth 20000 in
theorem law_10 {p : Program} {e : Env} {s : State} {m : MethodId} {below : List Frame} {meth : Method} {c : Code} (l : Launch) {b : Nat} {xs : Nat → Int32} {D : va_G} {cy : Nat → ClassId} (C : hpC p s m #[.ref b] c code 4 RL D cy) (hr : meth.sig.returnType = ret) (hk : meth.locks = false) (hX : va_X b 6 xs s s.heap) (hbl : b < s.heap.size) : hpV p l e room_1 s m #[.ref b] below meth c 217 24316 4 D cy s.heap.size s.heap (lw_Z below #[Value.ref b] s) hp0 626 [(3, .int (hpI 0)), (2, .ref (s.heap.size + 195)), (1, .ref (s.heap.size + 0)), (0, .ref b)] [] := by
  refine h_aload_n C dL_626 2 rfl rfl ?_
  refine h_aload_n C dL_627 3 rfl rfl ?_
  refine h_iload_n C dL_628 0 rfl rfl ?_
  refine h_iconst C dL_629 ?_
  refine h_iadd (r := 1) C dL_630 (by decide) ?_
  refine h_sld C hX hbl 1 rfl (by decide) dL_631 ?_
  obtain ⟨hq1a, hq1b⟩ := hpR_of (xs 1)
  generalize ev1 : (xs 1).toInt = v1 at hq1a hq1b ⊢
  refine h_callV (As := [.int (hpI v1)]) (rest := []) C yyX8_sorts wd_655 (tX8_sorts l D cy s.heap.size _ v1 ⟨by omega, by omega⟩ rfl) kd_0 rfl rfl ⟨rfl, rfl, Nat.le_of_ble_eq_true rfl, Nat.le_of_ble_eq_true rfl⟩ ⟨Nat.le_of_ble_eq_true rfl, Nat.le_of_ble_eq_true rfl⟩ (Nat.le_of_ble_eq_true rfl) dL_632 (fun r2 τ2 hp2 => ?_)
  obtain ⟨rfl, rfl⟩ := hp2
  show hpV _ _ _ _ _ _ _ _ _ _ _ _ _ _ _ _ _ _ _ _ _ (_ :: _)
  refine h_aload_n C dL_635 1 rfl rfl ?_
  refine h_aload_n C dL_636 3 rfl rfl ?_
  refine h_iload_n C dL_637 0 rfl rfl ?_
  refine h_iconst C dL_638 ?_
  refine h_iadd (r := 1) C dL_639 (by decide) ?_
  refine h_sld C hX hbl 1 rfl (by decide) dL_640 ?_
  rw [ev1]
  refine h_callV (As := [.int (hpI v1)]) (rest := [.int (hpI (-2))]) C yyX9_sorts wd_1600 (tX9_sorts l D cy s.heap.size _ v1 ⟨by omega, by omega⟩ (fun i => ((fun i => hp0_z (by decide) (by decide) (by decide) (by decide) (by decide)) i))) kd_195 rfl rfl ⟨rfl, rfl, Nat.le_of_ble_eq_true rfl, Nat.le_of_ble_eq_true rfl⟩ ⟨Nat.le_of_ble_eq_true rfl, Nat.le_of_ble_eq_true rfl⟩ (Nat.le_of_ble_eq_true rfl) dL_641 (fun r4 τ4 hp4 => ?_)
  obtain ⟨rfl, hF4⟩ := hp4
  show hpV _ _ _ _ _ _ _ _ _ _ _ _ _ _ _ _ _ _ _ _ _ (_ :: _)
  refine h_icmp_eq (tgt := 2354) C dL_644 (by decide) ⟨by decide, by decide⟩ ⟨by decide, by decide⟩ (fun h5 => ?_) (fun h5 => ?_)
  · refine h_iinc (lv' := [(3, .int (hpI 6)), (2, .ref (s.heap.size + 195)), (1, .ref (s.heap.size + 0)), (0, .ref b)]) C dL_2354 0 rfl rfl (by decide) rfl ?_
    refine h_goto (tgt := 18) C dL_2357 (by decide) ?_
    refine h_iload_n C dL_18 0 rfl rfl ?_
    refine h_aload_n C dL_19 3 rfl rfl ?_
    refine h_slen C hX hbl dL_20 ?_
    refine h_bipush C dL_21 (by decide) ?_
    refine h_isub (r := 0) C dL_23 (by decide) ?_
    refine h_icmp_gt (tgt := 2360) C dL_24 (by decide) ⟨by decide, by decide⟩ ⟨by decide, by decide⟩ (fun h7 => ?_) (fun h7 => ?_)
    · refine h_iconst C dL_2360 ?_
      exact h_lawret C hr hk dL_2361
    · exfalso; omega
  · exfalso; omega
set_option maxHeartbeats 4000000 in
set_option maxRecDepth 20000 in
theorem law_11 {p : Program} {e : Env} {s : State} {m : MethodId} {below : List Frame} {meth : Method} {c : Code} (l : Launch) {b : Nat} {xs : Nat → Int32} {D : va_G} {cy : Nat → ClassId} (C : hpC p s m #[.ref b] c code 4 RL D cy) (hr : meth.sig.returnType = ret) (hk : meth.locks = false) (hX : va_X b 6 xs s s.heap) (hbl : b < s.heap.size) : hpV p l e room_1 s m #[.ref b] below meth c 217 24316 4 D cy s.heap.size s.heap (lw_Z below #[Value.ref b] s) hp0 649 [(3, .int (hpI 0)), (2, .ref (s.heap.size + 195)), (1, .ref (s.heap.size + 0)), (0, .ref b)] [] := by
  refine h_aload_n C dL_649 2 rfl rfl ?_
  refine h_aload_n C dL_650 3 rfl rfl ?_
  refine h_iload_n C dL_651 0 rfl rfl ?_
  refine h_iconst C dL_652 ?_
  refine h_iadd (r := 1) C dL_653 (by decide) ?_
  refine h_sld C hX hbl 1 rfl (by decide) dL_654 ?_
  obtain ⟨hq1a, hq1b⟩ := hpR_of (xs 1)
  generalize ev1 : (xs 1).toInt = v1 at hq1a hq1b ⊢
  refine h_callV (As := [.int (hpI v1)]) (rest := []) C yyX8_spread wd_659 (tX8_spread l D cy s.heap.size _ v1 ⟨by omega, by omega⟩ rfl) kd_0 rfl rfl ⟨rfl, rfl, Nat.le_of_ble_eq_true rfl, Nat.le_of_ble_eq_true rfl⟩ ⟨Nat.le_of_ble_eq_true rfl, Nat.le_of_ble_eq_true rfl⟩ (Nat.le_of_ble_eq_true rfl) dL_655 (fun r2 τ2 hp2 => ?_)
  obtain ⟨rfl, rfl⟩ := hp2
  show hpV _ _ _ _ _ _ _ _ _ _ _ _ _ _ _ _ _ _ _ _ _ (_ :: _)
  refine h_aload_n C dL_658 1 rfl rfl ?_
  refine h_aload_n C dL_659 3 rfl rfl ?_
  refine h_iload_n C dL_660 0 rfl rfl ?_
  refine h_iconst C dL_661 ?_
  refine h_iadd (r := 1) C dL_662 (by decide) ?_
  refine h_sld C hX hbl 1 rfl (by decide) dL_663 ?_
  rw [ev1]
  refine h_callV (As := [.int (hpI v1)]) (rest := [.int (hpI (-2))]) C yyX9_spread wd_1604 (tX9_spread l D cy s.heap.size _ v1 ⟨by omega, by omega⟩ (fun i => ((fun i => hp0_z (by decide) (by decide) (by decide) (by decide) (by decide)) i))) kd_195 rfl rfl ⟨rfl, rfl, Nat.le_of_ble_eq_true rfl, Nat.le_of_ble_eq_true rfl⟩ ⟨Nat.le_of_ble_eq_true rfl, Nat.le_of_ble_eq_true rfl⟩ (Nat.le_of_ble_eq_true rfl) dL_664 (fun r4 τ4 hp4 => ?_)
  obtain ⟨rfl, hF4⟩ := hp4
  show hpV _ _ _ _ _ _ _ _ _ _ _ _ _ _ _ _ _ _ _ _ _ (_ :: _)
  refine h_icmp_eq (tgt := 2354) C dL_667 (by decide) ⟨by decide, by decide⟩ ⟨by decide, by decide⟩ (fun h5 => ?_) (fun h5 => ?_)
  · refine h_iinc (lv' := [(3, .int (hpI 6)), (2, .ref (s.heap.size + 195)), (1, .ref (s.heap.size + 0)), (0, .ref b)]) C dL_2354 0 rfl rfl (by decide) rfl ?_
    refine h_goto (tgt := 18) C dL_2357 (by decide) ?_
    refine h_iload_n C dL_18 0 rfl rfl ?_
    refine h_aload_n C dL_19 3 rfl rfl ?_
    refine h_slen C hX hbl dL_20 ?_
    refine h_bipush C dL_21 (by decide) ?_
    refine h_isub (r := 0) C dL_23 (by decide) ?_
    refine h_icmp_gt (tgt := 2360) C dL_24 (by decide) ⟨by decide, by decide⟩ ⟨by decide, by decide⟩ (fun h7 => ?_) (fun h7 => ?_)
    · refine h_iconst C dL_2360 ?_
      exact h_lawret C hr hk dL_2361
    · exfalso; omega
  · exfalso; omega
set_option maxHeartbeats 4000000 in
set_option maxRecDepth 20000 in
theorem law_12 {p : Program} {e : Env} {s : State} {m : MethodId} {below : List Frame} {meth : Method} {c : Code} (l : Launch) {b : Nat} {xs : Nat → Int32} {D : va_G} {cy : Nat → ClassId} (C : hpC p s m #[.ref b] c code 4 RL D cy) (hr : meth.sig.returnType = ret) (hk : meth.locks = false) (hX : va_X b 6 xs s s.heap) (hbl : b < s.heap.size) : hpV p l e room_1 s m #[.ref b] below meth c 217 24316 4 D cy s.heap.size s.heap (lw_Z below #[Value.ref b] s) hp0 672 [(3, .int (hpI 0)), (2, .ref (s.heap.size + 195)), (1, .ref (s.heap.size + 0)), (0, .ref b)] [] := by
  refine h_aload_n C dL_672 2 rfl rfl ?_
  refine h_aload_n C dL_673 3 rfl rfl ?_
  refine h_iload_n C dL_674 0 rfl rfl ?_
  refine h_iconst C dL_675 ?_
  refine h_iadd (r := 1) C dL_676 (by decide) ?_
  refine h_sld C hX hbl 1 rfl (by decide) dL_677 ?_
  obtain ⟨hq1a, hq1b⟩ := hpR_of (xs 1)
  generalize ev1 : (xs 1).toInt = v1 at hq1a hq1b ⊢
  refine h_callV (As := [.int (hpI v1)]) (rest := []) C yyX8_odd wd_671 (tX8_odd l D cy s.heap.size _ v1 ⟨by omega, by omega⟩ rfl) kd_0 rfl rfl ⟨rfl, rfl, Nat.le_of_ble_eq_true rfl, Nat.le_of_ble_eq_true rfl⟩ ⟨Nat.le_of_ble_eq_true rfl, Nat.le_of_ble_eq_true rfl⟩ (Nat.le_of_ble_eq_true rfl) dL_678 (fun r2 τ2 hp2 => ?_)
  obtain ⟨rfl, rfl⟩ := hp2
  show hpV _ _ _ _ _ _ _ _ _ _ _ _ _ _ _ _ _ _ _ _ _ (_ :: _)
  refine h_aload_n C dL_681 1 rfl rfl ?_
  refine h_aload_n C dL_682 3 rfl rfl ?_
  refine h_iload_n C dL_683 0 rfl rfl ?_
  refine h_iconst C dL_684 ?_
  refine h_iadd (r := 1) C dL_685 (by decide) ?_
  refine h_sld C hX hbl 1 rfl (by decide) dL_686 ?_
  rw [ev1]
  refine h_callV (As := [.int (hpI v1)]) (rest := [.int (hpI (-2))]) C yyX9_odd wd_1596 (tX9_odd l D cy s.heap.size _ v1 ⟨by omega, by omega⟩ (fun i => ((fun i => hp0_z (by decide) (by decide) (by decide) (by decide) (by decide)) i))) kd_195 rfl rfl ⟨rfl, rfl, Nat.le_of_ble_eq_true rfl, Nat.le_of_ble_eq_true rfl⟩ ⟨Nat.le_of_ble_eq_true rfl, Nat.le_of_ble_eq_true rfl⟩ (Nat.le_of_ble_eq_true rfl) dL_687 (fun r4 τ4 hp4 => ?_)
  obtain ⟨rfl, hF4⟩ := hp4
  show hpV _ _ _ _ _ _ _ _ _ _ _ _ _ _ _ _ _ _ _ _ _ (_ :: _)
  refine h_icmp_eq (tgt := 2354) C dL_690 (by decide) ⟨by decide, by decide⟩ ⟨by decide, by decide⟩ (fun h5 => ?_) (fun h5 => ?_)
  · refine h_iinc (lv' := [(3, .int (hpI 6)), (2, .ref (s.heap.size + 195)), (1, .ref (s.heap.size + 0)), (0, .ref b)]) C dL_2354 0 rfl rfl (by decide) rfl ?_
    refine h_goto (tgt := 18) C dL_2357 (by decide) ?_
    refine h_iload_n C dL_18 0 rfl rfl ?_
    refine h_aload_n C dL_19 3 rfl rfl ?_
    refine h_slen C hX hbl dL_20 ?_
    refine h_bipush C dL_21 (by decide) ?_
    refine h_isub (r := 0) C dL_23 (by decide) ?_
    refine h_icmp_gt (tgt := 2360) C dL_24 (by decide) ⟨by decide, by decide⟩ ⟨by decide, by decide⟩ (fun h7 => ?_) (fun h7 => ?_)
    · refine h_iconst C dL_2360 ?_
      exact h_lawret C hr hk dL_2361
    · exfalso; omega
  · exfalso; omega
set_option maxHeartbeats 4000000 in
set_option maxRecDepth 20000 in
theorem law_13 {p : Program} {e : Env} {s : State} {m : MethodId} {below : List Frame} {meth : Method} {c : Code} (l : Launch) {b : Nat} {xs : Nat → Int32} {D : va_G} {cy : Nat → ClassId} (C : hpC p s m #[.ref b] c code 4 RL D cy) (hr : meth.sig.returnType = ret) (hk : meth.locks = false) (hX : va_X b 6 xs s s.heap) (hbl : b < s.heap.size) : hpV p l e room_1 s m #[.ref b] below meth c 217 24316 4 D cy s.heap.size s.heap (lw_Z below #[Value.ref b] s) hp0 695 [(3, .int (hpI 0)), (2, .ref (s.heap.size + 195)), (1, .ref (s.heap.size + 0)), (0, .ref b)] [] := by
  refine h_aload_n C dL_695 2 rfl rfl ?_
  refine h_aload_n C dL_696 3 rfl rfl ?_
  refine h_iload_n C dL_697 0 rfl rfl ?_
  refine h_iconst C dL_698 ?_
  refine h_iadd (r := 1) C dL_699 (by decide) ?_
  refine h_sld C hX hbl 1 rfl (by decide) dL_700 ?_
  obtain ⟨hq1a, hq1b⟩ := hpR_of (xs 1)
  generalize ev1 : (xs 1).toInt = v1 at hq1a hq1b ⊢
  refine h_callV (As := [.int (hpI v1)]) (rest := []) C yyX8_taken wd_679 (tX8_taken l D cy s.heap.size _ v1 ⟨by omega, by omega⟩ rfl) kd_0 rfl rfl ⟨rfl, rfl, Nat.le_of_ble_eq_true rfl, Nat.le_of_ble_eq_true rfl⟩ ⟨Nat.le_of_ble_eq_true rfl, Nat.le_of_ble_eq_true rfl⟩ (Nat.le_of_ble_eq_true rfl) dL_701 (fun r2 τ2 hp2 => ?_)
  obtain ⟨rfl, rfl⟩ := hp2
  show hpV _ _ _ _ _ _ _ _ _ _ _ _ _ _ _ _ _ _ _ _ _ (_ :: _)
  refine h_aload_n C dL_704 1 rfl rfl ?_
  refine h_aload_n C dL_705 3 rfl rfl ?_
  refine h_iload_n C dL_706 0 rfl rfl ?_
  refine h_iconst C dL_707 ?_
  refine h_iadd (r := 1) C dL_708 (by decide) ?_
  refine h_sld C hX hbl 1 rfl (by decide) dL_709 ?_
  rw [ev1]
  refine h_callV (As := [.int (hpI v1)]) (rest := [.int (hpI (-2))]) C yyX9_taken wd_1608 (tX9_taken l D cy s.heap.size _ v1 ⟨by omega, by omega⟩ (fun i => ((fun i => hp0_z (by decide) (by decide) (by decide) (by decide) (by decide)) i))) kd_195 rfl rfl ⟨rfl, rfl, Nat.le_of_ble_eq_true rfl, Nat.le_of_ble_eq_true rfl⟩ ⟨Nat.le_of_ble_eq_true rfl, Nat.le_of_ble_eq_true rfl⟩ (Nat.le_of_ble_eq_true rfl) dL_710 (fun r4 τ4 hp4 => ?_)
  obtain ⟨rfl, hF4⟩ := hp4
  show hpV _ _ _ _ _ _ _ _ _ _ _ _ _ _ _ _ _ _ _ _ _ (_ :: _)
  refine h_icmp_eq (tgt := 2354) C dL_713 (by decide) ⟨by decide, by decide⟩ ⟨by decide, by decide⟩ (fun h5 => ?_) (fun h5 => ?_)
  · refine h_iinc (lv' := [(3, .int (hpI 6)), (2, .ref (s.heap.size + 195)), (1, .ref (s.heap.size + 0)), (0, .ref b)]) C dL_2354 0 rfl rfl (by decide) rfl ?_
    refine h_goto (tgt := 18) C dL_2357 (by decide) ?_
    refine h_iload_n C dL_18 0 rfl rfl ?_
    refine h_aload_n C dL_19 3 rfl rfl ?_
    refine h_slen C hX hbl dL_20 ?_
    refine h_bipush C dL_21 (by decide) ?_
    refine h_isub (r := 0) C dL_23 (by decide) ?_
    refine h_icmp_gt (tgt := 2360) C dL_24 (by decide) ⟨by decide, by decide⟩ ⟨by decide, by decide⟩ (fun h7 => ?_) (fun h7 => ?_)
    · refine h_iconst C dL_2360 ?_
      exact h_lawret C hr hk dL_2361
    · exfalso; omega
  · exfalso; omega
set_option maxHeartbeats 4000000 in
set_option maxRecDepth 20000 in
theorem law_14 {p : Program} {e : Env} {s : State} {m : MethodId} {below : List Frame} {meth : Method} {c : Code} (l : Launch) {b : Nat} {xs : Nat → Int32} {D : va_G} {cy : Nat → ClassId} (C : hpC p s m #[.ref b] c code 4 RL D cy) (hr : meth.sig.returnType = ret) (hk : meth.locks = false) (hX : va_X b 6 xs s s.heap) (hbl : b < s.heap.size) : hpV p l e room_1 s m #[.ref b] below meth c 217 24316 4 D cy s.heap.size s.heap (lw_Z below #[Value.ref b] s) hp0 718 [(3, .int (hpI 0)), (2, .ref (s.heap.size + 195)), (1, .ref (s.heap.size + 0)), (0, .ref b)] [] := by
  refine h_aload_n C dL_718 2 rfl rfl ?_
  refine h_aload_n C dL_719 3 rfl rfl ?_
  refine h_iload_n C dL_720 0 rfl rfl ?_
  refine h_iconst C dL_721 ?_
  refine h_iadd (r := 1) C dL_722 (by decide) ?_
  refine h_sld C hX hbl 1 rfl (by decide) dL_723 ?_
  obtain ⟨hq1a, hq1b⟩ := hpR_of (xs 1)
  generalize ev1 : (xs 1).toInt = v1 at hq1a hq1b ⊢
  refine h_callV (As := [.int (hpI v1)]) (rest := []) C yyX8_gone wd_695 (tX8_gone l D cy s.heap.size _ v1 ⟨by omega, by omega⟩ rfl) kd_0 rfl rfl ⟨rfl, rfl, Nat.le_of_ble_eq_true rfl, Nat.le_of_ble_eq_true rfl⟩ ⟨Nat.le_of_ble_eq_true rfl, Nat.le_of_ble_eq_true rfl⟩ (Nat.le_of_ble_eq_true rfl) dL_724 (fun r2 τ2 hp2 => ?_)
  obtain ⟨rfl, rfl⟩ := hp2
  show hpV _ _ _ _ _ _ _ _ _ _ _ _ _ _ _ _ _ _ _ _ _ (_ :: _)
  refine h_aload_n C dL_727 1 rfl rfl ?_
  refine h_aload_n C dL_728 3 rfl rfl ?_
  refine h_iload_n C dL_729 0 rfl rfl ?_
  refine h_iconst C dL_730 ?_
  refine h_iadd (r := 1) C dL_731 (by decide) ?_
  refine h_sld C hX hbl 1 rfl (by decide) dL_732 ?_
  rw [ev1]
  refine h_callV (As := [.int (hpI v1)]) (rest := [.int (hpI (-2))]) C yyX9_gone wd_1616 (tX9_gone l D cy s.heap.size _ v1 ⟨by omega, by omega⟩ (fun i => ((fun i => hp0_z (by decide) (by decide) (by decide) (by decide) (by decide)) i))) kd_195 rfl rfl ⟨rfl, rfl, Nat.le_of_ble_eq_true rfl, Nat.le_of_ble_eq_true rfl⟩ ⟨Nat.le_of_ble_eq_true rfl, Nat.le_of_ble_eq_true rfl⟩ (Nat.le_of_ble_eq_true rfl) dL_733 (fun r4 τ4 hp4 => ?_)
  obtain ⟨rfl, hF4⟩ := hp4
  show hpV _ _ _ _ _ _ _ _ _ _ _ _ _ _ _ _ _ _ _ _ _ (_ :: _)
  refine h_icmp_eq (tgt := 2354) C dL_736 (by decide) ⟨by decide, by decide⟩ ⟨by decide, by decide⟩ (fun h5 => ?_) (fun h5 => ?_)
  · refine h_iinc (lv' := [(3, .int (hpI 6)), (2, .ref (s.heap.size + 195)), (1, .ref (s.heap.size + 0)), (0, .ref b)]) C dL_2354 0 rfl rfl (by decide) rfl ?_
    refine h_goto (tgt := 18) C dL_2357 (by decide) ?_
    refine h_iload_n C dL_18 0 rfl rfl ?_
    refine h_aload_n C dL_19 3 rfl rfl ?_
    refine h_slen C hX hbl dL_20 ?_
    refine h_bipush C dL_21 (by decide) ?_
    refine h_isub (r := 0) C dL_23 (by decide) ?_
    refine h_icmp_gt (tgt := 2360) C dL_24 (by decide) ⟨by decide, by decide⟩ ⟨by decide, by decide⟩ (fun h7 => ?_) (fun h7 => ?_)
    · refine h_iconst C dL_2360 ?_
      exact h_lawret C hr hk dL_2361
    · exfalso; omega
  · exfalso; omega
set_option maxHeartbeats 4000000 in
set_option maxRecDepth 20000 in
theorem law_15 {p : Program} {e : Env} {s : State} {m : MethodId} {below : List Frame} {meth : Method} {c : Code} (l : Launch) {b : Nat} {xs : Nat → Int32} {D : va_G} {cy : Nat → ClassId} (C : hpC p s m #[.ref b] c code 4 RL D cy) (hr : meth.sig.returnType = ret) (hk : meth.locks = false) (hX : va_X b 6 xs s s.heap) (hbl : b < s.heap.size) : hpV p l e room_1 s m #[.ref b] below meth c 217 24316 4 D cy s.heap.size s.heap (lw_Z below #[Value.ref b] s) hp0 741 [(3, .int (hpI 0)), (2, .ref (s.heap.size + 195)), (1, .ref (s.heap.size + 0)), (0, .ref b)] [] := by
  refine h_aload_n C dL_741 2 rfl rfl ?_
  refine h_callV (As := []) (rest := []) C yyX8_most wd_703 (tX8_most l D cy s.heap.size _ rfl) kd_0 rfl rfl ⟨rfl, rfl, Nat.le_of_ble_eq_true rfl, Nat.le_of_ble_eq_true rfl⟩ ⟨Nat.le_of_ble_eq_true rfl, Nat.le_of_ble_eq_true rfl⟩ (Nat.le_of_ble_eq_true rfl) dL_742 (fun r1 τ1 hp1 => ?_)
  obtain ⟨rfl, rfl⟩ := hp1
  show hpV _ _ _ _ _ _ _ _ _ _ _ _ _ _ _ _ _ _ _ _ _ (_ :: _)
  refine h_aload_n C dL_745 1 rfl rfl ?_
  refine h_callV (As := []) (rest := [.int (hpI (-2))]) C yyX9_most wd_1620 (tX9_most l D cy s.heap.size _ (fun i => ((fun i => hp0_z (by decide) (by decide) (by decide) (by decide) (by decide)) i))) kd_195 rfl rfl ⟨rfl, rfl, Nat.le_of_ble_eq_true rfl, Nat.le_of_ble_eq_true rfl⟩ ⟨Nat.le_of_ble_eq_true rfl, Nat.le_of_ble_eq_true rfl⟩ (Nat.le_of_ble_eq_true rfl) dL_746 (fun r2 τ2 hp2 => ?_)
  obtain ⟨rfl, hF2⟩ := hp2
  show hpV _ _ _ _ _ _ _ _ _ _ _ _ _ _ _ _ _ _ _ _ _ (_ :: _)
  refine h_icmp_eq (tgt := 2354) C dL_749 (by decide) ⟨by decide, by decide⟩ ⟨by decide, by decide⟩ (fun h3 => ?_) (fun h3 => ?_)
  · refine h_iinc (lv' := [(3, .int (hpI 6)), (2, .ref (s.heap.size + 195)), (1, .ref (s.heap.size + 0)), (0, .ref b)]) C dL_2354 0 rfl rfl (by decide) rfl ?_
    refine h_goto (tgt := 18) C dL_2357 (by decide) ?_
    refine h_iload_n C dL_18 0 rfl rfl ?_
    refine h_aload_n C dL_19 3 rfl rfl ?_
    refine h_slen C hX hbl dL_20 ?_
    refine h_bipush C dL_21 (by decide) ?_
    refine h_isub (r := 0) C dL_23 (by decide) ?_
    refine h_icmp_gt (tgt := 2360) C dL_24 (by decide) ⟨by decide, by decide⟩ ⟨by decide, by decide⟩ (fun h5 => ?_) (fun h5 => ?_)
    · refine h_iconst C dL_2360 ?_
      exact h_lawret C hr hk dL_2361
    · exfalso; omega
  · exfalso; omega
set_option maxHeartbeats 4000000 in
set_option maxRecDepth 20000 in
theorem law_16 {p : Program} {e : Env} {s : State} {m : MethodId} {below : List Frame} {meth : Method} {c : Code} (l : Launch) {b : Nat} {xs : Nat → Int32} {D : va_G} {cy : Nat → ClassId} (C : hpC p s m #[.ref b] c code 4 RL D cy) (hr : meth.sig.returnType = ret) (hk : meth.locks = false) (hX : va_X b 6 xs s s.heap) (hbl : b < s.heap.size) : hpV p l e room_1 s m #[.ref b] below meth c 217 24316 4 D cy s.heap.size s.heap (lw_Z below #[Value.ref b] s) hp0 754 [(3, .int (hpI 0)), (2, .ref (s.heap.size + 195)), (1, .ref (s.heap.size + 0)), (0, .ref b)] [] := by
  refine h_aload_n C dL_754 2 rfl rfl ?_
  refine h_callV (As := []) (rest := []) C yyX8_peak wd_710 (tX8_peak l D cy s.heap.size _ rfl) kd_0 rfl rfl ⟨rfl, rfl, Nat.le_of_ble_eq_true rfl, Nat.le_of_ble_eq_true rfl⟩ ⟨Nat.le_of_ble_eq_true rfl, Nat.le_of_ble_eq_true rfl⟩ (Nat.le_of_ble_eq_true rfl) dL_755 (fun r1 τ1 hp1 => ?_)
  obtain ⟨rfl, rfl⟩ := hp1
  show hpV _ _ _ _ _ _ _ _ _ _ _ _ _ _ _ _ _ _ _ _ _ (_ :: _)
  refine h_aload_n C dL_758 1 rfl rfl ?_
  refine h_callV (As := []) (rest := [.int (hpI (-2))]) C yyX9_peak wd_1625 (tX9_peak l D cy s.heap.size _ (fun i => ((fun i => hp0_z (by decide) (by decide) (by decide) (by decide) (by decide)) i))) kd_195 rfl rfl ⟨rfl, rfl, Nat.le_of_ble_eq_true rfl, Nat.le_of_ble_eq_true rfl⟩ ⟨Nat.le_of_ble_eq_true rfl, Nat.le_of_ble_eq_true rfl⟩ (Nat.le_of_ble_eq_true rfl) dL_759 (fun r2 τ2 hp2 => ?_)
  obtain ⟨rfl, hF2⟩ := hp2
  show hpV _ _ _ _ _ _ _ _ _ _ _ _ _ _ _ _ _ _ _ _ _ (_ :: _)
  refine h_icmp_eq (tgt := 2354) C dL_762 (by decide) ⟨by decide, by decide⟩ ⟨by decide, by decide⟩ (fun h3 => ?_) (fun h3 => ?_)
  · refine h_iinc (lv' := [(3, .int (hpI 6)), (2, .ref (s.heap.size + 195)), (1, .ref (s.heap.size + 0)), (0, .ref b)]) C dL_2354 0 rfl rfl (by decide) rfl ?_
    refine h_goto (tgt := 18) C dL_2357 (by decide) ?_
    refine h_iload_n C dL_18 0 rfl rfl ?_
    refine h_aload_n C dL_19 3 rfl rfl ?_
    refine h_slen C hX hbl dL_20 ?_
    refine h_bipush C dL_21 (by decide) ?_
    refine h_isub (r := 0) C dL_23 (by decide) ?_
    refine h_icmp_gt (tgt := 2360) C dL_24 (by decide) ⟨by decide, by decide⟩ ⟨by decide, by decide⟩ (fun h5 => ?_) (fun h5 => ?_)
    · refine h_iconst C dL_2360 ?_
      exact h_lawret C hr hk dL_2361
    · exfalso; omega
  · exfalso; omega
set_option maxHeartbeats 4000000 in
set_option maxRecDepth 20000 in
theorem law_17 {p : Program} {e : Env} {s : State} {m : MethodId} {below : List Frame} {meth : Method} {c : Code} (l : Launch) {b : Nat} {xs : Nat → Int32} {D : va_G} {cy : Nat → ClassId} (C : hpC p s m #[.ref b] c code 4 RL D cy) (hr : meth.sig.returnType = ret) (hk : meth.locks = false) (hX : va_X b 6 xs s s.heap) (hbl : b < s.heap.size) : hpV p l e room_1 s m #[.ref b] below meth c 217 24316 4 D cy s.heap.size s.heap (lw_Z below #[Value.ref b] s) hp0 767 [(3, .int (hpI 0)), (2, .ref (s.heap.size + 195)), (1, .ref (s.heap.size + 0)), (0, .ref b)] [] := by
  refine h_aload_n C dL_767 2 rfl rfl ?_
  refine h_aload_n C dL_768 3 rfl rfl ?_
  refine h_iload_n C dL_769 0 rfl rfl ?_
  refine h_iconst C dL_770 ?_
  refine h_iadd (r := 1) C dL_771 (by decide) ?_
  refine h_sld C hX hbl 1 rfl (by decide) dL_772 ?_
  obtain ⟨hq1a, hq1b⟩ := hpR_of (xs 1)
  generalize ev1 : (xs 1).toInt = v1 at hq1a hq1b ⊢
  refine h_callV (As := [.int (hpI v1)]) (rest := []) C yyX8_same wd_714 (tX8_same l D cy s.heap.size _ v1 ⟨by omega, by omega⟩ rfl) kd_0 rfl rfl ⟨rfl, rfl, Nat.le_of_ble_eq_true rfl, Nat.le_of_ble_eq_true rfl⟩ ⟨Nat.le_of_ble_eq_true rfl, Nat.le_of_ble_eq_true rfl⟩ (Nat.le_of_ble_eq_true rfl) dL_773 (fun r2 τ2 hp2 => ?_)
  obtain ⟨rfl, rfl⟩ := hp2
  show hpV _ _ _ _ _ _ _ _ _ _ _ _ _ _ _ _ _ _ _ _ _ (_ :: _)
  refine h_aload_n C dL_776 1 rfl rfl ?_
  refine h_aload_n C dL_777 3 rfl rfl ?_
  refine h_iload_n C dL_778 0 rfl rfl ?_
  refine h_iconst C dL_779 ?_
  refine h_iadd (r := 1) C dL_780 (by decide) ?_
  refine h_sld C hX hbl 1 rfl (by decide) dL_781 ?_
  rw [ev1]
  refine h_callV (As := [.int (hpI v1)]) (rest := [.int (hpI (-2))]) C yyX9_same wd_1633 (tX9_same l D cy s.heap.size _ v1 ⟨by omega, by omega⟩ (fun i => ((fun i => hp0_z (by decide) (by decide) (by decide) (by decide) (by decide)) i))) kd_195 rfl rfl ⟨rfl, rfl, Nat.le_of_ble_eq_true rfl, Nat.le_of_ble_eq_true rfl⟩ ⟨Nat.le_of_ble_eq_true rfl, Nat.le_of_ble_eq_true rfl⟩ (Nat.le_of_ble_eq_true rfl) dL_782 (fun r4 τ4 hp4 => ?_)
  obtain ⟨rfl, hF4⟩ := hp4
  show hpV _ _ _ _ _ _ _ _ _ _ _ _ _ _ _ _ _ _ _ _ _ (_ :: _)
  refine h_icmp_eq (tgt := 2354) C dL_785 (by decide) ⟨by decide, by decide⟩ ⟨by decide, by decide⟩ (fun h5 => ?_) (fun h5 => ?_)
  · refine h_iinc (lv' := [(3, .int (hpI 6)), (2, .ref (s.heap.size + 195)), (1, .ref (s.heap.size + 0)), (0, .ref b)]) C dL_2354 0 rfl rfl (by decide) rfl ?_
    refine h_goto (tgt := 18) C dL_2357 (by decide) ?_
    refine h_iload_n C dL_18 0 rfl rfl ?_
    refine h_aload_n C dL_19 3 rfl rfl ?_
    refine h_slen C hX hbl dL_20 ?_
    refine h_bipush C dL_21 (by decide) ?_
    refine h_isub (r := 0) C dL_23 (by decide) ?_
    refine h_icmp_gt (tgt := 2360) C dL_24 (by decide) ⟨by decide, by decide⟩ ⟨by decide, by decide⟩ (fun h7 => ?_) (fun h7 => ?_)
    · refine h_iconst C dL_2360 ?_
      exact h_lawret C hr hk dL_2361
    · exfalso; omega
  · exfalso; omega
set_option maxHeartbeats 4000000 in
set_option maxRecDepth 20000 in
theorem law_18 {p : Program} {e : Env} {s : State} {m : MethodId} {below : List Frame} {meth : Method} {c : Code} (l : Launch) {b : Nat} {xs : Nat → Int32} {D : va_G} {cy : Nat → ClassId} (C : hpC p s m #[.ref b] c code 4 RL D cy) (hr : meth.sig.returnType = ret) (hk : meth.locks = false) (hX : va_X b 6 xs s s.heap) (hbl : b < s.heap.size) : hpV p l e room_1 s m #[.ref b] below meth c 217 24316 4 D cy s.heap.size s.heap (lw_Z below #[Value.ref b] s) hp0 790 [(3, .int (hpI 0)), (2, .ref (s.heap.size + 195)), (1, .ref (s.heap.size + 0)), (0, .ref b)] [] := by
  refine h_aload_n C dL_790 2 rfl rfl ?_
  refine h_callV (As := []) (rest := []) C yyX8_still wd_726 (tX8_still l D cy s.heap.size _ rfl) kd_0 rfl rfl ⟨rfl, rfl, Nat.le_of_ble_eq_true rfl, Nat.le_of_ble_eq_true rfl⟩ ⟨Nat.le_of_ble_eq_true rfl, Nat.le_of_ble_eq_true rfl⟩ (Nat.le_of_ble_eq_true rfl) dL_791 (fun r1 τ1 hp1 => ?_)
  obtain ⟨rfl, rfl⟩ := hp1
  show hpV _ _ _ _ _ _ _ _ _ _ _ _ _ _ _ _ _ _ _ _ _ (_ :: _)
  refine h_aload_n C dL_794 1 rfl rfl ?_
  refine h_callV (As := []) (rest := [.int (hpI (-2))]) C yyX9_still wd_1645 (tX9_still l D cy s.heap.size _ (fun i => ((fun i => hp0_z (by decide) (by decide) (by decide) (by decide) (by decide)) i))) kd_195 rfl rfl ⟨rfl, rfl, Nat.le_of_ble_eq_true rfl, Nat.le_of_ble_eq_true rfl⟩ ⟨Nat.le_of_ble_eq_true rfl, Nat.le_of_ble_eq_true rfl⟩ (Nat.le_of_ble_eq_true rfl) dL_795 (fun r2 τ2 hp2 => ?_)
  obtain ⟨rfl, hF2⟩ := hp2
  show hpV _ _ _ _ _ _ _ _ _ _ _ _ _ _ _ _ _ _ _ _ _ (_ :: _)
  refine h_icmp_eq (tgt := 2354) C dL_798 (by decide) ⟨by decide, by decide⟩ ⟨by decide, by decide⟩ (fun h3 => ?_) (fun h3 => ?_)
  · refine h_iinc (lv' := [(3, .int (hpI 6)), (2, .ref (s.heap.size + 195)), (1, .ref (s.heap.size + 0)), (0, .ref b)]) C dL_2354 0 rfl rfl (by decide) rfl ?_
    refine h_goto (tgt := 18) C dL_2357 (by decide) ?_
    refine h_iload_n C dL_18 0 rfl rfl ?_
    refine h_aload_n C dL_19 3 rfl rfl ?_
    refine h_slen C hX hbl dL_20 ?_
    refine h_bipush C dL_21 (by decide) ?_
    refine h_isub (r := 0) C dL_23 (by decide) ?_
    refine h_icmp_gt (tgt := 2360) C dL_24 (by decide) ⟨by decide, by decide⟩ ⟨by decide, by decide⟩ (fun h5 => ?_) (fun h5 => ?_)
    · refine h_iconst C dL_2360 ?_
      exact h_lawret C hr hk dL_2361
    · exfalso; omega
  · exfalso; omega
set_option maxHeartbeats 4000000 in
set_option maxRecDepth 20000 in
theorem law_19 {p : Program} {e : Env} {s : State} {m : MethodId} {below : List Frame} {meth : Method} {c : Code} (l : Launch) {b : Nat} {xs : Nat → Int32} {D : va_G} {cy : Nat → ClassId} (C : hpC p s m #[.ref b] c code 4 RL D cy) (hr : meth.sig.returnType = ret) (hk : meth.locks = false) (hX : va_X b 6 xs s s.heap) (hbl : b < s.heap.size) : hpV p l e room_1 s m #[.ref b] below meth c 217 24316 4 D cy s.heap.size s.heap (lw_Z below #[Value.ref b] s) hp0 803 [(3, .int (hpI 0)), (2, .ref (s.heap.size + 195)), (1, .ref (s.heap.size + 0)), (0, .ref b)] [] := by
  refine h_aload_n C dL_803 2 rfl rfl ?_
  refine h_callV (As := []) (rest := []) C yyX8_rows wd_730 (tX8_rows l D cy s.heap.size _ rfl) kd_0 rfl rfl ⟨rfl, rfl, Nat.le_of_ble_eq_true rfl, Nat.le_of_ble_eq_true rfl⟩ ⟨Nat.le_of_ble_eq_true rfl, Nat.le_of_ble_eq_true rfl⟩ (Nat.le_of_ble_eq_true rfl) dL_804 (fun r1 τ1 hp1 => ?_)
  obtain ⟨rfl, rfl⟩ := hp1
  show hpV _ _ _ _ _ _ _ _ _ _ _ _ _ _ _ _ _ _ _ _ _ (_ :: _)
  refine h_aload_n C dL_807 1 rfl rfl ?_
  refine h_callV (As := []) (rest := [.int (hpI (-2))]) C yyX9_rows wd_1649 (tX9_rows l D cy s.heap.size _ (fun i => ((fun i => hp0_z (by decide) (by decide) (by decide) (by decide) (by decide)) i))) kd_195 rfl rfl ⟨rfl, rfl, Nat.le_of_ble_eq_true rfl, Nat.le_of_ble_eq_true rfl⟩ ⟨Nat.le_of_ble_eq_true rfl, Nat.le_of_ble_eq_true rfl⟩ (Nat.le_of_ble_eq_true rfl) dL_808 (fun r2 τ2 hp2 => ?_)
  obtain ⟨rfl, hF2⟩ := hp2
  show hpV _ _ _ _ _ _ _ _ _ _ _ _ _ _ _ _ _ _ _ _ _ (_ :: _)
  refine h_icmp_eq (tgt := 2354) C dL_811 (by decide) ⟨by decide, by decide⟩ ⟨by decide, by decide⟩ (fun h3 => ?_) (fun h3 => ?_)
  · refine h_iinc (lv' := [(3, .int (hpI 6)), (2, .ref (s.heap.size + 195)), (1, .ref (s.heap.size + 0)), (0, .ref b)]) C dL_2354 0 rfl rfl (by decide) rfl ?_
    refine h_goto (tgt := 18) C dL_2357 (by decide) ?_
    refine h_iload_n C dL_18 0 rfl rfl ?_
    refine h_aload_n C dL_19 3 rfl rfl ?_
    refine h_slen C hX hbl dL_20 ?_
    refine h_bipush C dL_21 (by decide) ?_
    refine h_isub (r := 0) C dL_23 (by decide) ?_
    refine h_icmp_gt (tgt := 2360) C dL_24 (by decide) ⟨by decide, by decide⟩ ⟨by decide, by decide⟩ (fun h5 => ?_) (fun h5 => ?_)
    · refine h_iconst C dL_2360 ?_
      exact h_lawret C hr hk dL_2361
    · exfalso; omega
  · exfalso; omega
set_option maxHeartbeats 4000000 in
set_option maxRecDepth 20000 in
theorem law_20 {p : Program} {e : Env} {s : State} {m : MethodId} {below : List Frame} {meth : Method} {c : Code} (l : Launch) {b : Nat} {xs : Nat → Int32} {D : va_G} {cy : Nat → ClassId} (C : hpC p s m #[.ref b] c code 4 RL D cy) (hr : meth.sig.returnType = ret) (hk : meth.locks = false) (hX : va_X b 6 xs s s.heap) (hbl : b < s.heap.size) : hpV p l e room_1 s m #[.ref b] below meth c 217 24316 4 D cy s.heap.size s.heap (lw_Z below #[Value.ref b] s) hp0 816 [(3, .int (hpI 0)), (2, .ref (s.heap.size + 195)), (1, .ref (s.heap.size + 0)), (0, .ref b)] [] := by
  refine h_aload_n C dL_816 2 rfl rfl ?_
  refine h_aload_n C dL_817 3 rfl rfl ?_
  refine h_iload_n C dL_818 0 rfl rfl ?_
  refine h_iconst C dL_819 ?_
  refine h_iadd (r := 1) C dL_820 (by decide) ?_
  refine h_sld C hX hbl 1 rfl (by decide) dL_821 ?_
  obtain ⟨hq1a, hq1b⟩ := hpR_of (xs 1)
  generalize ev1 : (xs 1).toInt = v1 at hq1a hq1b ⊢
  refine h_callV (As := [.int (hpI v1)]) (rest := []) C yyX8_stair wd_734 (tX8_stair l D cy s.heap.size _ v1 ⟨by omega, by omega⟩ rfl) kd_0 rfl rfl ⟨rfl, rfl, Nat.le_of_ble_eq_true rfl, Nat.le_of_ble_eq_true rfl⟩ ⟨Nat.le_of_ble_eq_true rfl, Nat.le_of_ble_eq_true rfl⟩ (Nat.le_of_ble_eq_true rfl) dL_822 (fun r2 τ2 hp2 => ?_)
  obtain ⟨rfl, rfl⟩ := hp2
  show hpV _ _ _ _ _ _ _ _ _ _ _ _ _ _ _ _ _ _ _ _ _ (_ :: _)
  refine h_aload_n C dL_825 1 rfl rfl ?_
  refine h_aload_n C dL_826 3 rfl rfl ?_
  refine h_iload_n C dL_827 0 rfl rfl ?_
  refine h_iconst C dL_828 ?_
  refine h_iadd (r := 1) C dL_829 (by decide) ?_
  refine h_sld C hX hbl 1 rfl (by decide) dL_830 ?_
  rw [ev1]
  refine h_callV (As := [.int (hpI v1)]) (rest := [.int (hpI (-2))]) C yyX9_stair wd_1653 (tX9_stair l D cy s.heap.size _ v1 ⟨by omega, by omega⟩ (fun i => ((fun i => hp0_z (by decide) (by decide) (by decide) (by decide) (by decide)) i))) kd_195 rfl rfl ⟨rfl, rfl, Nat.le_of_ble_eq_true rfl, Nat.le_of_ble_eq_true rfl⟩ ⟨Nat.le_of_ble_eq_true rfl, Nat.le_of_ble_eq_true rfl⟩ (Nat.le_of_ble_eq_true rfl) dL_831 (fun r4 τ4 hp4 => ?_)
  obtain ⟨rfl, hF4⟩ := hp4
  show hpV _ _ _ _ _ _ _ _ _ _ _ _ _ _ _ _ _ _ _ _ _ (_ :: _)
  refine h_icmp_eq (tgt := 2354) C dL_834 (by decide) ⟨by decide, by decide⟩ ⟨by decide, by decide⟩ (fun h5 => ?_) (fun h5 => ?_)
  · refine h_iinc (lv' := [(3, .int (hpI 6)), (2, .ref (s.heap.size + 195)), (1, .ref (s.heap.size + 0)), (0, .ref b)]) C dL_2354 0 rfl rfl (by decide) rfl ?_
    refine h_goto (tgt := 18) C dL_2357 (by decide) ?_
    refine h_iload_n C dL_18 0 rfl rfl ?_
    refine h_aload_n C dL_19 3 rfl rfl ?_
    refine h_slen C hX hbl dL_20 ?_
    refine h_bipush C dL_21 (by decide) ?_
    refine h_isub (r := 0) C dL_23 (by decide) ?_
    refine h_icmp_gt (tgt := 2360) C dL_24 (by decide) ⟨by decide, by decide⟩ ⟨by decide, by decide⟩ (fun h7 => ?_) (fun h7 => ?_)
    · refine h_iconst C dL_2360 ?_
      exact h_lawret C hr hk dL_2361
    · exfalso; omega
  · exfalso; omega
set_option maxHeartbeats 4000000 in
set_option maxRecDepth 20000 in
theorem law_21 {p : Program} {e : Env} {s : State} {m : MethodId} {below : List Frame} {meth : Method} {c : Code} (l : Launch) {b : Nat} {xs : Nat → Int32} {D : va_G} {cy : Nat → ClassId} (C : hpC p s m #[.ref b] c code 4 RL D cy) (hr : meth.sig.returnType = ret) (hk : meth.locks = false) (hX : va_X b 6 xs s s.heap) (hbl : b < s.heap.size) : hpV p l e room_1 s m #[.ref b] below meth c 217 24316 4 D cy s.heap.size s.heap (lw_Z below #[Value.ref b] s) hp0 839 [(3, .int (hpI 0)), (2, .ref (s.heap.size + 195)), (1, .ref (s.heap.size + 0)), (0, .ref b)] [] := by
  refine h_aload_n C dL_839 2 rfl rfl ?_
  refine h_callV (As := []) (rest := []) C yyX8_stairs wd_745 (tX8_stairs l D cy s.heap.size _ rfl) kd_0 rfl rfl ⟨rfl, rfl, Nat.le_of_ble_eq_true rfl, Nat.le_of_ble_eq_true rfl⟩ ⟨Nat.le_of_ble_eq_true rfl, Nat.le_of_ble_eq_true rfl⟩ (Nat.le_of_ble_eq_true rfl) dL_840 (fun r1 τ1 hp1 => ?_)
  obtain ⟨rfl, rfl⟩ := hp1
  show hpV _ _ _ _ _ _ _ _ _ _ _ _ _ _ _ _ _ _ _ _ _ (_ :: _)
  refine h_aload_n C dL_843 1 rfl rfl ?_
  refine h_callV (As := []) (rest := [.int (hpI (-2))]) C yyX9_stairs wd_1661 (tX9_stairs l D cy s.heap.size _ (fun i => ((fun i => hp0_z (by decide) (by decide) (by decide) (by decide) (by decide)) i))) kd_195 rfl rfl ⟨rfl, rfl, Nat.le_of_ble_eq_true rfl, Nat.le_of_ble_eq_true rfl⟩ ⟨Nat.le_of_ble_eq_true rfl, Nat.le_of_ble_eq_true rfl⟩ (Nat.le_of_ble_eq_true rfl) dL_844 (fun r2 τ2 hp2 => ?_)
  obtain ⟨rfl, hF2⟩ := hp2
  show hpV _ _ _ _ _ _ _ _ _ _ _ _ _ _ _ _ _ _ _ _ _ (_ :: _)
  refine h_icmp_eq (tgt := 2354) C dL_847 (by decide) ⟨by decide, by decide⟩ ⟨by decide, by decide⟩ (fun h3 => ?_) (fun h3 => ?_)
  · refine h_iinc (lv' := [(3, .int (hpI 6)), (2, .ref (s.heap.size + 195)), (1, .ref (s.heap.size + 0)), (0, .ref b)]) C dL_2354 0 rfl rfl (by decide) rfl ?_
    refine h_goto (tgt := 18) C dL_2357 (by decide) ?_
    refine h_iload_n C dL_18 0 rfl rfl ?_
    refine h_aload_n C dL_19 3 rfl rfl ?_
    refine h_slen C hX hbl dL_20 ?_
    refine h_bipush C dL_21 (by decide) ?_
    refine h_isub (r := 0) C dL_23 (by decide) ?_
    refine h_icmp_gt (tgt := 2360) C dL_24 (by decide) ⟨by decide, by decide⟩ ⟨by decide, by decide⟩ (fun h5 => ?_) (fun h5 => ?_)
    · refine h_iconst C dL_2360 ?_
      exact h_lawret C hr hk dL_2361
    · exfalso; omega
  · exfalso; omega
set_option maxHeartbeats 4000000 in
set_option maxRecDepth 20000 in
theorem law_22 {p : Program} {e : Env} {s : State} {m : MethodId} {below : List Frame} {meth : Method} {c : Code} (l : Launch) {b : Nat} {xs : Nat → Int32} {D : va_G} {cy : Nat → ClassId} (C : hpC p s m #[.ref b] c code 4 RL D cy) (hr : meth.sig.returnType = ret) (hk : meth.locks = false) (hX : va_X b 6 xs s s.heap) (hbl : b < s.heap.size) : hpV p l e room_1 s m #[.ref b] below meth c 217 24316 4 D cy s.heap.size s.heap (lw_Z below #[Value.ref b] s) hp0 852 [(3, .int (hpI 0)), (2, .ref (s.heap.size + 195)), (1, .ref (s.heap.size + 0)), (0, .ref b)] [] := by
  refine h_aload_n C dL_852 2 rfl rfl ?_
  refine h_aload_n C dL_853 3 rfl rfl ?_
  refine h_iload_n C dL_854 0 rfl rfl ?_
  refine h_iconst C dL_855 ?_
  refine h_iadd (r := 1) C dL_856 (by decide) ?_
  refine h_sld C hX hbl 1 rfl (by decide) dL_857 ?_
  obtain ⟨hq1a, hq1b⟩ := hpR_of (xs 1)
  generalize ev1 : (xs 1).toInt = v1 at hq1a hq1b ⊢
  refine h_callV (As := [.int (hpI v1)]) (rest := []) C yyX8_square wd_749 (tX8_square l D cy s.heap.size _ v1 ⟨by omega, by omega⟩ rfl) kd_0 rfl rfl ⟨rfl, rfl, Nat.le_of_ble_eq_true rfl, Nat.le_of_ble_eq_true rfl⟩ ⟨Nat.le_of_ble_eq_true rfl, Nat.le_of_ble_eq_true rfl⟩ (Nat.le_of_ble_eq_true rfl) dL_858 (fun r2 τ2 hp2 => ?_)
  obtain ⟨rfl, rfl⟩ := hp2
  show hpV _ _ _ _ _ _ _ _ _ _ _ _ _ _ _ _ _ _ _ _ _ (_ :: _)
  refine h_aload_n C dL_861 1 rfl rfl ?_
  refine h_aload_n C dL_862 3 rfl rfl ?_
  refine h_iload_n C dL_863 0 rfl rfl ?_
  refine h_iconst C dL_864 ?_
  refine h_iadd (r := 1) C dL_865 (by decide) ?_
  refine h_sld C hX hbl 1 rfl (by decide) dL_866 ?_
  rw [ev1]
  refine h_callV (As := [.int (hpI v1)]) (rest := [.int (hpI (-2))]) C yyX9_square wd_1665 (tX9_square l D cy s.heap.size _ v1 ⟨by omega, by omega⟩ (fun i => ((fun i => hp0_z (by decide) (by decide) (by decide) (by decide) (by decide)) i))) kd_195 rfl rfl ⟨rfl, rfl, Nat.le_of_ble_eq_true rfl, Nat.le_of_ble_eq_true rfl⟩ ⟨Nat.le_of_ble_eq_true rfl, Nat.le_of_ble_eq_true rfl⟩ (Nat.le_of_ble_eq_true rfl) dL_867 (fun r4 τ4 hp4 => ?_)
  obtain ⟨rfl, hF4⟩ := hp4
  show hpV _ _ _ _ _ _ _ _ _ _ _ _ _ _ _ _ _ _ _ _ _ (_ :: _)
  refine h_icmp_eq (tgt := 2354) C dL_870 (by decide) ⟨by decide, by decide⟩ ⟨by decide, by decide⟩ (fun h5 => ?_) (fun h5 => ?_)
  · refine h_iinc (lv' := [(3, .int (hpI 6)), (2, .ref (s.heap.size + 195)), (1, .ref (s.heap.size + 0)), (0, .ref b)]) C dL_2354 0 rfl rfl (by decide) rfl ?_
    refine h_goto (tgt := 18) C dL_2357 (by decide) ?_
    refine h_iload_n C dL_18 0 rfl rfl ?_
    refine h_aload_n C dL_19 3 rfl rfl ?_
    refine h_slen C hX hbl dL_20 ?_
    refine h_bipush C dL_21 (by decide) ?_
    refine h_isub (r := 0) C dL_23 (by decide) ?_
    refine h_icmp_gt (tgt := 2360) C dL_24 (by decide) ⟨by decide, by decide⟩ ⟨by decide, by decide⟩ (fun h7 => ?_) (fun h7 => ?_)
    · refine h_iconst C dL_2360 ?_
      exact h_lawret C hr hk dL_2361
    · exfalso; omega
  · exfalso; omega
set_option maxHeartbeats 4000000 in
set_option maxRecDepth 20000 in
theorem law_23 {p : Program} {e : Env} {s : State} {m : MethodId} {below : List Frame} {meth : Method} {c : Code} (l : Launch) {b : Nat} {xs : Nat → Int32} {D : va_G} {cy : Nat → ClassId} (C : hpC p s m #[.ref b] c code 4 RL D cy) (hr : meth.sig.returnType = ret) (hk : meth.locks = false) (hX : va_X b 6 xs s s.heap) (hbl : b < s.heap.size) : hpV p l e room_1 s m #[.ref b] below meth c 217 24316 4 D cy s.heap.size s.heap (lw_Z below #[Value.ref b] s) hp0 875 [(3, .int (hpI 0)), (2, .ref (s.heap.size + 195)), (1, .ref (s.heap.size + 0)), (0, .ref b)] [] := by
  refine h_aload_n C dL_875 2 rfl rfl ?_
  refine h_aload_n C dL_876 3 rfl rfl ?_
  refine h_iload_n C dL_877 0 rfl rfl ?_
  refine h_iconst C dL_878 ?_
  refine h_iadd (r := 1) C dL_879 (by decide) ?_
  refine h_sld C hX hbl 1 rfl (by decide) dL_880 ?_
  obtain ⟨hq1a, hq1b⟩ := hpR_of (xs 1)
  generalize ev1 : (xs 1).toInt = v1 at hq1a hq1b ⊢
  refine h_aload_n C dL_881 3 rfl rfl ?_
  refine h_iload_n C dL_882 0 rfl rfl ?_
  refine h_iconst C dL_883 ?_
  refine h_iadd (r := 2) C dL_884 (by decide) ?_
  refine h_sld C hX hbl 2 rfl (by decide) dL_885 ?_
  obtain ⟨hq2a, hq2b⟩ := hpR_of (xs 2)
  generalize ev2 : (xs 2).toInt = v2 at hq2a hq2b ⊢
  refine h_callV (As := [.int (hpI v1), .int (hpI v2)]) (rest := []) C yyX8_flip wd_761 (tX8_flip l D cy s.heap.size _ v1 ⟨by omega, by omega⟩ v2 ⟨by omega, by omega⟩ rfl) kd_0 rfl rfl ⟨rfl, rfl, Nat.le_of_ble_eq_true rfl, Nat.le_of_ble_eq_true rfl⟩ ⟨Nat.le_of_ble_eq_true rfl, Nat.le_of_ble_eq_true rfl⟩ (Nat.le_of_ble_eq_true rfl) dL_886 (fun r3 τ3 hp3 => ?_)
  obtain ⟨rfl, rfl⟩ := hp3
  show hpV _ _ _ _ _ _ _ _ _ _ _ _ _ _ _ _ _ _ _ _ _ (_ :: _)
  refine h_aload_n C dL_889 1 rfl rfl ?_
  refine h_aload_n C dL_890 3 rfl rfl ?_
  refine h_iload_n C dL_891 0 rfl rfl ?_
  refine h_iconst C dL_892 ?_
  refine h_iadd (r := 1) C dL_893 (by decide) ?_
  refine h_sld C hX hbl 1 rfl (by decide) dL_894 ?_
  rw [ev1]
  refine h_aload_n C dL_895 3 rfl rfl ?_
  refine h_iload_n C dL_896 0 rfl rfl ?_
  refine h_iconst C dL_897 ?_
  refine h_iadd (r := 2) C dL_898 (by decide) ?_
  refine h_sld C hX hbl 2 rfl (by decide) dL_899 ?_
  rw [ev2]
  refine h_callV (As := [.int (hpI v1), .int (hpI v2)]) (rest := [.int (hpI (-2))]) C yyX9_flip wd_1669 (tX9_flip l D cy s.heap.size _ v1 ⟨by omega, by omega⟩ v2 ⟨by omega, by omega⟩ (fun i => ((fun i => hp0_z (by decide) (by decide) (by decide) (by decide) (by decide)) i))) kd_195 rfl rfl ⟨rfl, rfl, Nat.le_of_ble_eq_true rfl, Nat.le_of_ble_eq_true rfl⟩ ⟨Nat.le_of_ble_eq_true rfl, Nat.le_of_ble_eq_true rfl⟩ (Nat.le_of_ble_eq_true rfl) dL_900 (fun r6 τ6 hp6 => ?_)
  obtain ⟨rfl, hF6⟩ := hp6
  show hpV _ _ _ _ _ _ _ _ _ _ _ _ _ _ _ _ _ _ _ _ _ (_ :: _)
  refine h_icmp_eq (tgt := 2354) C dL_903 (by decide) ⟨by decide, by decide⟩ ⟨by decide, by decide⟩ (fun h7 => ?_) (fun h7 => ?_)
  · refine h_iinc (lv' := [(3, .int (hpI 6)), (2, .ref (s.heap.size + 195)), (1, .ref (s.heap.size + 0)), (0, .ref b)]) C dL_2354 0 rfl rfl (by decide) rfl ?_
    refine h_goto (tgt := 18) C dL_2357 (by decide) ?_
    refine h_iload_n C dL_18 0 rfl rfl ?_
    refine h_aload_n C dL_19 3 rfl rfl ?_
    refine h_slen C hX hbl dL_20 ?_
    refine h_bipush C dL_21 (by decide) ?_
    refine h_isub (r := 0) C dL_23 (by decide) ?_
    refine h_icmp_gt (tgt := 2360) C dL_24 (by decide) ⟨by decide, by decide⟩ ⟨by decide, by decide⟩ (fun h9 => ?_) (fun h9 => ?_)
    · refine h_iconst C dL_2360 ?_
      exact h_lawret C hr hk dL_2361
    · exfalso; omega
  · exfalso; omega
set_option maxHeartbeats 4000000 in
set_option maxRecDepth 20000 in
theorem law_24 {p : Program} {e : Env} {s : State} {m : MethodId} {below : List Frame} {meth : Method} {c : Code} (l : Launch) {b : Nat} {xs : Nat → Int32} {D : va_G} {cy : Nat → ClassId} (C : hpC p s m #[.ref b] c code 4 RL D cy) (hr : meth.sig.returnType = ret) (hk : meth.locks = false) (hX : va_X b 6 xs s s.heap) (hbl : b < s.heap.size) : hpV p l e room_1 s m #[.ref b] below meth c 217 24316 4 D cy s.heap.size s.heap (lw_Z below #[Value.ref b] s) hp0 908 [(3, .int (hpI 0)), (2, .ref (s.heap.size + 195)), (1, .ref (s.heap.size + 0)), (0, .ref b)] [] := by
  refine h_aload_n C dL_908 2 rfl rfl ?_
  refine h_aload_n C dL_909 3 rfl rfl ?_
  refine h_iload_n C dL_910 0 rfl rfl ?_
  refine h_iconst C dL_911 ?_
  refine h_iadd (r := 1) C dL_912 (by decide) ?_
  refine h_sld C hX hbl 1 rfl (by decide) dL_913 ?_
  obtain ⟨hq1a, hq1b⟩ := hpR_of (xs 1)
  generalize ev1 : (xs 1).toInt = v1 at hq1a hq1b ⊢
  refine h_callV (As := [.int (hpI v1)]) (rest := []) C yyX8_even wd_766 (tX8_even l D cy s.heap.size _ v1 ⟨by omega, by omega⟩ rfl) kd_0 rfl rfl ⟨rfl, rfl, Nat.le_of_ble_eq_true rfl, Nat.le_of_ble_eq_true rfl⟩ ⟨Nat.le_of_ble_eq_true rfl, Nat.le_of_ble_eq_true rfl⟩ (Nat.le_of_ble_eq_true rfl) dL_914 (fun r2 τ2 hp2 => ?_)
  obtain ⟨rfl, rfl⟩ := hp2
  show hpV _ _ _ _ _ _ _ _ _ _ _ _ _ _ _ _ _ _ _ _ _ (_ :: _)
  refine h_aload_n C dL_917 1 rfl rfl ?_
  refine h_aload_n C dL_918 3 rfl rfl ?_
  refine h_iload_n C dL_919 0 rfl rfl ?_
  refine h_iconst C dL_920 ?_
  refine h_iadd (r := 1) C dL_921 (by decide) ?_
  refine h_sld C hX hbl 1 rfl (by decide) dL_922 ?_
  rw [ev1]
  refine h_callV (As := [.int (hpI v1)]) (rest := [.int (hpI (-2))]) C yyX9_even wd_1677 (tX9_even l D cy s.heap.size _ v1 ⟨by omega, by omega⟩ (fun i => ((fun i => hp0_z (by decide) (by decide) (by decide) (by decide) (by decide)) i))) kd_195 rfl rfl ⟨rfl, rfl, Nat.le_of_ble_eq_true rfl, Nat.le_of_ble_eq_true rfl⟩ ⟨Nat.le_of_ble_eq_true rfl, Nat.le_of_ble_eq_true rfl⟩ (Nat.le_of_ble_eq_true rfl) dL_923 (fun r4 τ4 hp4 => ?_)
  obtain ⟨rfl, hF4⟩ := hp4
  show hpV _ _ _ _ _ _ _ _ _ _ _ _ _ _ _ _ _ _ _ _ _ (_ :: _)
  refine h_icmp_eq (tgt := 2354) C dL_926 (by decide) ⟨by decide, by decide⟩ ⟨by decide, by decide⟩ (fun h5 => ?_) (fun h5 => ?_)
  · refine h_iinc (lv' := [(3, .int (hpI 6)), (2, .ref (s.heap.size + 195)), (1, .ref (s.heap.size + 0)), (0, .ref b)]) C dL_2354 0 rfl rfl (by decide) rfl ?_
    refine h_goto (tgt := 18) C dL_2357 (by decide) ?_
    refine h_iload_n C dL_18 0 rfl rfl ?_
    refine h_aload_n C dL_19 3 rfl rfl ?_
    refine h_slen C hX hbl dL_20 ?_
    refine h_bipush C dL_21 (by decide) ?_
    refine h_isub (r := 0) C dL_23 (by decide) ?_
    refine h_icmp_gt (tgt := 2360) C dL_24 (by decide) ⟨by decide, by decide⟩ ⟨by decide, by decide⟩ (fun h7 => ?_) (fun h7 => ?_)
    · refine h_iconst C dL_2360 ?_
      exact h_lawret C hr hk dL_2361
    · exfalso; omega
  · exfalso; omega

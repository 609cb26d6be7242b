set_option maxHeartbeats 4000000 in
set_option maxRecDepth 100000 in
theorem law_length {p : Program} {e : Env} {s : State} {m : MethodId} {args : Array Value} {below : List Frame} {meth : Method} {c : Code} {Q : State → Prop} {D : va_G} {cA cW cJ : ClassId} {T Tm : Nat → Nat} {bo b9 LL : Nat} {xs : Nat → Int32} {H : Heap} {locs : List Loc} {cells slots : Nat} {ls : Array Slot} (l : Launch) (hfl : l.flags = pinnedFlags ++ [noTraceFlag]) (X : lwX D cA cW cJ T Tm bo s) (S : CallFix p m c bL_law 8 s args nzG RL) (hXs : va_X b9 LL xs s s.heap) (hbl : b9 < s.heap.size) (hLL : LL ≤ 3072) (i9 : Nat) (hi : i9 + 6 ≤ LL) (hG : lwG D cA cW cJ T Tm bo s H locs) (hc : cells + 1 ≤ 601024 ∧ slots + 6 ≤ 7293034) (hl : lv_has ls 8 (lwL b9 T Tm bo i9)) (kk : ∀ (H : Heap) (locs : List Loc) (ls : Array Slot), lwG D cA cW cJ T Tm bo s H locs → lv_has ls 8 (lwL b9 T Tm bo i9) → W p l e room_1 s m args below meth c H locs (cells + 1) (slots + 6) Q (F0 m 1274 ls [])) : W p l e room_1 s m args below meth c H locs cells slots Q (F0 m 304 ls []) := by
  have hx := S.1
  have hb := S.2.1
  obtain ⟨n, g, C, L, O, c0, k, f, ok, okm, hRel, hH, hS⟩ := hG
  refine lv_aload_n hx hb dL_law_304 rfl (lv_at hl 1 rfl) ?_
  refine lw_sc (i9 := i9) (j9 := 1) hx hb hXs hbl hLL hS (by omega) (lv_at hl 0 rfl) (lv_at hl 4 rfl) dL_law_305 dL_law_306 dL_law_308 dL_law_309 dL_law_310 ?_
  refine lv_aload_n hx hb dL_law_311 rfl (lv_at hl 3 rfl) ?_
  refine lw_o (As := [.int (xs (i9 + 1)), .ref bo]) (rest := []) X S (cL_length l hfl D cA cW T X.hT n g ok cJ bo f (x1 := xs (i9 + 1))) kLs_length ⟨rfl, rfl, (Nat.le_of_ble_eq_true rfl), (Nat.le_of_ble_eq_true rfl)⟩ hc hH hS rfl hl.1 rfl (Nat.le_of_ble_eq_true rfl) dL_law_312 (fun f1 H locs hO hH hS => ?_)
  refine lv_istore (lv' := (5, .int (nI (kPl (xs (i9 + 1))))) :: lwL b9 T Tm bo i9) hx hb dL_law_315 hl (by decide) rfl (fun ls hl => ?_)
  refine lv_aload_n hx hb dL_law_317 rfl (lv_at hl 3 rfl) ?_
  refine lw_sc (i9 := i9) (j9 := 1) hx hb hXs hbl hLL hS (by omega) (lv_at hl 1 rfl) (lv_at hl 5 rfl) dL_law_318 dL_law_319 dL_law_321 dL_law_322 dL_law_323 ?_
  refine lw_ri (As := [.int (xs (i9 + 1))]) (rest := []) X S (c_Mo_length l D cA Tm X.hM k C L O c0 okm (x1 := xs (i9 + 1))) kL_97 ⟨rfl, rfl, (Nat.le_of_ble_eq_true rfl), (Nat.le_of_ble_eq_true rfl)⟩ hc hH hS rfl hl.1 rfl (Nat.le_of_ble_eq_true rfl) dL_law_324 (fun r H locs hr1 hH hS => ?_)
  refine lv_istore (lv' := (6, .int r) :: (5, .int (nI (kPl (xs (i9 + 1))))) :: lwL b9 T Tm bo i9) hx hb dL_law_327 hl (by decide) rfl (fun ls hl => ?_)
  refine lv_aload_n hx hb dL_law_329 rfl (lv_at hl 4 rfl) ?_
  refine lw_t X S ⟨(Nat.le_of_ble_eq_true rfl), (Nat.le_of_ble_eq_true rfl)⟩ hc hH hl.1 (Nat.le_of_ble_eq_true rfl) dL_law_330 ?_
  refine lv_iload hx hb dL_law_333 (lv_at hl 1 rfl) ?_
  refine lv_icmp_eq (tgt := 340) hx hb dL_law_335 (by decide) (fun _ => ?_) (fun c1 => absurd (congrArg nI (rfl)).symm c1)
  refine lv_iload hx hb dL_law_340 (lv_at hl 1 rfl) ?_
  refine lv_if_ne (tgt := 357) hx hb dL_law_342 (by decide) (fun _ => ?_) (fun c2 => ?_)
  · refine lv_goto (tgt := 1274) hx hb dL_law_357 (by decide) ?_
    exact kk _ _ _ ⟨n, g, C, L, O, c0, _, f1, ok, okm, hRel, hH, hS⟩ (lv_sub hl [2, 3, 4, 5, 6] rfl)
  · have h0 : kPl (xs (i9 + 1)) = 0 := k01 (fun q => Or.inl (kPl_in q)) c2
    refine lv_aload_n hx hb dL_law_345 rfl (lv_at hl 5 rfl) ?_
    refine lv_iconst (v := 0) hx hb dL_law_346 (by decide) ?_
    refine va_lald hx hb X.hK hH.2.1 0 2 rfl rfl (vp_in_nI (n := 0) (N := 1) (by decide) (by decide)) dL_law_347 ?_
    refine lv_iload hx hb dL_law_348 (lv_at hl 0 rfl) ?_
    have hv := hr1 h0
    have hw := hO h0
    have hE : f1 0 = r.toInt64 := by
      rw [hw, hv]
      exact congrArg Int32.toInt64 (by rw [hRel.len (k0_pl h0)])
    refine lv_i2l hx hb dL_law_350 rfl ?_
    refine W.lcmp hx hb dL_law_351 ?_
    refine lv_if_eq (tgt := 357) hx hb dL_law_352 (by decide) (fun _ => ?_) (fun c3 => absurd (lg_cmp_of hE) c3)
    refine lv_goto (tgt := 1274) hx hb dL_law_357 (by decide) ?_
    exact kk _ _ _ ⟨n, g, C, L, O, c0, _, f1, ok, okm, hRel, hH, hS⟩ (lv_sub hl [2, 3, 4, 5, 6] rfl)
set_option maxHeartbeats 4000000 in
set_option maxRecDepth 100000 in
theorem law_number {p : Program} {e : Env} {s : State} {m : MethodId} {args : Array Value} {below : List Frame} {meth : Method} {c : Code} {Q : State → Prop} {D : va_G} {cA cW cJ : ClassId} {T Tm : Nat → Nat} {bo b9 LL : Nat} {xs : Nat → Int32} {H : Heap} {locs : List Loc} {cells slots : Nat} {ls : Array Slot} (l : Launch) (hfl : l.flags = pinnedFlags ++ [noTraceFlag]) (X : lwX D cA cW cJ T Tm bo s) (S : CallFix p m c bL_law 8 s args nzG RL) (hXs : va_X b9 LL xs s s.heap) (hbl : b9 < s.heap.size) (hLL : LL ≤ 3072) (i9 : Nat) (hi : i9 + 6 ≤ LL) (hG : lwG D cA cW cJ T Tm bo s H locs) (hc : cells + 1 ≤ 601024 ∧ slots + 6 ≤ 7293034) (hl : lv_has ls 8 (lwL b9 T Tm bo i9)) (kk : ∀ (H : Heap) (locs : List Loc) (ls : Array Slot), lwG D cA cW cJ T Tm bo s H locs → lv_has ls 8 (lwL b9 T Tm bo i9) → W p l e room_1 s m args below meth c H locs (cells + 1) (slots + 6) Q (F0 m 1274 ls [])) : W p l e room_1 s m args below meth c H locs cells slots Q (F0 m 360 ls []) := by
  have hx := S.1
  have hb := S.2.1
  obtain ⟨n, g, C, L, O, c0, k, f, ok, okm, hRel, hH, hS⟩ := hG
  obtain ⟨v1, hv1, hv2⟩ := wb_of (((xs (i9 + 3)).toInt64 <<< ((32 : Int32).toInt64 &&& 63)) ||| ((xs (i9 + 4)).toInt64 &&& 4294967295))
  refine lv_aload_n hx hb dL_law_360 rfl (lv_at hl 1 rfl) ?_
  refine lw_sc (i9 := i9) (j9 := 1) hx hb hXs hbl hLL hS (by omega) (lv_at hl 0 rfl) (lv_at hl 4 rfl) dL_law_361 dL_law_362 dL_law_364 dL_law_365 dL_law_366 ?_
  refine lw_sc (i9 := i9) (j9 := 2) hx hb hXs hbl hLL hS (by omega) (lv_at hl 0 rfl) (lv_at hl 4 rfl) dL_law_367 dL_law_368 dL_law_370 dL_law_371 dL_law_372 ?_
  refine lw_sc (i9 := i9) (j9 := 3) hx hb hXs hbl hLL hS (by omega) (lv_at hl 0 rfl) (lv_at hl 4 rfl) dL_law_373 dL_law_374 dL_law_376 dL_law_377 dL_law_378 ?_
  refine lv_i2l hx hb dL_law_379 rfl ?_
  refine lv_bipush (v := 32) hx hb dL_law_380 (by decide) ?_
  refine lv_lshl hx hb dL_law_382 rfl ?_
  refine lw_sc (i9 := i9) (j9 := 4) hx hb hXs hbl hLL hS (by omega) (lv_at hl 0 rfl) (lv_at hl 4 rfl) dL_law_383 dL_law_384 dL_law_386 dL_law_387 dL_law_388 ?_
  refine lv_i2l hx hb dL_law_389 rfl ?_
  refine lv_ldc2 hx hb S.2.2.2.1 (S.2.2.2.2 _ kL_c98) dL_law_390 ?_
  refine lv_land hx hb dL_law_393 ?_
  refine lv_lor hx hb dL_law_394 ?_
  refine nz_eql hv2 ?_
  refine lw_w (As := [.int (xs (i9 + 1)), .int (xs (i9 + 2)), .long (lN v1)]) (rest := []) X S (cL_number l hfl D cA cW T X.hT n g ok (x1 := xs (i9 + 1)) (x2 := xs (i9 + 2)) (v1 := v1) (hv1 := hv1)) kLs_number ⟨rfl, rfl, (Nat.le_of_ble_eq_true rfl), (Nat.le_of_ble_eq_true rfl)⟩ hc ok hH hS rfl hl.1 rfl (Nat.le_of_ble_eq_true rfl) dL_law_395 (fun n1 g1 H locs hU0 hU1 ok1 hH hS => ?_)
  refine lv_istore (lv' := (5, .int (nI (kNumber (xs (i9 + 1)) (xs (i9 + 2))))) :: lwL b9 T Tm bo i9) hx hb dL_law_398 hl (by decide) rfl (fun ls hl => ?_)
  refine lv_aload_n hx hb dL_law_400 rfl (lv_at hl 3 rfl) ?_
  refine lw_sc (i9 := i9) (j9 := 1) hx hb hXs hbl hLL hS (by omega) (lv_at hl 1 rfl) (lv_at hl 5 rfl) dL_law_401 dL_law_402 dL_law_404 dL_law_405 dL_law_406 ?_
  refine lw_sc (i9 := i9) (j9 := 2) hx hb hXs hbl hLL hS (by omega) (lv_at hl 1 rfl) (lv_at hl 5 rfl) dL_law_407 dL_law_408 dL_law_410 dL_law_411 dL_law_412 ?_
  refine lw_sc (i9 := i9) (j9 := 3) hx hb hXs hbl hLL hS (by omega) (lv_at hl 1 rfl) (lv_at hl 5 rfl) dL_law_413 dL_law_414 dL_law_416 dL_law_417 dL_law_418 ?_
  refine lv_i2l hx hb dL_law_419 rfl ?_
  refine lv_bipush (v := 32) hx hb dL_law_420 (by decide) ?_
  refine lv_lshl hx hb dL_law_422 rfl ?_
  refine lw_sc (i9 := i9) (j9 := 4) hx hb hXs hbl hLL hS (by omega) (lv_at hl 1 rfl) (lv_at hl 5 rfl) dL_law_423 dL_law_424 dL_law_426 dL_law_427 dL_law_428 ?_
  refine lv_i2l hx hb dL_law_429 rfl ?_
  refine lv_ldc2 hx hb S.2.2.2.1 (S.2.2.2.2 _ kL_c98) dL_law_430 ?_
  refine lv_land hx hb dL_law_433 ?_
  refine lv_lor hx hb dL_law_434 ?_
  refine nz_eql hv2 ?_
  refine lw_m (As := [.int (xs (i9 + 1)), .int (xs (i9 + 2)), .long (lN v1)]) (rest := []) X S (c_Mo_number l D cA Tm X.hM k C L O c0 okm (x1 := xs (i9 + 1)) (x2 := xs (i9 + 2)) (v1 := v1) (hv1 := hv1)) kL_103 ⟨rfl, rfl, (Nat.le_of_ble_eq_true rfl), (Nat.le_of_ble_eq_true rfl)⟩ hc hH hS rfl hl.1 rfl (Nat.le_of_ble_eq_true rfl) dL_law_435 (fun C1 L1 O1 c1 H locs hV0 hV1 okm1 hH hS => ?_)
  refine lv_aload_n hx hb dL_law_438 rfl (lv_at hl 3 rfl) ?_
  refine lw_t X S ⟨(Nat.le_of_ble_eq_true rfl), (Nat.le_of_ble_eq_true rfl)⟩ hc hH hl.1 (Nat.le_of_ble_eq_true rfl) dL_law_439 ?_
  refine lv_iload hx hb dL_law_442 (lv_at hl 0 rfl) ?_
  refine lv_icmp_eq (tgt := 449) hx hb dL_law_444 (by decide) (fun _ => ?_) (fun c1 => ?_)
  · refine lv_goto (tgt := 1274) hx hb dL_law_449 (by decide) ?_
    exact kk _ _ _ ⟨n1, g1, C1, L1, O1, c1, _, f, ok1, okm1, Rel.step hRel ok hU0 hU1 hV0 hV1 (rfl) (fun _ => ⟨rfl, fun _ _ => rfl⟩), hH, hS⟩ (lv_sub hl [1, 2, 3, 4, 5] rfl)
  · exact absurd (congrArg nI (rfl)).symm c1
set_option maxHeartbeats 4000000 in
set_option maxRecDepth 100000 in
theorem law_numberOf {p : Program} {e : Env} {s : State} {m : MethodId} {args : Array Value} {below : List Frame} {meth : Method} {c : Code} {Q : State → Prop} {D : va_G} {cA cW cJ : ClassId} {T Tm : Nat → Nat} {bo b9 LL : Nat} {xs : Nat → Int32} {H : Heap} {locs : List Loc} {cells slots : Nat} {ls : Array Slot} (l : Launch) (hfl : l.flags = pinnedFlags ++ [noTraceFlag]) (X : lwX D cA cW cJ T Tm bo s) (S : CallFix p m c bL_law 8 s args nzG RL) (hXs : va_X b9 LL xs s s.heap) (hbl : b9 < s.heap.size) (hLL : LL ≤ 3072) (i9 : Nat) (hi : i9 + 6 ≤ LL) (hG : lwG D cA cW cJ T Tm bo s H locs) (hc : cells + 1 ≤ 601024 ∧ slots + 6 ≤ 7293034) (hl : lv_has ls 8 (lwL b9 T Tm bo i9)) (kk : ∀ (H : Heap) (locs : List Loc) (ls : Array Slot), lwG D cA cW cJ T Tm bo s H locs → lv_has ls 8 (lwL b9 T Tm bo i9) → W p l e room_1 s m args below meth c H locs (cells + 1) (slots + 6) Q (F0 m 1274 ls [])) : W p l e room_1 s m args below meth c H locs cells slots Q (F0 m 452 ls []) := by
  have hx := S.1
  have hb := S.2.1
  obtain ⟨n, g, C, L, O, c0, k, f, ok, okm, hRel, hH, hS⟩ := hG
  refine lv_aload_n hx hb dL_law_452 rfl (lv_at hl 1 rfl) ?_
  refine lw_sc (i9 := i9) (j9 := 1) hx hb hXs hbl hLL hS (by omega) (lv_at hl 0 rfl) (lv_at hl 4 rfl) dL_law_453 dL_law_454 dL_law_456 dL_law_457 dL_law_458 ?_
  refine lw_sc (i9 := i9) (j9 := 2) hx hb hXs hbl hLL hS (by omega) (lv_at hl 0 rfl) (lv_at hl 4 rfl) dL_law_459 dL_law_460 dL_law_462 dL_law_463 dL_law_464 ?_
  refine lw_b hx hb dL_law_465 dL_law_468 dL_law_469 dL_law_472 ?_
  refine lv_aload_n hx hb dL_law_473 rfl (lv_at hl 3 rfl) ?_
  refine lw_o (As := [.int (xs (i9 + 1)), .int (nI (zB1 (xs (i9 + 2)))), .ref bo]) (rest := []) X S (cL_numberOf l hfl D cA cW T X.hT n g ok cJ bo f (x1 := xs (i9 + 1)) (b1 := zB1 (xs (i9 + 2))) (hb1 := zB1_lt _)) kLs_numberOf ⟨rfl, rfl, (Nat.le_of_ble_eq_true rfl), (Nat.le_of_ble_eq_true rfl)⟩ hc hH hS rfl hl.1 rfl (Nat.le_of_ble_eq_true rfl) dL_law_474 (fun f1 H locs hO hH hS => ?_)
  refine lv_istore (lv' := (5, .int (nI (kNumberOf n g (xs (i9 + 1))))) :: lwL b9 T Tm bo i9) hx hb dL_law_477 hl (by decide) rfl (fun ls hl => ?_)
  refine lv_aload_n hx hb dL_law_479 rfl (lv_at hl 3 rfl) ?_
  refine lw_sc (i9 := i9) (j9 := 1) hx hb hXs hbl hLL hS (by omega) (lv_at hl 1 rfl) (lv_at hl 5 rfl) dL_law_480 dL_law_481 dL_law_483 dL_law_484 dL_law_485 ?_
  refine lw_sc (i9 := i9) (j9 := 2) hx hb hXs hbl hLL hS (by omega) (lv_at hl 1 rfl) (lv_at hl 5 rfl) dL_law_486 dL_law_487 dL_law_489 dL_law_490 dL_law_491 ?_
  refine lw_b hx hb dL_law_492 dL_law_495 dL_law_496 dL_law_499 ?_
  refine lw_rl (As := [.int (xs (i9 + 1)), .int (nI (zB1 (xs (i9 + 2))))]) (rest := []) X S (c_Mo_numberOf l D cA Tm X.hM k C L O c0 okm (x1 := xs (i9 + 1)) (b1 := zB1 (xs (i9 + 2))) (hb1 := zB1_lt _)) kL_107 ⟨rfl, rfl, (Nat.le_of_ble_eq_true rfl), (Nat.le_of_ble_eq_true rfl)⟩ hc hH hS rfl hl.1 rfl (Nat.le_of_ble_eq_true rfl) dL_law_500 (fun r H locs hr1 hH hS => ?_)
  refine lv_lstore (lv' := (6, .long r) :: (5, .int (nI (kNumberOf n g (xs (i9 + 1))))) :: lwL b9 T Tm bo i9) hx hb dL_law_503 hl (by decide) rfl (fun ls hl => ?_)
  refine lv_aload_n hx hb dL_law_505 rfl (lv_at hl 4 rfl) ?_
  refine lw_t X S ⟨(Nat.le_of_ble_eq_true rfl), (Nat.le_of_ble_eq_true rfl)⟩ hc hH hl.1 (Nat.le_of_ble_eq_true rfl) dL_law_506 ?_
  refine lv_iload hx hb dL_law_509 (lv_at hl 1 rfl) ?_
  refine lv_icmp_eq (tgt := 516) hx hb dL_law_511 (by decide) (fun _ => ?_) (fun c1 => absurd (congrArg nI (r_numberOf hRel)).symm c1)
  refine lv_iload hx hb dL_law_516 (lv_at hl 1 rfl) ?_
  refine lv_if_ne (tgt := 532) hx hb dL_law_518 (by decide) (fun _ => ?_) (fun c2 => ?_)
  · refine lv_goto (tgt := 1274) hx hb dL_law_532 (by decide) ?_
    exact kk _ _ _ ⟨n, g, C, L, O, c0, _, f1, ok, okm, hRel, hH, hS⟩ (lv_sub hl [2, 3, 4, 5, 6] rfl)
  · have h0 : kNumberOf n g (xs (i9 + 1)) = 0 := k01 (kNumberOf_in) c2
    refine lv_aload_n hx hb dL_law_521 rfl (lv_at hl 5 rfl) ?_
    refine lv_iconst (v := 0) hx hb dL_law_522 (by decide) ?_
    refine va_lald hx hb X.hK hH.2.1 0 2 rfl rfl (vp_in_nI (n := 0) (N := 1) (by decide) (by decide)) dL_law_523 ?_
    refine lv_lload hx hb dL_law_524 (lv_at hl 0 rfl) ?_
    have hv := hr1 (by rw [← (show kNumberOf n g (xs (i9 + 1)) = _ from r_numberOf hRel)]; exact h0)
    have hw := hO h0
    have hE : f1 0 = r := by
      rw [hw, hv]
      exact (by rw [hRel.len (k0_numberOf h0), g_long _ (hRel.e (k0_numberOf h0))])
    refine W.lcmp hx hb dL_law_526 ?_
    refine lv_if_eq (tgt := 532) hx hb dL_law_527 (by decide) (fun _ => ?_) (fun c3 => absurd (lg_cmp_of hE) c3)
    refine lv_goto (tgt := 1274) hx hb dL_law_532 (by decide) ?_
    exact kk _ _ _ ⟨n, g, C, L, O, c0, _, f1, ok, okm, hRel, hH, hS⟩ (lv_sub hl [2, 3, 4, 5, 6] rfl)
set_option maxHeartbeats 4000000 in
set_option maxRecDepth 100000 in
theorem law_operate {p : Program} {e : Env} {s : State} {m : MethodId} {args : Array Value} {below : List Frame} {meth : Method} {c : Code} {Q : State → Prop} {D : va_G} {cA cW cJ : ClassId} {T Tm : Nat → Nat} {bo b9 LL : Nat} {xs : Nat → Int32} {H : Heap} {locs : List Loc} {cells slots : Nat} {ls : Array Slot} (l : Launch) (hfl : l.flags = pinnedFlags ++ [noTraceFlag]) (X : lwX D cA cW cJ T Tm bo s) (S : CallFix p m c bL_law 8 s args nzG RL) (hXs : va_X b9 LL xs s s.heap) (hbl : b9 < s.heap.size) (hLL : LL ≤ 3072) (i9 : Nat) (hi : i9 + 6 ≤ LL) (hG : lwG D cA cW cJ T Tm bo s H locs) (hc : cells + 1 ≤ 601024 ∧ slots + 6 ≤ 7293034) (hl : lv_has ls 8 (lwL b9 T Tm bo i9)) (kk : ∀ (H : Heap) (locs : List Loc) (ls : Array Slot), lwG D cA cW cJ T Tm bo s H locs → lv_has ls 8 (lwL b9 T Tm bo i9) → W p l e room_1 s m args below meth c H locs (cells + 1) (slots + 6) Q (F0 m 1274 ls [])) : W p l e room_1 s m args below meth c H locs cells slots Q (F0 m 535 ls []) := by
  have hx := S.1
  have hb := S.2.1
  obtain ⟨n, g, C, L, O, c0, k, f, ok, okm, hRel, hH, hS⟩ := hG
  refine lv_aload_n hx hb dL_law_535 rfl (lv_at hl 1 rfl) ?_
  refine lw_sc (i9 := i9) (j9 := 1) hx hb hXs hbl hLL hS (by omega) (lv_at hl 0 rfl) (lv_at hl 4 rfl) dL_law_536 dL_law_537 dL_law_539 dL_law_540 dL_law_541 ?_
  refine lw_sc (i9 := i9) (j9 := 2) hx hb hXs hbl hLL hS (by omega) (lv_at hl 0 rfl) (lv_at hl 4 rfl) dL_law_542 dL_law_543 dL_law_545 dL_law_546 dL_law_547 ?_
  refine lw_b hx hb dL_law_548 dL_law_551 dL_law_552 dL_law_555 ?_
  refine lw_sc (i9 := i9) (j9 := 3) hx hb hXs hbl hLL hS (by omega) (lv_at hl 0 rfl) (lv_at hl 4 rfl) dL_law_556 dL_law_557 dL_law_559 dL_law_560 dL_law_561 ?_
  refine lw_sc (i9 := i9) (j9 := 4) hx hb hXs hbl hLL hS (by omega) (lv_at hl 0 rfl) (lv_at hl 4 rfl) dL_law_562 dL_law_563 dL_law_565 dL_law_566 dL_law_567 ?_
  refine lw_sc (i9 := i9) (j9 := 5) hx hb hXs hbl hLL hS (by omega) (lv_at hl 0 rfl) (lv_at hl 4 rfl) dL_law_568 dL_law_569 dL_law_571 dL_law_572 dL_law_573 ?_
  refine lw_w (As := [.int (xs (i9 + 1)), .int (nI (zB1 (xs (i9 + 2)))), .int (xs (i9 + 3)), .int (xs (i9 + 4)), .int (xs (i9 + 5))]) (rest := []) X S (cL_operate l hfl D cA cW T X.hT n g ok (x1 := xs (i9 + 1)) (b1 := zB1 (xs (i9 + 2))) (hb1 := zB1_lt _) (x3 := xs (i9 + 3)) (x4 := xs (i9 + 4)) (x5 := xs (i9 + 5))) kLs_operate ⟨rfl, rfl, (Nat.le_of_ble_eq_true rfl), (Nat.le_of_ble_eq_true rfl)⟩ hc ok hH hS rfl hl.1 rfl (Nat.le_of_ble_eq_true rfl) dL_law_574 (fun n1 g1 H locs hU0 hU1 ok1 hH hS => ?_)
  refine lv_istore (lv' := (5, .int (nI (kOperate n g (zB1 (xs (i9 + 2))) (xs (i9 + 1)) (xs (i9 + 3)) (xs (i9 + 4)) (xs (i9 + 5))))) :: lwL b9 T Tm bo i9) hx hb dL_law_577 hl (by decide) rfl (fun ls hl => ?_)
  refine lv_aload_n hx hb dL_law_579 rfl (lv_at hl 3 rfl) ?_
  refine lw_sc (i9 := i9) (j9 := 1) hx hb hXs hbl hLL hS (by omega) (lv_at hl 1 rfl) (lv_at hl 5 rfl) dL_law_580 dL_law_581 dL_law_583 dL_law_584 dL_law_585 ?_
  refine lw_sc (i9 := i9) (j9 := 2) hx hb hXs hbl hLL hS (by omega) (lv_at hl 1 rfl) (lv_at hl 5 rfl) dL_law_586 dL_law_587 dL_law_589 dL_law_590 dL_law_591 ?_
  refine lw_b hx hb dL_law_592 dL_law_595 dL_law_596 dL_law_599 ?_
  refine lw_sc (i9 := i9) (j9 := 3) hx hb hXs hbl hLL hS (by omega) (lv_at hl 1 rfl) (lv_at hl 5 rfl) dL_law_600 dL_law_601 dL_law_603 dL_law_604 dL_law_605 ?_
  refine lw_sc (i9 := i9) (j9 := 4) hx hb hXs hbl hLL hS (by omega) (lv_at hl 1 rfl) (lv_at hl 5 rfl) dL_law_606 dL_law_607 dL_law_609 dL_law_610 dL_law_611 ?_
  refine lw_sc (i9 := i9) (j9 := 5) hx hb hXs hbl hLL hS (by omega) (lv_at hl 1 rfl) (lv_at hl 5 rfl) dL_law_612 dL_law_613 dL_law_615 dL_law_616 dL_law_617 ?_
  refine lw_m (As := [.int (xs (i9 + 1)), .int (nI (zB1 (xs (i9 + 2)))), .int (xs (i9 + 3)), .int (xs (i9 + 4)), .int (xs (i9 + 5))]) (rest := []) X S (c_Mo_operate l D cA Tm X.hM k C L O c0 okm (x1 := xs (i9 + 1)) (b1 := zB1 (xs (i9 + 2))) (hb1 := zB1_lt _) (x3 := xs (i9 + 3)) (x4 := xs (i9 + 4)) (x5 := xs (i9 + 5))) kL_111 ⟨rfl, rfl, (Nat.le_of_ble_eq_true rfl), (Nat.le_of_ble_eq_true rfl)⟩ hc hH hS rfl hl.1 rfl (Nat.le_of_ble_eq_true rfl) dL_law_618 (fun C1 L1 O1 c1 H locs hV0 hV1 okm1 hH hS => ?_)
  refine lv_aload_n hx hb dL_law_621 rfl (lv_at hl 3 rfl) ?_
  refine lw_t X S ⟨(Nat.le_of_ble_eq_true rfl), (Nat.le_of_ble_eq_true rfl)⟩ hc hH hl.1 (Nat.le_of_ble_eq_true rfl) dL_law_622 ?_
  refine lv_iload hx hb dL_law_625 (lv_at hl 0 rfl) ?_
  refine lv_icmp_eq (tgt := 632) hx hb dL_law_627 (by decide) (fun _ => ?_) (fun c1 => ?_)
  · refine lv_goto (tgt := 1274) hx hb dL_law_632 (by decide) ?_
    exact kk _ _ _ ⟨n1, g1, C1, L1, O1, c1, _, f, ok1, okm1, Rel.step hRel ok hU0 hU1 hV0 hV1 (r_operate hRel) (fun h0 => by
      obtain ⟨h3, h4, h5⟩ := k0_operate h0
      rw [hRel.len h3, hRel.len h4]
      exact ⟨g_nop _ (hRel.e h3) (hRel.e h4), g_fop _ _ (hRel.e h3) (hRel.e h4) h5⟩), hH, hS⟩ (lv_sub hl [1, 2, 3, 4, 5] rfl)
  · exact absurd (congrArg nI (r_operate hRel)).symm c1
set_option maxHeartbeats 4000000 in
set_option maxRecDepth 100000 in
theorem law_change {p : Program} {e : Env} {s : State} {m : MethodId} {args : Array Value} {below : List Frame} {meth : Method} {c : Code} {Q : State → Prop} {D : va_G} {cA cW cJ : ClassId} {T Tm : Nat → Nat} {bo b9 LL : Nat} {xs : Nat → Int32} {H : Heap} {locs : List Loc} {cells slots : Nat} {ls : Array Slot} (l : Launch) (hfl : l.flags = pinnedFlags ++ [noTraceFlag]) (X : lwX D cA cW cJ T Tm bo s) (S : CallFix p m c bL_law 8 s args nzG RL) (hXs : va_X b9 LL xs s s.heap) (hbl : b9 < s.heap.size) (hLL : LL ≤ 3072) (i9 : Nat) (hi : i9 + 6 ≤ LL) (hG : lwG D cA cW cJ T Tm bo s H locs) (hc : cells + 1 ≤ 601024 ∧ slots + 6 ≤ 7293034) (hl : lv_has ls 8 (lwL b9 T Tm bo i9)) (kk : ∀ (H : Heap) (locs : List Loc) (ls : Array Slot), lwG D cA cW cJ T Tm bo s H locs → lv_has ls 8 (lwL b9 T Tm bo i9) → W p l e room_1 s m args below meth c H locs (cells + 1) (slots + 6) Q (F0 m 1274 ls [])) : W p l e room_1 s m args below meth c H locs cells slots Q (F0 m 635 ls []) := by
  have hx := S.1
  have hb := S.2.1
  obtain ⟨n, g, C, L, O, c0, k, f, ok, okm, hRel, hH, hS⟩ := hG
  refine lv_aload_n hx hb dL_law_635 rfl (lv_at hl 1 rfl) ?_
  refine lw_sc (i9 := i9) (j9 := 1) hx hb hXs hbl hLL hS (by omega) (lv_at hl 0 rfl) (lv_at hl 4 rfl) dL_law_636 dL_law_637 dL_law_639 dL_law_640 dL_law_641 ?_
  refine lw_sc (i9 := i9) (j9 := 2) hx hb hXs hbl hLL hS (by omega) (lv_at hl 0 rfl) (lv_at hl 4 rfl) dL_law_642 dL_law_643 dL_law_645 dL_law_646 dL_law_647 ?_
  refine lw_sc (i9 := i9) (j9 := 3) hx hb hXs hbl hLL hS (by omega) (lv_at hl 0 rfl) (lv_at hl 4 rfl) dL_law_648 dL_law_649 dL_law_651 dL_law_652 dL_law_653 ?_
  refine lw_w (As := [.int (xs (i9 + 1)), .int (xs (i9 + 2)), .int (xs (i9 + 3))]) (rest := []) X S (cL_change l hfl D cA cW T X.hT n g ok (x1 := xs (i9 + 1)) (x2 := xs (i9 + 2)) (x3 := xs (i9 + 3))) kLs_change ⟨rfl, rfl, (Nat.le_of_ble_eq_true rfl), (Nat.le_of_ble_eq_true rfl)⟩ hc ok hH hS rfl hl.1 rfl (Nat.le_of_ble_eq_true rfl) dL_law_654 (fun n1 g1 H locs hU0 hU1 ok1 hH hS => ?_)
  refine lv_istore (lv' := (5, .int (nI (kChange (xs (i9 + 1)) (xs (i9 + 2)) (xs (i9 + 3))))) :: lwL b9 T Tm bo i9) hx hb dL_law_657 hl (by decide) rfl (fun ls hl => ?_)
  refine lv_aload_n hx hb dL_law_659 rfl (lv_at hl 3 rfl) ?_
  refine lw_sc (i9 := i9) (j9 := 1) hx hb hXs hbl hLL hS (by omega) (lv_at hl 1 rfl) (lv_at hl 5 rfl) dL_law_660 dL_law_661 dL_law_663 dL_law_664 dL_law_665 ?_
  refine lw_sc (i9 := i9) (j9 := 2) hx hb hXs hbl hLL hS (by omega) (lv_at hl 1 rfl) (lv_at hl 5 rfl) dL_law_666 dL_law_667 dL_law_669 dL_law_670 dL_law_671 ?_
  refine lw_sc (i9 := i9) (j9 := 3) hx hb hXs hbl hLL hS (by omega) (lv_at hl 1 rfl) (lv_at hl 5 rfl) dL_law_672 dL_law_673 dL_law_675 dL_law_676 dL_law_677 ?_
  refine lw_m (As := [.int (xs (i9 + 1)), .int (xs (i9 + 2)), .int (xs (i9 + 3))]) (rest := []) X S (c_Mo_change l D cA Tm X.hM k C L O c0 okm (x1 := xs (i9 + 1)) (x2 := xs (i9 + 2)) (x3 := xs (i9 + 3))) kL_114 ⟨rfl, rfl, (Nat.le_of_ble_eq_true rfl), (Nat.le_of_ble_eq_true rfl)⟩ hc hH hS rfl hl.1 rfl (Nat.le_of_ble_eq_true rfl) dL_law_678 (fun C1 L1 O1 c1 H locs hV0 hV1 okm1 hH hS => ?_)
  refine lv_aload_n hx hb dL_law_681 rfl (lv_at hl 3 rfl) ?_
  refine lw_t X S ⟨(Nat.le_of_ble_eq_true rfl), (Nat.le_of_ble_eq_true rfl)⟩ hc hH hl.1 (Nat.le_of_ble_eq_true rfl) dL_law_682 ?_
  refine lv_iload hx hb dL_law_685 (lv_at hl 0 rfl) ?_
  refine lv_icmp_eq (tgt := 692) hx hb dL_law_687 (by decide) (fun _ => ?_) (fun c1 => ?_)
  · refine lv_goto (tgt := 1274) hx hb dL_law_692 (by decide) ?_
    exact kk _ _ _ ⟨n1, g1, C1, L1, O1, c1, _, f, ok1, okm1, Rel.step hRel ok hU0 hU1 hV0 hV1 (rfl) (fun h0 => by
      rw [hRel.len (k0_change h0)]
      exact ⟨rfl, g_change _ (hRel.e (k0_change h0))⟩), hH, hS⟩ (lv_sub hl [1, 2, 3, 4, 5] rfl)
  · exact absurd (congrArg nI (rfl)).symm c1

set_option maxHeartbeats 40000000 in
set_option maxRecDepth 100000 in
theorem db_X7_fits_0 {p : Program} {l : Launch} {e : Env} {s : State} {m : MethodId} {args : Array Value} {below : List Frame} {meth : Method} {c : Code} {Q : State → Prop} {A : Nat → Prop} {dC : Nat → ClassId} {dI : Nat → Nat → Nat} {a : Nat → Nat} {ac : Nat → ClassId} {n : Nat} {r : Int32 × (Unit)} (C : nd_C p l s m args c A (dC, dI) cX7_fits 2 RX7 ow_dm_X7_fits (dk_P ac)) (K : nd_Ki p l e (headSpec ow_dm_X7_fits ({ frames := 0, cells := 0, slots := 0, locals := 0 })).room s m args below meth c Q A (dC, dI) cX7_fits .boolean (Unit) (dw_P a ac) r) : dj_X7_fits_0 p l e s m args below meth c Q A dC dI a ac (df_X7_fits_0 n) r := by
  obtain ⟨hlt, hx, hb, hml, hown, hts, hN, hA, hK⟩ := id C
  intro v0 v1 s0 H locs ls h hP hD hS hl
  unfold df_X7_fits_0 at h
  refine lv_iload_n hx hb dX7_fits_0 rfl (lv_at hl 0 rfl) ?_
  by_cases c1 : v0 = 72
  · have h := nd_pos h c1
    refine lv_tableIn (off := 278) (tgt := 279) hx hb dX7_fits_1 (by rw [c1]; decide) (by rw [c1]; decide) (by rw [c1]; decide) (by decide) ?_
    exact (db_X7_fits_279 C K) (v1) s0 _ _ _ h hP hD hS (lv_sub hl [1] rfl)
  have h := nd_neg h c1
  by_cases c5 : v0 = 73
  · have h := nd_pos h c5
    refine lv_tableIn (off := 258) (tgt := 259) hx hb dX7_fits_1 (by rw [c5]; decide) (by rw [c5]; decide) (by rw [c5]; decide) (by decide) ?_
    exact (db_X7_fits_259 C K) (v1) s0 _ _ _ h hP hD hS (lv_sub hl [1] rfl)
  have h := nd_neg h c5
  by_cases c9 : v0 = 74
  · have h := nd_pos h c9
    refine lv_tableIn (off := 337) (tgt := 338) hx hb dX7_fits_1 (by rw [c9]; decide) (by rw [c9]; decide) (by rw [c9]; decide) (by decide) ?_
    refine lv_iload_n hx hb dX7_fits_338 rfl (lv_at hl 1 rfl) ?_
    refine lv_ldcw hx hb hown (hts (.constant RX7 464 (-1048576)) (List.mem_of_getElem? (i := 1) rfl)) dX7_fits_339 ?_
    refine lv_icmp_lt (tgt := 362) hx hb dX7_fits_342 (by decide) (fun c10 => ?_) (fun c10 => ?_)
    · have h := nd_pos h c10
      exact (db_X7_fits_362 C K)  s0 _ _ _ h hP hD hS (lv_sub hl [] rfl)
    · have h := nd_neg h c10
      refine lv_iload_n hx hb dX7_fits_345 rfl (lv_at hl 1 rfl) ?_
      refine lv_ldcw hx hb hown (hts (.constant RX7 465 (1048574)) (List.mem_of_getElem? (i := 2) rfl)) dX7_fits_346 ?_
      refine lv_icmp_gt (tgt := 362) hx hb dX7_fits_349 (by decide) (fun c12 => ?_) (fun c12 => ?_)
      · have h := nd_pos h c12
        exact (db_X7_fits_362 C K)  s0 _ _ _ h hP hD hS (lv_sub hl [] rfl)
      · have h := nd_neg h c12
        refine lv_iload_n hx hb dX7_fits_352 rfl (lv_at hl 1 rfl) ?_
        refine lv_iconst (v := 1) hx hb dX7_fits_353 (by decide) ?_
        refine lv_iand hx hb dX7_fits_354 ?_
        refine lv_if_ne (tgt := 362) hx hb dX7_fits_355 (by decide) (fun c13 => ?_) (fun c13 => ?_)
        · have h := nd_neg h c13
          exact (db_X7_fits_362 C K)  s0 _ _ _ h hP hD hS (lv_sub hl [] rfl)
        · have h := nd_pos h c13
          refine lv_iconst (v := 1) hx hb dX7_fits_358 (by decide) ?_
          refine lv_goto (tgt := 363) hx hb dX7_fits_359 (by decide) ?_
          exact (db_X7_fits_363 C K) (1) s0 _ _ _ h hP hD hS (lv_sub hl [] rfl)
  have h := nd_neg h c9
  by_cases c14 : v0 = 75
  · have h := nd_pos h c14
    refine lv_tableIn (off := 363) (tgt := 364) hx hb dX7_fits_1 (by rw [c14]; decide) (by rw [c14]; decide) (by rw [c14]; decide) (by decide) ?_
    refine lv_iload_n hx hb dX7_fits_364 rfl (lv_at hl 1 rfl) ?_
    refine lv_sipush (v := (-2048)) hx hb dX7_fits_365 (by decide) ?_
    refine lv_icmp_lt (tgt := 388) hx hb dX7_fits_368 (by decide) (fun c15 => ?_) (fun c15 => ?_)
    · have h := nd_pos h c15
      exact (db_X7_fits_388 C K)  s0 _ _ _ h hP hD hS (lv_sub hl [] rfl)
    · have h := nd_neg h c15
      refine lv_iload_n hx hb dX7_fits_371 rfl (lv_at hl 1 rfl) ?_
      refine lv_sipush (v := 2046) hx hb dX7_fits_372 (by decide) ?_
      refine lv_icmp_gt (tgt := 388) hx hb dX7_fits_375 (by decide) (fun c17 => ?_) (fun c17 => ?_)
      · have h := nd_pos h c17
        exact (db_X7_fits_388 C K)  s0 _ _ _ h hP hD hS (lv_sub hl [] rfl)
      · have h := nd_neg h c17
        refine lv_iload_n hx hb dX7_fits_378 rfl (lv_at hl 1 rfl) ?_
        refine lv_iconst (v := 1) hx hb dX7_fits_379 (by decide) ?_
        refine lv_iand hx hb dX7_fits_380 ?_
        refine lv_if_ne (tgt := 388) hx hb dX7_fits_381 (by decide) (fun c18 => ?_) (fun c18 => ?_)
        · have h := nd_neg h c18
          exact (db_X7_fits_388 C K)  s0 _ _ _ h hP hD hS (lv_sub hl [] rfl)
        · have h := nd_pos h c18
          refine lv_iconst (v := 1) hx hb dX7_fits_384 (by decide) ?_
          refine lv_goto (tgt := 389) hx hb dX7_fits_385 (by decide) ?_
          exact (db_X7_fits_389 C K) (1) s0 _ _ _ h hP hD hS (lv_sub hl [] rfl)
  have h := nd_neg h c14
  by_cases c19 : v0 = 76
  · have h := nd_pos h c19
    refine lv_tableIn (off := 389) (tgt := 390) hx hb dX7_fits_1 (by rw [c19]; decide) (by rw [c19]; decide) (by rw [c19]; decide) (by decide) ?_
    refine lv_iload_n hx hb dX7_fits_390 rfl (lv_at hl 1 rfl) ?_
    refine lv_sipush (v := (-256)) hx hb dX7_fits_391 (by decide) ?_
    refine lv_icmp_lt (tgt := 414) hx hb dX7_fits_394 (by decide) (fun c20 => ?_) (fun c20 => ?_)
    · have h := nd_pos h c20
      exact (db_X7_fits_414 C K)  s0 _ _ _ h hP hD hS (lv_sub hl [] rfl)
    · have h := nd_neg h c20
      refine lv_iload_n hx hb dX7_fits_397 rfl (lv_at hl 1 rfl) ?_
      refine lv_sipush (v := 254) hx hb dX7_fits_398 (by decide) ?_
      refine lv_icmp_gt (tgt := 414) hx hb dX7_fits_401 (by decide) (fun c22 => ?_) (fun c22 => ?_)
      · have h := nd_pos h c22
        exact (db_X7_fits_414 C K)  s0 _ _ _ h hP hD hS (lv_sub hl [] rfl)
      · have h := nd_neg h c22
        refine lv_iload_n hx hb dX7_fits_404 rfl (lv_at hl 1 rfl) ?_
        refine lv_iconst (v := 1) hx hb dX7_fits_405 (by decide) ?_
        refine lv_iand hx hb dX7_fits_406 ?_
        refine lv_if_ne (tgt := 414) hx hb dX7_fits_407 (by decide) (fun c23 => ?_) (fun c23 => ?_)
        · have h := nd_neg h c23
          exact (db_X7_fits_414 C K)  s0 _ _ _ h hP hD hS (lv_sub hl [] rfl)
        · have h := nd_pos h c23
          refine lv_iconst (v := 1) hx hb dX7_fits_410 (by decide) ?_
          refine lv_goto (tgt := 415) hx hb dX7_fits_411 (by decide) ?_
          exact (db_X7_fits_415 C K) (1) s0 _ _ _ h hP hD hS (lv_sub hl [] rfl)
  have h := nd_neg h c19
  by_cases c24 : v0 = 77
  · have h := nd_pos h c24
    refine lv_tableIn (off := 433) (tgt := 434) hx hb dX7_fits_1 (by rw [c24]; decide) (by rw [c24]; decide) (by rw [c24]; decide) (by decide) ?_
    refine lv_iload_n hx hb dX7_fits_434 rfl (lv_at hl 1 rfl) ?_
    refine lv_bipush (v := (-32)) hx hb dX7_fits_435 (by decide) ?_
    refine lv_icmp_lt (tgt := 454) hx hb dX7_fits_437 (by decide) (fun c25 => ?_) (fun c25 => ?_)
    · have h := nd_pos h c25
      exact (db_X7_fits_454 C K)  s0 _ _ _ h hP hD hS (lv_sub hl [] rfl)
    · have h := nd_neg h c25
      refine lv_iload_n hx hb dX7_fits_440 rfl (lv_at hl 1 rfl) ?_
      refine lv_bipush (v := 31) hx hb dX7_fits_441 (by decide) ?_
      refine lv_icmp_gt (tgt := 454) hx hb dX7_fits_443 (by decide) (fun c27 => ?_) (fun c27 => ?_)
      · have h := nd_pos h c27
        exact (db_X7_fits_454 C K)  s0 _ _ _ h hP hD hS (lv_sub hl [] rfl)
      · have h := nd_neg h c27
        refine lv_iload_n hx hb dX7_fits_446 rfl (lv_at hl 1 rfl) ?_
        refine lv_if_eq (tgt := 454) hx hb dX7_fits_447 (by decide) (fun c28 => ?_) (fun c28 => ?_)
        · have h := nd_pos h c28
          exact (db_X7_fits_454 C K)  s0 _ _ _ h hP hD hS (lv_sub hl [] rfl)
        · have h := nd_neg h c28
          refine lv_iconst (v := 1) hx hb dX7_fits_450 (by decide) ?_
          refine lv_goto (tgt := 455) hx hb dX7_fits_451 (by decide) ?_
          exact (db_X7_fits_455 C K) (1) s0 _ _ _ h hP hD hS (lv_sub hl [] rfl)
  have h := nd_neg h c24
  by_cases c29 : v0 = 78
  · have h := nd_pos h c29
    refine lv_tableIn (off := 415) (tgt := 416) hx hb dX7_fits_1 (by rw [c29]; decide) (by rw [c29]; decide) (by rw [c29]; decide) (by decide) ?_
    refine lv_iload_n hx hb dX7_fits_416 rfl (lv_at hl 1 rfl) ?_
    refine lv_bipush (v := (-32)) hx hb dX7_fits_417 (by decide) ?_
    refine lv_icmp_lt (tgt := 432) hx hb dX7_fits_419 (by decide) (fun c30 => ?_) (fun c30 => ?_)
    · have h := nd_pos h c30
      exact (db_X7_fits_432 C K)  s0 _ _ _ h hP hD hS (lv_sub hl [] rfl)
    · have h := nd_neg h c30
      refine lv_iload_n hx hb dX7_fits_422 rfl (lv_at hl 1 rfl) ?_
      refine lv_bipush (v := 31) hx hb dX7_fits_423 (by decide) ?_
      refine lv_icmp_gt (tgt := 432) hx hb dX7_fits_425 (by decide) (fun c32 => ?_) (fun c32 => ?_)
      · have h := nd_pos h c32
        exact (db_X7_fits_432 C K)  s0 _ _ _ h hP hD hS (lv_sub hl [] rfl)
      · have h := nd_neg h c32
        refine lv_iconst (v := 1) hx hb dX7_fits_428 (by decide) ?_
        refine lv_goto (tgt := 433) hx hb dX7_fits_429 (by decide) ?_
        exact (db_X7_fits_433 C K) (1) s0 _ _ _ h hP hD hS (lv_sub hl [] rfl)
  have h := nd_neg h c29
  by_cases c33 : v0 = 79
  · have h := nd_pos h c33
    refine lv_tableIn (off := 555) (tgt := 556) hx hb dX7_fits_1 (by rw [c33]; decide) (by rw [c33]; decide) (by rw [c33]; decide) (by decide) ?_
    exact (db_X7_fits_556 C K)  s0 _ _ _ h hP hD hS (lv_sub hl [] rfl)
  have h := nd_neg h c33
  by_cases c34 : v0 = 80
  · have h := nd_pos h c34
    refine lv_tableIn (off := 532) (tgt := 533) hx hb dX7_fits_1 (by rw [c34]; decide) (by rw [c34]; decide) (by rw [c34]; decide) (by decide) ?_
    exact (db_X7_fits_533 C K) (v1) s0 _ _ _ h hP hD hS (lv_sub hl [1] rfl)
  have h := nd_neg h c34
  by_cases c39 : v0 = 81
  · have h := nd_pos h c39
    refine lv_tableIn (off := 532) (tgt := 533) hx hb dX7_fits_1 (by rw [c39]; decide) (by rw [c39]; decide) (by rw [c39]; decide) (by decide) ?_
    exact (db_X7_fits_533 C K) (v1) s0 _ _ _ h hP hD hS (lv_sub hl [1] rfl)
  have h := nd_neg h c39
  by_cases c40 : v0 = 82
  · have h := nd_pos h c40
    refine lv_tableIn (off := 555) (tgt := 556) hx hb dX7_fits_1 (by rw [c40]; decide) (by rw [c40]; decide) (by rw [c40]; decide) (by decide) ?_
    exact (db_X7_fits_556 C K)  s0 _ _ _ h hP hD hS (lv_sub hl [] rfl)
  have h := nd_neg h c40
  by_cases c41 : v0 = 83
  · have h := nd_pos h c41
    refine lv_tableIn (off := 258) (tgt := 259) hx hb dX7_fits_1 (by rw [c41]; decide) (by rw [c41]; decide) (by rw [c41]; decide) (by decide) ?_
    exact (db_X7_fits_259 C K) (v1) s0 _ _ _ h hP hD hS (lv_sub hl [1] rfl)
  have h := nd_neg h c41
  by_cases c42 : v0 = 84
  · have h := nd_pos h c42
    refine lv_tableIn (off := 311) (tgt := 312) hx hb dX7_fits_1 (by rw [c42]; decide) (by rw [c42]; decide) (by rw [c42]; decide) (by decide) ?_
    refine lv_iload_n hx hb dX7_fits_312 rfl (lv_at hl 1 rfl) ?_
    refine lv_sipush (v := (-4096)) hx hb dX7_fits_313 (by decide) ?_
    refine lv_icmp_lt (tgt := 336) hx hb dX7_fits_316 (by decide) (fun c43 => ?_) (fun c43 => ?_)
    · have h := nd_pos h c43
      exact (db_X7_fits_336 C K)  s0 _ _ _ h hP hD hS (lv_sub hl [] rfl)
    · have h := nd_neg h c43
      refine lv_iload_n hx hb dX7_fits_319 rfl (lv_at hl 1 rfl) ?_
      refine lv_sipush (v := 4094) hx hb dX7_fits_320 (by decide) ?_
      refine lv_icmp_gt (tgt := 336) hx hb dX7_fits_323 (by decide) (fun c45 => ?_) (fun c45 => ?_)
      · have h := nd_pos h c45
        exact (db_X7_fits_336 C K)  s0 _ _ _ h hP hD hS (lv_sub hl [] rfl)
      · have h := nd_neg h c45
        refine lv_iload_n hx hb dX7_fits_326 rfl (lv_at hl 1 rfl) ?_
        refine lv_iconst (v := 1) hx hb dX7_fits_327 (by decide) ?_
        refine lv_iand hx hb dX7_fits_328 ?_
        refine lv_if_ne (tgt := 336) hx hb dX7_fits_329 (by decide) (fun c46 => ?_) (fun c46 => ?_)
        · have h := nd_neg h c46
          exact (db_X7_fits_336 C K)  s0 _ _ _ h hP hD hS (lv_sub hl [] rfl)
        · have h := nd_pos h c46
          refine lv_iconst (v := 1) hx hb dX7_fits_332 (by decide) ?_
          refine lv_goto (tgt := 337) hx hb dX7_fits_333 (by decide) ?_
          exact (db_X7_fits_337 C K) (1) s0 _ _ _ h hP hD hS (lv_sub hl [] rfl)
  have h := nd_neg h c42
  by_cases c47 : v0 = 85
  · have h := nd_pos h c47
    refine lv_tableIn (off := 294) (tgt := 295) hx hb dX7_fits_1 (by rw [c47]; decide) (by rw [c47]; decide) (by rw [c47]; decide) (by decide) ?_
    refine lv_iload_n hx hb dX7_fits_295 rfl (lv_at hl 1 rfl) ?_
    refine lv_if_lt (tgt := 310) hx hb dX7_fits_296 (by decide) (fun c48 => ?_) (fun c48 => ?_)
    · have h := nd_pos h c48
      exact (db_X7_fits_310 C K)  s0 _ _ _ h hP hD hS (lv_sub hl [] rfl)
    · have h := nd_neg h c48
      refine lv_iload_n hx hb dX7_fits_299 rfl (lv_at hl 1 rfl) ?_
      refine lv_ldcw hx hb hown (hts (.constant RX7 463 (1048575)) (List.mem_of_getElem? (i := 3) rfl)) dX7_fits_300 ?_
      refine lv_icmp_gt (tgt := 310) hx hb dX7_fits_303 (by decide) (fun c50 => ?_) (fun c50 => ?_)
      · have h := nd_pos h c50
        exact (db_X7_fits_310 C K)  s0 _ _ _ h hP hD hS (lv_sub hl [] rfl)
      · have h := nd_neg h c50
        refine lv_iconst (v := 1) hx hb dX7_fits_306 (by decide) ?_
        refine lv_goto (tgt := 311) hx hb dX7_fits_307 (by decide) ?_
        exact (db_X7_fits_311 C K) (1) s0 _ _ _ h hP hD hS (lv_sub hl [] rfl)
  have h := nd_neg h c47
  by_cases c51 : v0 = 86
  · have h := nd_pos h c51
    refine lv_tableIn (off := 278) (tgt := 279) hx hb dX7_fits_1 (by rw [c51]; decide) (by rw [c51]; decide) (by rw [c51]; decide) (by decide) ?_
    exact (db_X7_fits_279 C K) (v1) s0 _ _ _ h hP hD hS (lv_sub hl [1] rfl)
  have h := nd_neg h c51
  by_cases c52 : v0 = 87
  · have h := nd_pos h c52
    refine lv_tableIn (off := 479) (tgt := 480) hx hb dX7_fits_1 (by rw [c52]; decide) (by rw [c52]; decide) (by rw [c52]; decide) (by decide) ?_
    refine lv_iload_n hx hb dX7_fits_480 rfl (lv_at hl 1 rfl) ?_
    refine lv_if_lt (tgt := 500) hx hb dX7_fits_481 (by decide) (fun c53 => ?_) (fun c53 => ?_)
    · have h := nd_pos h c53
      exact (db_X7_fits_500 C K)  s0 _ _ _ h hP hD hS (lv_sub hl [] rfl)
    · have h := nd_neg h c53
      refine lv_iload_n hx hb dX7_fits_484 rfl (lv_at hl 1 rfl) ?_
      refine lv_bipush (v := 124) hx hb dX7_fits_485 (by decide) ?_
      refine lv_icmp_gt (tgt := 500) hx hb dX7_fits_487 (by decide) (fun c55 => ?_) (fun c55 => ?_)
      · have h := nd_pos h c55
        exact (db_X7_fits_500 C K)  s0 _ _ _ h hP hD hS (lv_sub hl [] rfl)
      · have h := nd_neg h c55
        refine lv_iload_n hx hb dX7_fits_490 rfl (lv_at hl 1 rfl) ?_
        refine lv_iconst (v := 3) hx hb dX7_fits_491 (by decide) ?_
        refine lv_iand hx hb dX7_fits_492 ?_
        refine lv_if_ne (tgt := 500) hx hb dX7_fits_493 (by decide) (fun c56 => ?_) (fun c56 => ?_)
        · have h := nd_neg h c56
          exact (db_X7_fits_500 C K)  s0 _ _ _ h hP hD hS (lv_sub hl [] rfl)
        · have h := nd_pos h c56
          refine lv_iconst (v := 1) hx hb dX7_fits_496 (by decide) ?_
          refine lv_goto (tgt := 501) hx hb dX7_fits_497 (by decide) ?_
          exact (db_X7_fits_501 C K) (1) s0 _ _ _ h hP hD hS (lv_sub hl [] rfl)
  have h := nd_neg h c52
  by_cases c57 : v0 = 88
  · have h := nd_pos h c57
    refine lv_tableIn (off := 455) (tgt := 456) hx hb dX7_fits_1 (by rw [c57]; decide) (by rw [c57]; decide) (by rw [c57]; decide) (by decide) ?_
    refine lv_iload_n hx hb dX7_fits_456 rfl (lv_at hl 1 rfl) ?_
    refine lv_iconst (v := 4) hx hb dX7_fits_457 (by decide) ?_
    refine lv_icmp_lt (tgt := 478) hx hb dX7_fits_458 (by decide) (fun c58 => ?_) (fun c58 => ?_)
    · have h := nd_pos h c58
      exact (db_X7_fits_478 C K)  s0 _ _ _ h hP hD hS (lv_sub hl [] rfl)
    · have h := nd_neg h c58
      refine lv_iload_n hx hb dX7_fits_461 rfl (lv_at hl 1 rfl) ?_
      refine lv_sipush (v := 1020) hx hb dX7_fits_462 (by decide) ?_
      refine lv_icmp_gt (tgt := 478) hx hb dX7_fits_465 (by decide) (fun c60 => ?_) (fun c60 => ?_)
      · have h := nd_pos h c60
        exact (db_X7_fits_478 C K)  s0 _ _ _ h hP hD hS (lv_sub hl [] rfl)
      · have h := nd_neg h c60
        refine lv_iload_n hx hb dX7_fits_468 rfl (lv_at hl 1 rfl) ?_
        refine lv_iconst (v := 3) hx hb dX7_fits_469 (by decide) ?_
        refine lv_iand hx hb dX7_fits_470 ?_
        refine lv_if_ne (tgt := 478) hx hb dX7_fits_471 (by decide) (fun c61 => ?_) (fun c61 => ?_)
        · have h := nd_neg h c61
          exact (db_X7_fits_478 C K)  s0 _ _ _ h hP hD hS (lv_sub hl [] rfl)
        · have h := nd_pos h c61
          refine lv_iconst (v := 1) hx hb dX7_fits_474 (by decide) ?_
          refine lv_goto (tgt := 479) hx hb dX7_fits_475 (by decide) ?_
          exact (db_X7_fits_479 C K) (1) s0 _ _ _ h hP hD hS (lv_sub hl [] rfl)
  have h := nd_neg h c57
  by_cases c62 : v0 = 89
  · have h := nd_pos h c62
    refine lv_tableIn (off := 501) (tgt := 502) hx hb dX7_fits_1 (by rw [c62]; decide) (by rw [c62]; decide) (by rw [c62]; decide) (by decide) ?_
    refine lv_iload_n hx hb dX7_fits_502 rfl (lv_at hl 1 rfl) ?_
    refine lv_sipush (v := (-512)) hx hb dX7_fits_503 (by decide) ?_
    refine lv_icmp_lt (tgt := 531) hx hb dX7_fits_506 (by decide) (fun c63 => ?_) (fun c63 => ?_)
    · have h := nd_pos h c63
      exact (db_X7_fits_531 C K)  s0 _ _ _ h hP hD hS (lv_sub hl [] rfl)
    · have h := nd_neg h c63
      refine lv_iload_n hx hb dX7_fits_509 rfl (lv_at hl 1 rfl) ?_
      refine lv_sipush (v := 496) hx hb dX7_fits_510 (by decide) ?_
      refine lv_icmp_gt (tgt := 531) hx hb dX7_fits_513 (by decide) (fun c65 => ?_) (fun c65 => ?_)
      · have h := nd_pos h c65
        exact (db_X7_fits_531 C K)  s0 _ _ _ h hP hD hS (lv_sub hl [] rfl)
      · have h := nd_neg h c65
        refine lv_iload_n hx hb dX7_fits_516 rfl (lv_at hl 1 rfl) ?_
        refine lv_bipush (v := 15) hx hb dX7_fits_517 (by decide) ?_
        refine lv_iand hx hb dX7_fits_519 ?_
        refine lv_if_ne (tgt := 531) hx hb dX7_fits_520 (by decide) (fun c66 => ?_) (fun c66 => ?_)
        · have h := nd_neg h c66
          exact (db_X7_fits_531 C K)  s0 _ _ _ h hP hD hS (lv_sub hl [] rfl)
        · have h := nd_pos h c66
          refine lv_iload_n hx hb dX7_fits_523 rfl (lv_at hl 1 rfl) ?_
          refine lv_if_eq (tgt := 531) hx hb dX7_fits_524 (by decide) (fun c67 => ?_) (fun c67 => ?_)
          · have h := nd_pos h c67
            exact (db_X7_fits_531 C K)  s0 _ _ _ h hP hD hS (lv_sub hl [] rfl)
          · have h := nd_neg h c67
            refine lv_iconst (v := 1) hx hb dX7_fits_527 (by decide) ?_
            refine lv_goto (tgt := 532) hx hb dX7_fits_528 (by decide) ?_
            exact (db_X7_fits_532 C K) (1) s0 _ _ _ h hP hD hS (lv_sub hl [] rfl)
  have h := nd_neg h c62
  by_cases c68 : v0 = 90
  · have h := nd_pos h c68
    refine lv_tableIn (off := 555) (tgt := 556) hx hb dX7_fits_1 (by rw [c68]; decide) (by rw [c68]; decide) (by rw [c68]; decide) (by decide) ?_
    exact (db_X7_fits_556 C K)  s0 _ _ _ h hP hD hS (lv_sub hl [] rfl)
  have h := nd_neg h c68
  by_cases c69 : v0 = 91
  · have h := nd_pos h c69
    refine lv_tableIn (off := 555) (tgt := 556) hx hb dX7_fits_1 (by rw [c69]; decide) (by rw [c69]; decide) (by rw [c69]; decide) (by decide) ?_
    exact (db_X7_fits_556 C K)  s0 _ _ _ h hP hD hS (lv_sub hl [] rfl)
  have h := nd_neg h c69
  by_cases c70 : v0 = 92
  · have h := nd_pos h c70
    refine lv_tableIn (off := 555) (tgt := 556) hx hb dX7_fits_1 (by rw [c70]; decide) (by rw [c70]; decide) (by rw [c70]; decide) (by decide) ?_
    exact (db_X7_fits_556 C K)  s0 _ _ _ h hP hD hS (lv_sub hl [] rfl)
  have h := nd_neg h c70
  by_cases c71 : v0 = 93
  · have h := nd_pos h c71
    refine lv_tableIn (off := 555) (tgt := 556) hx hb dX7_fits_1 (by rw [c71]; decide) (by rw [c71]; decide) (by rw [c71]; decide) (by decide) ?_
    exact (db_X7_fits_556 C K)  s0 _ _ _ h hP hD hS (lv_sub hl [] rfl)
  have h := nd_neg h c71
  by_cases c72 : v0 = 94
  · have h := nd_pos h c72
    refine lv_tableIn (off := 555) (tgt := 556) hx hb dX7_fits_1 (by rw [c72]; decide) (by rw [c72]; decide) (by rw [c72]; decide) (by decide) ?_
    exact (db_X7_fits_556 C K)  s0 _ _ _ h hP hD hS (lv_sub hl [] rfl)
  have h := nd_neg h c72
  by_cases c73 : v0 = 95
  · have h := nd_pos h c73
    refine lv_tableIn (off := 555) (tgt := 556) hx hb dX7_fits_1 (by rw [c73]; decide) (by rw [c73]; decide) (by rw [c73]; decide) (by decide) ?_
    exact (db_X7_fits_556 C K)  s0 _ _ _ h hP hD hS (lv_sub hl [] rfl)
  have h := nd_neg h c73
  by_cases c74 : v0 = 96
  · have h := nd_pos h c74
    refine lv_tableIn (off := 555) (tgt := 556) hx hb dX7_fits_1 (by rw [c74]; decide) (by rw [c74]; decide) (by rw [c74]; decide) (by decide) ?_
    exact (db_X7_fits_556 C K)  s0 _ _ _ h hP hD hS (lv_sub hl [] rfl)
  have h := nd_neg h c74
  by_cases c75 : v0 = 97
  · have h := nd_pos h c75
    refine lv_tableIn (off := 555) (tgt := 556) hx hb dX7_fits_1 (by rw [c75]; decide) (by rw [c75]; decide) (by rw [c75]; decide) (by decide) ?_
    exact (db_X7_fits_556 C K)  s0 _ _ _ h hP hD hS (lv_sub hl [] rfl)
  have h := nd_neg h c75
  by_cases c76 : v0 = 98
  · have h := nd_pos h c76
    refine lv_tableIn (off := 555) (tgt := 556) hx hb dX7_fits_1 (by rw [c76]; decide) (by rw [c76]; decide) (by rw [c76]; decide) (by decide) ?_
    exact (db_X7_fits_556 C K)  s0 _ _ _ h hP hD hS (lv_sub hl [] rfl)
  have h := nd_neg h c76
  by_cases c77 : v0 = 99
  · have h := nd_pos h c77
    refine lv_tableIn (off := 555) (tgt := 556) hx hb dX7_fits_1 (by rw [c77]; decide) (by rw [c77]; decide) (by rw [c77]; decide) (by decide) ?_
    exact (db_X7_fits_556 C K)  s0 _ _ _ h hP hD hS (lv_sub hl [] rfl)
  have h := nd_neg h c77
  by_cases c78 : v0 = 100
  · have h := nd_pos h c78
    refine lv_tableIn (off := 555) (tgt := 556) hx hb dX7_fits_1 (by rw [c78]; decide) (by rw [c78]; decide) (by rw [c78]; decide) (by decide) ?_
    exact (db_X7_fits_556 C K)  s0 _ _ _ h hP hD hS (lv_sub hl [] rfl)
  have h := nd_neg h c78
  by_cases c79 : v0 = 101
  · have h := nd_pos h c79
    refine lv_tableIn (off := 555) (tgt := 556) hx hb dX7_fits_1 (by rw [c79]; decide) (by rw [c79]; decide) (by rw [c79]; decide) (by decide) ?_
    exact (db_X7_fits_556 C K)  s0 _ _ _ h hP hD hS (lv_sub hl [] rfl)
  have h := nd_neg h c79
  by_cases c80 : v0 = 102
  · have h := nd_pos h c80
    refine lv_tableIn (off := 555) (tgt := 556) hx hb dX7_fits_1 (by rw [c80]; decide) (by rw [c80]; decide) (by rw [c80]; decide) (by decide) ?_
    exact (db_X7_fits_556 C K)  s0 _ _ _ h hP hD hS (lv_sub hl [] rfl)
  have h := nd_neg h c80
  by_cases c81 : v0 = 103
  · have h := nd_pos h c81
    refine lv_tableIn (off := 555) (tgt := 556) hx hb dX7_fits_1 (by rw [c81]; decide) (by rw [c81]; decide) (by rw [c81]; decide) (by decide) ?_
    exact (db_X7_fits_556 C K)  s0 _ _ _ h hP hD hS (lv_sub hl [] rfl)
  have h := nd_neg h c81
  by_cases c82 : v0 = 104
  · have h := nd_pos h c82
    refine lv_tableIn (off := 555) (tgt := 556) hx hb dX7_fits_1 (by rw [c82]; decide) (by rw [c82]; decide) (by rw [c82]; decide) (by decide) ?_
    exact (db_X7_fits_556 C K)  s0 _ _ _ h hP hD hS (lv_sub hl [] rfl)
  have h := nd_neg h c82
  by_cases c83 : v0 = 105
  · have h := nd_pos h c83
    refine lv_tableIn (off := 555) (tgt := 556) hx hb dX7_fits_1 (by rw [c83]; decide) (by rw [c83]; decide) (by rw [c83]; decide) (by decide) ?_
    exact (db_X7_fits_556 C K)  s0 _ _ _ h hP hD hS (lv_sub hl [] rfl)
  have h := nd_neg h c83
  by_cases c84 : v0 = 106
  · have h := nd_pos h c84
    refine lv_tableIn (off := 555) (tgt := 556) hx hb dX7_fits_1 (by rw [c84]; decide) (by rw [c84]; decide) (by rw [c84]; decide) (by decide) ?_
    exact (db_X7_fits_556 C K)  s0 _ _ _ h hP hD hS (lv_sub hl [] rfl)
  have h := nd_neg h c84
  by_cases c85 : v0 = 107
  · have h := nd_pos h c85
    refine lv_tableIn (off := 555) (tgt := 556) hx hb dX7_fits_1 (by rw [c85]; decide) (by rw [c85]; decide) (by rw [c85]; decide) (by decide) ?_
    exact (db_X7_fits_556 C K)  s0 _ _ _ h hP hD hS (lv_sub hl [] rfl)
  have h := nd_neg h c85
  by_cases c86 : v0 = 108
  · have h := nd_pos h c86
    refine lv_tableIn (off := 555) (tgt := 556) hx hb dX7_fits_1 (by rw [c86]; decide) (by rw [c86]; decide) (by rw [c86]; decide) (by decide) ?_
    exact (db_X7_fits_556 C K)  s0 _ _ _ h hP hD hS (lv_sub hl [] rfl)
  have h := nd_neg h c86
  by_cases c87 : v0 = 109
  · have h := nd_pos h c87
    refine lv_tableIn (off := 229) (tgt := 230) hx hb dX7_fits_1 (by rw [c87]; decide) (by rw [c87]; decide) (by rw [c87]; decide) (by decide) ?_
    refine lv_iload_n hx hb dX7_fits_230 rfl (lv_at hl 1 rfl) ?_
    refine lv_iconst (v := 2) hx hb dX7_fits_231 (by decide) ?_
    refine lv_icmp_eq (tgt := 239) hx hb dX7_fits_232 (by decide) (fun c88 => ?_) (fun c88 => ?_)
    · have h := nd_pos h c88
      refine lv_iconst (v := 0) hx hb dX7_fits_239 (by decide) ?_
      exact (db_X7_fits_240 C K) (0) s0 _ _ _ h hP hD hS (lv_sub hl [] rfl)
    · have h := nd_neg h c88
      refine lv_iconst (v := 1) hx hb dX7_fits_235 (by decide) ?_
      refine lv_goto (tgt := 240) hx hb dX7_fits_236 (by decide) ?_
      exact (db_X7_fits_240 C K) (1) s0 _ _ _ h hP hD hS (lv_sub hl [] rfl)
  have h := nd_neg h c87
  by_cases c90 : v0 = 110
  · have h := nd_pos h c90
    refine lv_tableIn (off := 219) (tgt := 220) hx hb dX7_fits_1 (by rw [c90]; decide) (by rw [c90]; decide) (by rw [c90]; decide) (by decide) ?_
    exact (db_X7_fits_220 C K) (v1) s0 _ _ _ h hP hD hS (lv_sub hl [1] rfl)
  have h := nd_neg h c90
  by_cases c93 : v0 = 111
  · have h := nd_pos h c93
    refine lv_tableIn (off := 555) (tgt := 556) hx hb dX7_fits_1 (by rw [c93]; decide) (by rw [c93]; decide) (by rw [c93]; decide) (by decide) ?_
    exact (db_X7_fits_556 C K)  s0 _ _ _ h hP hD hS (lv_sub hl [] rfl)
  have h := nd_neg h c93
  by_cases c94 : v0 = 112
  · have h := nd_pos h c94
    refine lv_tableIn (off := 240) (tgt := 241) hx hb dX7_fits_1 (by rw [c94]; decide) (by rw [c94]; decide) (by rw [c94]; decide) (by decide) ?_
    exact (db_X7_fits_241 C K) (v1) s0 _ _ _ h hP hD hS (lv_sub hl [1] rfl)
  have h := nd_neg h c94
  by_cases c98 : v0 = 113
  · have h := nd_pos h c98
    refine lv_tableIn (off := 240) (tgt := 241) hx hb dX7_fits_1 (by rw [c98]; decide) (by rw [c98]; decide) (by rw [c98]; decide) (by decide) ?_
    exact (db_X7_fits_241 C K) (v1) s0 _ _ _ h hP hD hS (lv_sub hl [1] rfl)
  have h := nd_neg h c98
  by_cases c99 : v0 = 114
  · have h := nd_pos h c99
    refine lv_tableIn (off := 555) (tgt := 556) hx hb dX7_fits_1 (by rw [c99]; decide) (by rw [c99]; decide) (by rw [c99]; decide) (by decide) ?_
    exact (db_X7_fits_556 C K)  s0 _ _ _ h hP hD hS (lv_sub hl [] rfl)
  have h := nd_neg h c99
  by_cases c100 : v0 = 115
  · have h := nd_pos h c100
    refine lv_tableIn (off := 555) (tgt := 556) hx hb dX7_fits_1 (by rw [c100]; decide) (by rw [c100]; decide) (by rw [c100]; decide) (by decide) ?_
    exact (db_X7_fits_556 C K)  s0 _ _ _ h hP hD hS (lv_sub hl [] rfl)
  have h := nd_neg h c100
  by_cases c101 : v0 = 116
  · have h := nd_pos h c101
    refine lv_tableIn (off := 555) (tgt := 556) hx hb dX7_fits_1 (by rw [c101]; decide) (by rw [c101]; decide) (by rw [c101]; decide) (by decide) ?_
    exact (db_X7_fits_556 C K)  s0 _ _ _ h hP hD hS (lv_sub hl [] rfl)
  have h := nd_neg h c101
  by_cases c102 : v0 = 117
  · have h := nd_pos h c102
    refine lv_tableIn (off := 555) (tgt := 556) hx hb dX7_fits_1 (by rw [c102]; decide) (by rw [c102]; decide) (by rw [c102]; decide) (by decide) ?_
    exact (db_X7_fits_556 C K)  s0 _ _ _ h hP hD hS (lv_sub hl [] rfl)
  have h := nd_neg h c102
  by_cases c103 : v0 = 118
  · have h := nd_pos h c103
    refine lv_tableIn (off := 555) (tgt := 556) hx hb dX7_fits_1 (by rw [c103]; decide) (by rw [c103]; decide) (by rw [c103]; decide) (by decide) ?_
    exact (db_X7_fits_556 C K)  s0 _ _ _ h hP hD hS (lv_sub hl [] rfl)
  have h := nd_neg h c103
  by_cases c104 : v0 = 119
  · have h := nd_pos h c104
    refine lv_tableIn (off := 555) (tgt := 556) hx hb dX7_fits_1 (by rw [c104]; decide) (by rw [c104]; decide) (by rw [c104]; decide) (by decide) ?_
    exact (db_X7_fits_556 C K)  s0 _ _ _ h hP hD hS (lv_sub hl [] rfl)
  have h := nd_neg h c104
  by_cases c105 : v0 = 120
  · have h := nd_pos h c105
    refine lv_tableIn (off := 555) (tgt := 556) hx hb dX7_fits_1 (by rw [c105]; decide) (by rw [c105]; decide) (by rw [c105]; decide) (by decide) ?_
    exact (db_X7_fits_556 C K)  s0 _ _ _ h hP hD hS (lv_sub hl [] rfl)
  have h := nd_neg h c105
  by_cases c106 : v0 = 121
  · have h := nd_pos h c106
    refine lv_tableIn (off := 555) (tgt := 556) hx hb dX7_fits_1 (by rw [c106]; decide) (by rw [c106]; decide) (by rw [c106]; decide) (by decide) ?_
    exact (db_X7_fits_556 C K)  s0 _ _ _ h hP hD hS (lv_sub hl [] rfl)
  have h := nd_neg h c106
  by_cases c107 : v0 = 122
  · have h := nd_pos h c107
    refine lv_tableIn (off := 219) (tgt := 220) hx hb dX7_fits_1 (by rw [c107]; decide) (by rw [c107]; decide) (by rw [c107]; decide) (by decide) ?_
    exact (db_X7_fits_220 C K) (v1) s0 _ _ _ h hP hD hS (lv_sub hl [1] rfl)
  have h := nd_neg h c107
  refine lv_tableOut (tgt := 556) hx hb dX7_fits_1 (by have g0 := nv_nei c1 (k := 72) (by decide); have g1 := nv_nei c5 (k := 73) (by decide); have g2 := nv_nei c9 (k := 74) (by decide); have g3 := nv_nei c14 (k := 75) (by decide); have g4 := nv_nei c19 (k := 76) (by decide); have g5 := nv_nei c24 (k := 77) (by decide); have g6 := nv_nei c29 (k := 78) (by decide); have g7 := nv_nei c33 (k := 79) (by decide); have g8 := nv_nei c34 (k := 80) (by decide); have g9 := nv_nei c39 (k := 81) (by decide); have g10 := nv_nei c40 (k := 82) (by decide); have g11 := nv_nei c41 (k := 83) (by decide); have g12 := nv_nei c42 (k := 84) (by decide); have g13 := nv_nei c47 (k := 85) (by decide); have g14 := nv_nei c51 (k := 86) (by decide); have g15 := nv_nei c52 (k := 87) (by decide); have g16 := nv_nei c57 (k := 88) (by decide); have g17 := nv_nei c62 (k := 89) (by decide); have g18 := nv_nei c68 (k := 90) (by decide); have g19 := nv_nei c69 (k := 91) (by decide); have g20 := nv_nei c70 (k := 92) (by decide); have g21 := nv_nei c71 (k := 93) (by decide); have g22 := nv_nei c72 (k := 94) (by decide); have g23 := nv_nei c73 (k := 95) (by decide); have g24 := nv_nei c74 (k := 96) (by decide); have g25 := nv_nei c75 (k := 97) (by decide); have g26 := nv_nei c76 (k := 98) (by decide); have g27 := nv_nei c77 (k := 99) (by decide); have g28 := nv_nei c78 (k := 100) (by decide); have g29 := nv_nei c79 (k := 101) (by decide); have g30 := nv_nei c80 (k := 102) (by decide); have g31 := nv_nei c81 (k := 103) (by decide); have g32 := nv_nei c82 (k := 104) (by decide); have g33 := nv_nei c83 (k := 105) (by decide); have g34 := nv_nei c84 (k := 106) (by decide); have g35 := nv_nei c85 (k := 107) (by decide); have g36 := nv_nei c86 (k := 108) (by decide); have g37 := nv_nei c87 (k := 109) (by decide); have g38 := nv_nei c90 (k := 110) (by decide); have g39 := nv_nei c93 (k := 111) (by decide); have g40 := nv_nei c94 (k := 112) (by decide); have g41 := nv_nei c98 (k := 113) (by decide); have g42 := nv_nei c99 (k := 114) (by decide); have g43 := nv_nei c100 (k := 115) (by decide); have g44 := nv_nei c101 (k := 116) (by decide); have g45 := nv_nei c102 (k := 117) (by decide); have g46 := nv_nei c103 (k := 118) (by decide); have g47 := nv_nei c104 (k := 119) (by decide); have g48 := nv_nei c105 (k := 120) (by decide); have g49 := nv_nei c106 (k := 121) (by decide); have g50 := nv_nei c107 (k := 122) (by decide); omega) (by decide) ?_
  exact (db_X7_fits_556 C K)  s0 _ _ _ h hP hD hS (lv_sub hl [] rfl)
set_option maxHeartbeats 40000000 in
set_option maxRecDepth 100000 in
theorem dm_X7_fits (l : Launch) (hlt : l.stackTraces = false) (dC : Nat → ClassId) (dI : Nat → Nat → Nat) (a : Nat → Nat) (ac : Nat → ClassId) (n : Nat) (v0 : Int32) (v1 : Int32) (s0 : Unit) {r : Int32 × (Unit)} (h : df_X7_fits n v0 v1 s0 = some r) (sz : Nat) : Met l yX7_fits ow_dm_X7_fits ({ frames := 0, cells := 0, slots := 0, locals := 0 }) (va_Pc [.int v0, .int v1] (fun U => U.heap.size = sz ∧ va_P (dC, dI) vwCl (dw_P a ac s0) U.heap ∧ va_K (dC, dI) vwCl (dk_P ac) U ∧ va_D (fun _ => True) (dw_P a ac s0) ∧ nv_E dI (va_A (dw_P a ac s0) sz) U)) (va_Qi (fun x _ => x = r.1) (fun (_ : Unit) t => va_P (dC, dI) vwCl (dw_P a ac r.2) t.heap ∧ va_K (dC, dI) vwCl (dk_P ac) t ∧ va_D (va_A (dw_P a ac s0) sz) (dw_P a ac r.2)) (va_A (dw_P a ac s0) sz)) 0 0 (va_A (dw_P a ac s0) sz) := by
  refine Met.ofW (cc := cX7_fits) (maxL := 2) (ret := (some .boolean)) (by decide) rfl ?_
  intro p e s m args below meth c s₁ B hml hv
  obtain ⟨rfl, hsz, hP, hK, hD0, hN⟩ := hv
  have hx := B.exec
  have hb := B.bytes
  have hr := B.returns
  have hts := atoms_spec (ws := ow_dm_X7_fits) B.pre
  have hown : s.vm.findClass RX7 = some m.cls := findClass_of_methodNamed B.named
  have hlocks := B.notSynchronized
  subst hsz
  have hD := hD0.self (sz := s.heap.size)
  generalize hAe : va_A (dw_P a ac s0) s.heap.size = A at hD hN ⊢
  have hA : ∀ q : Nat, s.heap.size ≤ q → A q := fun q h => by rw [← hAe]; exact Or.inr h
  have hl := lv_entry ([.int v0, .int v1]) (n := 2) (Nat.le_of_ble_eq_true rfl)
  rw [lg_entry_eq]
  generalize (lg_sl ([.int v0, .int v1]) ++ List.replicate (2 - (lg_sl ([.int v0, .int v1])).length) Slot.unset).toArray = ls at hl ⊢
  have hl : lv_has ls 2 [(0, .int v0), (1, .int v1)] := hl
  exact db_X7_fits_0 (dC := dC) (dI := dI) (a := a) (ac := ac) (n := n) (r := r) ⟨hlt, hx, hb, hml, hown, hts, hN, hA, hK⟩ (fun pc v τ H locs ls d z er hP hD hS => by subst er; exact W.zret (v := v) hx hb hr z (fun t ht hW => ⟨⟨v, (), rfl, rfl, by rw [ht]; exact hP, va_K.moved hW.alike hK, hD⟩, hS.F ht⟩) hS.2.2 d) v0 v1 s0 _ _ _ h hP hD va_S.rf (lv_sub hl [0, 1] rfl)
def ow_dm_X7_part : List Cond := Cond.code yX7_part cX7_part 4 (some .int) :: ([] ++ [])
theorem gd_dm_X7_part : ∀ w ∈ ow_dm_X7_part, (w.onTables && w.keeps) = true ∨ ∃ ty, w = Cond.arrayClass ty := List.forall_mem_cons.mpr ⟨good_of_word rfl, List.forall_mem_append.mpr ⟨fun w h => good_of_word (List.all_eq_true.mp (by decide +kernel) w h), fun _ h => nomatch h⟩⟩
def dj_X7_part_0 (p : Program) (l : Launch) (e : Env) (s : State) (m : MethodId) (args : Array Value) (below : List Frame) (meth : Method) (c : Code) (Q : State → Prop) (A : Nat → Prop) (dC : Nat → ClassId) (dI : Nat → Nat → Nat) (a : Nat → Nat) (ac : Nat → ClassId) (g : Int32 → Int32 → Int32 → Int32 → (Unit) → Option (Int32 × (Unit))) (r : Int32 × (Unit)) : Prop := ∀ (v0 : Int32) (v1 : Int32) (v2 : Int32) (v3 : Int32) (s0 : Unit) (H : Heap) (locs : List Loc) (ls : Array Slot), g v0 v1 v2 v3 s0 = some r → va_P (dC, dI) vwCl (dw_P a ac s0) H → va_D A (dw_P a ac s0) → va_S A s.heap H locs → lv_has ls 4 [(0, .int v0), (1, .int v1), (2, .int v2), (3, .int v3)] → W p l e (headSpec ow_dm_X7_part ({ frames := 0, cells := 0, slots := 0, locals := 0 })).room s m args below meth c H locs 0 0 Q (F0 m 0 ls [])
set_option maxHeartbeats 40000000 in
set_option maxRecDepth 100000 in
theorem db_X7_part_0 {p : Program} {l : Launch} {e : Env} {s : State} {m : MethodId} {args : Array Value} {below : List Frame} {meth : Method} {c : Code} {Q : State → Prop} {A : Nat → Prop} {dC : Nat → ClassId} {dI : Nat → Nat → Nat} {a : Nat → Nat} {ac : Nat → ClassId} {n : Nat} {r : Int32 × (Unit)} (C : nd_C p l s m args c A (dC, dI) cX7_part 4 RX7 ow_dm_X7_part (dk_P ac)) (K : nd_Ki p l e (headSpec ow_dm_X7_part ({ frames := 0, cells := 0, slots := 0, locals := 0 })).room s m args below meth c Q A (dC, dI) cX7_part .int (Unit) (dw_P a ac) r) : dj_X7_part_0 p l e s m args below meth c Q A dC dI a ac (df_X7_part_0 n) r := by
  obtain ⟨hlt, hx, hb, hml, hown, hts, hN, hA, hK⟩ := id C
  intro v0 v1 v2 v3 s0 H locs ls h hP hD hS hl
  unfold df_X7_part_0 at h
  refine lv_iload_n hx hb dX7_part_0 rfl (lv_at hl 0 rfl) ?_
  refine lv_iload_n hx hb dX7_part_1 rfl (lv_at hl 1 rfl) ?_
  refine lv_ishr hx hb dX7_part_2 ?_
  refine lv_iconst (v := 1) hx hb dX7_part_3 (by decide) ?_
  refine lv_iload_n hx hb dX7_part_4 rfl (lv_at hl 2 rfl) ?_
  refine lv_ishl hx hb dX7_part_5 ?_
  refine lv_iconst (v := 1) hx hb dX7_part_6 (by decide) ?_
  refine lv_isub hx hb dX7_part_7 ?_
  refine lv_iand hx hb dX7_part_8 ?_
  refine lv_iload_n hx hb dX7_part_9 rfl (lv_at hl 3 rfl) ?_
  refine lv_ishl hx hb dX7_part_10 ?_
  exact K _ _ _ _ _ _ dX7_part_11 rfl (Option.some.inj h).symm hP hD hS
set_option maxHeartbeats 40000000 in
set_option maxRecDepth 100000 in
theorem dm_X7_part (l : Launch) (hlt : l.stackTraces = false) (dC : Nat → ClassId) (dI : Nat → Nat → Nat) (a : Nat → Nat) (ac : Nat → ClassId) (n : Nat) (v0 : Int32) (v1 : Int32) (v2 : Int32) (v3 : Int32) (s0 : Unit) {r : Int32 × (Unit)} (h : df_X7_part n v0 v1 v2 v3 s0 = some r) (sz : Nat) : Met l yX7_part ow_dm_X7_part ({ frames := 0, cells := 0, slots := 0, locals := 0 }) (va_Pc [.int v0, .int v1, .int v2, .int v3] (fun U => U.heap.size = sz ∧ va_P (dC, dI) vwCl (dw_P a ac s0) U.heap ∧ va_K (dC, dI) vwCl (dk_P ac) U ∧ va_D (fun _ => True) (dw_P a ac s0) ∧ nv_E dI (va_A (dw_P a ac s0) sz) U)) (va_Qi (fun x _ => x = r.1) (fun (_ : Unit) t => va_P (dC, dI) vwCl (dw_P a ac r.2) t.heap ∧ va_K (dC, dI) vwCl (dk_P ac) t ∧ va_D (va_A (dw_P a ac s0) sz) (dw_P a ac r.2)) (va_A (dw_P a ac s0) sz)) 0 0 (va_A (dw_P a ac s0) sz) := by
  refine Met.ofW (cc := cX7_part) (maxL := 4) (ret := (some .int)) (by decide) rfl ?_
  intro p e s m args below meth c s₁ B hml hv
  obtain ⟨rfl, hsz, hP, hK, hD0, hN⟩ := hv
  have hx := B.exec
  have hb := B.bytes
  have hr := B.returns
  have hts := atoms_spec (ws := ow_dm_X7_part) B.pre
  have hown : s.vm.findClass RX7 = some m.cls := findClass_of_methodNamed B.named
  have hlocks := B.notSynchronized
  subst hsz
  have hD := hD0.self (sz := s.heap.size)
  generalize hAe : va_A (dw_P a ac s0) s.heap.size = A at hD hN ⊢
  have hA : ∀ q : Nat, s.heap.size ≤ q → A q := fun q h => by rw [← hAe]; exact Or.inr h
  have hl := lv_entry ([.int v0, .int v1, .int v2, .int v3]) (n := 4) (Nat.le_of_ble_eq_true rfl)
  rw [lg_entry_eq]
  generalize (lg_sl ([.int v0, .int v1, .int v2, .int v3]) ++ List.replicate (4 - (lg_sl ([.int v0, .int v1, .int v2, .int v3])).length) Slot.unset).toArray = ls at hl ⊢
  have hl : lv_has ls 4 [(0, .int v0), (1, .int v1), (2, .int v2), (3, .int v3)] := hl
  exact db_X7_part_0 (dC := dC) (dI := dI) (a := a) (ac := ac) (n := n) (r := r) ⟨hlt, hx, hb, hml, hown, hts, hN, hA, hK⟩ (fun pc v τ H locs ls d z er hP hD hS => by subst er; exact W.zret (v := v) hx hb hr z (fun t ht hW => ⟨⟨v, (), rfl, rfl, by rw [ht]; exact hP, va_K.moved hW.alike hK, hD⟩, hS.F ht⟩) hS.2.2 d) v0 v1 v2 v3 s0 _ _ _ h hP hD va_S.rf (lv_sub hl [0, 1, 2, 3] rfl)
def ow_dm_X7_placedShort : List Cond := Cond.code yX7_placedShort cX7_placedShort 2 (some .int) :: ([Cond.methodLink RX7 466 yX7_part, Cond.static yX7_part, Cond.initialized RX7] ++ (ow_dm_X7_part ++ []))
theorem gd_dm_X7_placedShort : ∀ w ∈ ow_dm_X7_placedShort, (w.onTables && w.keeps) = true ∨ ∃ ty, w = Cond.arrayClass ty := List.forall_mem_cons.mpr ⟨good_of_word rfl, List.forall_mem_append.mpr ⟨fun w h => good_of_word (List.all_eq_true.mp (by decide +kernel) w h), List.forall_mem_append.mpr ⟨gd_dm_X7_part, fun _ h => nomatch h⟩⟩⟩
theorem gi_dm_X7_placedShort_0 : GoodIn ow_dm_X7_placedShort (wsS RX7 466 yX7_part ow_dm_X7_part) := goodIn_app (goodIn_of _ (by decide +kernel)) (fun w h => ⟨List.mem_cons_of_mem _ (List.mem_append_right _ (List.mem_append_left _ h)), gd_dm_X7_part w h⟩)
def dj_X7_placedShort_195 (p : Program) (l : Launch) (e : Env) (s : State) (m : MethodId) (args : Array Value) (below : List Frame) (meth : Method) (c : Code) (Q : State → Prop) (A : Nat → Prop) (dC : Nat → ClassId) (dI : Nat → Nat → Nat) (a : Nat → Nat) (ac : Nat → ClassId) (g : Int32 → (Unit) → Option (Int32 × (Unit))) (r : Int32 × (Unit)) : Prop := ∀ (x1 : Int32) (s0 : Unit) (H : Heap) (locs : List Loc) (ls : Array Slot), g x1 s0 = some r → va_P (dC, dI) vwCl (dw_P a ac s0) H → va_D A (dw_P a ac s0) → va_S A s.heap H locs → lv_has ls 2 [(1, .int x1)] → W p l e (headSpec ow_dm_X7_placedShort ({ frames := 1, cells := 0, slots := 0, locals := 23 })).room s m args below meth c H locs 0 0 Q (F0 m 195 ls [])
def dj_X7_placedShort_373 (p : Program) (l : Launch) (e : Env) (s : State) (m : MethodId) (args : Array Value) (below : List Frame) (meth : Method) (c : Code) (Q : State → Prop) (A : Nat → Prop) (dC : Nat → ClassId) (dI : Nat → Nat → Nat) (a : Nat → Nat) (ac : Nat → ClassId) (g : (Unit) → Option (Int32 × (Unit))) (r : Int32 × (Unit)) : Prop := ∀ (s0 : Unit) (H : Heap) (locs : List Loc) (ls : Array Slot), g s0 = some r → va_P (dC, dI) vwCl (dw_P a ac s0) H → va_D A (dw_P a ac s0) → va_S A s.heap H locs → lv_has ls 2 [] → W p l e (headSpec ow_dm_X7_placedShort ({ frames := 1, cells := 0, slots := 0, locals := 23 })).room s m args below meth c H locs 0 0 Q (F0 m 373 ls [])
def dj_X7_placedShort_0 (p : Program) (l : Launch) (e : Env) (s : State) (m : MethodId) (args : Array Value) (below : List Frame) (meth : Method) (c : Code) (Q : State → Prop) (A : Nat → Prop) (dC : Nat → ClassId) (dI : Nat → Nat → Nat) (a : Nat → Nat) (ac : Nat → ClassId) (g : Int32 → Int32 → (Unit) → Option (Int32 × (Unit))) (r : Int32 × (Unit)) : Prop := ∀ (v0 : Int32) (v1 : Int32) (s0 : Unit) (H : Heap) (locs : List Loc) (ls : Array Slot), g v0 v1 s0 = some r → va_P (dC, dI) vwCl (dw_P a ac s0) H → va_D A (dw_P a ac s0) → va_S A s.heap H locs → lv_has ls 2 [(0, .int v0), (1, .int v1)] → W p l e (headSpec ow_dm_X7_placedShort ({ frames := 1, cells := 0, slots := 0, locals := 23 })).room s m args below meth c H locs 0 0 Q (F0 m 0 ls [])
set_option maxHeartbeats 40000000 in
set_option maxRecDepth 100000 in
theorem db_X7_placedShort_195 {p : Program} {l : Launch} {e : Env} {s : State} {m : MethodId} {args : Array Value} {below : List Frame} {meth : Method} {c : Code} {Q : State → Prop} {A : Nat → Prop} {dC : Nat → ClassId} {dI : Nat → Nat → Nat} {a : Nat → Nat} {ac : Nat → ClassId} {n : Nat} {r : Int32 × (Unit)} (C : nd_C p l s m args c A (dC, dI) cX7_placedShort 2 RX7 ow_dm_X7_placedShort (dk_P ac)) (K : nd_Ki p l e (headSpec ow_dm_X7_placedShort ({ frames := 1, cells := 0, slots := 0, locals := 23 })).room s m args below meth c Q A (dC, dI) cX7_placedShort .int (Unit) (dw_P a ac) r) : dj_X7_placedShort_195 p l e s m args below meth c Q A dC dI a ac (df_X7_placedShort_195 n) r := by
  obtain ⟨hlt, hx, hb, hml, hown, hts, hN, hA, hK⟩ := id C
  intro x1 s0 H locs ls h hP hD hS hl
  unfold df_X7_placedShort_195 at h
  refine lv_iload_n hx hb dX7_placedShort_195 rfl (lv_at hl 0 rfl) ?_
  refine lv_iconst (v := 5) hx hb dX7_placedShort_196 (by decide) ?_
  refine lv_iconst (v := 1) hx hb dX7_placedShort_197 (by decide) ?_
  refine lv_bipush (v := 12) hx hb dX7_placedShort_198 (by decide) ?_
  obtain ⟨q43, s44, hq, h⟩ := nd_b2_e h
  have hPc : va_P (dC, dI) vwCl (dw_P a ac ()) H := nd_p0
  have hDc : va_D A (dw_P a ac ()) := nd_d0
  have hKc : va_K (dC, dI) vwCl (dk_P ac) s := nd_y0 hK
  have hFc : ∀ q, va_A (dw_P a ac ()) H.size q → A q := nd_r0 hS hA
  refine nd_cSi (As := [.int x1, .int 5, .int 1, .int 12]) (rest := []) (q := q43) (w' := dw_P a ac s44) ⟨hx, hb, hml, hown, hts⟩ (fun sz => dm_X7_part l hlt dC dI a ac n (x1) (5) (1) (12) () hq sz) (cwS 4 hts gi_dm_X7_placedShort_0 rfl rfl rfl (by decide +kernel) ⟨Nat.le_of_ble_eq_true rfl, Nat.le_of_ble_eq_true rfl⟩) hPc hDc hKc hS hA hN rfl hl.1 rfl (Nat.le_of_ble_eq_true rfl) dX7_placedShort_200 (fun H locs hP1 hD1 hk1 hS => ?_)
  have hP := nd_n0 hP hk1
  refine lv_iload_n hx hb dX7_placedShort_203 rfl (lv_at hl 0 rfl) ?_
  refine lv_iconst (v := 0) hx hb dX7_placedShort_204 (by decide) ?_
  refine lv_iconst (v := 5) hx hb dX7_placedShort_205 (by decide) ?_
  refine lv_iconst (v := 2) hx hb dX7_placedShort_206 (by decide) ?_
  obtain ⟨q46, s47, hq, h⟩ := nd_b2_e h
  have hPc : va_P (dC, dI) vwCl (dw_P a ac ()) H := nd_p0
  have hDc : va_D A (dw_P a ac ()) := nd_d0
  have hKc : va_K (dC, dI) vwCl (dk_P ac) s := nd_y0 hK
  have hFc : ∀ q, va_A (dw_P a ac ()) H.size q → A q := nd_r0 hS hA
  refine nd_cSi (As := [.int x1, .int 0, .int 5, .int 2]) (rest := [.int q43]) (q := q46) (w' := dw_P a ac s47) ⟨hx, hb, hml, hown, hts⟩ (fun sz => dm_X7_part l hlt dC dI a ac n (x1) (0) (5) (2) () hq sz) (cwS 4 hts gi_dm_X7_placedShort_0 rfl rfl rfl (by decide +kernel) ⟨Nat.le_of_ble_eq_true rfl, Nat.le_of_ble_eq_true rfl⟩) hPc hDc hKc hS hA hN rfl hl.1 rfl (Nat.le_of_ble_eq_true rfl) dX7_placedShort_207 (fun H locs hP1 hD1 hk1 hS => ?_)
  have hP := nd_n0 hP hk1
  refine lv_ior hx hb dX7_placedShort_210 ?_
  exact K _ _ _ _ _ _ dX7_placedShort_211 rfl (Option.some.inj h).symm hP hD hS
set_option maxHeartbeats 40000000 in
set_option maxRecDepth 100000 in
theorem db_X7_placedShort_373 {p : Program} {l : Launch} {e : Env} {s : State} {m : MethodId} {args : Array Value} {below : List Frame} {meth : Method} {c : Code} {Q : State → Prop} {A : Nat → Prop} {dC : Nat → ClassId} {dI : Nat → Nat → Nat} {a : Nat → Nat} {ac : Nat → ClassId} {n : Nat} {r : Int32 × (Unit)} (C : nd_C p l s m args c A (dC, dI) cX7_placedShort 2 RX7 ow_dm_X7_placedShort (dk_P ac)) (K : nd_Ki p l e (headSpec ow_dm_X7_placedShort ({ frames := 1, cells := 0, slots := 0, locals := 23 })).room s m args below meth c Q A (dC, dI) cX7_placedShort .int (Unit) (dw_P a ac) r) : dj_X7_placedShort_373 p l e s m args below meth c Q A dC dI a ac (df_X7_placedShort_373 n) r := by
  obtain ⟨hlt, hx, hb, hml, hown, hts, hN, hA, hK⟩ := id C
  intro s0 H locs ls h hP hD hS hl
  unfold df_X7_placedShort_373 at h
  refine lv_iconst (v := 0) hx hb dX7_placedShort_373 (by decide) ?_
  exact K _ _ _ _ _ _ dX7_placedShort_374 rfl (Option.some.inj h).symm hP hD hS
set_option maxHeartbeats 40000000 in
set_option maxRecDepth 100000 in
theorem db_X7_placedShort_0 {p : Program} {l : Launch} {e : Env} {s : State} {m : MethodId} {args : Array Value} {below : List Frame} {meth : Method} {c : Code} {Q : State → Prop} {A : Nat → Prop} {dC : Nat → ClassId} {dI : Nat → Nat → Nat} {a : Nat → Nat} {ac : Nat → ClassId} {n : Nat} {r : Int32 × (Unit)} (C : nd_C p l s m args c A (dC, dI) cX7_placedShort 2 RX7 ow_dm_X7_placedShort (dk_P ac)) (K : nd_Ki p l e (headSpec ow_dm_X7_placedShort ({ frames := 1, cells := 0, slots := 0, locals := 23 })).room s m args below meth c Q A (dC, dI) cX7_placedShort .int (Unit) (dw_P a ac) r) : dj_X7_placedShort_0 p l e s m args below meth c Q A dC dI a ac (df_X7_placedShort_0 n) r := by
  obtain ⟨hlt, hx, hb, hml, hown, hts, hN, hA, hK⟩ := id C
  intro v0 v1 s0 H locs ls h hP hD hS hl
  unfold df_X7_placedShort_0 at h
  refine lv_iload_n hx hb dX7_placedShort_0 rfl (lv_at hl 0 rfl) ?_
  by_cases c1 : v0 = 75
  · have h := nd_pos h c1
    refine lv_tableIn (off := 75) (tgt := 76) hx hb dX7_placedShort_1 (by rw [c1]; decide) (by rw [c1]; decide) (by rw [c1]; decide) (by decide) ?_
    refine lv_iload_n hx hb dX7_placedShort_76 rfl (lv_at hl 1 rfl) ?_
    refine lv_bipush (v := 11) hx hb dX7_placedShort_77 (by decide) ?_
    refine lv_iconst (v := 1) hx hb dX7_placedShort_79 (by decide) ?_
    refine lv_bipush (v := 12) hx hb dX7_placedShort_80 (by decide) ?_
    obtain ⟨q2, s3, hq, h⟩ := nd_b2_e h
    have hPc : va_P (dC, dI) vwCl (dw_P a ac ()) H := nd_p0
    have hDc : va_D A (dw_P a ac ()) := nd_d0
    have hKc : va_K (dC, dI) vwCl (dk_P ac) s := nd_y0 hK
    have hFc : ∀ q, va_A (dw_P a ac ()) H.size q → A q := nd_r0 hS hA
    refine nd_cSi (As := [.int v1, .int 11, .int 1, .int 12]) (rest := []) (q := q2) (w' := dw_P a ac s3) ⟨hx, hb, hml, hown, hts⟩ (fun sz => dm_X7_part l hlt dC dI a ac n (v1) (11) (1) (12) () hq sz) (cwS 4 hts gi_dm_X7_placedShort_0 rfl rfl rfl (by decide +kernel) ⟨Nat.le_of_ble_eq_true rfl, Nat.le_of_ble_eq_true rfl⟩) hPc hDc hKc hS hA hN rfl hl.1 rfl (Nat.le_of_ble_eq_true rfl) dX7_placedShort_82 (fun H locs hP1 hD1 hk1 hS => ?_)
    have hP := nd_n0 hP hk1
    refine lv_iload_n hx hb dX7_placedShort_85 rfl (lv_at hl 1 rfl) ?_
    refine lv_iconst (v := 4) hx hb dX7_placedShort_86 (by decide) ?_
    refine lv_iconst (v := 1) hx hb dX7_placedShort_87 (by decide) ?_
    refine lv_bipush (v := 11) hx hb dX7_placedShort_88 (by decide) ?_
    obtain ⟨q5, s6, hq, h⟩ := nd_b2_e h
    have hPc : va_P (dC, dI) vwCl (dw_P a ac ()) H := nd_p0
    have hDc : va_D A (dw_P a ac ()) := nd_d0
    have hKc : va_K (dC, dI) vwCl (dk_P ac) s := nd_y0 hK
    have hFc : ∀ q, va_A (dw_P a ac ()) H.size q → A q := nd_r0 hS hA
    refine nd_cSi (As := [.int v1, .int 4, .int 1, .int 11]) (rest := [.int q2]) (q := q5) (w' := dw_P a ac s6) ⟨hx, hb, hml, hown, hts⟩ (fun sz => dm_X7_part l hlt dC dI a ac n (v1) (4) (1) (11) () hq sz) (cwS 4 hts gi_dm_X7_placedShort_0 rfl rfl rfl (by decide +kernel) ⟨Nat.le_of_ble_eq_true rfl, Nat.le_of_ble_eq_true rfl⟩) hPc hDc hKc hS hA hN rfl hl.1 rfl (Nat.le_of_ble_eq_true rfl) dX7_placedShort_90 (fun H locs hP1 hD1 hk1 hS => ?_)
    have hP := nd_n0 hP hk1
    refine lv_ior hx hb dX7_placedShort_93 ?_
    refine lv_iload_n hx hb dX7_placedShort_94 rfl (lv_at hl 1 rfl) ?_
    refine lv_bipush (v := 8) hx hb dX7_placedShort_95 (by decide) ?_
    refine lv_iconst (v := 2) hx hb dX7_placedShort_97 (by decide) ?_
    refine lv_bipush (v := 9) hx hb dX7_placedShort_98 (by decide) ?_
    obtain ⟨q8, s9, hq, h⟩ := nd_b2_e h
    have hPc : va_P (dC, dI) vwCl (dw_P a ac ()) H := nd_p0
    have hDc : va_D A (dw_P a ac ()) := nd_d0
    have hKc : va_K (dC, dI) vwCl (dk_P ac) s := nd_y0 hK
    have hFc : ∀ q, va_A (dw_P a ac ()) H.size q → A q := nd_r0 hS hA
    refine nd_cSi (As := [.int v1, .int 8, .int 2, .int 9]) (rest := [.int (q2 ||| q5)]) (q := q8) (w' := dw_P a ac s9) ⟨hx, hb, hml, hown, hts⟩ (fun sz => dm_X7_part l hlt dC dI a ac n (v1) (8) (2) (9) () hq sz) (cwS 4 hts gi_dm_X7_placedShort_0 rfl rfl rfl (by decide +kernel) ⟨Nat.le_of_ble_eq_true rfl, Nat.le_of_ble_eq_true rfl⟩) hPc hDc hKc hS hA hN rfl hl.1 rfl (Nat.le_of_ble_eq_true rfl) dX7_placedShort_100 (fun H locs hP1 hD1 hk1 hS => ?_)
    have hP := nd_n0 hP hk1
    refine lv_ior hx hb dX7_placedShort_103 ?_
    refine lv_iload_n hx hb dX7_placedShort_104 rfl (lv_at hl 1 rfl) ?_
    refine lv_bipush (v := 10) hx hb dX7_placedShort_105 (by decide) ?_
    refine lv_iconst (v := 1) hx hb dX7_placedShort_107 (by decide) ?_
    refine lv_bipush (v := 8) hx hb dX7_placedShort_108 (by decide) ?_
    obtain ⟨q11, s12, hq, h⟩ := nd_b2_e h
    have hPc : va_P (dC, dI) vwCl (dw_P a ac ()) H := nd_p0
    have hDc : va_D A (dw_P a ac ()) := nd_d0
    have hKc : va_K (dC, dI) vwCl (dk_P ac) s := nd_y0 hK
    have hFc : ∀ q, va_A (dw_P a ac ()) H.size q → A q := nd_r0 hS hA
    refine nd_cSi (As := [.int v1, .int 10, .int 1, .int 8]) (rest := [.int ((q2 ||| q5) ||| q8)]) (q := q11) (w' := dw_P a ac s12) ⟨hx, hb, hml, hown, hts⟩ (fun sz => dm_X7_part l hlt dC dI a ac n (v1) (10) (1) (8) () hq sz) (cwS 4 hts gi_dm_X7_placedShort_0 rfl rfl rfl (by decide +kernel) ⟨Nat.le_of_ble_eq_true rfl, Nat.le_of_ble_eq_true rfl⟩) hPc hDc hKc hS hA hN rfl hl.1 rfl (Nat.le_of_ble_eq_true rfl) dX7_placedShort_110 (fun H locs hP1 hD1 hk1 hS => ?_)
    have hP := nd_n0 hP hk1
    refine lv_ior hx hb dX7_placedShort_113 ?_
    refine lv_iload_n hx hb dX7_placedShort_114 rfl (lv_at hl 1 rfl) ?_
    refine lv_bipush (v := 6) hx hb dX7_placedShort_115 (by decide) ?_
    refine lv_iconst (v := 1) hx hb dX7_placedShort_117 (by decide) ?_
    refine lv_bipush (v := 7) hx hb dX7_placedShort_118 (by decide) ?_
    obtain ⟨q14, s15, hq, h⟩ := nd_b2_e h
    have hPc : va_P (dC, dI) vwCl (dw_P a ac ()) H := nd_p0
    have hDc : va_D A (dw_P a ac ()) := nd_d0
    have hKc : va_K (dC, dI) vwCl (dk_P ac) s := nd_y0 hK
    have hFc : ∀ q, va_A (dw_P a ac ()) H.size q → A q := nd_r0 hS hA
    refine nd_cSi (As := [.int v1, .int 6, .int 1, .int 7]) (rest := [.int (((q2 ||| q5) ||| q8) ||| q11)]) (q := q14) (w' := dw_P a ac s15) ⟨hx, hb, hml, hown, hts⟩ (fun sz => dm_X7_part l hlt dC dI a ac n (v1) (6) (1) (7) () hq sz) (cwS 4 hts gi_dm_X7_placedShort_0 rfl rfl rfl (by decide +kernel) ⟨Nat.le_of_ble_eq_true rfl, Nat.le_of_ble_eq_true rfl⟩) hPc hDc hKc hS hA hN rfl hl.1 rfl (Nat.le_of_ble_eq_true rfl) dX7_placedShort_120 (fun H locs hP1 hD1 hk1 hS => ?_)
    have hP := nd_n0 hP hk1
    refine lv_ior hx hb dX7_placedShort_123 ?_
    refine lv_iload_n hx hb dX7_placedShort_124 rfl (lv_at hl 1 rfl) ?_
    refine lv_bipush (v := 7) hx hb dX7_placedShort_125 (by decide) ?_
    refine lv_iconst (v := 1) hx hb dX7_placedShort_127 (by decide) ?_
    refine lv_bipush (v := 6) hx hb dX7_placedShort_128 (by decide) ?_
    obtain ⟨q17, s18, hq, h⟩ := nd_b2_e h
    have hPc : va_P (dC, dI) vwCl (dw_P a ac ()) H := nd_p0
    have hDc : va_D A (dw_P a ac ()) := nd_d0
    have hKc : va_K (dC, dI) vwCl (dk_P ac) s := nd_y0 hK
    have hFc : ∀ q, va_A (dw_P a ac ()) H.size q → A q := nd_r0 hS hA
    refine nd_cSi (As := [.int v1, .int 7, .int 1, .int 6]) (rest := [.int ((((q2 ||| q5) ||| q8) ||| q11) ||| q14)]) (q := q17) (w' := dw_P a ac s18) ⟨hx, hb, hml, hown, hts⟩ (fun sz => dm_X7_part l hlt dC dI a ac n (v1) (7) (1) (6) () hq sz) (cwS 4 hts gi_dm_X7_placedShort_0 rfl rfl rfl (by decide +kernel) ⟨Nat.le_of_ble_eq_true rfl, Nat.le_of_ble_eq_true rfl⟩) hPc hDc hKc hS hA hN rfl hl.1 rfl (Nat.le_of_ble_eq_true rfl) dX7_placedShort_130 (fun H locs hP1 hD1 hk1 hS => ?_)
    have hP := nd_n0 hP hk1
    refine lv_ior hx hb dX7_placedShort_133 ?_
    refine lv_iload_n hx hb dX7_placedShort_134 rfl (lv_at hl 1 rfl) ?_
    refine lv_iconst (v := 1) hx hb dX7_placedShort_135 (by decide) ?_
    refine lv_iconst (v := 3) hx hb dX7_placedShort_136 (by decide) ?_
    refine lv_iconst (v := 3) hx hb dX7_placedShort_137 (by decide) ?_
    obtain ⟨q20, s21, hq, h⟩ := nd_b2_e h
    have hPc : va_P (dC, dI) vwCl (dw_P a ac ()) H := nd_p0
    have hDc : va_D A (dw_P a ac ()) := nd_d0
    have hKc : va_K (dC, dI) vwCl (dk_P ac) s := nd_y0 hK
    have hFc : ∀ q, va_A (dw_P a ac ()) H.size q → A q := nd_r0 hS hA
    refine nd_cSi (As := [.int v1, .int 1, .int 3, .int 3]) (rest := [.int (((((q2 ||| q5) ||| q8) ||| q11) ||| q14) ||| q17)]) (q := q20) (w' := dw_P a ac s21) ⟨hx, hb, hml, hown, hts⟩ (fun sz => dm_X7_part l hlt dC dI a ac n (v1) (1) (3) (3) () hq sz) (cwS 4 hts gi_dm_X7_placedShort_0 rfl rfl rfl (by decide +kernel) ⟨Nat.le_of_ble_eq_true rfl, Nat.le_of_ble_eq_true rfl⟩) hPc hDc hKc hS hA hN rfl hl.1 rfl (Nat.le_of_ble_eq_true rfl) dX7_placedShort_138 (fun H locs hP1 hD1 hk1 hS => ?_)
    have hP := nd_n0 hP hk1
    refine lv_ior hx hb dX7_placedShort_141 ?_
    refine lv_iload_n hx hb dX7_placedShort_142 rfl (lv_at hl 1 rfl) ?_
    refine lv_iconst (v := 5) hx hb dX7_placedShort_143 (by decide) ?_
    refine lv_iconst (v := 1) hx hb dX7_placedShort_144 (by decide) ?_
    refine lv_iconst (v := 2) hx hb dX7_placedShort_145 (by decide) ?_
    obtain ⟨q23, s24, hq, h⟩ := nd_b2_e h
    have hPc : va_P (dC, dI) vwCl (dw_P a ac ()) H := nd_p0
    have hDc : va_D A (dw_P a ac ()) := nd_d0
    have hKc : va_K (dC, dI) vwCl (dk_P ac) s := nd_y0 hK
    have hFc : ∀ q, va_A (dw_P a ac ()) H.size q → A q := nd_r0 hS hA
    refine nd_cSi (As := [.int v1, .int 5, .int 1, .int 2]) (rest := [.int ((((((q2 ||| q5) ||| q8) ||| q11) ||| q14) ||| q17) ||| q20)]) (q := q23) (w' := dw_P a ac s24) ⟨hx, hb, hml, hown, hts⟩ (fun sz => dm_X7_part l hlt dC dI a ac n (v1) (5) (1) (2) () hq sz) (cwS 4 hts gi_dm_X7_placedShort_0 rfl rfl rfl (by decide +kernel) ⟨Nat.le_of_ble_eq_true rfl, Nat.le_of_ble_eq_true rfl⟩) hPc hDc hKc hS hA hN rfl hl.1 rfl (Nat.le_of_ble_eq_true rfl) dX7_placedShort_146 (fun H locs hP1 hD1 hk1 hS => ?_)
    have hP := nd_n0 hP hk1
    refine lv_ior hx hb dX7_placedShort_149 ?_
    exact K _ _ _ _ _ _ dX7_placedShort_150 rfl (Option.some.inj h).symm hP hD hS
  have h := nd_neg h c1
  by_cases c26 : v0 = 76
  · have h := nd_pos h c26
    refine lv_tableIn (off := 150) (tgt := 151) hx hb dX7_placedShort_1 (by rw [c26]; decide) (by rw [c26]; decide) (by rw [c26]; decide) (by decide) ?_
    refine lv_iload_n hx hb dX7_placedShort_151 rfl (lv_at hl 1 rfl) ?_
    refine lv_bipush (v := 8) hx hb dX7_placedShort_152 (by decide) ?_
    refine lv_iconst (v := 1) hx hb dX7_placedShort_154 (by decide) ?_
    refine lv_bipush (v := 12) hx hb dX7_placedShort_155 (by decide) ?_
    obtain ⟨q27, s28, hq, h⟩ := nd_b2_e h
    have hPc : va_P (dC, dI) vwCl (dw_P a ac ()) H := nd_p0
    have hDc : va_D A (dw_P a ac ()) := nd_d0
    have hKc : va_K (dC, dI) vwCl (dk_P ac) s := nd_y0 hK
    have hFc : ∀ q, va_A (dw_P a ac ()) H.size q → A q := nd_r0 hS hA
    refine nd_cSi (As := [.int v1, .int 8, .int 1, .int 12]) (rest := []) (q := q27) (w' := dw_P a ac s28) ⟨hx, hb, hml, hown, hts⟩ (fun sz => dm_X7_part l hlt dC dI a ac n (v1) (8) (1) (12) () hq sz) (cwS 4 hts gi_dm_X7_placedShort_0 rfl rfl rfl (by decide +kernel) ⟨Nat.le_of_ble_eq_true rfl, Nat.le_of_ble_eq_true rfl⟩) hPc hDc hKc hS hA hN rfl hl.1 rfl (Nat.le_of_ble_eq_true rfl) dX7_placedShort_157 (fun H locs hP1 hD1 hk1 hS => ?_)
    have hP := nd_n0 hP hk1
    refine lv_iload_n hx hb dX7_placedShort_160 rfl (lv_at hl 1 rfl) ?_
    refine lv_iconst (v := 3) hx hb dX7_placedShort_161 (by decide) ?_
    refine lv_iconst (v := 2) hx hb dX7_placedShort_162 (by decide) ?_
    refine lv_bipush (v := 10) hx hb dX7_placedShort_163 (by decide) ?_
    obtain ⟨q30, s31, hq, h⟩ := nd_b2_e h
    have hPc : va_P (dC, dI) vwCl (dw_P a ac ()) H := nd_p0
    have hDc : va_D A (dw_P a ac ()) := nd_d0
    have hKc : va_K (dC, dI) vwCl (dk_P ac) s := nd_y0 hK
    have hFc : ∀ q, va_A (dw_P a ac ()) H.size q → A q := nd_r0 hS hA
    refine nd_cSi (As := [.int v1, .int 3, .int 2, .int 10]) (rest := [.int q27]) (q := q30) (w' := dw_P a ac s31) ⟨hx, hb, hml, hown, hts⟩ (fun sz => dm_X7_part l hlt dC dI a ac n (v1) (3) (2) (10) () hq sz) (cwS 4 hts gi_dm_X7_placedShort_0 rfl rfl rfl (by decide +kernel) ⟨Nat.le_of_ble_eq_true rfl, Nat.le_of_ble_eq_true rfl⟩) hPc hDc hKc hS hA hN rfl hl.1 rfl (Nat.le_of_ble_eq_true rfl) dX7_placedShort_165 (fun H locs hP1 hD1 hk1 hS => ?_)
    have hP := nd_n0 hP hk1
    refine lv_ior hx hb dX7_placedShort_168 ?_
    refine lv_iload_n hx hb dX7_placedShort_169 rfl (lv_at hl 1 rfl) ?_
    refine lv_bipush (v := 6) hx hb dX7_placedShort_170 (by decide) ?_
    refine lv_iconst (v := 2) hx hb dX7_placedShort_172 (by decide) ?_
    refine lv_iconst (v := 5) hx hb dX7_placedShort_173 (by decide) ?_
    obtain ⟨q33, s34, hq, h⟩ := nd_b2_e h
    have hPc : va_P (dC, dI) vwCl (dw_P a ac ()) H := nd_p0
    have hDc : va_D A (dw_P a ac ()) := nd_d0
    have hKc : va_K (dC, dI) vwCl (dk_P ac) s := nd_y0 hK
    have hFc : ∀ q, va_A (dw_P a ac ()) H.size q → A q := nd_r0 hS hA
    refine nd_cSi (As := [.int v1, .int 6, .int 2, .int 5]) (rest := [.int (q27 ||| q30)]) (q := q33) (w' := dw_P a ac s34) ⟨hx, hb, hml, hown, hts⟩ (fun sz => dm_X7_part l hlt dC dI a ac n (v1) (6) (2) (5) () hq sz) (cwS 4 hts gi_dm_X7_placedShort_0 rfl rfl rfl (by decide +kernel) ⟨Nat.le_of_ble_eq_true rfl, Nat.le_of_ble_eq_true rfl⟩) hPc hDc hKc hS hA hN rfl hl.1 rfl (Nat.le_of_ble_eq_true rfl) dX7_placedShort_174 (fun H locs hP1 hD1 hk1 hS => ?_)
    have hP := nd_n0 hP hk1
    refine lv_ior hx hb dX7_placedShort_177 ?_
    refine lv_iload_n hx hb dX7_placedShort_178 rfl (lv_at hl 1 rfl) ?_
    refine lv_iconst (v := 1) hx hb dX7_placedShort_179 (by decide) ?_
    refine lv_iconst (v := 2) hx hb dX7_placedShort_180 (by decide) ?_
    refine lv_iconst (v := 3) hx hb dX7_placedShort_181 (by decide) ?_
    obtain ⟨q36, s37, hq, h⟩ := nd_b2_e h
    have hPc : va_P (dC, dI) vwCl (dw_P a ac ()) H := nd_p0
    have hDc : va_D A (dw_P a ac ()) := nd_d0
    have hKc : va_K (dC, dI) vwCl (dk_P ac) s := nd_y0 hK
    have hFc : ∀ q, va_A (dw_P a ac ()) H.size q → A q := nd_r0 hS hA
    refine nd_cSi (As := [.int v1, .int 1, .int 2, .int 3]) (rest := [.int ((q27 ||| q30) ||| q33)]) (q := q36) (w' := dw_P a ac s37) ⟨hx, hb, hml, hown, hts⟩ (fun sz => dm_X7_part l hlt dC dI a ac n (v1) (1) (2) (3) () hq sz) (cwS 4 hts gi_dm_X7_placedShort_0 rfl rfl rfl (by decide +kernel) ⟨Nat.le_of_ble_eq_true rfl, Nat.le_of_ble_eq_true rfl⟩) hPc hDc hKc hS hA hN rfl hl.1 rfl (Nat.le_of_ble_eq_true rfl) dX7_placedShort_182 (fun H locs hP1 hD1 hk1 hS => ?_)
    have hP := nd_n0 hP hk1
    refine lv_ior hx hb dX7_placedShort_185 ?_
    refine lv_iload_n hx hb dX7_placedShort_186 rfl (lv_at hl 1 rfl) ?_
    refine lv_iconst (v := 5) hx hb dX7_placedShort_187 (by decide) ?_
    refine lv_iconst (v := 1) hx hb dX7_placedShort_188 (by decide) ?_
    refine lv_iconst (v := 2) hx hb dX7_placedShort_189 (by decide) ?_
    obtain ⟨q39, s40, hq, h⟩ := nd_b2_e h
    have hPc : va_P (dC, dI) vwCl (dw_P a ac ()) H := nd_p0
    have hDc : va_D A (dw_P a ac ()) := nd_d0
    have hKc : va_K (dC, dI) vwCl (dk_P ac) s := nd_y0 hK
    have hFc : ∀ q, va_A (dw_P a ac ()) H.size q → A q := nd_r0 hS hA
    refine nd_cSi (As := [.int v1, .int 5, .int 1, .int 2]) (rest := [.int (((q27 ||| q30) ||| q33) ||| q36)]) (q := q39) (w' := dw_P a ac s40) ⟨hx, hb, hml, hown, hts⟩ (fun sz => dm_X7_part l hlt dC dI a ac n (v1) (5) (1) (2) () hq sz) (cwS 4 hts gi_dm_X7_placedShort_0 rfl rfl rfl (by decide +kernel) ⟨Nat.le_of_ble_eq_true rfl, Nat.le_of_ble_eq_true rfl⟩) hPc hDc hKc hS hA hN rfl hl.1 rfl (Nat.le_of_ble_eq_true rfl) dX7_placedShort_190 (fun H locs hP1 hD1 hk1 hS => ?_)
    have hP := nd_n0 hP hk1
    refine lv_ior hx hb dX7_placedShort_193 ?_
    exact K _ _ _ _ _ _ dX7_placedShort_194 rfl (Option.some.inj h).symm hP hD hS
  have h := nd_neg h c26
  by_cases c42 : v0 = 77
  · have h := nd_pos h c42
    refine lv_tableIn (off := 194) (tgt := 195) hx hb dX7_placedShort_1 (by rw [c42]; decide) (by rw [c42]; decide) (by rw [c42]; decide) (by decide) ?_
    exact (db_X7_placedShort_195 C K) (v1) s0 _ _ _ h hP hD hS (lv_sub hl [1] rfl)
  have h := nd_neg h c42
  by_cases c49 : v0 = 78
  · have h := nd_pos h c49
    refine lv_tableIn (off := 194) (tgt := 195) hx hb dX7_placedShort_1 (by rw [c49]; decide) (by rw [c49]; decide) (by rw [c49]; decide) (by decide) ?_
    exact (db_X7_placedShort_195 C K) (v1) s0 _ _ _ h hP hD hS (lv_sub hl [1] rfl)
  have h := nd_neg h c49
  by_cases c50 : v0 = 79
  · have h := nd_pos h c50
    refine lv_tableIn (off := 372) (tgt := 373) hx hb dX7_placedShort_1 (by rw [c50]; decide) (by rw [c50]; decide) (by rw [c50]; decide) (by decide) ?_
    exact (db_X7_placedShort_373 C K)  s0 _ _ _ h hP hD hS (lv_sub hl [] rfl)
  have h := nd_neg h c50
  by_cases c51 : v0 = 80
  · have h := nd_pos h c51
    refine lv_tableIn (off := 327) (tgt := 328) hx hb dX7_placedShort_1 (by rw [c51]; decide) (by rw [c51]; decide) (by rw [c51]; decide) (by decide) ?_
    refine lv_iload_n hx hb dX7_placedShort_328 rfl (lv_at hl 1 rfl) ?_
    refine lv_iconst (v := 5) hx hb dX7_placedShort_329 (by decide) ?_
    refine lv_iconst (v := 1) hx hb dX7_placedShort_330 (by decide) ?_
    refine lv_bipush (v := 12) hx hb dX7_placedShort_331 (by decide) ?_
    obtain ⟨q52, s53, hq, h⟩ := nd_b2_e h
    have hPc : va_P (dC, dI) vwCl (dw_P a ac ()) H := nd_p0
    have hDc : va_D A (dw_P a ac ()) := nd_d0
    have hKc : va_K (dC, dI) vwCl (dk_P ac) s := nd_y0 hK
    have hFc : ∀ q, va_A (dw_P a ac ()) H.size q → A q := nd_r0 hS hA
    refine nd_cSi (As := [.int v1, .int 5, .int 1, .int 12]) (rest := []) (q := q52) (w' := dw_P a ac s53) ⟨hx, hb, hml, hown, hts⟩ (fun sz => dm_X7_part l hlt dC dI a ac n (v1) (5) (1) (12) () hq sz) (cwS 4 hts gi_dm_X7_placedShort_0 rfl rfl rfl (by decide +kernel) ⟨Nat.le_of_ble_eq_true rfl, Nat.le_of_ble_eq_true rfl⟩) hPc hDc hKc hS hA hN rfl hl.1 rfl (Nat.le_of_ble_eq_true rfl) dX7_placedShort_333 (fun H locs hP1 hD1 hk1 hS => ?_)
    have hP := nd_n0 hP hk1
    refine lv_iload_n hx hb dX7_placedShort_336 rfl (lv_at hl 1 rfl) ?_
    refine lv_iconst (v := 2) hx hb dX7_placedShort_337 (by decide) ?_
    refine lv_iconst (v := 3) hx hb dX7_placedShort_338 (by decide) ?_
    refine lv_iconst (v := 4) hx hb dX7_placedShort_339 (by decide) ?_
    obtain ⟨q55, s56, hq, h⟩ := nd_b2_e h
    have hPc : va_P (dC, dI) vwCl (dw_P a ac ()) H := nd_p0
    have hDc : va_D A (dw_P a ac ()) := nd_d0
    have hKc : va_K (dC, dI) vwCl (dk_P ac) s := nd_y0 hK
    have hFc : ∀ q, va_A (dw_P a ac ()) H.size q → A q := nd_r0 hS hA
    refine nd_cSi (As := [.int v1, .int 2, .int 3, .int 4]) (rest := [.int q52]) (q := q55) (w' := dw_P a ac s56) ⟨hx, hb, hml, hown, hts⟩ (fun sz => dm_X7_part l hlt dC dI a ac n (v1) (2) (3) (4) () hq sz) (cwS 4 hts gi_dm_X7_placedShort_0 rfl rfl rfl (by decide +kernel) ⟨Nat.le_of_ble_eq_true rfl, Nat.le_of_ble_eq_true rfl⟩) hPc hDc hKc hS hA hN rfl hl.1 rfl (Nat.le_of_ble_eq_true rfl) dX7_placedShort_340 (fun H locs hP1 hD1 hk1 hS => ?_)
    have hP := nd_n0 hP hk1
    refine lv_ior hx hb dX7_placedShort_343 ?_
    refine lv_iload_n hx hb dX7_placedShort_344 rfl (lv_at hl 1 rfl) ?_
    refine lv_bipush (v := 6) hx hb dX7_placedShort_345 (by decide) ?_
    refine lv_iconst (v := 2) hx hb dX7_placedShort_347 (by decide) ?_
    refine lv_iconst (v := 2) hx hb dX7_placedShort_348 (by decide) ?_
    obtain ⟨q58, s59, hq, h⟩ := nd_b2_e h
    have hPc : va_P (dC, dI) vwCl (dw_P a ac ()) H := nd_p0
    have hDc : va_D A (dw_P a ac ()) := nd_d0
    have hKc : va_K (dC, dI) vwCl (dk_P ac) s := nd_y0 hK
    have hFc : ∀ q, va_A (dw_P a ac ()) H.size q → A q := nd_r0 hS hA
    refine nd_cSi (As := [.int v1, .int 6, .int 2, .int 2]) (rest := [.int (q52 ||| q55)]) (q := q58) (w' := dw_P a ac s59) ⟨hx, hb, hml, hown, hts⟩ (fun sz => dm_X7_part l hlt dC dI a ac n (v1) (6) (2) (2) () hq sz) (cwS 4 hts gi_dm_X7_placedShort_0 rfl rfl rfl (by decide +kernel) ⟨Nat.le_of_ble_eq_true rfl, Nat.le_of_ble_eq_true rfl⟩) hPc hDc hKc hS hA hN rfl hl.1 rfl (Nat.le_of_ble_eq_true rfl) dX7_placedShort_349 (fun H locs hP1 hD1 hk1 hS => ?_)
    have hP := nd_n0 hP hk1
    refine lv_ior hx hb dX7_placedShort_352 ?_
    exact K _ _ _ _ _ _ dX7_placedShort_353 rfl (Option.some.inj h).symm hP hD hS
  have h := nd_neg h c51
  by_cases c61 : v0 = 81
  · have h := nd_pos h c61
    refine lv_tableIn (off := 353) (tgt := 354) hx hb dX7_placedShort_1 (by rw [c61]; decide) (by rw [c61]; decide) (by rw [c61]; decide) (by decide) ?_
    refine lv_iload_n hx hb dX7_placedShort_354 rfl (lv_at hl 1 rfl) ?_
    refine lv_iconst (v := 2) hx hb dX7_placedShort_355 (by decide) ?_
    refine lv_iconst (v := 4) hx hb dX7_placedShort_356 (by decide) ?_
    refine lv_bipush (v := 9) hx hb dX7_placedShort_357 (by decide) ?_
    obtain ⟨q62, s63, hq, h⟩ := nd_b2_e h
    have hPc : va_P (dC, dI) vwCl (dw_P a ac ()) H := nd_p0
    have hDc : va_D A (dw_P a ac ()) := nd_d0
    have hKc : va_K (dC, dI) vwCl (dk_P ac) s := nd_y0 hK
    have hFc : ∀ q, va_A (dw_P a ac ()) H.size q → A q := nd_r0 hS hA
    refine nd_cSi (As := [.int v1, .int 2, .int 4, .int 9]) (rest := []) (q := q62) (w' := dw_P a ac s63) ⟨hx, hb, hml, hown, hts⟩ (fun sz => dm_X7_part l hlt dC dI a ac n (v1) (2) (4) (9) () hq sz) (cwS 4 hts gi_dm_X7_placedShort_0 rfl rfl rfl (by decide +kernel) ⟨Nat.le_of_ble_eq_true rfl, Nat.le_of_ble_eq_true rfl⟩) hPc hDc hKc hS hA hN rfl hl.1 rfl (Nat.le_of_ble_eq_true rfl) dX7_placedShort_359 (fun H locs hP1 hD1 hk1 hS => ?_)
    have hP := nd_n0 hP hk1
    refine lv_iload_n hx hb dX7_placedShort_362 rfl (lv_at hl 1 rfl) ?_
    refine lv_bipush (v := 6) hx hb dX7_placedShort_363 (by decide) ?_
    refine lv_iconst (v := 2) hx hb dX7_placedShort_365 (by decide) ?_
    refine lv_bipush (v := 7) hx hb dX7_placedShort_366 (by decide) ?_
    obtain ⟨q65, s66, hq, h⟩ := nd_b2_e h
    have hPc : va_P (dC, dI) vwCl (dw_P a ac ()) H := nd_p0
    have hDc : va_D A (dw_P a ac ()) := nd_d0
    have hKc : va_K (dC, dI) vwCl (dk_P ac) s := nd_y0 hK
    have hFc : ∀ q, va_A (dw_P a ac ()) H.size q → A q := nd_r0 hS hA
    refine nd_cSi (As := [.int v1, .int 6, .int 2, .int 7]) (rest := [.int q62]) (q := q65) (w' := dw_P a ac s66) ⟨hx, hb, hml, hown, hts⟩ (fun sz => dm_X7_part l hlt dC dI a ac n (v1) (6) (2) (7) () hq sz) (cwS 4 hts gi_dm_X7_placedShort_0 rfl rfl rfl (by decide +kernel) ⟨Nat.le_of_ble_eq_true rfl, Nat.le_of_ble_eq_true rfl⟩) hPc hDc hKc hS hA hN rfl hl.1 rfl (Nat.le_of_ble_eq_true rfl) dX7_placedShort_368 (fun H locs hP1 hD1 hk1 hS => ?_)
    have hP := nd_n0 hP hk1
    refine lv_ior hx hb dX7_placedShort_371 ?_
    exact K _ _ _ _ _ _ dX7_placedShort_372 rfl (Option.some.inj h).symm hP hD hS
  have h := nd_neg h c61
  by_cases c68 : v0 = 82
  · have h := nd_pos h c68
    refine lv_tableIn (off := 372) (tgt := 373) hx hb dX7_placedShort_1 (by rw [c68]; decide) (by rw [c68]; decide) (by rw [c68]; decide) (by decide) ?_
    exact (db_X7_placedShort_373 C K)  s0 _ _ _ h hP hD hS (lv_sub hl [] rfl)
  have h := nd_neg h c68
  by_cases c69 : v0 = 83
  · have h := nd_pos h c69
    refine lv_tableIn (off := 372) (tgt := 373) hx hb dX7_placedShort_1 (by rw [c69]; decide) (by rw [c69]; decide) (by rw [c69]; decide) (by decide) ?_
    exact (db_X7_placedShort_373 C K)  s0 _ _ _ h hP hD hS (lv_sub hl [] rfl)
  have h := nd_neg h c69
  by_cases c70 : v0 = 84
  · have h := nd_pos h c70
    refine lv_tableIn (off := 372) (tgt := 373) hx hb dX7_placedShort_1 (by rw [c70]; decide) (by rw [c70]; decide) (by rw [c70]; decide) (by decide) ?_
    exact (db_X7_placedShort_373 C K)  s0 _ _ _ h hP hD hS (lv_sub hl [] rfl)
  have h := nd_neg h c70
  by_cases c71 : v0 = 85
  · have h := nd_pos h c71
    refine lv_tableIn (off := 372) (tgt := 373) hx hb dX7_placedShort_1 (by rw [c71]; decide) (by rw [c71]; decide) (by rw [c71]; decide) (by decide) ?_
    exact (db_X7_placedShort_373 C K)  s0 _ _ _ h hP hD hS (lv_sub hl [] rfl)
  have h := nd_neg h c71
  by_cases c72 : v0 = 86
  · have h := nd_pos h c72
    refine lv_tableIn (off := 319) (tgt := 320) hx hb dX7_placedShort_1 (by rw [c72]; decide) (by rw [c72]; decide) (by rw [c72]; decide) (by decide) ?_
    refine lv_iload_n hx hb dX7_placedShort_320 rfl (lv_at hl 1 rfl) ?_
    refine lv_iconst (v := 0) hx hb dX7_placedShort_321 (by decide) ?_
    refine lv_iconst (v := 5) hx hb dX7_placedShort_322 (by decide) ?_
    refine lv_iconst (v := 2) hx hb dX7_placedShort_323 (by decide) ?_
    obtain ⟨q73, s74, hq, h⟩ := nd_b2_e h
    have hPc : va_P (dC, dI) vwCl (dw_P a ac ()) H := nd_p0
    have hDc : va_D A (dw_P a ac ()) := nd_d0
    have hKc : va_K (dC, dI) vwCl (dk_P ac) s := nd_y0 hK
    have hFc : ∀ q, va_A (dw_P a ac ()) H.size q → A q := nd_r0 hS hA
    refine nd_cSi (As := [.int v1, .int 0, .int 5, .int 2]) (rest := []) (q := q73) (w' := dw_P a ac s74) ⟨hx, hb, hml, hown, hts⟩ (fun sz => dm_X7_part l hlt dC dI a ac n (v1) (0) (5) (2) () hq sz) (cwS 4 hts gi_dm_X7_placedShort_0 rfl rfl rfl (by decide +kernel) ⟨Nat.le_of_ble_eq_true rfl, Nat.le_of_ble_eq_true rfl⟩) hPc hDc hKc hS hA hN rfl hl.1 rfl (Nat.le_of_ble_eq_true rfl) dX7_placedShort_324 (fun H locs hP1 hD1 hk1 hS => ?_)
    have hP := nd_n0 hP hk1
    exact K _ _ _ _ _ _ dX7_placedShort_327 rfl (Option.some.inj h).symm hP hD hS
  have h := nd_neg h c72
  by_cases c76 : v0 = 87
  · have h := nd_pos h c76
    refine lv_tableIn (off := 247) (tgt := 248) hx hb dX7_placedShort_1 (by rw [c76]; decide) (by rw [c76]; decide) (by rw [c76]; decide) (by decide) ?_
    refine lv_iload_n hx hb dX7_placedShort_248 rfl (lv_at hl 1 rfl) ?_
    refine lv_iconst (v := 3) hx hb dX7_placedShort_249 (by decide) ?_
    refine lv_iconst (v := 3) hx hb dX7_placedShort_250 (by decide) ?_
    refine lv_bipush (v := 10) hx hb dX7_placedShort_251 (by decide) ?_
    obtain ⟨q77, s78, hq, h⟩ := nd_b2_e h
    have hPc : va_P (dC, dI) vwCl (dw_P a ac ()) H := nd_p0
    have hDc : va_D A (dw_P a ac ()) := nd_d0
    have hKc : va_K (dC, dI) vwCl (dk_P ac) s := nd_y0 hK
    have hFc : ∀ q, va_A (dw_P a ac ()) H.size q → A q := nd_r0 hS hA
    refine nd_cSi (As := [.int v1, .int 3, .int 3, .int 10]) (rest := []) (q := q77) (w' := dw_P a ac s78) ⟨hx, hb, hml, hown, hts⟩ (fun sz => dm_X7_part l hlt dC dI a ac n (v1) (3) (3) (10) () hq sz) (cwS 4 hts gi_dm_X7_placedShort_0 rfl rfl rfl (by decide +kernel) ⟨Nat.le_of_ble_eq_true rfl, Nat.le_of_ble_eq_true rfl⟩) hPc hDc hKc hS hA hN rfl hl.1 rfl (Nat.le_of_ble_eq_true rfl) dX7_placedShort_253 (fun H locs hP1 hD1 hk1 hS => ?_)
    have hP := nd_n0 hP hk1
    refine lv_iload_n hx hb dX7_placedShort_256 rfl (lv_at hl 1 rfl) ?_
    refine lv_iconst (v := 2) hx hb dX7_placedShort_257 (by decide) ?_
    refine lv_iconst (v := 1) hx hb dX7_placedShort_258 (by decide) ?_
    refine lv_bipush (v := 6) hx hb dX7_placedShort_259 (by decide) ?_
    obtain ⟨q80, s81, hq, h⟩ := nd_b2_e h
    have hPc : va_P (dC, dI) vwCl (dw_P a ac ()) H := nd_p0
    have hDc : va_D A (dw_P a ac ()) := nd_d0
    have hKc : va_K (dC, dI) vwCl (dk_P ac) s := nd_y0 hK
    have hFc : ∀ q, va_A (dw_P a ac ()) H.size q → A q := nd_r0 hS hA
    refine nd_cSi (As := [.int v1, .int 2, .int 1, .int 6]) (rest := [.int q77]) (q := q80) (w' := dw_P a ac s81) ⟨hx, hb, hml, hown, hts⟩ (fun sz => dm_X7_part l hlt dC dI a ac n (v1) (2) (1) (6) () hq sz) (cwS 4 hts gi_dm_X7_placedShort_0 rfl rfl rfl (by decide +kernel) ⟨Nat.le_of_ble_eq_true rfl, Nat.le_of_ble_eq_true rfl⟩) hPc hDc hKc hS hA hN rfl hl.1 rfl (Nat.le_of_ble_eq_true rfl) dX7_placedShort_261 (fun H locs hP1 hD1 hk1 hS => ?_)
    have hP := nd_n0 hP hk1
    refine lv_ior hx hb dX7_placedShort_264 ?_
    refine lv_iload_n hx hb dX7_placedShort_265 rfl (lv_at hl 1 rfl) ?_
    refine lv_bipush (v := 6) hx hb dX7_placedShort_266 (by decide) ?_
    refine lv_iconst (v := 1) hx hb dX7_placedShort_268 (by decide) ?_
    refine lv_iconst (v := 5) hx hb dX7_placedShort_269 (by decide) ?_
    obtain ⟨q83, s84, hq, h⟩ := nd_b2_e h
    have hPc : va_P (dC, dI) vwCl (dw_P a ac ()) H := nd_p0
    have hDc : va_D A (dw_P a ac ()) := nd_d0
    have hKc : va_K (dC, dI) vwCl (dk_P ac) s := nd_y0 hK
    have hFc : ∀ q, va_A (dw_P a ac ()) H.size q → A q := nd_r0 hS hA
    refine nd_cSi (As := [.int v1, .int 6, .int 1, .int 5]) (rest := [.int (q77 ||| q80)]) (q := q83) (w' := dw_P a ac s84) ⟨hx, hb, hml, hown, hts⟩ (fun sz => dm_X7_part l hlt dC dI a ac n (v1) (6) (1) (5) () hq sz) (cwS 4 hts gi_dm_X7_placedShort_0 rfl rfl rfl (by decide +kernel) ⟨Nat.le_of_ble_eq_true rfl, Nat.le_of_ble_eq_true rfl⟩) hPc hDc hKc hS hA hN rfl hl.1 rfl (Nat.le_of_ble_eq_true rfl) dX7_placedShort_270 (fun H locs hP1 hD1 hk1 hS => ?_)
    have hP := nd_n0 hP hk1
    refine lv_ior hx hb dX7_placedShort_273 ?_
    exact K _ _ _ _ _ _ dX7_placedShort_274 rfl (Option.some.inj h).symm hP hD hS
  have h := nd_neg h c76
  by_cases c86 : v0 = 88
  · have h := nd_pos h c86
    refine lv_tableIn (off := 211) (tgt := 212) hx hb dX7_placedShort_1 (by rw [c86]; decide) (by rw [c86]; decide) (by rw [c86]; decide) (by decide) ?_
    refine lv_iload_n hx hb dX7_placedShort_212 rfl (lv_at hl 1 rfl) ?_
    refine lv_iconst (v := 4) hx hb dX7_placedShort_213 (by decide) ?_
    refine lv_iconst (v := 2) hx hb dX7_placedShort_214 (by decide) ?_
    refine lv_bipush (v := 11) hx hb dX7_placedShort_215 (by decide) ?_
    obtain ⟨q87, s88, hq, h⟩ := nd_b2_e h
    have hPc : va_P (dC, dI) vwCl (dw_P a ac ()) H := nd_p0
    have hDc : va_D A (dw_P a ac ()) := nd_d0
    have hKc : va_K (dC, dI) vwCl (dk_P ac) s := nd_y0 hK
    have hFc : ∀ q, va_A (dw_P a ac ()) H.size q → A q := nd_r0 hS hA
    refine nd_cSi (As := [.int v1, .int 4, .int 2, .int 11]) (rest := []) (q := q87) (w' := dw_P a ac s88) ⟨hx, hb, hml, hown, hts⟩ (fun sz => dm_X7_part l hlt dC dI a ac n (v1) (4) (2) (11) () hq sz) (cwS 4 hts gi_dm_X7_placedShort_0 rfl rfl rfl (by decide +kernel) ⟨Nat.le_of_ble_eq_true rfl, Nat.le_of_ble_eq_true rfl⟩) hPc hDc hKc hS hA hN rfl hl.1 rfl (Nat.le_of_ble_eq_true rfl) dX7_placedShort_217 (fun H locs hP1 hD1 hk1 hS => ?_)
    have hP := nd_n0 hP hk1
    refine lv_iload_n hx hb dX7_placedShort_220 rfl (lv_at hl 1 rfl) ?_
    refine lv_bipush (v := 6) hx hb dX7_placedShort_221 (by decide) ?_
    refine lv_iconst (v := 4) hx hb dX7_placedShort_223 (by decide) ?_
    refine lv_bipush (v := 7) hx hb dX7_placedShort_224 (by decide) ?_
    obtain ⟨q90, s91, hq, h⟩ := nd_b2_e h
    have hPc : va_P (dC, dI) vwCl (dw_P a ac ()) H := nd_p0
    have hDc : va_D A (dw_P a ac ()) := nd_d0
    have hKc : va_K (dC, dI) vwCl (dk_P ac) s := nd_y0 hK
    have hFc : ∀ q, va_A (dw_P a ac ()) H.size q → A q := nd_r0 hS hA
    refine nd_cSi (As := [.int v1, .int 6, .int 4, .int 7]) (rest := [.int q87]) (q := q90) (w' := dw_P a ac s91) ⟨hx, hb, hml, hown, hts⟩ (fun sz => dm_X7_part l hlt dC dI a ac n (v1) (6) (4) (7) () hq sz) (cwS 4 hts gi_dm_X7_placedShort_0 rfl rfl rfl (by decide +kernel) ⟨Nat.le_of_ble_eq_true rfl, Nat.le_of_ble_eq_true rfl⟩) hPc hDc hKc hS hA hN rfl hl.1 rfl (Nat.le_of_ble_eq_true rfl) dX7_placedShort_226 (fun H locs hP1 hD1 hk1 hS => ?_)
    have hP := nd_n0 hP hk1
    refine lv_ior hx hb dX7_placedShort_229 ?_
    refine lv_iload_n hx hb dX7_placedShort_230 rfl (lv_at hl 1 rfl) ?_
    refine lv_iconst (v := 2) hx hb dX7_placedShort_231 (by decide) ?_
    refine lv_iconst (v := 1) hx hb dX7_placedShort_232 (by decide) ?_
    refine lv_bipush (v := 6) hx hb dX7_placedShort_233 (by decide) ?_
    obtain ⟨q93, s94, hq, h⟩ := nd_b2_e h
    have hPc : va_P (dC, dI) vwCl (dw_P a ac ()) H := nd_p0
    have hDc : va_D A (dw_P a ac ()) := nd_d0
    have hKc : va_K (dC, dI) vwCl (dk_P ac) s := nd_y0 hK
    have hFc : ∀ q, va_A (dw_P a ac ()) H.size q → A q := nd_r0 hS hA
    refine nd_cSi (As := [.int v1, .int 2, .int 1, .int 6]) (rest := [.int (q87 ||| q90)]) (q := q93) (w' := dw_P a ac s94) ⟨hx, hb, hml, hown, hts⟩ (fun sz => dm_X7_part l hlt dC dI a ac n (v1) (2) (1) (6) () hq sz) (cwS 4 hts gi_dm_X7_placedShort_0 rfl rfl rfl (by decide +kernel) ⟨Nat.le_of_ble_eq_true rfl, Nat.le_of_ble_eq_true rfl⟩) hPc hDc hKc hS hA hN rfl hl.1 rfl (Nat.le_of_ble_eq_true rfl) dX7_placedShort_235 (fun H locs hP1 hD1 hk1 hS => ?_)
    have hP := nd_n0 hP hk1
    refine lv_ior hx hb dX7_placedShort_238 ?_
    refine lv_iload_n hx hb dX7_placedShort_239 rfl (lv_at hl 1 rfl) ?_
    refine lv_iconst (v := 3) hx hb dX7_placedShort_240 (by decide) ?_
    refine lv_iconst (v := 1) hx hb dX7_placedShort_241 (by decide) ?_
    refine lv_iconst (v := 5) hx hb dX7_placedShort_242 (by decide) ?_
    obtain ⟨q96, s97, hq, h⟩ := nd_b2_e h
    have hPc : va_P (dC, dI) vwCl (dw_P a ac ()) H := nd_p0
    have hDc : va_D A (dw_P a ac ()) := nd_d0
    have hKc : va_K (dC, dI) vwCl (dk_P ac) s := nd_y0 hK
    have hFc : ∀ q, va_A (dw_P a ac ()) H.size q → A q := nd_r0 hS hA
    refine nd_cSi (As := [.int v1, .int 3, .int 1, .int 5]) (rest := [.int ((q87 ||| q90) ||| q93)]) (q := q96) (w' := dw_P a ac s97) ⟨hx, hb, hml, hown, hts⟩ (fun sz => dm_X7_part l hlt dC dI a ac n (v1) (3) (1) (5) () hq sz) (cwS 4 hts gi_dm_X7_placedShort_0 rfl rfl rfl (by decide +kernel) ⟨Nat.le_of_ble_eq_true rfl, Nat.le_of_ble_eq_true rfl⟩) hPc hDc hKc hS hA hN rfl hl.1 rfl (Nat.le_of_ble_eq_true rfl) dX7_placedShort_243 (fun H locs hP1 hD1 hk1 hS => ?_)
    have hP := nd_n0 hP hk1
    refine lv_ior hx hb dX7_placedShort_246 ?_
    exact K _ _ _ _ _ _ dX7_placedShort_247 rfl (Option.some.inj h).symm hP hD hS
  have h := nd_neg h c86
  by_cases c99 : v0 = 89
  · have h := nd_pos h c99
    refine lv_tableIn (off := 274) (tgt := 275) hx hb dX7_placedShort_1 (by rw [c99]; decide) (by rw [c99]; decide) (by rw [c99]; decide) (by decide) ?_
    refine lv_iload_n hx hb dX7_placedShort_275 rfl (lv_at hl 1 rfl) ?_
    refine lv_bipush (v := 9) hx hb dX7_placedShort_276 (by decide) ?_
    refine lv_iconst (v := 1) hx hb dX7_placedShort_278 (by decide) ?_
    refine lv_bipush (v := 12) hx hb dX7_placedShort_279 (by decide) ?_
    obtain ⟨q100, s101, hq, h⟩ := nd_b2_e h
    have hPc : va_P (dC, dI) vwCl (dw_P a ac ()) H := nd_p0
    have hDc : va_D A (dw_P a ac ()) := nd_d0
    have hKc : va_K (dC, dI) vwCl (dk_P ac) s := nd_y0 hK
    have hFc : ∀ q, va_A (dw_P a ac ()) H.size q → A q := nd_r0 hS hA
    refine nd_cSi (As := [.int v1, .int 9, .int 1, .int 12]) (rest := []) (q := q100) (w' := dw_P a ac s101) ⟨hx, hb, hml, hown, hts⟩ (fun sz => dm_X7_part l hlt dC dI a ac n (v1) (9) (1) (12) () hq sz) (cwS 4 hts gi_dm_X7_placedShort_0 rfl rfl rfl (by decide +kernel) ⟨Nat.le_of_ble_eq_true rfl, Nat.le_of_ble_eq_true rfl⟩) hPc hDc hKc hS hA hN rfl hl.1 rfl (Nat.le_of_ble_eq_true rfl) dX7_placedShort_281 (fun H locs hP1 hD1 hk1 hS => ?_)
    have hP := nd_n0 hP hk1
    refine lv_iload_n hx hb dX7_placedShort_284 rfl (lv_at hl 1 rfl) ?_
    refine lv_iconst (v := 4) hx hb dX7_placedShort_285 (by decide) ?_
    refine lv_iconst (v := 1) hx hb dX7_placedShort_286 (by decide) ?_
    refine lv_bipush (v := 6) hx hb dX7_placedShort_287 (by decide) ?_
    obtain ⟨q103, s104, hq, h⟩ := nd_b2_e h
    have hPc : va_P (dC, dI) vwCl (dw_P a ac ()) H := nd_p0
    have hDc : va_D A (dw_P a ac ()) := nd_d0
    have hKc : va_K (dC, dI) vwCl (dk_P ac) s := nd_y0 hK
    have hFc : ∀ q, va_A (dw_P a ac ()) H.size q → A q := nd_r0 hS hA
    refine nd_cSi (As := [.int v1, .int 4, .int 1, .int 6]) (rest := [.int q100]) (q := q103) (w' := dw_P a ac s104) ⟨hx, hb, hml, hown, hts⟩ (fun sz => dm_X7_part l hlt dC dI a ac n (v1) (4) (1) (6) () hq sz) (cwS 4 hts gi_dm_X7_placedShort_0 rfl rfl rfl (by decide +kernel) ⟨Nat.le_of_ble_eq_true rfl, Nat.le_of_ble_eq_true rfl⟩) hPc hDc hKc hS hA hN rfl hl.1 rfl (Nat.le_of_ble_eq_true rfl) dX7_placedShort_289 (fun H locs hP1 hD1 hk1 hS => ?_)
    have hP := nd_n0 hP hk1
    refine lv_ior hx hb dX7_placedShort_292 ?_
    refine lv_iload_n hx hb dX7_placedShort_293 rfl (lv_at hl 1 rfl) ?_
    refine lv_bipush (v := 6) hx hb dX7_placedShort_294 (by decide) ?_
    refine lv_iconst (v := 1) hx hb dX7_placedShort_296 (by decide) ?_
    refine lv_iconst (v := 5) hx hb dX7_placedShort_297 (by decide) ?_
    obtain ⟨q106, s107, hq, h⟩ := nd_b2_e h
    have hPc : va_P (dC, dI) vwCl (dw_P a ac ()) H := nd_p0
    have hDc : va_D A (dw_P a ac ()) := nd_d0
    have hKc : va_K (dC, dI) vwCl (dk_P ac) s := nd_y0 hK
    have hFc : ∀ q, va_A (dw_P a ac ()) H.size q → A q := nd_r0 hS hA
    refine nd_cSi (As := [.int v1, .int 6, .int 1, .int 5]) (rest := [.int (q100 ||| q103)]) (q := q106) (w' := dw_P a ac s107) ⟨hx, hb, hml, hown, hts⟩ (fun sz => dm_X7_part l hlt dC dI a ac n (v1) (6) (1) (5) () hq sz) (cwS 4 hts gi_dm_X7_placedShort_0 rfl rfl rfl (by decide +kernel) ⟨Nat.le_of_ble_eq_true rfl, Nat.le_of_ble_eq_true rfl⟩) hPc hDc hKc hS hA hN rfl hl.1 rfl (Nat.le_of_ble_eq_true rfl) dX7_placedShort_298 (fun H locs hP1 hD1 hk1 hS => ?_)
    have hP := nd_n0 hP hk1
    refine lv_ior hx hb dX7_placedShort_301 ?_
    refine lv_iload_n hx hb dX7_placedShort_302 rfl (lv_at hl 1 rfl) ?_
    refine lv_bipush (v := 7) hx hb dX7_placedShort_303 (by decide) ?_
    refine lv_iconst (v := 2) hx hb dX7_placedShort_305 (by decide) ?_
    refine lv_iconst (v := 3) hx hb dX7_placedShort_306 (by decide) ?_
    obtain ⟨q109, s110, hq, h⟩ := nd_b2_e h
    have hPc : va_P (dC, dI) vwCl (dw_P a ac ()) H := nd_p0
    have hDc : va_D A (dw_P a ac ()) := nd_d0
    have hKc : va_K (dC, dI) vwCl (dk_P ac) s := nd_y0 hK
    have hFc : ∀ q, va_A (dw_P a ac ()) H.size q → A q := nd_r0 hS hA
    refine nd_cSi (As := [.int v1, .int 7, .int 2, .int 3]) (rest := [.int ((q100 ||| q103) ||| q106)]) (q := q109) (w' := dw_P a ac s110) ⟨hx, hb, hml, hown, hts⟩ (fun sz => dm_X7_part l hlt dC dI a ac n (v1) (7) (2) (3) () hq sz) (cwS 4 hts gi_dm_X7_placedShort_0 rfl rfl rfl (by decide +kernel) ⟨Nat.le_of_ble_eq_true rfl, Nat.le_of_ble_eq_true rfl⟩) hPc hDc hKc hS hA hN rfl hl.1 rfl (Nat.le_of_ble_eq_true rfl) dX7_placedShort_307 (fun H locs hP1 hD1 hk1 hS => ?_)
    have hP := nd_n0 hP hk1
    refine lv_ior hx hb dX7_placedShort_310 ?_
    refine lv_iload_n hx hb dX7_placedShort_311 rfl (lv_at hl 1 rfl) ?_
    refine lv_iconst (v := 5) hx hb dX7_placedShort_312 (by decide) ?_
    refine lv_iconst (v := 1) hx hb dX7_placedShort_313 (by decide) ?_
    refine lv_iconst (v := 2) hx hb dX7_placedShort_314 (by decide) ?_
    obtain ⟨q112, s113, hq, h⟩ := nd_b2_e h
    have hPc : va_P (dC, dI) vwCl (dw_P a ac ()) H := nd_p0
    have hDc : va_D A (dw_P a ac ()) := nd_d0
    have hKc : va_K (dC, dI) vwCl (dk_P ac) s := nd_y0 hK
    have hFc : ∀ q, va_A (dw_P a ac ()) H.size q → A q := nd_r0 hS hA
    refine nd_cSi (As := [.int v1, .int 5, .int 1, .int 2]) (rest := [.int (((q100 ||| q103) ||| q106) ||| q109)]) (q := q112) (w' := dw_P a ac s113) ⟨hx, hb, hml, hown, hts⟩ (fun sz => dm_X7_part l hlt dC dI a ac n (v1) (5) (1) (2) () hq sz) (cwS 4 hts gi_dm_X7_placedShort_0 rfl rfl rfl (by decide +kernel) ⟨Nat.le_of_ble_eq_true rfl, Nat.le_of_ble_eq_true rfl⟩) hPc hDc hKc hS hA hN rfl hl.1 rfl (Nat.le_of_ble_eq_true rfl) dX7_placedShort_315 (fun H locs hP1 hD1 hk1 hS => ?_)
    have hP := nd_n0 hP hk1
    refine lv_ior hx hb dX7_placedShort_318 ?_
    exact K _ _ _ _ _ _ dX7_placedShort_319 rfl (Option.some.inj h).symm hP hD hS
  have h := nd_neg h c99
  refine lv_tableOut (tgt := 373) hx hb dX7_placedShort_1 (by have g0 := nv_nei c1 (k := 75) (by decide); have g1 := nv_nei c26 (k := 76) (by decide); have g2 := nv_nei c42 (k := 77) (by decide); have g3 := nv_nei c49 (k := 78) (by decide); have g4 := nv_nei c50 (k := 79) (by decide); have g5 := nv_nei c51 (k := 80) (by decide); have g6 := nv_nei c61 (k := 81) (by decide); have g7 := nv_nei c68 (k := 82) (by decide); have g8 := nv_nei c69 (k := 83) (by decide); have g9 := nv_nei c70 (k := 84) (by decide); have g10 := nv_nei c71 (k := 85) (by decide); have g11 := nv_nei c72 (k := 86) (by decide); have g12 := nv_nei c76 (k := 87) (by decide); have g13 := nv_nei c86 (k := 88) (by decide); have g14 := nv_nei c99 (k := 89) (by decide); omega) (by decide) ?_
  exact (db_X7_placedShort_373 C K)  s0 _ _ _ h hP hD hS (lv_sub hl [] rfl)
set_option maxHeartbeats 40000000 in
set_option maxRecDepth 100000 in
theorem dm_X7_placedShort (l : Launch) (hlt : l.stackTraces = false) (dC : Nat → ClassId) (dI : Nat → Nat → Nat) (a : Nat → Nat) (ac : Nat → ClassId) (n : Nat) (v0 : Int32) (v1 : Int32) (s0 : Unit) {r : Int32 × (Unit)} (h : df_X7_placedShort n v0 v1 s0 = some r) (sz : Nat) : Met l yX7_placedShort ow_dm_X7_placedShort ({ frames := 1, cells := 0, slots := 0, locals := 23 }) (va_Pc [.int v0, .int v1] (fun U => U.heap.size = sz ∧ va_P (dC, dI) vwCl (dw_P a ac s0) U.heap ∧ va_K (dC, dI) vwCl (dk_P ac) U ∧ va_D (fun _ => True) (dw_P a ac s0) ∧ nv_E dI (va_A (dw_P a ac s0) sz) U)) (va_Qi (fun x _ => x = r.1) (fun (_ : Unit) t => va_P (dC, dI) vwCl (dw_P a ac r.2) t.heap ∧ va_K (dC, dI) vwCl (dk_P ac) t ∧ va_D (va_A (dw_P a ac s0) sz) (dw_P a ac r.2)) (va_A (dw_P a ac s0) sz)) 0 0 (va_A (dw_P a ac s0) sz) := by
  refine Met.ofW (cc := cX7_placedShort) (maxL := 2) (ret := (some .int)) (by decide) rfl ?_
  intro p e s m args below meth c s₁ B hml hv
  obtain ⟨rfl, hsz, hP, hK, hD0, hN⟩ := hv
  have hx := B.exec
  have hb := B.bytes
  have hr := B.returns
  have hts := atoms_spec (ws := ow_dm_X7_placedShort) B.pre
  have hown : s.vm.findClass RX7 = some m.cls := findClass_of_methodNamed B.named
  have hlocks := B.notSynchronized
  subst hsz
  have hD := hD0.self (sz := s.heap.size)
  generalize hAe : va_A (dw_P a ac s0) s.heap.size = A at hD hN ⊢
  have hA : ∀ q : Nat, s.heap.size ≤ q → A q := fun q h => by rw [← hAe]; exact Or.inr h
  have hl := lv_entry ([.int v0, .int v1]) (n := 2) (Nat.le_of_ble_eq_true rfl)
  rw [lg_entry_eq]
  generalize (lg_sl ([.int v0, .int v1]) ++ List.replicate (2 - (lg_sl ([.int v0, .int v1])).length) Slot.unset).toArray = ls at hl ⊢
  have hl : lv_has ls 2 [(0, .int v0), (1, .int v1)] := hl
  exact db_X7_placedShort_0 (dC := dC) (dI := dI) (a := a) (ac := ac) (n := n) (r := r) ⟨hlt, hx, hb, hml, hown, hts, hN, hA, hK⟩ (fun pc v τ H locs ls d z er hP hD hS => by subst er; exact W.zret (v := v) hx hb hr z (fun t ht hW => ⟨⟨v, (), rfl, rfl, by rw [ht]; exact hP, va_K.moved hW.alike hK, hD⟩, hS.F ht⟩) hS.2.2 d) v0 v1 s0 _ _ _ h hP hD va_S.rf (lv_sub hl [0, 1] rfl)
def ow_dm_X7_placed : List Cond := Cond.code yX7_placed cX7_placed 2 (some .int) :: ([Cond.methodLink RX7 466 yX7_part, Cond.static yX7_part, Cond.initialized RX7, Cond.methodLink RX7 470 yX7_placedShort, Cond.static yX7_placedShort] ++ (ow_dm_X7_part ++ (ow_dm_X7_placedShort ++ [])))
theorem gd_dm_X7_placed : ∀ w ∈ ow_dm_X7_placed, (w.onTables && w.keeps) = true ∨ ∃ ty, w = Cond.arrayClass ty := List.forall_mem_cons.mpr ⟨good_of_word rfl, List.forall_mem_append.mpr ⟨fun w h => good_of_word (List.all_eq_true.mp (by decide +kernel) w h), List.forall_mem_append.mpr ⟨gd_dm_X7_part, List.forall_mem_append.mpr ⟨gd_dm_X7_placedShort, fun _ h => nomatch h⟩⟩⟩⟩
theorem gi_dm_X7_placed_0 : GoodIn ow_dm_X7_placed (wsS RX7 466 yX7_part ow_dm_X7_part) := goodIn_app (goodIn_of _ (by decide +kernel)) (fun w h => ⟨List.mem_cons_of_mem _ (List.mem_append_right _ (List.mem_append_left _ h)), gd_dm_X7_part w h⟩)
theorem gi_dm_X7_placed_1 : GoodIn ow_dm_X7_placed (wsS RX7 470 yX7_placedShort ow_dm_X7_placedShort) := goodIn_app (goodIn_of _ (by decide +kernel)) (fun w h => ⟨List.mem_cons_of_mem _ (List.mem_append_right _ (List.mem_append_right _ (List.mem_append_left _ h))), gd_dm_X7_placedShort w h⟩)
def dj_X7_placed_371 (p : Program) (l : Launch) (e : Env) (s : State) (m : MethodId) (args : Array Value) (below : List Frame) (meth : Method) (c : Code) (Q : State → Prop) (A : Nat → Prop) (dC : Nat → ClassId) (dI : Nat → Nat → Nat) (a : Nat → Nat) (ac : Nat → ClassId) (g : Int32 → Int32 → (Unit) → Option (Int32 × (Unit))) (r : Int32 × (Unit)) : Prop := ∀ (x0 : Int32) (x1 : Int32) (s0 : Unit) (H : Heap) (locs : List Loc) (ls : Array Slot), g x0 x1 s0 = some r → va_P (dC, dI) vwCl (dw_P a ac s0) H → va_D A (dw_P a ac s0) → va_S A s.heap H locs → lv_has ls 2 [(0, .int x0), (1, .int x1)] → W p l e (headSpec ow_dm_X7_placed ({ frames := 2, cells := 0, slots := 0, locals := 44 })).room s m args below meth c H locs 0 0 Q (F0 m 371 ls [])
def dj_X7_placed_220 (p : Program) (l : Launch) (e : Env) (s : State) (m : MethodId) (args : Array Value) (below : List Frame) (meth : Method) (c : Code) (Q : State → Prop) (A : Nat → Prop) (dC : Nat → ClassId) (dI : Nat → Nat → Nat) (a : Nat → Nat) (ac : Nat → ClassId) (g : Int32 → (Unit) → Option (Int32 × (Unit))) (r : Int32 × (Unit)) : Prop := ∀ (x1 : Int32) (s0 : Unit) (H : Heap) (locs : List Loc) (ls : Array Slot), g x1 s0 = some r → va_P (dC, dI) vwCl (dw_P a ac s0) H → va_D A (dw_P a ac s0) → va_S A s.heap H locs → lv_has ls 2 [(1, .int x1)] → W p l e (headSpec ow_dm_X7_placed ({ frames := 2, cells := 0, slots := 0, locals := 44 })).room s m args below meth c H locs 0 0 Q (F0 m 220 ls [])
def dj_X7_placed_235 (p : Program) (l : Launch) (e : Env) (s : State) (m : MethodId) (args : Array Value) (below : List Frame) (meth : Method) (c : Code) (Q : State → Prop) (A : Nat → Prop) (dC : Nat → ClassId) (dI : Nat → Nat → Nat) (a : Nat → Nat) (ac : Nat → ClassId) (g : Int32 → (Unit) → Option (Int32 × (Unit))) (r : Int32 × (Unit)) : Prop := ∀ (x1 : Int32) (s0 : Unit) (H : Heap) (locs : List Loc) (ls : Array Slot), g x1 s0 = some r → va_P (dC, dI) vwCl (dw_P a ac s0) H → va_D A (dw_P a ac s0) → va_S A s.heap H locs → lv_has ls 2 [(1, .int x1)] → W p l e (headSpec ow_dm_X7_placed ({ frames := 2, cells := 0, slots := 0, locals := 44 })).room s m args below meth c H locs 0 0 Q (F0 m 235 ls [])
def dj_X7_placed_0 (p : Program) (l : Launch) (e : Env) (s : State) (m : MethodId) (args : Array Value) (below : List Frame) (meth : Method) (c : Code) (Q : State → Prop) (A : Nat → Prop) (dC : Nat → ClassId) (dI : Nat → Nat → Nat) (a : Nat → Nat) (ac : Nat → ClassId) (g : Int32 → Int32 → (Unit) → Option (Int32 × (Unit))) (r : Int32 × (Unit)) : Prop := ∀ (v0 : Int32) (v1 : Int32) (s0 : Unit) (H : Heap) (locs : List Loc) (ls : Array Slot), g v0 v1 s0 = some r → va_P (dC, dI) vwCl (dw_P a ac s0) H → va_D A (dw_P a ac s0) → va_S A s.heap H locs → lv_has ls 2 [(0, .int v0), (1, .int v1)] → W p l e (headSpec ow_dm_X7_placed ({ frames := 2, cells := 0, slots := 0, locals := 44 })).room s m args below meth c H locs 0 0 Q (F0 m 0 ls [])
set_option maxHeartbeats 40000000 in
set_option maxRecDepth 100000 in
theorem db_X7_placed_371 {p : Program} {l : Launch} {e : Env} {s : State} {m : MethodId} {args : Array Value} {below : List Frame} {meth : Method} {c : Code} {Q : State → Prop} {A : Nat → Prop} {dC : Nat → ClassId} {dI : Nat → Nat → Nat} {a : Nat → Nat} {ac : Nat → ClassId} {n : Nat} {r : Int32 × (Unit)} (C : nd_C p l s m args c A (dC, dI) cX7_placed 2 RX7 ow_dm_X7_placed (dk_P ac)) (K : nd_Ki p l e (headSpec ow_dm_X7_placed ({ frames := 2, cells := 0, slots := 0, locals := 44 })).room s m args below meth c Q A (dC, dI) cX7_placed .int (Unit) (dw_P a ac) r) : dj_X7_placed_371 p l e s m args below meth c Q A dC dI a ac (df_X7_placed_371 n) r := by
  obtain ⟨hlt, hx, hb, hml, hown, hts, hN, hA, hK⟩ := id C
  intro x0 x1 s0 H locs ls h hP hD hS hl
  unfold df_X7_placed_371 at h
  refine lv_iload_n hx hb dX7_placed_371 rfl (lv_at hl 0 rfl) ?_
  refine lv_iload_n hx hb dX7_placed_372 rfl (lv_at hl 1 rfl) ?_
  obtain ⟨q17, s18, hq, h⟩ := nd_b2_e h
  have hPc : va_P (dC, dI) vwCl (dw_P a ac ()) H := nd_p0
  have hDc : va_D A (dw_P a ac ()) := nd_d0
  have hKc : va_K (dC, dI) vwCl (dk_P ac) s := nd_y0 hK
  have hFc : ∀ q, va_A (dw_P a ac ()) H.size q → A q := nd_r0 hS hA
  refine nd_cSi (As := [.int x0, .int x1]) (rest := []) (q := q17) (w' := dw_P a ac s18) ⟨hx, hb, hml, hown, hts⟩ (fun sz => dm_X7_placedShort l hlt dC dI a ac n (x0) (x1) () hq sz) (cwS 2 hts gi_dm_X7_placed_1 rfl rfl rfl (by decide +kernel) ⟨Nat.le_of_ble_eq_true rfl, Nat.le_of_ble_eq_true rfl⟩) hPc hDc hKc hS hA hN rfl hl.1 rfl (Nat.le_of_ble_eq_true rfl) dX7_placed_373 (fun H locs hP1 hD1 hk1 hS => ?_)
  have hP := nd_n0 hP hk1
  exact K _ _ _ _ _ _ dX7_placed_376 rfl (Option.some.inj h).symm hP hD hS
set_option maxHeartbeats 40000000 in
set_option maxRecDepth 100000 in
theorem db_X7_placed_220 {p : Program} {l : Launch} {e : Env} {s : State} {m : MethodId} {args : Array Value} {below : List Frame} {meth : Method} {c : Code} {Q : State → Prop} {A : Nat → Prop} {dC : Nat → ClassId} {dI : Nat → Nat → Nat} {a : Nat → Nat} {ac : Nat → ClassId} {n : Nat} {r : Int32 × (Unit)} (C : nd_C p l s m args c A (dC, dI) cX7_placed 2 RX7 ow_dm_X7_placed (dk_P ac)) (K : nd_Ki p l e (headSpec ow_dm_X7_placed ({ frames := 2, cells := 0, slots := 0, locals := 44 })).room s m args below meth c Q A (dC, dI) cX7_placed .int (Unit) (dw_P a ac) r) : dj_X7_placed_220 p l e s m args below meth c Q A dC dI a ac (df_X7_placed_220 n) r := by
  obtain ⟨hlt, hx, hb, hml, hown, hts, hN, hA, hK⟩ := id C
  intro x1 s0 H locs ls h hP hD hS hl
  unfold df_X7_placed_220 at h
  refine lv_iload_n hx hb dX7_placed_220 rfl (lv_at hl 0 rfl) ?_
  refine lv_bipush (v := 7) hx hb dX7_placed_221 (by decide) ?_
  refine lv_ishl hx hb dX7_placed_223 ?_
  exact K _ _ _ _ _ _ dX7_placed_224 rfl (Option.some.inj h).symm hP hD hS
set_option maxHeartbeats 40000000 in
set_option maxRecDepth 100000 in
theorem db_X7_placed_235 {p : Program} {l : Launch} {e : Env} {s : State} {m : MethodId} {args : Array Value} {below : List Frame} {meth : Method} {c : Code} {Q : State → Prop} {A : Nat → Prop} {dC : Nat → ClassId} {dI : Nat → Nat → Nat} {a : Nat → Nat} {ac : Nat → ClassId} {n : Nat} {r : Int32 × (Unit)} (C : nd_C p l s m args c A (dC, dI) cX7_placed 2 RX7 ow_dm_X7_placed (dk_P ac)) (K : nd_Ki p l e (headSpec ow_dm_X7_placed ({ frames := 2, cells := 0, slots := 0, locals := 44 })).room s m args below meth c Q A (dC, dI) cX7_placed .int (Unit) (dw_P a ac) r) : dj_X7_placed_235 p l e s m args below meth c Q A dC dI a ac (df_X7_placed_235 n) r := by
  obtain ⟨hlt, hx, hb, hml, hown, hts, hN, hA, hK⟩ := id C
  intro x1 s0 H locs ls h hP hD hS hl
  unfold df_X7_placed_235 at h
  refine lv_iload_n hx hb dX7_placed_235 rfl (lv_at hl 0 rfl) ?_
  refine lv_iconst (v := 2) hx hb dX7_placed_236 (by decide) ?_
  refine lv_ishl hx hb dX7_placed_237 ?_
  exact K _ _ _ _ _ _ dX7_placed_238 rfl (Option.some.inj h).symm hP hD hS
set_option maxHeartbeats 40000000 in
set_option maxRecDepth 100000 in
theorem db_X7_placed_0 {p : Program} {l : Launch} {e : Env} {s : State} {m : MethodId} {args : Array Value} {below : List Frame} {meth : Method} {c : Code} {Q : State → Prop} {A : Nat → Prop} {dC : Nat → ClassId} {dI : Nat → Nat → Nat} {a : Nat → Nat} {ac : Nat → ClassId} {n : Nat} {r : Int32 × (Unit)} (C : nd_C p l s m args c A (dC, dI) cX7_placed 2 RX7 ow_dm_X7_placed (dk_P ac)) (K : nd_Ki p l e (headSpec ow_dm_X7_placed ({ frames := 2, cells := 0, slots := 0, locals := 44 })).room s m args below meth c Q A (dC, dI) cX7_placed .int (Unit) (dw_P a ac) r) : dj_X7_placed_0 p l e s m args below meth c Q A dC dI a ac (df_X7_placed_0 n) r := by
  obtain ⟨hlt, hx, hb, hml, hown, hts, hN, hA, hK⟩ := id C
  intro v0 v1 s0 H locs ls h hP hD hS hl
  unfold df_X7_placed_0 at h
  refine lv_iload_n hx hb dX7_placed_0 rfl (lv_at hl 0 rfl) ?_
  by_cases c1 : v0 = 72
  · have h := nd_pos h c1
    refine lv_tableIn (off := 258) (tgt := 259) hx hb dX7_placed_1 (by rw [c1]; decide) (by rw [c1]; decide) (by rw [c1]; decide) (by decide) ?_
    refine lv_iload_n hx hb dX7_placed_259 rfl (lv_at hl 1 rfl) ?_
    refine lv_bipush (v := 31) hx hb dX7_placed_260 (by decide) ?_
    refine lv_iand hx hb dX7_placed_262 ?_
    refine lv_bipush (v := 20) hx hb dX7_placed_263 (by decide) ?_
    refine lv_ishl hx hb dX7_placed_265 ?_
    exact K _ _ _ _ _ _ dX7_placed_266 rfl (Option.some.inj h).symm hP hD hS
  have h := nd_neg h c1
  by_cases c2 : v0 = 73
  · have h := nd_pos h c2
    refine lv_tableIn (off := 253) (tgt := 254) hx hb dX7_placed_1 (by rw [c2]; decide) (by rw [c2]; decide) (by rw [c2]; decide) (by decide) ?_
    refine lv_iload_n hx hb dX7_placed_254 rfl (lv_at hl 1 rfl) ?_
    refine lv_bipush (v := 20) hx hb dX7_placed_255 (by decide) ?_
    refine lv_ishl hx hb dX7_placed_257 ?_
    exact K _ _ _ _ _ _ dX7_placed_258 rfl (Option.some.inj h).symm hP hD hS
  have h := nd_neg h c2
  by_cases c3 : v0 = 74
  · have h := nd_pos h c3
    refine lv_tableIn (off := 329) (tgt := 330) hx hb dX7_placed_1 (by rw [c3]; decide) (by rw [c3]; decide) (by rw [c3]; decide) (by decide) ?_
    refine lv_iload_n hx hb dX7_placed_330 rfl (lv_at hl 1 rfl) ?_
    refine lv_bipush (v := 20) hx hb dX7_placed_331 (by decide) ?_
    refine lv_iconst (v := 1) hx hb dX7_placed_333 (by decide) ?_
    refine lv_bipush (v := 31) hx hb dX7_placed_334 (by decide) ?_
    obtain ⟨q4, s5, hq, h⟩ := nd_b2_e h
    have hPc : va_P (dC, dI) vwCl (dw_P a ac ()) H := nd_p0
    have hDc : va_D A (dw_P a ac ()) := nd_d0
    have hKc : va_K (dC, dI) vwCl (dk_P ac) s := nd_y0 hK
    have hFc : ∀ q, va_A (dw_P a ac ()) H.size q → A q := nd_r0 hS hA
    refine nd_cSi (As := [.int v1, .int 20, .int 1, .int 31]) (rest := []) (q := q4) (w' := dw_P a ac s5) ⟨hx, hb, hml, hown, hts⟩ (fun sz => dm_X7_part l hlt dC dI a ac n (v1) (20) (1) (31) () hq sz) (cwS 4 hts gi_dm_X7_placed_0 rfl rfl rfl (by decide +kernel) ⟨Nat.le_of_ble_eq_true rfl, Nat.le_of_ble_eq_true rfl⟩) hPc hDc hKc hS hA hN rfl hl.1 rfl (Nat.le_of_ble_eq_true rfl) dX7_placed_336 (fun H locs hP1 hD1 hk1 hS => ?_)
    have hP := nd_n0 hP hk1
    refine lv_iload_n hx hb dX7_placed_339 rfl (lv_at hl 1 rfl) ?_
    refine lv_iconst (v := 1) hx hb dX7_placed_340 (by decide) ?_
    refine lv_bipush (v := 10) hx hb dX7_placed_341 (by decide) ?_
    refine lv_bipush (v := 21) hx hb dX7_placed_343 (by decide) ?_
    obtain ⟨q7, s8, hq, h⟩ := nd_b2_e h
    have hPc : va_P (dC, dI) vwCl (dw_P a ac ()) H := nd_p0
    have hDc : va_D A (dw_P a ac ()) := nd_d0
    have hKc : va_K (dC, dI) vwCl (dk_P ac) s := nd_y0 hK
    have hFc : ∀ q, va_A (dw_P a ac ()) H.size q → A q := nd_r0 hS hA
    refine nd_cSi (As := [.int v1, .int 1, .int 10, .int 21]) (rest := [.int q4]) (q := q7) (w' := dw_P a ac s8) ⟨hx, hb, hml, hown, hts⟩ (fun sz => dm_X7_part l hlt dC dI a ac n (v1) (1) (10) (21) () hq sz) (cwS 4 hts gi_dm_X7_placed_0 rfl rfl rfl (by decide +kernel) ⟨Nat.le_of_ble_eq_true rfl, Nat.le_of_ble_eq_true rfl⟩) hPc hDc hKc hS hA hN rfl hl.1 rfl (Nat.le_of_ble_eq_true rfl) dX7_placed_345 (fun H locs hP1 hD1 hk1 hS => ?_)
    have hP := nd_n0 hP hk1
    refine lv_ior hx hb dX7_placed_348 ?_
    refine lv_iload_n hx hb dX7_placed_349 rfl (lv_at hl 1 rfl) ?_
    refine lv_bipush (v := 11) hx hb dX7_placed_350 (by decide) ?_
    refine lv_iconst (v := 1) hx hb dX7_placed_352 (by decide) ?_
    refine lv_bipush (v := 20) hx hb dX7_placed_353 (by decide) ?_
    obtain ⟨q10, s11, hq, h⟩ := nd_b2_e h
    have hPc : va_P (dC, dI) vwCl (dw_P a ac ()) H := nd_p0
    have hDc : va_D A (dw_P a ac ()) := nd_d0
    have hKc : va_K (dC, dI) vwCl (dk_P ac) s := nd_y0 hK
    have hFc : ∀ q, va_A (dw_P a ac ()) H.size q → A q := nd_r0 hS hA
    refine nd_cSi (As := [.int v1, .int 11, .int 1, .int 20]) (rest := [.int (q4 ||| q7)]) (q := q10) (w' := dw_P a ac s11) ⟨hx, hb, hml, hown, hts⟩ (fun sz => dm_X7_part l hlt dC dI a ac n (v1) (11) (1) (20) () hq sz) (cwS 4 hts gi_dm_X7_placed_0 rfl rfl rfl (by decide +kernel) ⟨Nat.le_of_ble_eq_true rfl, Nat.le_of_ble_eq_true rfl⟩) hPc hDc hKc hS hA hN rfl hl.1 rfl (Nat.le_of_ble_eq_true rfl) dX7_placed_355 (fun H locs hP1 hD1 hk1 hS => ?_)
    have hP := nd_n0 hP hk1
    refine lv_ior hx hb dX7_placed_358 ?_
    refine lv_iload_n hx hb dX7_placed_359 rfl (lv_at hl 1 rfl) ?_
    refine lv_bipush (v := 12) hx hb dX7_placed_360 (by decide) ?_
    refine lv_bipush (v := 8) hx hb dX7_placed_362 (by decide) ?_
    refine lv_bipush (v := 12) hx hb dX7_placed_364 (by decide) ?_
    obtain ⟨q13, s14, hq, h⟩ := nd_b2_e h
    have hPc : va_P (dC, dI) vwCl (dw_P a ac ()) H := nd_p0
    have hDc : va_D A (dw_P a ac ()) := nd_d0
    have hKc : va_K (dC, dI) vwCl (dk_P ac) s := nd_y0 hK
    have hFc : ∀ q, va_A (dw_P a ac ()) H.size q → A q := nd_r0 hS hA
    refine nd_cSi (As := [.int v1, .int 12, .int 8, .int 12]) (rest := [.int ((q4 ||| q7) ||| q10)]) (q := q13) (w' := dw_P a ac s14) ⟨hx, hb, hml, hown, hts⟩ (fun sz => dm_X7_part l hlt dC dI a ac n (v1) (12) (8) (12) () hq sz) (cwS 4 hts gi_dm_X7_placed_0 rfl rfl rfl (by decide +kernel) ⟨Nat.le_of_ble_eq_true rfl, Nat.le_of_ble_eq_true rfl⟩) hPc hDc hKc hS hA hN rfl hl.1 rfl (Nat.le_of_ble_eq_true rfl) dX7_placed_366 (fun H locs hP1 hD1 hk1 hS => ?_)
    have hP := nd_n0 hP hk1
    refine lv_ior hx hb dX7_placed_369 ?_
    exact K _ _ _ _ _ _ dX7_placed_370 rfl (Option.some.inj h).symm hP hD hS
  have h := nd_neg h c3
  by_cases c16 : v0 = 75
  · have h := nd_pos h c16
    refine lv_tableIn (off := 370) (tgt := 371) hx hb dX7_placed_1 (by rw [c16]; decide) (by rw [c16]; decide) (by rw [c16]; decide) (by decide) ?_
    exact (db_X7_placed_371 C K) (v0) (v1) s0 _ _ _ h hP hD hS (lv_sub hl [0, 1] rfl)
  have h := nd_neg h c16
  by_cases c20 : v0 = 76
  · have h := nd_pos h c20
    refine lv_tableIn (off := 370) (tgt := 371) hx hb dX7_placed_1 (by rw [c20]; decide) (by rw [c20]; decide) (by rw [c20]; decide) (by decide) ?_
    exact (db_X7_placed_371 C K) (v0) (v1) s0 _ _ _ h hP hD hS (lv_sub hl [0, 1] rfl)
  have h := nd_neg h c20
  by_cases c21 : v0 = 77
  · have h := nd_pos h c21
    refine lv_tableIn (off := 370) (tgt := 371) hx hb dX7_placed_1 (by rw [c21]; decide) (by rw [c21]; decide) (by rw [c21]; decide) (by decide) ?_
    exact (db_X7_placed_371 C K) (v0) (v1) s0 _ _ _ h hP hD hS (lv_sub hl [0, 1] rfl)
  have h := nd_neg h c21
  by_cases c22 : v0 = 78
  · have h := nd_pos h c22
    refine lv_tableIn (off := 370) (tgt := 371) hx hb dX7_placed_1 (by rw [c22]; decide) (by rw [c22]; decide) (by rw [c22]; decide) (by decide) ?_
    exact (db_X7_placed_371 C K) (v0) (v1) s0 _ _ _ h hP hD hS (lv_sub hl [0, 1] rfl)
  have h := nd_neg h c22
  by_cases c23 : v0 = 79
  · have h := nd_pos h c23
    refine lv_tableIn (off := 370) (tgt := 371) hx hb dX7_placed_1 (by rw [c23]; decide) (by rw [c23]; decide) (by rw [c23]; decide) (by decide) ?_
    exact (db_X7_placed_371 C K) (v0) (v1) s0 _ _ _ h hP hD hS (lv_sub hl [0, 1] rfl)
  have h := nd_neg h c23
  by_cases c24 : v0 = 80
  · have h := nd_pos h c24
    refine lv_tableIn (off := 370) (tgt := 371) hx hb dX7_placed_1 (by rw [c24]; decide) (by rw [c24]; decide) (by rw [c24]; decide) (by decide) ?_
    exact (db_X7_placed_371 C K) (v0) (v1) s0 _ _ _ h hP hD hS (lv_sub hl [0, 1] rfl)
  have h := nd_neg h c24
  by_cases c25 : v0 = 81
  · have h := nd_pos h c25
    refine lv_tableIn (off := 370) (tgt := 371) hx hb dX7_placed_1 (by rw [c25]; decide) (by rw [c25]; decide) (by rw [c25]; decide) (by decide) ?_
    exact (db_X7_placed_371 C K) (v0) (v1) s0 _ _ _ h hP hD hS (lv_sub hl [0, 1] rfl)
  have h := nd_neg h c25
  by_cases c26 : v0 = 82
  · have h := nd_pos h c26
    refine lv_tableIn (off := 370) (tgt := 371) hx hb dX7_placed_1 (by rw [c26]; decide) (by rw [c26]; decide) (by rw [c26]; decide) (by decide) ?_
    exact (db_X7_placed_371 C K) (v0) (v1) s0 _ _ _ h hP hD hS (lv_sub hl [0, 1] rfl)
  have h := nd_neg h c26
  by_cases c27 : v0 = 83
  · have h := nd_pos h c27
    refine lv_tableIn (off := 266) (tgt := 267) hx hb dX7_placed_1 (by rw [c27]; decide) (by rw [c27]; decide) (by rw [c27]; decide) (by decide) ?_
    refine lv_iload_n hx hb dX7_placed_267 rfl (lv_at hl 1 rfl) ?_
    refine lv_iconst (v := 5) hx hb dX7_placed_268 (by decide) ?_
    refine lv_bipush (v := 7) hx hb dX7_placed_269 (by decide) ?_
    refine lv_bipush (v := 25) hx hb dX7_placed_271 (by decide) ?_
    obtain ⟨q28, s29, hq, h⟩ := nd_b2_e h
    have hPc : va_P (dC, dI) vwCl (dw_P a ac ()) H := nd_p0
    have hDc : va_D A (dw_P a ac ()) := nd_d0
    have hKc : va_K (dC, dI) vwCl (dk_P ac) s := nd_y0 hK
    have hFc : ∀ q, va_A (dw_P a ac ()) H.size q → A q := nd_r0 hS hA
    refine nd_cSi (As := [.int v1, .int 5, .int 7, .int 25]) (rest := []) (q := q28) (w' := dw_P a ac s29) ⟨hx, hb, hml, hown, hts⟩ (fun sz => dm_X7_part l hlt dC dI a ac n (v1) (5) (7) (25) () hq sz) (cwS 4 hts gi_dm_X7_placed_0 rfl rfl rfl (by decide +kernel) ⟨Nat.le_of_ble_eq_true rfl, Nat.le_of_ble_eq_true rfl⟩) hPc hDc hKc hS hA hN rfl hl.1 rfl (Nat.le_of_ble_eq_true rfl) dX7_placed_273 (fun H locs hP1 hD1 hk1 hS => ?_)
    have hP := nd_n0 hP hk1
    refine lv_iload_n hx hb dX7_placed_276 rfl (lv_at hl 1 rfl) ?_
    refine lv_iconst (v := 0) hx hb dX7_placed_277 (by decide) ?_
    refine lv_iconst (v := 5) hx hb dX7_placed_278 (by decide) ?_
    refine lv_bipush (v := 7) hx hb dX7_placed_279 (by decide) ?_
    obtain ⟨q31, s32, hq, h⟩ := nd_b2_e h
    have hPc : va_P (dC, dI) vwCl (dw_P a ac ()) H := nd_p0
    have hDc : va_D A (dw_P a ac ()) := nd_d0
    have hKc : va_K (dC, dI) vwCl (dk_P ac) s := nd_y0 hK
    have hFc : ∀ q, va_A (dw_P a ac ()) H.size q → A q := nd_r0 hS hA
    refine nd_cSi (As := [.int v1, .int 0, .int 5, .int 7]) (rest := [.int q28]) (q := q31) (w' := dw_P a ac s32) ⟨hx, hb, hml, hown, hts⟩ (fun sz => dm_X7_part l hlt dC dI a ac n (v1) (0) (5) (7) () hq sz) (cwS 4 hts gi_dm_X7_placed_0 rfl rfl rfl (by decide +kernel) ⟨Nat.le_of_ble_eq_true rfl, Nat.le_of_ble_eq_true rfl⟩) hPc hDc hKc hS hA hN rfl hl.1 rfl (Nat.le_of_ble_eq_true rfl) dX7_placed_281 (fun H locs hP1 hD1 hk1 hS => ?_)
    have hP := nd_n0 hP hk1
    refine lv_ior hx hb dX7_placed_284 ?_
    exact K _ _ _ _ _ _ dX7_placed_285 rfl (Option.some.inj h).symm hP hD hS
  have h := nd_neg h c27
  by_cases c34 : v0 = 84
  · have h := nd_pos h c34
    refine lv_tableIn (off := 290) (tgt := 291) hx hb dX7_placed_1 (by rw [c34]; decide) (by rw [c34]; decide) (by rw [c34]; decide) (by decide) ?_
    refine lv_iload_n hx hb dX7_placed_291 rfl (lv_at hl 1 rfl) ?_
    refine lv_bipush (v := 12) hx hb dX7_placed_292 (by decide) ?_
    refine lv_iconst (v := 1) hx hb dX7_placed_294 (by decide) ?_
    refine lv_bipush (v := 31) hx hb dX7_placed_295 (by decide) ?_
    obtain ⟨q35, s36, hq, h⟩ := nd_b2_e h
    have hPc : va_P (dC, dI) vwCl (dw_P a ac ()) H := nd_p0
    have hDc : va_D A (dw_P a ac ()) := nd_d0
    have hKc : va_K (dC, dI) vwCl (dk_P ac) s := nd_y0 hK
    have hFc : ∀ q, va_A (dw_P a ac ()) H.size q → A q := nd_r0 hS hA
    refine nd_cSi (As := [.int v1, .int 12, .int 1, .int 31]) (rest := []) (q := q35) (w' := dw_P a ac s36) ⟨hx, hb, hml, hown, hts⟩ (fun sz => dm_X7_part l hlt dC dI a ac n (v1) (12) (1) (31) () hq sz) (cwS 4 hts gi_dm_X7_placed_0 rfl rfl rfl (by decide +kernel) ⟨Nat.le_of_ble_eq_true rfl, Nat.le_of_ble_eq_true rfl⟩) hPc hDc hKc hS hA hN rfl hl.1 rfl (Nat.le_of_ble_eq_true rfl) dX7_placed_297 (fun H locs hP1 hD1 hk1 hS => ?_)
    have hP := nd_n0 hP hk1
    refine lv_iload_n hx hb dX7_placed_300 rfl (lv_at hl 1 rfl) ?_
    refine lv_iconst (v := 5) hx hb dX7_placed_301 (by decide) ?_
    refine lv_bipush (v := 6) hx hb dX7_placed_302 (by decide) ?_
    refine lv_bipush (v := 25) hx hb dX7_placed_304 (by decide) ?_
    obtain ⟨q38, s39, hq, h⟩ := nd_b2_e h
    have hPc : va_P (dC, dI) vwCl (dw_P a ac ()) H := nd_p0
    have hDc : va_D A (dw_P a ac ()) := nd_d0
    have hKc : va_K (dC, dI) vwCl (dk_P ac) s := nd_y0 hK
    have hFc : ∀ q, va_A (dw_P a ac ()) H.size q → A q := nd_r0 hS hA
    refine nd_cSi (As := [.int v1, .int 5, .int 6, .int 25]) (rest := [.int q35]) (q := q38) (w' := dw_P a ac s39) ⟨hx, hb, hml, hown, hts⟩ (fun sz => dm_X7_part l hlt dC dI a ac n (v1) (5) (6) (25) () hq sz) (cwS 4 hts gi_dm_X7_placed_0 rfl rfl rfl (by decide +kernel) ⟨Nat.le_of_ble_eq_true rfl, Nat.le_of_ble_eq_true rfl⟩) hPc hDc hKc hS hA hN rfl hl.1 rfl (Nat.le_of_ble_eq_true rfl) dX7_placed_306 (fun H locs hP1 hD1 hk1 hS => ?_)
    have hP := nd_n0 hP hk1
    refine lv_ior hx hb dX7_placed_309 ?_
    refine lv_iload_n hx hb dX7_placed_310 rfl (lv_at hl 1 rfl) ?_
    refine lv_iconst (v := 1) hx hb dX7_placed_311 (by decide) ?_
    refine lv_iconst (v := 4) hx hb dX7_placed_312 (by decide) ?_
    refine lv_bipush (v := 8) hx hb dX7_placed_313 (by decide) ?_
    obtain ⟨q41, s42, hq, h⟩ := nd_b2_e h
    have hPc : va_P (dC, dI) vwCl (dw_P a ac ()) H := nd_p0
    have hDc : va_D A (dw_P a ac ()) := nd_d0
    have hKc : va_K (dC, dI) vwCl (dk_P ac) s := nd_y0 hK
    have hFc : ∀ q, va_A (dw_P a ac ()) H.size q → A q := nd_r0 hS hA
    refine nd_cSi (As := [.int v1, .int 1, .int 4, .int 8]) (rest := [.int (q35 ||| q38)]) (q := q41) (w' := dw_P a ac s42) ⟨hx, hb, hml, hown, hts⟩ (fun sz => dm_X7_part l hlt dC dI a ac n (v1) (1) (4) (8) () hq sz) (cwS 4 hts gi_dm_X7_placed_0 rfl rfl rfl (by decide +kernel) ⟨Nat.le_of_ble_eq_true rfl, Nat.le_of_ble_eq_true rfl⟩) hPc hDc hKc hS hA hN rfl hl.1 rfl (Nat.le_of_ble_eq_true rfl) dX7_placed_315 (fun H locs hP1 hD1 hk1 hS => ?_)
    have hP := nd_n0 hP hk1
    refine lv_ior hx hb dX7_placed_318 ?_
    refine lv_iload_n hx hb dX7_placed_319 rfl (lv_at hl 1 rfl) ?_
    refine lv_bipush (v := 11) hx hb dX7_placed_320 (by decide) ?_
    refine lv_iconst (v := 1) hx hb dX7_placed_322 (by decide) ?_
    refine lv_bipush (v := 7) hx hb dX7_placed_323 (by decide) ?_
    obtain ⟨q44, s45, hq, h⟩ := nd_b2_e h
    have hPc : va_P (dC, dI) vwCl (dw_P a ac ()) H := nd_p0
    have hDc : va_D A (dw_P a ac ()) := nd_d0
    have hKc : va_K (dC, dI) vwCl (dk_P ac) s := nd_y0 hK
    have hFc : ∀ q, va_A (dw_P a ac ()) H.size q → A q := nd_r0 hS hA
    refine nd_cSi (As := [.int v1, .int 11, .int 1, .int 7]) (rest := [.int ((q35 ||| q38) ||| q41)]) (q := q44) (w' := dw_P a ac s45) ⟨hx, hb, hml, hown, hts⟩ (fun sz => dm_X7_part l hlt dC dI a ac n (v1) (11) (1) (7) () hq sz) (cwS 4 hts gi_dm_X7_placed_0 rfl rfl rfl (by decide +kernel) ⟨Nat.le_of_ble_eq_true rfl, Nat.le_of_ble_eq_true rfl⟩) hPc hDc hKc hS hA hN rfl hl.1 rfl (Nat.le_of_ble_eq_true rfl) dX7_placed_325 (fun H locs hP1 hD1 hk1 hS => ?_)
    have hP := nd_n0 hP hk1
    refine lv_ior hx hb dX7_placed_328 ?_
    exact K _ _ _ _ _ _ dX7_placed_329 rfl (Option.some.inj h).symm hP hD hS
  have h := nd_neg h c34
  by_cases c47 : v0 = 85
  · have h := nd_pos h c47
    refine lv_tableIn (off := 285) (tgt := 286) hx hb dX7_placed_1 (by rw [c47]; decide) (by rw [c47]; decide) (by rw [c47]; decide) (by decide) ?_
    refine lv_iload_n hx hb dX7_placed_286 rfl (lv_at hl 1 rfl) ?_
    refine lv_bipush (v := 12) hx hb dX7_placed_287 (by decide) ?_
    refine lv_ishl hx hb dX7_placed_289 ?_
    exact K _ _ _ _ _ _ dX7_placed_290 rfl (Option.some.inj h).symm hP hD hS
  have h := nd_neg h c47
  by_cases c48 : v0 = 86
  · have h := nd_pos h c48
    refine lv_tableIn (off := 370) (tgt := 371) hx hb dX7_placed_1 (by rw [c48]; decide) (by rw [c48]; decide) (by rw [c48]; decide) (by decide) ?_
    exact (db_X7_placed_371 C K) (v0) (v1) s0 _ _ _ h hP hD hS (lv_sub hl [0, 1] rfl)
  have h := nd_neg h c48
  by_cases c49 : v0 = 87
  · have h := nd_pos h c49
    refine lv_tableIn (off := 370) (tgt := 371) hx hb dX7_placed_1 (by rw [c49]; decide) (by rw [c49]; decide) (by rw [c49]; decide) (by decide) ?_
    exact (db_X7_placed_371 C K) (v0) (v1) s0 _ _ _ h hP hD hS (lv_sub hl [0, 1] rfl)
  have h := nd_neg h c49
  by_cases c50 : v0 = 88
  · have h := nd_pos h c50
    refine lv_tableIn (off := 370) (tgt := 371) hx hb dX7_placed_1 (by rw [c50]; decide) (by rw [c50]; decide) (by rw [c50]; decide) (by decide) ?_
    exact (db_X7_placed_371 C K) (v0) (v1) s0 _ _ _ h hP hD hS (lv_sub hl [0, 1] rfl)
  have h := nd_neg h c50
  by_cases c51 : v0 = 89
  · have h := nd_pos h c51
    refine lv_tableIn (off := 370) (tgt := 371) hx hb dX7_placed_1 (by rw [c51]; decide) (by rw [c51]; decide) (by rw [c51]; decide) (by decide) ?_
    exact (db_X7_placed_371 C K) (v0) (v1) s0 _ _ _ h hP hD hS (lv_sub hl [0, 1] rfl)
  have h := nd_neg h c51
  by_cases c52 : v0 = 90
  · have h := nd_pos h c52
    refine lv_tableIn (off := 370) (tgt := 371) hx hb dX7_placed_1 (by rw [c52]; decide) (by rw [c52]; decide) (by rw [c52]; decide) (by decide) ?_
    exact (db_X7_placed_371 C K) (v0) (v1) s0 _ _ _ h hP hD hS (lv_sub hl [0, 1] rfl)
  have h := nd_neg h c52
  by_cases c53 : v0 = 91
  · have h := nd_pos h c53
    refine lv_tableIn (off := 370) (tgt := 371) hx hb dX7_placed_1 (by rw [c53]; decide) (by rw [c53]; decide) (by rw [c53]; decide) (by decide) ?_
    exact (db_X7_placed_371 C K) (v0) (v1) s0 _ _ _ h hP hD hS (lv_sub hl [0, 1] rfl)
  have h := nd_neg h c53
  by_cases c54 : v0 = 92
  · have h := nd_pos h c54
    refine lv_tableIn (off := 370) (tgt := 371) hx hb dX7_placed_1 (by rw [c54]; decide) (by rw [c54]; decide) (by rw [c54]; decide) (by decide) ?_
    exact (db_X7_placed_371 C K) (v0) (v1) s0 _ _ _ h hP hD hS (lv_sub hl [0, 1] rfl)
  have h := nd_neg h c54
  by_cases c55 : v0 = 93
  · have h := nd_pos h c55
    refine lv_tableIn (off := 370) (tgt := 371) hx hb dX7_placed_1 (by rw [c55]; decide) (by rw [c55]; decide) (by rw [c55]; decide) (by decide) ?_
    exact (db_X7_placed_371 C K) (v0) (v1) s0 _ _ _ h hP hD hS (lv_sub hl [0, 1] rfl)
  have h := nd_neg h c55
  by_cases c56 : v0 = 94
  · have h := nd_pos h c56
    refine lv_tableIn (off := 370) (tgt := 371) hx hb dX7_placed_1 (by rw [c56]; decide) (by rw [c56]; decide) (by rw [c56]; decide) (by decide) ?_
    exact (db_X7_placed_371 C K) (v0) (v1) s0 _ _ _ h hP hD hS (lv_sub hl [0, 1] rfl)
  have h := nd_neg h c56
  by_cases c57 : v0 = 95
  · have h := nd_pos h c57
    refine lv_tableIn (off := 370) (tgt := 371) hx hb dX7_placed_1 (by rw [c57]; decide) (by rw [c57]; decide) (by rw [c57]; decide) (by decide) ?_
    exact (db_X7_placed_371 C K) (v0) (v1) s0 _ _ _ h hP hD hS (lv_sub hl [0, 1] rfl)
  have h := nd_neg h c57
  by_cases c58 : v0 = 96
  · have h := nd_pos h c58
    refine lv_tableIn (off := 370) (tgt := 371) hx hb dX7_placed_1 (by rw [c58]; decide) (by rw [c58]; decide) (by rw [c58]; decide) (by decide) ?_
    exact (db_X7_placed_371 C K) (v0) (v1) s0 _ _ _ h hP hD hS (lv_sub hl [0, 1] rfl)
  have h := nd_neg h c58
  by_cases c59 : v0 = 97
  · have h := nd_pos h c59
    refine lv_tableIn (off := 224) (tgt := 225) hx hb dX7_placed_1 (by rw [c59]; decide) (by rw [c59]; decide) (by rw [c59]; decide) (by decide) ?_
    refine lv_iload_n hx hb dX7_placed_225 rfl (lv_at hl 1 rfl) ?_
    refine lv_bipush (v := 15) hx hb dX7_placed_226 (by decide) ?_
    refine lv_ishl hx hb dX7_placed_228 ?_
    exact K _ _ _ _ _ _ dX7_placed_229 rfl (Option.some.inj h).symm hP hD hS
  have h := nd_neg h c59
  by_cases c60 : v0 = 98
  · have h := nd_pos h c60
    refine lv_tableIn (off := 229) (tgt := 230) hx hb dX7_placed_1 (by rw [c60]; decide) (by rw [c60]; decide) (by rw [c60]; decide) (by decide) ?_
    refine lv_iload_n hx hb dX7_placed_230 rfl (lv_at hl 1 rfl) ?_
    refine lv_bipush (v := 20) hx hb dX7_placed_231 (by decide) ?_
    refine lv_ishl hx hb dX7_placed_233 ?_
    exact K _ _ _ _ _ _ dX7_placed_234 rfl (Option.some.inj h).symm hP hD hS
  have h := nd_neg h c60
  by_cases c61 : v0 = 99
  · have h := nd_pos h c61
    refine lv_tableIn (off := 370) (tgt := 371) hx hb dX7_placed_1 (by rw [c61]; decide) (by rw [c61]; decide) (by rw [c61]; decide) (by decide) ?_
    exact (db_X7_placed_371 C K) (v0) (v1) s0 _ _ _ h hP hD hS (lv_sub hl [0, 1] rfl)
  have h := nd_neg h c61
  by_cases c62 : v0 = 100
  · have h := nd_pos h c62
    refine lv_tableIn (off := 219) (tgt := 220) hx hb dX7_placed_1 (by rw [c62]; decide) (by rw [c62]; decide) (by rw [c62]; decide) (by decide) ?_
    exact (db_X7_placed_220 C K) (v1) s0 _ _ _ h hP hD hS (lv_sub hl [1] rfl)
  have h := nd_neg h c62
  by_cases c63 : v0 = 101
  · have h := nd_pos h c63
    refine lv_tableIn (off := 370) (tgt := 371) hx hb dX7_placed_1 (by rw [c63]; decide) (by rw [c63]; decide) (by rw [c63]; decide) (by decide) ?_
    exact (db_X7_placed_371 C K) (v0) (v1) s0 _ _ _ h hP hD hS (lv_sub hl [0, 1] rfl)
  have h := nd_neg h c63
  by_cases c64 : v0 = 102
  · have h := nd_pos h c64
    refine lv_tableIn (off := 370) (tgt := 371) hx hb dX7_placed_1 (by rw [c64]; decide) (by rw [c64]; decide) (by rw [c64]; decide) (by decide) ?_
    exact (db_X7_placed_371 C K) (v0) (v1) s0 _ _ _ h hP hD hS (lv_sub hl [0, 1] rfl)
  have h := nd_neg h c64
  by_cases c65 : v0 = 103
  · have h := nd_pos h c65
    refine lv_tableIn (off := 370) (tgt := 371) hx hb dX7_placed_1 (by rw [c65]; decide) (by rw [c65]; decide) (by rw [c65]; decide) (by decide) ?_
    exact (db_X7_placed_371 C K) (v0) (v1) s0 _ _ _ h hP hD hS (lv_sub hl [0, 1] rfl)
  have h := nd_neg h c65
  by_cases c66 : v0 = 104
  · have h := nd_pos h c66
    refine lv_tableIn (off := 370) (tgt := 371) hx hb dX7_placed_1 (by rw [c66]; decide) (by rw [c66]; decide) (by rw [c66]; decide) (by decide) ?_
    exact (db_X7_placed_371 C K) (v0) (v1) s0 _ _ _ h hP hD hS (lv_sub hl [0, 1] rfl)
  have h := nd_neg h c66
  by_cases c67 : v0 = 105
  · have h := nd_pos h c67
    refine lv_tableIn (off := 370) (tgt := 371) hx hb dX7_placed_1 (by rw [c67]; decide) (by rw [c67]; decide) (by rw [c67]; decide) (by decide) ?_
    exact (db_X7_placed_371 C K) (v0) (v1) s0 _ _ _ h hP hD hS (lv_sub hl [0, 1] rfl)
  have h := nd_neg h c67
  by_cases c68 : v0 = 106
  · have h := nd_pos h c68
    refine lv_tableIn (off := 370) (tgt := 371) hx hb dX7_placed_1 (by rw [c68]; decide) (by rw [c68]; decide) (by rw [c68]; decide) (by decide) ?_
    exact (db_X7_placed_371 C K) (v0) (v1) s0 _ _ _ h hP hD hS (lv_sub hl [0, 1] rfl)
  have h := nd_neg h c68
  by_cases c69 : v0 = 107
  · have h := nd_pos h c69
    refine lv_tableIn (off := 370) (tgt := 371) hx hb dX7_placed_1 (by rw [c69]; decide) (by rw [c69]; decide) (by rw [c69]; decide) (by decide) ?_
    exact (db_X7_placed_371 C K) (v0) (v1) s0 _ _ _ h hP hD hS (lv_sub hl [0, 1] rfl)
  have h := nd_neg h c69
  by_cases c70 : v0 = 108
  · have h := nd_pos h c70
    refine lv_tableIn (off := 370) (tgt := 371) hx hb dX7_placed_1 (by rw [c70]; decide) (by rw [c70]; decide) (by rw [c70]; decide) (by decide) ?_
    exact (db_X7_placed_371 C K) (v0) (v1) s0 _ _ _ h hP hD hS (lv_sub hl [0, 1] rfl)
  have h := nd_neg h c70
  by_cases c71 : v0 = 109
  · have h := nd_pos h c71
    refine lv_tableIn (off := 219) (tgt := 220) hx hb dX7_placed_1 (by rw [c71]; decide) (by rw [c71]; decide) (by rw [c71]; decide) (by decide) ?_
    exact (db_X7_placed_220 C K) (v1) s0 _ _ _ h hP hD hS (lv_sub hl [1] rfl)
  have h := nd_neg h c71
  by_cases c72 : v0 = 110
  · have h := nd_pos h c72
    refine lv_tableIn (off := 219) (tgt := 220) hx hb dX7_placed_1 (by rw [c72]; decide) (by rw [c72]; decide) (by rw [c72]; decide) (by decide) ?_
    exact (db_X7_placed_220 C K) (v1) s0 _ _ _ h hP hD hS (lv_sub hl [1] rfl)
  have h := nd_neg h c72
  by_cases c73 : v0 = 111
  · have h := nd_pos h c73
    refine lv_tableIn (off := 370) (tgt := 371) hx hb dX7_placed_1 (by rw [c73]; decide) (by rw [c73]; decide) (by rw [c73]; decide) (by decide) ?_
    exact (db_X7_placed_371 C K) (v0) (v1) s0 _ _ _ h hP hD hS (lv_sub hl [0, 1] rfl)
  have h := nd_neg h c73
  by_cases c74 : v0 = 112
  · have h := nd_pos h c74
    refine lv_tableIn (off := 238) (tgt := 239) hx hb dX7_placed_1 (by rw [c74]; decide) (by rw [c74]; decide) (by rw [c74]; decide) (by decide) ?_
    refine lv_iload_n hx hb dX7_placed_239 rfl (lv_at hl 1 rfl) ?_
    refine lv_bipush (v := 7) hx hb dX7_placed_240 (by decide) ?_
    refine lv_iand hx hb dX7_placed_242 ?_
    refine lv_iconst (v := 2) hx hb dX7_placed_243 (by decide) ?_
    refine lv_ishl hx hb dX7_placed_244 ?_
    exact K _ _ _ _ _ _ dX7_placed_245 rfl (Option.some.inj h).symm hP hD hS
  have h := nd_neg h c74
  by_cases c75 : v0 = 113
  · have h := nd_pos h c75
    refine lv_tableIn (off := 245) (tgt := 246) hx hb dX7_placed_1 (by rw [c75]; decide) (by rw [c75]; decide) (by rw [c75]; decide) (by decide) ?_
    refine lv_iload_n hx hb dX7_placed_246 rfl (lv_at hl 1 rfl) ?_
    refine lv_bipush (v := 7) hx hb dX7_placed_247 (by decide) ?_
    refine lv_iand hx hb dX7_placed_249 ?_
    refine lv_bipush (v := 7) hx hb dX7_placed_250 (by decide) ?_
    refine lv_ishl hx hb dX7_placed_252 ?_
    exact K _ _ _ _ _ _ dX7_placed_253 rfl (Option.some.inj h).symm hP hD hS
  have h := nd_neg h c75
  by_cases c76 : v0 = 114
  · have h := nd_pos h c76
    refine lv_tableIn (off := 370) (tgt := 371) hx hb dX7_placed_1 (by rw [c76]; decide) (by rw [c76]; decide) (by rw [c76]; decide) (by decide) ?_
    exact (db_X7_placed_371 C K) (v0) (v1) s0 _ _ _ h hP hD hS (lv_sub hl [0, 1] rfl)
  have h := nd_neg h c76
  by_cases c77 : v0 = 115
  · have h := nd_pos h c77
    refine lv_tableIn (off := 234) (tgt := 235) hx hb dX7_placed_1 (by rw [c77]; decide) (by rw [c77]; decide) (by rw [c77]; decide) (by decide) ?_
    exact (db_X7_placed_235 C K) (v1) s0 _ _ _ h hP hD hS (lv_sub hl [1] rfl)
  have h := nd_neg h c77
  by_cases c78 : v0 = 116
  · have h := nd_pos h c78
    refine lv_tableIn (off := 370) (tgt := 371) hx hb dX7_placed_1 (by rw [c78]; decide) (by rw [c78]; decide) (by rw [c78]; decide) (by decide) ?_
    exact (db_X7_placed_371 C K) (v0) (v1) s0 _ _ _ h hP hD hS (lv_sub hl [0, 1] rfl)
  have h := nd_neg h c78
  by_cases c79 : v0 = 117
  · have h := nd_pos h c79
    refine lv_tableIn (off := 370) (tgt := 371) hx hb dX7_placed_1 (by rw [c79]; decide) (by rw [c79]; decide) (by rw [c79]; decide) (by decide) ?_
    exact (db_X7_placed_371 C K) (v0) (v1) s0 _ _ _ h hP hD hS (lv_sub hl [0, 1] rfl)
  have h := nd_neg h c79
  by_cases c80 : v0 = 118
  · have h := nd_pos h c80
    refine lv_tableIn (off := 370) (tgt := 371) hx hb dX7_placed_1 (by rw [c80]; decide) (by rw [c80]; decide) (by rw [c80]; decide) (by decide) ?_
    exact (db_X7_placed_371 C K) (v0) (v1) s0 _ _ _ h hP hD hS (lv_sub hl [0, 1] rfl)
  have h := nd_neg h c80
  by_cases c81 : v0 = 119
  · have h := nd_pos h c81
    refine lv_tableIn (off := 370) (tgt := 371) hx hb dX7_placed_1 (by rw [c81]; decide) (by rw [c81]; decide) (by rw [c81]; decide) (by decide) ?_
    exact (db_X7_placed_371 C K) (v0) (v1) s0 _ _ _ h hP hD hS (lv_sub hl [0, 1] rfl)
  have h := nd_neg h c81
  by_cases c82 : v0 = 120
  · have h := nd_pos h c82
    refine lv_tableIn (off := 370) (tgt := 371) hx hb dX7_placed_1 (by rw [c82]; decide) (by rw [c82]; decide) (by rw [c82]; decide) (by decide) ?_
    exact (db_X7_placed_371 C K) (v0) (v1) s0 _ _ _ h hP hD hS (lv_sub hl [0, 1] rfl)
  have h := nd_neg h c82
  by_cases c83 : v0 = 121
  · have h := nd_pos h c83
    refine lv_tableIn (off := 370) (tgt := 371) hx hb dX7_placed_1 (by rw [c83]; decide) (by rw [c83]; decide) (by rw [c83]; decide) (by decide) ?_
    exact (db_X7_placed_371 C K) (v0) (v1) s0 _ _ _ h hP hD hS (lv_sub hl [0, 1] rfl)
  have h := nd_neg h c83
  by_cases c84 : v0 = 122
  · have h := nd_pos h c84
    refine lv_tableIn (off := 234) (tgt := 235) hx hb dX7_placed_1 (by rw [c84]; decide) (by rw [c84]; decide) (by rw [c84]; decide) (by decide) ?_
    exact (db_X7_placed_235 C K) (v1) s0 _ _ _ h hP hD hS (lv_sub hl [1] rfl)
  have h := nd_neg h c84
  refine lv_tableOut (tgt := 371) hx hb dX7_placed_1 (by have g0 := nv_nei c1 (k := 72) (by decide); have g1 := nv_nei c2 (k := 73) (by decide); have g2 := nv_nei c3 (k := 74) (by decide); have g3 := nv_nei c16 (k := 75) (by decide); have g4 := nv_nei c20 (k := 76) (by decide); have g5 := nv_nei c21 (k := 77) (by decide); have g6 := nv_nei c22 (k := 78) (by decide); have g7 := nv_nei c23 (k := 79) (by decide); have g8 := nv_nei c24 (k := 80) (by decide); have g9 := nv_nei c25 (k := 81) (by decide); have g10 := nv_nei c26 (k := 82) (by decide); have g11 := nv_nei c27 (k := 83) (by decide); have g12 := nv_nei c34 (k := 84) (by decide); have g13 := nv_nei c47 (k := 85) (by decide); have g14 := nv_nei c48 (k := 86) (by decide); have g15 := nv_nei c49 (k := 87) (by decide); have g16 := nv_nei c50 (k := 88) (by decide); have g17 := nv_nei c51 (k := 89) (by decide); have g18 := nv_nei c52 (k := 90) (by decide); have g19 := nv_nei c53 (k := 91) (by decide); have g20 := nv_nei c54 (k := 92) (by decide); have g21 := nv_nei c55 (k := 93) (by decide); have g22 := nv_nei c56 (k := 94) (by decide); have g23 := nv_nei c57 (k := 95) (by decide); have g24 := nv_nei c58 (k := 96) (by decide); have g25 := nv_nei c59 (k := 97) (by decide); have g26 := nv_nei c60 (k := 98) (by decide); have g27 := nv_nei c61 (k := 99) (by decide); have g28 := nv_nei c62 (k := 100) (by decide); have g29 := nv_nei c63 (k := 101) (by decide); have g30 := nv_nei c64 (k := 102) (by decide); have g31 := nv_nei c65 (k := 103) (by decide); have g32 := nv_nei c66 (k := 104) (by decide); have g33 := nv_nei c67 (k := 105) (by decide); have g34 := nv_nei c68 (k := 106) (by decide); have g35 := nv_nei c69 (k := 107) (by decide); have g36 := nv_nei c70 (k := 108) (by decide); have g37 := nv_nei c71 (k := 109) (by decide); have g38 := nv_nei c72 (k := 110) (by decide); have g39 := nv_nei c73 (k := 111) (by decide); have g40 := nv_nei c74 (k := 112) (by decide); have g41 := nv_nei c75 (k := 113) (by decide); have g42 := nv_nei c76 (k := 114) (by decide); have g43 := nv_nei c77 (k := 115) (by decide); have g44 := nv_nei c78 (k := 116) (by decide); have g45 := nv_nei c79 (k := 117) (by decide); have g46 := nv_nei c80 (k := 118) (by decide); have g47 := nv_nei c81 (k := 119) (by decide); have g48 := nv_nei c82 (k := 120) (by decide); have g49 := nv_nei c83 (k := 121) (by decide); have g50 := nv_nei c84 (k := 122) (by decide); omega) (by decide) ?_
  exact (db_X7_placed_371 C K) (v0) (v1) s0 _ _ _ h hP hD hS (lv_sub hl [0, 1] rfl)
set_option maxHeartbeats 40000000 in
set_option maxRecDepth 100000 in
theorem dm_X7_placed (l : Launch) (hlt : l.stackTraces = false) (dC : Nat → ClassId) (dI : Nat → Nat → Nat) (a : Nat → Nat) (ac : Nat → ClassId) (n : Nat) (v0 : Int32) (v1 : Int32) (s0 : Unit) {r : Int32 × (Unit)} (h : df_X7_placed n v0 v1 s0 = some r) (sz : Nat) : Met l yX7_placed ow_dm_X7_placed ({ frames := 2, cells := 0, slots := 0, locals := 44 }) (va_Pc [.int v0, .int v1] (fun U => U.heap.size = sz ∧ va_P (dC, dI) vwCl (dw_P a ac s0) U.heap ∧ va_K (dC, dI) vwCl (dk_P ac) U ∧ va_D (fun _ => True) (dw_P a ac s0) ∧ nv_E dI (va_A (dw_P a ac s0) sz) U)) (va_Qi (fun x _ => x = r.1) (fun (_ : Unit) t => va_P (dC, dI) vwCl (dw_P a ac r.2) t.heap ∧ va_K (dC, dI) vwCl (dk_P ac) t ∧ va_D (va_A (dw_P a ac s0) sz) (dw_P a ac r.2)) (va_A (dw_P a ac s0) sz)) 0 0 (va_A (dw_P a ac s0) sz) := by
  refine Met.ofW (cc := cX7_placed) (maxL := 2) (ret := (some .int)) (by decide) rfl ?_
  intro p e s m args below meth c s₁ B hml hv
  obtain ⟨rfl, hsz, hP, hK, hD0, hN⟩ := hv
  have hx := B.exec
  have hb := B.bytes
  have hr := B.returns
  have hts := atoms_spec (ws := ow_dm_X7_placed) B.pre
  have hown : s.vm.findClass RX7 = some m.cls := findClass_of_methodNamed B.named
  have hlocks := B.notSynchronized
  subst hsz
  have hD := hD0.self (sz := s.heap.size)
  generalize hAe : va_A (dw_P a ac s0) s.heap.size = A at hD hN ⊢
  have hA : ∀ q : Nat, s.heap.size ≤ q → A q := fun q h => by rw [← hAe]; exact Or.inr h
  have hl := lv_entry ([.int v0, .int v1]) (n := 2) (Nat.le_of_ble_eq_true rfl)
  rw [lg_entry_eq]
  generalize (lg_sl ([.int v0, .int v1]) ++ List.replicate (2 - (lg_sl ([.int v0, .int v1])).length) Slot.unset).toArray = ls at hl ⊢
  have hl : lv_has ls 2 [(0, .int v0), (1, .int v1)] := hl
  exact db_X7_placed_0 (dC := dC) (dI := dI) (a := a) (ac := ac) (n := n) (r := r) ⟨hlt, hx, hb, hml, hown, hts, hN, hA, hK⟩ (fun pc v τ H locs ls d z er hP hD hS => by subst er; exact W.zret (v := v) hx hb hr z (fun t ht hW => ⟨⟨v, (), rfl, rfl, by rw [ht]; exact hP, va_K.moved hW.alike hK, hD⟩, hS.F ht⟩) hS.2.2 d) v0 v1 s0 _ _ _ h hP hD va_S.rf (lv_sub hl [0, 1] rfl)
def ow_dm_X7_gathered : List Cond := Cond.code yX7_gathered cX7_gathered 6 (some .int) :: ([Cond.methodLink RX7 480 yX7_fits, Cond.static yX7_fits, Cond.initialized RX7, Cond.methodLink RX7 477 yX7_placed, Cond.static yX7_placed] ++ (ow_dm_X7_fits ++ (ow_dm_X7_placed ++ [])))
theorem gd_dm_X7_gathered : ∀ w ∈ ow_dm_X7_gathered, (w.onTables && w.keeps) = true ∨ ∃ ty, w = Cond.arrayClass ty := List.forall_mem_cons.mpr ⟨good_of_word rfl, List.forall_mem_append.mpr ⟨fun w h => good_of_word (List.all_eq_true.mp (by decide +kernel) w h), List.forall_mem_append.mpr ⟨gd_dm_X7_fits, List.forall_mem_append.mpr ⟨gd_dm_X7_placed, fun _ h => nomatch h⟩⟩⟩⟩
theorem gi_dm_X7_gathered_0 : GoodIn ow_dm_X7_gathered (wsS RX7 480 yX7_fits ow_dm_X7_fits) := goodIn_app (goodIn_of _ (by decide +kernel)) (fun w h => ⟨List.mem_cons_of_mem _ (List.mem_append_right _ (List.mem_append_left _ h)), gd_dm_X7_fits w h⟩)
theorem gi_dm_X7_gathered_1 : GoodIn ow_dm_X7_gathered (wsS RX7 477 yX7_placed ow_dm_X7_placed) := goodIn_app (goodIn_of _ (by decide +kernel)) (fun w h => ⟨List.mem_cons_of_mem _ (List.mem_append_right _ (List.mem_append_right _ (List.mem_append_left _ h))), gd_dm_X7_placed w h⟩)
def dj_X7_gathered_86 (p : Program) (l : Launch) (e : Env) (s : State) (m : MethodId) (args : Array Value) (below : List Frame) (meth : Method) (c : Code) (Q : State → Prop) (A : Nat → Prop) (dC : Nat → ClassId) (dI : Nat → Nat → Nat) (a : Nat → Nat) (ac : Nat → ClassId) (g : Int32 → (Unit) → Option (Int32 × (Unit))) (r : Int32 × (Unit)) : Prop := ∀ (y0 : Int32) (s0 : Unit) (H : Heap) (locs : List Loc) (ls : Array Slot), g y0 s0 = some r → va_P (dC, dI) vwCl (dw_P a ac s0) H → va_D A (dw_P a ac s0) → va_S A s.heap H locs → lv_has ls 6 [] → W p l e (headSpec ow_dm_X7_gathered ({ frames := 3, cells := 0, slots := 0, locals := 65 })).room s m args below meth c H locs 0 0 Q (F0 m 86 ls [.int y0])
def dj_X7_gathered_85 (p : Program) (l : Launch) (e : Env) (s : State) (m : MethodId) (args : Array Value) (below : List Frame) (meth : Method) (c : Code) (Q : State → Prop) (A : Nat → Prop) (dC : Nat → ClassId) (dI : Nat → Nat → Nat) (a : Nat → Nat) (ac : Nat → ClassId) (g : Int32 → (Unit) → Option (Int32 × (Unit))) (r : Int32 × (Unit)) : Prop := ∀ (x2 : Int32) (s0 : Unit) (H : Heap) (locs : List Loc) (ls : Array Slot), g x2 s0 = some r → va_P (dC, dI) vwCl (dw_P a ac s0) H → va_D A (dw_P a ac s0) → va_S A s.heap H locs → lv_has ls 6 [(2, .int x2)] → W p l e (headSpec ow_dm_X7_gathered ({ frames := 3, cells := 0, slots := 0, locals := 65 })).room s m args below meth c H locs 0 0 Q (F0 m 85 ls [])
def dj_X7_gathered_50 (p : Program) (l : Launch) (e : Env) (s : State) (m : MethodId) (args : Array Value) (below : List Frame) (meth : Method) (c : Code) (Q : State → Prop) (A : Nat → Prop) (dC : Nat → ClassId) (dI : Nat → Nat → Nat) (a : Nat → Nat) (ac : Nat → ClassId) (g : Int32 → Int32 → Int32 → Int32 → Int32 → (Unit) → Option (Int32 × (Unit))) (r : Int32 × (Unit)) : Prop := ∀ (x0 : Int32) (x1 : Int32) (x2 : Int32) (x3 : Int32) (x4 : Int32) (s0 : Unit) (H : Heap) (locs : List Loc) (ls : Array Slot), g x0 x1 x2 x3 x4 s0 = some r → va_P (dC, dI) vwCl (dw_P a ac s0) H → va_D A (dw_P a ac s0) → va_S A s.heap H locs → lv_has ls 6 [(0, .int x0), (1, .int x1), (2, .int x2), (3, .int x3), (4, .int x4)] → W p l e (headSpec ow_dm_X7_gathered ({ frames := 3, cells := 0, slots := 0, locals := 65 })).room s m args below meth c H locs 0 0 Q (F0 m 50 ls [])
def dj_X7_gathered_48 (p : Program) (l : Launch) (e : Env) (s : State) (m : MethodId) (args : Array Value) (below : List Frame) (meth : Method) (c : Code) (Q : State → Prop) (A : Nat → Prop) (dC : Nat → ClassId) (dI : Nat → Nat → Nat) (a : Nat → Nat) (ac : Nat → ClassId) (g : Int32 → Int32 → Int32 → Int32 → Int32 → Int32 → (Unit) → Option (Int32 × (Unit))) (r : Int32 × (Unit)) : Prop := ∀ (x0 : Int32) (x1 : Int32) (x3 : Int32) (x4 : Int32) (y0 : Int32) (y1 : Int32) (s0 : Unit) (H : Heap) (locs : List Loc) (ls : Array Slot), g x0 x1 x3 x4 y0 y1 s0 = some r → va_P (dC, dI) vwCl (dw_P a ac s0) H → va_D A (dw_P a ac s0) → va_S A s.heap H locs → lv_has ls 6 [(0, .int x0), (1, .int x1), (3, .int x3), (4, .int x4)] → W p l e (headSpec ow_dm_X7_gathered ({ frames := 3, cells := 0, slots := 0, locals := 65 })).room s m args below meth c H locs 0 0 Q (F0 m 48 ls [.int y1, .int y0])
def dj_X7_gathered_7 (p : Program) (l : Launch) (e : Env) (s : State) (m : MethodId) (args : Array Value) (below : List Frame) (meth : Method) (c : Code) (Q : State → Prop) (A : Nat → Prop) (dC : Nat → ClassId) (dI : Nat → Nat → Nat) (a : Nat → Nat) (ac : Nat → ClassId) (g : Int32 → Int32 → Int32 → Int32 → Int32 → (Unit) → Option (Int32 × (Unit))) (r : Int32 × (Unit)) : Prop := ∀ (x0 : Int32) (x1 : Int32) (x2 : Int32) (x3 : Int32) (x4 : Int32) (s0 : Unit) (H : Heap) (locs : List Loc) (ls : Array Slot), g x0 x1 x2 x3 x4 s0 = some r → va_P (dC, dI) vwCl (dw_P a ac s0) H → va_D A (dw_P a ac s0) → va_S A s.heap H locs → lv_has ls 6 [(0, .int x0), (1, .int x1), (2, .int x2), (3, .int x3), (4, .int x4)] → W p l e (headSpec ow_dm_X7_gathered ({ frames := 3, cells := 0, slots := 0, locals := 65 })).room s m args below meth c H locs 0 0 Q (F0 m 7 ls [])
def dj_X7_gathered_0 (p : Program) (l : Launch) (e : Env) (s : State) (m : MethodId) (args : Array Value) (below : List Frame) (meth : Method) (c : Code) (Q : State → Prop) (A : Nat → Prop) (dC : Nat → ClassId) (dI : Nat → Nat → Nat) (a : Nat → Nat) (ac : Nat → ClassId) (g : Int32 → Int32 → (Unit) → Option (Int32 × (Unit))) (r : Int32 × (Unit)) : Prop := ∀ (v0 : Int32) (v1 : Int32) (s0 : Unit) (H : Heap) (locs : List Loc) (ls : Array Slot), g v0 v1 s0 = some r → va_P (dC, dI) vwCl (dw_P a ac s0) H → va_D A (dw_P a ac s0) → va_S A s.heap H locs → lv_has ls 6 [(0, .int v0), (1, .int v1)] → W p l e (headSpec ow_dm_X7_gathered ({ frames := 3, cells := 0, slots := 0, locals := 65 })).room s m args below meth c H locs 0 0 Q (F0 m 0 ls [])
set_option maxHeartbeats 40000000 in
set_option maxRecDepth 100000 in
theorem db_X7_gathered_86 {p : Program} {l : Launch} {e : Env} {s : State} {m : MethodId} {args : Array Value} {below : List Frame} {meth : Method} {c : Code} {Q : State → Prop} {A : Nat → Prop} {dC : Nat → ClassId} {dI : Nat → Nat → Nat} {a : Nat → Nat} {ac : Nat → ClassId} {n : Nat} {r : Int32 × (Unit)} (C : nd_C p l s m args c A (dC, dI) cX7_gathered 6 RX7 ow_dm_X7_gathered (dk_P ac)) (K : nd_Ki p l e (headSpec ow_dm_X7_gathered ({ frames := 3, cells := 0, slots := 0, locals := 65 })).room s m args below meth c Q A (dC, dI) cX7_gathered .int (Unit) (dw_P a ac) r) : dj_X7_gathered_86 p l e s m args below meth c Q A dC dI a ac (df_X7_gathered_86 n) r := by
  obtain ⟨hlt, hx, hb, hml, hown, hts, hN, hA, hK⟩ := id C
  intro y0 s0 H locs ls h hP hD hS hl
  unfold df_X7_gathered_86 at h
  exact K _ _ _ _ _ _ dX7_gathered_86 rfl (Option.some.inj h).symm hP hD hS
set_option maxHeartbeats 40000000 in
set_option maxRecDepth 100000 in
theorem db_X7_gathered_85 {p : Program} {l : Launch} {e : Env} {s : State} {m : MethodId} {args : Array Value} {below : List Frame} {meth : Method} {c : Code} {Q : State → Prop} {A : Nat → Prop} {dC : Nat → ClassId} {dI : Nat → Nat → Nat} {a : Nat → Nat} {ac : Nat → ClassId} {n : Nat} {r : Int32 × (Unit)} (C : nd_C p l s m args c A (dC, dI) cX7_gathered 6 RX7 ow_dm_X7_gathered (dk_P ac)) (K : nd_Ki p l e (headSpec ow_dm_X7_gathered ({ frames := 3, cells := 0, slots := 0, locals := 65 })).room s m args below meth c Q A (dC, dI) cX7_gathered .int (Unit) (dw_P a ac) r) : dj_X7_gathered_85 p l e s m args below meth c Q A dC dI a ac (df_X7_gathered_85 n) r := by
  obtain ⟨hlt, hx, hb, hml, hown, hts, hN, hA, hK⟩ := id C
  intro x2 s0 H locs ls h hP hD hS hl
  unfold df_X7_gathered_85 at h
  refine lv_iload_n hx hb dX7_gathered_85 rfl (lv_at hl 0 rfl) ?_
  exact (db_X7_gathered_86 C K) (x2) s0 _ _ _ h hP hD hS (lv_sub hl [] rfl)
set_option maxHeartbeats 40000000 in
set_option maxRecDepth 100000 in
theorem db_X7_gathered_50 {p : Program} {l : Launch} {e : Env} {s : State} {m : MethodId} {args : Array Value} {below : List Frame} {meth : Method} {c : Code} {Q : State → Prop} {A : Nat → Prop} {dC : Nat → ClassId} {dI : Nat → Nat → Nat} {a : Nat → Nat} {ac : Nat → ClassId} {n : Nat} {r : Int32 × (Unit)} (C : nd_C p l s m args c A (dC, dI) cX7_gathered 6 RX7 ow_dm_X7_gathered (dk_P ac)) (K : nd_Ki p l e (headSpec ow_dm_X7_gathered ({ frames := 3, cells := 0, slots := 0, locals := 65 })).room s m args below meth c Q A (dC, dI) cX7_gathered .int (Unit) (dw_P a ac) r) {g7 : Int32 → Int32 → Int32 → Int32 → Int32 → (Unit) → Option (Int32 × (Unit))} (J7 : dj_X7_gathered_7 p l e s m args below meth c Q A dC dI a ac g7 r) : dj_X7_gathered_50 p l e s m args below meth c Q A dC dI a ac (df_X7_gathered_50 n g7) r := by
  obtain ⟨hlt, hx, hb, hml, hown, hts, hN, hA, hK⟩ := id C
  intro x0 x1 x2 x3 x4 s0 H locs ls h hP hD hS hl
  unfold df_X7_gathered_50 at h
  obtain ⟨z11, ez11, h⟩ := nd_let_e h
  refine lv_iinc (v := z11) (lv' := [(4, .int z11), (0, .int x0), (1, .int x1), (2, .int x2), (3, .int x3)]) hx hb dX7_gathered_50 hl (k := 4) rfl (by rw [ez11]) (by decide) rfl (fun ls hl => ?_)
  refine lv_goto (tgt := 7) hx hb dX7_gathered_53 (by decide) ?_
  exact (J7) (x0) (x1) (x2) (x3) (z11) s0 _ _ _ h hP hD hS (lv_sub hl [1, 2, 3, 4, 0] rfl)
set_option maxHeartbeats 40000000 in
set_option maxRecDepth 100000 in
theorem db_X7_gathered_48 {p : Program} {l : Launch} {e : Env} {s : State} {m : MethodId} {args : Array Value} {below : List Frame} {meth : Method} {c : Code} {Q : State → Prop} {A : Nat → Prop} {dC : Nat → ClassId} {dI : Nat → Nat → Nat} {a : Nat → Nat} {ac : Nat → ClassId} {n : Nat} {r : Int32 × (Unit)} (C : nd_C p l s m args c A (dC, dI) cX7_gathered 6 RX7 ow_dm_X7_gathered (dk_P ac)) (K : nd_Ki p l e (headSpec ow_dm_X7_gathered ({ frames := 3, cells := 0, slots := 0, locals := 65 })).room s m args below meth c Q A (dC, dI) cX7_gathered .int (Unit) (dw_P a ac) r) {g7 : Int32 → Int32 → Int32 → Int32 → Int32 → (Unit) → Option (Int32 × (Unit))} (J7 : dj_X7_gathered_7 p l e s m args below meth c Q A dC dI a ac g7 r) : dj_X7_gathered_48 p l e s m args below meth c Q A dC dI a ac (df_X7_gathered_48 n g7) r := by
  obtain ⟨hlt, hx, hb, hml, hown, hts, hN, hA, hK⟩ := id C
  intro x0 x1 x3 x4 y0 y1 s0 H locs ls h hP hD hS hl
  unfold df_X7_gathered_48 at h
  refine lv_ior hx hb dX7_gathered_48 ?_
  refine lv_topi (fun z13 ez13 => ?_)
  have h := nd_at h ez13
  refine lv_istore_n (lv' := [(2, .int z13), (0, .int x0), (1, .int x1), (3, .int x3), (4, .int x4)]) hx hb dX7_gathered_49 rfl hl (by decide) rfl (fun ls hl => ?_)
  exact (db_X7_gathered_50 C K J7) (x0) (x1) (z13) (x3) (x4) s0 _ _ _ h hP hD hS (lv_sub hl [1, 2, 0, 3, 4] rfl)
set_option maxHeartbeats 40000000 in
set_option maxRecDepth 100000 in
theorem dB_X7_gathered_7 {p : Program} {l : Launch} {e : Env} {s : State} {m : MethodId} {args : Array Value} {below : List Frame} {meth : Method} {c : Code} {Q : State → Prop} {A : Nat → Prop} {dC : Nat → ClassId} {dI : Nat → Nat → Nat} {a : Nat → Nat} {ac : Nat → ClassId} {n : Nat} {r : Int32 × (Unit)} (C : nd_C p l s m args c A (dC, dI) cX7_gathered 6 RX7 ow_dm_X7_gathered (dk_P ac)) (K : nd_Ki p l e (headSpec ow_dm_X7_gathered ({ frames := 3, cells := 0, slots := 0, locals := 65 })).room s m args below meth c Q A (dC, dI) cX7_gathered .int (Unit) (dw_P a ac) r) {g7 : Int32 → Int32 → Int32 → Int32 → Int32 → (Unit) → Option (Int32 × (Unit))} (J7 : dj_X7_gathered_7 p l e s m args below meth c Q A dC dI a ac g7 r) : dj_X7_gathered_7 p l e s m args below meth c Q A dC dI a ac (dF_X7_gathered_7 n g7) r := by
  obtain ⟨hlt, hx, hb, hml, hown, hts, hN, hA, hK⟩ := id C
  intro x0 x1 x2 x3 x4 s0 H locs ls h hP hD hS hl
  unfold dF_X7_gathered_7 at h
  refine lv_iload hx hb dX7_gathered_7 (lv_at hl 4 rfl) ?_
  refine lv_bipush (v := 20) hx hb dX7_gathered_9 (by decide) ?_
  refine lv_icmp_gt (tgt := 56) hx hb dX7_gathered_11 (by decide) (fun c1 => ?_) (fun c1 => ?_)
  · have h := nd_pos h c1
    refine lv_iload_n hx hb dX7_gathered_56 rfl (lv_at hl 0 rfl) ?_
    refine lv_bipush (v := (-16)) hx hb dX7_gathered_57 (by decide) ?_
    obtain ⟨q2, s3, hq, h⟩ := nd_b2_e h
    have hPc : va_P (dC, dI) vwCl (dw_P a ac ()) H := nd_p0
    have hDc : va_D A (dw_P a ac ()) := nd_d0
    have hKc : va_K (dC, dI) vwCl (dk_P ac) s := nd_y0 hK
    have hFc : ∀ q, va_A (dw_P a ac ()) H.size q → A q := nd_r0 hS hA
    refine nd_cSi (As := [.int x0, .int (-16)]) (rest := []) (q := q2) (w' := dw_P a ac s3) ⟨hx, hb, hml, hown, hts⟩ (fun sz => dm_X7_fits l hlt dC dI a ac n (x0) ((-16)) () hq sz) (cwS 2 hts gi_dm_X7_gathered_0 rfl rfl rfl (by decide +kernel) ⟨Nat.le_of_ble_eq_true rfl, Nat.le_of_ble_eq_true rfl⟩) hPc hDc hKc hS hA hN rfl hl.1 rfl (Nat.le_of_ble_eq_true rfl) dX7_gathered_59 (fun H locs hP1 hD1 hk1 hS => ?_)
    have hP := nd_n0 hP hk1
    refine lv_istore (lv' := [(4, .int q2), (0, .int x0), (1, .int x1), (2, .int x2), (3, .int x3)]) hx hb dX7_gathered_62 hl (by decide) rfl (fun ls hl => ?_)
    refine lv_iload hx hb dX7_gathered_64 (lv_at hl 0 rfl) ?_
    refine lv_if_eq (tgt := 85) hx hb dX7_gathered_66 (by decide) (fun c5 => ?_) (fun c5 => ?_)
    · have h := nd_pos h c5
      exact (db_X7_gathered_85 C K) (x2) s0 _ _ _ h hP hD hS (lv_sub hl [3] rfl)
    · have h := nd_neg h c5
      refine lv_iload_n hx hb dX7_gathered_69 rfl (lv_at hl 3 rfl) ?_
      refine lv_iload_n hx hb dX7_gathered_70 rfl (lv_at hl 4 rfl) ?_
      refine lv_ishr hx hb dX7_gathered_71 ?_
      refine lv_iconst (v := 1) hx hb dX7_gathered_72 (by decide) ?_
      refine lv_iand hx hb dX7_gathered_73 ?_
      refine lv_if_eq (tgt := 85) hx hb dX7_gathered_74 (by decide) (fun c6 => ?_) (fun c6 => ?_)
      · have h := nd_pos h c6
        exact (db_X7_gathered_85 C K) (x2) s0 _ _ _ h hP hD hS (lv_sub hl [3] rfl)
      · have h := nd_neg h c6
        refine lv_iload_n hx hb dX7_gathered_77 rfl (lv_at hl 3 rfl) ?_
        refine lv_iconst (v := 2) hx hb dX7_gathered_78 (by decide) ?_
        refine lv_iload_n hx hb dX7_gathered_79 rfl (lv_at hl 4 rfl) ?_
        refine lv_ishl hx hb dX7_gathered_80 ?_
        refine lv_isub hx hb dX7_gathered_81 ?_
        refine lv_goto (tgt := 86) hx hb dX7_gathered_82 (by decide) ?_
        exact (db_X7_gathered_86 C K) ((x2 - ((2 : Int32) <<< ((x3 : Int32) &&& 31)))) s0 _ _ _ h hP hD hS (lv_sub hl [] rfl)
  · have h := nd_neg h c1
    refine lv_iload_n hx hb dX7_gathered_14 rfl (lv_at hl 0 rfl) ?_
    refine lv_iconst (v := 1) hx hb dX7_gathered_15 (by decide) ?_
    refine lv_iload hx hb dX7_gathered_16 (lv_at hl 4 rfl) ?_
    refine lv_ishl hx hb dX7_gathered_18 ?_
    obtain ⟨q7, s8, hq, h⟩ := nd_b2_e h
    have hPc : va_P (dC, dI) vwCl (dw_P a ac ()) H := nd_p0
    have hDc : va_D A (dw_P a ac ()) := nd_d0
    have hKc : va_K (dC, dI) vwCl (dk_P ac) s := nd_y0 hK
    have hFc : ∀ q, va_A (dw_P a ac ()) H.size q → A q := nd_r0 hS hA
    refine nd_cSi (As := [.int x0, .int ((1 : Int32) <<< ((x4 : Int32) &&& 31))]) (rest := []) (q := q7) (w' := dw_P a ac s8) ⟨hx, hb, hml, hown, hts⟩ (fun sz => dm_X7_placed l hlt dC dI a ac n (x0) (((1 : Int32) <<< ((x4 : Int32) &&& 31))) () hq sz) (cwS 2 hts gi_dm_X7_gathered_1 rfl rfl rfl (by decide +kernel) ⟨Nat.le_of_ble_eq_true rfl, Nat.le_of_ble_eq_true rfl⟩) hPc hDc hKc hS hA hN rfl hl.1 rfl (Nat.le_of_ble_eq_true rfl) dX7_gathered_19 (fun H locs hP1 hD1 hk1 hS => ?_)
    have hP := nd_n0 hP hk1
    refine lv_istore (lv' := [(5, .int q7), (0, .int x0), (1, .int x1), (2, .int x2), (3, .int x3), (4, .int x4)]) hx hb dX7_gathered_22 hl (by decide) rfl (fun ls hl => ?_)
    refine lv_iload hx hb dX7_gathered_24 (lv_at hl 0 rfl) ?_
    refine lv_if_eq (tgt := 50) hx hb dX7_gathered_26 (by decide) (fun c10 => ?_) (fun c10 => ?_)
    · have h := nd_pos h c10
      exact (db_X7_gathered_50 C K J7) (x0) (x1) (x2) (x3) (x4) s0 _ _ _ h hP hD hS (lv_sub hl [1, 2, 3, 4, 5] rfl)
    · have h := nd_neg h c10
      refine lv_iload hx hb dX7_gathered_29 (lv_at hl 5 rfl) ?_
      refine lv_istore_n (lv' := [(3, .int x4), (5, .int q7), (0, .int x0), (1, .int x1), (2, .int x2), (4, .int x4)]) hx hb dX7_gathered_31 rfl hl (by decide) rfl (fun ls hl => ?_)
      refine lv_iload_n hx hb dX7_gathered_32 rfl (lv_at hl 4 rfl) ?_
      refine lv_iload_n hx hb dX7_gathered_33 rfl (lv_at hl 3 rfl) ?_
      refine lv_iload hx hb dX7_gathered_34 (lv_at hl 1 rfl) ?_
      refine lv_iand hx hb dX7_gathered_36 ?_
      refine lv_if_eq (tgt := 47) hx hb dX7_gathered_37 (by decide) (fun c12 => ?_) (fun c12 => ?_)
      · have h := nd_pos h c12
        refine lv_iconst (v := 0) hx hb dX7_gathered_47 (by decide) ?_
        exact (db_X7_gathered_48 C K J7) (x0) (x1) (x4) (x4) (x2) (0) s0 _ _ _ h hP hD hS (lv_sub hl [2, 3, 0, 5] rfl)
      · have h := nd_neg h c12
        refine lv_iconst (v := 1) hx hb dX7_gathered_40 (by decide) ?_
        refine lv_iload hx hb dX7_gathered_41 (lv_at hl 5 rfl) ?_
        refine lv_ishl hx hb dX7_gathered_43 ?_
        refine lv_goto (tgt := 48) hx hb dX7_gathered_44 (by decide) ?_
        exact (db_X7_gathered_48 C K J7) (x0) (x1) (x4) (x4) (x2) (((1 : Int32) <<< ((x4 : Int32) &&& 31))) s0 _ _ _ h hP hD hS (lv_sub hl [2, 3, 0, 5] rfl)
set_option maxHeartbeats 40000000 in
set_option maxRecDepth 100000 in
theorem db_X7_gathered_7 {p : Program} {l : Launch} {e : Env} {s : State} {m : MethodId} {args : Array Value} {below : List Frame} {meth : Method} {c : Code} {Q : State → Prop} {A : Nat → Prop} {dC : Nat → ClassId} {dI : Nat → Nat → Nat} {a : Nat → Nat} {ac : Nat → ClassId} {n : Nat} {r : Int32 × (Unit)} (C : nd_C p l s m args c A (dC, dI) cX7_gathered 6 RX7 ow_dm_X7_gathered (dk_P ac)) (K : nd_Ki p l e (headSpec ow_dm_X7_gathered ({ frames := 3, cells := 0, slots := 0, locals := 65 })).room s m args below meth c Q A (dC, dI) cX7_gathered .int (Unit) (dw_P a ac) r) (k : Nat) : dj_X7_gathered_7 p l e s m args below meth c Q A dC dI a ac (df_X7_gathered_7 n k) r := by
  induction k with
  | zero => intro x0 x1 x2 x3 x4 s0 H locs ls h; exact nomatch (show (none : Option (Int32 × (Unit))) = some r from h)
  | succ k ih => exact dB_X7_gathered_7 C K ih
set_option maxHeartbeats 40000000 in
set_option maxRecDepth 100000 in
theorem db_X7_gathered_0 {p : Program} {l : Launch} {e : Env} {s : State} {m : MethodId} {args : Array Value} {below : List Frame} {meth : Method} {c : Code} {Q : State → Prop} {A : Nat → Prop} {dC : Nat → ClassId} {dI : Nat → Nat → Nat} {a : Nat → Nat} {ac : Nat → ClassId} {n : Nat} {r : Int32 × (Unit)} (C : nd_C p l s m args c A (dC, dI) cX7_gathered 6 RX7 ow_dm_X7_gathered (dk_P ac)) (K : nd_Ki p l e (headSpec ow_dm_X7_gathered ({ frames := 3, cells := 0, slots := 0, locals := 65 })).room s m args below meth c Q A (dC, dI) cX7_gathered .int (Unit) (dw_P a ac) r) : dj_X7_gathered_0 p l e s m args below meth c Q A dC dI a ac (df_X7_gathered_0 n) r := by
  obtain ⟨hlt, hx, hb, hml, hown, hts, hN, hA, hK⟩ := id C
  intro v0 v1 s0 H locs ls h hP hD hS hl
  unfold df_X7_gathered_0 at h
  refine lv_iconst (v := 0) hx hb dX7_gathered_0 (by decide) ?_
  refine lv_istore_n (lv' := [(2, .int 0), (0, .int v0), (1, .int v1)]) hx hb dX7_gathered_1 rfl hl (by decide) rfl (fun ls hl => ?_)
  refine lv_iconst (v := 0) hx hb dX7_gathered_2 (by decide) ?_
  refine lv_istore_n (lv' := [(3, .int 0), (2, .int 0), (0, .int v0), (1, .int v1)]) hx hb dX7_gathered_3 rfl hl (by decide) rfl (fun ls hl => ?_)
  refine lv_iconst (v := 0) hx hb dX7_gathered_4 (by decide) ?_
  refine lv_istore (lv' := [(4, .int 0), (3, .int 0), (2, .int 0), (0, .int v0), (1, .int v1)]) hx hb dX7_gathered_5 hl (by decide) rfl (fun ls hl => ?_)
  exact (db_X7_gathered_7 C K n) (v0) (v1) (0) (0) (0) s0 _ _ _ h hP hD hS (lv_sub hl [3, 4, 2, 1, 0] rfl)
set_option maxHeartbeats 40000000 in
set_option maxRecDepth 100000 in
theorem dm_X7_gathered (l : Launch) (hlt : l.stackTraces = false) (dC : Nat → ClassId) (dI : Nat → Nat → Nat) (a : Nat → Nat) (ac : Nat → ClassId) (n : Nat) (v0 : Int32) (v1 : Int32) (s0 : Unit) {r : Int32 × (Unit)} (h : df_X7_gathered n v0 v1 s0 = some r) (sz : Nat) : Met l yX7_gathered ow_dm_X7_gathered ({ frames := 3, cells := 0, slots := 0, locals := 65 }) (va_Pc [.int v0, .int v1] (fun U => U.heap.size = sz ∧ va_P (dC, dI) vwCl (dw_P a ac s0) U.heap ∧ va_K (dC, dI) vwCl (dk_P ac) U ∧ va_D (fun _ => True) (dw_P a ac s0) ∧ nv_E dI (va_A (dw_P a ac s0) sz) U)) (va_Qi (fun x _ => x = r.1) (fun (_ : Unit) t => va_P (dC, dI) vwCl (dw_P a ac r.2) t.heap ∧ va_K (dC, dI) vwCl (dk_P ac) t ∧ va_D (va_A (dw_P a ac s0) sz) (dw_P a ac r.2)) (va_A (dw_P a ac s0) sz)) 0 0 (va_A (dw_P a ac s0) sz) := by
  refine Met.ofW (cc := cX7_gathered) (maxL := 6) (ret := (some .int)) (by decide) rfl ?_
  intro p e s m args below meth c s₁ B hml hv
  obtain ⟨rfl, hsz, hP, hK, hD0, hN⟩ := hv
  have hx := B.exec
  have hb := B.bytes
  have hr := B.returns
  have hts := atoms_spec (ws := ow_dm_X7_gathered) B.pre
  have hown : s.vm.findClass RX7 = some m.cls := findClass_of_methodNamed B.named
  have hlocks := B.notSynchronized
  subst hsz
  have hD := hD0.self (sz := s.heap.size)
  generalize hAe : va_A (dw_P a ac s0) s.heap.size = A at hD hN ⊢
  have hA : ∀ q : Nat, s.heap.size ≤ q → A q := fun q h => by rw [← hAe]; exact Or.inr h
  have hl := lv_entry ([.int v0, .int v1]) (n := 6) (Nat.le_of_ble_eq_true rfl)
  rw [lg_entry_eq]
  generalize (lg_sl ([.int v0, .int v1]) ++ List.replicate (6 - (lg_sl ([.int v0, .int v1])).length) Slot.unset).toArray = ls at hl ⊢
  have hl : lv_has ls 6 [(0, .int v0), (1, .int v1)] := hl
  exact db_X7_gathered_0 (dC := dC) (dI := dI) (a := a) (ac := ac) (n := n) (r := r) ⟨hlt, hx, hb, hml, hown, hts, hN, hA, hK⟩ (fun pc v τ H locs ls d z er hP hD hS => by subst er; exact W.zret (v := v) hx hb hr z (fun t ht hW => ⟨⟨v, (), rfl, rfl, by rw [ht]; exact hP, va_K.moved hW.alike hK, hD⟩, hS.F ht⟩) hS.2.2 d) v0 v1 s0 _ _ _ h hP hD va_S.rf (lv_sub hl [0, 1] rfl)
def ow_dm_X7_taken : List Cond := Cond.code yX7_taken cX7_taken 2 (some .int) :: ([Cond.methodLink RX7 474 yX7_gathered, Cond.static yX7_gathered, Cond.initialized RX7] ++ (ow_dm_X7_gathered ++ []))
theorem gd_dm_X7_taken : ∀ w ∈ ow_dm_X7_taken, (w.onTables && w.keeps) = true ∨ ∃ ty, w = Cond.arrayClass ty := List.forall_mem_cons.mpr ⟨good_of_word rfl, List.forall_mem_append.mpr ⟨fun w h => good_of_word (List.all_eq_true.mp (by decide +kernel) w h), List.forall_mem_append.mpr ⟨gd_dm_X7_gathered, fun _ h => nomatch h⟩⟩⟩
theorem gi_dm_X7_taken_0 : GoodIn ow_dm_X7_taken (wsS RX7 474 yX7_gathered ow_dm_X7_gathered) := goodIn_app (goodIn_of _ (by decide +kernel)) (fun w h => ⟨List.mem_cons_of_mem _ (List.mem_append_right _ (List.mem_append_left _ h)), gd_dm_X7_gathered w h⟩)
def dj_X7_taken_172 (p : Program) (l : Launch) (e : Env) (s : State) (m : MethodId) (args : Array Value) (below : List Frame) (meth : Method) (c : Code) (Q : State → Prop) (A : Nat → Prop) (dC : Nat → ClassId) (dI : Nat → Nat → Nat) (a : Nat → Nat) (ac : Nat → ClassId) (g : Int32 → Int32 → (Unit) → Option (Int32 × (Unit))) (r : Int32 × (Unit)) : Prop := ∀ (x0 : Int32) (x1 : Int32) (s0 : Unit) (H : Heap) (locs : List Loc) (ls : Array Slot), g x0 x1 s0 = some r → va_P (dC, dI) vwCl (dw_P a ac s0) H → va_D A (dw_P a ac s0) → va_S A s.heap H locs → lv_has ls 2 [(0, .int x0), (1, .int x1)] → W p l e (headSpec ow_dm_X7_taken ({ frames := 4, cells := 0, slots := 0, locals := 90 })).room s m args below meth c H locs 0 0 Q (F0 m 172 ls [])
def dj_X7_taken_120 (p : Program) (l : Launch) (e : Env) (s : State) (m : MethodId) (args : Array Value) (below : List Frame) (meth : Method) (c : Code) (Q : State → Prop) (A : Nat → Prop) (dC : Nat → ClassId) (dI : Nat → Nat → Nat) (a : Nat → Nat) (ac : Nat → ClassId) (g : Int32 → (Unit) → Option (Int32 × (Unit))) (r : Int32 × (Unit)) : Prop := ∀ (x1 : Int32) (s0 : Unit) (H : Heap) (locs : List Loc) (ls : Array Slot), g x1 s0 = some r → va_P (dC, dI) vwCl (dw_P a ac s0) H → va_D A (dw_P a ac s0) → va_S A s.heap H locs → lv_has ls 2 [(1, .int x1)] → W p l e (headSpec ow_dm_X7_taken ({ frames := 4, cells := 0, slots := 0, locals := 90 })).room s m args below meth c H locs 0 0 Q (F0 m 120 ls [])
def dj_X7_taken_144 (p : Program) (l : Launch) (e : Env) (s : State) (m : MethodId) (args : Array Value) (below : List Frame) (meth : Method) (c : Code) (Q : State → Prop) (A : Nat → Prop) (dC : Nat → ClassId) (dI : Nat → Nat → Nat) (a : Nat → Nat) (ac : Nat → ClassId) (g : Int32 → (Unit) → Option (Int32 × (Unit))) (r : Int32 × (Unit)) : Prop := ∀ (x1 : Int32) (s0 : Unit) (H : Heap) (locs : List Loc) (ls : Array Slot), g x1 s0 = some r → va_P (dC, dI) vwCl (dw_P a ac s0) H → va_D A (dw_P a ac s0) → va_S A s.heap H locs → lv_has ls 2 [(1, .int x1)] → W p l e (headSpec ow_dm_X7_taken ({ frames := 4, cells := 0, slots := 0, locals := 90 })).room s m args below meth c H locs 0 0 Q (F0 m 144 ls [])
def dj_X7_taken_0 (p : Program) (l : Launch) (e : Env) (s : State) (m : MethodId) (args : Array Value) (below : List Frame) (meth : Method) (c : Code) (Q : State → Prop) (A : Nat → Prop) (dC : Nat → ClassId) (dI : Nat → Nat → Nat) (a : Nat → Nat) (ac : Nat → ClassId) (g : Int32 → Int32 → (Unit) → Option (Int32 × (Unit))) (r : Int32 × (Unit)) : Prop := ∀ (v0 : Int32) (v1 : Int32) (s0 : Unit) (H : Heap) (locs : List Loc) (ls : Array Slot), g v0 v1 s0 = some r → va_P (dC, dI) vwCl (dw_P a ac s0) H → va_D A (dw_P a ac s0) → va_S A s.heap H locs → lv_has ls 2 [(0, .int v0), (1, .int v1)] → W p l e (headSpec ow_dm_X7_taken ({ frames := 4, cells := 0, slots := 0, locals := 90 })).room s m args below meth c H locs 0 0 Q (F0 m 0 ls [])
set_option maxHeartbeats 40000000 in
set_option maxRecDepth 100000 in
theorem db_X7_taken_172 {p : Program} {l : Launch} {e : Env} {s : State} {m : MethodId} {args : Array Value} {below : List Frame} {meth : Method} {c : Code} {Q : State → Prop} {A : Nat → Prop} {dC : Nat → ClassId} {dI : Nat → Nat → Nat} {a : Nat → Nat} {ac : Nat → ClassId} {n : Nat} {r : Int32 × (Unit)} (C : nd_C p l s m args c A (dC, dI) cX7_taken 2 RX7 ow_dm_X7_taken (dk_P ac)) (K : nd_Ki p l e (headSpec ow_dm_X7_taken ({ frames := 4, cells := 0, slots := 0, locals := 90 })).room s m args below meth c Q A (dC, dI) cX7_taken .int (Unit) (dw_P a ac) r) : dj_X7_taken_172 p l e s m args below meth c Q A dC dI a ac (df_X7_taken_172 n) r := by
  obtain ⟨hlt, hx, hb, hml, hown, hts, hN, hA, hK⟩ := id C
  intro x0 x1 s0 H locs ls h hP hD hS hl
  unfold df_X7_taken_172 at h
  refine lv_iload_n hx hb dX7_taken_172 rfl (lv_at hl 0 rfl) ?_
  refine lv_iload_n hx hb dX7_taken_173 rfl (lv_at hl 1 rfl) ?_
  obtain ⟨q4, s5, hq, h⟩ := nd_b2_e h
  have hPc : va_P (dC, dI) vwCl (dw_P a ac ()) H := nd_p0
  have hDc : va_D A (dw_P a ac ()) := nd_d0
  have hKc : va_K (dC, dI) vwCl (dk_P ac) s := nd_y0 hK
  have hFc : ∀ q, va_A (dw_P a ac ()) H.size q → A q := nd_r0 hS hA
  refine nd_cSi (As := [.int x0, .int x1]) (rest := []) (q := q4) (w' := dw_P a ac s5) ⟨hx, hb, hml, hown, hts⟩ (fun sz => dm_X7_gathered l hlt dC dI a ac n (x0) (x1) () hq sz) (cwS 2 hts gi_dm_X7_taken_0 rfl rfl rfl (by decide +kernel) ⟨Nat.le_of_ble_eq_true rfl, Nat.le_of_ble_eq_true rfl⟩) hPc hDc hKc hS hA hN rfl hl.1 rfl (Nat.le_of_ble_eq_true rfl) dX7_taken_174 (fun H locs hP1 hD1 hk1 hS => ?_)
  have hP := nd_n0 hP hk1
  exact K _ _ _ _ _ _ dX7_taken_177 rfl (Option.some.inj h).symm hP hD hS
set_option maxHeartbeats 40000000 in
set_option maxRecDepth 100000 in
theorem db_X7_taken_120 {p : Program} {l : Launch} {e : Env} {s : State} {m : MethodId} {args : Array Value} {below : List Frame} {meth : Method} {c : Code} {Q : State → Prop} {A : Nat → Prop} {dC : Nat → ClassId} {dI : Nat → Nat → Nat} {a : Nat → Nat} {ac : Nat → ClassId} {n : Nat} {r : Int32 × (Unit)} (C : nd_C p l s m args c A (dC, dI) cX7_taken 2 RX7 ow_dm_X7_taken (dk_P ac)) (K : nd_Ki p l e (headSpec ow_dm_X7_taken ({ frames := 4, cells := 0, slots := 0, locals := 90 })).room s m args below meth c Q A (dC, dI) cX7_taken .int (Unit) (dw_P a ac) r) : dj_X7_taken_120 p l e s m args below meth c Q A dC dI a ac (df_X7_taken_120 n) r := by
  obtain ⟨hlt, hx, hb, hml, hown, hts, hN, hA, hK⟩ := id C
  intro x1 s0 H locs ls h hP hD hS hl
  unfold df_X7_taken_120 at h
  refine lv_iload_n hx hb dX7_taken_120 rfl (lv_at hl 0 rfl) ?_
  refine lv_bipush (v := 7) hx hb dX7_taken_121 (by decide) ?_
  refine lv_ishr hx hb dX7_taken_123 ?_
  refine lv_bipush (v := 31) hx hb dX7_taken_124 (by decide) ?_
  refine lv_iand hx hb dX7_taken_126 ?_
  exact K _ _ _ _ _ _ dX7_taken_127 rfl (Option.some.inj h).symm hP hD hS
set_option maxHeartbeats 40000000 in
set_option maxRecDepth 100000 in
theorem db_X7_taken_144 {p : Program} {l : Launch} {e : Env} {s : State} {m : MethodId} {args : Array Value} {below : List Frame} {meth : Method} {c : Code} {Q : State → Prop} {A : Nat → Prop} {dC : Nat → ClassId} {dI : Nat → Nat → Nat} {a : Nat → Nat} {ac : Nat → ClassId} {n : Nat} {r : Int32 × (Unit)} (C : nd_C p l s m args c A (dC, dI) cX7_taken 2 RX7 ow_dm_X7_taken (dk_P ac)) (K : nd_Ki p l e (headSpec ow_dm_X7_taken ({ frames := 4, cells := 0, slots := 0, locals := 90 })).room s m args below meth c Q A (dC, dI) cX7_taken .int (Unit) (dw_P a ac) r) : dj_X7_taken_144 p l e s m args below meth c Q A dC dI a ac (df_X7_taken_144 n) r := by
  obtain ⟨hlt, hx, hb, hml, hown, hts, hN, hA, hK⟩ := id C
  intro x1 s0 H locs ls h hP hD hS hl
  unfold df_X7_taken_144 at h
  refine lv_iload_n hx hb dX7_taken_144 rfl (lv_at hl 0 rfl) ?_
  refine lv_iconst (v := 2) hx hb dX7_taken_145 (by decide) ?_
  refine lv_ishr hx hb dX7_taken_146 ?_
  refine lv_bipush (v := 31) hx hb dX7_taken_147 (by decide) ?_
  refine lv_iand hx hb dX7_taken_149 ?_
  exact K _ _ _ _ _ _ dX7_taken_150 rfl (Option.some.inj h).symm hP hD hS
set_option maxHeartbeats 40000000 in
set_option maxRecDepth 100000 in
theorem db_X7_taken_0 {p : Program} {l : Launch} {e : Env} {s : State} {m : MethodId} {args : Array Value} {below : List Frame} {meth : Method} {c : Code} {Q : State → Prop} {A : Nat → Prop} {dC : Nat → ClassId} {dI : Nat → Nat → Nat} {a : Nat → Nat} {ac : Nat → ClassId} {n : Nat} {r : Int32 × (Unit)} (C : nd_C p l s m args c A (dC, dI) cX7_taken 2 RX7 ow_dm_X7_taken (dk_P ac)) (K : nd_Ki p l e (headSpec ow_dm_X7_taken ({ frames := 4, cells := 0, slots := 0, locals := 90 })).room s m args below meth c Q A (dC, dI) cX7_taken .int (Unit) (dw_P a ac) r) : dj_X7_taken_0 p l e s m args below meth c Q A dC dI a ac (df_X7_taken_0 n) r := by
  obtain ⟨hlt, hx, hb, hml, hown, hts, hN, hA, hK⟩ := id C
  intro v0 v1 s0 H locs ls h hP hD hS hl
  unfold df_X7_taken_0 at h
  refine lv_iload_n hx hb dX7_taken_0 rfl (lv_at hl 0 rfl) ?_
  by_cases c1 : v0 = 97
  · have h := nd_pos h c1
    refine lv_tableIn (off := 127) (tgt := 128) hx hb dX7_taken_1 (by rw [c1]; decide) (by rw [c1]; decide) (by rw [c1]; decide) (by decide) ?_
    refine lv_iload_n hx hb dX7_taken_128 rfl (lv_at hl 1 rfl) ?_
    refine lv_bipush (v := 15) hx hb dX7_taken_129 (by decide) ?_
    refine lv_ishr hx hb dX7_taken_131 ?_
    refine lv_bipush (v := 31) hx hb dX7_taken_132 (by decide) ?_
    refine lv_iand hx hb dX7_taken_134 ?_
    exact K _ _ _ _ _ _ dX7_taken_135 rfl (Option.some.inj h).symm hP hD hS
  have h := nd_neg h c1
  by_cases c2 : v0 = 98
  · have h := nd_pos h c2
    refine lv_tableIn (off := 135) (tgt := 136) hx hb dX7_taken_1 (by rw [c2]; decide) (by rw [c2]; decide) (by rw [c2]; decide) (by decide) ?_
    refine lv_iload_n hx hb dX7_taken_136 rfl (lv_at hl 1 rfl) ?_
    refine lv_bipush (v := 20) hx hb dX7_taken_137 (by decide) ?_
    refine lv_ishr hx hb dX7_taken_139 ?_
    refine lv_bipush (v := 31) hx hb dX7_taken_140 (by decide) ?_
    refine lv_iand hx hb dX7_taken_142 ?_
    exact K _ _ _ _ _ _ dX7_taken_143 rfl (Option.some.inj h).symm hP hD hS
  have h := nd_neg h c2
  by_cases c3 : v0 = 99
  · have h := nd_pos h c3
    refine lv_tableIn (off := 171) (tgt := 172) hx hb dX7_taken_1 (by rw [c3]; decide) (by rw [c3]; decide) (by rw [c3]; decide) (by decide) ?_
    exact (db_X7_taken_172 C K) (v0) (v1) s0 _ _ _ h hP hD hS (lv_sub hl [0, 1] rfl)
  have h := nd_neg h c3
  by_cases c7 : v0 = 100
  · have h := nd_pos h c7
    refine lv_tableIn (off := 119) (tgt := 120) hx hb dX7_taken_1 (by rw [c7]; decide) (by rw [c7]; decide) (by rw [c7]; decide) (by decide) ?_
    exact (db_X7_taken_120 C K) (v1) s0 _ _ _ h hP hD hS (lv_sub hl [1] rfl)
  have h := nd_neg h c7
  by_cases c8 : v0 = 101
  · have h := nd_pos h c8
    refine lv_tableIn (off := 171) (tgt := 172) hx hb dX7_taken_1 (by rw [c8]; decide) (by rw [c8]; decide) (by rw [c8]; decide) (by decide) ?_
    exact (db_X7_taken_172 C K) (v0) (v1) s0 _ _ _ h hP hD hS (lv_sub hl [0, 1] rfl)
  have h := nd_neg h c8
  by_cases c9 : v0 = 102
  · have h := nd_pos h c9
    refine lv_tableIn (off := 171) (tgt := 172) hx hb dX7_taken_1 (by rw [c9]; decide) (by rw [c9]; decide) (by rw [c9]; decide) (by decide) ?_
    exact (db_X7_taken_172 C K) (v0) (v1) s0 _ _ _ h hP hD hS (lv_sub hl [0, 1] rfl)
  have h := nd_neg h c9
  by_cases c10 : v0 = 103
  · have h := nd_pos h c10
    refine lv_tableIn (off := 171) (tgt := 172) hx hb dX7_taken_1 (by rw [c10]; decide) (by rw [c10]; decide) (by rw [c10]; decide) (by decide) ?_
    exact (db_X7_taken_172 C K) (v0) (v1) s0 _ _ _ h hP hD hS (lv_sub hl [0, 1] rfl)
  have h := nd_neg h c10
  by_cases c11 : v0 = 104
  · have h := nd_pos h c11
    refine lv_tableIn (off := 171) (tgt := 172) hx hb dX7_taken_1 (by rw [c11]; decide) (by rw [c11]; decide) (by rw [c11]; decide) (by decide) ?_
    exact (db_X7_taken_172 C K) (v0) (v1) s0 _ _ _ h hP hD hS (lv_sub hl [0, 1] rfl)
  have h := nd_neg h c11
  by_cases c12 : v0 = 105
  · have h := nd_pos h c12
    refine lv_tableIn (off := 171) (tgt := 172) hx hb dX7_taken_1 (by rw [c12]; decide) (by rw [c12]; decide) (by rw [c12]; decide) (by decide) ?_
    exact (db_X7_taken_172 C K) (v0) (v1) s0 _ _ _ h hP hD hS (lv_sub hl [0, 1] rfl)
  have h := nd_neg h c12
  by_cases c13 : v0 = 106
  · have h := nd_pos h c13
    refine lv_tableIn (off := 171) (tgt := 172) hx hb dX7_taken_1 (by rw [c13]; decide) (by rw [c13]; decide) (by rw [c13]; decide) (by decide) ?_
    exact (db_X7_taken_172 C K) (v0) (v1) s0 _ _ _ h hP hD hS (lv_sub hl [0, 1] rfl)
  have h := nd_neg h c13
  by_cases c14 : v0 = 107
  · have h := nd_pos h c14
    refine lv_tableIn (off := 171) (tgt := 172) hx hb dX7_taken_1 (by rw [c14]; decide) (by rw [c14]; decide) (by rw [c14]; decide) (by decide) ?_
    exact (db_X7_taken_172 C K) (v0) (v1) s0 _ _ _ h hP hD hS (lv_sub hl [0, 1] rfl)
  have h := nd_neg h c14
  by_cases c15 : v0 = 108
  · have h := nd_pos h c15
    refine lv_tableIn (off := 171) (tgt := 172) hx hb dX7_taken_1 (by rw [c15]; decide) (by rw [c15]; decide) (by rw [c15]; decide) (by decide) ?_
    exact (db_X7_taken_172 C K) (v0) (v1) s0 _ _ _ h hP hD hS (lv_sub hl [0, 1] rfl)
  have h := nd_neg h c15
  by_cases c16 : v0 = 109
  · have h := nd_pos h c16
    refine lv_tableIn (off := 119) (tgt := 120) hx hb dX7_taken_1 (by rw [c16]; decide) (by rw [c16]; decide) (by rw [c16]; decide) (by decide) ?_
    exact (db_X7_taken_120 C K) (v1) s0 _ _ _ h hP hD hS (lv_sub hl [1] rfl)
  have h := nd_neg h c16
  by_cases c17 : v0 = 110
  · have h := nd_pos h c17
    refine lv_tableIn (off := 119) (tgt := 120) hx hb dX7_taken_1 (by rw [c17]; decide) (by rw [c17]; decide) (by rw [c17]; decide) (by decide) ?_
    exact (db_X7_taken_120 C K) (v1) s0 _ _ _ h hP hD hS (lv_sub hl [1] rfl)
  have h := nd_neg h c17
  by_cases c18 : v0 = 111
  · have h := nd_pos h c18
    refine lv_tableIn (off := 171) (tgt := 172) hx hb dX7_taken_1 (by rw [c18]; decide) (by rw [c18]; decide) (by rw [c18]; decide) (by decide) ?_
    exact (db_X7_taken_172 C K) (v0) (v1) s0 _ _ _ h hP hD hS (lv_sub hl [0, 1] rfl)
  have h := nd_neg h c18
  by_cases c19 : v0 = 112
  · have h := nd_pos h c19
    refine lv_tableIn (off := 150) (tgt := 151) hx hb dX7_taken_1 (by rw [c19]; decide) (by rw [c19]; decide) (by rw [c19]; decide) (by decide) ?_
    refine lv_bipush (v := 8) hx hb dX7_taken_151 (by decide) ?_
    refine lv_iload_n hx hb dX7_taken_153 rfl (lv_at hl 1 rfl) ?_
    refine lv_iconst (v := 2) hx hb dX7_taken_154 (by decide) ?_
    refine lv_ishr hx hb dX7_taken_155 ?_
    refine lv_bipush (v := 7) hx hb dX7_taken_156 (by decide) ?_
    refine lv_iand hx hb dX7_taken_158 ?_
    refine lv_iadd hx hb dX7_taken_159 ?_
    exact K _ _ _ _ _ _ dX7_taken_160 rfl (Option.some.inj h).symm hP hD hS
  have h := nd_neg h c19
  by_cases c20 : v0 = 113
  · have h := nd_pos h c20
    refine lv_tableIn (off := 160) (tgt := 161) hx hb dX7_taken_1 (by rw [c20]; decide) (by rw [c20]; decide) (by rw [c20]; decide) (by decide) ?_
    refine lv_bipush (v := 8) hx hb dX7_taken_161 (by decide) ?_
    refine lv_iload_n hx hb dX7_taken_163 rfl (lv_at hl 1 rfl) ?_
    refine lv_bipush (v := 7) hx hb dX7_taken_164 (by decide) ?_
    refine lv_ishr hx hb dX7_taken_166 ?_
    refine lv_bipush (v := 7) hx hb dX7_taken_167 (by decide) ?_
    refine lv_iand hx hb dX7_taken_169 ?_
    refine lv_iadd hx hb dX7_taken_170 ?_
    exact K _ _ _ _ _ _ dX7_taken_171 rfl (Option.some.inj h).symm hP hD hS
  have h := nd_neg h c20
  by_cases c21 : v0 = 114
  · have h := nd_pos h c21
    refine lv_tableIn (off := 171) (tgt := 172) hx hb dX7_taken_1 (by rw [c21]; decide) (by rw [c21]; decide) (by rw [c21]; decide) (by decide) ?_
    exact (db_X7_taken_172 C K) (v0) (v1) s0 _ _ _ h hP hD hS (lv_sub hl [0, 1] rfl)
  have h := nd_neg h c21
  by_cases c22 : v0 = 115
  · have h := nd_pos h c22
    refine lv_tableIn (off := 143) (tgt := 144) hx hb dX7_taken_1 (by rw [c22]; decide) (by rw [c22]; decide) (by rw [c22]; decide) (by decide) ?_
    exact (db_X7_taken_144 C K) (v1) s0 _ _ _ h hP hD hS (lv_sub hl [1] rfl)
  have h := nd_neg h c22
  by_cases c23 : v0 = 116
  · have h := nd_pos h c23
    refine lv_tableIn (off := 171) (tgt := 172) hx hb dX7_taken_1 (by rw [c23]; decide) (by rw [c23]; decide) (by rw [c23]; decide) (by decide) ?_
    exact (db_X7_taken_172 C K) (v0) (v1) s0 _ _ _ h hP hD hS (lv_sub hl [0, 1] rfl)
  have h := nd_neg h c23
  by_cases c24 : v0 = 117
  · have h := nd_pos h c24
    refine lv_tableIn (off := 171) (tgt := 172) hx hb dX7_taken_1 (by rw [c24]; decide) (by rw [c24]; decide) (by rw [c24]; decide) (by decide) ?_
    exact (db_X7_taken_172 C K) (v0) (v1) s0 _ _ _ h hP hD hS (lv_sub hl [0, 1] rfl)
  have h := nd_neg h c24
  by_cases c25 : v0 = 118
  · have h := nd_pos h c25
    refine lv_tableIn (off := 171) (tgt := 172) hx hb dX7_taken_1 (by rw [c25]; decide) (by rw [c25]; decide) (by rw [c25]; decide) (by decide) ?_
    exact (db_X7_taken_172 C K) (v0) (v1) s0 _ _ _ h hP hD hS (lv_sub hl [0, 1] rfl)
  have h := nd_neg h c25
  by_cases c26 : v0 = 119
  · have h := nd_pos h c26
    refine lv_tableIn (off := 171) (tgt := 172) hx hb dX7_taken_1 (by rw [c26]; decide) (by rw [c26]; decide) (by rw [c26]; decide) (by decide) ?_
    exact (db_X7_taken_172 C K) (v0) (v1) s0 _ _ _ h hP hD hS (lv_sub hl [0, 1] rfl)
  have h := nd_neg h c26
  by_cases c27 : v0 = 120
  · have h := nd_pos h c27
    refine lv_tableIn (off := 171) (tgt := 172) hx hb dX7_taken_1 (by rw [c27]; decide) (by rw [c27]; decide) (by rw [c27]; decide) (by decide) ?_
    exact (db_X7_taken_172 C K) (v0) (v1) s0 _ _ _ h hP hD hS (lv_sub hl [0, 1] rfl)
  have h := nd_neg h c27
  by_cases c28 : v0 = 121
  · have h := nd_pos h c28
    refine lv_tableIn (off := 171) (tgt := 172) hx hb dX7_taken_1 (by rw [c28]; decide) (by rw [c28]; decide) (by rw [c28]; decide) (by decide) ?_
    exact (db_X7_taken_172 C K) (v0) (v1) s0 _ _ _ h hP hD hS (lv_sub hl [0, 1] rfl)
  have h := nd_neg h c28
  by_cases c29 : v0 = 122
  · have h := nd_pos h c29
    refine lv_tableIn (off := 143) (tgt := 144) hx hb dX7_taken_1 (by rw [c29]; decide) (by rw [c29]; decide) (by rw [c29]; decide) (by decide) ?_
    exact (db_X7_taken_144 C K) (v1) s0 _ _ _ h hP hD hS (lv_sub hl [1] rfl)
  have h := nd_neg h c29
  refine lv_tableOut (tgt := 172) hx hb dX7_taken_1 (by have g0 := nv_nei c1 (k := 97) (by decide); have g1 := nv_nei c2 (k := 98) (by decide); have g2 := nv_nei c3 (k := 99) (by decide); have g3 := nv_nei c7 (k := 100) (by decide); have g4 := nv_nei c8 (k := 101) (by decide); have g5 := nv_nei c9 (k := 102) (by decide); have g6 := nv_nei c10 (k := 103) (by decide); have g7 := nv_nei c11 (k := 104) (by decide); have g8 := nv_nei c12 (k := 105) (by decide); have g9 := nv_nei c13 (k := 106) (by decide); have g10 := nv_nei c14 (k := 107) (by decide); have g11 := nv_nei c15 (k := 108) (by decide); have g12 := nv_nei c16 (k := 109) (by decide); have g13 := nv_nei c17 (k := 110) (by decide); have g14 := nv_nei c18 (k := 111) (by decide); have g15 := nv_nei c19 (k := 112) (by decide); have g16 := nv_nei c20 (k := 113) (by decide); have g17 := nv_nei c21 (k := 114) (by decide); have g18 := nv_nei c22 (k := 115) (by decide); have g19 := nv_nei c23 (k := 116) (by decide); have g20 := nv_nei c24 (k := 117) (by decide); have g21 := nv_nei c25 (k := 118) (by decide); have g22 := nv_nei c26 (k := 119) (by decide); have g23 := nv_nei c27 (k := 120) (by decide); have g24 := nv_nei c28 (k := 121) (by decide); have g25 := nv_nei c29 (k := 122) (by decide); omega) (by decide) ?_
  exact (db_X7_taken_172 C K) (v0) (v1) s0 _ _ _ h hP hD hS (lv_sub hl [0, 1] rfl)
set_option maxHeartbeats 40000000 in
set_option maxRecDepth 100000 in
theorem dm_X7_taken (l : Launch) (hlt : l.stackTraces = false) (dC : Nat → ClassId) (dI : Nat → Nat → Nat) (a : Nat → Nat) (ac : Nat → ClassId) (n : Nat) (v0 : Int32) (v1 : Int32) (s0 : Unit) {r : Int32 × (Unit)} (h : df_X7_taken n v0 v1 s0 = some r) (sz : Nat) : Met l yX7_taken ow_dm_X7_taken ({ frames := 4, cells := 0, slots := 0, locals := 90 }) (va_Pc [.int v0, .int v1] (fun U => U.heap.size = sz ∧ va_P (dC, dI) vwCl (dw_P a ac s0) U.heap ∧ va_K (dC, dI) vwCl (dk_P ac) U ∧ va_D (fun _ => True) (dw_P a ac s0) ∧ nv_E dI (va_A (dw_P a ac s0) sz) U)) (va_Qi (fun x _ => x = r.1) (fun (_ : Unit) t => va_P (dC, dI) vwCl (dw_P a ac r.2) t.heap ∧ va_K (dC, dI) vwCl (dk_P ac) t ∧ va_D (va_A (dw_P a ac s0) sz) (dw_P a ac r.2)) (va_A (dw_P a ac s0) sz)) 0 0 (va_A (dw_P a ac s0) sz) := by
  refine Met.ofW (cc := cX7_taken) (maxL := 2) (ret := (some .int)) (by decide) rfl ?_
  intro p e s m args below meth c s₁ B hml hv
  obtain ⟨rfl, hsz, hP, hK, hD0, hN⟩ := hv
  have hx := B.exec
  have hb := B.bytes
  have hr := B.returns
  have hts := atoms_spec (ws := ow_dm_X7_taken) B.pre
  have hown : s.vm.findClass RX7 = some m.cls := findClass_of_methodNamed B.named
  have hlocks := B.notSynchronized
  subst hsz
  have hD := hD0.self (sz := s.heap.size)
  generalize hAe : va_A (dw_P a ac s0) s.heap.size = A at hD hN ⊢
  have hA : ∀ q : Nat, s.heap.size ≤ q → A q := fun q h => by rw [← hAe]; exact Or.inr h
  have hl := lv_entry ([.int v0, .int v1]) (n := 2) (Nat.le_of_ble_eq_true rfl)
  rw [lg_entry_eq]
  generalize (lg_sl ([.int v0, .int v1]) ++ List.replicate (2 - (lg_sl ([.int v0, .int v1])).length) Slot.unset).toArray = ls at hl ⊢
  have hl : lv_has ls 2 [(0, .int v0), (1, .int v1)] := hl
  exact db_X7_taken_0 (dC := dC) (dI := dI) (a := a) (ac := ac) (n := n) (r := r) ⟨hlt, hx, hb, hml, hown, hts, hN, hA, hK⟩ (fun pc v τ H locs ls d z er hP hD hS => by subst er; exact W.zret (v := v) hx hb hr z (fun t ht hW => ⟨⟨v, (), rfl, rfl, by rw [ht]; exact hP, va_K.moved hW.alike hK, hD⟩, hS.F ht⟩) hS.2.2 d) v0 v1 s0 _ _ _ h hP hD va_S.rf (lv_sub hl [0, 1] rfl)
def ow_dm_X7_makes : List Cond := Cond.code yX7_makes cX7_makes 6 (some .boolean) :: ([Cond.fieldLink RX7 416 "TimeMachine$Op" "bits" "I", Cond.fieldLink RX7 413 "TimeMachine$Op" "form" "Ljava/lang/String;", Cond.methodLink RX7 430 yJ0_length_8abf5, Cond.instanceMethod yJ0_length_8abf5, Cond.selects RJ0 yJ0_length_8abf5 yJ0_length_8abf5, Cond.initialized RJ0, Cond.methodLink RX7 436 yJ0_charAt_5068e, Cond.instanceMethod yJ0_charAt_5068e, Cond.selects RJ0 yJ0_charAt_5068e yJ0_charAt_5068e, Cond.methodLink RX7 511 yX7_taken, Cond.static yX7_taken, Cond.initialized RX7, Cond.methodLink RX7 480 yX7_fits, Cond.static yX7_fits, Cond.methodLink RX7 477 yX7_placed, Cond.static yX7_placed, Cond.constant RX7 442 (100663296)] ++ (ow_dm_J0_length_8abf5 ++ (ow_dm_J0_charAt_5068e ++ (ow_dm_X7_taken ++ (ow_dm_X7_fits ++ (ow_dm_X7_placed ++ []))))))
theorem gd_dm_X7_makes : ∀ w ∈ ow_dm_X7_makes, (w.onTables && w.keeps) = true ∨ ∃ ty, w = Cond.arrayClass ty := List.forall_mem_cons.mpr ⟨good_of_word rfl, List.forall_mem_append.mpr ⟨fun w h => good_of_word (List.all_eq_true.mp (by decide +kernel) w h), List.forall_mem_append.mpr ⟨gd_dm_J0_length_8abf5, List.forall_mem_append.mpr ⟨gd_dm_J0_charAt_5068e, List.forall_mem_append.mpr ⟨gd_dm_X7_taken, List.forall_mem_append.mpr ⟨gd_dm_X7_fits, List.forall_mem_append.mpr ⟨gd_dm_X7_placed, fun _ h => nomatch h⟩⟩⟩⟩⟩⟩⟩
theorem gi_dm_X7_makes_0 : GoodIn ow_dm_X7_makes (wsV RX7 430 RJ0 yJ0_length_8abf5 ow_dm_J0_length_8abf5) := goodIn_app (goodIn_of _ (by decide +kernel)) (fun w h => ⟨List.mem_cons_of_mem _ (List.mem_append_right _ (List.mem_append_left _ h)), gd_dm_J0_length_8abf5 w h⟩)
theorem gi_dm_X7_makes_1 : GoodIn ow_dm_X7_makes (wsV RX7 436 RJ0 yJ0_charAt_5068e ow_dm_J0_charAt_5068e) := goodIn_app (goodIn_of _ (by decide +kernel)) (fun w h => ⟨List.mem_cons_of_mem _ (List.mem_append_right _ (List.mem_append_right _ (List.mem_append_left _ h))), gd_dm_J0_charAt_5068e w h⟩)
theorem gi_dm_X7_makes_2 : GoodIn ow_dm_X7_makes (wsS RX7 511 yX7_taken ow_dm_X7_taken) := goodIn_app (goodIn_of _ (by decide +kernel)) (fun w h => ⟨List.mem_cons_of_mem _ (List.mem_append_right _ (List.mem_append_right _ (List.mem_append_right _ (List.mem_append_left _ h)))), gd_dm_X7_taken w h⟩)
theorem gi_dm_X7_makes_3 : GoodIn ow_dm_X7_makes (wsS RX7 480 yX7_fits ow_dm_X7_fits) := goodIn_app (goodIn_of _ (by decide +kernel)) (fun w h => ⟨List.mem_cons_of_mem _ (List.mem_append_right _ (List.mem_append_right _ (List.mem_append_right _ (List.mem_append_right _ (List.mem_append_left _ h))))), gd_dm_X7_fits w h⟩)
theorem gi_dm_X7_makes_4 : GoodIn ow_dm_X7_makes (wsS RX7 477 yX7_placed ow_dm_X7_placed) := goodIn_app (goodIn_of _ (by decide +kernel)) (fun w h => ⟨List.mem_cons_of_mem _ (List.mem_append_right _ (List.mem_append_right _ (List.mem_append_right _ (List.mem_append_right _ (List.mem_append_right _ (List.mem_append_left _ h)))))), gd_dm_X7_placed w h⟩)
def dj_X7_makes_33 (p : Program) (l : Launch) (e : Env) (s : State) (m : MethodId) (args : Array Value) (below : List Frame) (meth : Method) (c : Code) (Q : State → Prop) (A : Nat → Prop) (dC : Nat → ClassId) (dI : Nat → Nat → Nat) (a : Nat → Nat) (ac : Nat → ClassId) (g : (Unit) → Option (Int32 × (Unit))) (r : Int32 × (Unit)) : Prop := ∀ (s0 : Unit) (H : Heap) (locs : List Loc) (ls : Array Slot), g s0 = some r → va_P (dC, dI) vwCl (dw_P a ac s0) H → va_D A (dw_P a ac s0) → va_S A s.heap H locs → lv_has ls 6 [] → W p l e (headSpec ow_dm_X7_makes ({ frames := 5, cells := 0, slots := 0, locals := 111 })).room s m args below meth c H locs 0 0 Q (F0 m 33 ls [])
def dj_X7_makes_141 (p : Program) (l : Launch) (e : Env) (s : State) (m : MethodId) (args : Array Value) (below : List Frame) (meth : Method) (c : Code) (Q : State → Prop) (A : Nat → Prop) (dC : Nat → ClassId) (dI : Nat → Nat → Nat) (a : Nat → Nat) (ac : Nat → ClassId) (g : Int32 → (Unit) → Option (Int32 × (Unit))) (r : Int32 × (Unit)) : Prop := ∀ (y0 : Int32) (s0 : Unit) (H : Heap) (locs : List Loc) (ls : Array Slot), g y0 s0 = some r → va_P (dC, dI) vwCl (dw_P a ac s0) H → va_D A (dw_P a ac s0) → va_S A s.heap H locs → lv_has ls 6 [] → W p l e (headSpec ow_dm_X7_makes ({ frames := 5, cells := 0, slots := 0, locals := 111 })).room s m args below meth c H locs 0 0 Q (F0 m 141 ls [.int y0])
def dj_X7_makes_125 (p : Program) (l : Launch) (e : Env) (s : State) (m : MethodId) (args : Array Value) (below : List Frame) (meth : Method) (c : Code) (Q : State → Prop) (A : Nat → Prop) (dC : Nat → ClassId) (dI : Nat → Nat → Nat) (a : Nat → Nat) (ac : Nat → ClassId) (g : Nat → Int32 → Int32 → Int32 → (Unit) → Option (Int32 × (Unit))) (r : Int32 × (Unit)) : Prop := ∀ (x0 : Nat) (x1 : Int32) (x2 : Int32) (x3 : Int32) (s0 : Unit) (H : Heap) (locs : List Loc) (ls : Array Slot), g x0 x1 x2 x3 s0 = some r → va_P (dC, dI) vwCl (dw_P a ac s0) H → va_D A (dw_P a ac s0) → va_S A s.heap H locs → lv_has ls 6 [(0, .ref (dI 1002 x0)), (1, .int x1), (2, .int x2), (3, .int x3)] → W p l e (headSpec ow_dm_X7_makes ({ frames := 5, cells := 0, slots := 0, locals := 111 })).room s m args below meth c H locs 0 0 Q (F0 m 125 ls [])
def dj_X7_makes_67 (p : Program) (l : Launch) (e : Env) (s : State) (m : MethodId) (args : Array Value) (below : List Frame) (meth : Method) (c : Code) (Q : State → Prop) (A : Nat → Prop) (dC : Nat → ClassId) (dI : Nat → Nat → Nat) (a : Nat → Nat) (ac : Nat → ClassId) (g : Nat → Int32 → Int32 → Int32 → (Unit) → Option (Int32 × (Unit))) (r : Int32 × (Unit)) : Prop := ∀ (x0 : Nat) (x1 : Int32) (x2 : Int32) (x3 : Int32) (s0 : Unit) (H : Heap) (locs : List Loc) (ls : Array Slot), g x0 x1 x2 x3 s0 = some r → va_P (dC, dI) vwCl (dw_P a ac s0) H → va_D A (dw_P a ac s0) → va_S A s.heap H locs → lv_has ls 6 [(0, .ref (dI 1002 x0)), (1, .int x1), (2, .int x2), (3, .int x3)] → W p l e (headSpec ow_dm_X7_makes ({ frames := 5, cells := 0, slots := 0, locals := 111 })).room s m args below meth c H locs 0 0 Q (F0 m 67 ls [])
def dj_X7_makes_64 (p : Program) (l : Launch) (e : Env) (s : State) (m : MethodId) (args : Array Value) (below : List Frame) (meth : Method) (c : Code) (Q : State → Prop) (A : Nat → Prop) (dC : Nat → ClassId) (dI : Nat → Nat → Nat) (a : Nat → Nat) (ac : Nat → ClassId) (g : Nat → Int32 → Int32 → (Unit) → Option (Int32 × (Unit))) (r : Int32 × (Unit)) : Prop := ∀ (x0 : Nat) (x1 : Int32) (y0 : Int32) (s0 : Unit) (H : Heap) (locs : List Loc) (ls : Array Slot), g x0 x1 y0 s0 = some r → va_P (dC, dI) vwCl (dw_P a ac s0) H → va_D A (dw_P a ac s0) → va_S A s.heap H locs → lv_has ls 6 [(0, .ref (dI 1002 x0)), (1, .int x1)] → W p l e (headSpec ow_dm_X7_makes ({ frames := 5, cells := 0, slots := 0, locals := 111 })).room s m args below meth c H locs 0 0 Q (F0 m 64 ls [.int y0])
def dj_X7_makes_35 (p : Program) (l : Launch) (e : Env) (s : State) (m : MethodId) (args : Array Value) (below : List Frame) (meth : Method) (c : Code) (Q : State → Prop) (A : Nat → Prop) (dC : Nat → ClassId) (dI : Nat → Nat → Nat) (a : Nat → Nat) (ac : Nat → ClassId) (g : Nat → Int32 → (Unit) → Option (Int32 × (Unit))) (r : Int32 × (Unit)) : Prop := ∀ (x0 : Nat) (x1 : Int32) (s0 : Unit) (H : Heap) (locs : List Loc) (ls : Array Slot), g x0 x1 s0 = some r → va_P (dC, dI) vwCl (dw_P a ac s0) H → va_D A (dw_P a ac s0) → va_S A s.heap H locs → lv_has ls 6 [(0, .ref (dI 1002 x0)), (1, .int x1)] → W p l e (headSpec ow_dm_X7_makes ({ frames := 5, cells := 0, slots := 0, locals := 111 })).room s m args below meth c H locs 0 0 Q (F0 m 35 ls [])
def dj_X7_makes_0 (p : Program) (l : Launch) (e : Env) (s : State) (m : MethodId) (args : Array Value) (below : List Frame) (meth : Method) (c : Code) (Q : State → Prop) (A : Nat → Prop) (dC : Nat → ClassId) (dI : Nat → Nat → Nat) (a : Nat → Nat) (ac : Nat → ClassId) (g : Nat → Int32 → (Unit) → Option (Int32 × (Unit))) (r : Int32 × (Unit)) : Prop := ∀ (vt : Nat) (v0 : Int32) (s0 : Unit) (H : Heap) (locs : List Loc) (ls : Array Slot), g vt v0 s0 = some r → va_P (dC, dI) vwCl (dw_P a ac s0) H → va_D A (dw_P a ac s0) → va_S A s.heap H locs → lv_has ls 6 [(0, .ref (dI 1002 vt)), (1, .int v0)] → W p l e (headSpec ow_dm_X7_makes ({ frames := 5, cells := 0, slots := 0, locals := 111 })).room s m args below meth c H locs 0 0 Q (F0 m 0 ls [])
set_option maxHeartbeats 40000000 in
set_option maxRecDepth 100000 in
theorem db_X7_makes_33 {p : Program} {l : Launch} {e : Env} {s : State} {m : MethodId} {args : Array Value} {below : List Frame} {meth : Method} {c : Code} {Q : State → Prop} {A : Nat → Prop} {dC : Nat → ClassId} {dI : Nat → Nat → Nat} {a : Nat → Nat} {ac : Nat → ClassId} {n : Nat} {r : Int32 × (Unit)} (C : nd_C p l s m args c A (dC, dI) cX7_makes 6 RX7 ow_dm_X7_makes (dk_P ac)) (K : nd_Ki p l e (headSpec ow_dm_X7_makes ({ frames := 5, cells := 0, slots := 0, locals := 111 })).room s m args below meth c Q A (dC, dI) cX7_makes .boolean (Unit) (dw_P a ac) r) : dj_X7_makes_33 p l e s m args below meth c Q A dC dI a ac (df_X7_makes_33 n) r := by
  obtain ⟨hlt, hx, hb, hml, hown, hts, hN, hA, hK⟩ := id C
  intro s0 H locs ls h hP hD hS hl
  unfold df_X7_makes_33 at h
  refine lv_iconst (v := 0) hx hb dX7_makes_33 (by decide) ?_
  exact K _ _ _ _ _ _ dX7_makes_34 (by first | rfl | decide) (Option.some.inj h).symm hP hD hS
set_option maxHeartbeats 40000000 in
set_option maxRecDepth 100000 in
theorem db_X7_makes_141 {p : Program} {l : Launch} {e : Env} {s : State} {m : MethodId} {args : Array Value} {below : List Frame} {meth : Method} {c : Code} {Q : State → Prop} {A : Nat → Prop} {dC : Nat → ClassId} {dI : Nat → Nat → Nat} {a : Nat → Nat} {ac : Nat → ClassId} {n : Nat} {r : Int32 × (Unit)} (C : nd_C p l s m args c A (dC, dI) cX7_makes 6 RX7 ow_dm_X7_makes (dk_P ac)) (K : nd_Ki p l e (headSpec ow_dm_X7_makes ({ frames := 5, cells := 0, slots := 0, locals := 111 })).room s m args below meth c Q A (dC, dI) cX7_makes .boolean (Unit) (dw_P a ac) r) : dj_X7_makes_141 p l e s m args below meth c Q A dC dI a ac (df_X7_makes_141 n) r := by
  obtain ⟨hlt, hx, hb, hml, hown, hts, hN, hA, hK⟩ := id C
  intro y0 s0 H locs ls h hP hD hS hl
  unfold df_X7_makes_141 at h
  obtain ⟨n14, h⟩ := nd_z_e ⟨_, rfl⟩ h
  exact K _ _ _ _ _ _ dX7_makes_141 n14 (Option.some.inj h).symm hP hD hS
set_option maxHeartbeats 40000000 in
set_option maxRecDepth 100000 in
theorem db_X7_makes_125 {p : Program} {l : Launch} {e : Env} {s : State} {m : MethodId} {args : Array Value} {below : List Frame} {meth : Method} {c : Code} {Q : State → Prop} {A : Nat → Prop} {dC : Nat → ClassId} {dI : Nat → Nat → Nat} {a : Nat → Nat} {ac : Nat → ClassId} {n : Nat} {r : Int32 × (Unit)} (C : nd_C p l s m args c A (dC, dI) cX7_makes 6 RX7 ow_dm_X7_makes (dk_P ac)) (K : nd_Ki p l e (headSpec ow_dm_X7_makes ({ frames := 5, cells := 0, slots := 0, locals := 111 })).room s m args below meth c Q A (dC, dI) cX7_makes .boolean (Unit) (dw_P a ac) r) {g67 : Nat → Int32 → Int32 → Int32 → (Unit) → Option (Int32 × (Unit))} (J67 : dj_X7_makes_67 p l e s m args below meth c Q A dC dI a ac g67 r) : dj_X7_makes_125 p l e s m args below meth c Q A dC dI a ac (df_X7_makes_125 n g67) r := by
  obtain ⟨hlt, hx, hb, hml, hown, hts, hN, hA, hK⟩ := id C
  intro x0 x1 x2 x3 s0 H locs ls h hP hD hS hl
  unfold df_X7_makes_125 at h
  obtain ⟨z21, ez21, h⟩ := nd_let_e h
  refine lv_iinc (v := z21) (lv' := [(3, .int z21), (0, .ref (dI 1002 x0)), (1, .int x1), (2, .int x2)]) hx hb dX7_makes_125 hl (k := 3) rfl (by rw [ez21]) (by decide) rfl (fun ls hl => ?_)
  refine lv_goto (tgt := 67) hx hb dX7_makes_128 (by decide) ?_
  exact (J67) (x0) (x1) (x2) (z21) s0 _ _ _ h hP hD hS (lv_sub hl [1, 2, 3, 0] rfl)
set_option maxHeartbeats 40000000 in
set_option maxRecDepth 100000 in
theorem dB_X7_makes_67 {p : Program} {l : Launch} {e : Env} {s : State} {m : MethodId} {args : Array Value} {below : List Frame} {meth : Method} {c : Code} {Q : State → Prop} {A : Nat → Prop} {dC : Nat → ClassId} {dI : Nat → Nat → Nat} {a : Nat → Nat} {ac : Nat → ClassId} {n : Nat} {r : Int32 × (Unit)} (C : nd_C p l s m args c A (dC, dI) cX7_makes 6 RX7 ow_dm_X7_makes (dk_P ac)) (K : nd_Ki p l e (headSpec ow_dm_X7_makes ({ frames := 5, cells := 0, slots := 0, locals := 111 })).room s m args below meth c Q A (dC, dI) cX7_makes .boolean (Unit) (dw_P a ac) r) {g67 : Nat → Int32 → Int32 → Int32 → (Unit) → Option (Int32 × (Unit))} (J67 : dj_X7_makes_67 p l e s m args below meth c Q A dC dI a ac g67 r) : dj_X7_makes_67 p l e s m args below meth c Q A dC dI a ac (dF_X7_makes_67 n g67) r := by
  obtain ⟨hlt, hx, hb, hml, hown, hts, hN, hA, hK⟩ := id C
  intro x0 x1 x2 x3 s0 H locs ls h hP hD hS hl
  unfold dF_X7_makes_67 at h
  refine lv_iload_n hx hb dX7_makes_67 rfl (lv_at hl 3 rfl) ?_
  refine lv_aload_n hx hb dX7_makes_68 rfl (lv_at hl 0 rfl) ?_
  obtain ⟨i7, h⟩ := nd_lt_e h
  refine vk_getf hx hb (hN.2.2.2.2.2.2.2.2.2.2.2.2.2.2.1 x0 i7).2.2.2.1 hS hown (hts (.fieldLink RX7 413 "TimeMachine$Op" "form" "Ljava/lang/String;") (List.mem_of_getElem? (i := 2) rfl)) (fun _ h9 => h9) dX7_makes_69 ?_
  obtain ⟨i10, h⟩ := nd_lt_e h
  obtain ⟨q8, s9, hq, h⟩ := nd_b2_e h
  have hPc : va_P (dC, dI) vwCl (dw_P a ac ()) H := nd_p0
  have hDc : va_D A (dw_P a ac ()) := nd_d0
  have hKc : va_K (dC, dI) vwCl (dk_P ac) s := nd_y0 hK
  have hFc : ∀ q, va_A (dw_P a ac ()) H.size q → A q := nd_r0 hS hA
  refine nd_cVi (As := []) (rest := [.int x3]) (q := q8) (w' := dw_P a ac s9) ⟨hx, hb, hml, hown, hts⟩ (fun sz => dm_J0_length_8abf5 l hlt dC dI a ac n ((ko_f x0)) () hq sz) (cwV 0 hts gi_dm_X7_makes_0 rfl rfl rfl (by decide +kernel) ⟨Nat.le_of_ble_eq_true rfl, Nat.le_of_ble_eq_true rfl⟩) hPc hDc hKc hS hA hN (nv_rcv hN.2.2.2.2.2.2.2.2.2.2.2 i10 hS) rfl hl.1 rfl (Nat.le_of_ble_eq_true rfl) dX7_makes_72 (fun H locs hP1 hD1 hk1 hS => ?_)
  have hP := nd_n0 hP hk1
  refine lv_icmp_ge (tgt := 131) hx hb dX7_makes_75 (by decide) (fun c12 => ?_) (fun c12 => ?_)
  · have h := nd_pos h c12
    refine lv_iload_n hx hb dX7_makes_131 rfl (lv_at hl 2 rfl) ?_
    refine lv_iload_n hx hb dX7_makes_132 rfl (lv_at hl 1 rfl) ?_
    refine lv_icmp_ne (tgt := 140) hx hb dX7_makes_133 (by decide) (fun c13 => ?_) (fun c13 => ?_)
    · have h := nd_neg h c13
      refine lv_iconst (v := 0) hx hb dX7_makes_140 (by decide) ?_
      exact (db_X7_makes_141 C K) (0) s0 _ _ _ h hP hD hS (lv_sub hl [] rfl)
    · have h := nd_pos h c13
      refine lv_iconst (v := 1) hx hb dX7_makes_136 (by decide) ?_
      refine lv_goto (tgt := 141) hx hb dX7_makes_137 (by decide) ?_
      exact (db_X7_makes_141 C K) (1) s0 _ _ _ h hP hD hS (lv_sub hl [] rfl)
  · have h := nd_neg h c12
    refine lv_aload_n hx hb dX7_makes_78 rfl (lv_at hl 0 rfl) ?_
    obtain ⟨i15, h⟩ := nd_lt_e h
    refine vk_getf hx hb (hN.2.2.2.2.2.2.2.2.2.2.2.2.2.2.1 x0 i15).2.2.2.1 hS hown (hts (.fieldLink RX7 413 "TimeMachine$Op" "form" "Ljava/lang/String;") (List.mem_of_getElem? (i := 2) rfl)) (fun _ h9 => h9) dX7_makes_79 ?_
    refine lv_iload_n hx hb dX7_makes_82 rfl (lv_at hl 3 rfl) ?_
    obtain ⟨i18, h⟩ := nd_lt_e h
    obtain ⟨q16, s17, hq, h⟩ := nd_b2_e h
    have hPc : va_P (dC, dI) vwCl (dw_P a ac ()) H := nd_p0
    have hDc : va_D A (dw_P a ac ()) := nd_d0
    have hKc : va_K (dC, dI) vwCl (dk_P ac) s := nd_y0 hK
    have hFc : ∀ q, va_A (dw_P a ac ()) H.size q → A q := nd_r0 hS hA
    refine nd_cVi (As := [.int x3]) (rest := []) (q := q16) (w' := dw_P a ac s17) ⟨hx, hb, hml, hown, hts⟩ (fun sz => dm_J0_charAt_5068e l hlt dC dI a ac n ((ko_f x0)) (x3) () hq sz) (cwV 1 hts gi_dm_X7_makes_1 rfl rfl rfl (by decide +kernel) ⟨Nat.le_of_ble_eq_true rfl, Nat.le_of_ble_eq_true rfl⟩) hPc hDc hKc hS hA hN (nv_rcv hN.2.2.2.2.2.2.2.2.2.2.2 i18 hS) rfl hl.1 rfl (Nat.le_of_ble_eq_true rfl) dX7_makes_83 (fun H locs hP1 hD1 hk1 hS => ?_)
    have hP := nd_n0 hP hk1
    refine lv_istore (lv' := [(4, .int q16), (0, .ref (dI 1002 x0)), (1, .int x1), (2, .int x2), (3, .int x3)]) hx hb dX7_makes_86 hl (by decide) rfl (fun ls hl => ?_)
    refine lv_iload hx hb dX7_makes_88 (lv_at hl 0 rfl) ?_
    refine lv_bipush (v := 65) hx hb dX7_makes_90 (by decide) ?_
    refine lv_icmp_lt (tgt := 125) hx hb dX7_makes_92 (by decide) (fun c20 => ?_) (fun c20 => ?_)
    · have h := nd_pos h c20
      exact (db_X7_makes_125 C K J67) (x0) (x1) (x2) (x3) s0 _ _ _ h hP hD hS (lv_sub hl [1, 2, 3, 4] rfl)
    · have h := nd_neg h c20
      refine lv_iload hx hb dX7_makes_95 (lv_at hl 0 rfl) ?_
      refine lv_iload_n hx hb dX7_makes_97 rfl (lv_at hl 2 rfl) ?_
      obtain ⟨q22, s23, hq, h⟩ := nd_b2_e h
      have hPc : va_P (dC, dI) vwCl (dw_P a ac ()) H := nd_p0
      have hDc : va_D A (dw_P a ac ()) := nd_d0
      have hKc : va_K (dC, dI) vwCl (dk_P ac) s := nd_y0 hK
      have hFc : ∀ q, va_A (dw_P a ac ()) H.size q → A q := nd_r0 hS hA
      refine nd_cSi (As := [.int q16, .int x1]) (rest := []) (q := q22) (w' := dw_P a ac s23) ⟨hx, hb, hml, hown, hts⟩ (fun sz => dm_X7_taken l hlt dC dI a ac n (q16) (x1) () hq sz) (cwS 2 hts gi_dm_X7_makes_2 rfl rfl rfl (by decide +kernel) ⟨Nat.le_of_ble_eq_true rfl, Nat.le_of_ble_eq_true rfl⟩) hPc hDc hKc hS hA hN rfl hl.1 rfl (Nat.le_of_ble_eq_true rfl) dX7_makes_98 (fun H locs hP1 hD1 hk1 hS => ?_)
      have hP := nd_n0 hP hk1
      refine lv_istore (lv' := [(5, .int q22), (4, .int q16), (0, .ref (dI 1002 x0)), (1, .int x1), (2, .int x2), (3, .int x3)]) hx hb dX7_makes_101 hl (by decide) rfl (fun ls hl => ?_)
      refine lv_iload hx hb dX7_makes_103 (lv_at hl 1 rfl) ?_
      refine lv_iload hx hb dX7_makes_105 (lv_at hl 0 rfl) ?_
      obtain ⟨q25, s26, hq, h⟩ := nd_b2_e h
      have hPc : va_P (dC, dI) vwCl (dw_P a ac ()) H := nd_p0
      have hDc : va_D A (dw_P a ac ()) := nd_d0
      have hKc : va_K (dC, dI) vwCl (dk_P ac) s := nd_y0 hK
      have hFc : ∀ q, va_A (dw_P a ac ()) H.size q → A q := nd_r0 hS hA
      refine nd_cSi (As := [.int q16, .int q22]) (rest := []) (q := q25) (w' := dw_P a ac s26) ⟨hx, hb, hml, hown, hts⟩ (fun sz => dm_X7_fits l hlt dC dI a ac n (q16) (q22) () hq sz) (cwS 2 hts gi_dm_X7_makes_3 rfl rfl rfl (by decide +kernel) ⟨Nat.le_of_ble_eq_true rfl, Nat.le_of_ble_eq_true rfl⟩) hPc hDc hKc hS hA hN rfl hl.1 rfl (Nat.le_of_ble_eq_true rfl) dX7_makes_107 (fun H locs hP1 hD1 hk1 hS => ?_)
      have hP := nd_n0 hP hk1
      refine lv_if_ne (tgt := 115) hx hb dX7_makes_110 (by decide) (fun c28 => ?_) (fun c28 => ?_)
      · have h := nd_neg h c28
        refine lv_iload_n hx hb dX7_makes_115 rfl (lv_at hl 4 rfl) ?_
        refine lv_iload hx hb dX7_makes_116 (lv_at hl 1 rfl) ?_
        refine lv_iload hx hb dX7_makes_118 (lv_at hl 0 rfl) ?_
        obtain ⟨q29, s30, hq, h⟩ := nd_b2_e h
        have hPc : va_P (dC, dI) vwCl (dw_P a ac ()) H := nd_p0
        have hDc : va_D A (dw_P a ac ()) := nd_d0
        have hKc : va_K (dC, dI) vwCl (dk_P ac) s := nd_y0 hK
        have hFc : ∀ q, va_A (dw_P a ac ()) H.size q → A q := nd_r0 hS hA
        refine nd_cSi (As := [.int q16, .int q22]) (rest := [.int x2]) (q := q29) (w' := dw_P a ac s30) ⟨hx, hb, hml, hown, hts⟩ (fun sz => dm_X7_placed l hlt dC dI a ac n (q16) (q22) () hq sz) (cwS 2 hts gi_dm_X7_makes_4 rfl rfl rfl (by decide +kernel) ⟨Nat.le_of_ble_eq_true rfl, Nat.le_of_ble_eq_true rfl⟩) hPc hDc hKc hS hA hN rfl hl.1 rfl (Nat.le_of_ble_eq_true rfl) dX7_makes_120 (fun H locs hP1 hD1 hk1 hS => ?_)
        have hP := nd_n0 hP hk1
        refine lv_ior hx hb dX7_makes_123 ?_
        refine lv_topi (fun z32 ez32 => ?_)
        have h := nd_at h ez32
        refine lv_istore_n (lv' := [(2, .int z32), (5, .int q22), (4, .int q16), (0, .ref (dI 1002 x0)), (1, .int x1), (3, .int x3)]) hx hb dX7_makes_124 rfl hl (by decide) rfl (fun ls hl => ?_)
        exact (db_X7_makes_125 C K J67) (x0) (x1) (z32) (x3) s0 _ _ _ h hP hD hS (lv_sub hl [3, 4, 0, 5] rfl)
      · have h := nd_pos h c28
        refine lv_iconst (v := 0) hx hb dX7_makes_113 (by decide) ?_
        exact K _ _ _ _ _ _ dX7_makes_114 (by first | rfl | decide) (Option.some.inj h).symm hP hD hS
set_option maxHeartbeats 40000000 in
set_option maxRecDepth 100000 in
theorem db_X7_makes_67 {p : Program} {l : Launch} {e : Env} {s : State} {m : MethodId} {args : Array Value} {below : List Frame} {meth : Method} {c : Code} {Q : State → Prop} {A : Nat → Prop} {dC : Nat → ClassId} {dI : Nat → Nat → Nat} {a : Nat → Nat} {ac : Nat → ClassId} {n : Nat} {r : Int32 × (Unit)} (C : nd_C p l s m args c A (dC, dI) cX7_makes 6 RX7 ow_dm_X7_makes (dk_P ac)) (K : nd_Ki p l e (headSpec ow_dm_X7_makes ({ frames := 5, cells := 0, slots := 0, locals := 111 })).room s m args below meth c Q A (dC, dI) cX7_makes .boolean (Unit) (dw_P a ac) r) (k : Nat) : dj_X7_makes_67 p l e s m args below meth c Q A dC dI a ac (df_X7_makes_67 n k) r := by
  induction k with
  | zero => intro x0 x1 x2 x3 s0 H locs ls h; exact nomatch (show (none : Option (Int32 × (Unit))) = some r from h)
  | succ k ih => exact dB_X7_makes_67 C K ih
set_option maxHeartbeats 40000000 in
set_option maxRecDepth 100000 in
theorem db_X7_makes_64 {p : Program} {l : Launch} {e : Env} {s : State} {m : MethodId} {args : Array Value} {below : List Frame} {meth : Method} {c : Code} {Q : State → Prop} {A : Nat → Prop} {dC : Nat → ClassId} {dI : Nat → Nat → Nat} {a : Nat → Nat} {ac : Nat → ClassId} {n : Nat} {r : Int32 × (Unit)} (C : nd_C p l s m args c A (dC, dI) cX7_makes 6 RX7 ow_dm_X7_makes (dk_P ac)) (K : nd_Ki p l e (headSpec ow_dm_X7_makes ({ frames := 5, cells := 0, slots := 0, locals := 111 })).room s m args below meth c Q A (dC, dI) cX7_makes .boolean (Unit) (dw_P a ac) r) : dj_X7_makes_64 p l e s m args below meth c Q A dC dI a ac (df_X7_makes_64 n) r := by
  obtain ⟨hlt, hx, hb, hml, hown, hts, hN, hA, hK⟩ := id C
  intro x0 x1 y0 s0 H locs ls h hP hD hS hl
  unfold df_X7_makes_64 at h
  refine lv_istore_n (lv' := [(2, .int y0), (0, .ref (dI 1002 x0)), (1, .int x1)]) hx hb dX7_makes_64 rfl hl (by decide) rfl (fun ls hl => ?_)
  refine lv_iconst (v := 0) hx hb dX7_makes_65 (by decide) ?_
  refine lv_istore_n (lv' := [(3, .int 0), (2, .int y0), (0, .ref (dI 1002 x0)), (1, .int x1)]) hx hb dX7_makes_66 rfl hl (by decide) rfl (fun ls hl => ?_)
  exact (db_X7_makes_67 C K n) (x0) (x1) (y0) (0) s0 _ _ _ h hP hD hS (lv_sub hl [2, 3, 1, 0] rfl)
set_option maxHeartbeats 40000000 in
set_option maxRecDepth 100000 in
theorem db_X7_makes_35 {p : Program} {l : Launch} {e : Env} {s : State} {m : MethodId} {args : Array Value} {below : List Frame} {meth : Method} {c : Code} {Q : State → Prop} {A : Nat → Prop} {dC : Nat → ClassId} {dI : Nat → Nat → Nat} {a : Nat → Nat} {ac : Nat → ClassId} {n : Nat} {r : Int32 × (Unit)} (C : nd_C p l s m args c A (dC, dI) cX7_makes 6 RX7 ow_dm_X7_makes (dk_P ac)) (K : nd_Ki p l e (headSpec ow_dm_X7_makes ({ frames := 5, cells := 0, slots := 0, locals := 111 })).room s m args below meth c Q A (dC, dI) cX7_makes .boolean (Unit) (dw_P a ac) r) : dj_X7_makes_35 p l e s m args below meth c Q A dC dI a ac (df_X7_makes_35 n) r := by
  obtain ⟨hlt, hx, hb, hml, hown, hts, hN, hA, hK⟩ := id C
  intro x0 x1 s0 H locs ls h hP hD hS hl
  unfold df_X7_makes_35 at h
  refine lv_aload_n hx hb dX7_makes_35 rfl (lv_at hl 0 rfl) ?_
  obtain ⟨i4, h⟩ := nd_lt_e h
  refine vk_getf hx hb (hN.2.2.2.2.2.2.2.2.2.2.2.2.2.2.1 x0 i4).2.2.2.2.1 hS hown (hts (.fieldLink RX7 416 "TimeMachine$Op" "bits" "I") (List.mem_of_getElem? (i := 1) rfl)) (fun _ h9 => h9) dX7_makes_36 ?_
  refine lv_bipush (v := 127) hx hb dX7_makes_39 (by decide) ?_
  refine lv_iand hx hb dX7_makes_41 ?_
  refine lv_bipush (v := 47) hx hb dX7_makes_42 (by decide) ?_
  refine lv_icmp_ne (tgt := 60) hx hb dX7_makes_44 (by decide) (fun c5 => ?_) (fun c5 => ?_)
  · have h := nd_neg h c5
    refine lv_aload_n hx hb dX7_makes_60 rfl (lv_at hl 0 rfl) ?_
    obtain ⟨i6, h⟩ := nd_lt_e h
    refine vk_getf hx hb (hN.2.2.2.2.2.2.2.2.2.2.2.2.2.2.1 x0 i6).2.2.2.2.1 hS hown (hts (.fieldLink RX7 416 "TimeMachine$Op" "bits" "I") (List.mem_of_getElem? (i := 1) rfl)) (fun _ h9 => h9) dX7_makes_61 ?_
    exact (db_X7_makes_64 C K) (x0) (x1) ((ko_b x0)) s0 _ _ _ h hP hD hS (lv_sub hl [0, 1] rfl)
  · have h := nd_pos h c5
    refine lv_aload_n hx hb dX7_makes_47 rfl (lv_at hl 0 rfl) ?_
    obtain ⟨i33, h⟩ := nd_lt_e h
    refine vk_getf hx hb (hN.2.2.2.2.2.2.2.2.2.2.2.2.2.2.1 x0 i33).2.2.2.2.1 hS hown (hts (.fieldLink RX7 416 "TimeMachine$Op" "bits" "I") (List.mem_of_getElem? (i := 1) rfl)) (fun _ h9 => h9) dX7_makes_48 ?_
    refine lv_iload_n hx hb dX7_makes_51 rfl (lv_at hl 1 rfl) ?_
    refine lv_ldcw hx hb hown (hts (.constant RX7 442 (100663296)) (List.mem_of_getElem? (i := 17) rfl)) dX7_makes_52 ?_
    refine lv_iand hx hb dX7_makes_55 ?_
    refine lv_ior hx hb dX7_makes_56 ?_
    refine lv_goto (tgt := 64) hx hb dX7_makes_57 (by decide) ?_
    exact (db_X7_makes_64 C K) (x0) (x1) (((ko_b x0) ||| (x1 &&& 100663296))) s0 _ _ _ h hP hD hS (lv_sub hl [0, 1] rfl)
set_option maxHeartbeats 40000000 in
set_option maxRecDepth 100000 in
theorem db_X7_makes_0 {p : Program} {l : Launch} {e : Env} {s : State} {m : MethodId} {args : Array Value} {below : List Frame} {meth : Method} {c : Code} {Q : State → Prop} {A : Nat → Prop} {dC : Nat → ClassId} {dI : Nat → Nat → Nat} {a : Nat → Nat} {ac : Nat → ClassId} {n : Nat} {r : Int32 × (Unit)} (C : nd_C p l s m args c A (dC, dI) cX7_makes 6 RX7 ow_dm_X7_makes (dk_P ac)) (K : nd_Ki p l e (headSpec ow_dm_X7_makes ({ frames := 5, cells := 0, slots := 0, locals := 111 })).room s m args below meth c Q A (dC, dI) cX7_makes .boolean (Unit) (dw_P a ac) r) : dj_X7_makes_0 p l e s m args below meth c Q A dC dI a ac (df_X7_makes_0 n) r := by
  obtain ⟨hlt, hx, hb, hml, hown, hts, hN, hA, hK⟩ := id C
  intro vt v0 s0 H locs ls h hP hD hS hl
  unfold df_X7_makes_0 at h
  refine lv_iload_n hx hb dX7_makes_0 rfl (lv_at hl 1 rfl) ?_
  refine lv_iconst (v := 3) hx hb dX7_makes_1 (by decide) ?_
  refine lv_iand hx hb dX7_makes_2 ?_
  refine lv_aload_n hx hb dX7_makes_3 rfl (lv_at hl 0 rfl) ?_
  obtain ⟨i1, h⟩ := nd_lt_e h
  refine vk_getf hx hb (hN.2.2.2.2.2.2.2.2.2.2.2.2.2.2.1 vt i1).2.2.2.2.1 hS hown (hts (.fieldLink RX7 416 "TimeMachine$Op" "bits" "I") (List.mem_of_getElem? (i := 1) rfl)) (fun _ h9 => h9) dX7_makes_4 ?_
  refine lv_iconst (v := 3) hx hb dX7_makes_7 (by decide) ?_
  refine lv_iand hx hb dX7_makes_8 ?_
  refine lv_icmp_ne (tgt := 33) hx hb dX7_makes_9 (by decide) (fun c2 => ?_) (fun c2 => ?_)
  · have h := nd_neg h c2
    exact (db_X7_makes_33 C K)  s0 _ _ _ h hP hD hS (lv_sub hl [] rfl)
  · have h := nd_pos h c2
    refine lv_iload_n hx hb dX7_makes_12 rfl (lv_at hl 1 rfl) ?_
    refine lv_iconst (v := 3) hx hb dX7_makes_13 (by decide) ?_
    refine lv_iand hx hb dX7_makes_14 ?_
    refine lv_iconst (v := 3) hx hb dX7_makes_15 (by decide) ?_
    refine lv_icmp_ne (tgt := 35) hx hb dX7_makes_16 (by decide) (fun c3 => ?_) (fun c3 => ?_)
    · have h := nd_neg h c3
      exact (db_X7_makes_35 C K) (vt) (v0) s0 _ _ _ h hP hD hS (lv_sub hl [0, 1] rfl)
    · have h := nd_pos h c3
      refine lv_iload_n hx hb dX7_makes_19 rfl (lv_at hl 1 rfl) ?_
      refine lv_bipush (v := 127) hx hb dX7_makes_20 (by decide) ?_
      refine lv_iand hx hb dX7_makes_22 ?_
      refine lv_aload_n hx hb dX7_makes_23 rfl (lv_at hl 0 rfl) ?_
      obtain ⟨i34, h⟩ := nd_lt_e h
      refine vk_getf hx hb (hN.2.2.2.2.2.2.2.2.2.2.2.2.2.2.1 vt i34).2.2.2.2.1 hS hown (hts (.fieldLink RX7 416 "TimeMachine$Op" "bits" "I") (List.mem_of_getElem? (i := 1) rfl)) (fun _ h9 => h9) dX7_makes_24 ?_
      refine lv_bipush (v := 127) hx hb dX7_makes_27 (by decide) ?_
      refine lv_iand hx hb dX7_makes_29 ?_
      refine lv_icmp_eq (tgt := 35) hx hb dX7_makes_30 (by decide) (fun c35 => ?_) (fun c35 => ?_)
      · have h := nd_pos h c35
        exact (db_X7_makes_35 C K) (vt) (v0) s0 _ _ _ h hP hD hS (lv_sub hl [0, 1] rfl)
      · have h := nd_neg h c35
        exact (db_X7_makes_33 C K)  s0 _ _ _ h hP hD hS (lv_sub hl [] rfl)
set_option maxHeartbeats 40000000 in
set_option maxRecDepth 100000 in
theorem dm_X7_makes (l : Launch) (hlt : l.stackTraces = false) (dC : Nat → ClassId) (dI : Nat → Nat → Nat) (a : Nat → Nat) (ac : Nat → ClassId) (n : Nat) (vt : Nat) (v0 : Int32) (s0 : Unit) {r : Int32 × (Unit)} (h : df_X7_makes n vt v0 s0 = some r) (sz : Nat) : Met l yX7_makes ow_dm_X7_makes ({ frames := 5, cells := 0, slots := 0, locals := 111 }) (va_Pc [.ref (dI 1002 vt), .int v0] (fun U => U.heap.size = sz ∧ va_P (dC, dI) vwCl (dw_P a ac s0) U.heap ∧ va_K (dC, dI) vwCl (dk_P ac) U ∧ va_D (fun _ => True) (dw_P a ac s0) ∧ nv_E dI (va_A (dw_P a ac s0) sz) U)) (va_Qi (fun x _ => x = r.1) (fun (_ : Unit) t => va_P (dC, dI) vwCl (dw_P a ac r.2) t.heap ∧ va_K (dC, dI) vwCl (dk_P ac) t ∧ va_D (va_A (dw_P a ac s0) sz) (dw_P a ac r.2)) (va_A (dw_P a ac s0) sz)) 0 0 (va_A (dw_P a ac s0) sz) := by
  refine Met.ofW (cc := cX7_makes) (maxL := 6) (ret := (some .boolean)) (by decide) rfl ?_
  intro p e s m args below meth c s₁ B hml hv
  obtain ⟨rfl, hsz, hP, hK, hD0, hN⟩ := hv
  have hx := B.exec
  have hb := B.bytes
  have hr := B.returns
  have hts := atoms_spec (ws := ow_dm_X7_makes) B.pre
  have hown : s.vm.findClass RX7 = some m.cls := findClass_of_methodNamed B.named
  have hlocks := B.notSynchronized
  subst hsz
  have hD := hD0.self (sz := s.heap.size)
  generalize hAe : va_A (dw_P a ac s0) s.heap.size = A at hD hN ⊢
  have hA : ∀ q : Nat, s.heap.size ≤ q → A q := fun q h => by rw [← hAe]; exact Or.inr h
  have hl := lv_entry ([.ref (dI 1002 vt), .int v0]) (n := 6) (Nat.le_of_ble_eq_true rfl)
  rw [lg_entry_eq]
  generalize (lg_sl ([.ref (dI 1002 vt), .int v0]) ++ List.replicate (6 - (lg_sl ([.ref (dI 1002 vt), .int v0])).length) Slot.unset).toArray = ls at hl ⊢
  have hl : lv_has ls 6 [(0, .ref (dI 1002 vt)), (1, .int v0)] := hl
  exact db_X7_makes_0 (dC := dC) (dI := dI) (a := a) (ac := ac) (n := n) (r := r) ⟨hlt, hx, hb, hml, hown, hts, hN, hA, hK⟩ (fun pc v τ H locs ls d z er hP hD hS => by subst er; exact W.zret (v := v) hx hb hr z (fun t ht hW => ⟨⟨v, (), rfl, rfl, by rw [ht]; exact hP, va_K.moved hW.alike hK, hD⟩, hS.F ht⟩) hS.2.2 d) vt v0 s0 _ _ _ h hP hD va_S.rf (lv_sub hl [0, 1] rfl)
def ow_dm_X8_startDescription : List Cond := Cond.code yX8_startDescription cX8_startDescription 4 none :: ([Cond.fieldLink RX8 28 "TimeMachine$Program" "textSize" "I", Cond.fieldLink RX8 32 "TimeMachine$Program" "dataStart" "I", Cond.fieldLink RX8 35 "TimeMachine$Program" "size" "I", Cond.fieldLink RX8 38 "TimeMachine$Program" "labels" "I", Cond.fieldLink RX8 41 "TimeMachine$Program" "statements" "I"] ++ (u_ws RX8 TX8 10 ++ []))
theorem gd_dm_X8_startDescription : ∀ w ∈ ow_dm_X8_startDescription, (w.onTables && w.keeps) = true ∨ ∃ ty, w = Cond.arrayClass ty := List.forall_mem_cons.mpr ⟨good_of_word rfl, List.forall_mem_append.mpr ⟨fun w h => good_of_word (List.all_eq_true.mp (by decide +kernel) w h), List.forall_mem_append.mpr ⟨gu_X8, fun _ h => nomatch h⟩⟩⟩
theorem hi_dm_X8_startDescription_X8 : ∀ w ∈ u_ws RX8 TX8 10, w ∈ ow_dm_X8_startDescription := fun w h => List.mem_cons_of_mem _ (List.mem_append_right _ (List.mem_append_left _ h))
def dj_X8_startDescription_0 (p : Program) (l : Launch) (e : Env) (s : State) (m : MethodId) (args : Array Value) (below : List Frame) (meth : Method) (c : Code) (Q : State → Prop) (A : Nat → Prop) (dC : Nat → ClassId) (dI : Nat → Nat → Nat) (a : Nat → Nat) (ac : Nat → ClassId) (g : Int32 → Int32 → Int32 → (St) → Option (St)) (r : St) : Prop := ∀ (v0 : Int32) (v1 : Int32) (v2 : Int32) (s0 : St) (H : Heap) (locs : List Loc) (ls : Array Slot), g v0 v1 v2 s0 = some r → va_P (dC, dI) vwCl (dw_X8 a ac s0) H → va_D A (dw_X8 a ac s0) → va_S A s.heap H locs → lv_has ls 4 [(0, .ref (a 0)), (1, .int v0), (2, .int v1), (3, .int v2)] → W p l e (headSpec ow_dm_X8_startDescription ({ frames := 0, cells := 0, slots := 0, locals := 0 })).room s m args below meth c H locs 0 0 Q (F0 m 0 ls [])
set_option maxHeartbeats 40000000 in
set_option maxRecDepth 100000 in
theorem db_X8_startDescription_0 {p : Program} {l : Launch} {e : Env} {s : State} {m : MethodId} {args : Array Value} {below : List Frame} {meth : Method} {c : Code} {Q : State → Prop} {A : Nat → Prop} {dC : Nat → ClassId} {dI : Nat → Nat → Nat} {a : Nat → Nat} {ac : Nat → ClassId} {n : Nat} {r : St} (C : nd_C p l s m args c A (dC, dI) cX8_startDescription 4 RX8 ow_dm_X8_startDescription (dk_X8 ac)) (K : nd_Kv p l e (headSpec ow_dm_X8_startDescription ({ frames := 0, cells := 0, slots := 0, locals := 0 })).room s m args below meth c Q A (dC, dI) cX8_startDescription (St) (dw_X8 a ac) r) : dj_X8_startDescription_0 p l e s m args below meth c Q A dC dI a ac (df_X8_startDescription_0 n) r := by
  obtain ⟨hlt, hx, hb, hml, hown, hts, hN, hA, hK⟩ := id C
  intro v0 v1 v2 s0 H locs ls h hP hD hS hl
  unfold df_X8_startDescription_0 at h
  refine lv_aload_n hx hb dX8_startDescription_0 rfl (lv_at hl 0 rfl) ?_
  refine lv_iload_n hx hb dX8_startDescription_1 rfl (lv_at hl 1 rfl) ?_
  refine va_put (D := (dC, dI)) (ci := 9) (v := .int v0) (ty := .int) (C := RX8) (T := TX8) (N := 10) hx hb hts hi_dm_X8_startDescription_X8 tyX8 tyX8_ok nmX8 hown hK hP hD hS 0 rfl rfl 1 (by decide) (hts (.fieldLink RX8 28 "TimeMachine$Program" "textSize" "I") (List.mem_of_getElem? (i := 1) rfl)) (fun _ h9 => h9) rfl (by decide +kernel) rfl rfl (Nat.le_of_ble_eq_true rfl) dX8_startDescription_2 (fun H locs hP hD hS => ?_)
  obtain ⟨s1, es1, h⟩ := nd_let_e h
  have hP : va_P (dC, dI) vwCl (dw_X8 a ac s1) H := by rw [es1]; exact hP
  have hD : va_D A (dw_X8 a ac s1) := by rw [es1]; exact hD
  refine lv_aload_n hx hb dX8_startDescription_5 rfl (lv_at hl 0 rfl) ?_
  refine lv_iload_n hx hb dX8_startDescription_6 rfl (lv_at hl 2 rfl) ?_
  refine va_put (D := (dC, dI)) (ci := 9) (v := .int v1) (ty := .int) (C := RX8) (T := TX8) (N := 10) hx hb hts hi_dm_X8_startDescription_X8 tyX8 tyX8_ok nmX8 hown hK hP hD hS 0 rfl rfl 2 (by decide) (hts (.fieldLink RX8 32 "TimeMachine$Program" "dataStart" "I") (List.mem_of_getElem? (i := 2) rfl)) (fun _ h9 => h9) rfl (by decide +kernel) rfl rfl (Nat.le_of_ble_eq_true rfl) dX8_startDescription_7 (fun H locs hP hD hS => ?_)
  obtain ⟨s2, es2, h⟩ := nd_let_e h
  have hP : va_P (dC, dI) vwCl (dw_X8 a ac s2) H := by rw [es2]; exact hP
  have hD : va_D A (dw_X8 a ac s2) := by rw [es2]; exact hD
  refine lv_aload_n hx hb dX8_startDescription_10 rfl (lv_at hl 0 rfl) ?_
  refine lv_iload_n hx hb dX8_startDescription_11 rfl (lv_at hl 3 rfl) ?_
  refine va_put (D := (dC, dI)) (ci := 9) (v := .int v2) (ty := .int) (C := RX8) (T := TX8) (N := 10) hx hb hts hi_dm_X8_startDescription_X8 tyX8 tyX8_ok nmX8 hown hK hP hD hS 0 rfl rfl 3 (by decide) (hts (.fieldLink RX8 35 "TimeMachine$Program" "size" "I") (List.mem_of_getElem? (i := 3) rfl)) (fun _ h9 => h9) rfl (by decide +kernel) rfl rfl (Nat.le_of_ble_eq_true rfl) dX8_startDescription_12 (fun H locs hP hD hS => ?_)
  obtain ⟨s3, es3, h⟩ := nd_let_e h
  have hP : va_P (dC, dI) vwCl (dw_X8 a ac s3) H := by rw [es3]; exact hP
  have hD : va_D A (dw_X8 a ac s3) := by rw [es3]; exact hD
  refine lv_aload_n hx hb dX8_startDescription_15 rfl (lv_at hl 0 rfl) ?_
  refine lv_iconst (v := 0) hx hb dX8_startDescription_16 (by decide) ?_
  refine va_put (D := (dC, dI)) (ci := 9) (v := .int 0) (ty := .int) (C := RX8) (T := TX8) (N := 10) hx hb hts hi_dm_X8_startDescription_X8 tyX8 tyX8_ok nmX8 hown hK hP hD hS 0 rfl rfl 6 (by decide) (hts (.fieldLink RX8 38 "TimeMachine$Program" "labels" "I") (List.mem_of_getElem? (i := 4) rfl)) (fun _ h9 => h9) rfl (by decide +kernel) rfl rfl (Nat.le_of_ble_eq_true rfl) dX8_startDescription_17 (fun H locs hP hD hS => ?_)
  obtain ⟨s4, es4, h⟩ := nd_let_e h
  have hP : va_P (dC, dI) vwCl (dw_X8 a ac s4) H := by rw [es4]; exact hP
  have hD : va_D A (dw_X8 a ac s4) := by rw [es4]; exact hD
  refine lv_aload_n hx hb dX8_startDescription_20 rfl (lv_at hl 0 rfl) ?_
  refine lv_iconst (v := 0) hx hb dX8_startDescription_21 (by decide) ?_
  refine va_put (D := (dC, dI)) (ci := 9) (v := .int 0) (ty := .int) (C := RX8) (T := TX8) (N := 10) hx hb hts hi_dm_X8_startDescription_X8 tyX8 tyX8_ok nmX8 hown hK hP hD hS 0 rfl rfl 9 (by decide) (hts (.fieldLink RX8 41 "TimeMachine$Program" "statements" "I") (List.mem_of_getElem? (i := 5) rfl)) (fun _ h9 => h9) rfl (by decide +kernel) rfl rfl (Nat.le_of_ble_eq_true rfl) dX8_startDescription_22 (fun H locs hP hD hS => ?_)
  obtain ⟨s5, es5, h⟩ := nd_let_e h
  have hP : va_P (dC, dI) vwCl (dw_X8 a ac s5) H := by rw [es5]; exact hP
  have hD : va_D A (dw_X8 a ac s5) := by rw [es5]; exact hD
  exact K _ _ _ _ _ dX8_startDescription_25 (Option.some.inj h).symm hP hD hS
set_option maxHeartbeats 40000000 in
set_option maxRecDepth 100000 in
theorem dm_X8_startDescription (l : Launch) (hlt : l.stackTraces = false) (dC : Nat → ClassId) (dI : Nat → Nat → Nat) (a : Nat → Nat) (ac : Nat → ClassId) (n : Nat) (v0 : Int32) (v1 : Int32) (v2 : Int32) (s0 : St) {r : St} (h : df_X8_startDescription n v0 v1 v2 s0 = some r) (sz : Nat) : Met l yX8_startDescription ow_dm_X8_startDescription ({ frames := 0, cells := 0, slots := 0, locals := 0 }) (va_Pc [.ref (a 0), .int v0, .int v1, .int v2] (fun U => U.heap.size = sz ∧ va_P (dC, dI) vwCl (dw_X8 a ac s0) U.heap ∧ va_K (dC, dI) vwCl (dk_X8 ac) U ∧ va_D (fun _ => True) (dw_X8 a ac s0) ∧ nv_E dI (va_A (dw_X8 a ac s0) sz) U)) (va_Qv (fun _ => True) (fun (_ : Unit) t => va_P (dC, dI) vwCl (dw_X8 a ac r) t.heap ∧ va_K (dC, dI) vwCl (dk_X8 ac) t ∧ va_D (va_A (dw_X8 a ac s0) sz) (dw_X8 a ac r)) (va_A (dw_X8 a ac s0) sz)) 0 0 (va_A (dw_X8 a ac s0) sz) := by
  refine Met.ofW (cc := cX8_startDescription) (maxL := 4) (ret := none) (by decide) rfl ?_
  intro p e s m args below meth c s₁ B hml hv
  obtain ⟨rfl, hsz, hP, hK, hD0, hN⟩ := hv
  have hx := B.exec
  have hb := B.bytes
  have hr := B.returns
  have hts := atoms_spec (ws := ow_dm_X8_startDescription) B.pre
  have hown : s.vm.findClass RX8 = some m.cls := findClass_of_methodNamed B.named
  have hlocks := B.notSynchronized
  subst hsz
  have hD := hD0.self (sz := s.heap.size)
  generalize hAe : va_A (dw_X8 a ac s0) s.heap.size = A at hD hN ⊢
  have hA : ∀ q : Nat, s.heap.size ≤ q → A q := fun q h => by rw [← hAe]; exact Or.inr h
  have hl := lv_entry ([.ref (a 0), .int v0, .int v1, .int v2]) (n := 4) (Nat.le_of_ble_eq_true rfl)
  rw [lg_entry_eq]
  generalize (lg_sl ([.ref (a 0), .int v0, .int v1, .int v2]) ++ List.replicate (4 - (lg_sl ([.ref (a 0), .int v0, .int v1, .int v2])).length) Slot.unset).toArray = ls at hl ⊢
  have hl : lv_has ls 4 [(0, .ref (a 0)), (1, .int v0), (2, .int v1), (3, .int v2)] := hl
  exact db_X8_startDescription_0 (dC := dC) (dI := dI) (a := a) (ac := ac) (n := n) (r := r) ⟨hlt, hx, hb, hml, hown, hts, hN, hA, hK⟩ (fun pc τ H locs ls d er hP hD hS => by subst er; exact W.vret hx hb hr (fun t ht hW => ⟨⟨(), rfl, trivial, by rw [ht]; exact hP, va_K.moved hW.alike hK, hD⟩, hS.F ht⟩) hS.2.2 d) v0 v1 v2 s0 _ _ _ h hP hD va_S.rf (lv_sub hl [0, 1, 2, 3] rfl)
def ow_dm_X8_addLabel : List Cond := Cond.code yX8_addLabel cX8_addLabel 2 none :: ([Cond.fieldLink RX8 38 "TimeMachine$Program" "labels" "I", Cond.fieldLink RX8 16 "TimeMachine$Program" "label" "[I"] ++ (u_ws RX8 TX8 10 ++ []))
theorem gd_dm_X8_addLabel : ∀ w ∈ ow_dm_X8_addLabel, (w.onTables && w.keeps) = true ∨ ∃ ty, w = Cond.arrayClass ty := List.forall_mem_cons.mpr ⟨good_of_word rfl, List.forall_mem_append.mpr ⟨fun w h => good_of_word (List.all_eq_true.mp (by decide +kernel) w h), List.forall_mem_append.mpr ⟨gu_X8, fun _ h => nomatch h⟩⟩⟩
theorem hi_dm_X8_addLabel_X8 : ∀ w ∈ u_ws RX8 TX8 10, w ∈ ow_dm_X8_addLabel := fun w h => List.mem_cons_of_mem _ (List.mem_append_right _ (List.mem_append_left _ h))
def dj_X8_addLabel_32 (p : Program) (l : Launch) (e : Env) (s : State) (m : MethodId) (args : Array Value) (below : List Frame) (meth : Method) (c : Code) (Q : State → Prop) (A : Nat → Prop) (dC : Nat → ClassId) (dI : Nat → Nat → Nat) (a : Nat → Nat) (ac : Nat → ClassId) (g : (St) → Option (St)) (r : St) : Prop := ∀ (s0 : St) (H : Heap) (locs : List Loc) (ls : Array Slot), g s0 = some r → va_P (dC, dI) vwCl (dw_X8 a ac s0) H → va_D A (dw_X8 a ac s0) → va_S A s.heap H locs → lv_has ls 2 [] → W p l e (headSpec ow_dm_X8_addLabel ({ frames := 0, cells := 0, slots := 0, locals := 0 })).room s m args below meth c H locs 0 0 Q (F0 m 32 ls [])
def dj_X8_addLabel_0 (p : Program) (l : Launch) (e : Env) (s : State) (m : MethodId) (args : Array Value) (below : List Frame) (meth : Method) (c : Code) (Q : State → Prop) (A : Nat → Prop) (dC : Nat → ClassId) (dI : Nat → Nat → Nat) (a : Nat → Nat) (ac : Nat → ClassId) (g : Int32 → (St) → Option (St)) (r : St) : Prop := ∀ (v0 : Int32) (s0 : St) (H : Heap) (locs : List Loc) (ls : Array Slot), g v0 s0 = some r → va_P (dC, dI) vwCl (dw_X8 a ac s0) H → va_D A (dw_X8 a ac s0) → va_S A s.heap H locs → lv_has ls 2 [(0, .ref (a 0)), (1, .int v0)] → W p l e (headSpec ow_dm_X8_addLabel ({ frames := 0, cells := 0, slots := 0, locals := 0 })).room s m args below meth c H locs 0 0 Q (F0 m 0 ls [])
set_option maxHeartbeats 40000000 in
set_option maxRecDepth 100000 in
theorem db_X8_addLabel_32 {p : Program} {l : Launch} {e : Env} {s : State} {m : MethodId} {args : Array Value} {below : List Frame} {meth : Method} {c : Code} {Q : State → Prop} {A : Nat → Prop} {dC : Nat → ClassId} {dI : Nat → Nat → Nat} {a : Nat → Nat} {ac : Nat → ClassId} {n : Nat} {r : St} (C : nd_C p l s m args c A (dC, dI) cX8_addLabel 2 RX8 ow_dm_X8_addLabel (dk_X8 ac)) (K : nd_Kv p l e (headSpec ow_dm_X8_addLabel ({ frames := 0, cells := 0, slots := 0, locals := 0 })).room s m args below meth c Q A (dC, dI) cX8_addLabel (St) (dw_X8 a ac) r) : dj_X8_addLabel_32 p l e s m args below meth c Q A dC dI a ac (df_X8_addLabel_32 n) r := by
  obtain ⟨hlt, hx, hb, hml, hown, hts, hN, hA, hK⟩ := id C
  intro s0 H locs ls h hP hD hS hl
  unfold df_X8_addLabel_32 at h
  exact K _ _ _ _ _ dX8_addLabel_32 (Option.some.inj h).symm hP hD hS
set_option maxHeartbeats 40000000 in
set_option maxRecDepth 100000 in
theorem db_X8_addLabel_0 {p : Program} {l : Launch} {e : Env} {s : State} {m : MethodId} {args : Array Value} {below : List Frame} {meth : Method} {c : Code} {Q : State → Prop} {A : Nat → Prop} {dC : Nat → ClassId} {dI : Nat → Nat → Nat} {a : Nat → Nat} {ac : Nat → ClassId} {n : Nat} {r : St} (C : nd_C p l s m args c A (dC, dI) cX8_addLabel 2 RX8 ow_dm_X8_addLabel (dk_X8 ac)) (K : nd_Kv p l e (headSpec ow_dm_X8_addLabel ({ frames := 0, cells := 0, slots := 0, locals := 0 })).room s m args below meth c Q A (dC, dI) cX8_addLabel (St) (dw_X8 a ac) r) : dj_X8_addLabel_0 p l e s m args below meth c Q A dC dI a ac (df_X8_addLabel_0 n) r := by
  obtain ⟨hlt, hx, hb, hml, hown, hts, hN, hA, hK⟩ := id C
  intro v0 s0 H locs ls h hP hD hS hl
  unfold df_X8_addLabel_0 at h
  refine lv_aload_n hx hb dX8_addLabel_0 rfl (lv_at hl 0 rfl) ?_
  refine va_get (D := (dC, dI)) (ci := 9) (v := .int (sI s0 4)) (C := RX8) (T := TX8) (N := 10) hx hb hts hi_dm_X8_addLabel_X8 hown hK hP 0 rfl rfl 6 (by decide) (hts (.fieldLink RX8 38 "TimeMachine$Program" "labels" "I") (List.mem_of_getElem? (i := 1) rfl)) (fun _ h9 => h9) rfl dX8_addLabel_1 ?_
  refine lv_aload_n hx hb dX8_addLabel_4 rfl (lv_at hl 0 rfl) ?_
  refine va_get (D := (dC, dI)) (ci := 9) (v := .ref (a 2)) (C := RX8) (T := TX8) (N := 10) hx hb hts hi_dm_X8_addLabel_X8 hown hK hP 0 rfl rfl 5 (by decide) (hts (.fieldLink RX8 16 "TimeMachine$Program" "label" "[I") (List.mem_of_getElem? (i := 2) rfl)) (fun _ h9 => h9) rfl dX8_addLabel_5 ?_
  refine va_alen (v := 10986) hx hb hK hP 2 1 rfl rfl (show Int32.ofNat 10986 = 10986 by decide) dX8_addLabel_8 ?_
  refine lv_icmp_ge (tgt := 32) hx hb dX8_addLabel_9 (by decide) (fun c1 => ?_) (fun c1 => ?_)
  · have h := nd_pos h c1
    exact (db_X8_addLabel_32 C K)  s0 _ _ _ h hP hD hS (lv_sub hl [] rfl)
  · have h := nd_neg h c1
    refine lv_aload_n hx hb dX8_addLabel_12 rfl (lv_at hl 0 rfl) ?_
    refine va_get (D := (dC, dI)) (ci := 9) (v := .ref (a 2)) (C := RX8) (T := TX8) (N := 10) hx hb hts hi_dm_X8_addLabel_X8 hown hK hP 0 rfl rfl 5 (by decide) (hts (.fieldLink RX8 16 "TimeMachine$Program" "label" "[I") (List.mem_of_getElem? (i := 2) rfl)) (fun _ h9 => h9) rfl dX8_addLabel_13 ?_
    refine lv_aload_n hx hb dX8_addLabel_16 rfl (lv_at hl 0 rfl) ?_
    refine va_get (D := (dC, dI)) (ci := 9) (v := .int (sI s0 4)) (C := RX8) (T := TX8) (N := 10) hx hb hts hi_dm_X8_addLabel_X8 hown hK hP 0 rfl rfl 6 (by decide) (hts (.fieldLink RX8 38 "TimeMachine$Program" "labels" "I") (List.mem_of_getElem? (i := 1) rfl)) (fun _ h9 => h9) rfl dX8_addLabel_17 ?_
    refine lv_iload_n hx hb dX8_addLabel_20 rfl (lv_at hl 1 rfl) ?_
    obtain ⟨i2, h⟩ := nd_ck_e h
    refine va_iast (i := (sI s0 4)) (x := v0) hx hb hK hP hD hS 2 1 rfl rfl i2 dX8_addLabel_21 (fun H locs hP hD hS => ?_)
    obtain ⟨s3, es3, h⟩ := nd_let_e h
    have hP : va_P (dC, dI) vwCl (dw_X8 a ac s3) H := by rw [es3]; exact hP
    have hD : va_D A (dw_X8 a ac s3) := by rw [es3]; exact hD
    refine lv_aload_n hx hb dX8_addLabel_22 rfl (lv_at hl 0 rfl) ?_
    refine lv_dup hx hb dX8_addLabel_23 rfl ?_
    refine va_get (D := (dC, dI)) (ci := 9) (v := .int (sI s3 4)) (C := RX8) (T := TX8) (N := 10) hx hb hts hi_dm_X8_addLabel_X8 hown hK hP 0 rfl rfl 6 (by decide) (hts (.fieldLink RX8 38 "TimeMachine$Program" "labels" "I") (List.mem_of_getElem? (i := 1) rfl)) (fun _ h9 => h9) rfl dX8_addLabel_24 ?_
    refine lv_iconst (v := 1) hx hb dX8_addLabel_27 (by decide) ?_
    refine lv_iadd hx hb dX8_addLabel_28 ?_
    refine va_put (D := (dC, dI)) (ci := 9) (v := .int ((sI s3 4) + 1)) (ty := .int) (C := RX8) (T := TX8) (N := 10) hx hb hts hi_dm_X8_addLabel_X8 tyX8 tyX8_ok nmX8 hown hK hP hD hS 0 rfl rfl 6 (by decide) (hts (.fieldLink RX8 38 "TimeMachine$Program" "labels" "I") (List.mem_of_getElem? (i := 1) rfl)) (fun _ h9 => h9) rfl (by decide +kernel) rfl rfl (Nat.le_of_ble_eq_true rfl) dX8_addLabel_29 (fun H locs hP hD hS => ?_)
    obtain ⟨s4, es4, h⟩ := nd_let_e h
    have hP : va_P (dC, dI) vwCl (dw_X8 a ac s4) H := by rw [es4]; exact hP
    have hD : va_D A (dw_X8 a ac s4) := by rw [es4]; exact hD
    exact (db_X8_addLabel_32 C K)  s4 _ _ _ h hP hD hS (lv_sub hl [] rfl)
set_option maxHeartbeats 40000000 in
set_option maxRecDepth 100000 in
theorem dm_X8_addLabel (l : Launch) (hlt : l.stackTraces = false) (dC : Nat → ClassId) (dI : Nat → Nat → Nat) (a : Nat → Nat) (ac : Nat → ClassId) (n : Nat) (v0 : Int32) (s0 : St) {r : St} (h : df_X8_addLabel n v0 s0 = some r) (sz : Nat) : Met l yX8_addLabel ow_dm_X8_addLabel ({ frames := 0, cells := 0, slots := 0, locals := 0 }) (va_Pc [.ref (a 0), .int v0] (fun U => U.heap.size = sz ∧ va_P (dC, dI) vwCl (dw_X8 a ac s0) U.heap ∧ va_K (dC, dI) vwCl (dk_X8 ac) U ∧ va_D (fun _ => True) (dw_X8 a ac s0) ∧ nv_E dI (va_A (dw_X8 a ac s0) sz) U)) (va_Qv (fun _ => True) (fun (_ : Unit) t => va_P (dC, dI) vwCl (dw_X8 a ac r) t.heap ∧ va_K (dC, dI) vwCl (dk_X8 ac) t ∧ va_D (va_A (dw_X8 a ac s0) sz) (dw_X8 a ac r)) (va_A (dw_X8 a ac s0) sz)) 0 0 (va_A (dw_X8 a ac s0) sz) := by
  refine Met.ofW (cc := cX8_addLabel) (maxL := 2) (ret := none) (by decide) rfl ?_
  intro p e s m args below meth c s₁ B hml hv
  obtain ⟨rfl, hsz, hP, hK, hD0, hN⟩ := hv
  have hx := B.exec
  have hb := B.bytes
  have hr := B.returns
  have hts := atoms_spec (ws := ow_dm_X8_addLabel) B.pre
  have hown : s.vm.findClass RX8 = some m.cls := findClass_of_methodNamed B.named
  have hlocks := B.notSynchronized
  subst hsz
  have hD := hD0.self (sz := s.heap.size)
  generalize hAe : va_A (dw_X8 a ac s0) s.heap.size = A at hD hN ⊢
  have hA : ∀ q : Nat, s.heap.size ≤ q → A q := fun q h => by rw [← hAe]; exact Or.inr h
  have hl := lv_entry ([.ref (a 0), .int v0]) (n := 2) (Nat.le_of_ble_eq_true rfl)
  rw [lg_entry_eq]
  generalize (lg_sl ([.ref (a 0), .int v0]) ++ List.replicate (2 - (lg_sl ([.ref (a 0), .int v0])).length) Slot.unset).toArray = ls at hl ⊢
  have hl : lv_has ls 2 [(0, .ref (a 0)), (1, .int v0)] := hl
  exact db_X8_addLabel_0 (dC := dC) (dI := dI) (a := a) (ac := ac) (n := n) (r := r) ⟨hlt, hx, hb, hml, hown, hts, hN, hA, hK⟩ (fun pc τ H locs ls d er hP hD hS => by subst er; exact W.vret hx hb hr (fun t ht hW => ⟨⟨(), rfl, trivial, by rw [ht]; exact hP, va_K.moved hW.alike hK, hD⟩, hS.F ht⟩) hS.2.2 d) v0 s0 _ _ _ h hP hD va_S.rf (lv_sub hl [0, 1] rfl)
def ow_dm_X8_addStatement : List Cond := Cond.code yX8_addStatement cX8_addStatement 3 none :: ([Cond.fieldLink RX8 41 "TimeMachine$Program" "statements" "I", Cond.fieldLink RX8 22 "TimeMachine$Program" "start" "[I", Cond.fieldLink RX8 25 "TimeMachine$Program" "line" "[I"] ++ (u_ws RX8 TX8 10 ++ []))
theorem gd_dm_X8_addStatement : ∀ w ∈ ow_dm_X8_addStatement, (w.onTables && w.keeps) = true ∨ ∃ ty, w = Cond.arrayClass ty := List.forall_mem_cons.mpr ⟨good_of_word rfl, List.forall_mem_append.mpr ⟨fun w h => good_of_word (List.all_eq_true.mp (by decide +kernel) w h), List.forall_mem_append.mpr ⟨gu_X8, fun _ h => nomatch h⟩⟩⟩
theorem hi_dm_X8_addStatement_X8 : ∀ w ∈ u_ws RX8 TX8 10, w ∈ ow_dm_X8_addStatement := fun w h => List.mem_cons_of_mem _ (List.mem_append_right _ (List.mem_append_left _ h))
def dj_X8_addStatement_42 (p : Program) (l : Launch) (e : Env) (s : State) (m : MethodId) (args : Array Value) (below : List Frame) (meth : Method) (c : Code) (Q : State → Prop) (A : Nat → Prop) (dC : Nat → ClassId) (dI : Nat → Nat → Nat) (a : Nat → Nat) (ac : Nat → ClassId) (g : (St) → Option (St)) (r : St) : Prop := ∀ (s0 : St) (H : Heap) (locs : List Loc) (ls : Array Slot), g s0 = some r → va_P (dC, dI) vwCl (dw_X8 a ac s0) H → va_D A (dw_X8 a ac s0) → va_S A s.heap H locs → lv_has ls 3 [] → W p l e (headSpec ow_dm_X8_addStatement ({ frames := 0, cells := 0, slots := 0, locals := 0 })).room s m args below meth c H locs 0 0 Q (F0 m 42 ls [])
def dj_X8_addStatement_0 (p : Program) (l : Launch) (e : Env) (s : State) (m : MethodId) (args : Array Value) (below : List Frame) (meth : Method) (c : Code) (Q : State → Prop) (A : Nat → Prop) (dC : Nat → ClassId) (dI : Nat → Nat → Nat) (a : Nat → Nat) (ac : Nat → ClassId) (g : Int32 → Int32 → (St) → Option (St)) (r : St) : Prop := ∀ (v0 : Int32) (v1 : Int32) (s0 : St) (H : Heap) (locs : List Loc) (ls : Array Slot), g v0 v1 s0 = some r → va_P (dC, dI) vwCl (dw_X8 a ac s0) H → va_D A (dw_X8 a ac s0) → va_S A s.heap H locs → lv_has ls 3 [(0, .ref (a 0)), (1, .int v0), (2, .int v1)] → W p l e (headSpec ow_dm_X8_addStatement ({ frames := 0, cells := 0, slots := 0, locals := 0 })).room s m args below meth c H locs 0 0 Q (F0 m 0 ls [])
set_option maxHeartbeats 40000000 in
set_option maxRecDepth 100000 in
theorem db_X8_addStatement_42 {p : Program} {l : Launch} {e : Env} {s : State} {m : MethodId} {args : Array Value} {below : List Frame} {meth : Method} {c : Code} {Q : State → Prop} {A : Nat → Prop} {dC : Nat → ClassId} {dI : Nat → Nat → Nat} {a : Nat → Nat} {ac : Nat → ClassId} {n : Nat} {r : St} (C : nd_C p l s m args c A (dC, dI) cX8_addStatement 3 RX8 ow_dm_X8_addStatement (dk_X8 ac)) (K : nd_Kv p l e (headSpec ow_dm_X8_addStatement ({ frames := 0, cells := 0, slots := 0, locals := 0 })).room s m args below meth c Q A (dC, dI) cX8_addStatement (St) (dw_X8 a ac) r) : dj_X8_addStatement_42 p l e s m args below meth c Q A dC dI a ac (df_X8_addStatement_42 n) r := by
  obtain ⟨hlt, hx, hb, hml, hown, hts, hN, hA, hK⟩ := id C
  intro s0 H locs ls h hP hD hS hl
  unfold df_X8_addStatement_42 at h
  exact K _ _ _ _ _ dX8_addStatement_42 (Option.some.inj h).symm hP hD hS
set_option maxHeartbeats 40000000 in
set_option maxRecDepth 100000 in
theorem db_X8_addStatement_0 {p : Program} {l : Launch} {e : Env} {s : State} {m : MethodId} {args : Array Value} {below : List Frame} {meth : Method} {c : Code} {Q : State → Prop} {A : Nat → Prop} {dC : Nat → ClassId} {dI : Nat → Nat → Nat} {a : Nat → Nat} {ac : Nat → ClassId} {n : Nat} {r : St} (C : nd_C p l s m args c A (dC, dI) cX8_addStatement 3 RX8 ow_dm_X8_addStatement (dk_X8 ac)) (K : nd_Kv p l e (headSpec ow_dm_X8_addStatement ({ frames := 0, cells := 0, slots := 0, locals := 0 })).room s m args below meth c Q A (dC, dI) cX8_addStatement (St) (dw_X8 a ac) r) : dj_X8_addStatement_0 p l e s m args below meth c Q A dC dI a ac (df_X8_addStatement_0 n) r := by
  obtain ⟨hlt, hx, hb, hml, hown, hts, hN, hA, hK⟩ := id C
  intro v0 v1 s0 H locs ls h hP hD hS hl
  unfold df_X8_addStatement_0 at h
  refine lv_aload_n hx hb dX8_addStatement_0 rfl (lv_at hl 0 rfl) ?_
  refine va_get (D := (dC, dI)) (ci := 9) (v := .int (sI s0 5)) (C := RX8) (T := TX8) (N := 10) hx hb hts hi_dm_X8_addStatement_X8 hown hK hP 0 rfl rfl 9 (by decide) (hts (.fieldLink RX8 41 "TimeMachine$Program" "statements" "I") (List.mem_of_getElem? (i := 1) rfl)) (fun _ h9 => h9) rfl dX8_addStatement_1 ?_
  refine lv_aload_n hx hb dX8_addStatement_4 rfl (lv_at hl 0 rfl) ?_
  refine va_get (D := (dC, dI)) (ci := 9) (v := .ref (a 3)) (C := RX8) (T := TX8) (N := 10) hx hb hts hi_dm_X8_addStatement_X8 hown hK hP 0 rfl rfl 7 (by decide) (hts (.fieldLink RX8 22 "TimeMachine$Program" "start" "[I") (List.mem_of_getElem? (i := 2) rfl)) (fun _ h9 => h9) rfl dX8_addStatement_5 ?_
  refine va_alen (v := 8194) hx hb hK hP 3 2 rfl rfl (show Int32.ofNat 8194 = 8194 by decide) dX8_addStatement_8 ?_
  refine lv_icmp_ge (tgt := 42) hx hb dX8_addStatement_9 (by decide) (fun c1 => ?_) (fun c1 => ?_)
  · have h := nd_pos h c1
    exact (db_X8_addStatement_42 C K)  s0 _ _ _ h hP hD hS (lv_sub hl [] rfl)
  · have h := nd_neg h c1
    refine lv_aload_n hx hb dX8_addStatement_12 rfl (lv_at hl 0 rfl) ?_
    refine va_get (D := (dC, dI)) (ci := 9) (v := .ref (a 3)) (C := RX8) (T := TX8) (N := 10) hx hb hts hi_dm_X8_addStatement_X8 hown hK hP 0 rfl rfl 7 (by decide) (hts (.fieldLink RX8 22 "TimeMachine$Program" "start" "[I") (List.mem_of_getElem? (i := 2) rfl)) (fun _ h9 => h9) rfl dX8_addStatement_13 ?_
    refine lv_aload_n hx hb dX8_addStatement_16 rfl (lv_at hl 0 rfl) ?_
    refine va_get (D := (dC, dI)) (ci := 9) (v := .int (sI s0 5)) (C := RX8) (T := TX8) (N := 10) hx hb hts hi_dm_X8_addStatement_X8 hown hK hP 0 rfl rfl 9 (by decide) (hts (.fieldLink RX8 41 "TimeMachine$Program" "statements" "I") (List.mem_of_getElem? (i := 1) rfl)) (fun _ h9 => h9) rfl dX8_addStatement_17 ?_
    refine lv_iload_n hx hb dX8_addStatement_20 rfl (lv_at hl 1 rfl) ?_
    obtain ⟨i2, h⟩ := nd_ck_e h
    refine va_iast (i := (sI s0 5)) (x := v0) hx hb hK hP hD hS 3 2 rfl rfl i2 dX8_addStatement_21 (fun H locs hP hD hS => ?_)
    obtain ⟨s3, es3, h⟩ := nd_let_e h
    have hP : va_P (dC, dI) vwCl (dw_X8 a ac s3) H := by rw [es3]; exact hP
    have hD : va_D A (dw_X8 a ac s3) := by rw [es3]; exact hD
    refine lv_aload_n hx hb dX8_addStatement_22 rfl (lv_at hl 0 rfl) ?_
    refine va_get (D := (dC, dI)) (ci := 9) (v := .ref (a 4)) (C := RX8) (T := TX8) (N := 10) hx hb hts hi_dm_X8_addStatement_X8 hown hK hP 0 rfl rfl 8 (by decide) (hts (.fieldLink RX8 25 "TimeMachine$Program" "line" "[I") (List.mem_of_getElem? (i := 3) rfl)) (fun _ h9 => h9) rfl dX8_addStatement_23 ?_
    refine lv_aload_n hx hb dX8_addStatement_26 rfl (lv_at hl 0 rfl) ?_
    refine va_get (D := (dC, dI)) (ci := 9) (v := .int (sI s3 5)) (C := RX8) (T := TX8) (N := 10) hx hb hts hi_dm_X8_addStatement_X8 hown hK hP 0 rfl rfl 9 (by decide) (hts (.fieldLink RX8 41 "TimeMachine$Program" "statements" "I") (List.mem_of_getElem? (i := 1) rfl)) (fun _ h9 => h9) rfl dX8_addStatement_27 ?_
    refine lv_iload_n hx hb dX8_addStatement_30 rfl (lv_at hl 2 rfl) ?_
    obtain ⟨i4, h⟩ := nd_ck_e h
    refine va_iast (i := (sI s3 5)) (x := v1) hx hb hK hP hD hS 4 3 rfl rfl i4 dX8_addStatement_31 (fun H locs hP hD hS => ?_)
    obtain ⟨s5, es5, h⟩ := nd_let_e h
    have hP : va_P (dC, dI) vwCl (dw_X8 a ac s5) H := by rw [es5]; exact hP
    have hD : va_D A (dw_X8 a ac s5) := by rw [es5]; exact hD
    refine lv_aload_n hx hb dX8_addStatement_32 rfl (lv_at hl 0 rfl) ?_
    refine lv_dup hx hb dX8_addStatement_33 rfl ?_
    refine va_get (D := (dC, dI)) (ci := 9) (v := .int (sI s5 5)) (C := RX8) (T := TX8) (N := 10) hx hb hts hi_dm_X8_addStatement_X8 hown hK hP 0 rfl rfl 9 (by decide) (hts (.fieldLink RX8 41 "TimeMachine$Program" "statements" "I") (List.mem_of_getElem? (i := 1) rfl)) (fun _ h9 => h9) rfl dX8_addStatement_34 ?_
    refine lv_iconst (v := 1) hx hb dX8_addStatement_37 (by decide) ?_
    refine lv_iadd hx hb dX8_addStatement_38 ?_
    refine va_put (D := (dC, dI)) (ci := 9) (v := .int ((sI s5 5) + 1)) (ty := .int) (C := RX8) (T := TX8) (N := 10) hx hb hts hi_dm_X8_addStatement_X8 tyX8 tyX8_ok nmX8 hown hK hP hD hS 0 rfl rfl 9 (by decide) (hts (.fieldLink RX8 41 "TimeMachine$Program" "statements" "I") (List.mem_of_getElem? (i := 1) rfl)) (fun _ h9 => h9) rfl (by decide +kernel) rfl rfl (Nat.le_of_ble_eq_true rfl) dX8_addStatement_39 (fun H locs hP hD hS => ?_)
    obtain ⟨s6, es6, h⟩ := nd_let_e h
    have hP : va_P (dC, dI) vwCl (dw_X8 a ac s6) H := by rw [es6]; exact hP
    have hD : va_D A (dw_X8 a ac s6) := by rw [es6]; exact hD
    exact (db_X8_addStatement_42 C K)  s6 _ _ _ h hP hD hS (lv_sub hl [] rfl)
set_option maxHeartbeats 40000000 in
set_option maxRecDepth 100000 in
theorem dm_X8_addStatement (l : Launch) (hlt : l.stackTraces = false) (dC : Nat → ClassId) (dI : Nat → Nat → Nat) (a : Nat → Nat) (ac : Nat → ClassId) (n : Nat) (v0 : Int32) (v1 : Int32) (s0 : St) {r : St} (h : df_X8_addStatement n v0 v1 s0 = some r) (sz : Nat) : Met l yX8_addStatement ow_dm_X8_addStatement ({ frames := 0, cells := 0, slots := 0, locals := 0 }) (va_Pc [.ref (a 0), .int v0, .int v1] (fun U => U.heap.size = sz ∧ va_P (dC, dI) vwCl (dw_X8 a ac s0) U.heap ∧ va_K (dC, dI) vwCl (dk_X8 ac) U ∧ va_D (fun _ => True) (dw_X8 a ac s0) ∧ nv_E dI (va_A (dw_X8 a ac s0) sz) U)) (va_Qv (fun _ => True) (fun (_ : Unit) t => va_P (dC, dI) vwCl (dw_X8 a ac r) t.heap ∧ va_K (dC, dI) vwCl (dk_X8 ac) t ∧ va_D (va_A (dw_X8 a ac s0) sz) (dw_X8 a ac r)) (va_A (dw_X8 a ac s0) sz)) 0 0 (va_A (dw_X8 a ac s0) sz) := by
  refine Met.ofW (cc := cX8_addStatement) (maxL := 3) (ret := none) (by decide) rfl ?_
  intro p e s m args below meth c s₁ B hml hv
  obtain ⟨rfl, hsz, hP, hK, hD0, hN⟩ := hv
  have hx := B.exec
  have hb := B.bytes
  have hr := B.returns
  have hts := atoms_spec (ws := ow_dm_X8_addStatement) B.pre
  have hown : s.vm.findClass RX8 = some m.cls := findClass_of_methodNamed B.named
  have hlocks := B.notSynchronized
  subst hsz
  have hD := hD0.self (sz := s.heap.size)
  generalize hAe : va_A (dw_X8 a ac s0) s.heap.size = A at hD hN ⊢
  have hA : ∀ q : Nat, s.heap.size ≤ q → A q := fun q h => by rw [← hAe]; exact Or.inr h
  have hl := lv_entry ([.ref (a 0), .int v0, .int v1]) (n := 3) (Nat.le_of_ble_eq_true rfl)
  rw [lg_entry_eq]
  generalize (lg_sl ([.ref (a 0), .int v0, .int v1]) ++ List.replicate (3 - (lg_sl ([.ref (a 0), .int v0, .int v1])).length) Slot.unset).toArray = ls at hl ⊢
  have hl : lv_has ls 3 [(0, .ref (a 0)), (1, .int v0), (2, .int v1)] := hl
  exact db_X8_addStatement_0 (dC := dC) (dI := dI) (a := a) (ac := ac) (n := n) (r := r) ⟨hlt, hx, hb, hml, hown, hts, hN, hA, hK⟩ (fun pc τ H locs ls d er hP hD hS => by subst er; exact W.vret hx hb hr (fun t ht hW => ⟨⟨(), rfl, trivial, by rw [ht]; exact hP, va_K.moved hW.alike hK, hD⟩, hS.F ht⟩) hS.2.2 d) v0 v1 s0 _ _ _ h hP hD va_S.rf (lv_sub hl [0, 1, 2] rfl)
def ow_dm_X8_textPages : List Cond := Cond.code yX8_textPages cX8_textPages 1 (some .int) :: ([Cond.fieldLink RX8 28 "TimeMachine$Program" "textSize" "I"] ++ (u_ws RX8 TX8 10 ++ []))
theorem gd_dm_X8_textPages : ∀ w ∈ ow_dm_X8_textPages, (w.onTables && w.keeps) = true ∨ ∃ ty, w = Cond.arrayClass ty := List.forall_mem_cons.mpr ⟨good_of_word rfl, List.forall_mem_append.mpr ⟨fun w h => good_of_word (List.all_eq_true.mp (by decide +kernel) w h), List.forall_mem_append.mpr ⟨gu_X8, fun _ h => nomatch h⟩⟩⟩
theorem hi_dm_X8_textPages_X8 : ∀ w ∈ u_ws RX8 TX8 10, w ∈ ow_dm_X8_textPages := fun w h => List.mem_cons_of_mem _ (List.mem_append_right _ (List.mem_append_left _ h))
def dj_X8_textPages_0 (p : Program) (l : Launch) (e : Env) (s : State) (m : MethodId) (args : Array Value) (below : List Frame) (meth : Method) (c : Code) (Q : State → Prop) (A : Nat → Prop) (dC : Nat → ClassId) (dI : Nat → Nat → Nat) (a : Nat → Nat) (ac : Nat → ClassId) (g : (St) → Option (Int32 × (St))) (r : Int32 × (St)) : Prop := ∀ (s0 : St) (H : Heap) (locs : List Loc) (ls : Array Slot), g s0 = some r → va_P (dC, dI) vwCl (dw_X8 a ac s0) H → va_D A (dw_X8 a ac s0) → va_S A s.heap H locs → lv_has ls 1 [(0, .ref (a 0))] → W p l e (headSpec ow_dm_X8_textPages ({ frames := 0, cells := 0, slots := 0, locals := 0 })).room s m args below meth c H locs 0 0 Q (F0 m 0 ls [])
set_option maxHeartbeats 40000000 in
set_option maxRecDepth 100000 in
theorem db_X8_textPages_0 {p : Program} {l : Launch} {e : Env} {s : State} {m : MethodId} {args : Array Value} {below : List Frame} {meth : Method} {c : Code} {Q : State → Prop} {A : Nat → Prop} {dC : Nat → ClassId} {dI : Nat → Nat → Nat} {a : Nat → Nat} {ac : Nat → ClassId} {n : Nat} {r : Int32 × (St)} (C : nd_C p l s m args c A (dC, dI) cX8_textPages 1 RX8 ow_dm_X8_textPages (dk_X8 ac)) (K : nd_Ki p l e (headSpec ow_dm_X8_textPages ({ frames := 0, cells := 0, slots := 0, locals := 0 })).room s m args below meth c Q A (dC, dI) cX8_textPages .int (St) (dw_X8 a ac) r) : dj_X8_textPages_0 p l e s m args below meth c Q A dC dI a ac (df_X8_textPages_0 n) r := by
  obtain ⟨hlt, hx, hb, hml, hown, hts, hN, hA, hK⟩ := id C
  intro s0 H locs ls h hP hD hS hl
  unfold df_X8_textPages_0 at h
  refine lv_aload_n hx hb dX8_textPages_0 rfl (lv_at hl 0 rfl) ?_
  refine va_get (D := (dC, dI)) (ci := 9) (v := .int (sI s0 0)) (C := RX8) (T := TX8) (N := 10) hx hb hts hi_dm_X8_textPages_X8 hown hK hP 0 rfl rfl 1 (by decide) (hts (.fieldLink RX8 28 "TimeMachine$Program" "textSize" "I") (List.mem_of_getElem? (i := 1) rfl)) (fun _ h9 => h9) rfl dX8_textPages_1 ?_
  refine lv_sipush (v := 1024) hx hb dX8_textPages_4 (by decide) ?_
  refine lv_iadd hx hb dX8_textPages_7 ?_
  refine lv_iconst (v := 1) hx hb dX8_textPages_8 (by decide) ?_
  refine lv_isub hx hb dX8_textPages_9 ?_
  refine lv_sipush (v := 1024) hx hb dX8_textPages_10 (by decide) ?_
  refine lv_idiv hx hb dX8_textPages_13 (by decide) ?_
  exact K _ _ _ _ _ _ dX8_textPages_14 rfl (Option.some.inj h).symm hP hD hS
set_option maxHeartbeats 40000000 in
set_option maxRecDepth 100000 in
theorem dm_X8_textPages (l : Launch) (hlt : l.stackTraces = false) (dC : Nat → ClassId) (dI : Nat → Nat → Nat) (a : Nat → Nat) (ac : Nat → ClassId) (n : Nat) (s0 : St) {r : Int32 × (St)} (h : df_X8_textPages n s0 = some r) (sz : Nat) : Met l yX8_textPages ow_dm_X8_textPages ({ frames := 0, cells := 0, slots := 0, locals := 0 }) (va_Pc [.ref (a 0)] (fun U => U.heap.size = sz ∧ va_P (dC, dI) vwCl (dw_X8 a ac s0) U.heap ∧ va_K (dC, dI) vwCl (dk_X8 ac) U ∧ va_D (fun _ => True) (dw_X8 a ac s0) ∧ nv_E dI (va_A (dw_X8 a ac s0) sz) U)) (va_Qi (fun x _ => x = r.1) (fun (_ : Unit) t => va_P (dC, dI) vwCl (dw_X8 a ac r.2) t.heap ∧ va_K (dC, dI) vwCl (dk_X8 ac) t ∧ va_D (va_A (dw_X8 a ac s0) sz) (dw_X8 a ac r.2)) (va_A (dw_X8 a ac s0) sz)) 0 0 (va_A (dw_X8 a ac s0) sz) := by
  refine Met.ofW (cc := cX8_textPages) (maxL := 1) (ret := (some .int)) (by decide) rfl ?_
  intro p e s m args below meth c s₁ B hml hv
  obtain ⟨rfl, hsz, hP, hK, hD0, hN⟩ := hv
  have hx := B.exec
  have hb := B.bytes
  have hr := B.returns
  have hts := atoms_spec (ws := ow_dm_X8_textPages) B.pre
  have hown : s.vm.findClass RX8 = some m.cls := findClass_of_methodNamed B.named
  have hlocks := B.notSynchronized
  subst hsz
  have hD := hD0.self (sz := s.heap.size)
  generalize hAe : va_A (dw_X8 a ac s0) s.heap.size = A at hD hN ⊢
  have hA : ∀ q : Nat, s.heap.size ≤ q → A q := fun q h => by rw [← hAe]; exact Or.inr h
  have hl := lv_entry ([.ref (a 0)]) (n := 1) (Nat.le_of_ble_eq_true rfl)
  rw [lg_entry_eq]
  generalize (lg_sl ([.ref (a 0)]) ++ List.replicate (1 - (lg_sl ([.ref (a 0)])).length) Slot.unset).toArray = ls at hl ⊢
  have hl : lv_has ls 1 [(0, .ref (a 0))] := hl
  exact db_X8_textPages_0 (dC := dC) (dI := dI) (a := a) (ac := ac) (n := n) (r := r) ⟨hlt, hx, hb, hml, hown, hts, hN, hA, hK⟩ (fun pc v τ H locs ls d z er hP hD hS => by subst er; exact W.zret (v := v) hx hb hr z (fun t ht hW => ⟨⟨v, (), rfl, rfl, by rw [ht]; exact hP, va_K.moved hW.alike hK, hD⟩, hS.F ht⟩) hS.2.2 d) s0 _ _ _ h hP hD va_S.rf (lv_sub hl [0] rfl)
def ow_dm_X8_dataPages : List Cond := Cond.code yX8_dataPages cX8_dataPages 1 (some .int) :: ([Cond.fieldLink RX8 35 "TimeMachine$Program" "size" "I", Cond.fieldLink RX8 32 "TimeMachine$Program" "dataStart" "I"] ++ (u_ws RX8 TX8 10 ++ []))
theorem gd_dm_X8_dataPages : ∀ w ∈ ow_dm_X8_dataPages, (w.onTables && w.keeps) = true ∨ ∃ ty, w = Cond.arrayClass ty := List.forall_mem_cons.mpr ⟨good_of_word rfl, List.forall_mem_append.mpr ⟨fun w h => good_of_word (List.all_eq_true.mp (by decide +kernel) w h), List.forall_mem_append.mpr ⟨gu_X8, fun _ h => nomatch h⟩⟩⟩
theorem hi_dm_X8_dataPages_X8 : ∀ w ∈ u_ws RX8 TX8 10, w ∈ ow_dm_X8_dataPages := fun w h => List.mem_cons_of_mem _ (List.mem_append_right _ (List.mem_append_left _ h))
def dj_X8_dataPages_34 (p : Program) (l : Launch) (e : Env) (s : State) (m : MethodId) (args : Array Value) (below : List Frame) (meth : Method) (c : Code) (Q : State → Prop) (A : Nat → Prop) (dC : Nat → ClassId) (dI : Nat → Nat → Nat) (a : Nat → Nat) (ac : Nat → ClassId) (g : Int32 → (St) → Option (Int32 × (St))) (r : Int32 × (St)) : Prop := ∀ (y0 : Int32) (s0 : St) (H : Heap) (locs : List Loc) (ls : Array Slot), g y0 s0 = some r → va_P (dC, dI) vwCl (dw_X8 a ac s0) H → va_D A (dw_X8 a ac s0) → va_S A s.heap H locs → lv_has ls 1 [] → W p l e (headSpec ow_dm_X8_dataPages ({ frames := 0, cells := 0, slots := 0, locals := 0 })).room s m args below meth c H locs 0 0 Q (F0 m 34 ls [.int y0])
def dj_X8_dataPages_0 (p : Program) (l : Launch) (e : Env) (s : State) (m : MethodId) (args : Array Value) (below : List Frame) (meth : Method) (c : Code) (Q : State → Prop) (A : Nat → Prop) (dC : Nat → ClassId) (dI : Nat → Nat → Nat) (a : Nat → Nat) (ac : Nat → ClassId) (g : (St) → Option (Int32 × (St))) (r : Int32 × (St)) : Prop := ∀ (s0 : St) (H : Heap) (locs : List Loc) (ls : Array Slot), g s0 = some r → va_P (dC, dI) vwCl (dw_X8 a ac s0) H → va_D A (dw_X8 a ac s0) → va_S A s.heap H locs → lv_has ls 1 [(0, .ref (a 0))] → W p l e (headSpec ow_dm_X8_dataPages ({ frames := 0, cells := 0, slots := 0, locals := 0 })).room s m args below meth c H locs 0 0 Q (F0 m 0 ls [])
set_option maxHeartbeats 40000000 in
set_option maxRecDepth 100000 in
theorem db_X8_dataPages_34 {p : Program} {l : Launch} {e : Env} {s : State} {m : MethodId} {args : Array Value} {below : List Frame} {meth : Method} {c : Code} {Q : State → Prop} {A : Nat → Prop} {dC : Nat → ClassId} {dI : Nat → Nat → Nat} {a : Nat → Nat} {ac : Nat → ClassId} {n : Nat} {r : Int32 × (St)} (C : nd_C p l s m args c A (dC, dI) cX8_dataPages 1 RX8 ow_dm_X8_dataPages (dk_X8 ac)) (K : nd_Ki p l e (headSpec ow_dm_X8_dataPages ({ frames := 0, cells := 0, slots := 0, locals := 0 })).room s m args below meth c Q A (dC, dI) cX8_dataPages .int (St) (dw_X8 a ac) r) : dj_X8_dataPages_34 p l e s m args below meth c Q A dC dI a ac (df_X8_dataPages_34 n) r := by
  obtain ⟨hlt, hx, hb, hml, hown, hts, hN, hA, hK⟩ := id C
  intro y0 s0 H locs ls h hP hD hS hl
  unfold df_X8_dataPages_34 at h
  exact K _ _ _ _ _ _ dX8_dataPages_34 rfl (Option.some.inj h).symm hP hD hS
set_option maxHeartbeats 40000000 in
set_option maxRecDepth 100000 in
theorem db_X8_dataPages_0 {p : Program} {l : Launch} {e : Env} {s : State} {m : MethodId} {args : Array Value} {below : List Frame} {meth : Method} {c : Code} {Q : State → Prop} {A : Nat → Prop} {dC : Nat → ClassId} {dI : Nat → Nat → Nat} {a : Nat → Nat} {ac : Nat → ClassId} {n : Nat} {r : Int32 × (St)} (C : nd_C p l s m args c A (dC, dI) cX8_dataPages 1 RX8 ow_dm_X8_dataPages (dk_X8 ac)) (K : nd_Ki p l e (headSpec ow_dm_X8_dataPages ({ frames := 0, cells := 0, slots := 0, locals := 0 })).room s m args below meth c Q A (dC, dI) cX8_dataPages .int (St) (dw_X8 a ac) r) : dj_X8_dataPages_0 p l e s m args below meth c Q A dC dI a ac (df_X8_dataPages_0 n) r := by
  obtain ⟨hlt, hx, hb, hml, hown, hts, hN, hA, hK⟩ := id C
  intro s0 H locs ls h hP hD hS hl
  unfold df_X8_dataPages_0 at h
  refine lv_aload_n hx hb dX8_dataPages_0 rfl (lv_at hl 0 rfl) ?_
  refine va_get (D := (dC, dI)) (ci := 9) (v := .int (sI s0 2)) (C := RX8) (T := TX8) (N := 10) hx hb hts hi_dm_X8_dataPages_X8 hown hK hP 0 rfl rfl 3 (by decide) (hts (.fieldLink RX8 35 "TimeMachine$Program" "size" "I") (List.mem_of_getElem? (i := 1) rfl)) (fun _ h9 => h9) rfl dX8_dataPages_1 ?_
  refine lv_aload_n hx hb dX8_dataPages_4 rfl (lv_at hl 0 rfl) ?_
  refine va_get (D := (dC, dI)) (ci := 9) (v := .int (sI s0 1)) (C := RX8) (T := TX8) (N := 10) hx hb hts hi_dm_X8_dataPages_X8 hown hK hP 0 rfl rfl 2 (by decide) (hts (.fieldLink RX8 32 "TimeMachine$Program" "dataStart" "I") (List.mem_of_getElem? (i := 2) rfl)) (fun _ h9 => h9) rfl dX8_dataPages_5 ?_
  refine lv_icmp_le (tgt := 33) hx hb dX8_dataPages_8 (by decide) (fun c1 => ?_) (fun c1 => ?_)
  · have h := nd_pos h c1
    refine lv_iconst (v := 0) hx hb dX8_dataPages_33 (by decide) ?_
    exact (db_X8_dataPages_34 C K) (0) s0 _ _ _ h hP hD hS (lv_sub hl [] rfl)
  · have h := nd_neg h c1
    refine lv_aload_n hx hb dX8_dataPages_11 rfl (lv_at hl 0 rfl) ?_
    refine va_get (D := (dC, dI)) (ci := 9) (v := .int (sI s0 2)) (C := RX8) (T := TX8) (N := 10) hx hb hts hi_dm_X8_dataPages_X8 hown hK hP 0 rfl rfl 3 (by decide) (hts (.fieldLink RX8 35 "TimeMachine$Program" "size" "I") (List.mem_of_getElem? (i := 1) rfl)) (fun _ h9 => h9) rfl dX8_dataPages_12 ?_
    refine lv_aload_n hx hb dX8_dataPages_15 rfl (lv_at hl 0 rfl) ?_
    refine va_get (D := (dC, dI)) (ci := 9) (v := .int (sI s0 1)) (C := RX8) (T := TX8) (N := 10) hx hb hts hi_dm_X8_dataPages_X8 hown hK hP 0 rfl rfl 2 (by decide) (hts (.fieldLink RX8 32 "TimeMachine$Program" "dataStart" "I") (List.mem_of_getElem? (i := 2) rfl)) (fun _ h9 => h9) rfl dX8_dataPages_16 ?_
    refine lv_isub hx hb dX8_dataPages_19 ?_
    refine lv_sipush (v := 1024) hx hb dX8_dataPages_20 (by decide) ?_
    refine lv_iadd hx hb dX8_dataPages_23 ?_
    refine lv_iconst (v := 1) hx hb dX8_dataPages_24 (by decide) ?_
    refine lv_isub hx hb dX8_dataPages_25 ?_
    refine lv_sipush (v := 1024) hx hb dX8_dataPages_26 (by decide) ?_
    refine lv_idiv hx hb dX8_dataPages_29 (by decide) ?_
    refine lv_goto (tgt := 34) hx hb dX8_dataPages_30 (by decide) ?_
    exact (db_X8_dataPages_34 C K) (((((((sI s0 2) - (sI s0 1)) + 1024) - 1) : Int32) / 1024)) s0 _ _ _ h hP hD hS (lv_sub hl [] rfl)
set_option maxHeartbeats 40000000 in
set_option maxRecDepth 100000 in
theorem dm_X8_dataPages (l : Launch) (hlt : l.stackTraces = false) (dC : Nat → ClassId) (dI : Nat → Nat → Nat) (a : Nat → Nat) (ac : Nat → ClassId) (n : Nat) (s0 : St) {r : Int32 × (St)} (h : df_X8_dataPages n s0 = some r) (sz : Nat) : Met l yX8_dataPages ow_dm_X8_dataPages ({ frames := 0, cells := 0, slots := 0, locals := 0 }) (va_Pc [.ref (a 0)] (fun U => U.heap.size = sz ∧ va_P (dC, dI) vwCl (dw_X8 a ac s0) U.heap ∧ va_K (dC, dI) vwCl (dk_X8 ac) U ∧ va_D (fun _ => True) (dw_X8 a ac s0) ∧ nv_E dI (va_A (dw_X8 a ac s0) sz) U)) (va_Qi (fun x _ => x = r.1) (fun (_ : Unit) t => va_P (dC, dI) vwCl (dw_X8 a ac r.2) t.heap ∧ va_K (dC, dI) vwCl (dk_X8 ac) t ∧ va_D (va_A (dw_X8 a ac s0) sz) (dw_X8 a ac r.2)) (va_A (dw_X8 a ac s0) sz)) 0 0 (va_A (dw_X8 a ac s0) sz) := by
  refine Met.ofW (cc := cX8_dataPages) (maxL := 1) (ret := (some .int)) (by decide) rfl ?_
  intro p e s m args below meth c s₁ B hml hv
  obtain ⟨rfl, hsz, hP, hK, hD0, hN⟩ := hv
  have hx := B.exec
  have hb := B.bytes
  have hr := B.returns
  have hts := atoms_spec (ws := ow_dm_X8_dataPages) B.pre
  have hown : s.vm.findClass RX8 = some m.cls := findClass_of_methodNamed B.named
  have hlocks := B.notSynchronized
  subst hsz
  have hD := hD0.self (sz := s.heap.size)
  generalize hAe : va_A (dw_X8 a ac s0) s.heap.size = A at hD hN ⊢
  have hA : ∀ q : Nat, s.heap.size ≤ q → A q := fun q h => by rw [← hAe]; exact Or.inr h
  have hl := lv_entry ([.ref (a 0)]) (n := 1) (Nat.le_of_ble_eq_true rfl)
  rw [lg_entry_eq]
  generalize (lg_sl ([.ref (a 0)]) ++ List.replicate (1 - (lg_sl ([.ref (a 0)])).length) Slot.unset).toArray = ls at hl ⊢
  have hl : lv_has ls 1 [(0, .ref (a 0))] := hl
  exact db_X8_dataPages_0 (dC := dC) (dI := dI) (a := a) (ac := ac) (n := n) (r := r) ⟨hlt, hx, hb, hml, hown, hts, hN, hA, hK⟩ (fun pc v τ H locs ls d z er hP hD hS => by subst er; exact W.zret (v := v) hx hb hr z (fun t ht hW => ⟨⟨v, (), rfl, rfl, by rw [ht]; exact hP, va_K.moved hW.alike hK, hD⟩, hS.F ht⟩) hS.2.2 d) s0 _ _ _ h hP hD va_S.rf (lv_sub hl [0] rfl)
def ow_dm_X8_heapStart : List Cond := Cond.code yX8_heapStart cX8_heapStart 1 (some .int) :: ([Cond.fieldLink RX8 35 "TimeMachine$Program" "size" "I"] ++ (u_ws RX8 TX8 10 ++ []))
theorem gd_dm_X8_heapStart : ∀ w ∈ ow_dm_X8_heapStart, (w.onTables && w.keeps) = true ∨ ∃ ty, w = Cond.arrayClass ty := List.forall_mem_cons.mpr ⟨good_of_word rfl, List.forall_mem_append.mpr ⟨fun w h => good_of_word (List.all_eq_true.mp (by decide +kernel) w h), List.forall_mem_append.mpr ⟨gu_X8, fun _ h => nomatch h⟩⟩⟩
theorem hi_dm_X8_heapStart_X8 : ∀ w ∈ u_ws RX8 TX8 10, w ∈ ow_dm_X8_heapStart := fun w h => List.mem_cons_of_mem _ (List.mem_append_right _ (List.mem_append_left _ h))
def dj_X8_heapStart_0 (p : Program) (l : Launch) (e : Env) (s : State) (m : MethodId) (args : Array Value) (below : List Frame) (meth : Method) (c : Code) (Q : State → Prop) (A : Nat → Prop) (dC : Nat → ClassId) (dI : Nat → Nat → Nat) (a : Nat → Nat) (ac : Nat → ClassId) (g : (St) → Option (Int32 × (St))) (r : Int32 × (St)) : Prop := ∀ (s0 : St) (H : Heap) (locs : List Loc) (ls : Array Slot), g s0 = some r → va_P (dC, dI) vwCl (dw_X8 a ac s0) H → va_D A (dw_X8 a ac s0) → va_S A s.heap H locs → lv_has ls 1 [(0, .ref (a 0))] → W p l e (headSpec ow_dm_X8_heapStart ({ frames := 0, cells := 0, slots := 0, locals := 0 })).room s m args below meth c H locs 0 0 Q (F0 m 0 ls [])
set_option maxHeartbeats 40000000 in
set_option maxRecDepth 100000 in
theorem db_X8_heapStart_0 {p : Program} {l : Launch} {e : Env} {s : State} {m : MethodId} {args : Array Value} {below : List Frame} {meth : Method} {c : Code} {Q : State → Prop} {A : Nat → Prop} {dC : Nat → ClassId} {dI : Nat → Nat → Nat} {a : Nat → Nat} {ac : Nat → ClassId} {n : Nat} {r : Int32 × (St)} (C : nd_C p l s m args c A (dC, dI) cX8_heapStart 1 RX8 ow_dm_X8_heapStart (dk_X8 ac)) (K : nd_Ki p l e (headSpec ow_dm_X8_heapStart ({ frames := 0, cells := 0, slots := 0, locals := 0 })).room s m args below meth c Q A (dC, dI) cX8_heapStart .int (St) (dw_X8 a ac) r) : dj_X8_heapStart_0 p l e s m args below meth c Q A dC dI a ac (df_X8_heapStart_0 n) r := by
  obtain ⟨hlt, hx, hb, hml, hown, hts, hN, hA, hK⟩ := id C
  intro s0 H locs ls h hP hD hS hl
  unfold df_X8_heapStart_0 at h
  refine lv_aload_n hx hb dX8_heapStart_0 rfl (lv_at hl 0 rfl) ?_
  refine va_get (D := (dC, dI)) (ci := 9) (v := .int (sI s0 2)) (C := RX8) (T := TX8) (N := 10) hx hb hts hi_dm_X8_heapStart_X8 hown hK hP 0 rfl rfl 3 (by decide) (hts (.fieldLink RX8 35 "TimeMachine$Program" "size" "I") (List.mem_of_getElem? (i := 1) rfl)) (fun _ h9 => h9) rfl dX8_heapStart_1 ?_
  refine lv_sipush (v := 1024) hx hb dX8_heapStart_4 (by decide) ?_
  refine lv_iadd hx hb dX8_heapStart_7 ?_
  refine lv_iconst (v := 1) hx hb dX8_heapStart_8 (by decide) ?_
  refine lv_isub hx hb dX8_heapStart_9 ?_
  refine lv_sipush (v := 1024) hx hb dX8_heapStart_10 (by decide) ?_
  refine lv_idiv hx hb dX8_heapStart_13 (by decide) ?_
  refine lv_sipush (v := 1024) hx hb dX8_heapStart_14 (by decide) ?_
  refine lv_imul hx hb dX8_heapStart_17 ?_
  exact K _ _ _ _ _ _ dX8_heapStart_18 rfl (Option.some.inj h).symm hP hD hS
set_option maxHeartbeats 40000000 in
set_option maxRecDepth 100000 in
theorem dm_X8_heapStart (l : Launch) (hlt : l.stackTraces = false) (dC : Nat → ClassId) (dI : Nat → Nat → Nat) (a : Nat → Nat) (ac : Nat → ClassId) (n : Nat) (s0 : St) {r : Int32 × (St)} (h : df_X8_heapStart n s0 = some r) (sz : Nat) : Met l yX8_heapStart ow_dm_X8_heapStart ({ frames := 0, cells := 0, slots := 0, locals := 0 }) (va_Pc [.ref (a 0)] (fun U => U.heap.size = sz ∧ va_P (dC, dI) vwCl (dw_X8 a ac s0) U.heap ∧ va_K (dC, dI) vwCl (dk_X8 ac) U ∧ va_D (fun _ => True) (dw_X8 a ac s0) ∧ nv_E dI (va_A (dw_X8 a ac s0) sz) U)) (va_Qi (fun x _ => x = r.1) (fun (_ : Unit) t => va_P (dC, dI) vwCl (dw_X8 a ac r.2) t.heap ∧ va_K (dC, dI) vwCl (dk_X8 ac) t ∧ va_D (va_A (dw_X8 a ac s0) sz) (dw_X8 a ac r.2)) (va_A (dw_X8 a ac s0) sz)) 0 0 (va_A (dw_X8 a ac s0) sz) := by
  refine Met.ofW (cc := cX8_heapStart) (maxL := 1) (ret := (some .int)) (by decide) rfl ?_
  intro p e s m args below meth c s₁ B hml hv
  obtain ⟨rfl, hsz, hP, hK, hD0, hN⟩ := hv
  have hx := B.exec
  have hb := B.bytes
  have hr := B.returns
  have hts := atoms_spec (ws := ow_dm_X8_heapStart) B.pre
  have hown : s.vm.findClass RX8 = some m.cls := findClass_of_methodNamed B.named
  have hlocks := B.notSynchronized
  subst hsz
  have hD := hD0.self (sz := s.heap.size)
  generalize hAe : va_A (dw_X8 a ac s0) s.heap.size = A at hD hN ⊢
  have hA : ∀ q : Nat, s.heap.size ≤ q → A q := fun q h => by rw [← hAe]; exact Or.inr h
  have hl := lv_entry ([.ref (a 0)]) (n := 1) (Nat.le_of_ble_eq_true rfl)
  rw [lg_entry_eq]
  generalize (lg_sl ([.ref (a 0)]) ++ List.replicate (1 - (lg_sl ([.ref (a 0)])).length) Slot.unset).toArray = ls at hl ⊢
  have hl : lv_has ls 1 [(0, .ref (a 0))] := hl
  exact db_X8_heapStart_0 (dC := dC) (dI := dI) (a := a) (ac := ac) (n := n) (r := r) ⟨hlt, hx, hb, hml, hown, hts, hN, hA, hK⟩ (fun pc v τ H locs ls d z er hP hD hS => by subst er; exact W.zret (v := v) hx hb hr z (fun t ht hW => ⟨⟨v, (), rfl, rfl, by rw [ht]; exact hP, va_K.moved hW.alike hK, hD⟩, hS.F ht⟩) hS.2.2 d) s0 _ _ _ h hP hD va_S.rf (lv_sub hl [0] rfl)
def ow_dm_X8_labelUpTo : List Cond := Cond.code yX8_labelUpTo cX8_labelUpTo 4 (some .int) :: ([Cond.fieldLink RX8 38 "TimeMachine$Program" "labels" "I", Cond.fieldLink RX8 16 "TimeMachine$Program" "label" "[I"] ++ (u_ws RX8 TX8 10 ++ []))
theorem gd_dm_X8_labelUpTo : ∀ w ∈ ow_dm_X8_labelUpTo, (w.onTables && w.keeps) = true ∨ ∃ ty, w = Cond.arrayClass ty := List.forall_mem_cons.mpr ⟨good_of_word rfl, List.forall_mem_append.mpr ⟨fun w h => good_of_word (List.all_eq_true.mp (by decide +kernel) w h), List.forall_mem_append.mpr ⟨gu_X8, fun _ h => nomatch h⟩⟩⟩
theorem hi_dm_X8_labelUpTo_X8 : ∀ w ∈ u_ws RX8 TX8 10, w ∈ ow_dm_X8_labelUpTo := fun w h => List.mem_cons_of_mem _ (List.mem_append_right _ (List.mem_append_left _ h))
def dj_X8_labelUpTo_43 (p : Program) (l : Launch) (e : Env) (s : State) (m : MethodId) (args : Array Value) (below : List Frame) (meth : Method) (c : Code) (Q : State → Prop) (A : Nat → Prop) (dC : Nat → ClassId) (dI : Nat → Nat → Nat) (a : Nat → Nat) (ac : Nat → ClassId) (g : Int32 → Int32 → Int32 → (St) → Option (Int32 × (St))) (r : Int32 × (St)) : Prop := ∀ (x1 : Int32) (x2 : Int32) (x3 : Int32) (s0 : St) (H : Heap) (locs : List Loc) (ls : Array Slot), g x1 x2 x3 s0 = some r → va_P (dC, dI) vwCl (dw_X8 a ac s0) H → va_D A (dw_X8 a ac s0) → va_S A s.heap H locs → lv_has ls 4 [(0, .ref (a 0)), (1, .int x1), (2, .int x2), (3, .int x3)] → W p l e (headSpec ow_dm_X8_labelUpTo ({ frames := 0, cells := 0, slots := 0, locals := 0 })).room s m args below meth c H locs 0 0 Q (F0 m 43 ls [])
def dj_X8_labelUpTo_41 (p : Program) (l : Launch) (e : Env) (s : State) (m : MethodId) (args : Array Value) (below : List Frame) (meth : Method) (c : Code) (Q : State → Prop) (A : Nat → Prop) (dC : Nat → ClassId) (dI : Nat → Nat → Nat) (a : Nat → Nat) (ac : Nat → ClassId) (g : Int32 → Int32 → (St) → Option (Int32 × (St))) (r : Int32 × (St)) : Prop := ∀ (x1 : Int32) (x3 : Int32) (s0 : St) (H : Heap) (locs : List Loc) (ls : Array Slot), g x1 x3 s0 = some r → va_P (dC, dI) vwCl (dw_X8 a ac s0) H → va_D A (dw_X8 a ac s0) → va_S A s.heap H locs → lv_has ls 4 [(0, .ref (a 0)), (1, .int x1), (3, .int x3)] → W p l e (headSpec ow_dm_X8_labelUpTo ({ frames := 0, cells := 0, slots := 0, locals := 0 })).room s m args below meth c H locs 0 0 Q (F0 m 41 ls [])
def dj_X8_labelUpTo_4 (p : Program) (l : Launch) (e : Env) (s : State) (m : MethodId) (args : Array Value) (below : List Frame) (meth : Method) (c : Code) (Q : State → Prop) (A : Nat → Prop) (dC : Nat → ClassId) (dI : Nat → Nat → Nat) (a : Nat → Nat) (ac : Nat → ClassId) (g : Int32 → Int32 → Int32 → (St) → Option (Int32 × (St))) (r : Int32 × (St)) : Prop := ∀ (x1 : Int32) (x2 : Int32) (x3 : Int32) (s0 : St) (H : Heap) (locs : List Loc) (ls : Array Slot), g x1 x2 x3 s0 = some r → va_P (dC, dI) vwCl (dw_X8 a ac s0) H → va_D A (dw_X8 a ac s0) → va_S A s.heap H locs → lv_has ls 4 [(0, .ref (a 0)), (1, .int x1), (2, .int x2), (3, .int x3)] → W p l e (headSpec ow_dm_X8_labelUpTo ({ frames := 0, cells := 0, slots := 0, locals := 0 })).room s m args below meth c H locs 0 0 Q (F0 m 4 ls [])
def dj_X8_labelUpTo_0 (p : Program) (l : Launch) (e : Env) (s : State) (m : MethodId) (args : Array Value) (below : List Frame) (meth : Method) (c : Code) (Q : State → Prop) (A : Nat → Prop) (dC : Nat → ClassId) (dI : Nat → Nat → Nat) (a : Nat → Nat) (ac : Nat → ClassId) (g : Int32 → (St) → Option (Int32 × (St))) (r : Int32 × (St)) : Prop := ∀ (v0 : Int32) (s0 : St) (H : Heap) (locs : List Loc) (ls : Array Slot), g v0 s0 = some r → va_P (dC, dI) vwCl (dw_X8 a ac s0) H → va_D A (dw_X8 a ac s0) → va_S A s.heap H locs → lv_has ls 4 [(0, .ref (a 0)), (1, .int v0)] → W p l e (headSpec ow_dm_X8_labelUpTo ({ frames := 0, cells := 0, slots := 0, locals := 0 })).room s m args below meth c H locs 0 0 Q (F0 m 0 ls [])
set_option maxHeartbeats 40000000 in
set_option maxRecDepth 100000 in
theorem db_X8_labelUpTo_43 {p : Program} {l : Launch} {e : Env} {s : State} {m : MethodId} {args : Array Value} {below : List Frame} {meth : Method} {c : Code} {Q : State → Prop} {A : Nat → Prop} {dC : Nat → ClassId} {dI : Nat → Nat → Nat} {a : Nat → Nat} {ac : Nat → ClassId} {n : Nat} {r : Int32 × (St)} (C : nd_C p l s m args c A (dC, dI) cX8_labelUpTo 4 RX8 ow_dm_X8_labelUpTo (dk_X8 ac)) (K : nd_Ki p l e (headSpec ow_dm_X8_labelUpTo ({ frames := 0, cells := 0, slots := 0, locals := 0 })).room s m args below meth c Q A (dC, dI) cX8_labelUpTo .int (St) (dw_X8 a ac) r) {g4 : Int32 → Int32 → Int32 → (St) → Option (Int32 × (St))} (J4 : dj_X8_labelUpTo_4 p l e s m args below meth c Q A dC dI a ac g4 r) : dj_X8_labelUpTo_43 p l e s m args below meth c Q A dC dI a ac (df_X8_labelUpTo_43 n g4) r := by
  obtain ⟨hlt, hx, hb, hml, hown, hts, hN, hA, hK⟩ := id C
  intro x1 x2 x3 s0 H locs ls h hP hD hS hl
  unfold df_X8_labelUpTo_43 at h
  obtain ⟨z4, ez4, h⟩ := nd_let_e h
  refine lv_iinc (v := z4) (lv' := [(3, .int z4), (0, .ref (a 0)), (1, .int x1), (2, .int x2)]) hx hb dX8_labelUpTo_43 hl (k := 3) rfl (by rw [ez4]) (by decide) rfl (fun ls hl => ?_)
  refine lv_goto (tgt := 4) hx hb dX8_labelUpTo_46 (by decide) ?_
  exact (J4) (x1) (x2) (z4) s0 _ _ _ h hP hD hS (lv_sub hl [1, 2, 3, 0] rfl)
set_option maxHeartbeats 40000000 in
set_option maxRecDepth 100000 in
theorem db_X8_labelUpTo_41 {p : Program} {l : Launch} {e : Env} {s : State} {m : MethodId} {args : Array Value} {below : List Frame} {meth : Method} {c : Code} {Q : State → Prop} {A : Nat → Prop} {dC : Nat → ClassId} {dI : Nat → Nat → Nat} {a : Nat → Nat} {ac : Nat → ClassId} {n : Nat} {r : Int32 × (St)} (C : nd_C p l s m args c A (dC, dI) cX8_labelUpTo 4 RX8 ow_dm_X8_labelUpTo (dk_X8 ac)) (K : nd_Ki p l e (headSpec ow_dm_X8_labelUpTo ({ frames := 0, cells := 0, slots := 0, locals := 0 })).room s m args below meth c Q A (dC, dI) cX8_labelUpTo .int (St) (dw_X8 a ac) r) {g4 : Int32 → Int32 → Int32 → (St) → Option (Int32 × (St))} (J4 : dj_X8_labelUpTo_4 p l e s m args below meth c Q A dC dI a ac g4 r) : dj_X8_labelUpTo_41 p l e s m args below meth c Q A dC dI a ac (df_X8_labelUpTo_41 n g4) r := by
  obtain ⟨hlt, hx, hb, hml, hown, hts, hN, hA, hK⟩ := id C
  intro x1 x3 s0 H locs ls h hP hD hS hl
  unfold df_X8_labelUpTo_41 at h
  refine lv_iload_n hx hb dX8_labelUpTo_41 rfl (lv_at hl 2 rfl) ?_
  refine lv_istore_n (lv' := [(2, .int x3), (0, .ref (a 0)), (1, .int x1), (3, .int x3)]) hx hb dX8_labelUpTo_42 rfl hl (by decide) rfl (fun ls hl => ?_)
  exact (db_X8_labelUpTo_43 C K J4) (x1) (x3) (x3) s0 _ _ _ h hP hD hS (lv_sub hl [1, 2, 0, 3] rfl)
set_option maxHeartbeats 40000000 in
set_option maxRecDepth 100000 in
theorem dB_X8_labelUpTo_4 {p : Program} {l : Launch} {e : Env} {s : State} {m : MethodId} {args : Array Value} {below : List Frame} {meth : Method} {c : Code} {Q : State → Prop} {A : Nat → Prop} {dC : Nat → ClassId} {dI : Nat → Nat → Nat} {a : Nat → Nat} {ac : Nat → ClassId} {n : Nat} {r : Int32 × (St)} (C : nd_C p l s m args c A (dC, dI) cX8_labelUpTo 4 RX8 ow_dm_X8_labelUpTo (dk_X8 ac)) (K : nd_Ki p l e (headSpec ow_dm_X8_labelUpTo ({ frames := 0, cells := 0, slots := 0, locals := 0 })).room s m args below meth c Q A (dC, dI) cX8_labelUpTo .int (St) (dw_X8 a ac) r) {g4 : Int32 → Int32 → Int32 → (St) → Option (Int32 × (St))} (J4 : dj_X8_labelUpTo_4 p l e s m args below meth c Q A dC dI a ac g4 r) : dj_X8_labelUpTo_4 p l e s m args below meth c Q A dC dI a ac (dF_X8_labelUpTo_4 n g4) r := by
  obtain ⟨hlt, hx, hb, hml, hown, hts, hN, hA, hK⟩ := id C
  intro x1 x2 x3 s0 H locs ls h hP hD hS hl
  unfold dF_X8_labelUpTo_4 at h
  refine lv_iload_n hx hb dX8_labelUpTo_4 rfl (lv_at hl 3 rfl) ?_
  refine lv_aload_n hx hb dX8_labelUpTo_5 rfl (lv_at hl 0 rfl) ?_
  refine va_get (D := (dC, dI)) (ci := 9) (v := .int (sI s0 4)) (C := RX8) (T := TX8) (N := 10) hx hb hts hi_dm_X8_labelUpTo_X8 hown hK hP 0 rfl rfl 6 (by decide) (hts (.fieldLink RX8 38 "TimeMachine$Program" "labels" "I") (List.mem_of_getElem? (i := 1) rfl)) (fun _ h9 => h9) rfl dX8_labelUpTo_6 ?_
  refine lv_icmp_ge (tgt := 49) hx hb dX8_labelUpTo_9 (by decide) (fun c1 => ?_) (fun c1 => ?_)
  · have h := nd_pos h c1
    refine lv_iload_n hx hb dX8_labelUpTo_49 rfl (lv_at hl 2 rfl) ?_
    exact K _ _ _ _ _ _ dX8_labelUpTo_50 rfl (Option.some.inj h).symm hP hD hS
  · have h := nd_neg h c1
    refine lv_aload_n hx hb dX8_labelUpTo_12 rfl (lv_at hl 0 rfl) ?_
    refine va_get (D := (dC, dI)) (ci := 9) (v := .ref (a 2)) (C := RX8) (T := TX8) (N := 10) hx hb hts hi_dm_X8_labelUpTo_X8 hown hK hP 0 rfl rfl 5 (by decide) (hts (.fieldLink RX8 16 "TimeMachine$Program" "label" "[I") (List.mem_of_getElem? (i := 2) rfl)) (fun _ h9 => h9) rfl dX8_labelUpTo_13 ?_
    refine lv_iload_n hx hb dX8_labelUpTo_16 rfl (lv_at hl 3 rfl) ?_
    obtain ⟨i2, h⟩ := nd_ck_e h
    refine va_iald (i := x3) hx hb hK hP 2 1 rfl rfl i2 dX8_labelUpTo_17 ?_
    refine lv_iload_n hx hb dX8_labelUpTo_18 rfl (lv_at hl 1 rfl) ?_
    refine lv_icmp_gt (tgt := 43) hx hb dX8_labelUpTo_19 (by decide) (fun c3 => ?_) (fun c3 => ?_)
    · have h := nd_pos h c3
      exact (db_X8_labelUpTo_43 C K J4) (x1) (x2) (x3) s0 _ _ _ h hP hD hS (lv_sub hl [0, 1, 2, 3] rfl)
    · have h := nd_neg h c3
      refine lv_iload_n hx hb dX8_labelUpTo_22 rfl (lv_at hl 2 rfl) ?_
      refine lv_if_lt (tgt := 41) hx hb dX8_labelUpTo_23 (by decide) (fun c5 => ?_) (fun c5 => ?_)
      · have h := nd_pos h c5
        exact (db_X8_labelUpTo_41 C K J4) (x1) (x3) s0 _ _ _ h hP hD hS (lv_sub hl [0, 1, 3] rfl)
      · have h := nd_neg h c5
        refine lv_aload_n hx hb dX8_labelUpTo_26 rfl (lv_at hl 0 rfl) ?_
        refine va_get (D := (dC, dI)) (ci := 9) (v := .ref (a 2)) (C := RX8) (T := TX8) (N := 10) hx hb hts hi_dm_X8_labelUpTo_X8 hown hK hP 0 rfl rfl 5 (by decide) (hts (.fieldLink RX8 16 "TimeMachine$Program" "label" "[I") (List.mem_of_getElem? (i := 2) rfl)) (fun _ h9 => h9) rfl dX8_labelUpTo_27 ?_
        refine lv_iload_n hx hb dX8_labelUpTo_30 rfl (lv_at hl 3 rfl) ?_
        obtain ⟨i6, h⟩ := nd_ck_e h
        refine va_iald (i := x3) hx hb hK hP 2 1 rfl rfl i6 dX8_labelUpTo_31 ?_
        refine lv_aload_n hx hb dX8_labelUpTo_32 rfl (lv_at hl 0 rfl) ?_
        refine va_get (D := (dC, dI)) (ci := 9) (v := .ref (a 2)) (C := RX8) (T := TX8) (N := 10) hx hb hts hi_dm_X8_labelUpTo_X8 hown hK hP 0 rfl rfl 5 (by decide) (hts (.fieldLink RX8 16 "TimeMachine$Program" "label" "[I") (List.mem_of_getElem? (i := 2) rfl)) (fun _ h9 => h9) rfl dX8_labelUpTo_33 ?_
        refine lv_iload_n hx hb dX8_labelUpTo_36 rfl (lv_at hl 2 rfl) ?_
        obtain ⟨i7, h⟩ := nd_ck_e h
        refine va_iald (i := x2) hx hb hK hP 2 1 rfl rfl i7 dX8_labelUpTo_37 ?_
        refine lv_icmp_lt (tgt := 43) hx hb dX8_labelUpTo_38 (by decide) (fun c8 => ?_) (fun c8 => ?_)
        · have h := nd_pos h c8
          exact (db_X8_labelUpTo_43 C K J4) (x1) (x2) (x3) s0 _ _ _ h hP hD hS (lv_sub hl [0, 1, 2, 3] rfl)
        · have h := nd_neg h c8
          exact (db_X8_labelUpTo_41 C K J4) (x1) (x3) s0 _ _ _ h hP hD hS (lv_sub hl [0, 1, 3] rfl)
set_option maxHeartbeats 40000000 in
set_option maxRecDepth 100000 in
theorem db_X8_labelUpTo_4 {p : Program} {l : Launch} {e : Env} {s : State} {m : MethodId} {args : Array Value} {below : List Frame} {meth : Method} {c : Code} {Q : State → Prop} {A : Nat → Prop} {dC : Nat → ClassId} {dI : Nat → Nat → Nat} {a : Nat → Nat} {ac : Nat → ClassId} {n : Nat} {r : Int32 × (St)} (C : nd_C p l s m args c A (dC, dI) cX8_labelUpTo 4 RX8 ow_dm_X8_labelUpTo (dk_X8 ac)) (K : nd_Ki p l e (headSpec ow_dm_X8_labelUpTo ({ frames := 0, cells := 0, slots := 0, locals := 0 })).room s m args below meth c Q A (dC, dI) cX8_labelUpTo .int (St) (dw_X8 a ac) r) (k : Nat) : dj_X8_labelUpTo_4 p l e s m args below meth c Q A dC dI a ac (df_X8_labelUpTo_4 n k) r := by
  induction k with
  | zero => intro x1 x2 x3 s0 H locs ls h; exact nomatch (show (none : Option (Int32 × (St))) = some r from h)
  | succ k ih => exact dB_X8_labelUpTo_4 C K ih
set_option maxHeartbeats 40000000 in
set_option maxRecDepth 100000 in
theorem db_X8_labelUpTo_0 {p : Program} {l : Launch} {e : Env} {s : State} {m : MethodId} {args : Array Value} {below : List Frame} {meth : Method} {c : Code} {Q : State → Prop} {A : Nat → Prop} {dC : Nat → ClassId} {dI : Nat → Nat → Nat} {a : Nat → Nat} {ac : Nat → ClassId} {n : Nat} {r : Int32 × (St)} (C : nd_C p l s m args c A (dC, dI) cX8_labelUpTo 4 RX8 ow_dm_X8_labelUpTo (dk_X8 ac)) (K : nd_Ki p l e (headSpec ow_dm_X8_labelUpTo ({ frames := 0, cells := 0, slots := 0, locals := 0 })).room s m args below meth c Q A (dC, dI) cX8_labelUpTo .int (St) (dw_X8 a ac) r) : dj_X8_labelUpTo_0 p l e s m args below meth c Q A dC dI a ac (df_X8_labelUpTo_0 n) r := by
  obtain ⟨hlt, hx, hb, hml, hown, hts, hN, hA, hK⟩ := id C
  intro v0 s0 H locs ls h hP hD hS hl
  unfold df_X8_labelUpTo_0 at h
  refine lv_iconst (v := (-1)) hx hb dX8_labelUpTo_0 (by decide) ?_
  refine lv_istore_n (lv' := [(2, .int (-1)), (0, .ref (a 0)), (1, .int v0)]) hx hb dX8_labelUpTo_1 rfl hl (by decide) rfl (fun ls hl => ?_)
  refine lv_iconst (v := 0) hx hb dX8_labelUpTo_2 (by decide) ?_
  refine lv_istore_n (lv' := [(3, .int 0), (2, .int (-1)), (0, .ref (a 0)), (1, .int v0)]) hx hb dX8_labelUpTo_3 rfl hl (by decide) rfl (fun ls hl => ?_)
  exact (db_X8_labelUpTo_4 C K n) (v0) ((-1)) (0) s0 _ _ _ h hP hD hS (lv_sub hl [2, 3, 1, 0] rfl)
set_option maxHeartbeats 40000000 in
set_option maxRecDepth 100000 in
theorem dm_X8_labelUpTo (l : Launch) (hlt : l.stackTraces = false) (dC : Nat → ClassId) (dI : Nat → Nat → Nat) (a : Nat → Nat) (ac : Nat → ClassId) (n : Nat) (v0 : Int32) (s0 : St) {r : Int32 × (St)} (h : df_X8_labelUpTo n v0 s0 = some r) (sz : Nat) : Met l yX8_labelUpTo ow_dm_X8_labelUpTo ({ frames := 0, cells := 0, slots := 0, locals := 0 }) (va_Pc [.ref (a 0), .int v0] (fun U => U.heap.size = sz ∧ va_P (dC, dI) vwCl (dw_X8 a ac s0) U.heap ∧ va_K (dC, dI) vwCl (dk_X8 ac) U ∧ va_D (fun _ => True) (dw_X8 a ac s0) ∧ nv_E dI (va_A (dw_X8 a ac s0) sz) U)) (va_Qi (fun x _ => x = r.1) (fun (_ : Unit) t => va_P (dC, dI) vwCl (dw_X8 a ac r.2) t.heap ∧ va_K (dC, dI) vwCl (dk_X8 ac) t ∧ va_D (va_A (dw_X8 a ac s0) sz) (dw_X8 a ac r.2)) (va_A (dw_X8 a ac s0) sz)) 0 0 (va_A (dw_X8 a ac s0) sz) := by
  refine Met.ofW (cc := cX8_labelUpTo) (maxL := 4) (ret := (some .int)) (by decide) rfl ?_
  intro p e s m args below meth c s₁ B hml hv
  obtain ⟨rfl, hsz, hP, hK, hD0, hN⟩ := hv
  have hx := B.exec
  have hb := B.bytes
  have hr := B.returns
  have hts := atoms_spec (ws := ow_dm_X8_labelUpTo) B.pre
  have hown : s.vm.findClass RX8 = some m.cls := findClass_of_methodNamed B.named
  have hlocks := B.notSynchronized
  subst hsz
  have hD := hD0.self (sz := s.heap.size)
  generalize hAe : va_A (dw_X8 a ac s0) s.heap.size = A at hD hN ⊢
  have hA : ∀ q : Nat, s.heap.size ≤ q → A q := fun q h => by rw [← hAe]; exact Or.inr h
  have hl := lv_entry ([.ref (a 0), .int v0]) (n := 4) (Nat.le_of_ble_eq_true rfl)
  rw [lg_entry_eq]
  generalize (lg_sl ([.ref (a 0), .int v0]) ++ List.replicate (4 - (lg_sl ([.ref (a 0), .int v0])).length) Slot.unset).toArray = ls at hl ⊢
  have hl : lv_has ls 4 [(0, .ref (a 0)), (1, .int v0)] := hl
  exact db_X8_labelUpTo_0 (dC := dC) (dI := dI) (a := a) (ac := ac) (n := n) (r := r) ⟨hlt, hx, hb, hml, hown, hts, hN, hA, hK⟩ (fun pc v τ H locs ls d z er hP hD hS => by subst er; exact W.zret (v := v) hx hb hr z (fun t ht hW => ⟨⟨v, (), rfl, rfl, by rw [ht]; exact hP, va_K.moved hW.alike hK, hD⟩, hS.F ht⟩) hS.2.2 d) v0 s0 _ _ _ h hP hD va_S.rf (lv_sub hl [0, 1] rfl)
def ow_dm_X8_lineOf : List Cond := Cond.code yX8_lineOf cX8_lineOf 4 (some .int) :: ([Cond.fieldLink RX8 35 "TimeMachine$Program" "size" "I", Cond.fieldLink RX8 28 "TimeMachine$Program" "textSize" "I", Cond.fieldLink RX8 41 "TimeMachine$Program" "statements" "I", Cond.fieldLink RX8 25 "TimeMachine$Program" "line" "[I", Cond.fieldLink RX8 22 "TimeMachine$Program" "start" "[I", Cond.fieldLink RX8 32 "TimeMachine$Program" "dataStart" "I"] ++ (u_ws RX8 TX8 10 ++ []))
theorem gd_dm_X8_lineOf : ∀ w ∈ ow_dm_X8_lineOf, (w.onTables && w.keeps) = true ∨ ∃ ty, w = Cond.arrayClass ty := List.forall_mem_cons.mpr ⟨good_of_word rfl, List.forall_mem_append.mpr ⟨fun w h => good_of_word (List.all_eq_true.mp (by decide +kernel) w h), List.forall_mem_append.mpr ⟨gu_X8, fun _ h => nomatch h⟩⟩⟩
theorem hi_dm_X8_lineOf_X8 : ∀ w ∈ u_ws RX8 TX8 10, w ∈ ow_dm_X8_lineOf := fun w h => List.mem_cons_of_mem _ (List.mem_append_right _ (List.mem_append_left _ h))
def dj_X8_lineOf_28 (p : Program) (l : Launch) (e : Env) (s : State) (m : MethodId) (args : Array Value) (below : List Frame) (meth : Method) (c : Code) (Q : State → Prop) (A : Nat → Prop) (dC : Nat → ClassId) (dI : Nat → Nat → Nat) (a : Nat → Nat) (ac : Nat → ClassId) (g : (St) → Option (Int32 × (St))) (r : Int32 × (St)) : Prop := ∀ (s0 : St) (H : Heap) (locs : List Loc) (ls : Array Slot), g s0 = some r → va_P (dC, dI) vwCl (dw_X8 a ac s0) H → va_D A (dw_X8 a ac s0) → va_S A s.heap H locs → lv_has ls 4 [] → W p l e (headSpec ow_dm_X8_lineOf ({ frames := 0, cells := 0, slots := 0, locals := 0 })).room s m args below meth c H locs 0 0 Q (F0 m 28 ls [])
def dj_X8_lineOf_93 (p : Program) (l : Launch) (e : Env) (s : State) (m : MethodId) (args : Array Value) (below : List Frame) (meth : Method) (c : Code) (Q : State → Prop) (A : Nat → Prop) (dC : Nat → ClassId) (dI : Nat → Nat → Nat) (a : Nat → Nat) (ac : Nat → ClassId) (g : Int32 → (St) → Option (Int32 × (St))) (r : Int32 × (St)) : Prop := ∀ (y0 : Int32) (s0 : St) (H : Heap) (locs : List Loc) (ls : Array Slot), g y0 s0 = some r → va_P (dC, dI) vwCl (dw_X8 a ac s0) H → va_D A (dw_X8 a ac s0) → va_S A s.heap H locs → lv_has ls 4 [] → W p l e (headSpec ow_dm_X8_lineOf ({ frames := 0, cells := 0, slots := 0, locals := 0 })).room s m args below meth c H locs 0 0 Q (F0 m 93 ls [.int y0])
def dj_X8_lineOf_73 (p : Program) (l : Launch) (e : Env) (s : State) (m : MethodId) (args : Array Value) (below : List Frame) (meth : Method) (c : Code) (Q : State → Prop) (A : Nat → Prop) (dC : Nat → ClassId) (dI : Nat → Nat → Nat) (a : Nat → Nat) (ac : Nat → ClassId) (g : Int32 → Int32 → Int32 → (St) → Option (Int32 × (St))) (r : Int32 × (St)) : Prop := ∀ (x1 : Int32) (x2 : Int32) (x3 : Int32) (s0 : St) (H : Heap) (locs : List Loc) (ls : Array Slot), g x1 x2 x3 s0 = some r → va_P (dC, dI) vwCl (dw_X8 a ac s0) H → va_D A (dw_X8 a ac s0) → va_S A s.heap H locs → lv_has ls 4 [(0, .ref (a 0)), (1, .int x1), (2, .int x2), (3, .int x3)] → W p l e (headSpec ow_dm_X8_lineOf ({ frames := 0, cells := 0, slots := 0, locals := 0 })).room s m args below meth c H locs 0 0 Q (F0 m 73 ls [])
def dj_X8_lineOf_71 (p : Program) (l : Launch) (e : Env) (s : State) (m : MethodId) (args : Array Value) (below : List Frame) (meth : Method) (c : Code) (Q : State → Prop) (A : Nat → Prop) (dC : Nat → ClassId) (dI : Nat → Nat → Nat) (a : Nat → Nat) (ac : Nat → ClassId) (g : Int32 → Int32 → (St) → Option (Int32 × (St))) (r : Int32 × (St)) : Prop := ∀ (x1 : Int32) (x3 : Int32) (s0 : St) (H : Heap) (locs : List Loc) (ls : Array Slot), g x1 x3 s0 = some r → va_P (dC, dI) vwCl (dw_X8 a ac s0) H → va_D A (dw_X8 a ac s0) → va_S A s.heap H locs → lv_has ls 4 [(0, .ref (a 0)), (1, .int x1), (3, .int x3)] → W p l e (headSpec ow_dm_X8_lineOf ({ frames := 0, cells := 0, slots := 0, locals := 0 })).room s m args below meth c H locs 0 0 Q (F0 m 71 ls [])
def dj_X8_lineOf_34 (p : Program) (l : Launch) (e : Env) (s : State) (m : MethodId) (args : Array Value) (below : List Frame) (meth : Method) (c : Code) (Q : State → Prop) (A : Nat → Prop) (dC : Nat → ClassId) (dI : Nat → Nat → Nat) (a : Nat → Nat) (ac : Nat → ClassId) (g : Int32 → Int32 → Int32 → (St) → Option (Int32 × (St))) (r : Int32 × (St)) : Prop := ∀ (x1 : Int32) (x2 : Int32) (x3 : Int32) (s0 : St) (H : Heap) (locs : List Loc) (ls : Array Slot), g x1 x2 x3 s0 = some r → va_P (dC, dI) vwCl (dw_X8 a ac s0) H → va_D A (dw_X8 a ac s0) → va_S A s.heap H locs → lv_has ls 4 [(0, .ref (a 0)), (1, .int x1), (2, .int x2), (3, .int x3)] → W p l e (headSpec ow_dm_X8_lineOf ({ frames := 0, cells := 0, slots := 0, locals := 0 })).room s m args below meth c H locs 0 0 Q (F0 m 34 ls [])
def dj_X8_lineOf_30 (p : Program) (l : Launch) (e : Env) (s : State) (m : MethodId) (args : Array Value) (below : List Frame) (meth : Method) (c : Code) (Q : State → Prop) (A : Nat → Prop) (dC : Nat → ClassId) (dI : Nat → Nat → Nat) (a : Nat → Nat) (ac : Nat → ClassId) (g : Int32 → (St) → Option (Int32 × (St))) (r : Int32 × (St)) : Prop := ∀ (x1 : Int32) (s0 : St) (H : Heap) (locs : List Loc) (ls : Array Slot), g x1 s0 = some r → va_P (dC, dI) vwCl (dw_X8 a ac s0) H → va_D A (dw_X8 a ac s0) → va_S A s.heap H locs → lv_has ls 4 [(0, .ref (a 0)), (1, .int x1)] → W p l e (headSpec ow_dm_X8_lineOf ({ frames := 0, cells := 0, slots := 0, locals := 0 })).room s m args below meth c H locs 0 0 Q (F0 m 30 ls [])
def dj_X8_lineOf_0 (p : Program) (l : Launch) (e : Env) (s : State) (m : MethodId) (args : Array Value) (below : List Frame) (meth : Method) (c : Code) (Q : State → Prop) (A : Nat → Prop) (dC : Nat → ClassId) (dI : Nat → Nat → Nat) (a : Nat → Nat) (ac : Nat → ClassId) (g : Int32 → (St) → Option (Int32 × (St))) (r : Int32 × (St)) : Prop := ∀ (v0 : Int32) (s0 : St) (H : Heap) (locs : List Loc) (ls : Array Slot), g v0 s0 = some r → va_P (dC, dI) vwCl (dw_X8 a ac s0) H → va_D A (dw_X8 a ac s0) → va_S A s.heap H locs → lv_has ls 4 [(0, .ref (a 0)), (1, .int v0)] → W p l e (headSpec ow_dm_X8_lineOf ({ frames := 0, cells := 0, slots := 0, locals := 0 })).room s m args below meth c H locs 0 0 Q (F0 m 0 ls [])
set_option maxHeartbeats 40000000 in
set_option maxRecDepth 100000 in
theorem db_X8_lineOf_28 {p : Program} {l : Launch} {e : Env} {s : State} {m : MethodId} {args : Array Value} {below : List Frame} {meth : Method} {c : Code} {Q : State → Prop} {A : Nat → Prop} {dC : Nat → ClassId} {dI : Nat → Nat → Nat} {a : Nat → Nat} {ac : Nat → ClassId} {n : Nat} {r : Int32 × (St)} (C : nd_C p l s m args c A (dC, dI) cX8_lineOf 4 RX8 ow_dm_X8_lineOf (dk_X8 ac)) (K : nd_Ki p l e (headSpec ow_dm_X8_lineOf ({ frames := 0, cells := 0, slots := 0, locals := 0 })).room s m args below meth c Q A (dC, dI) cX8_lineOf .int (St) (dw_X8 a ac) r) : dj_X8_lineOf_28 p l e s m args below meth c Q A dC dI a ac (df_X8_lineOf_28 n) r := by
  obtain ⟨hlt, hx, hb, hml, hown, hts, hN, hA, hK⟩ := id C
  intro s0 H locs ls h hP hD hS hl
  unfold df_X8_lineOf_28 at h
  refine lv_iconst (v := 0) hx hb dX8_lineOf_28 (by decide) ?_
  exact K _ _ _ _ _ _ dX8_lineOf_29 rfl (Option.some.inj h).symm hP hD hS
set_option maxHeartbeats 40000000 in
set_option maxRecDepth 100000 in
theorem db_X8_lineOf_93 {p : Program} {l : Launch} {e : Env} {s : State} {m : MethodId} {args : Array Value} {below : List Frame} {meth : Method} {c : Code} {Q : State → Prop} {A : Nat → Prop} {dC : Nat → ClassId} {dI : Nat → Nat → Nat} {a : Nat → Nat} {ac : Nat → ClassId} {n : Nat} {r : Int32 × (St)} (C : nd_C p l s m args c A (dC, dI) cX8_lineOf 4 RX8 ow_dm_X8_lineOf (dk_X8 ac)) (K : nd_Ki p l e (headSpec ow_dm_X8_lineOf ({ frames := 0, cells := 0, slots := 0, locals := 0 })).room s m args below meth c Q A (dC, dI) cX8_lineOf .int (St) (dw_X8 a ac) r) : dj_X8_lineOf_93 p l e s m args below meth c Q A dC dI a ac (df_X8_lineOf_93 n) r := by
  obtain ⟨hlt, hx, hb, hml, hown, hts, hN, hA, hK⟩ := id C
  intro y0 s0 H locs ls h hP hD hS hl
  unfold df_X8_lineOf_93 at h
  exact K _ _ _ _ _ _ dX8_lineOf_93 rfl (Option.some.inj h).symm hP hD hS
set_option maxHeartbeats 40000000 in
set_option maxRecDepth 100000 in
theorem db_X8_lineOf_73 {p : Program} {l : Launch} {e : Env} {s : State} {m : MethodId} {args : Array Value} {below : List Frame} {meth : Method} {c : Code} {Q : State → Prop} {A : Nat → Prop} {dC : Nat → ClassId} {dI : Nat → Nat → Nat} {a : Nat → Nat} {ac : Nat → ClassId} {n : Nat} {r : Int32 × (St)} (C : nd_C p l s m args c A (dC, dI) cX8_lineOf 4 RX8 ow_dm_X8_lineOf (dk_X8 ac)) (K : nd_Ki p l e (headSpec ow_dm_X8_lineOf ({ frames := 0, cells := 0, slots := 0, locals := 0 })).room s m args below meth c Q A (dC, dI) cX8_lineOf .int (St) (dw_X8 a ac) r) {g34 : Int32 → Int32 → Int32 → (St) → Option (Int32 × (St))} (J34 : dj_X8_lineOf_34 p l e s m args below meth c Q A dC dI a ac g34 r) : dj_X8_lineOf_73 p l e s m args below meth c Q A dC dI a ac (df_X8_lineOf_73 n g34) r := by
  obtain ⟨hlt, hx, hb, hml, hown, hts, hN, hA, hK⟩ := id C
  intro x1 x2 x3 s0 H locs ls h hP hD hS hl
  unfold df_X8_lineOf_73 at h
  obtain ⟨z9, ez9, h⟩ := nd_let_e h
  refine lv_iinc (v := z9) (lv' := [(3, .int z9), (0, .ref (a 0)), (1, .int x1), (2, .int x2)]) hx hb dX8_lineOf_73 hl (k := 3) rfl (by rw [ez9]) (by decide) rfl (fun ls hl => ?_)
  refine lv_goto (tgt := 34) hx hb dX8_lineOf_76 (by decide) ?_
  exact (J34) (x1) (x2) (z9) s0 _ _ _ h hP hD hS (lv_sub hl [1, 2, 3, 0] rfl)
set_option maxHeartbeats 40000000 in
set_option maxRecDepth 100000 in
theorem db_X8_lineOf_71 {p : Program} {l : Launch} {e : Env} {s : State} {m : MethodId} {args : Array Value} {below : List Frame} {meth : Method} {c : Code} {Q : State → Prop} {A : Nat → Prop} {dC : Nat → ClassId} {dI : Nat → Nat → Nat} {a : Nat → Nat} {ac : Nat → ClassId} {n : Nat} {r : Int32 × (St)} (C : nd_C p l s m args c A (dC, dI) cX8_lineOf 4 RX8 ow_dm_X8_lineOf (dk_X8 ac)) (K : nd_Ki p l e (headSpec ow_dm_X8_lineOf ({ frames := 0, cells := 0, slots := 0, locals := 0 })).room s m args below meth c Q A (dC, dI) cX8_lineOf .int (St) (dw_X8 a ac) r) {g34 : Int32 → Int32 → Int32 → (St) → Option (Int32 × (St))} (J34 : dj_X8_lineOf_34 p l e s m args below meth c Q A dC dI a ac g34 r) : dj_X8_lineOf_71 p l e s m args below meth c Q A dC dI a ac (df_X8_lineOf_71 n g34) r := by
  obtain ⟨hlt, hx, hb, hml, hown, hts, hN, hA, hK⟩ := id C
  intro x1 x3 s0 H locs ls h hP hD hS hl
  unfold df_X8_lineOf_71 at h
  refine lv_iload_n hx hb dX8_lineOf_71 rfl (lv_at hl 2 rfl) ?_
  refine lv_istore_n (lv' := [(2, .int x3), (0, .ref (a 0)), (1, .int x1), (3, .int x3)]) hx hb dX8_lineOf_72 rfl hl (by decide) rfl (fun ls hl => ?_)
  exact (db_X8_lineOf_73 C K J34) (x1) (x3) (x3) s0 _ _ _ h hP hD hS (lv_sub hl [1, 2, 0, 3] rfl)
set_option maxHeartbeats 40000000 in
set_option maxRecDepth 100000 in
theorem dB_X8_lineOf_34 {p : Program} {l : Launch} {e : Env} {s : State} {m : MethodId} {args : Array Value} {below : List Frame} {meth : Method} {c : Code} {Q : State → Prop} {A : Nat → Prop} {dC : Nat → ClassId} {dI : Nat → Nat → Nat} {a : Nat → Nat} {ac : Nat → ClassId} {n : Nat} {r : Int32 × (St)} (C : nd_C p l s m args c A (dC, dI) cX8_lineOf 4 RX8 ow_dm_X8_lineOf (dk_X8 ac)) (K : nd_Ki p l e (headSpec ow_dm_X8_lineOf ({ frames := 0, cells := 0, slots := 0, locals := 0 })).room s m args below meth c Q A (dC, dI) cX8_lineOf .int (St) (dw_X8 a ac) r) {g34 : Int32 → Int32 → Int32 → (St) → Option (Int32 × (St))} (J34 : dj_X8_lineOf_34 p l e s m args below meth c Q A dC dI a ac g34 r) : dj_X8_lineOf_34 p l e s m args below meth c Q A dC dI a ac (dF_X8_lineOf_34 n g34) r := by
  obtain ⟨hlt, hx, hb, hml, hown, hts, hN, hA, hK⟩ := id C
  intro x1 x2 x3 s0 H locs ls h hP hD hS hl
  unfold dF_X8_lineOf_34 at h
  refine lv_iload_n hx hb dX8_lineOf_34 rfl (lv_at hl 3 rfl) ?_
  refine lv_aload_n hx hb dX8_lineOf_35 rfl (lv_at hl 0 rfl) ?_
  refine va_get (D := (dC, dI)) (ci := 9) (v := .int (sI s0 5)) (C := RX8) (T := TX8) (N := 10) hx hb hts hi_dm_X8_lineOf_X8 hown hK hP 0 rfl rfl 9 (by decide) (hts (.fieldLink RX8 41 "TimeMachine$Program" "statements" "I") (List.mem_of_getElem? (i := 3) rfl)) (fun _ h9 => h9) rfl dX8_lineOf_36 ?_
  refine lv_icmp_ge (tgt := 79) hx hb dX8_lineOf_39 (by decide) (fun c4 => ?_) (fun c4 => ?_)
  · have h := nd_pos h c4
    refine lv_iload_n hx hb dX8_lineOf_79 rfl (lv_at hl 2 rfl) ?_
    refine lv_if_ge (tgt := 87) hx hb dX8_lineOf_80 (by decide) (fun c5 => ?_) (fun c5 => ?_)
    · have h := nd_pos h c5
      refine lv_aload_n hx hb dX8_lineOf_87 rfl (lv_at hl 0 rfl) ?_
      refine va_get (D := (dC, dI)) (ci := 9) (v := .ref (a 4)) (C := RX8) (T := TX8) (N := 10) hx hb hts hi_dm_X8_lineOf_X8 hown hK hP 0 rfl rfl 8 (by decide) (hts (.fieldLink RX8 25 "TimeMachine$Program" "line" "[I") (List.mem_of_getElem? (i := 4) rfl)) (fun _ h9 => h9) rfl dX8_lineOf_88 ?_
      refine lv_iload_n hx hb dX8_lineOf_91 rfl (lv_at hl 2 rfl) ?_
      obtain ⟨i6, h⟩ := nd_ck_e h
      refine va_iald (i := x2) hx hb hK hP 4 3 rfl rfl i6 dX8_lineOf_92 ?_
      exact (db_X8_lineOf_93 C K) ((sR s0 3 (Int32.toNatClampNeg x2))) s0 _ _ _ h hP hD hS (lv_sub hl [] rfl)
    · have h := nd_neg h c5
      refine lv_iconst (v := 0) hx hb dX8_lineOf_83 (by decide) ?_
      refine lv_goto (tgt := 93) hx hb dX8_lineOf_84 (by decide) ?_
      exact (db_X8_lineOf_93 C K) (0) s0 _ _ _ h hP hD hS (lv_sub hl [] rfl)
  · have h := nd_neg h c4
    refine lv_aload_n hx hb dX8_lineOf_42 rfl (lv_at hl 0 rfl) ?_
    refine va_get (D := (dC, dI)) (ci := 9) (v := .ref (a 3)) (C := RX8) (T := TX8) (N := 10) hx hb hts hi_dm_X8_lineOf_X8 hown hK hP 0 rfl rfl 7 (by decide) (hts (.fieldLink RX8 22 "TimeMachine$Program" "start" "[I") (List.mem_of_getElem? (i := 5) rfl)) (fun _ h9 => h9) rfl dX8_lineOf_43 ?_
    refine lv_iload_n hx hb dX8_lineOf_46 rfl (lv_at hl 3 rfl) ?_
    obtain ⟨i7, h⟩ := nd_ck_e h
    refine va_iald (i := x3) hx hb hK hP 3 2 rfl rfl i7 dX8_lineOf_47 ?_
    refine lv_iload_n hx hb dX8_lineOf_48 rfl (lv_at hl 1 rfl) ?_
    refine lv_icmp_gt (tgt := 73) hx hb dX8_lineOf_49 (by decide) (fun c8 => ?_) (fun c8 => ?_)
    · have h := nd_pos h c8
      exact (db_X8_lineOf_73 C K J34) (x1) (x2) (x3) s0 _ _ _ h hP hD hS (lv_sub hl [0, 1, 2, 3] rfl)
    · have h := nd_neg h c8
      refine lv_iload_n hx hb dX8_lineOf_52 rfl (lv_at hl 2 rfl) ?_
      refine lv_if_lt (tgt := 71) hx hb dX8_lineOf_53 (by decide) (fun c10 => ?_) (fun c10 => ?_)
      · have h := nd_pos h c10
        exact (db_X8_lineOf_71 C K J34) (x1) (x3) s0 _ _ _ h hP hD hS (lv_sub hl [0, 1, 3] rfl)
      · have h := nd_neg h c10
        refine lv_aload_n hx hb dX8_lineOf_56 rfl (lv_at hl 0 rfl) ?_
        refine va_get (D := (dC, dI)) (ci := 9) (v := .ref (a 3)) (C := RX8) (T := TX8) (N := 10) hx hb hts hi_dm_X8_lineOf_X8 hown hK hP 0 rfl rfl 7 (by decide) (hts (.fieldLink RX8 22 "TimeMachine$Program" "start" "[I") (List.mem_of_getElem? (i := 5) rfl)) (fun _ h9 => h9) rfl dX8_lineOf_57 ?_
        refine lv_iload_n hx hb dX8_lineOf_60 rfl (lv_at hl 3 rfl) ?_
        obtain ⟨i11, h⟩ := nd_ck_e h
        refine va_iald (i := x3) hx hb hK hP 3 2 rfl rfl i11 dX8_lineOf_61 ?_
        refine lv_aload_n hx hb dX8_lineOf_62 rfl (lv_at hl 0 rfl) ?_
        refine va_get (D := (dC, dI)) (ci := 9) (v := .ref (a 3)) (C := RX8) (T := TX8) (N := 10) hx hb hts hi_dm_X8_lineOf_X8 hown hK hP 0 rfl rfl 7 (by decide) (hts (.fieldLink RX8 22 "TimeMachine$Program" "start" "[I") (List.mem_of_getElem? (i := 5) rfl)) (fun _ h9 => h9) rfl dX8_lineOf_63 ?_
        refine lv_iload_n hx hb dX8_lineOf_66 rfl (lv_at hl 2 rfl) ?_
        obtain ⟨i12, h⟩ := nd_ck_e h
        refine va_iald (i := x2) hx hb hK hP 3 2 rfl rfl i12 dX8_lineOf_67 ?_
        refine lv_icmp_le (tgt := 73) hx hb dX8_lineOf_68 (by decide) (fun c13 => ?_) (fun c13 => ?_)
        · have h := nd_pos h c13
          exact (db_X8_lineOf_73 C K J34) (x1) (x2) (x3) s0 _ _ _ h hP hD hS (lv_sub hl [0, 1, 2, 3] rfl)
        · have h := nd_neg h c13
          exact (db_X8_lineOf_71 C K J34) (x1) (x3) s0 _ _ _ h hP hD hS (lv_sub hl [0, 1, 3] rfl)
set_option maxHeartbeats 40000000 in
set_option maxRecDepth 100000 in
theorem db_X8_lineOf_34 {p : Program} {l : Launch} {e : Env} {s : State} {m : MethodId} {args : Array Value} {below : List Frame} {meth : Method} {c : Code} {Q : State → Prop} {A : Nat → Prop} {dC : Nat → ClassId} {dI : Nat → Nat → Nat} {a : Nat → Nat} {ac : Nat → ClassId} {n : Nat} {r : Int32 × (St)} (C : nd_C p l s m args c A (dC, dI) cX8_lineOf 4 RX8 ow_dm_X8_lineOf (dk_X8 ac)) (K : nd_Ki p l e (headSpec ow_dm_X8_lineOf ({ frames := 0, cells := 0, slots := 0, locals := 0 })).room s m args below meth c Q A (dC, dI) cX8_lineOf .int (St) (dw_X8 a ac) r) (k : Nat) : dj_X8_lineOf_34 p l e s m args below meth c Q A dC dI a ac (df_X8_lineOf_34 n k) r := by
  induction k with
  | zero => intro x1 x2 x3 s0 H locs ls h; exact nomatch (show (none : Option (Int32 × (St))) = some r from h)
  | succ k ih => exact dB_X8_lineOf_34 C K ih
set_option maxHeartbeats 40000000 in
set_option maxRecDepth 100000 in
theorem db_X8_lineOf_30 {p : Program} {l : Launch} {e : Env} {s : State} {m : MethodId} {args : Array Value} {below : List Frame} {meth : Method} {c : Code} {Q : State → Prop} {A : Nat → Prop} {dC : Nat → ClassId} {dI : Nat → Nat → Nat} {a : Nat → Nat} {ac : Nat → ClassId} {n : Nat} {r : Int32 × (St)} (C : nd_C p l s m args c A (dC, dI) cX8_lineOf 4 RX8 ow_dm_X8_lineOf (dk_X8 ac)) (K : nd_Ki p l e (headSpec ow_dm_X8_lineOf ({ frames := 0, cells := 0, slots := 0, locals := 0 })).room s m args below meth c Q A (dC, dI) cX8_lineOf .int (St) (dw_X8 a ac) r) : dj_X8_lineOf_30 p l e s m args below meth c Q A dC dI a ac (df_X8_lineOf_30 n) r := by
  obtain ⟨hlt, hx, hb, hml, hown, hts, hN, hA, hK⟩ := id C
  intro x1 s0 H locs ls h hP hD hS hl
  unfold df_X8_lineOf_30 at h
  refine lv_iconst (v := (-1)) hx hb dX8_lineOf_30 (by decide) ?_
  refine lv_istore_n (lv' := [(2, .int (-1)), (0, .ref (a 0)), (1, .int x1)]) hx hb dX8_lineOf_31 rfl hl (by decide) rfl (fun ls hl => ?_)
  refine lv_iconst (v := 0) hx hb dX8_lineOf_32 (by decide) ?_
  refine lv_istore_n (lv' := [(3, .int 0), (2, .int (-1)), (0, .ref (a 0)), (1, .int x1)]) hx hb dX8_lineOf_33 rfl hl (by decide) rfl (fun ls hl => ?_)
  exact (db_X8_lineOf_34 C K n) (x1) ((-1)) (0) s0 _ _ _ h hP hD hS (lv_sub hl [2, 3, 1, 0] rfl)
set_option maxHeartbeats 40000000 in
set_option maxRecDepth 100000 in
theorem db_X8_lineOf_0 {p : Program} {l : Launch} {e : Env} {s : State} {m : MethodId} {args : Array Value} {below : List Frame} {meth : Method} {c : Code} {Q : State → Prop} {A : Nat → Prop} {dC : Nat → ClassId} {dI : Nat → Nat → Nat} {a : Nat → Nat} {ac : Nat → ClassId} {n : Nat} {r : Int32 × (St)} (C : nd_C p l s m args c A (dC, dI) cX8_lineOf 4 RX8 ow_dm_X8_lineOf (dk_X8 ac)) (K : nd_Ki p l e (headSpec ow_dm_X8_lineOf ({ frames := 0, cells := 0, slots := 0, locals := 0 })).room s m args below meth c Q A (dC, dI) cX8_lineOf .int (St) (dw_X8 a ac) r) : dj_X8_lineOf_0 p l e s m args below meth c Q A dC dI a ac (df_X8_lineOf_0 n) r := by
  obtain ⟨hlt, hx, hb, hml, hown, hts, hN, hA, hK⟩ := id C
  intro v0 s0 H locs ls h hP hD hS hl
  unfold df_X8_lineOf_0 at h
  refine lv_iload_n hx hb dX8_lineOf_0 rfl (lv_at hl 1 rfl) ?_
  refine lv_if_lt (tgt := 28) hx hb dX8_lineOf_1 (by decide) (fun c1 => ?_) (fun c1 => ?_)
  · have h := nd_pos h c1
    exact (db_X8_lineOf_28 C K)  s0 _ _ _ h hP hD hS (lv_sub hl [] rfl)
  · have h := nd_neg h c1
    refine lv_iload_n hx hb dX8_lineOf_4 rfl (lv_at hl 1 rfl) ?_
    refine lv_aload_n hx hb dX8_lineOf_5 rfl (lv_at hl 0 rfl) ?_
    refine va_get (D := (dC, dI)) (ci := 9) (v := .int (sI s0 2)) (C := RX8) (T := TX8) (N := 10) hx hb hts hi_dm_X8_lineOf_X8 hown hK hP 0 rfl rfl 3 (by decide) (hts (.fieldLink RX8 35 "TimeMachine$Program" "size" "I") (List.mem_of_getElem? (i := 1) rfl)) (fun _ h9 => h9) rfl dX8_lineOf_6 ?_
    refine lv_icmp_ge (tgt := 28) hx hb dX8_lineOf_9 (by decide) (fun c2 => ?_) (fun c2 => ?_)
    · have h := nd_pos h c2
      exact (db_X8_lineOf_28 C K)  s0 _ _ _ h hP hD hS (lv_sub hl [] rfl)
    · have h := nd_neg h c2
      refine lv_iload_n hx hb dX8_lineOf_12 rfl (lv_at hl 1 rfl) ?_
      refine lv_aload_n hx hb dX8_lineOf_13 rfl (lv_at hl 0 rfl) ?_
      refine va_get (D := (dC, dI)) (ci := 9) (v := .int (sI s0 0)) (C := RX8) (T := TX8) (N := 10) hx hb hts hi_dm_X8_lineOf_X8 hown hK hP 0 rfl rfl 1 (by decide) (hts (.fieldLink RX8 28 "TimeMachine$Program" "textSize" "I") (List.mem_of_getElem? (i := 2) rfl)) (fun _ h9 => h9) rfl dX8_lineOf_14 ?_
      refine lv_icmp_lt (tgt := 30) hx hb dX8_lineOf_17 (by decide) (fun c3 => ?_) (fun c3 => ?_)
      · have h := nd_pos h c3
        exact (db_X8_lineOf_30 C K) (v0) s0 _ _ _ h hP hD hS (lv_sub hl [0, 1] rfl)
      · have h := nd_neg h c3
        refine lv_iload_n hx hb dX8_lineOf_20 rfl (lv_at hl 1 rfl) ?_
        refine lv_aload_n hx hb dX8_lineOf_21 rfl (lv_at hl 0 rfl) ?_
        refine va_get (D := (dC, dI)) (ci := 9) (v := .int (sI s0 1)) (C := RX8) (T := TX8) (N := 10) hx hb hts hi_dm_X8_lineOf_X8 hown hK hP 0 rfl rfl 2 (by decide) (hts (.fieldLink RX8 32 "TimeMachine$Program" "dataStart" "I") (List.mem_of_getElem? (i := 6) rfl)) (fun _ h9 => h9) rfl dX8_lineOf_22 ?_
        refine lv_icmp_ge (tgt := 30) hx hb dX8_lineOf_25 (by decide) (fun c14 => ?_) (fun c14 => ?_)
        · have h := nd_pos h c14
          exact (db_X8_lineOf_30 C K) (v0) s0 _ _ _ h hP hD hS (lv_sub hl [0, 1] rfl)
        · have h := nd_neg h c14
          exact (db_X8_lineOf_28 C K)  s0 _ _ _ h hP hD hS (lv_sub hl [] rfl)
set_option maxHeartbeats 40000000 in
set_option maxRecDepth 100000 in
theorem dm_X8_lineOf (l : Launch) (hlt : l.stackTraces = false) (dC : Nat → ClassId) (dI : Nat → Nat → Nat) (a : Nat → Nat) (ac : Nat → ClassId) (n : Nat) (v0 : Int32) (s0 : St) {r : Int32 × (St)} (h : df_X8_lineOf n v0 s0 = some r) (sz : Nat) : Met l yX8_lineOf ow_dm_X8_lineOf ({ frames := 0, cells := 0, slots := 0, locals := 0 }) (va_Pc [.ref (a 0), .int v0] (fun U => U.heap.size = sz ∧ va_P (dC, dI) vwCl (dw_X8 a ac s0) U.heap ∧ va_K (dC, dI) vwCl (dk_X8 ac) U ∧ va_D (fun _ => True) (dw_X8 a ac s0) ∧ nv_E dI (va_A (dw_X8 a ac s0) sz) U)) (va_Qi (fun x _ => x = r.1) (fun (_ : Unit) t => va_P (dC, dI) vwCl (dw_X8 a ac r.2) t.heap ∧ va_K (dC, dI) vwCl (dk_X8 ac) t ∧ va_D (va_A (dw_X8 a ac s0) sz) (dw_X8 a ac r.2)) (va_A (dw_X8 a ac s0) sz)) 0 0 (va_A (dw_X8 a ac s0) sz) := by
  refine Met.ofW (cc := cX8_lineOf) (maxL := 4) (ret := (some .int)) (by decide) rfl ?_
  intro p e s m args below meth c s₁ B hml hv
  obtain ⟨rfl, hsz, hP, hK, hD0, hN⟩ := hv
  have hx := B.exec
  have hb := B.bytes
  have hr := B.returns
  have hts := atoms_spec (ws := ow_dm_X8_lineOf) B.pre
  have hown : s.vm.findClass RX8 = some m.cls := findClass_of_methodNamed B.named
  have hlocks := B.notSynchronized
  subst hsz
  have hD := hD0.self (sz := s.heap.size)
  generalize hAe : va_A (dw_X8 a ac s0) s.heap.size = A at hD hN ⊢
  have hA : ∀ q : Nat, s.heap.size ≤ q → A q := fun q h => by rw [← hAe]; exact Or.inr h
  have hl := lv_entry ([.ref (a 0), .int v0]) (n := 4) (Nat.le_of_ble_eq_true rfl)
  rw [lg_entry_eq]
  generalize (lg_sl ([.ref (a 0), .int v0]) ++ List.replicate (4 - (lg_sl ([.ref (a 0), .int v0])).length) Slot.unset).toArray = ls at hl ⊢
  have hl : lv_has ls 4 [(0, .ref (a 0)), (1, .int v0)] := hl
  exact db_X8_lineOf_0 (dC := dC) (dI := dI) (a := a) (ac := ac) (n := n) (r := r) ⟨hlt, hx, hb, hml, hown, hts, hN, hA, hK⟩ (fun pc v τ H locs ls d z er hP hD hS => by subst er; exact W.zret (v := v) hx hb hr z (fun t ht hW => ⟨⟨v, (), rfl, rfl, by rw [ht]; exact hP, va_K.moved hW.alike hK, hD⟩, hS.F ht⟩) hS.2.2 d) v0 s0 _ _ _ h hP hD va_S.rf (lv_sub hl [0, 1] rfl)
def ow_dm_J7_fill_53178 : List Cond := Cond.code yJ7_fill_53178 cJ7_fill_53178 4 none :: ([] ++ [])
theorem gd_dm_J7_fill_53178 : ∀ w ∈ ow_dm_J7_fill_53178, (w.onTables && w.keeps) = true ∨ ∃ ty, w = Cond.arrayClass ty := List.forall_mem_cons.mpr ⟨good_of_word rfl, List.forall_mem_append.mpr ⟨fun w h => good_of_word (List.all_eq_true.mp (by decide +kernel) w h), fun _ h => nomatch h⟩⟩
set_option maxHeartbeats 40000000 in
set_option maxRecDepth 100000 in
theorem dl_J7_fill_53178 {p : Program} {l : Launch} {e : Env} {s : State} {m : MethodId} {args : Array Value} {below : List Frame} {meth : Method} {c : Code} {Q : State → Prop} {A : Nat → Prop} (dC : Nat → ClassId) (dI : Nat → Nat → Nat) (b : Nat) (cb : ClassId) (N : Nat) (hNN : (Int32.ofNat N).toInt = N) (hN31 : N < 2147483648) (f : Nat → Int32) (v : Int32) (hx : p.tables.exec = Jvm.exec) (hb : c.code = cJ7_fill_53178) (hK : va_K (dC, dI) vwCl [(cb, .int)] s)
    (kk : ∀ (H : Heap) (locs : List Loc) (ls : Array Slot), va_P (dC, dI) vwCl [(b, .inl (cb, N, .inl (nd_fl N v f)))] H → va_D A [(b, .inl (cb, N, .inl (nd_fl N v f)))] → va_S A s.heap H locs → W p l e (headSpec ow_dm_J7_fill_53178 ({ frames := 0, cells := 0, slots := 0, locals := 0 })).room s m args below meth c H locs 0 0 Q (F0 m 20 ls [])) :
    ∀ (k : Nat) (i : Int32) (H : Heap) (locs : List Loc) (ls : Array Slot), 0 ≤ i.toInt → i.toInt + k = N → va_P (dC, dI) vwCl [(b, .inl (cb, N, .inl (nd_fl i.toNatClampNeg v f)))] H → va_D A [(b, .inl (cb, N, .inl (nd_fl i.toNatClampNeg v f)))] → va_S A s.heap H locs → lv_has ls 4 [(2, .int i), (3, .int (Int32.ofNat N)), (0, .ref b), (1, .int v)] → W p l e (headSpec ow_dm_J7_fill_53178 ({ frames := 0, cells := 0, slots := 0, locals := 0 })).room s m args below meth c H locs 0 0 Q (F0 m 5 ls []) := by
  intro k
  induction k with
  | zero =>
    intro i H locs ls h0 hk hP hD hS hl
    refine lv_iload_n hx hb dJ7_fill_53178_5 rfl (lv_at hl 0 rfl) ?_
    refine lv_iload_n hx hb dJ7_fill_53178_6 rfl (lv_at hl 1 rfl) ?_
    refine lv_icmp_ge (tgt := 20) hx hb dJ7_fill_53178_7 (by decide) (fun _ => ?_) (fun h9 => absurd (Int32.le_iff_toInt_le.mpr (by rw [hNN]; omega)) h9)
    have hi : i.toNatClampNeg = N := by show i.toInt.toNat = N; omega
    rw [hi] at hP hD
    exact kk H locs ls hP hD hS
  | succ k ih =>
    intro i H locs ls h0 hk hP hD hS hl
    refine lv_iload_n hx hb dJ7_fill_53178_5 rfl (lv_at hl 0 rfl) ?_
    refine lv_iload_n hx hb dJ7_fill_53178_6 rfl (lv_at hl 1 rfl) ?_
    refine lv_icmp_ge (tgt := 20) hx hb dJ7_fill_53178_7 (by decide) (fun h9 => absurd (Int32.le_iff_toInt_le.mp h9) (by rw [hNN]; omega)) (fun _ => ?_)
    refine lv_aload_n hx hb dJ7_fill_53178_10 rfl (lv_at hl 2 rfl) ?_
    refine lv_iload_n hx hb dJ7_fill_53178_11 rfl (lv_at hl 0 rfl) ?_
    refine lv_iload_n hx hb dJ7_fill_53178_12 rfl (lv_at hl 3 rfl) ?_
    refine va_iast (i := i) (x := v) hx hb hK hP hD hS 0 0 rfl rfl (by rw [vp_in_iff]; omega) dJ7_fill_53178_13 (fun H locs hP hD hS => ?_)
    obtain ⟨z, ez⟩ : ∃ y : Int32, y = i + Int32.ofInt 1 := ⟨_, rfl⟩
    refine lv_iinc (v := z) (lv' := [(2, .int z), (3, .int (Int32.ofNat N)), (0, .ref b), (1, .int v)]) hx hb dJ7_fill_53178_14 hl (k := 0) rfl (by rw [ez]) (by decide) rfl (fun ls hl => ?_)
    refine lv_goto (tgt := 5) hx hb dJ7_fill_53178_17 (by decide) ?_
    have hz : z.toInt = i.toInt + 1 := by rw [ez]; exact nv_inc h0 (by omega)
    have hn : z.toNatClampNeg = i.toNatClampNeg + 1 := by show z.toInt.toNat = i.toInt.toNat + 1; omega
    have hP : va_P (dC, dI) vwCl [(b, .inl (cb, N, .inl (upd (nd_fl i.toNatClampNeg v f) i.toNatClampNeg v)))] H := hP
    have hD : va_D A [(b, .inl (cb, N, .inl (upd (nd_fl i.toNatClampNeg v f) i.toNatClampNeg v)))] := hD
    rw [nd_fl1, ← hn] at hP hD
    exact ih z H locs ls (by omega) (by omega) hP hD hS hl
set_option maxHeartbeats 40000000 in
set_option maxRecDepth 100000 in
theorem dm_J7_fill_53178 (l : Launch) (hlt : l.stackTraces = false) (dC : Nat → ClassId) (dI : Nat → Nat → Nat) (b : Nat) (cb : ClassId) (N : Nat) (hN31 : N < 2147483648) (f : Nat → Int32) (v : Int32) (sz : Nat) : Met l yJ7_fill_53178 ow_dm_J7_fill_53178 ({ frames := 0, cells := 0, slots := 0, locals := 0 }) (va_Pc [.ref b, .int v] (fun U => U.heap.size = sz ∧ va_P (dC, dI) vwCl [(b, .inl (cb, N, .inl f))] U.heap ∧ va_K (dC, dI) vwCl [(cb, .int)] U ∧ va_D (fun _ => True) [(b, .inl (cb, N, .inl f))] ∧ nv_E dI (va_A [(b, .inl (cb, N, .inl f))] sz) U)) (va_Qv (fun _ => True) (fun (_ : Unit) t => va_P (dC, dI) vwCl [(b, .inl (cb, N, .inl (nd_fl N v f)))] t.heap ∧ va_K (dC, dI) vwCl [(cb, .int)] t ∧ va_D (va_A [(b, .inl (cb, N, .inl f))] sz) [(b, .inl (cb, N, .inl (nd_fl N v f)))]) (va_A [(b, .inl (cb, N, .inl f))] sz)) 0 0 (va_A [(b, .inl (cb, N, .inl f))] sz) := by
  have hNN : (Int32.ofNat N).toInt = N := Int32.toInt_ofNat_of_lt hN31
  refine Met.ofW (cc := cJ7_fill_53178) (maxL := 4) (ret := none) (by decide) rfl ?_
  intro p e s m args below meth c s₁ B hml hv
  obtain ⟨rfl, hsz, hP, hK, hD0, hN⟩ := hv
  have hx := B.exec
  have hb := B.bytes
  have hr := B.returns
  have hlocks := B.notSynchronized
  subst hsz
  have hD := hD0.self (sz := s.heap.size)
  generalize hAe : va_A [(b, .inl (cb, N, .inl f))] s.heap.size = A at hD hN ⊢
  have hl := lv_entry ([.ref b, .int v]) (n := 4) (Nat.le_of_ble_eq_true rfl)
  rw [lg_entry_eq]
  generalize (lg_sl ([.ref b, .int v]) ++ List.replicate (4 - (lg_sl ([.ref b, .int v])).length) Slot.unset).toArray = ls at hl ⊢
  have hl : lv_has ls 4 [(0, .ref b), (1, .int v)] := hl
  refine lv_iconst (v := 0) hx hb dJ7_fill_53178_0 (by decide) ?_
  refine lv_istore_n (lv' := [(2, .int 0), (0, .ref b), (1, .int v)]) hx hb dJ7_fill_53178_1 rfl hl (by decide) rfl (fun ls hl => ?_)
  refine lv_aload_n hx hb dJ7_fill_53178_2 rfl (lv_at hl 1 rfl) ?_
  refine va_alen (v := Int32.ofNat N) hx hb hK hP 0 0 rfl rfl rfl dJ7_fill_53178_3 ?_
  refine lv_istore_n (lv' := [(3, .int (Int32.ofNat N)), (2, .int 0), (0, .ref b), (1, .int v)]) hx hb dJ7_fill_53178_4 rfl hl (by decide) rfl (fun ls hl => ?_)
  refine dl_J7_fill_53178 dC dI b cb N hNN hN31 f v hx hb hK (fun H locs ls hP hD hS => ?_) N 0 s.heap [] ls (by decide) (by show (0 : Int) + N = N; omega) (by rw [show (0 : Int32).toNatClampNeg = 0 from rfl, nd_fl0]; exact hP) (by rw [show (0 : Int32).toNatClampNeg = 0 from rfl, nd_fl0]; exact hD) va_S.rf (lv_sub hl [1, 0, 2, 3] rfl)
  exact W.vret hx hb hr (fun t ht hW => ⟨⟨(), rfl, trivial, by rw [ht]; exact hP, va_K.moved hW.alike hK, hD⟩, hS.F ht⟩) hS.2.2 dJ7_fill_53178_20
def ow_dm_X10_hold : List Cond := Cond.code yX10_hold cX10_hold 4 none :: ([Cond.fieldLink RX10 18 "TimeMachine$Things" "pipe" "[I", Cond.fieldLink RX10 25 "TimeMachine$Things" "file" "[I"] ++ (u_ws RX10 TX10 11 ++ []))
theorem gd_dm_X10_hold : ∀ w ∈ ow_dm_X10_hold, (w.onTables && w.keeps) = true ∨ ∃ ty, w = Cond.arrayClass ty := List.forall_mem_cons.mpr ⟨good_of_word rfl, List.forall_mem_append.mpr ⟨fun w h => good_of_word (List.all_eq_true.mp (by decide +kernel) w h), List.forall_mem_append.mpr ⟨gu_X10, fun _ h => nomatch h⟩⟩⟩
theorem hi_dm_X10_hold_X10 : ∀ w ∈ u_ws RX10 TX10 11, w ∈ ow_dm_X10_hold := fun w h => List.mem_cons_of_mem _ (List.mem_append_right _ (List.mem_append_left _ h))
def dj_X10_hold_41 (p : Program) (l : Launch) (e : Env) (s : State) (m : MethodId) (args : Array Value) (below : List Frame) (meth : Method) (c : Code) (Q : State → Prop) (A : Nat → Prop) (dC : Nat → ClassId) (dI : Nat → Nat → Nat) (a : Nat → Nat) (ac : Nat → ClassId) (g : (St) → Option (St)) (r : St) : Prop := ∀ (s0 : St) (H : Heap) (locs : List Loc) (ls : Array Slot), g s0 = some r → va_P (dC, dI) vwCl (dw_X10 a ac s0) H → va_D A (dw_X10 a ac s0) → va_S A s.heap H locs → lv_has ls 4 [] → W p l e (headSpec ow_dm_X10_hold ({ frames := 0, cells := 0, slots := 0, locals := 0 })).room s m args below meth c H locs 0 0 Q (F0 m 41 ls [])
def dj_X10_hold_0 (p : Program) (l : Launch) (e : Env) (s : State) (m : MethodId) (args : Array Value) (below : List Frame) (meth : Method) (c : Code) (Q : State → Prop) (A : Nat → Prop) (dC : Nat → ClassId) (dI : Nat → Nat → Nat) (a : Nat → Nat) (ac : Nat → ClassId) (g : Int32 → Int32 → Int32 → (St) → Option (St)) (r : St) : Prop := ∀ (v0 : Int32) (v1 : Int32) (v2 : Int32) (s0 : St) (H : Heap) (locs : List Loc) (ls : Array Slot), g v0 v1 v2 s0 = some r → va_P (dC, dI) vwCl (dw_X10 a ac s0) H → va_D A (dw_X10 a ac s0) → va_S A s.heap H locs → lv_has ls 4 [(0, .ref (a 0)), (1, .int v0), (2, .int v1), (3, .int v2)] → W p l e (headSpec ow_dm_X10_hold ({ frames := 0, cells := 0, slots := 0, locals := 0 })).room s m args below meth c H locs 0 0 Q (F0 m 0 ls [])
set_option maxHeartbeats 40000000 in
set_option maxRecDepth 100000 in
theorem db_X10_hold_41 {p : Program} {l : Launch} {e : Env} {s : State} {m : MethodId} {args : Array Value} {below : List Frame} {meth : Method} {c : Code} {Q : State → Prop} {A : Nat → Prop} {dC : Nat → ClassId} {dI : Nat → Nat → Nat} {a : Nat → Nat} {ac : Nat → ClassId} {n : Nat} {r : St} (C : nd_C p l s m args c A (dC, dI) cX10_hold 4 RX10 ow_dm_X10_hold (dk_X10 ac)) (K : nd_Kv p l e (headSpec ow_dm_X10_hold ({ frames := 0, cells := 0, slots := 0, locals := 0 })).room s m args below meth c Q A (dC, dI) cX10_hold (St) (dw_X10 a ac) r) : dj_X10_hold_41 p l e s m args below meth c Q A dC dI a ac (df_X10_hold_41 n) r := by
  obtain ⟨hlt, hx, hb, hml, hown, hts, hN, hA, hK⟩ := id C
  intro s0 H locs ls h hP hD hS hl
  unfold df_X10_hold_41 at h
  exact K _ _ _ _ _ dX10_hold_41 (Option.some.inj h).symm hP hD hS
set_option maxHeartbeats 40000000 in
set_option maxRecDepth 100000 in
theorem db_X10_hold_0 {p : Program} {l : Launch} {e : Env} {s : State} {m : MethodId} {args : Array Value} {below : List Frame} {meth : Method} {c : Code} {Q : State → Prop} {A : Nat → Prop} {dC : Nat → ClassId} {dI : Nat → Nat → Nat} {a : Nat → Nat} {ac : Nat → ClassId} {n : Nat} {r : St} (C : nd_C p l s m args c A (dC, dI) cX10_hold 4 RX10 ow_dm_X10_hold (dk_X10 ac)) (K : nd_Kv p l e (headSpec ow_dm_X10_hold ({ frames := 0, cells := 0, slots := 0, locals := 0 })).room s m args below meth c Q A (dC, dI) cX10_hold (St) (dw_X10 a ac) r) : dj_X10_hold_0 p l e s m args below meth c Q A dC dI a ac (df_X10_hold_0 n) r := by
  obtain ⟨hlt, hx, hb, hml, hown, hts, hN, hA, hK⟩ := id C
  intro v0 v1 v2 s0 H locs ls h hP hD hS hl
  unfold df_X10_hold_0 at h
  refine lv_iload_n hx hb dX10_hold_0 rfl (lv_at hl 1 rfl) ?_
  refine lv_iconst (v := 3) hx hb dX10_hold_1 (by decide) ?_
  refine lv_icmp_ne (tgt := 22) hx hb dX10_hold_2 (by decide) (fun c1 => ?_) (fun c1 => ?_)
  · have h := nd_neg h c1
    refine lv_iload_n hx hb dX10_hold_22 rfl (lv_at hl 1 rfl) ?_
    refine lv_iconst (v := 4) hx hb dX10_hold_23 (by decide) ?_
    refine lv_icmp_eq (tgt := 41) hx hb dX10_hold_24 (by decide) (fun c2 => ?_) (fun c2 => ?_)
    · have h := nd_pos h c2
      exact (db_X10_hold_41 C K)  s0 _ _ _ h hP hD hS (lv_sub hl [] rfl)
    · have h := nd_neg h c2
      refine lv_aload_n hx hb dX10_hold_27 rfl (lv_at hl 0 rfl) ?_
      refine va_get (D := (dC, dI)) (ci := 11) (v := .ref (a 3)) (C := RX10) (T := TX10) (N := 11) hx hb hts hi_dm_X10_hold_X10 hown hK hP 0 rfl rfl 2 (by decide) (hts (.fieldLink RX10 18 "TimeMachine$Things" "pipe" "[I") (List.mem_of_getElem? (i := 1) rfl)) (fun _ h9 => h9) rfl dX10_hold_28 ?_
      refine lv_iload_n hx hb dX10_hold_31 rfl (lv_at hl 2 rfl) ?_
      refine lv_iconst (v := 4) hx hb dX10_hold_32 (by decide) ?_
      refine lv_imul hx hb dX10_hold_33 ?_
      refine lv_iload_n hx hb dX10_hold_34 rfl (lv_at hl 1 rfl) ?_
      refine lv_iadd hx hb dX10_hold_35 ?_
      refine lv_dup2_11 hx hb dX10_hold_36 rfl rfl ?_
      obtain ⟨i3, h⟩ := nd_ck_e h
      refine va_iald (i := ((v1 * 4) + v0)) hx hb hK hP 3 2 rfl rfl i3 dX10_hold_37 ?_
      refine lv_iload_n hx hb dX10_hold_38 rfl (lv_at hl 3 rfl) ?_
      refine lv_iadd hx hb dX10_hold_39 ?_
      obtain ⟨i4, h⟩ := nd_ck_e h
      refine va_iast (i := ((v1 * 4) + v0)) (x := ((sR s0 2 (Int32.toNatClampNeg ((v1 * 4) + v0))) + v2)) hx hb hK hP hD hS 3 2 rfl rfl i4 dX10_hold_40 (fun H locs hP hD hS => ?_)
      obtain ⟨s5, es5, h⟩ := nd_let_e h
      have hP : va_P (dC, dI) vwCl (dw_X10 a ac s5) H := by rw [es5]; exact hP
      have hD : va_D A (dw_X10 a ac s5) := by rw [es5]; exact hD
      exact (db_X10_hold_41 C K)  s5 _ _ _ h hP hD hS (lv_sub hl [] rfl)
  · have h := nd_pos h c1
    refine lv_aload_n hx hb dX10_hold_5 rfl (lv_at hl 0 rfl) ?_
    refine va_get (D := (dC, dI)) (ci := 11) (v := .ref (a 5)) (C := RX10) (T := TX10) (N := 11) hx hb hts hi_dm_X10_hold_X10 hown hK hP 0 rfl rfl 4 (by decide) (hts (.fieldLink RX10 25 "TimeMachine$Things" "file" "[I") (List.mem_of_getElem? (i := 2) rfl)) (fun _ h9 => h9) rfl dX10_hold_6 ?_
    refine lv_iload_n hx hb dX10_hold_9 rfl (lv_at hl 2 rfl) ?_
    refine lv_iconst (v := 3) hx hb dX10_hold_10 (by decide) ?_
    refine lv_imul hx hb dX10_hold_11 ?_
    refine lv_iconst (v := 1) hx hb dX10_hold_12 (by decide) ?_
    refine lv_iadd hx hb dX10_hold_13 ?_
    refine lv_dup2_11 hx hb dX10_hold_14 rfl rfl ?_
    obtain ⟨i6, h⟩ := nd_ck_e h
    refine va_iald (i := ((v1 * 3) + 1)) hx hb hK hP 5 4 rfl rfl i6 dX10_hold_15 ?_
    refine lv_iload_n hx hb dX10_hold_16 rfl (lv_at hl 3 rfl) ?_
    refine lv_iadd hx hb dX10_hold_17 ?_
    obtain ⟨i7, h⟩ := nd_ck_e h
    refine va_iast (i := ((v1 * 3) + 1)) (x := ((sR s0 4 (Int32.toNatClampNeg ((v1 * 3) + 1))) + v2)) hx hb hK hP hD hS 5 4 rfl rfl i7 dX10_hold_18 (fun H locs hP hD hS => ?_)
    obtain ⟨s8, es8, h⟩ := nd_let_e h
    have hP : va_P (dC, dI) vwCl (dw_X10 a ac s8) H := by rw [es8]; exact hP
    have hD : va_D A (dw_X10 a ac s8) := by rw [es8]; exact hD
    refine lv_goto (tgt := 41) hx hb dX10_hold_19 (by decide) ?_
    exact (db_X10_hold_41 C K)  s8 _ _ _ h hP hD hS (lv_sub hl [] rfl)
set_option maxHeartbeats 40000000 in
set_option maxRecDepth 100000 in
theorem dm_X10_hold (l : Launch) (hlt : l.stackTraces = false) (dC : Nat → ClassId) (dI : Nat → Nat → Nat) (a : Nat → Nat) (ac : Nat → ClassId) (n : Nat) (v0 : Int32) (v1 : Int32) (v2 : Int32) (s0 : St) {r : St} (h : df_X10_hold n v0 v1 v2 s0 = some r) (sz : Nat) : Met l yX10_hold ow_dm_X10_hold ({ frames := 0, cells := 0, slots := 0, locals := 0 }) (va_Pc [.ref (a 0), .int v0, .int v1, .int v2] (fun U => U.heap.size = sz ∧ va_P (dC, dI) vwCl (dw_X10 a ac s0) U.heap ∧ va_K (dC, dI) vwCl (dk_X10 ac) U ∧ va_D (fun _ => True) (dw_X10 a ac s0) ∧ nv_E dI (va_A (dw_X10 a ac s0) sz) U)) (va_Qv (fun _ => True) (fun (_ : Unit) t => va_P (dC, dI) vwCl (dw_X10 a ac r) t.heap ∧ va_K (dC, dI) vwCl (dk_X10 ac) t ∧ va_D (va_A (dw_X10 a ac s0) sz) (dw_X10 a ac r)) (va_A (dw_X10 a ac s0) sz)) 0 0 (va_A (dw_X10 a ac s0) sz) := by
  refine Met.ofW (cc := cX10_hold) (maxL := 4) (ret := none) (by decide) rfl ?_
  intro p e s m args below meth c s₁ B hml hv
  obtain ⟨rfl, hsz, hP, hK, hD0, hN⟩ := hv
  have hx := B.exec
  have hb := B.bytes
  have hr := B.returns
  have hts := atoms_spec (ws := ow_dm_X10_hold) B.pre
  have hown : s.vm.findClass RX10 = some m.cls := findClass_of_methodNamed B.named
  have hlocks := B.notSynchronized
  subst hsz
  have hD := hD0.self (sz := s.heap.size)
  generalize hAe : va_A (dw_X10 a ac s0) s.heap.size = A at hD hN ⊢
  have hA : ∀ q : Nat, s.heap.size ≤ q → A q := fun q h => by rw [← hAe]; exact Or.inr h
  have hl := lv_entry ([.ref (a 0), .int v0, .int v1, .int v2]) (n := 4) (Nat.le_of_ble_eq_true rfl)
  rw [lg_entry_eq]
  generalize (lg_sl ([.ref (a 0), .int v0, .int v1, .int v2]) ++ List.replicate (4 - (lg_sl ([.ref (a 0), .int v0, .int v1, .int v2])).length) Slot.unset).toArray = ls at hl ⊢
  have hl : lv_has ls 4 [(0, .ref (a 0)), (1, .int v0), (2, .int v1), (3, .int v2)] := hl
  exact db_X10_hold_0 (dC := dC) (dI := dI) (a := a) (ac := ac) (n := n) (r := r) ⟨hlt, hx, hb, hml, hown, hts, hN, hA, hK⟩ (fun pc τ H locs ls d er hP hD hS => by subst er; exact W.vret hx hb hr (fun t ht hW => ⟨⟨(), rfl, trivial, by rw [ht]; exact hP, va_K.moved hW.alike hK, hD⟩, hS.F ht⟩) hS.2.2 d) v0 v1 v2 s0 _ _ _ h hP hD va_S.rf (lv_sub hl [0, 1, 2, 3] rfl)
def ow_dm_X10_open : List Cond := Cond.code yX10_open cX10_open 6 (some .int) :: ([Cond.fieldLink RX10 15 "TimeMachine$Things" "opening" "[I", Cond.methodLink RX10 77 yX10_hold, Cond.instanceMethod yX10_hold, Cond.selects RX10 yX10_hold yX10_hold, Cond.initialized RX10] ++ (u_ws RX10 TX10 11 ++ (ow_dm_X10_hold ++ [])))
theorem gd_dm_X10_open : ∀ w ∈ ow_dm_X10_open, (w.onTables && w.keeps) = true ∨ ∃ ty, w = Cond.arrayClass ty := List.forall_mem_cons.mpr ⟨good_of_word rfl, List.forall_mem_append.mpr ⟨fun w h => good_of_word (List.all_eq_true.mp (by decide +kernel) w h), List.forall_mem_append.mpr ⟨gu_X10, List.forall_mem_append.mpr ⟨gd_dm_X10_hold, fun _ h => nomatch h⟩⟩⟩⟩
theorem hi_dm_X10_open_X10 : ∀ w ∈ u_ws RX10 TX10 11, w ∈ ow_dm_X10_open := fun w h => List.mem_cons_of_mem _ (List.mem_append_right _ (List.mem_append_left _ h))
theorem gi_dm_X10_open_0 : GoodIn ow_dm_X10_open (wsV RX10 77 RX10 yX10_hold ow_dm_X10_hold) := goodIn_app (goodIn_of _ (by decide +kernel)) (fun w h => ⟨List.mem_cons_of_mem _ (List.mem_append_right _ (List.mem_append_right _ (List.mem_append_left _ h))), gd_dm_X10_hold w h⟩)
def dj_X10_open_3 (p : Program) (l : Launch) (e : Env) (s : State) (m : MethodId) (args : Array Value) (below : List Frame) (meth : Method) (c : Code) (Q : State → Prop) (A : Nat → Prop) (dC : Nat → ClassId) (dI : Nat → Nat → Nat) (a : Nat → Nat) (ac : Nat → ClassId) (g : Int32 → Int32 → Int32 → Int32 → (St) → Option (Int32 × (St))) (r : Int32 × (St)) : Prop := ∀ (x1 : Int32) (x2 : Int32) (x3 : Int32) (x4 : Int32) (s0 : St) (H : Heap) (locs : List Loc) (ls : Array Slot), g x1 x2 x3 x4 s0 = some r → va_P (dC, dI) vwCl (dw_X10 a ac s0) H → va_D A (dw_X10 a ac s0) → va_S A s.heap H locs → lv_has ls 6 [(0, .ref (a 0)), (1, .int x1), (2, .int x2), (3, .int x3), (4, .int x4)] → W p l e (headSpec ow_dm_X10_open ({ frames := 1, cells := 0, slots := 0, locals := 23 })).room s m args below meth c H locs 0 0 Q (F0 m 3 ls [])
def dj_X10_open_0 (p : Program) (l : Launch) (e : Env) (s : State) (m : MethodId) (args : Array Value) (below : List Frame) (meth : Method) (c : Code) (Q : State → Prop) (A : Nat → Prop) (dC : Nat → ClassId) (dI : Nat → Nat → Nat) (a : Nat → Nat) (ac : Nat → ClassId) (g : Int32 → Int32 → Int32 → (St) → Option (Int32 × (St))) (r : Int32 × (St)) : Prop := ∀ (v0 : Int32) (v1 : Int32) (v2 : Int32) (s0 : St) (H : Heap) (locs : List Loc) (ls : Array Slot), g v0 v1 v2 s0 = some r → va_P (dC, dI) vwCl (dw_X10 a ac s0) H → va_D A (dw_X10 a ac s0) → va_S A s.heap H locs → lv_has ls 6 [(0, .ref (a 0)), (1, .int v0), (2, .int v1), (3, .int v2)] → W p l e (headSpec ow_dm_X10_open ({ frames := 1, cells := 0, slots := 0, locals := 23 })).room s m args below meth c H locs 0 0 Q (F0 m 0 ls [])
set_option maxHeartbeats 40000000 in
set_option maxRecDepth 100000 in
theorem dB_X10_open_3 {p : Program} {l : Launch} {e : Env} {s : State} {m : MethodId} {args : Array Value} {below : List Frame} {meth : Method} {c : Code} {Q : State → Prop} {A : Nat → Prop} {dC : Nat → ClassId} {dI : Nat → Nat → Nat} {a : Nat → Nat} {ac : Nat → ClassId} {n : Nat} {r : Int32 × (St)} (C : nd_C p l s m args c A (dC, dI) cX10_open 6 RX10 ow_dm_X10_open (dk_X10 ac)) (K : nd_Ki p l e (headSpec ow_dm_X10_open ({ frames := 1, cells := 0, slots := 0, locals := 23 })).room s m args below meth c Q A (dC, dI) cX10_open .int (St) (dw_X10 a ac) r) {g3 : Int32 → Int32 → Int32 → Int32 → (St) → Option (Int32 × (St))} (J3 : dj_X10_open_3 p l e s m args below meth c Q A dC dI a ac g3 r) : dj_X10_open_3 p l e s m args below meth c Q A dC dI a ac (dF_X10_open_3 n g3) r := by
  obtain ⟨hlt, hx, hb, hml, hown, hts, hN, hA, hK⟩ := id C
  intro x1 x2 x3 x4 s0 H locs ls h hP hD hS hl
  unfold dF_X10_open_3 at h
  refine lv_iload hx hb dX10_open_3 (lv_at hl 4 rfl) ?_
  refine lv_bipush (v := 48) hx hb dX10_open_5 (by decide) ?_
  refine lv_icmp_ge (tgt := 94) hx hb dX10_open_7 (by decide) (fun c1 => ?_) (fun c1 => ?_)
  · have h := nd_pos h c1
    refine lv_iconst (v := (-1)) hx hb dX10_open_94 (by decide) ?_
    exact K _ _ _ _ _ _ dX10_open_95 rfl (Option.some.inj h).symm hP hD hS
  · have h := nd_neg h c1
    refine lv_iload hx hb dX10_open_10 (lv_at hl 4 rfl) ?_
    refine lv_iconst (v := 5) hx hb dX10_open_12 (by decide) ?_
    refine lv_imul hx hb dX10_open_13 ?_
    refine lv_topi (fun z2 ez2 => ?_)
    have h := nd_at h ez2
    refine lv_istore (lv' := [(5, .int z2), (0, .ref (a 0)), (1, .int x1), (2, .int x2), (3, .int x3), (4, .int x4)]) hx hb dX10_open_14 hl (by decide) rfl (fun ls hl => ?_)
    refine lv_aload_n hx hb dX10_open_16 rfl (lv_at hl 1 rfl) ?_
    refine va_get (D := (dC, dI)) (ci := 11) (v := .ref (a 2)) (C := RX10) (T := TX10) (N := 11) hx hb hts hi_dm_X10_open_X10 hown hK hP 0 rfl rfl 1 (by decide) (hts (.fieldLink RX10 15 "TimeMachine$Things" "opening" "[I") (List.mem_of_getElem? (i := 1) rfl)) (fun _ h9 => h9) rfl dX10_open_17 ?_
    refine lv_iload hx hb dX10_open_20 (lv_at hl 0 rfl) ?_
    refine lv_iconst (v := 0) hx hb dX10_open_22 (by decide) ?_
    refine lv_iadd hx hb dX10_open_23 ?_
    obtain ⟨i3, h⟩ := nd_ck_e h
    refine va_iald (i := (z2 + 0)) hx hb hK hP 2 1 rfl rfl i3 dX10_open_24 ?_
    refine lv_if_ne (tgt := 88) hx hb dX10_open_25 (by decide) (fun c4 => ?_) (fun c4 => ?_)
    · have h := nd_neg h c4
      obtain ⟨z5, ez5, h⟩ := nd_let_e h
      refine lv_iinc (v := z5) (lv' := [(4, .int z5), (5, .int z2), (0, .ref (a 0)), (1, .int x1), (2, .int x2), (3, .int x3)]) hx hb dX10_open_88 hl (k := 5) rfl (by rw [ez5]) (by decide) rfl (fun ls hl => ?_)
      refine lv_goto (tgt := 3) hx hb dX10_open_91 (by decide) ?_
      exact (J3) (x1) (x2) (x3) (z5) s0 _ _ _ h hP hD hS (lv_sub hl [2, 3, 4, 5, 0] rfl)
    · have h := nd_pos h c4
      refine lv_aload_n hx hb dX10_open_28 rfl (lv_at hl 1 rfl) ?_
      refine va_get (D := (dC, dI)) (ci := 11) (v := .ref (a 2)) (C := RX10) (T := TX10) (N := 11) hx hb hts hi_dm_X10_open_X10 hown hK hP 0 rfl rfl 1 (by decide) (hts (.fieldLink RX10 15 "TimeMachine$Things" "opening" "[I") (List.mem_of_getElem? (i := 1) rfl)) (fun _ h9 => h9) rfl dX10_open_29 ?_
      refine lv_iload hx hb dX10_open_32 (lv_at hl 0 rfl) ?_
      refine lv_iconst (v := 0) hx hb dX10_open_34 (by decide) ?_
      refine lv_iadd hx hb dX10_open_35 ?_
      refine lv_iload_n hx hb dX10_open_36 rfl (lv_at hl 2 rfl) ?_
      obtain ⟨i6, h⟩ := nd_ck_e h
      refine va_iast (i := (z2 + 0)) (x := x1) hx hb hK hP hD hS 2 1 rfl rfl i6 dX10_open_37 (fun H locs hP hD hS => ?_)
      obtain ⟨s7, es7, h⟩ := nd_let_e h
      have hP : va_P (dC, dI) vwCl (dw_X10 a ac s7) H := by rw [es7]; exact hP
      have hD : va_D A (dw_X10 a ac s7) := by rw [es7]; exact hD
      refine lv_aload_n hx hb dX10_open_38 rfl (lv_at hl 1 rfl) ?_
      refine va_get (D := (dC, dI)) (ci := 11) (v := .ref (a 2)) (C := RX10) (T := TX10) (N := 11) hx hb hts hi_dm_X10_open_X10 hown hK hP 0 rfl rfl 1 (by decide) (hts (.fieldLink RX10 15 "TimeMachine$Things" "opening" "[I") (List.mem_of_getElem? (i := 1) rfl)) (fun _ h9 => h9) rfl dX10_open_39 ?_
      refine lv_iload hx hb dX10_open_42 (lv_at hl 0 rfl) ?_
      refine lv_iconst (v := 1) hx hb dX10_open_44 (by decide) ?_
      refine lv_iadd hx hb dX10_open_45 ?_
      refine lv_iconst (v := 0) hx hb dX10_open_46 (by decide) ?_
      obtain ⟨i8, h⟩ := nd_ck_e h
      refine va_iast (i := (z2 + 1)) (x := 0) hx hb hK hP hD hS 2 1 rfl rfl i8 dX10_open_47 (fun H locs hP hD hS => ?_)
      obtain ⟨s9, es9, h⟩ := nd_let_e h
      have hP : va_P (dC, dI) vwCl (dw_X10 a ac s9) H := by rw [es9]; exact hP
      have hD : va_D A (dw_X10 a ac s9) := by rw [es9]; exact hD
      refine lv_aload_n hx hb dX10_open_48 rfl (lv_at hl 1 rfl) ?_
      refine va_get (D := (dC, dI)) (ci := 11) (v := .ref (a 2)) (C := RX10) (T := TX10) (N := 11) hx hb hts hi_dm_X10_open_X10 hown hK hP 0 rfl rfl 1 (by decide) (hts (.fieldLink RX10 15 "TimeMachine$Things" "opening" "[I") (List.mem_of_getElem? (i := 1) rfl)) (fun _ h9 => h9) rfl dX10_open_49 ?_
      refine lv_iload hx hb dX10_open_52 (lv_at hl 0 rfl) ?_
      refine lv_iconst (v := 2) hx hb dX10_open_54 (by decide) ?_
      refine lv_iadd hx hb dX10_open_55 ?_
      refine lv_iload_n hx hb dX10_open_56 rfl (lv_at hl 3 rfl) ?_
      obtain ⟨i10, h⟩ := nd_ck_e h
      refine va_iast (i := (z2 + 2)) (x := x2) hx hb hK hP hD hS 2 1 rfl rfl i10 dX10_open_57 (fun H locs hP hD hS => ?_)
      obtain ⟨s11, es11, h⟩ := nd_let_e h
      have hP : va_P (dC, dI) vwCl (dw_X10 a ac s11) H := by rw [es11]; exact hP
      have hD : va_D A (dw_X10 a ac s11) := by rw [es11]; exact hD
      refine lv_aload_n hx hb dX10_open_58 rfl (lv_at hl 1 rfl) ?_
      refine va_get (D := (dC, dI)) (ci := 11) (v := .ref (a 2)) (C := RX10) (T := TX10) (N := 11) hx hb hts hi_dm_X10_open_X10 hown hK hP 0 rfl rfl 1 (by decide) (hts (.fieldLink RX10 15 "TimeMachine$Things" "opening" "[I") (List.mem_of_getElem? (i := 1) rfl)) (fun _ h9 => h9) rfl dX10_open_59 ?_
      refine lv_iload hx hb dX10_open_62 (lv_at hl 0 rfl) ?_
      refine lv_iconst (v := 3) hx hb dX10_open_64 (by decide) ?_
      refine lv_iadd hx hb dX10_open_65 ?_
      refine lv_iconst (v := 0) hx hb dX10_open_66 (by decide) ?_
      obtain ⟨i12, h⟩ := nd_ck_e h
      refine va_iast (i := (z2 + 3)) (x := 0) hx hb hK hP hD hS 2 1 rfl rfl i12 dX10_open_67 (fun H locs hP hD hS => ?_)
      obtain ⟨s13, es13, h⟩ := nd_let_e h
      have hP : va_P (dC, dI) vwCl (dw_X10 a ac s13) H := by rw [es13]; exact hP
      have hD : va_D A (dw_X10 a ac s13) := by rw [es13]; exact hD
      refine lv_aload_n hx hb dX10_open_68 rfl (lv_at hl 1 rfl) ?_
      refine va_get (D := (dC, dI)) (ci := 11) (v := .ref (a 2)) (C := RX10) (T := TX10) (N := 11) hx hb hts hi_dm_X10_open_X10 hown hK hP 0 rfl rfl 1 (by decide) (hts (.fieldLink RX10 15 "TimeMachine$Things" "opening" "[I") (List.mem_of_getElem? (i := 1) rfl)) (fun _ h9 => h9) rfl dX10_open_69 ?_
      refine lv_iload hx hb dX10_open_72 (lv_at hl 0 rfl) ?_
      refine lv_iconst (v := 4) hx hb dX10_open_74 (by decide) ?_
      refine lv_iadd hx hb dX10_open_75 ?_
      refine lv_iload_n hx hb dX10_open_76 rfl (lv_at hl 4 rfl) ?_
      obtain ⟨i14, h⟩ := nd_ck_e h
      refine va_iast (i := (z2 + 4)) (x := x3) hx hb hK hP hD hS 2 1 rfl rfl i14 dX10_open_77 (fun H locs hP hD hS => ?_)
      obtain ⟨s15, es15, h⟩ := nd_let_e h
      have hP : va_P (dC, dI) vwCl (dw_X10 a ac s15) H := by rw [es15]; exact hP
      have hD : va_D A (dw_X10 a ac s15) := by rw [es15]; exact hD
      refine lv_aload_n hx hb dX10_open_78 rfl (lv_at hl 1 rfl) ?_
      refine lv_iload_n hx hb dX10_open_79 rfl (lv_at hl 2 rfl) ?_
      refine lv_iload_n hx hb dX10_open_80 rfl (lv_at hl 3 rfl) ?_
      refine lv_iconst (v := 1) hx hb dX10_open_81 (by decide) ?_
      obtain ⟨s17, hq, h⟩ := nd_b1_e h
      have hPc := hP
      have hDc := hD
      have hKc := hK
      have hFc := nd_rs hD hS hA
      refine nd_cVv (As := [.int x1, .int x2, .int 1]) (rest := []) (w' := dw_X10 a ac s17) ⟨hx, hb, hml, hown, hts⟩ (fun sz => dm_X10_hold l hlt dC dI a ac n (x1) (x2) (1) s15 hq sz) (cwV 3 hts gi_dm_X10_open_0 rfl rfl rfl (by decide +kernel) ⟨Nat.le_of_ble_eq_true rfl, Nat.le_of_ble_eq_true rfl⟩) hPc hDc hKc hS hA hN (va_recv hKc hPc (ci := 11) (q0 := 0) rfl rfl) rfl hl.1 rfl (Nat.le_of_ble_eq_true rfl) dX10_open_82 (fun H locs hP1 hD1 hk1 hS => ?_)
      have hP := hP1
      have hD := hD1.weaken (fun k q _ h => hFc q.1 h)
      refine lv_iload hx hb dX10_open_85 (lv_at hl 5 rfl) ?_
      exact K _ _ _ _ _ _ dX10_open_87 rfl (Option.some.inj h).symm hP hD hS
set_option maxHeartbeats 40000000 in
set_option maxRecDepth 100000 in
theorem db_X10_open_3 {p : Program} {l : Launch} {e : Env} {s : State} {m : MethodId} {args : Array Value} {below : List Frame} {meth : Method} {c : Code} {Q : State → Prop} {A : Nat → Prop} {dC : Nat → ClassId} {dI : Nat → Nat → Nat} {a : Nat → Nat} {ac : Nat → ClassId} {n : Nat} {r : Int32 × (St)} (C : nd_C p l s m args c A (dC, dI) cX10_open 6 RX10 ow_dm_X10_open (dk_X10 ac)) (K : nd_Ki p l e (headSpec ow_dm_X10_open ({ frames := 1, cells := 0, slots := 0, locals := 23 })).room s m args below meth c Q A (dC, dI) cX10_open .int (St) (dw_X10 a ac) r) (k : Nat) : dj_X10_open_3 p l e s m args below meth c Q A dC dI a ac (df_X10_open_3 n k) r := by
  induction k with
  | zero => intro x1 x2 x3 x4 s0 H locs ls h; exact nomatch (show (none : Option (Int32 × (St))) = some r from h)
  | succ k ih => exact dB_X10_open_3 C K ih
set_option maxHeartbeats 40000000 in
set_option maxRecDepth 100000 in
theorem db_X10_open_0 {p : Program} {l : Launch} {e : Env} {s : State} {m : MethodId} {args : Array Value} {below : List Frame} {meth : Method} {c : Code} {Q : State → Prop} {A : Nat → Prop} {dC : Nat → ClassId} {dI : Nat → Nat → Nat} {a : Nat → Nat} {ac : Nat → ClassId} {n : Nat} {r : Int32 × (St)} (C : nd_C p l s m args c A (dC, dI) cX10_open 6 RX10 ow_dm_X10_open (dk_X10 ac)) (K : nd_Ki p l e (headSpec ow_dm_X10_open ({ frames := 1, cells := 0, slots := 0, locals := 23 })).room s m args below meth c Q A (dC, dI) cX10_open .int (St) (dw_X10 a ac) r) : dj_X10_open_0 p l e s m args below meth c Q A dC dI a ac (df_X10_open_0 n) r := by
  obtain ⟨hlt, hx, hb, hml, hown, hts, hN, hA, hK⟩ := id C
  intro v0 v1 v2 s0 H locs ls h hP hD hS hl
  unfold df_X10_open_0 at h
  refine lv_iconst (v := 0) hx hb dX10_open_0 (by decide) ?_
  refine lv_istore (lv' := [(4, .int 0), (0, .ref (a 0)), (1, .int v0), (2, .int v1), (3, .int v2)]) hx hb dX10_open_1 hl (by decide) rfl (fun ls hl => ?_)
  exact (db_X10_open_3 C K n) (v0) (v1) (v2) (0) s0 _ _ _ h hP hD hS (lv_sub hl [1, 2, 3, 4, 0] rfl)
set_option maxHeartbeats 40000000 in
set_option maxRecDepth 100000 in
theorem dm_X10_open (l : Launch) (hlt : l.stackTraces = false) (dC : Nat → ClassId) (dI : Nat → Nat → Nat) (a : Nat → Nat) (ac : Nat → ClassId) (n : Nat) (v0 : Int32) (v1 : Int32) (v2 : Int32) (s0 : St) {r : Int32 × (St)} (h : df_X10_open n v0 v1 v2 s0 = some r) (sz : Nat) : Met l yX10_open ow_dm_X10_open ({ frames := 1, cells := 0, slots := 0, locals := 23 }) (va_Pc [.ref (a 0), .int v0, .int v1, .int v2] (fun U => U.heap.size = sz ∧ va_P (dC, dI) vwCl (dw_X10 a ac s0) U.heap ∧ va_K (dC, dI) vwCl (dk_X10 ac) U ∧ va_D (fun _ => True) (dw_X10 a ac s0) ∧ nv_E dI (va_A (dw_X10 a ac s0) sz) U)) (va_Qi (fun x _ => x = r.1) (fun (_ : Unit) t => va_P (dC, dI) vwCl (dw_X10 a ac r.2) t.heap ∧ va_K (dC, dI) vwCl (dk_X10 ac) t ∧ va_D (va_A (dw_X10 a ac s0) sz) (dw_X10 a ac r.2)) (va_A (dw_X10 a ac s0) sz)) 0 0 (va_A (dw_X10 a ac s0) sz) := by
  refine Met.ofW (cc := cX10_open) (maxL := 6) (ret := (some .int)) (by decide) rfl ?_
  intro p e s m args below meth c s₁ B hml hv
  obtain ⟨rfl, hsz, hP, hK, hD0, hN⟩ := hv
  have hx := B.exec
  have hb := B.bytes
  have hr := B.returns
  have hts := atoms_spec (ws := ow_dm_X10_open) B.pre
  have hown : s.vm.findClass RX10 = some m.cls := findClass_of_methodNamed B.named
  have hlocks := B.notSynchronized
  subst hsz
  have hD := hD0.self (sz := s.heap.size)
  generalize hAe : va_A (dw_X10 a ac s0) s.heap.size = A at hD hN ⊢
  have hA : ∀ q : Nat, s.heap.size ≤ q → A q := fun q h => by rw [← hAe]; exact Or.inr h
  have hl := lv_entry ([.ref (a 0), .int v0, .int v1, .int v2]) (n := 6) (Nat.le_of_ble_eq_true rfl)
  rw [lg_entry_eq]
  generalize (lg_sl ([.ref (a 0), .int v0, .int v1, .int v2]) ++ List.replicate (6 - (lg_sl ([.ref (a 0), .int v0, .int v1, .int v2])).length) Slot.unset).toArray = ls at hl ⊢
  have hl : lv_has ls 6 [(0, .ref (a 0)), (1, .int v0), (2, .int v1), (3, .int v2)] := hl
  exact db_X10_open_0 (dC := dC) (dI := dI) (a := a) (ac := ac) (n := n) (r := r) ⟨hlt, hx, hb, hml, hown, hts, hN, hA, hK⟩ (fun pc v τ H locs ls d z er hP hD hS => by subst er; exact W.zret (v := v) hx hb hr z (fun t ht hW => ⟨⟨v, (), rfl, rfl, by rw [ht]; exact hP, va_K.moved hW.alike hK, hD⟩, hS.F ht⟩) hS.2.2 d) v0 v1 v2 s0 _ _ _ h hP hD va_S.rf (lv_sub hl [0, 1, 2, 3] rfl)
def ow_dm_X10_linkTo : List Cond := Cond.code yX10_linkTo cX10_linkTo 4 none :: ([Cond.fieldLink RX10 11 "TimeMachine$Things" "link" "[I", Cond.fieldLink RX10 15 "TimeMachine$Things" "opening" "[I"] ++ (u_ws RX10 TX10 11 ++ []))
theorem gd_dm_X10_linkTo : ∀ w ∈ ow_dm_X10_linkTo, (w.onTables && w.keeps) = true ∨ ∃ ty, w = Cond.arrayClass ty := List.forall_mem_cons.mpr ⟨good_of_word rfl, List.forall_mem_append.mpr ⟨fun w h => good_of_word (List.all_eq_true.mp (by decide +kernel) w h), List.forall_mem_append.mpr ⟨gu_X10, fun _ h => nomatch h⟩⟩⟩
theorem hi_dm_X10_linkTo_X10 : ∀ w ∈ u_ws RX10 TX10 11, w ∈ ow_dm_X10_linkTo := fun w h => List.mem_cons_of_mem _ (List.mem_append_right _ (List.mem_append_left _ h))
def dj_X10_linkTo_0 (p : Program) (l : Launch) (e : Env) (s : State) (m : MethodId) (args : Array Value) (below : List Frame) (meth : Method) (c : Code) (Q : State → Prop) (A : Nat → Prop) (dC : Nat → ClassId) (dI : Nat → Nat → Nat) (a : Nat → Nat) (ac : Nat → ClassId) (g : Int32 → Int32 → Int32 → (St) → Option (St)) (r : St) : Prop := ∀ (v0 : Int32) (v1 : Int32) (v2 : Int32) (s0 : St) (H : Heap) (locs : List Loc) (ls : Array Slot), g v0 v1 v2 s0 = some r → va_P (dC, dI) vwCl (dw_X10 a ac s0) H → va_D A (dw_X10 a ac s0) → va_S A s.heap H locs → lv_has ls 4 [(0, .ref (a 0)), (1, .int v0), (2, .int v1), (3, .int v2)] → W p l e (headSpec ow_dm_X10_linkTo ({ frames := 0, cells := 0, slots := 0, locals := 0 })).room s m args below meth c H locs 0 0 Q (F0 m 0 ls [])
set_option maxHeartbeats 40000000 in
set_option maxRecDepth 100000 in
theorem db_X10_linkTo_0 {p : Program} {l : Launch} {e : Env} {s : State} {m : MethodId} {args : Array Value} {below : List Frame} {meth : Method} {c : Code} {Q : State → Prop} {A : Nat → Prop} {dC : Nat → ClassId} {dI : Nat → Nat → Nat} {a : Nat → Nat} {ac : Nat → ClassId} {n : Nat} {r : St} (C : nd_C p l s m args c A (dC, dI) cX10_linkTo 4 RX10 ow_dm_X10_linkTo (dk_X10 ac)) (K : nd_Kv p l e (headSpec ow_dm_X10_linkTo ({ frames := 0, cells := 0, slots := 0, locals := 0 })).room s m args below meth c Q A (dC, dI) cX10_linkTo (St) (dw_X10 a ac) r) : dj_X10_linkTo_0 p l e s m args below meth c Q A dC dI a ac (df_X10_linkTo_0 n) r := by
  obtain ⟨hlt, hx, hb, hml, hown, hts, hN, hA, hK⟩ := id C
  intro v0 v1 v2 s0 H locs ls h hP hD hS hl
  unfold df_X10_linkTo_0 at h
  refine lv_aload_n hx hb dX10_linkTo_0 rfl (lv_at hl 0 rfl) ?_
  refine va_get (D := (dC, dI)) (ci := 11) (v := .ref (a 1)) (C := RX10) (T := TX10) (N := 11) hx hb hts hi_dm_X10_linkTo_X10 hown hK hP 0 rfl rfl 0 (by decide) (hts (.fieldLink RX10 11 "TimeMachine$Things" "link" "[I") (List.mem_of_getElem? (i := 1) rfl)) (fun _ h9 => h9) rfl dX10_linkTo_1 ?_
  refine lv_iload_n hx hb dX10_linkTo_4 rfl (lv_at hl 1 rfl) ?_
  refine lv_bipush (v := 16) hx hb dX10_linkTo_5 (by decide) ?_
  refine lv_imul hx hb dX10_linkTo_7 ?_
  refine lv_iload_n hx hb dX10_linkTo_8 rfl (lv_at hl 2 rfl) ?_
  refine lv_iadd hx hb dX10_linkTo_9 ?_
  refine lv_iload_n hx hb dX10_linkTo_10 rfl (lv_at hl 3 rfl) ?_
  refine lv_iconst (v := 1) hx hb dX10_linkTo_11 (by decide) ?_
  refine lv_iadd hx hb dX10_linkTo_12 ?_
  obtain ⟨i1, h⟩ := nd_ck_e h
  refine va_iast (i := ((v0 * 16) + v1)) (x := (v2 + 1)) hx hb hK hP hD hS 1 0 rfl rfl i1 dX10_linkTo_13 (fun H locs hP hD hS => ?_)
  obtain ⟨s2, es2, h⟩ := nd_let_e h
  have hP : va_P (dC, dI) vwCl (dw_X10 a ac s2) H := by rw [es2]; exact hP
  have hD : va_D A (dw_X10 a ac s2) := by rw [es2]; exact hD
  refine lv_aload_n hx hb dX10_linkTo_14 rfl (lv_at hl 0 rfl) ?_
  refine va_get (D := (dC, dI)) (ci := 11) (v := .ref (a 2)) (C := RX10) (T := TX10) (N := 11) hx hb hts hi_dm_X10_linkTo_X10 hown hK hP 0 rfl rfl 1 (by decide) (hts (.fieldLink RX10 15 "TimeMachine$Things" "opening" "[I") (List.mem_of_getElem? (i := 2) rfl)) (fun _ h9 => h9) rfl dX10_linkTo_15 ?_
  refine lv_iload_n hx hb dX10_linkTo_18 rfl (lv_at hl 3 rfl) ?_
  refine lv_iconst (v := 5) hx hb dX10_linkTo_19 (by decide) ?_
  refine lv_imul hx hb dX10_linkTo_20 ?_
  refine lv_iconst (v := 1) hx hb dX10_linkTo_21 (by decide) ?_
  refine lv_iadd hx hb dX10_linkTo_22 ?_
  refine lv_dup2_11 hx hb dX10_linkTo_23 rfl rfl ?_
  obtain ⟨i3, h⟩ := nd_ck_e h
  refine va_iald (i := ((v2 * 5) + 1)) hx hb hK hP 2 1 rfl rfl i3 dX10_linkTo_24 ?_
  refine lv_iconst (v := 1) hx hb dX10_linkTo_25 (by decide) ?_
  refine lv_iadd hx hb dX10_linkTo_26 ?_
  obtain ⟨i4, h⟩ := nd_ck_e h
  refine va_iast (i := ((v2 * 5) + 1)) (x := ((sR s2 1 (Int32.toNatClampNeg ((v2 * 5) + 1))) + 1)) hx hb hK hP hD hS 2 1 rfl rfl i4 dX10_linkTo_27 (fun H locs hP hD hS => ?_)
  obtain ⟨s5, es5, h⟩ := nd_let_e h
  have hP : va_P (dC, dI) vwCl (dw_X10 a ac s5) H := by rw [es5]; exact hP
  have hD : va_D A (dw_X10 a ac s5) := by rw [es5]; exact hD
  exact K _ _ _ _ _ dX10_linkTo_28 (Option.some.inj h).symm hP hD hS
set_option maxHeartbeats 40000000 in
set_option maxRecDepth 100000 in
theorem dm_X10_linkTo (l : Launch) (hlt : l.stackTraces = false) (dC : Nat → ClassId) (dI : Nat → Nat → Nat) (a : Nat → Nat) (ac : Nat → ClassId) (n : Nat) (v0 : Int32) (v1 : Int32) (v2 : Int32) (s0 : St) {r : St} (h : df_X10_linkTo n v0 v1 v2 s0 = some r) (sz : Nat) : Met l yX10_linkTo ow_dm_X10_linkTo ({ frames := 0, cells := 0, slots := 0, locals := 0 }) (va_Pc [.ref (a 0), .int v0, .int v1, .int v2] (fun U => U.heap.size = sz ∧ va_P (dC, dI) vwCl (dw_X10 a ac s0) U.heap ∧ va_K (dC, dI) vwCl (dk_X10 ac) U ∧ va_D (fun _ => True) (dw_X10 a ac s0) ∧ nv_E dI (va_A (dw_X10 a ac s0) sz) U)) (va_Qv (fun _ => True) (fun (_ : Unit) t => va_P (dC, dI) vwCl (dw_X10 a ac r) t.heap ∧ va_K (dC, dI) vwCl (dk_X10 ac) t ∧ va_D (va_A (dw_X10 a ac s0) sz) (dw_X10 a ac r)) (va_A (dw_X10 a ac s0) sz)) 0 0 (va_A (dw_X10 a ac s0) sz) := by
  refine Met.ofW (cc := cX10_linkTo) (maxL := 4) (ret := none) (by decide) rfl ?_
  intro p e s m args below meth c s₁ B hml hv
  obtain ⟨rfl, hsz, hP, hK, hD0, hN⟩ := hv
  have hx := B.exec
  have hb := B.bytes
  have hr := B.returns
  have hts := atoms_spec (ws := ow_dm_X10_linkTo) B.pre
  have hown : s.vm.findClass RX10 = some m.cls := findClass_of_methodNamed B.named
  have hlocks := B.notSynchronized
  subst hsz
  have hD := hD0.self (sz := s.heap.size)
  generalize hAe : va_A (dw_X10 a ac s0) s.heap.size = A at hD hN ⊢
  have hA : ∀ q : Nat, s.heap.size ≤ q → A q := fun q h => by rw [← hAe]; exact Or.inr h
  have hl := lv_entry ([.ref (a 0), .int v0, .int v1, .int v2]) (n := 4) (Nat.le_of_ble_eq_true rfl)
  rw [lg_entry_eq]
  generalize (lg_sl ([.ref (a 0), .int v0, .int v1, .int v2]) ++ List.replicate (4 - (lg_sl ([.ref (a 0), .int v0, .int v1, .int v2])).length) Slot.unset).toArray = ls at hl ⊢
  have hl : lv_has ls 4 [(0, .ref (a 0)), (1, .int v0), (2, .int v1), (3, .int v2)] := hl
  exact db_X10_linkTo_0 (dC := dC) (dI := dI) (a := a) (ac := ac) (n := n) (r := r) ⟨hlt, hx, hb, hml, hown, hts, hN, hA, hK⟩ (fun pc τ H locs ls d er hP hD hS => by subst er; exact W.vret hx hb hr (fun t ht hW => ⟨⟨(), rfl, trivial, by rw [ht]; exact hP, va_K.moved hW.alike hK, hD⟩, hS.F ht⟩) hS.2.2 d) v0 v1 v2 s0 _ _ _ h hP hD va_S.rf (lv_sub hl [0, 1, 2, 3] rfl)
def ow_dm_X10_start : List Cond := Cond.code yX10_start cX10_start 2 none :: ([Cond.fieldLink RX10 11 "TimeMachine$Things" "link" "[I", Cond.methodLink RX10 40 yJ7_fill_53178, Cond.static yJ7_fill_53178, Cond.initialized RJ7, Cond.fieldLink RX10 15 "TimeMachine$Things" "opening" "[I", Cond.fieldLink RX10 18 "TimeMachine$Things" "pipe" "[I", Cond.fieldLink RX10 25 "TimeMachine$Things" "file" "[I", Cond.fieldLink RX10 46 "TimeMachine$Things" "typedBytes" "I", Cond.fieldLink RX10 50 "TimeMachine$Things" "shownInAll" "J", Cond.methodLink RX10 54 yX10_open, Cond.instanceMethod yX10_open, Cond.selects RX10 yX10_open yX10_open, Cond.initialized RX10, Cond.methodLink RX10 58 yX10_linkTo, Cond.instanceMethod yX10_linkTo, Cond.selects RX10 yX10_linkTo yX10_linkTo] ++ (u_ws RX10 TX10 11 ++ (ow_dm_J7_fill_53178 ++ (ow_dm_X10_open ++ (ow_dm_X10_linkTo ++ [])))))
theorem gd_dm_X10_start : ∀ w ∈ ow_dm_X10_start, (w.onTables && w.keeps) = true ∨ ∃ ty, w = Cond.arrayClass ty := List.forall_mem_cons.mpr ⟨good_of_word rfl, List.forall_mem_append.mpr ⟨fun w h => good_of_word (List.all_eq_true.mp (by decide +kernel) w h), List.forall_mem_append.mpr ⟨gu_X10, List.forall_mem_append.mpr ⟨gd_dm_J7_fill_53178, List.forall_mem_append.mpr ⟨gd_dm_X10_open, List.forall_mem_append.mpr ⟨gd_dm_X10_linkTo, fun _ h => nomatch h⟩⟩⟩⟩⟩⟩
theorem hi_dm_X10_start_X10 : ∀ w ∈ u_ws RX10 TX10 11, w ∈ ow_dm_X10_start := fun w h => List.mem_cons_of_mem _ (List.mem_append_right _ (List.mem_append_left _ h))
theorem gi_dm_X10_start_0 : GoodIn ow_dm_X10_start (va_wsS RX10 40 yJ7_fill_53178 ow_dm_J7_fill_53178) := goodIn_app (goodIn_of _ (by decide +kernel)) (fun w h => ⟨List.mem_cons_of_mem _ (List.mem_append_right _ (List.mem_append_right _ (List.mem_append_left _ h))), gd_dm_J7_fill_53178 w h⟩)
theorem gi_dm_X10_start_1 : GoodIn ow_dm_X10_start (wsV RX10 54 RX10 yX10_open ow_dm_X10_open) := goodIn_app (goodIn_of _ (by decide +kernel)) (fun w h => ⟨List.mem_cons_of_mem _ (List.mem_append_right _ (List.mem_append_right _ (List.mem_append_right _ (List.mem_append_left _ h)))), gd_dm_X10_open w h⟩)
theorem gi_dm_X10_start_2 : GoodIn ow_dm_X10_start (wsV RX10 58 RX10 yX10_linkTo ow_dm_X10_linkTo) := goodIn_app (goodIn_of _ (by decide +kernel)) (fun w h => ⟨List.mem_cons_of_mem _ (List.mem_append_right _ (List.mem_append_right _ (List.mem_append_right _ (List.mem_append_right _ (List.mem_append_left _ h))))), gd_dm_X10_linkTo w h⟩)
def dj_X10_start_0 (p : Program) (l : Launch) (e : Env) (s : State) (m : MethodId) (args : Array Value) (below : List Frame) (meth : Method) (c : Code) (Q : State → Prop) (A : Nat → Prop) (dC : Nat → ClassId) (dI : Nat → Nat → Nat) (a : Nat → Nat) (ac : Nat → ClassId) (g : (St) → Option (St)) (r : St) : Prop := ∀ (s0 : St) (H : Heap) (locs : List Loc) (ls : Array Slot), g s0 = some r → va_P (dC, dI) vwCl (dw_X10 a ac s0) H → va_D A (dw_X10 a ac s0) → va_S A s.heap H locs → lv_has ls 2 [(0, .ref (a 0))] → W p l e (headSpec ow_dm_X10_start ({ frames := 2, cells := 0, slots := 0, locals := 48 })).room s m args below meth c H locs 0 0 Q (F0 m 0 ls [])
set_option maxHeartbeats 40000000 in
set_option maxRecDepth 100000 in
theorem db_X10_start_0 {p : Program} {l : Launch} {e : Env} {s : State} {m : MethodId} {args : Array Value} {below : List Frame} {meth : Method} {c : Code} {Q : State → Prop} {A : Nat → Prop} {dC : Nat → ClassId} {dI : Nat → Nat → Nat} {a : Nat → Nat} {ac : Nat → ClassId} {n : Nat} {r : St} (C : nd_C p l s m args c A (dC, dI) cX10_start 2 RX10 ow_dm_X10_start (dk_X10 ac)) (K : nd_Kv p l e (headSpec ow_dm_X10_start ({ frames := 2, cells := 0, slots := 0, locals := 48 })).room s m args below meth c Q A (dC, dI) cX10_start (St) (dw_X10 a ac) r) : dj_X10_start_0 p l e s m args below meth c Q A dC dI a ac (df_X10_start_0 n) r := by
  obtain ⟨hlt, hx, hb, hml, hown, hts, hN, hA, hK⟩ := id C
  intro s0 H locs ls h hP hD hS hl
  unfold df_X10_start_0 at h
  refine lv_aload_n hx hb dX10_start_0 rfl (lv_at hl 0 rfl) ?_
  refine va_get (D := (dC, dI)) (ci := 11) (v := .ref (a 1)) (C := RX10) (T := TX10) (N := 11) hx hb hts hi_dm_X10_start_X10 hown hK hP 0 rfl rfl 0 (by decide) (hts (.fieldLink RX10 11 "TimeMachine$Things" "link" "[I") (List.mem_of_getElem? (i := 1) rfl)) (fun _ h9 => h9) rfl dX10_start_1 ?_
  refine lv_iconst (v := 0) hx hb dX10_start_4 (by decide) ?_
  have hcl : (dw_X10 a ac s0)[1]? = some ((a 1), .inl (ac 1, 256, .inl (sR s0 0))) := rfl
  have hPc := nd_c1 hP hcl
  have hDc := nd_cd hD hcl
  have hKc : va_K (dC, dI) vwCl [(ac 1, .int)] s := hK.sub [0] rfl
  have hFc := nd_rs hDc hS hA
  refine va_callv (va_runS (As := [.ref (a 1), .int 0]) (rest := []) ⟨hx, hb, hml, hown, hts⟩ (dm_J7_fill_53178 l hlt dC dI (a 1) (ac 1) 256 (by decide) (sR s0 0) 0 _) (va_cwS 2 hts gi_dm_X10_start_0 rfl rfl rfl (by decide +kernel) ⟨Nat.le_of_ble_eq_true rfl, Nat.le_of_ble_eq_true rfl⟩) ⟨fun a U g mk q => by obtain ⟨q0, q1, qP, qK, qD, qN⟩ := q; exact ⟨q0, q1, qP, va_K.moved (u := U) (U := U.calling g mk a) (Vm.Alike.refl U.vm) qK, qD, nv_same rfl rfl qN⟩, fun U hU hW => ⟨rfl, by rw [hU], by rw [hU]; exact hPc, va_K.moved hW.alike hKc, hDc.weaken (fun _ _ _ _ => trivial), nv_call hS hFc hU hW hN⟩⟩ rfl rfl hl.1 rfl (lv_room (Nat.le_of_ble_eq_true rfl)) dX10_start_5 ⟨by decide +kernel, by decide +kernel⟩) hS (fun q _ h => hFc q h) hFc (fun u t H locs ht hvm hw hB hz1 hk1 hS => ?_)
  obtain ⟨hP1, -, hD1⟩ := hB
  rw [ht] at hP1
  have hP := nd_cs hP hD hcl hk1 hP1
  have hD := hD.set (e := .inl (ac 1, 256, .inl (nd_fl 256 0 (sR s0 0)))) hcl
  refine W.widen (k := 0) (n := 0) (Nat.le_refl _) (Nat.le_refl _) ?_
  obtain ⟨s1, es1, h⟩ := nd_let_e h
  have hP : va_P (dC, dI) vwCl (dw_X10 a ac s1) H := by rw [es1]; exact hP
  have hD : va_D A (dw_X10 a ac s1) := by rw [es1]; exact hD
  refine lv_aload_n hx hb dX10_start_8 rfl (lv_at hl 0 rfl) ?_
  refine va_get (D := (dC, dI)) (ci := 11) (v := .ref (a 2)) (C := RX10) (T := TX10) (N := 11) hx hb hts hi_dm_X10_start_X10 hown hK hP 0 rfl rfl 1 (by decide) (hts (.fieldLink RX10 15 "TimeMachine$Things" "opening" "[I") (List.mem_of_getElem? (i := 5) rfl)) (fun _ h9 => h9) rfl dX10_start_9 ?_
  refine lv_iconst (v := 0) hx hb dX10_start_12 (by decide) ?_
  have hcl : (dw_X10 a ac s1)[2]? = some ((a 2), .inl (ac 2, 240, .inl (sR s1 1))) := rfl
  have hPc := nd_c1 hP hcl
  have hDc := nd_cd hD hcl
  have hKc : va_K (dC, dI) vwCl [(ac 2, .int)] s := hK.sub [1] rfl
  have hFc := nd_rs hDc hS hA
  refine va_callv (va_runS (As := [.ref (a 2), .int 0]) (rest := []) ⟨hx, hb, hml, hown, hts⟩ (dm_J7_fill_53178 l hlt dC dI (a 2) (ac 2) 240 (by decide) (sR s1 1) 0 _) (va_cwS 2 hts gi_dm_X10_start_0 rfl rfl rfl (by decide +kernel) ⟨Nat.le_of_ble_eq_true rfl, Nat.le_of_ble_eq_true rfl⟩) ⟨fun a U g mk q => by obtain ⟨q0, q1, qP, qK, qD, qN⟩ := q; exact ⟨q0, q1, qP, va_K.moved (u := U) (U := U.calling g mk a) (Vm.Alike.refl U.vm) qK, qD, nv_same rfl rfl qN⟩, fun U hU hW => ⟨rfl, by rw [hU], by rw [hU]; exact hPc, va_K.moved hW.alike hKc, hDc.weaken (fun _ _ _ _ => trivial), nv_call hS hFc hU hW hN⟩⟩ rfl rfl hl.1 rfl (lv_room (Nat.le_of_ble_eq_true rfl)) dX10_start_13 ⟨by decide +kernel, by decide +kernel⟩) hS (fun q _ h => hFc q h) hFc (fun u t H locs ht hvm hw hB hz1 hk1 hS => ?_)
  obtain ⟨hP1, -, hD1⟩ := hB
  rw [ht] at hP1
  have hP := nd_cs hP hD hcl hk1 hP1
  have hD := hD.set (e := .inl (ac 2, 240, .inl (nd_fl 240 0 (sR s1 1)))) hcl
  refine W.widen (k := 0) (n := 0) (Nat.le_refl _) (Nat.le_refl _) ?_
  obtain ⟨s2, es2, h⟩ := nd_let_e h
  have hP : va_P (dC, dI) vwCl (dw_X10 a ac s2) H := by rw [es2]; exact hP
  have hD : va_D A (dw_X10 a ac s2) := by rw [es2]; exact hD
  refine lv_aload_n hx hb dX10_start_16 rfl (lv_at hl 0 rfl) ?_
  refine va_get (D := (dC, dI)) (ci := 11) (v := .ref (a 3)) (C := RX10) (T := TX10) (N := 11) hx hb hts hi_dm_X10_start_X10 hown hK hP 0 rfl rfl 2 (by decide) (hts (.fieldLink RX10 18 "TimeMachine$Things" "pipe" "[I") (List.mem_of_getElem? (i := 6) rfl)) (fun _ h9 => h9) rfl dX10_start_17 ?_
  refine lv_iconst (v := 0) hx hb dX10_start_20 (by decide) ?_
  have hcl : (dw_X10 a ac s2)[3]? = some ((a 3), .inl (ac 3, 32, .inl (sR s2 2))) := rfl
  have hPc := nd_c1 hP hcl
  have hDc := nd_cd hD hcl
  have hKc : va_K (dC, dI) vwCl [(ac 3, .int)] s := hK.sub [2] rfl
  have hFc := nd_rs hDc hS hA
  refine va_callv (va_runS (As := [.ref (a 3), .int 0]) (rest := []) ⟨hx, hb, hml, hown, hts⟩ (dm_J7_fill_53178 l hlt dC dI (a 3) (ac 3) 32 (by decide) (sR s2 2) 0 _) (va_cwS 2 hts gi_dm_X10_start_0 rfl rfl rfl (by decide +kernel) ⟨Nat.le_of_ble_eq_true rfl, Nat.le_of_ble_eq_true rfl⟩) ⟨fun a U g mk q => by obtain ⟨q0, q1, qP, qK, qD, qN⟩ := q; exact ⟨q0, q1, qP, va_K.moved (u := U) (U := U.calling g mk a) (Vm.Alike.refl U.vm) qK, qD, nv_same rfl rfl qN⟩, fun U hU hW => ⟨rfl, by rw [hU], by rw [hU]; exact hPc, va_K.moved hW.alike hKc, hDc.weaken (fun _ _ _ _ => trivial), nv_call hS hFc hU hW hN⟩⟩ rfl rfl hl.1 rfl (lv_room (Nat.le_of_ble_eq_true rfl)) dX10_start_21 ⟨by decide +kernel, by decide +kernel⟩) hS (fun q _ h => hFc q h) hFc (fun u t H locs ht hvm hw hB hz1 hk1 hS => ?_)
  obtain ⟨hP1, -, hD1⟩ := hB
  rw [ht] at hP1
  have hP := nd_cs hP hD hcl hk1 hP1
  have hD := hD.set (e := .inl (ac 3, 32, .inl (nd_fl 32 0 (sR s2 2)))) hcl
  refine W.widen (k := 0) (n := 0) (Nat.le_refl _) (Nat.le_refl _) ?_
  obtain ⟨s3, es3, h⟩ := nd_let_e h
  have hP : va_P (dC, dI) vwCl (dw_X10 a ac s3) H := by rw [es3]; exact hP
  have hD : va_D A (dw_X10 a ac s3) := by rw [es3]; exact hD
  refine lv_aload_n hx hb dX10_start_24 rfl (lv_at hl 0 rfl) ?_
  refine va_get (D := (dC, dI)) (ci := 11) (v := .ref (a 5)) (C := RX10) (T := TX10) (N := 11) hx hb hts hi_dm_X10_start_X10 hown hK hP 0 rfl rfl 4 (by decide) (hts (.fieldLink RX10 25 "TimeMachine$Things" "file" "[I") (List.mem_of_getElem? (i := 7) rfl)) (fun _ h9 => h9) rfl dX10_start_25 ?_
  refine lv_iconst (v := 0) hx hb dX10_start_28 (by decide) ?_
  have hcl : (dw_X10 a ac s3)[5]? = some ((a 5), .inl (ac 5, 48, .inl (sR s3 4))) := rfl
  have hPc := nd_c1 hP hcl
  have hDc := nd_cd hD hcl
  have hKc : va_K (dC, dI) vwCl [(ac 5, .int)] s := hK.sub [4] rfl
  have hFc := nd_rs hDc hS hA
  refine va_callv (va_runS (As := [.ref (a 5), .int 0]) (rest := []) ⟨hx, hb, hml, hown, hts⟩ (dm_J7_fill_53178 l hlt dC dI (a 5) (ac 5) 48 (by decide) (sR s3 4) 0 _) (va_cwS 2 hts gi_dm_X10_start_0 rfl rfl rfl (by decide +kernel) ⟨Nat.le_of_ble_eq_true rfl, Nat.le_of_ble_eq_true rfl⟩) ⟨fun a U g mk q => by obtain ⟨q0, q1, qP, qK, qD, qN⟩ := q; exact ⟨q0, q1, qP, va_K.moved (u := U) (U := U.calling g mk a) (Vm.Alike.refl U.vm) qK, qD, nv_same rfl rfl qN⟩, fun U hU hW => ⟨rfl, by rw [hU], by rw [hU]; exact hPc, va_K.moved hW.alike hKc, hDc.weaken (fun _ _ _ _ => trivial), nv_call hS hFc hU hW hN⟩⟩ rfl rfl hl.1 rfl (lv_room (Nat.le_of_ble_eq_true rfl)) dX10_start_29 ⟨by decide +kernel, by decide +kernel⟩) hS (fun q _ h => hFc q h) hFc (fun u t H locs ht hvm hw hB hz1 hk1 hS => ?_)
  obtain ⟨hP1, -, hD1⟩ := hB
  rw [ht] at hP1
  have hP := nd_cs hP hD hcl hk1 hP1
  have hD := hD.set (e := .inl (ac 5, 48, .inl (nd_fl 48 0 (sR s3 4)))) hcl
  refine W.widen (k := 0) (n := 0) (Nat.le_refl _) (Nat.le_refl _) ?_
  obtain ⟨s4, es4, h⟩ := nd_let_e h
  have hP : va_P (dC, dI) vwCl (dw_X10 a ac s4) H := by rw [es4]; exact hP
  have hD : va_D A (dw_X10 a ac s4) := by rw [es4]; exact hD
  refine lv_aload_n hx hb dX10_start_32 rfl (lv_at hl 0 rfl) ?_
  refine lv_iconst (v := 0) hx hb dX10_start_33 (by decide) ?_
  refine va_put (D := (dC, dI)) (ci := 11) (v := .int 0) (ty := .int) (C := RX10) (T := TX10) (N := 11) hx hb hts hi_dm_X10_start_X10 tyX10 tyX10_ok nmX10 hown hK hP hD hS 0 rfl rfl 8 (by decide) (hts (.fieldLink RX10 46 "TimeMachine$Things" "typedBytes" "I") (List.mem_of_getElem? (i := 8) rfl)) (fun _ h9 => h9) rfl (by decide +kernel) rfl rfl (Nat.le_of_ble_eq_true rfl) dX10_start_34 (fun H locs hP hD hS => ?_)
  obtain ⟨s5, es5, h⟩ := nd_let_e h
  have hP : va_P (dC, dI) vwCl (dw_X10 a ac s5) H := by rw [es5]; exact hP
  have hD : va_D A (dw_X10 a ac s5) := by rw [es5]; exact hD
  refine lv_aload_n hx hb dX10_start_37 rfl (lv_at hl 0 rfl) ?_
  refine lv_lconst (v := 0) hx hb dX10_start_38 (by decide) ?_
  refine va_put (D := (dC, dI)) (ci := 11) (v := .long 0) (ty := .long) (C := RX10) (T := TX10) (N := 11) hx hb hts hi_dm_X10_start_X10 tyX10 tyX10_ok nmX10 hown hK hP hD hS 0 rfl rfl 10 (by decide) (hts (.fieldLink RX10 50 "TimeMachine$Things" "shownInAll" "J") (List.mem_of_getElem? (i := 9) rfl)) (fun _ h9 => h9) rfl (by decide +kernel) rfl rfl (Nat.le_of_ble_eq_true rfl) dX10_start_39 (fun H locs hP hD hS => ?_)
  obtain ⟨s6, es6, h⟩ := nd_let_e h
  have hP : va_P (dC, dI) vwCl (dw_X10 a ac s6) H := by rw [es6]; exact hP
  have hD : va_D A (dw_X10 a ac s6) := by rw [es6]; exact hD
  refine lv_aload_n hx hb dX10_start_42 rfl (lv_at hl 0 rfl) ?_
  refine lv_iconst (v := 4) hx hb dX10_start_43 (by decide) ?_
  refine lv_iconst (v := 0) hx hb dX10_start_44 (by decide) ?_
  refine lv_iconst (v := 3) hx hb dX10_start_45 (by decide) ?_
  obtain ⟨q7, s8, hq, h⟩ := nd_b2_e h
  have hPc := hP
  have hDc := hD
  have hKc := hK
  have hFc := nd_rs hD hS hA
  refine nd_cVi (As := [.int 4, .int 0, .int 3]) (rest := []) (q := q7) (w' := dw_X10 a ac s8) ⟨hx, hb, hml, hown, hts⟩ (fun sz => dm_X10_open l hlt dC dI a ac n (4) (0) (3) s6 hq sz) (cwV 3 hts gi_dm_X10_start_1 rfl rfl rfl (by decide +kernel) ⟨Nat.le_of_ble_eq_true rfl, Nat.le_of_ble_eq_true rfl⟩) hPc hDc hKc hS hA hN (va_recv hKc hPc (ci := 11) (q0 := 0) rfl rfl) rfl hl.1 rfl (Nat.le_of_ble_eq_true rfl) dX10_start_46 (fun H locs hP1 hD1 hk1 hS => ?_)
  have hP := hP1
  have hD := hD1.weaken (fun k q _ h => hFc q.1 h)
  refine lv_istore_n (lv' := [(1, .int q7), (0, .ref (a 0))]) hx hb dX10_start_49 rfl hl (by decide) rfl (fun ls hl => ?_)
  refine lv_aload_n hx hb dX10_start_50 rfl (lv_at hl 1 rfl) ?_
  refine lv_iconst (v := 0) hx hb dX10_start_51 (by decide) ?_
  refine lv_iconst (v := 0) hx hb dX10_start_52 (by decide) ?_
  refine lv_iload_n hx hb dX10_start_53 rfl (lv_at hl 0 rfl) ?_
  obtain ⟨s11, hq, h⟩ := nd_b1_e h
  have hPc := hP
  have hDc := hD
  have hKc := hK
  have hFc := nd_rs hD hS hA
  refine nd_cVv (As := [.int 0, .int 0, .int q7]) (rest := []) (w' := dw_X10 a ac s11) ⟨hx, hb, hml, hown, hts⟩ (fun sz => dm_X10_linkTo l hlt dC dI a ac n (0) (0) (q7) s8 hq sz) (cwV 3 hts gi_dm_X10_start_2 rfl rfl rfl (by decide +kernel) ⟨Nat.le_of_ble_eq_true rfl, Nat.le_of_ble_eq_true rfl⟩) hPc hDc hKc hS hA hN (va_recv hKc hPc (ci := 11) (q0 := 0) rfl rfl) rfl hl.1 rfl (Nat.le_of_ble_eq_true rfl) dX10_start_54 (fun H locs hP1 hD1 hk1 hS => ?_)
  have hP := hP1
  have hD := hD1.weaken (fun k q _ h => hFc q.1 h)
  refine lv_aload_n hx hb dX10_start_57 rfl (lv_at hl 1 rfl) ?_
  refine lv_iconst (v := 0) hx hb dX10_start_58 (by decide) ?_
  refine lv_iconst (v := 1) hx hb dX10_start_59 (by decide) ?_
  refine lv_iload_n hx hb dX10_start_60 rfl (lv_at hl 0 rfl) ?_
  obtain ⟨s14, hq, h⟩ := nd_b1_e h
  have hPc := hP
  have hDc := hD
  have hKc := hK
  have hFc := nd_rs hD hS hA
  refine nd_cVv (As := [.int 0, .int 1, .int q7]) (rest := []) (w' := dw_X10 a ac s14) ⟨hx, hb, hml, hown, hts⟩ (fun sz => dm_X10_linkTo l hlt dC dI a ac n (0) (1) (q7) s11 hq sz) (cwV 3 hts gi_dm_X10_start_2 rfl rfl rfl (by decide +kernel) ⟨Nat.le_of_ble_eq_true rfl, Nat.le_of_ble_eq_true rfl⟩) hPc hDc hKc hS hA hN (va_recv hKc hPc (ci := 11) (q0 := 0) rfl rfl) rfl hl.1 rfl (Nat.le_of_ble_eq_true rfl) dX10_start_61 (fun H locs hP1 hD1 hk1 hS => ?_)
  have hP := hP1
  have hD := hD1.weaken (fun k q _ h => hFc q.1 h)
  exact K _ _ _ _ _ dX10_start_64 (Option.some.inj h).symm hP hD hS
set_option maxHeartbeats 40000000 in
set_option maxRecDepth 100000 in
theorem dm_X10_start (l : Launch) (hlt : l.stackTraces = false) (dC : Nat → ClassId) (dI : Nat → Nat → Nat) (a : Nat → Nat) (ac : Nat → ClassId) (n : Nat) (s0 : St) {r : St} (h : df_X10_start n s0 = some r) (sz : Nat) : Met l yX10_start ow_dm_X10_start ({ frames := 2, cells := 0, slots := 0, locals := 48 }) (va_Pc [.ref (a 0)] (fun U => U.heap.size = sz ∧ va_P (dC, dI) vwCl (dw_X10 a ac s0) U.heap ∧ va_K (dC, dI) vwCl (dk_X10 ac) U ∧ va_D (fun _ => True) (dw_X10 a ac s0) ∧ nv_E dI (va_A (dw_X10 a ac s0) sz) U)) (va_Qv (fun _ => True) (fun (_ : Unit) t => va_P (dC, dI) vwCl (dw_X10 a ac r) t.heap ∧ va_K (dC, dI) vwCl (dk_X10 ac) t ∧ va_D (va_A (dw_X10 a ac s0) sz) (dw_X10 a ac r)) (va_A (dw_X10 a ac s0) sz)) 0 0 (va_A (dw_X10 a ac s0) sz) := by
  refine Met.ofW (cc := cX10_start) (maxL := 2) (ret := none) (by decide) rfl ?_
  intro p e s m args below meth c s₁ B hml hv
  obtain ⟨rfl, hsz, hP, hK, hD0, hN⟩ := hv
  have hx := B.exec
  have hb := B.bytes
  have hr := B.returns
  have hts := atoms_spec (ws := ow_dm_X10_start) B.pre
  have hown : s.vm.findClass RX10 = some m.cls := findClass_of_methodNamed B.named
  have hlocks := B.notSynchronized
  subst hsz
  have hD := hD0.self (sz := s.heap.size)
  generalize hAe : va_A (dw_X10 a ac s0) s.heap.size = A at hD hN ⊢
  have hA : ∀ q : Nat, s.heap.size ≤ q → A q := fun q h => by rw [← hAe]; exact Or.inr h
  have hl := lv_entry ([.ref (a 0)]) (n := 2) (Nat.le_of_ble_eq_true rfl)
  rw [lg_entry_eq]
  generalize (lg_sl ([.ref (a 0)]) ++ List.replicate (2 - (lg_sl ([.ref (a 0)])).length) Slot.unset).toArray = ls at hl ⊢
  have hl : lv_has ls 2 [(0, .ref (a 0))] := hl
  exact db_X10_start_0 (dC := dC) (dI := dI) (a := a) (ac := ac) (n := n) (r := r) ⟨hlt, hx, hb, hml, hown, hts, hN, hA, hK⟩ (fun pc τ H locs ls d er hP hD hS => by subst er; exact W.vret hx hb hr (fun t ht hW => ⟨⟨(), rfl, trivial, by rw [ht]; exact hP, va_K.moved hW.alike hK, hD⟩, hS.F ht⟩) hS.2.2 d) s0 _ _ _ h hP hD va_S.rf (lv_sub hl [0] rfl)
def ow_dm_X10_become : List Cond := Cond.code yX10_become cX10_become 2 none :: ([Cond.fieldLink RX10 11 "TimeMachine$Things" "link" "[I", Cond.methodLink RX10 62 arraycopyName, .native arraycopyName, Cond.static arraycopyName, Cond.initialized "java/lang/System", Cond.fieldLink RX10 15 "TimeMachine$Things" "opening" "[I", Cond.fieldLink RX10 18 "TimeMachine$Things" "pipe" "[I", Cond.fieldLink RX10 21 "TimeMachine$Things" "piped" "[B", Cond.fieldLink RX10 25 "TimeMachine$Things" "file" "[I", Cond.fieldLink RX10 28 "TimeMachine$Things" "filed" "[B", Cond.fieldLink RX10 31 "TimeMachine$Things" "names" "[B", Cond.fieldLink RX10 34 "TimeMachine$Things" "typed" "[B", Cond.fieldLink RX10 46 "TimeMachine$Things" "typedBytes" "I", Cond.fieldLink RX10 37 "TimeMachine$Things" "shownBytes" "[B", Cond.fieldLink RX10 50 "TimeMachine$Things" "shownInAll" "J"] ++ (u_ws RX10 TX10 11 ++ []))
theorem gd_dm_X10_become : ∀ w ∈ ow_dm_X10_become, (w.onTables && w.keeps) = true ∨ ∃ ty, w = Cond.arrayClass ty := List.forall_mem_cons.mpr ⟨good_of_word rfl, List.forall_mem_append.mpr ⟨fun w h => good_of_word (List.all_eq_true.mp (by decide +kernel) w h), List.forall_mem_append.mpr ⟨gu_X10, fun _ h => nomatch h⟩⟩⟩
theorem hi_dm_X10_become_X10 : ∀ w ∈ u_ws RX10 TX10 11, w ∈ ow_dm_X10_become := fun w h => List.mem_cons_of_mem _ (List.mem_append_right _ (List.mem_append_left _ h))
def dj_X10_become_0 (p : Program) (l : Launch) (e : Env) (s : State) (m : MethodId) (args : Array Value) (below : List Frame) (meth : Method) (c : Code) (Q : State → Prop) (A : Nat → Prop) (dC : Nat → ClassId) (dI : Nat → Nat → Nat) (a : Nat → Nat) (ac : Nat → ClassId) (g : (St × (St) × (St)) → Option (St × (St) × (St))) (r : St × (St) × (St)) : Prop := ∀ (s0 : St × (St) × (St)) (H : Heap) (locs : List Loc) (ls : Array Slot), g s0 = some r → va_P (dC, dI) vwCl (dw_X10m a ac s0) H → va_D A (dw_X10m a ac s0) → va_S A s.heap H locs → lv_has ls 2 [(0, .ref (a 0)), (1, .ref (a 10))] → W p l e (headSpec ow_dm_X10_become ({ frames := 1, cells := 0, slots := 0, locals := 40 })).room s m args below meth c H locs 0 0 Q (F0 m 0 ls [])
set_option maxHeartbeats 40000000 in
set_option maxRecDepth 100000 in
theorem db_X10_become_0 {p : Program} {l : Launch} {e : Env} {s : State} {m : MethodId} {args : Array Value} {below : List Frame} {meth : Method} {c : Code} {Q : State → Prop} {A : Nat → Prop} {dC : Nat → ClassId} {dI : Nat → Nat → Nat} {a : Nat → Nat} {ac : Nat → ClassId} {n : Nat} {r : St × (St) × (St)} (C : nd_C p l s m args c A (dC, dI) cX10_become 2 RX10 ow_dm_X10_become (dk_X10m ac)) (K : nd_Kv p l e (headSpec ow_dm_X10_become ({ frames := 1, cells := 0, slots := 0, locals := 40 })).room s m args below meth c Q A (dC, dI) cX10_become (St × (St) × (St)) (dw_X10m a ac) r) : dj_X10_become_0 p l e s m args below meth c Q A dC dI a ac (df_X10_become_0 n) r := by
  obtain ⟨hlt, hx, hb, hml, hown, hts, hN, hA, hK⟩ := id C
  intro s0 H locs ls h hP hD hS hl
  unfold df_X10_become_0 at h
  refine lv_aload_n hx hb dX10_become_0 rfl (lv_at hl 1 rfl) ?_
  refine va_get (D := (dC, dI)) (ci := 11) (v := .ref (a 11)) (C := RX10) (T := TX10) (N := 11) hx hb hts hi_dm_X10_become_X10 hown hK hP 10 rfl rfl 0 (by decide) (hts (.fieldLink RX10 11 "TimeMachine$Things" "link" "[I") (List.mem_of_getElem? (i := 1) rfl)) (fun _ h9 => h9) rfl dX10_become_1 ?_
  refine lv_iconst (v := 0) hx hb dX10_become_4 (by decide) ?_
  refine lv_aload_n hx hb dX10_become_5 rfl (lv_at hl 0 rfl) ?_
  refine va_get (D := (dC, dI)) (ci := 11) (v := .ref (a 1)) (C := RX10) (T := TX10) (N := 11) hx hb hts hi_dm_X10_become_X10 hown hK hP 0 rfl rfl 0 (by decide) (hts (.fieldLink RX10 11 "TimeMachine$Things" "link" "[I") (List.mem_of_getElem? (i := 1) rfl)) (fun _ h9 => h9) rfl dX10_become_6 ?_
  refine lv_iconst (v := 0) hx hb dX10_become_9 (by decide) ?_
  refine lv_aload_n hx hb dX10_become_10 rfl (lv_at hl 0 rfl) ?_
  refine va_get (D := (dC, dI)) (ci := 11) (v := .ref (a 1)) (C := RX10) (T := TX10) (N := 11) hx hb hts hi_dm_X10_become_X10 hown hK hP 0 rfl rfl 0 (by decide) (hts (.fieldLink RX10 11 "TimeMachine$Things" "link" "[I") (List.mem_of_getElem? (i := 1) rfl)) (fun _ h9 => h9) rfl dX10_become_11 ?_
  refine va_alen (v := 256) hx hb hK hP 1 0 rfl rfl (show Int32.ofNat 256 = 256 by decide) dX10_become_14 ?_
  obtain ⟨k1, h⟩ := nd_cp_e h
  refine va_copyi (sp := 0) (dp := 0) (n := 256) hx hb (by rw [hml]; exact hl.1.symm) hown (hts (.methodLink RX10 62 arraycopyName) (List.mem_of_getElem? (i := 2) rfl)) (hts (.native arraycopyName) (List.mem_of_getElem? (i := 3) rfl)) (hts (.static arraycopyName) (List.mem_of_getElem? (i := 4) rfl)) (hts (.initialized "java/lang/System") (List.mem_of_getElem? (i := 5) rfl)) hK hP hD hS 11 1 9 0 rfl rfl rfl rfl rfl k1.1 k1.2.1 k1.2.2.1 k1.2.2.2.1 k1.2.2.2.2 (fun _ _ => rfl) (Nat.le_of_ble_eq_true rfl) (by decide +kernel) dX10_become_15 (fun H locs hP hD hS => ?_)
  obtain ⟨s2, es2, h⟩ := nd_let_e h
  have hP : va_P (dC, dI) vwCl (dw_X10m a ac s2) H := by rw [es2]; exact hP
  have hD : va_D A (dw_X10m a ac s2) := by rw [es2]; exact hD
  refine lv_aload_n hx hb dX10_become_18 rfl (lv_at hl 1 rfl) ?_
  refine va_get (D := (dC, dI)) (ci := 11) (v := .ref (a 12)) (C := RX10) (T := TX10) (N := 11) hx hb hts hi_dm_X10_become_X10 hown hK hP 10 rfl rfl 1 (by decide) (hts (.fieldLink RX10 15 "TimeMachine$Things" "opening" "[I") (List.mem_of_getElem? (i := 6) rfl)) (fun _ h9 => h9) rfl dX10_become_19 ?_
  refine lv_iconst (v := 0) hx hb dX10_become_22 (by decide) ?_
  refine lv_aload_n hx hb dX10_become_23 rfl (lv_at hl 0 rfl) ?_
  refine va_get (D := (dC, dI)) (ci := 11) (v := .ref (a 2)) (C := RX10) (T := TX10) (N := 11) hx hb hts hi_dm_X10_become_X10 hown hK hP 0 rfl rfl 1 (by decide) (hts (.fieldLink RX10 15 "TimeMachine$Things" "opening" "[I") (List.mem_of_getElem? (i := 6) rfl)) (fun _ h9 => h9) rfl dX10_become_24 ?_
  refine lv_iconst (v := 0) hx hb dX10_become_27 (by decide) ?_
  refine lv_aload_n hx hb dX10_become_28 rfl (lv_at hl 0 rfl) ?_
  refine va_get (D := (dC, dI)) (ci := 11) (v := .ref (a 2)) (C := RX10) (T := TX10) (N := 11) hx hb hts hi_dm_X10_become_X10 hown hK hP 0 rfl rfl 1 (by decide) (hts (.fieldLink RX10 15 "TimeMachine$Things" "opening" "[I") (List.mem_of_getElem? (i := 6) rfl)) (fun _ h9 => h9) rfl dX10_become_29 ?_
  refine va_alen (v := 240) hx hb hK hP 2 1 rfl rfl (show Int32.ofNat 240 = 240 by decide) dX10_become_32 ?_
  obtain ⟨k3, h⟩ := nd_cp_e h
  refine va_copyi (sp := 0) (dp := 0) (n := 240) hx hb (by rw [hml]; exact hl.1.symm) hown (hts (.methodLink RX10 62 arraycopyName) (List.mem_of_getElem? (i := 2) rfl)) (hts (.native arraycopyName) (List.mem_of_getElem? (i := 3) rfl)) (hts (.static arraycopyName) (List.mem_of_getElem? (i := 4) rfl)) (hts (.initialized "java/lang/System") (List.mem_of_getElem? (i := 5) rfl)) hK hP hD hS 12 2 10 1 rfl rfl rfl rfl rfl k3.1 k3.2.1 k3.2.2.1 k3.2.2.2.1 k3.2.2.2.2 (fun _ _ => rfl) (Nat.le_of_ble_eq_true rfl) (by decide +kernel) dX10_become_33 (fun H locs hP hD hS => ?_)
  obtain ⟨s4, es4, h⟩ := nd_let_e h
  have hP : va_P (dC, dI) vwCl (dw_X10m a ac s4) H := by rw [es4]; exact hP
  have hD : va_D A (dw_X10m a ac s4) := by rw [es4]; exact hD
  refine lv_aload_n hx hb dX10_become_36 rfl (lv_at hl 1 rfl) ?_
  refine va_get (D := (dC, dI)) (ci := 11) (v := .ref (a 13)) (C := RX10) (T := TX10) (N := 11) hx hb hts hi_dm_X10_become_X10 hown hK hP 10 rfl rfl 2 (by decide) (hts (.fieldLink RX10 18 "TimeMachine$Things" "pipe" "[I") (List.mem_of_getElem? (i := 7) rfl)) (fun _ h9 => h9) rfl dX10_become_37 ?_
  refine lv_iconst (v := 0) hx hb dX10_become_40 (by decide) ?_
  refine lv_aload_n hx hb dX10_become_41 rfl (lv_at hl 0 rfl) ?_
  refine va_get (D := (dC, dI)) (ci := 11) (v := .ref (a 3)) (C := RX10) (T := TX10) (N := 11) hx hb hts hi_dm_X10_become_X10 hown hK hP 0 rfl rfl 2 (by decide) (hts (.fieldLink RX10 18 "TimeMachine$Things" "pipe" "[I") (List.mem_of_getElem? (i := 7) rfl)) (fun _ h9 => h9) rfl dX10_become_42 ?_
  refine lv_iconst (v := 0) hx hb dX10_become_45 (by decide) ?_
  refine lv_aload_n hx hb dX10_become_46 rfl (lv_at hl 0 rfl) ?_
  refine va_get (D := (dC, dI)) (ci := 11) (v := .ref (a 3)) (C := RX10) (T := TX10) (N := 11) hx hb hts hi_dm_X10_become_X10 hown hK hP 0 rfl rfl 2 (by decide) (hts (.fieldLink RX10 18 "TimeMachine$Things" "pipe" "[I") (List.mem_of_getElem? (i := 7) rfl)) (fun _ h9 => h9) rfl dX10_become_47 ?_
  refine va_alen (v := 32) hx hb hK hP 3 2 rfl rfl (show Int32.ofNat 32 = 32 by decide) dX10_become_50 ?_
  obtain ⟨k5, h⟩ := nd_cp_e h
  refine va_copyi (sp := 0) (dp := 0) (n := 32) hx hb (by rw [hml]; exact hl.1.symm) hown (hts (.methodLink RX10 62 arraycopyName) (List.mem_of_getElem? (i := 2) rfl)) (hts (.native arraycopyName) (List.mem_of_getElem? (i := 3) rfl)) (hts (.static arraycopyName) (List.mem_of_getElem? (i := 4) rfl)) (hts (.initialized "java/lang/System") (List.mem_of_getElem? (i := 5) rfl)) hK hP hD hS 13 3 11 2 rfl rfl rfl rfl rfl k5.1 k5.2.1 k5.2.2.1 k5.2.2.2.1 k5.2.2.2.2 (fun _ _ => rfl) (Nat.le_of_ble_eq_true rfl) (by decide +kernel) dX10_become_51 (fun H locs hP hD hS => ?_)
  obtain ⟨s6, es6, h⟩ := nd_let_e h
  have hP : va_P (dC, dI) vwCl (dw_X10m a ac s6) H := by rw [es6]; exact hP
  have hD : va_D A (dw_X10m a ac s6) := by rw [es6]; exact hD
  refine lv_aload_n hx hb dX10_become_54 rfl (lv_at hl 1 rfl) ?_
  refine va_get (D := (dC, dI)) (ci := 11) (v := .ref (a 14)) (C := RX10) (T := TX10) (N := 11) hx hb hts hi_dm_X10_become_X10 hown hK hP 10 rfl rfl 3 (by decide) (hts (.fieldLink RX10 21 "TimeMachine$Things" "piped" "[B") (List.mem_of_getElem? (i := 8) rfl)) (fun _ h9 => h9) rfl dX10_become_55 ?_
  refine lv_iconst (v := 0) hx hb dX10_become_58 (by decide) ?_
  refine lv_aload_n hx hb dX10_become_59 rfl (lv_at hl 0 rfl) ?_
  refine va_get (D := (dC, dI)) (ci := 11) (v := .ref (a 4)) (C := RX10) (T := TX10) (N := 11) hx hb hts hi_dm_X10_become_X10 hown hK hP 0 rfl rfl 3 (by decide) (hts (.fieldLink RX10 21 "TimeMachine$Things" "piped" "[B") (List.mem_of_getElem? (i := 8) rfl)) (fun _ h9 => h9) rfl dX10_become_60 ?_
  refine lv_iconst (v := 0) hx hb dX10_become_63 (by decide) ?_
  refine lv_aload_n hx hb dX10_become_64 rfl (lv_at hl 0 rfl) ?_
  refine va_get (D := (dC, dI)) (ci := 11) (v := .ref (a 4)) (C := RX10) (T := TX10) (N := 11) hx hb hts hi_dm_X10_become_X10 hown hK hP 0 rfl rfl 3 (by decide) (hts (.fieldLink RX10 21 "TimeMachine$Things" "piped" "[B") (List.mem_of_getElem? (i := 8) rfl)) (fun _ h9 => h9) rfl dX10_become_65 ?_
  refine va_alen (v := 4096) hx hb hK hP 4 3 rfl rfl (show Int32.ofNat 4096 = 4096 by decide) dX10_become_68 ?_
  obtain ⟨k7, h⟩ := nd_cp_e h
  obtain ⟨k8, h⟩ := nd_fa_e h
  refine va_copyi (sp := 0) (dp := 0) (n := 4096) hx hb (by rw [hml]; exact hl.1.symm) hown (hts (.methodLink RX10 62 arraycopyName) (List.mem_of_getElem? (i := 2) rfl)) (hts (.native arraycopyName) (List.mem_of_getElem? (i := 3) rfl)) (hts (.static arraycopyName) (List.mem_of_getElem? (i := 4) rfl)) (hts (.initialized "java/lang/System") (List.mem_of_getElem? (i := 5) rfl)) hK hP hD hS 14 4 12 3 rfl rfl rfl rfl rfl k7.1 k7.2.1 k7.2.2.1 k7.2.2.2.1 k7.2.2.2.2 k8 (Nat.le_of_ble_eq_true rfl) (by decide +kernel) dX10_become_69 (fun H locs hP hD hS => ?_)
  obtain ⟨s9, es9, h⟩ := nd_let_e h
  have hP : va_P (dC, dI) vwCl (dw_X10m a ac s9) H := by rw [es9]; exact hP
  have hD : va_D A (dw_X10m a ac s9) := by rw [es9]; exact hD
  refine lv_aload_n hx hb dX10_become_72 rfl (lv_at hl 1 rfl) ?_
  refine va_get (D := (dC, dI)) (ci := 11) (v := .ref (a 15)) (C := RX10) (T := TX10) (N := 11) hx hb hts hi_dm_X10_become_X10 hown hK hP 10 rfl rfl 4 (by decide) (hts (.fieldLink RX10 25 "TimeMachine$Things" "file" "[I") (List.mem_of_getElem? (i := 9) rfl)) (fun _ h9 => h9) rfl dX10_become_73 ?_
  refine lv_iconst (v := 0) hx hb dX10_become_76 (by decide) ?_
  refine lv_aload_n hx hb dX10_become_77 rfl (lv_at hl 0 rfl) ?_
  refine va_get (D := (dC, dI)) (ci := 11) (v := .ref (a 5)) (C := RX10) (T := TX10) (N := 11) hx hb hts hi_dm_X10_become_X10 hown hK hP 0 rfl rfl 4 (by decide) (hts (.fieldLink RX10 25 "TimeMachine$Things" "file" "[I") (List.mem_of_getElem? (i := 9) rfl)) (fun _ h9 => h9) rfl dX10_become_78 ?_
  refine lv_iconst (v := 0) hx hb dX10_become_81 (by decide) ?_
  refine lv_aload_n hx hb dX10_become_82 rfl (lv_at hl 0 rfl) ?_
  refine va_get (D := (dC, dI)) (ci := 11) (v := .ref (a 5)) (C := RX10) (T := TX10) (N := 11) hx hb hts hi_dm_X10_become_X10 hown hK hP 0 rfl rfl 4 (by decide) (hts (.fieldLink RX10 25 "TimeMachine$Things" "file" "[I") (List.mem_of_getElem? (i := 9) rfl)) (fun _ h9 => h9) rfl dX10_become_83 ?_
  refine va_alen (v := 48) hx hb hK hP 5 4 rfl rfl (show Int32.ofNat 48 = 48 by decide) dX10_become_86 ?_
  obtain ⟨k10, h⟩ := nd_cp_e h
  refine va_copyi (sp := 0) (dp := 0) (n := 48) hx hb (by rw [hml]; exact hl.1.symm) hown (hts (.methodLink RX10 62 arraycopyName) (List.mem_of_getElem? (i := 2) rfl)) (hts (.native arraycopyName) (List.mem_of_getElem? (i := 3) rfl)) (hts (.static arraycopyName) (List.mem_of_getElem? (i := 4) rfl)) (hts (.initialized "java/lang/System") (List.mem_of_getElem? (i := 5) rfl)) hK hP hD hS 15 5 13 4 rfl rfl rfl rfl rfl k10.1 k10.2.1 k10.2.2.1 k10.2.2.2.1 k10.2.2.2.2 (fun _ _ => rfl) (Nat.le_of_ble_eq_true rfl) (by decide +kernel) dX10_become_87 (fun H locs hP hD hS => ?_)
  obtain ⟨s11, es11, h⟩ := nd_let_e h
  have hP : va_P (dC, dI) vwCl (dw_X10m a ac s11) H := by rw [es11]; exact hP
  have hD : va_D A (dw_X10m a ac s11) := by rw [es11]; exact hD
  refine lv_aload_n hx hb dX10_become_90 rfl (lv_at hl 1 rfl) ?_
  refine va_get (D := (dC, dI)) (ci := 11) (v := .ref (a 16)) (C := RX10) (T := TX10) (N := 11) hx hb hts hi_dm_X10_become_X10 hown hK hP 10 rfl rfl 5 (by decide) (hts (.fieldLink RX10 28 "TimeMachine$Things" "filed" "[B") (List.mem_of_getElem? (i := 10) rfl)) (fun _ h9 => h9) rfl dX10_become_91 ?_
  refine lv_iconst (v := 0) hx hb dX10_become_94 (by decide) ?_
  refine lv_aload_n hx hb dX10_become_95 rfl (lv_at hl 0 rfl) ?_
  refine va_get (D := (dC, dI)) (ci := 11) (v := .ref (a 6)) (C := RX10) (T := TX10) (N := 11) hx hb hts hi_dm_X10_become_X10 hown hK hP 0 rfl rfl 5 (by decide) (hts (.fieldLink RX10 28 "TimeMachine$Things" "filed" "[B") (List.mem_of_getElem? (i := 10) rfl)) (fun _ h9 => h9) rfl dX10_become_96 ?_
  refine lv_iconst (v := 0) hx hb dX10_become_99 (by decide) ?_
  refine lv_aload_n hx hb dX10_become_100 rfl (lv_at hl 0 rfl) ?_
  refine va_get (D := (dC, dI)) (ci := 11) (v := .ref (a 6)) (C := RX10) (T := TX10) (N := 11) hx hb hts hi_dm_X10_become_X10 hown hK hP 0 rfl rfl 5 (by decide) (hts (.fieldLink RX10 28 "TimeMachine$Things" "filed" "[B") (List.mem_of_getElem? (i := 10) rfl)) (fun _ h9 => h9) rfl dX10_become_101 ?_
  refine va_alen (v := 8192) hx hb hK hP 6 5 rfl rfl (show Int32.ofNat 8192 = 8192 by decide) dX10_become_104 ?_
  obtain ⟨k12, h⟩ := nd_cp_e h
  obtain ⟨k13, h⟩ := nd_fa_e h
  refine va_copyi (sp := 0) (dp := 0) (n := 8192) hx hb (by rw [hml]; exact hl.1.symm) hown (hts (.methodLink RX10 62 arraycopyName) (List.mem_of_getElem? (i := 2) rfl)) (hts (.native arraycopyName) (List.mem_of_getElem? (i := 3) rfl)) (hts (.static arraycopyName) (List.mem_of_getElem? (i := 4) rfl)) (hts (.initialized "java/lang/System") (List.mem_of_getElem? (i := 5) rfl)) hK hP hD hS 16 6 14 5 rfl rfl rfl rfl rfl k12.1 k12.2.1 k12.2.2.1 k12.2.2.2.1 k12.2.2.2.2 k13 (Nat.le_of_ble_eq_true rfl) (by decide +kernel) dX10_become_105 (fun H locs hP hD hS => ?_)
  obtain ⟨s14, es14, h⟩ := nd_let_e h
  have hP : va_P (dC, dI) vwCl (dw_X10m a ac s14) H := by rw [es14]; exact hP
  have hD : va_D A (dw_X10m a ac s14) := by rw [es14]; exact hD
  refine lv_aload_n hx hb dX10_become_108 rfl (lv_at hl 1 rfl) ?_
  refine va_get (D := (dC, dI)) (ci := 11) (v := .ref (a 17)) (C := RX10) (T := TX10) (N := 11) hx hb hts hi_dm_X10_become_X10 hown hK hP 10 rfl rfl 6 (by decide) (hts (.fieldLink RX10 31 "TimeMachine$Things" "names" "[B") (List.mem_of_getElem? (i := 11) rfl)) (fun _ h9 => h9) rfl dX10_become_109 ?_
  refine lv_iconst (v := 0) hx hb dX10_become_112 (by decide) ?_
  refine lv_aload_n hx hb dX10_become_113 rfl (lv_at hl 0 rfl) ?_
  refine va_get (D := (dC, dI)) (ci := 11) (v := .ref (a 7)) (C := RX10) (T := TX10) (N := 11) hx hb hts hi_dm_X10_become_X10 hown hK hP 0 rfl rfl 6 (by decide) (hts (.fieldLink RX10 31 "TimeMachine$Things" "names" "[B") (List.mem_of_getElem? (i := 11) rfl)) (fun _ h9 => h9) rfl dX10_become_114 ?_
  refine lv_iconst (v := 0) hx hb dX10_become_117 (by decide) ?_
  refine lv_aload_n hx hb dX10_become_118 rfl (lv_at hl 0 rfl) ?_
  refine va_get (D := (dC, dI)) (ci := 11) (v := .ref (a 7)) (C := RX10) (T := TX10) (N := 11) hx hb hts hi_dm_X10_become_X10 hown hK hP 0 rfl rfl 6 (by decide) (hts (.fieldLink RX10 31 "TimeMachine$Things" "names" "[B") (List.mem_of_getElem? (i := 11) rfl)) (fun _ h9 => h9) rfl dX10_become_119 ?_
  refine va_alen (v := 256) hx hb hK hP 7 6 rfl rfl (show Int32.ofNat 256 = 256 by decide) dX10_become_122 ?_
  obtain ⟨k15, h⟩ := nd_cp_e h
  obtain ⟨k16, h⟩ := nd_fa_e h
  refine va_copyi (sp := 0) (dp := 0) (n := 256) hx hb (by rw [hml]; exact hl.1.symm) hown (hts (.methodLink RX10 62 arraycopyName) (List.mem_of_getElem? (i := 2) rfl)) (hts (.native arraycopyName) (List.mem_of_getElem? (i := 3) rfl)) (hts (.static arraycopyName) (List.mem_of_getElem? (i := 4) rfl)) (hts (.initialized "java/lang/System") (List.mem_of_getElem? (i := 5) rfl)) hK hP hD hS 17 7 15 6 rfl rfl rfl rfl rfl k15.1 k15.2.1 k15.2.2.1 k15.2.2.2.1 k15.2.2.2.2 k16 (Nat.le_of_ble_eq_true rfl) (by decide +kernel) dX10_become_123 (fun H locs hP hD hS => ?_)
  obtain ⟨s17, es17, h⟩ := nd_let_e h
  have hP : va_P (dC, dI) vwCl (dw_X10m a ac s17) H := by rw [es17]; exact hP
  have hD : va_D A (dw_X10m a ac s17) := by rw [es17]; exact hD
  refine lv_aload_n hx hb dX10_become_126 rfl (lv_at hl 1 rfl) ?_
  refine va_get (D := (dC, dI)) (ci := 11) (v := .ref (a 18)) (C := RX10) (T := TX10) (N := 11) hx hb hts hi_dm_X10_become_X10 hown hK hP 10 rfl rfl 7 (by decide) (hts (.fieldLink RX10 34 "TimeMachine$Things" "typed" "[B") (List.mem_of_getElem? (i := 12) rfl)) (fun _ h9 => h9) rfl dX10_become_127 ?_
  refine lv_iconst (v := 0) hx hb dX10_become_130 (by decide) ?_
  refine lv_aload_n hx hb dX10_become_131 rfl (lv_at hl 0 rfl) ?_
  refine va_get (D := (dC, dI)) (ci := 11) (v := .ref (a 8)) (C := RX10) (T := TX10) (N := 11) hx hb hts hi_dm_X10_become_X10 hown hK hP 0 rfl rfl 7 (by decide) (hts (.fieldLink RX10 34 "TimeMachine$Things" "typed" "[B") (List.mem_of_getElem? (i := 12) rfl)) (fun _ h9 => h9) rfl dX10_become_132 ?_
  refine lv_iconst (v := 0) hx hb dX10_become_135 (by decide) ?_
  refine lv_aload_n hx hb dX10_become_136 rfl (lv_at hl 0 rfl) ?_
  refine va_get (D := (dC, dI)) (ci := 11) (v := .ref (a 8)) (C := RX10) (T := TX10) (N := 11) hx hb hts hi_dm_X10_become_X10 hown hK hP 0 rfl rfl 7 (by decide) (hts (.fieldLink RX10 34 "TimeMachine$Things" "typed" "[B") (List.mem_of_getElem? (i := 12) rfl)) (fun _ h9 => h9) rfl dX10_become_137 ?_
  refine va_alen (v := 512) hx hb hK hP 8 7 rfl rfl (show Int32.ofNat 512 = 512 by decide) dX10_become_140 ?_
  obtain ⟨k18, h⟩ := nd_cp_e h
  obtain ⟨k19, h⟩ := nd_fa_e h
  refine va_copyi (sp := 0) (dp := 0) (n := 512) hx hb (by rw [hml]; exact hl.1.symm) hown (hts (.methodLink RX10 62 arraycopyName) (List.mem_of_getElem? (i := 2) rfl)) (hts (.native arraycopyName) (List.mem_of_getElem? (i := 3) rfl)) (hts (.static arraycopyName) (List.mem_of_getElem? (i := 4) rfl)) (hts (.initialized "java/lang/System") (List.mem_of_getElem? (i := 5) rfl)) hK hP hD hS 18 8 16 7 rfl rfl rfl rfl rfl k18.1 k18.2.1 k18.2.2.1 k18.2.2.2.1 k18.2.2.2.2 k19 (Nat.le_of_ble_eq_true rfl) (by decide +kernel) dX10_become_141 (fun H locs hP hD hS => ?_)
  obtain ⟨s20, es20, h⟩ := nd_let_e h
  have hP : va_P (dC, dI) vwCl (dw_X10m a ac s20) H := by rw [es20]; exact hP
  have hD : va_D A (dw_X10m a ac s20) := by rw [es20]; exact hD
  refine lv_aload_n hx hb dX10_become_144 rfl (lv_at hl 0 rfl) ?_
  refine lv_aload_n hx hb dX10_become_145 rfl (lv_at hl 1 rfl) ?_
  refine va_get (D := (dC, dI)) (ci := 11) (v := .int (sI s20.2.2 0)) (C := RX10) (T := TX10) (N := 11) hx hb hts hi_dm_X10_become_X10 hown hK hP 10 rfl rfl 8 (by decide) (hts (.fieldLink RX10 46 "TimeMachine$Things" "typedBytes" "I") (List.mem_of_getElem? (i := 13) rfl)) (fun _ h9 => h9) rfl dX10_become_146 ?_
  refine va_put (D := (dC, dI)) (ci := 11) (v := .int (sI s20.2.2 0)) (ty := .int) (C := RX10) (T := TX10) (N := 11) hx hb hts hi_dm_X10_become_X10 tyX10 tyX10_ok nmX10 hown hK hP hD hS 0 rfl rfl 8 (by decide) (hts (.fieldLink RX10 46 "TimeMachine$Things" "typedBytes" "I") (List.mem_of_getElem? (i := 13) rfl)) (fun _ h9 => h9) rfl (by decide +kernel) rfl rfl (Nat.le_of_ble_eq_true rfl) dX10_become_149 (fun H locs hP hD hS => ?_)
  obtain ⟨s21, es21, h⟩ := nd_let_e h
  have hP : va_P (dC, dI) vwCl (dw_X10m a ac s21) H := by rw [es21]; exact hP
  have hD : va_D A (dw_X10m a ac s21) := by rw [es21]; exact hD
  refine lv_aload_n hx hb dX10_become_152 rfl (lv_at hl 1 rfl) ?_
  refine va_get (D := (dC, dI)) (ci := 11) (v := .ref (a 19)) (C := RX10) (T := TX10) (N := 11) hx hb hts hi_dm_X10_become_X10 hown hK hP 10 rfl rfl 9 (by decide) (hts (.fieldLink RX10 37 "TimeMachine$Things" "shownBytes" "[B") (List.mem_of_getElem? (i := 14) rfl)) (fun _ h9 => h9) rfl dX10_become_153 ?_
  refine lv_iconst (v := 0) hx hb dX10_become_156 (by decide) ?_
  refine lv_aload_n hx hb dX10_become_157 rfl (lv_at hl 0 rfl) ?_
  refine va_get (D := (dC, dI)) (ci := 11) (v := .ref (a 9)) (C := RX10) (T := TX10) (N := 11) hx hb hts hi_dm_X10_become_X10 hown hK hP 0 rfl rfl 9 (by decide) (hts (.fieldLink RX10 37 "TimeMachine$Things" "shownBytes" "[B") (List.mem_of_getElem? (i := 14) rfl)) (fun _ h9 => h9) rfl dX10_become_158 ?_
  refine lv_iconst (v := 0) hx hb dX10_become_161 (by decide) ?_
  refine lv_aload_n hx hb dX10_become_162 rfl (lv_at hl 0 rfl) ?_
  refine va_get (D := (dC, dI)) (ci := 11) (v := .ref (a 9)) (C := RX10) (T := TX10) (N := 11) hx hb hts hi_dm_X10_become_X10 hown hK hP 0 rfl rfl 9 (by decide) (hts (.fieldLink RX10 37 "TimeMachine$Things" "shownBytes" "[B") (List.mem_of_getElem? (i := 14) rfl)) (fun _ h9 => h9) rfl dX10_become_163 ?_
  refine va_alen (v := 2048) hx hb hK hP 9 8 rfl rfl (show Int32.ofNat 2048 = 2048 by decide) dX10_become_166 ?_
  obtain ⟨k22, h⟩ := nd_cp_e h
  obtain ⟨k23, h⟩ := nd_fa_e h
  refine va_copyi (sp := 0) (dp := 0) (n := 2048) hx hb (by rw [hml]; exact hl.1.symm) hown (hts (.methodLink RX10 62 arraycopyName) (List.mem_of_getElem? (i := 2) rfl)) (hts (.native arraycopyName) (List.mem_of_getElem? (i := 3) rfl)) (hts (.static arraycopyName) (List.mem_of_getElem? (i := 4) rfl)) (hts (.initialized "java/lang/System") (List.mem_of_getElem? (i := 5) rfl)) hK hP hD hS 19 9 17 8 rfl rfl rfl rfl rfl k22.1 k22.2.1 k22.2.2.1 k22.2.2.2.1 k22.2.2.2.2 k23 (Nat.le_of_ble_eq_true rfl) (by decide +kernel) dX10_become_167 (fun H locs hP hD hS => ?_)
  obtain ⟨s24, es24, h⟩ := nd_let_e h
  have hP : va_P (dC, dI) vwCl (dw_X10m a ac s24) H := by rw [es24]; exact hP
  have hD : va_D A (dw_X10m a ac s24) := by rw [es24]; exact hD
  refine lv_aload_n hx hb dX10_become_170 rfl (lv_at hl 0 rfl) ?_
  refine lv_aload_n hx hb dX10_become_171 rfl (lv_at hl 1 rfl) ?_
  refine va_get (D := (dC, dI)) (ci := 11) (v := .long (sL s24.2.2 0)) (C := RX10) (T := TX10) (N := 11) hx hb hts hi_dm_X10_become_X10 hown hK hP 10 rfl rfl 10 (by decide) (hts (.fieldLink RX10 50 "TimeMachine$Things" "shownInAll" "J") (List.mem_of_getElem? (i := 15) rfl)) (fun _ h9 => h9) rfl dX10_become_172 ?_
  refine va_put (D := (dC, dI)) (ci := 11) (v := .long (sL s24.2.2 0)) (ty := .long) (C := RX10) (T := TX10) (N := 11) hx hb hts hi_dm_X10_become_X10 tyX10 tyX10_ok nmX10 hown hK hP hD hS 0 rfl rfl 10 (by decide) (hts (.fieldLink RX10 50 "TimeMachine$Things" "shownInAll" "J") (List.mem_of_getElem? (i := 15) rfl)) (fun _ h9 => h9) rfl (by decide +kernel) rfl rfl (Nat.le_of_ble_eq_true rfl) dX10_become_175 (fun H locs hP hD hS => ?_)
  obtain ⟨s25, es25, h⟩ := nd_let_e h
  have hP : va_P (dC, dI) vwCl (dw_X10m a ac s25) H := by rw [es25]; exact hP
  have hD : va_D A (dw_X10m a ac s25) := by rw [es25]; exact hD
  exact K _ _ _ _ _ dX10_become_178 (Option.some.inj h).symm hP hD hS
set_option maxHeartbeats 40000000 in
set_option maxRecDepth 100000 in
theorem dm_X10_become (l : Launch) (hlt : l.stackTraces = false) (dC : Nat → ClassId) (dI : Nat → Nat → Nat) (a : Nat → Nat) (ac : Nat → ClassId) (n : Nat) (s0 : St × (St) × (St)) {r : St × (St) × (St)} (h : df_X10_become n s0 = some r) (sz : Nat) : Met l yX10_become ow_dm_X10_become ({ frames := 1, cells := 0, slots := 0, locals := 40 }) (va_Pc [.ref (a 0), .ref (a 10)] (fun U => U.heap.size = sz ∧ va_P (dC, dI) vwCl (dw_X10m a ac s0) U.heap ∧ va_K (dC, dI) vwCl (dk_X10m ac) U ∧ va_D (fun _ => True) (dw_X10m a ac s0) ∧ nv_E dI (va_A (dw_X10m a ac s0) sz) U)) (va_Qv (fun _ => True) (fun (_ : Unit) t => va_P (dC, dI) vwCl (dw_X10m a ac r) t.heap ∧ va_K (dC, dI) vwCl (dk_X10m ac) t ∧ va_D (va_A (dw_X10m a ac s0) sz) (dw_X10m a ac r)) (va_A (dw_X10m a ac s0) sz)) 0 0 (va_A (dw_X10m a ac s0) sz) := by
  refine Met.ofW (cc := cX10_become) (maxL := 2) (ret := none) (by decide) rfl ?_
  intro p e s m args below meth c s₁ B hml hv
  obtain ⟨rfl, hsz, hP, hK, hD0, hN⟩ := hv
  have hx := B.exec
  have hb := B.bytes
  have hr := B.returns
  have hts := atoms_spec (ws := ow_dm_X10_become) B.pre
  have hown : s.vm.findClass RX10 = some m.cls := findClass_of_methodNamed B.named
  have hlocks := B.notSynchronized
  subst hsz
  have hD := hD0.self (sz := s.heap.size)
  generalize hAe : va_A (dw_X10m a ac s0) s.heap.size = A at hD hN ⊢
  have hA : ∀ q : Nat, s.heap.size ≤ q → A q := fun q h => by rw [← hAe]; exact Or.inr h
  have hl := lv_entry ([.ref (a 0), .ref (a 10)]) (n := 2) (Nat.le_of_ble_eq_true rfl)
  rw [lg_entry_eq]
  generalize (lg_sl ([.ref (a 0), .ref (a 10)]) ++ List.replicate (2 - (lg_sl ([.ref (a 0), .ref (a 10)])).length) Slot.unset).toArray = ls at hl ⊢
  have hl : lv_has ls 2 [(0, .ref (a 0)), (1, .ref (a 10))] := hl
  exact db_X10_become_0 (dC := dC) (dI := dI) (a := a) (ac := ac) (n := n) (r := r) ⟨hlt, hx, hb, hml, hown, hts, hN, hA, hK⟩ (fun pc τ H locs ls d er hP hD hS => by subst er; exact W.vret hx hb hr (fun t ht hW => ⟨⟨(), rfl, trivial, by rw [ht]; exact hP, va_K.moved hW.alike hK, hD⟩, hS.F ht⟩) hS.2.2 d) s0 _ _ _ h hP hD va_S.rf (lv_sub hl [0, 1] rfl)
def ow_dm_X10_openingOf : List Cond := Cond.code yX10_openingOf cX10_openingOf 3 (some .int) :: ([Cond.fieldLink RX10 11 "TimeMachine$Things" "link" "[I"] ++ (u_ws RX10 TX10 11 ++ []))
theorem gd_dm_X10_openingOf : ∀ w ∈ ow_dm_X10_openingOf, (w.onTables && w.keeps) = true ∨ ∃ ty, w = Cond.arrayClass ty := List.forall_mem_cons.mpr ⟨good_of_word rfl, List.forall_mem_append.mpr ⟨fun w h => good_of_word (List.all_eq_true.mp (by decide +kernel) w h), List.forall_mem_append.mpr ⟨gu_X10, fun _ h => nomatch h⟩⟩⟩
theorem hi_dm_X10_openingOf_X10 : ∀ w ∈ u_ws RX10 TX10 11, w ∈ ow_dm_X10_openingOf := fun w h => List.mem_cons_of_mem _ (List.mem_append_right _ (List.mem_append_left _ h))
def dj_X10_openingOf_27 (p : Program) (l : Launch) (e : Env) (s : State) (m : MethodId) (args : Array Value) (below : List Frame) (meth : Method) (c : Code) (Q : State → Prop) (A : Nat → Prop) (dC : Nat → ClassId) (dI : Nat → Nat → Nat) (a : Nat → Nat) (ac : Nat → ClassId) (g : Int32 → (St) → Option (Int32 × (St))) (r : Int32 × (St)) : Prop := ∀ (y0 : Int32) (s0 : St) (H : Heap) (locs : List Loc) (ls : Array Slot), g y0 s0 = some r → va_P (dC, dI) vwCl (dw_X10 a ac s0) H → va_D A (dw_X10 a ac s0) → va_S A s.heap H locs → lv_has ls 3 [] → W p l e (headSpec ow_dm_X10_openingOf ({ frames := 0, cells := 0, slots := 0, locals := 0 })).room s m args below meth c H locs 0 0 Q (F0 m 27 ls [.int y0])
def dj_X10_openingOf_10 (p : Program) (l : Launch) (e : Env) (s : State) (m : MethodId) (args : Array Value) (below : List Frame) (meth : Method) (c : Code) (Q : State → Prop) (A : Nat → Prop) (dC : Nat → ClassId) (dI : Nat → Nat → Nat) (a : Nat → Nat) (ac : Nat → ClassId) (g : (St) → Option (Int32 × (St))) (r : Int32 × (St)) : Prop := ∀ (s0 : St) (H : Heap) (locs : List Loc) (ls : Array Slot), g s0 = some r → va_P (dC, dI) vwCl (dw_X10 a ac s0) H → va_D A (dw_X10 a ac s0) → va_S A s.heap H locs → lv_has ls 3 [] → W p l e (headSpec ow_dm_X10_openingOf ({ frames := 0, cells := 0, slots := 0, locals := 0 })).room s m args below meth c H locs 0 0 Q (F0 m 10 ls [])
def dj_X10_openingOf_0 (p : Program) (l : Launch) (e : Env) (s : State) (m : MethodId) (args : Array Value) (below : List Frame) (meth : Method) (c : Code) (Q : State → Prop) (A : Nat → Prop) (dC : Nat → ClassId) (dI : Nat → Nat → Nat) (a : Nat → Nat) (ac : Nat → ClassId) (g : Int32 → Int32 → (St) → Option (Int32 × (St))) (r : Int32 × (St)) : Prop := ∀ (v0 : Int32) (v1 : Int32) (s0 : St) (H : Heap) (locs : List Loc) (ls : Array Slot), g v0 v1 s0 = some r → va_P (dC, dI) vwCl (dw_X10 a ac s0) H → va_D A (dw_X10 a ac s0) → va_S A s.heap H locs → lv_has ls 3 [(0, .ref (a 0)), (1, .int v0), (2, .int v1)] → W p l e (headSpec ow_dm_X10_openingOf ({ frames := 0, cells := 0, slots := 0, locals := 0 })).room s m args below meth c H locs 0 0 Q (F0 m 0 ls [])
set_option maxHeartbeats 40000000 in
set_option maxRecDepth 100000 in
theorem db_X10_openingOf_27 {p : Program} {l : Launch} {e : Env} {s : State} {m : MethodId} {args : Array Value} {below : List Frame} {meth : Method} {c : Code} {Q : State → Prop} {A : Nat → Prop} {dC : Nat → ClassId} {dI : Nat → Nat → Nat} {a : Nat → Nat} {ac : Nat → ClassId} {n : Nat} {r : Int32 × (St)} (C : nd_C p l s m args c A (dC, dI) cX10_openingOf 3 RX10 ow_dm_X10_openingOf (dk_X10 ac)) (K : nd_Ki p l e (headSpec ow_dm_X10_openingOf ({ frames := 0, cells := 0, slots := 0, locals := 0 })).room s m args below meth c Q A (dC, dI) cX10_openingOf .int (St) (dw_X10 a ac) r) : dj_X10_openingOf_27 p l e s m args below meth c Q A dC dI a ac (df_X10_openingOf_27 n) r := by
  obtain ⟨hlt, hx, hb, hml, hown, hts, hN, hA, hK⟩ := id C
  intro y0 s0 H locs ls h hP hD hS hl
  unfold df_X10_openingOf_27 at h
  exact K _ _ _ _ _ _ dX10_openingOf_27 rfl (Option.some.inj h).symm hP hD hS
set_option maxHeartbeats 40000000 in
set_option maxRecDepth 100000 in
theorem db_X10_openingOf_10 {p : Program} {l : Launch} {e : Env} {s : State} {m : MethodId} {args : Array Value} {below : List Frame} {meth : Method} {c : Code} {Q : State → Prop} {A : Nat → Prop} {dC : Nat → ClassId} {dI : Nat → Nat → Nat} {a : Nat → Nat} {ac : Nat → ClassId} {n : Nat} {r : Int32 × (St)} (C : nd_C p l s m args c A (dC, dI) cX10_openingOf 3 RX10 ow_dm_X10_openingOf (dk_X10 ac)) (K : nd_Ki p l e (headSpec ow_dm_X10_openingOf ({ frames := 0, cells := 0, slots := 0, locals := 0 })).room s m args below meth c Q A (dC, dI) cX10_openingOf .int (St) (dw_X10 a ac) r) : dj_X10_openingOf_10 p l e s m args below meth c Q A dC dI a ac (df_X10_openingOf_10 n) r := by
  obtain ⟨hlt, hx, hb, hml, hown, hts, hN, hA, hK⟩ := id C
  intro s0 H locs ls h hP hD hS hl
  unfold df_X10_openingOf_10 at h
  refine lv_iconst (v := (-1)) hx hb dX10_openingOf_10 (by decide) ?_
  refine lv_goto (tgt := 27) hx hb dX10_openingOf_11 (by decide) ?_
  exact (db_X10_openingOf_27 C K) ((-1)) s0 _ _ _ h hP hD hS (lv_sub hl [] rfl)
set_option maxHeartbeats 40000000 in
set_option maxRecDepth 100000 in
theorem db_X10_openingOf_0 {p : Program} {l : Launch} {e : Env} {s : State} {m : MethodId} {args : Array Value} {below : List Frame} {meth : Method} {c : Code} {Q : State → Prop} {A : Nat → Prop} {dC : Nat → ClassId} {dI : Nat → Nat → Nat} {a : Nat → Nat} {ac : Nat → ClassId} {n : Nat} {r : Int32 × (St)} (C : nd_C p l s m args c A (dC, dI) cX10_openingOf 3 RX10 ow_dm_X10_openingOf (dk_X10 ac)) (K : nd_Ki p l e (headSpec ow_dm_X10_openingOf ({ frames := 0, cells := 0, slots := 0, locals := 0 })).room s m args below meth c Q A (dC, dI) cX10_openingOf .int (St) (dw_X10 a ac) r) : dj_X10_openingOf_0 p l e s m args below meth c Q A dC dI a ac (df_X10_openingOf_0 n) r := by
  obtain ⟨hlt, hx, hb, hml, hown, hts, hN, hA, hK⟩ := id C
  intro v0 v1 s0 H locs ls h hP hD hS hl
  unfold df_X10_openingOf_0 at h
  refine lv_iload_n hx hb dX10_openingOf_0 rfl (lv_at hl 2 rfl) ?_
  refine lv_if_lt (tgt := 10) hx hb dX10_openingOf_1 (by decide) (fun c1 => ?_) (fun c1 => ?_)
  · have h := nd_pos h c1
    exact (db_X10_openingOf_10 C K)  s0 _ _ _ h hP hD hS (lv_sub hl [] rfl)
  · have h := nd_neg h c1
    refine lv_iload_n hx hb dX10_openingOf_4 rfl (lv_at hl 2 rfl) ?_
    refine lv_bipush (v := 16) hx hb dX10_openingOf_5 (by decide) ?_
    refine lv_icmp_lt (tgt := 14) hx hb dX10_openingOf_7 (by decide) (fun c2 => ?_) (fun c2 => ?_)
    · have h := nd_pos h c2
      refine lv_aload_n hx hb dX10_openingOf_14 rfl (lv_at hl 0 rfl) ?_
      refine va_get (D := (dC, dI)) (ci := 11) (v := .ref (a 1)) (C := RX10) (T := TX10) (N := 11) hx hb hts hi_dm_X10_openingOf_X10 hown hK hP 0 rfl rfl 0 (by decide) (hts (.fieldLink RX10 11 "TimeMachine$Things" "link" "[I") (List.mem_of_getElem? (i := 1) rfl)) (fun _ h9 => h9) rfl dX10_openingOf_15 ?_
      refine lv_iload_n hx hb dX10_openingOf_18 rfl (lv_at hl 1 rfl) ?_
      refine lv_bipush (v := 16) hx hb dX10_openingOf_19 (by decide) ?_
      refine lv_imul hx hb dX10_openingOf_21 ?_
      refine lv_iload_n hx hb dX10_openingOf_22 rfl (lv_at hl 2 rfl) ?_
      refine lv_iadd hx hb dX10_openingOf_23 ?_
      obtain ⟨i3, h⟩ := nd_ck_e h
      refine va_iald (i := ((v0 * 16) + v1)) hx hb hK hP 1 0 rfl rfl i3 dX10_openingOf_24 ?_
      refine lv_iconst (v := 1) hx hb dX10_openingOf_25 (by decide) ?_
      refine lv_isub hx hb dX10_openingOf_26 ?_
      exact (db_X10_openingOf_27 C K) (((sR s0 0 (Int32.toNatClampNeg ((v0 * 16) + v1))) - 1)) s0 _ _ _ h hP hD hS (lv_sub hl [] rfl)
    · have h := nd_neg h c2
      exact (db_X10_openingOf_10 C K)  s0 _ _ _ h hP hD hS (lv_sub hl [] rfl)
set_option maxHeartbeats 40000000 in
set_option maxRecDepth 100000 in
theorem dm_X10_openingOf (l : Launch) (hlt : l.stackTraces = false) (dC : Nat → ClassId) (dI : Nat → Nat → Nat) (a : Nat → Nat) (ac : Nat → ClassId) (n : Nat) (v0 : Int32) (v1 : Int32) (s0 : St) {r : Int32 × (St)} (h : df_X10_openingOf n v0 v1 s0 = some r) (sz : Nat) : Met l yX10_openingOf ow_dm_X10_openingOf ({ frames := 0, cells := 0, slots := 0, locals := 0 }) (va_Pc [.ref (a 0), .int v0, .int v1] (fun U => U.heap.size = sz ∧ va_P (dC, dI) vwCl (dw_X10 a ac s0) U.heap ∧ va_K (dC, dI) vwCl (dk_X10 ac) U ∧ va_D (fun _ => True) (dw_X10 a ac s0) ∧ nv_E dI (va_A (dw_X10 a ac s0) sz) U)) (va_Qi (fun x _ => x = r.1) (fun (_ : Unit) t => va_P (dC, dI) vwCl (dw_X10 a ac r.2) t.heap ∧ va_K (dC, dI) vwCl (dk_X10 ac) t ∧ va_D (va_A (dw_X10 a ac s0) sz) (dw_X10 a ac r.2)) (va_A (dw_X10 a ac s0) sz)) 0 0 (va_A (dw_X10 a ac s0) sz) := by
  refine Met.ofW (cc := cX10_openingOf) (maxL := 3) (ret := (some .int)) (by decide) rfl ?_
  intro p e s m args below meth c s₁ B hml hv
  obtain ⟨rfl, hsz, hP, hK, hD0, hN⟩ := hv
  have hx := B.exec
  have hb := B.bytes
  have hr := B.returns
  have hts := atoms_spec (ws := ow_dm_X10_openingOf) B.pre
  have hown : s.vm.findClass RX10 = some m.cls := findClass_of_methodNamed B.named
  have hlocks := B.notSynchronized
  subst hsz
  have hD := hD0.self (sz := s.heap.size)
  generalize hAe : va_A (dw_X10 a ac s0) s.heap.size = A at hD hN ⊢
  have hA : ∀ q : Nat, s.heap.size ≤ q → A q := fun q h => by rw [← hAe]; exact Or.inr h
  have hl := lv_entry ([.ref (a 0), .int v0, .int v1]) (n := 3) (Nat.le_of_ble_eq_true rfl)
  rw [lg_entry_eq]
  generalize (lg_sl ([.ref (a 0), .int v0, .int v1]) ++ List.replicate (3 - (lg_sl ([.ref (a 0), .int v0, .int v1])).length) Slot.unset).toArray = ls at hl ⊢
  have hl : lv_has ls 3 [(0, .ref (a 0)), (1, .int v0), (2, .int v1)] := hl
  exact db_X10_openingOf_0 (dC := dC) (dI := dI) (a := a) (ac := ac) (n := n) (r := r) ⟨hlt, hx, hb, hml, hown, hts, hN, hA, hK⟩ (fun pc v τ H locs ls d z er hP hD hS => by subst er; exact W.zret (v := v) hx hb hr z (fun t ht hW => ⟨⟨v, (), rfl, rfl, by rw [ht]; exact hP, va_K.moved hW.alike hK, hD⟩, hS.F ht⟩) hS.2.2 d) v0 v1 s0 _ _ _ h hP hD va_S.rf (lv_sub hl [0, 1, 2] rfl)
def ow_dm_X10_of : List Cond := Cond.code yX10_of cX10_of 3 (some .int) :: ([Cond.fieldLink RX10 15 "TimeMachine$Things" "opening" "[I"] ++ (u_ws RX10 TX10 11 ++ []))
theorem gd_dm_X10_of : ∀ w ∈ ow_dm_X10_of, (w.onTables && w.keeps) = true ∨ ∃ ty, w = Cond.arrayClass ty := List.forall_mem_cons.mpr ⟨good_of_word rfl, List.forall_mem_append.mpr ⟨fun w h => good_of_word (List.all_eq_true.mp (by decide +kernel) w h), List.forall_mem_append.mpr ⟨gu_X10, fun _ h => nomatch h⟩⟩⟩
theorem hi_dm_X10_of_X10 : ∀ w ∈ u_ws RX10 TX10 11, w ∈ ow_dm_X10_of := fun w h => List.mem_cons_of_mem _ (List.mem_append_right _ (List.mem_append_left _ h))
def dj_X10_of_0 (p : Program) (l : Launch) (e : Env) (s : State) (m : MethodId) (args : Array Value) (below : List Frame) (meth : Method) (c : Code) (Q : State → Prop) (A : Nat → Prop) (dC : Nat → ClassId) (dI : Nat → Nat → Nat) (a : Nat → Nat) (ac : Nat → ClassId) (g : Int32 → Int32 → (St) → Option (Int32 × (St))) (r : Int32 × (St)) : Prop := ∀ (v0 : Int32) (v1 : Int32) (s0 : St) (H : Heap) (locs : List Loc) (ls : Array Slot), g v0 v1 s0 = some r → va_P (dC, dI) vwCl (dw_X10 a ac s0) H → va_D A (dw_X10 a ac s0) → va_S A s.heap H locs → lv_has ls 3 [(0, .ref (a 0)), (1, .int v0), (2, .int v1)] → W p l e (headSpec ow_dm_X10_of ({ frames := 0, cells := 0, slots := 0, locals := 0 })).room s m args below meth c H locs 0 0 Q (F0 m 0 ls [])
set_option maxHeartbeats 40000000 in
set_option maxRecDepth 100000 in
theorem db_X10_of_0 {p : Program} {l : Launch} {e : Env} {s : State} {m : MethodId} {args : Array Value} {below : List Frame} {meth : Method} {c : Code} {Q : State → Prop} {A : Nat → Prop} {dC : Nat → ClassId} {dI : Nat → Nat → Nat} {a : Nat → Nat} {ac : Nat → ClassId} {n : Nat} {r : Int32 × (St)} (C : nd_C p l s m args c A (dC, dI) cX10_of 3 RX10 ow_dm_X10_of (dk_X10 ac)) (K : nd_Ki p l e (headSpec ow_dm_X10_of ({ frames := 0, cells := 0, slots := 0, locals := 0 })).room s m args below meth c Q A (dC, dI) cX10_of .int (St) (dw_X10 a ac) r) : dj_X10_of_0 p l e s m args below meth c Q A dC dI a ac (df_X10_of_0 n) r := by
  obtain ⟨hlt, hx, hb, hml, hown, hts, hN, hA, hK⟩ := id C
  intro v0 v1 s0 H locs ls h hP hD hS hl
  unfold df_X10_of_0 at h
  refine lv_aload_n hx hb dX10_of_0 rfl (lv_at hl 0 rfl) ?_
  refine va_get (D := (dC, dI)) (ci := 11) (v := .ref (a 2)) (C := RX10) (T := TX10) (N := 11) hx hb hts hi_dm_X10_of_X10 hown hK hP 0 rfl rfl 1 (by decide) (hts (.fieldLink RX10 15 "TimeMachine$Things" "opening" "[I") (List.mem_of_getElem? (i := 1) rfl)) (fun _ h9 => h9) rfl dX10_of_1 ?_
  refine lv_iload_n hx hb dX10_of_4 rfl (lv_at hl 1 rfl) ?_
  refine lv_iconst (v := 5) hx hb dX10_of_5 (by decide) ?_
  refine lv_imul hx hb dX10_of_6 ?_
  refine lv_iload_n hx hb dX10_of_7 rfl (lv_at hl 2 rfl) ?_
  refine lv_iadd hx hb dX10_of_8 ?_
  obtain ⟨i1, h⟩ := nd_ck_e h
  refine va_iald (i := ((v0 * 5) + v1)) hx hb hK hP 2 1 rfl rfl i1 dX10_of_9 ?_
  exact K _ _ _ _ _ _ dX10_of_10 rfl (Option.some.inj h).symm hP hD hS
set_option maxHeartbeats 40000000 in
set_option maxRecDepth 100000 in
theorem dm_X10_of (l : Launch) (hlt : l.stackTraces = false) (dC : Nat → ClassId) (dI : Nat → Nat → Nat) (a : Nat → Nat) (ac : Nat → ClassId) (n : Nat) (v0 : Int32) (v1 : Int32) (s0 : St) {r : Int32 × (St)} (h : df_X10_of n v0 v1 s0 = some r) (sz : Nat) : Met l yX10_of ow_dm_X10_of ({ frames := 0, cells := 0, slots := 0, locals := 0 }) (va_Pc [.ref (a 0), .int v0, .int v1] (fun U => U.heap.size = sz ∧ va_P (dC, dI) vwCl (dw_X10 a ac s0) U.heap ∧ va_K (dC, dI) vwCl (dk_X10 ac) U ∧ va_D (fun _ => True) (dw_X10 a ac s0) ∧ nv_E dI (va_A (dw_X10 a ac s0) sz) U)) (va_Qi (fun x _ => x = r.1) (fun (_ : Unit) t => va_P (dC, dI) vwCl (dw_X10 a ac r.2) t.heap ∧ va_K (dC, dI) vwCl (dk_X10 ac) t ∧ va_D (va_A (dw_X10 a ac s0) sz) (dw_X10 a ac r.2)) (va_A (dw_X10 a ac s0) sz)) 0 0 (va_A (dw_X10 a ac s0) sz) := by
  refine Met.ofW (cc := cX10_of) (maxL := 3) (ret := (some .int)) (by decide) rfl ?_
  intro p e s m args below meth c s₁ B hml hv
  obtain ⟨rfl, hsz, hP, hK, hD0, hN⟩ := hv
  have hx := B.exec
  have hb := B.bytes
  have hr := B.returns
  have hts := atoms_spec (ws := ow_dm_X10_of) B.pre
  have hown : s.vm.findClass RX10 = some m.cls := findClass_of_methodNamed B.named
  have hlocks := B.notSynchronized
  subst hsz
  have hD := hD0.self (sz := s.heap.size)
  generalize hAe : va_A (dw_X10 a ac s0) s.heap.size = A at hD hN ⊢
  have hA : ∀ q : Nat, s.heap.size ≤ q → A q := fun q h => by rw [← hAe]; exact Or.inr h
  have hl := lv_entry ([.ref (a 0), .int v0, .int v1]) (n := 3) (Nat.le_of_ble_eq_true rfl)
  rw [lg_entry_eq]
  generalize (lg_sl ([.ref (a 0), .int v0, .int v1]) ++ List.replicate (3 - (lg_sl ([.ref (a 0), .int v0, .int v1])).length) Slot.unset).toArray = ls at hl ⊢
  have hl : lv_has ls 3 [(0, .ref (a 0)), (1, .int v0), (2, .int v1)] := hl
  exact db_X10_of_0 (dC := dC) (dI := dI) (a := a) (ac := ac) (n := n) (r := r) ⟨hlt, hx, hb, hml, hown, hts, hN, hA, hK⟩ (fun pc v τ H locs ls d z er hP hD hS => by subst er; exact W.zret (v := v) hx hb hr z (fun t ht hW => ⟨⟨v, (), rfl, rfl, by rw [ht]; exact hP, va_K.moved hW.alike hK, hD⟩, hS.F ht⟩) hS.2.2 d) v0 v1 s0 _ _ _ h hP hD va_S.rf (lv_sub hl [0, 1, 2] rfl)
def ow_dm_X10_freeLink : List Cond := Cond.code yX10_freeLink cX10_freeLink 4 (some .int) :: ([Cond.methodLink RX10 68 Lib.Math.max.name, Cond.static Lib.Math.max.name, Cond.initialized "java/lang/Math", Cond.code Lib.Math.max.name Lib.Math.max.code 2 (some .int), Cond.fieldLink RX10 11 "TimeMachine$Things" "link" "[I"] ++ (u_ws RX10 TX10 11 ++ []))
theorem gd_dm_X10_freeLink : ∀ w ∈ ow_dm_X10_freeLink, (w.onTables && w.keeps) = true ∨ ∃ ty, w = Cond.arrayClass ty := List.forall_mem_cons.mpr ⟨good_of_word rfl, List.forall_mem_append.mpr ⟨fun w h => good_of_word (List.all_eq_true.mp (by decide +kernel) w h), List.forall_mem_append.mpr ⟨gu_X10, fun _ h => nomatch h⟩⟩⟩
theorem hi_dm_X10_freeLink_X10 : ∀ w ∈ u_ws RX10 TX10 11, w ∈ ow_dm_X10_freeLink := fun w h => List.mem_cons_of_mem _ (List.mem_append_right _ (List.mem_append_left _ h))
def dj_X10_freeLink_6 (p : Program) (l : Launch) (e : Env) (s : State) (m : MethodId) (args : Array Value) (below : List Frame) (meth : Method) (c : Code) (Q : State → Prop) (A : Nat → Prop) (dC : Nat → ClassId) (dI : Nat → Nat → Nat) (a : Nat → Nat) (ac : Nat → ClassId) (g : Int32 → Int32 → (St) → Option (Int32 × (St))) (r : Int32 × (St)) : Prop := ∀ (x1 : Int32) (x3 : Int32) (s0 : St) (H : Heap) (locs : List Loc) (ls : Array Slot), g x1 x3 s0 = some r → va_P (dC, dI) vwCl (dw_X10 a ac s0) H → va_D A (dw_X10 a ac s0) → va_S A s.heap H locs → lv_has ls 4 [(0, .ref (a 0)), (1, .int x1), (3, .int x3)] → W p l e (headSpec ow_dm_X10_freeLink ({ frames := 1, cells := 0, slots := 0, locals := 13 })).room s m args below meth c H locs 0 0 Q (F0 m 6 ls [])
def dj_X10_freeLink_0 (p : Program) (l : Launch) (e : Env) (s : State) (m : MethodId) (args : Array Value) (below : List Frame) (meth : Method) (c : Code) (Q : State → Prop) (A : Nat → Prop) (dC : Nat → ClassId) (dI : Nat → Nat → Nat) (a : Nat → Nat) (ac : Nat → ClassId) (g : Int32 → Int32 → (St) → Option (Int32 × (St))) (r : Int32 × (St)) : Prop := ∀ (v0 : Int32) (v1 : Int32) (s0 : St) (H : Heap) (locs : List Loc) (ls : Array Slot), g v0 v1 s0 = some r → va_P (dC, dI) vwCl (dw_X10 a ac s0) H → va_D A (dw_X10 a ac s0) → va_S A s.heap H locs → lv_has ls 4 [(0, .ref (a 0)), (1, .int v0), (2, .int v1)] → W p l e (headSpec ow_dm_X10_freeLink ({ frames := 1, cells := 0, slots := 0, locals := 13 })).room s m args below meth c H locs 0 0 Q (F0 m 0 ls [])
set_option maxHeartbeats 40000000 in
set_option maxRecDepth 100000 in
theorem dB_X10_freeLink_6 {p : Program} {l : Launch} {e : Env} {s : State} {m : MethodId} {args : Array Value} {below : List Frame} {meth : Method} {c : Code} {Q : State → Prop} {A : Nat → Prop} {dC : Nat → ClassId} {dI : Nat → Nat → Nat} {a : Nat → Nat} {ac : Nat → ClassId} {n : Nat} {r : Int32 × (St)} (C : nd_C p l s m args c A (dC, dI) cX10_freeLink 4 RX10 ow_dm_X10_freeLink (dk_X10 ac)) (K : nd_Ki p l e (headSpec ow_dm_X10_freeLink ({ frames := 1, cells := 0, slots := 0, locals := 13 })).room s m args below meth c Q A (dC, dI) cX10_freeLink .int (St) (dw_X10 a ac) r) {g6 : Int32 → Int32 → (St) → Option (Int32 × (St))} (J6 : dj_X10_freeLink_6 p l e s m args below meth c Q A dC dI a ac g6 r) : dj_X10_freeLink_6 p l e s m args below meth c Q A dC dI a ac (dF_X10_freeLink_6 n g6) r := by
  obtain ⟨hlt, hx, hb, hml, hown, hts, hN, hA, hK⟩ := id C
  intro x1 x3 s0 H locs ls h hP hD hS hl
  unfold dF_X10_freeLink_6 at h
  refine lv_iload_n hx hb dX10_freeLink_6 rfl (lv_at hl 2 rfl) ?_
  refine lv_bipush (v := 16) hx hb dX10_freeLink_7 (by decide) ?_
  refine lv_icmp_ge (tgt := 34) hx hb dX10_freeLink_9 (by decide) (fun c2 => ?_) (fun c2 => ?_)
  · have h := nd_pos h c2
    refine lv_iconst (v := (-1)) hx hb dX10_freeLink_34 (by decide) ?_
    exact K _ _ _ _ _ _ dX10_freeLink_35 rfl (Option.some.inj h).symm hP hD hS
  · have h := nd_neg h c2
    refine lv_aload_n hx hb dX10_freeLink_12 rfl (lv_at hl 0 rfl) ?_
    refine va_get (D := (dC, dI)) (ci := 11) (v := .ref (a 1)) (C := RX10) (T := TX10) (N := 11) hx hb hts hi_dm_X10_freeLink_X10 hown hK hP 0 rfl rfl 0 (by decide) (hts (.fieldLink RX10 11 "TimeMachine$Things" "link" "[I") (List.mem_of_getElem? (i := 5) rfl)) (fun _ h9 => h9) rfl dX10_freeLink_13 ?_
    refine lv_iload_n hx hb dX10_freeLink_16 rfl (lv_at hl 1 rfl) ?_
    refine lv_bipush (v := 16) hx hb dX10_freeLink_17 (by decide) ?_
    refine lv_imul hx hb dX10_freeLink_19 ?_
    refine lv_iload_n hx hb dX10_freeLink_20 rfl (lv_at hl 2 rfl) ?_
    refine lv_iadd hx hb dX10_freeLink_21 ?_
    obtain ⟨i3, h⟩ := nd_ck_e h
    refine va_iald (i := ((x1 * 16) + x3)) hx hb hK hP 1 0 rfl rfl i3 dX10_freeLink_22 ?_
    refine lv_if_ne (tgt := 28) hx hb dX10_freeLink_23 (by decide) (fun c4 => ?_) (fun c4 => ?_)
    · have h := nd_neg h c4
      obtain ⟨z5, ez5, h⟩ := nd_let_e h
      refine lv_iinc (v := z5) (lv' := [(3, .int z5), (0, .ref (a 0)), (1, .int x1)]) hx hb dX10_freeLink_28 hl (k := 2) rfl (by rw [ez5]) (by decide) rfl (fun ls hl => ?_)
      refine lv_goto (tgt := 6) hx hb dX10_freeLink_31 (by decide) ?_
      exact (J6) (x1) (z5) s0 _ _ _ h hP hD hS (lv_sub hl [1, 2, 0] rfl)
    · have h := nd_pos h c4
      refine lv_iload_n hx hb dX10_freeLink_26 rfl (lv_at hl 2 rfl) ?_
      exact K _ _ _ _ _ _ dX10_freeLink_27 rfl (Option.some.inj h).symm hP hD hS
set_option maxHeartbeats 40000000 in
set_option maxRecDepth 100000 in
theorem db_X10_freeLink_6 {p : Program} {l : Launch} {e : Env} {s : State} {m : MethodId} {args : Array Value} {below : List Frame} {meth : Method} {c : Code} {Q : State → Prop} {A : Nat → Prop} {dC : Nat → ClassId} {dI : Nat → Nat → Nat} {a : Nat → Nat} {ac : Nat → ClassId} {n : Nat} {r : Int32 × (St)} (C : nd_C p l s m args c A (dC, dI) cX10_freeLink 4 RX10 ow_dm_X10_freeLink (dk_X10 ac)) (K : nd_Ki p l e (headSpec ow_dm_X10_freeLink ({ frames := 1, cells := 0, slots := 0, locals := 13 })).room s m args below meth c Q A (dC, dI) cX10_freeLink .int (St) (dw_X10 a ac) r) (k : Nat) : dj_X10_freeLink_6 p l e s m args below meth c Q A dC dI a ac (df_X10_freeLink_6 n k) r := by
  induction k with
  | zero => intro x1 x3 s0 H locs ls h; exact nomatch (show (none : Option (Int32 × (St))) = some r from h)
  | succ k ih => exact dB_X10_freeLink_6 C K ih
set_option maxHeartbeats 40000000 in
set_option maxRecDepth 100000 in
theorem db_X10_freeLink_0 {p : Program} {l : Launch} {e : Env} {s : State} {m : MethodId} {args : Array Value} {below : List Frame} {meth : Method} {c : Code} {Q : State → Prop} {A : Nat → Prop} {dC : Nat → ClassId} {dI : Nat → Nat → Nat} {a : Nat → Nat} {ac : Nat → ClassId} {n : Nat} {r : Int32 × (St)} (C : nd_C p l s m args c A (dC, dI) cX10_freeLink 4 RX10 ow_dm_X10_freeLink (dk_X10 ac)) (K : nd_Ki p l e (headSpec ow_dm_X10_freeLink ({ frames := 1, cells := 0, slots := 0, locals := 13 })).room s m args below meth c Q A (dC, dI) cX10_freeLink .int (St) (dw_X10 a ac) r) : dj_X10_freeLink_0 p l e s m args below meth c Q A dC dI a ac (df_X10_freeLink_0 n) r := by
  obtain ⟨hlt, hx, hb, hml, hown, hts, hN, hA, hK⟩ := id C
  intro v0 v1 s0 H locs ls h hP hD hS hl
  unfold df_X10_freeLink_0 at h
  refine lv_iconst (v := 0) hx hb dX10_freeLink_0 (by decide) ?_
  refine lv_iload_n hx hb dX10_freeLink_1 rfl (lv_at hl 2 rfl) ?_
  refine va_mmax hx hb (by rw [hml]; exact hl.1.symm) hown (hts (.methodLink RX10 68 Lib.Math.max.name) (List.mem_of_getElem? (i := 1) rfl)) (hts (.static Lib.Math.max.name) (List.mem_of_getElem? (i := 2) rfl)) (hts (.initialized "java/lang/Math") (List.mem_of_getElem? (i := 3) rfl)) (hts (.code Lib.Math.max.name Lib.Math.max.code 2 (some .int)) (List.mem_of_getElem? (i := 4) rfl)) (Nat.le_of_ble_eq_true rfl) (Nat.le_of_ble_eq_true rfl) (by decide +kernel) (by decide +kernel) dX10_freeLink_2 ?_
  refine lv_topi (fun z1 ez1 => ?_)
  have h := nd_at h ez1
  refine lv_istore_n (lv' := [(3, .int z1), (0, .ref (a 0)), (1, .int v0), (2, .int v1)]) hx hb dX10_freeLink_5 rfl hl (by decide) rfl (fun ls hl => ?_)
  exact (db_X10_freeLink_6 C K n) (v0) (z1) s0 _ _ _ h hP hD hS (lv_sub hl [1, 2, 0] rfl)
set_option maxHeartbeats 40000000 in
set_option maxRecDepth 100000 in
theorem dm_X10_freeLink (l : Launch) (hlt : l.stackTraces = false) (dC : Nat → ClassId) (dI : Nat → Nat → Nat) (a : Nat → Nat) (ac : Nat → ClassId) (n : Nat) (v0 : Int32) (v1 : Int32) (s0 : St) {r : Int32 × (St)} (h : df_X10_freeLink n v0 v1 s0 = some r) (sz : Nat) : Met l yX10_freeLink ow_dm_X10_freeLink ({ frames := 1, cells := 0, slots := 0, locals := 13 }) (va_Pc [.ref (a 0), .int v0, .int v1] (fun U => U.heap.size = sz ∧ va_P (dC, dI) vwCl (dw_X10 a ac s0) U.heap ∧ va_K (dC, dI) vwCl (dk_X10 ac) U ∧ va_D (fun _ => True) (dw_X10 a ac s0) ∧ nv_E dI (va_A (dw_X10 a ac s0) sz) U)) (va_Qi (fun x _ => x = r.1) (fun (_ : Unit) t => va_P (dC, dI) vwCl (dw_X10 a ac r.2) t.heap ∧ va_K (dC, dI) vwCl (dk_X10 ac) t ∧ va_D (va_A (dw_X10 a ac s0) sz) (dw_X10 a ac r.2)) (va_A (dw_X10 a ac s0) sz)) 0 0 (va_A (dw_X10 a ac s0) sz) := by
  refine Met.ofW (cc := cX10_freeLink) (maxL := 4) (ret := (some .int)) (by decide) rfl ?_
  intro p e s m args below meth c s₁ B hml hv
  obtain ⟨rfl, hsz, hP, hK, hD0, hN⟩ := hv
  have hx := B.exec
  have hb := B.bytes
  have hr := B.returns
  have hts := atoms_spec (ws := ow_dm_X10_freeLink) B.pre
  have hown : s.vm.findClass RX10 = some m.cls := findClass_of_methodNamed B.named
  have hlocks := B.notSynchronized
  subst hsz
  have hD := hD0.self (sz := s.heap.size)
  generalize hAe : va_A (dw_X10 a ac s0) s.heap.size = A at hD hN ⊢
  have hA : ∀ q : Nat, s.heap.size ≤ q → A q := fun q h => by rw [← hAe]; exact Or.inr h
  have hl := lv_entry ([.ref (a 0), .int v0, .int v1]) (n := 4) (Nat.le_of_ble_eq_true rfl)
  rw [lg_entry_eq]
  generalize (lg_sl ([.ref (a 0), .int v0, .int v1]) ++ List.replicate (4 - (lg_sl ([.ref (a 0), .int v0, .int v1])).length) Slot.unset).toArray = ls at hl ⊢
  have hl : lv_has ls 4 [(0, .ref (a 0)), (1, .int v0), (2, .int v1)] := hl
  exact db_X10_freeLink_0 (dC := dC) (dI := dI) (a := a) (ac := ac) (n := n) (r := r) ⟨hlt, hx, hb, hml, hown, hts, hN, hA, hK⟩ (fun pc v τ H locs ls d z er hP hD hS => by subst er; exact W.zret (v := v) hx hb hr z (fun t ht hW => ⟨⟨v, (), rfl, rfl, by rw [ht]; exact hP, va_K.moved hW.alike hK, hD⟩, hS.F ht⟩) hS.2.2 d) v0 v1 s0 _ _ _ h hP hD va_S.rf (lv_sub hl [0, 1, 2] rfl)
def ow_dm_X10_openingsFree : List Cond := Cond.code yX10_openingsFree cX10_openingsFree 3 (some .int) :: ([Cond.methodLink RX10 74 yX10_of, Cond.instanceMethod yX10_of, Cond.selects RX10 yX10_of yX10_of, Cond.initialized RX10] ++ (ow_dm_X10_of ++ []))
theorem gd_dm_X10_openingsFree : ∀ w ∈ ow_dm_X10_openingsFree, (w.onTables && w.keeps) = true ∨ ∃ ty, w = Cond.arrayClass ty := List.forall_mem_cons.mpr ⟨good_of_word rfl, List.forall_mem_append.mpr ⟨fun w h => good_of_word (List.all_eq_true.mp (by decide +kernel) w h), List.forall_mem_append.mpr ⟨gd_dm_X10_of, fun _ h => nomatch h⟩⟩⟩
theorem gi_dm_X10_openingsFree_0 : GoodIn ow_dm_X10_openingsFree (wsV RX10 74 RX10 yX10_of ow_dm_X10_of) := goodIn_app (goodIn_of _ (by decide +kernel)) (fun w h => ⟨List.mem_cons_of_mem _ (List.mem_append_right _ (List.mem_append_left _ h)), gd_dm_X10_of w h⟩)
def dj_X10_openingsFree_22 (p : Program) (l : Launch) (e : Env) (s : State) (m : MethodId) (args : Array Value) (below : List Frame) (meth : Method) (c : Code) (Q : State → Prop) (A : Nat → Prop) (dC : Nat → ClassId) (dI : Nat → Nat → Nat) (a : Nat → Nat) (ac : Nat → ClassId) (g : Int32 → Int32 → (St) → Option (Int32 × (St))) (r : Int32 × (St)) : Prop := ∀ (x1 : Int32) (x2 : Int32) (s0 : St) (H : Heap) (locs : List Loc) (ls : Array Slot), g x1 x2 s0 = some r → va_P (dC, dI) vwCl (dw_X10 a ac s0) H → va_D A (dw_X10 a ac s0) → va_S A s.heap H locs → lv_has ls 3 [(0, .ref (a 0)), (1, .int x1), (2, .int x2)] → W p l e (headSpec ow_dm_X10_openingsFree ({ frames := 1, cells := 0, slots := 0, locals := 22 })).room s m args below meth c H locs 0 0 Q (F0 m 22 ls [])
def dj_X10_openingsFree_4 (p : Program) (l : Launch) (e : Env) (s : State) (m : MethodId) (args : Array Value) (below : List Frame) (meth : Method) (c : Code) (Q : State → Prop) (A : Nat → Prop) (dC : Nat → ClassId) (dI : Nat → Nat → Nat) (a : Nat → Nat) (ac : Nat → ClassId) (g : Int32 → Int32 → (St) → Option (Int32 × (St))) (r : Int32 × (St)) : Prop := ∀ (x1 : Int32) (x2 : Int32) (s0 : St) (H : Heap) (locs : List Loc) (ls : Array Slot), g x1 x2 s0 = some r → va_P (dC, dI) vwCl (dw_X10 a ac s0) H → va_D A (dw_X10 a ac s0) → va_S A s.heap H locs → lv_has ls 3 [(0, .ref (a 0)), (1, .int x1), (2, .int x2)] → W p l e (headSpec ow_dm_X10_openingsFree ({ frames := 1, cells := 0, slots := 0, locals := 22 })).room s m args below meth c H locs 0 0 Q (F0 m 4 ls [])
def dj_X10_openingsFree_0 (p : Program) (l : Launch) (e : Env) (s : State) (m : MethodId) (args : Array Value) (below : List Frame) (meth : Method) (c : Code) (Q : State → Prop) (A : Nat → Prop) (dC : Nat → ClassId) (dI : Nat → Nat → Nat) (a : Nat → Nat) (ac : Nat → ClassId) (g : (St) → Option (Int32 × (St))) (r : Int32 × (St)) : Prop := ∀ (s0 : St) (H : Heap) (locs : List Loc) (ls : Array Slot), g s0 = some r → va_P (dC, dI) vwCl (dw_X10 a ac s0) H → va_D A (dw_X10 a ac s0) → va_S A s.heap H locs → lv_has ls 3 [(0, .ref (a 0))] → W p l e (headSpec ow_dm_X10_openingsFree ({ frames := 1, cells := 0, slots := 0, locals := 22 })).room s m args below meth c H locs 0 0 Q (F0 m 0 ls [])


/-! THE LAW: one call -/
theorem lg_self (z : Int64) : lg_cmp z z = 0 := by
  unfold lg_cmp
  rw [if_neg (fun h => Int64.lt_irrefl h), if_pos rfl]
theorem thr_ct {E : En} {h : Hp} {A γ : Nat → Nat} {s : Sv} {i : Nat} (L : LI h A γ s i) : CR E m_MO_thrown [.ref (A 8)] h (some (.int (hI h (A 8) 17))) h := by
  obtain ⟨nw, sc, ni, U, b, sp, B, d, -, -, -, -, -, hG, -, -⟩ := L.now
  obtain ⟨mo, e1, e2, e3⟩ := L.mform d hG.1.2.1 hG.1.2.2.2.1
  have k := cm_MO_thrown (E := E) (c := hI h (A 8)) (g := hI h (A 7)) (B := B) (R := []) mo L.1.2.2.1.nd2 hG.1.2.1 hG.1.2.2.2.1
  rw [e3] at k
  exact k
theorem code0 {code : Nat} (h : code ≤ 2) (c : nI code = 0) : code = 0 := nI_inj (b := 0) (by omega) (by decide) c
theorem z_vp {h : Hp} {a : Nat} (l : hL h a = 1) : vp_in 0 (hL h a) := by rw [l]; exact vp_in_nI (n := 0) (N := 1) (by decide) (by decide)
theorem lc_0 {E : En} {h : Hp} {A : Nat → Nat} {j c k n : Nat} {PP : Option Value → Hp → Prop} {X : String → Hp → Prop} (hl : eXl E < 2 ^ 31) (hj : j + 5 < eXl E) (a : AnsW E m_LW_append m_MO_append fI [.int (eXs E (j + 1)), .int (eXs E (j + 2)), .int (eXs E (j + 3)), .int (eXs E (j + 4)), .int (eXs E (j + 5))] h A c) (kk : ∀ h1, LOK h1 A (c + 1) → G E m_LAW 3284 [(4, .int (nI j)), (3, .ref (A 0)), (2, .ref (A 8)), (1, .ref (A 22)), (0, .ref (eXa E))] [] h1 k n PP X) : G E m_LAW 312 [(4, .int (nI j)), (3, .ref (A 0)), (2, .ref (A 8)), (1, .ref (A 22)), (0, .ref (eXa E))] [] h (k + 11) (n + 156) PP X := by
  refine g_aload_n (pc := 312) d_LAW_312 rfl 3 rfl ?_
  refine g_aload_n (pc := 313) d_LAW_313 rfl 4 rfl ?_
  refine g_iload (pc := 314) d_LAW_314 0 rfl ?_
  refine g_iconst (pc := 316) (v := 1) d_LAW_316 (by decide) ?_
  refine g_iadd (pc := 317) d_LAW_317 ?_
  refine g_top (y := nI (j + 1)) (nI_add j 1) ?_
  refine g_sld (pc := 318) (j := j + 1) (by omega) hl d_LAW_318 ?_
  refine g_aload_n (pc := 319) d_LAW_319 rfl 4 rfl ?_
  refine g_iload (pc := 320) d_LAW_320 0 rfl ?_
  refine g_iconst (pc := 322) (v := 2) d_LAW_322 (by decide) ?_
  refine g_iadd (pc := 323) d_LAW_323 ?_
  refine g_top (y := nI (j + 2)) (nI_add j 2) ?_
  refine g_sld (pc := 324) (j := j + 2) (by omega) hl d_LAW_324 ?_
  refine g_aload_n (pc := 325) d_LAW_325 rfl 4 rfl ?_
  refine g_iload (pc := 326) d_LAW_326 0 rfl ?_
  refine g_iconst (pc := 328) (v := 3) d_LAW_328 (by decide) ?_
  refine g_iadd (pc := 329) d_LAW_329 ?_
  refine g_top (y := nI (j + 3)) (nI_add j 3) ?_
  refine g_sld (pc := 330) (j := j + 3) (by omega) hl d_LAW_330 ?_
  refine g_aload_n (pc := 331) d_LAW_331 rfl 4 rfl ?_
  refine g_iload (pc := 332) d_LAW_332 0 rfl ?_
  refine g_iconst (pc := 334) (v := 4) d_LAW_334 (by decide) ?_
  refine g_iadd (pc := 335) d_LAW_335 ?_
  refine g_top (y := nI (j + 4)) (nI_add j 4) ?_
  refine g_sld (pc := 336) (j := j + 4) (by omega) hl d_LAW_336 ?_
  refine g_aload_n (pc := 337) d_LAW_337 rfl 4 rfl ?_
  refine g_iload (pc := 338) d_LAW_338 0 rfl ?_
  refine g_iconst (pc := 340) (v := 5) d_LAW_340 (by decide) ?_
  refine g_iadd (pc := 341) d_LAW_341 ?_
  refine g_top (y := nI (j + 5)) (nI_add j 5) ?_
  refine g_sld (pc := 342) (j := j + 5) (by omega) hl d_LAW_342 ?_
  refine g_aload_n (pc := 343) d_LAW_343 rfl 1 rfl ?_
  refine g_callSX (k := k) (n := n) (kz := 11) (nz := 156) (pc := 344) (As := [.ref _, .int _, .int _, .int _, .int _, .int _, .ref _]) d_LAW_344 rfl mx_LW_append st_LAW_165 rfl rfl (Nat.le_of_ble_eq_true rfl) a (fun _ _ z => z.elim) (fun v h1 z => ?_)
  obtain ⟨code, z, hcd, rfl, km, hz, hm⟩ := z
  refine g_istore (pc := 347) (lv' := [(5, .int (nI code)), (4, .int (nI j)), (3, .ref (A 0)), (2, .ref (A 8)), (1, .ref (A 22)), (0, .ref (eXa E))]) d_LAW_347 (by decide) rfl ?_
  refine g_aload_n (pc := 349) d_LAW_349 rfl 3 rfl ?_
  refine g_aload_n (pc := 350) d_LAW_350 rfl 5 rfl ?_
  refine g_iload (pc := 351) d_LAW_351 1 rfl ?_
  refine g_iconst (pc := 353) (v := 1) d_LAW_353 (by decide) ?_
  refine g_iadd (pc := 354) d_LAW_354 ?_
  refine g_top (y := nI (j + 1)) (nI_add j 1) ?_
  refine g_sld (pc := 355) (j := j + 1) (by omega) hl d_LAW_355 ?_
  refine g_aload_n (pc := 356) d_LAW_356 rfl 5 rfl ?_
  refine g_iload (pc := 357) d_LAW_357 1 rfl ?_
  refine g_iconst (pc := 359) (v := 2) d_LAW_359 (by decide) ?_
  refine g_iadd (pc := 360) d_LAW_360 ?_
  refine g_top (y := nI (j + 2)) (nI_add j 2) ?_
  refine g_sld (pc := 361) (j := j + 2) (by omega) hl d_LAW_361 ?_
  refine g_aload_n (pc := 362) d_LAW_362 rfl 5 rfl ?_
  refine g_iload (pc := 363) d_LAW_363 1 rfl ?_
  refine g_iconst (pc := 365) (v := 3) d_LAW_365 (by decide) ?_
  refine g_iadd (pc := 366) d_LAW_366 ?_
  refine g_top (y := nI (j + 3)) (nI_add j 3) ?_
  refine g_sld (pc := 367) (j := j + 3) (by omega) hl d_LAW_367 ?_
  refine g_aload_n (pc := 368) d_LAW_368 rfl 5 rfl ?_
  refine g_iload (pc := 369) d_LAW_369 1 rfl ?_
  refine g_iconst (pc := 371) (v := 4) d_LAW_371 (by decide) ?_
  refine g_iadd (pc := 372) d_LAW_372 ?_
  refine g_top (y := nI (j + 4)) (nI_add j 4) ?_
  refine g_sld (pc := 373) (j := j + 4) (by omega) hl d_LAW_373 ?_
  refine g_aload_n (pc := 374) d_LAW_374 rfl 5 rfl ?_
  refine g_iload (pc := 375) d_LAW_375 1 rfl ?_
  refine g_iconst (pc := 377) (v := 5) d_LAW_377 (by decide) ?_
  refine g_iadd (pc := 378) d_LAW_378 ?_
  refine g_top (y := nI (j + 5)) (nI_add j 5) ?_
  refine g_sld (pc := 379) (j := j + 5) (by omega) hl d_LAW_379 ?_
  refine g_callV (k := k) (n := n) (kz := 0) (nz := 0) (pc := 380) (ci := 7) (As := [.int _, .int _, .int _, .int _, .int _]) d_LAW_380 rfl mv_MO_append st_LAW_170 rfl rfl (by decide) km rfl rfl (Nat.le_of_ble_eq_true rfl) hm (fun _ _ z => z.elim) (fun v h2 z => ?_)
  obtain ⟨yv, rfl, e17, hf, eJ, γ', s', L'⟩ := z
  refine g_istore (pc := 383) (lv' := [(6, .int yv), (5, .int (nI code)), (4, .int (nI j)), (3, .ref (A 0)), (2, .ref (A 8)), (1, .ref (A 22)), (0, .ref (eXa E))]) d_LAW_383 (by decide) rfl ?_
  refine g_aload_n (pc := 385) d_LAW_385 rfl 4 rfl ?_
  refine g_cV1 (pc := 386) (ci := 7) (As := []) d_LAW_386 rfl mv_MO_thrown st_LAW_171 rfl rfl (by decide) rfl rfl (Nat.le_of_ble_eq_true rfl) L'.1.2.1.1.1 (thr_ct L') ?_
  refine g_top e17 ?_
  refine g_iload (pc := 389) d_LAW_389 1 rfl ?_
  refine g_icmp_eq (pc := 391) (tgt := 396) d_LAW_391 (by decide) (fun _ => ?_) (fun q => absurd rfl q)
  refine g_iload (pc := 396) d_LAW_396 1 rfl ?_
  refine g_if_ne (pc := 398) (tgt := 413) d_LAW_398 (by decide) (fun q => ?_) (fun q => ?_)
  · skip
    refine g_goto (pc := 413) (tgt := 3284) d_LAW_413 (by decide) ?_
    refine g_perm [2, 3, 4, 5, 6] rfl ?_
    exact kk _ ⟨γ', s', L'⟩
  · have c0 := code0 hcd q
    refine g_aload_n (pc := 401) d_LAW_401 rfl 3 rfl ?_
    refine g_iconst (pc := 402) (v := 0) d_LAW_402 (by decide) ?_
    refine g_laload (pc := 403) d_LAW_403 L'.1.2.1.2.2.2.1 (z_vp L'.1.2.1.2.2.2.2) ?_
    refine g_iload (pc := 404) d_LAW_404 0 rfl ?_
    refine g_i2l (pc := 406) d_LAW_406 ?_
    refine g_lcmp (pc := 407) d_LAW_407 ?_
    refine g_top (y := 0) (by
      show lg_cmp (hJ h2 (A 0) 0) yv.toInt64 = 0
      rw [eJ, hz c0, ← hf c0]
      exact lg_self _) ?_
    refine g_if_eq (pc := 408) (tgt := 413) d_LAW_408 (by decide) (fun _ => ?_) (fun q => absurd rfl q)
    refine g_goto (pc := 413) (tgt := 3284) d_LAW_413 (by decide) ?_
    refine g_perm [2, 3, 4, 5, 6] rfl ?_
    exact kk _ ⟨γ', s', L'⟩
theorem lc_1 {E : En} {h : Hp} {A : Nat → Nat} {j c k n : Nat} {PP : Option Value → Hp → Prop} {X : String → Hp → Prop} (hl : eXl E < 2 ^ 31) (hj : j + 5 < eXl E) (a : AnsW E m_LW_truncate m_MO_truncate fI [.int (eXs E (j + 1))] h A c) (kk : ∀ h1, LOK h1 A (c + 1) → G E m_LAW 3284 [(4, .int (nI j)), (3, .ref (A 0)), (2, .ref (A 8)), (1, .ref (A 22)), (0, .ref (eXa E))] [] h1 k n PP X) : G E m_LAW 416 [(4, .int (nI j)), (3, .ref (A 0)), (2, .ref (A 8)), (1, .ref (A 22)), (0, .ref (eXa E))] [] h (k + 11) (n + 156) PP X := by
  refine g_aload_n (pc := 416) d_LAW_416 rfl 3 rfl ?_
  refine g_aload_n (pc := 417) d_LAW_417 rfl 4 rfl ?_
  refine g_iload (pc := 418) d_LAW_418 0 rfl ?_
  refine g_iconst (pc := 420) (v := 1) d_LAW_420 (by decide) ?_
  refine g_iadd (pc := 421) d_LAW_421 ?_
  refine g_top (y := nI (j + 1)) (nI_add j 1) ?_
  refine g_sld (pc := 422) (j := j + 1) (by omega) hl d_LAW_422 ?_
  refine g_aload_n (pc := 423) d_LAW_423 rfl 1 rfl ?_
  refine g_callSX (k := k) (n := n) (kz := 11) (nz := 156) (pc := 424) (As := [.ref _, .int _, .ref _]) d_LAW_424 rfl mx_LW_truncate st_LAW_174 rfl rfl (Nat.le_of_ble_eq_true rfl) a (fun _ _ z => z.elim) (fun v h1 z => ?_)
  obtain ⟨code, z, hcd, rfl, km, hz, hm⟩ := z
  refine g_istore (pc := 427) (lv' := [(5, .int (nI code)), (4, .int (nI j)), (3, .ref (A 0)), (2, .ref (A 8)), (1, .ref (A 22)), (0, .ref (eXa E))]) d_LAW_427 (by decide) rfl ?_
  refine g_aload_n (pc := 429) d_LAW_429 rfl 3 rfl ?_
  refine g_aload_n (pc := 430) d_LAW_430 rfl 5 rfl ?_
  refine g_iload (pc := 431) d_LAW_431 1 rfl ?_
  refine g_iconst (pc := 433) (v := 1) d_LAW_433 (by decide) ?_
  refine g_iadd (pc := 434) d_LAW_434 ?_
  refine g_top (y := nI (j + 1)) (nI_add j 1) ?_
  refine g_sld (pc := 435) (j := j + 1) (by omega) hl d_LAW_435 ?_
  refine g_callV (k := k) (n := n) (kz := 0) (nz := 0) (pc := 436) (ci := 7) (As := [.int _]) d_LAW_436 rfl mv_MO_truncate st_LAW_177 rfl rfl (by decide) km rfl rfl (Nat.le_of_ble_eq_true rfl) hm (fun _ _ z => z.elim) (fun v h2 z => ?_)
  obtain ⟨yv, rfl, e17, hf, eJ, γ', s', L'⟩ := z
  refine g_istore (pc := 439) (lv' := [(6, .int yv), (5, .int (nI code)), (4, .int (nI j)), (3, .ref (A 0)), (2, .ref (A 8)), (1, .ref (A 22)), (0, .ref (eXa E))]) d_LAW_439 (by decide) rfl ?_
  refine g_aload_n (pc := 441) d_LAW_441 rfl 4 rfl ?_
  refine g_cV1 (pc := 442) (ci := 7) (As := []) d_LAW_442 rfl mv_MO_thrown st_LAW_171 rfl rfl (by decide) rfl rfl (Nat.le_of_ble_eq_true rfl) L'.1.2.1.1.1 (thr_ct L') ?_
  refine g_top e17 ?_
  refine g_iload (pc := 445) d_LAW_445 1 rfl ?_
  refine g_icmp_eq (pc := 447) (tgt := 452) d_LAW_447 (by decide) (fun _ => ?_) (fun q => absurd rfl q)
  refine g_iload (pc := 452) d_LAW_452 1 rfl ?_
  refine g_if_ne (pc := 454) (tgt := 469) d_LAW_454 (by decide) (fun q => ?_) (fun q => ?_)
  · skip
    refine g_goto (pc := 469) (tgt := 3284) d_LAW_469 (by decide) ?_
    refine g_perm [2, 3, 4, 5, 6] rfl ?_
    exact kk _ ⟨γ', s', L'⟩
  · have c0 := code0 hcd q
    refine g_aload_n (pc := 457) d_LAW_457 rfl 3 rfl ?_
    refine g_iconst (pc := 458) (v := 0) d_LAW_458 (by decide) ?_
    refine g_laload (pc := 459) d_LAW_459 L'.1.2.1.2.2.2.1 (z_vp L'.1.2.1.2.2.2.2) ?_
    refine g_iload (pc := 460) d_LAW_460 0 rfl ?_
    refine g_i2l (pc := 462) d_LAW_462 ?_
    refine g_lcmp (pc := 463) d_LAW_463 ?_
    refine g_top (y := 0) (by
      show lg_cmp (hJ h2 (A 0) 0) yv.toInt64 = 0
      rw [eJ, hz c0, ← hf c0]
      exact lg_self _) ?_
    refine g_if_eq (pc := 464) (tgt := 469) d_LAW_464 (by decide) (fun _ => ?_) (fun q => absurd rfl q)
    refine g_goto (pc := 469) (tgt := 3284) d_LAW_469 (by decide) ?_
    refine g_perm [2, 3, 4, 5, 6] rfl ?_
    exact kk _ ⟨γ', s', L'⟩
theorem lc_2 {E : En} {h : Hp} {A : Nat → Nat} {j c k n : Nat} {PP : Option Value → Hp → Prop} {X : String → Hp → Prop} (hl : eXl E < 2 ^ 31) (hj : j + 5 < eXl E) (k_x : hK h (A 22) = 1) (a : AnsD E m_HS_errorCode m_MO_errorCode [] h A c) (kk : ∀ h1, LOK h1 A (c + 1) → G E m_LAW 3284 [(4, .int (nI j)), (3, .ref (A 0)), (2, .ref (A 8)), (1, .ref (A 22)), (0, .ref (eXa E))] [] h1 k n PP X) : G E m_LAW 472 [(4, .int (nI j)), (3, .ref (A 0)), (2, .ref (A 8)), (1, .ref (A 22)), (0, .ref (eXa E))] [] h k n PP X := by
  refine g_aload_n (pc := 472) d_LAW_472 rfl 3 rfl ?_
  refine g_callV (k := k) (n := n) (kz := 0) (nz := 0) (pc := 473) (ci := 0) (As := []) d_LAW_473 rfl mv_HS_errorCode st_LAW_178 rfl rfl (by decide) k_x rfl rfl (Nat.le_of_ble_eq_true rfl) a (fun _ _ z => z.elim) (fun v h1 z => ?_)
  obtain ⟨z9, rfl, km, hm⟩ := z
  refine g_aload_n (pc := 476) d_LAW_476 rfl 2 rfl ?_
  refine g_callV (k := k) (n := n) (kz := 0) (nz := 0) (pc := 477) (ci := 7) (As := []) d_LAW_477 rfl mv_MO_errorCode st_LAW_181 rfl rfl (by decide) km rfl rfl (Nat.le_of_ble_eq_true rfl) hm (fun _ _ z => z.elim) (fun v h2 z => ?_)
  obtain ⟨rfl, L'⟩ := z
  refine g_icmp_eq (pc := 480) (tgt := 3284) d_LAW_480 (by decide) (fun _ => ?_) (fun q => absurd rfl q)
  exact kk _ L'
theorem lc_3 {E : En} {h : Hp} {A : Nat → Nat} {j c k n : Nat} {PP : Option Value → Hp → Prop} {X : String → Hp → Prop} (hl : eXl E < 2 ^ 31) (hj : j + 5 < eXl E) (k_x : hK h (A 22) = 1) (a : AnsD E m_HS_errorPosition m_MO_errorPosition [] h A c) (kk : ∀ h1, LOK h1 A (c + 1) → G E m_LAW 3284 [(4, .int (nI j)), (3, .ref (A 0)), (2, .ref (A 8)), (1, .ref (A 22)), (0, .ref (eXa E))] [] h1 k n PP X) : G E m_LAW 485 [(4, .int (nI j)), (3, .ref (A 0)), (2, .ref (A 8)), (1, .ref (A 22)), (0, .ref (eXa E))] [] h k n PP X := by
  refine g_aload_n (pc := 485) d_LAW_485 rfl 3 rfl ?_
  refine g_callV (k := k) (n := n) (kz := 0) (nz := 0) (pc := 486) (ci := 0) (As := []) d_LAW_486 rfl mv_HS_errorPosition st_LAW_182 rfl rfl (by decide) k_x rfl rfl (Nat.le_of_ble_eq_true rfl) a (fun _ _ z => z.elim) (fun v h1 z => ?_)
  obtain ⟨z9, rfl, km, hm⟩ := z
  refine g_aload_n (pc := 489) d_LAW_489 rfl 2 rfl ?_
  refine g_callV (k := k) (n := n) (kz := 0) (nz := 0) (pc := 490) (ci := 7) (As := []) d_LAW_490 rfl mv_MO_errorPosition st_LAW_185 rfl rfl (by decide) km rfl rfl (Nat.le_of_ble_eq_true rfl) hm (fun _ _ z => z.elim) (fun v h2 z => ?_)
  obtain ⟨rfl, L'⟩ := z
  refine g_icmp_eq (pc := 493) (tgt := 3284) d_LAW_493 (by decide) (fun _ => ?_) (fun q => absurd rfl q)
  exact kk _ L'
theorem lc_4 {E : En} {h : Hp} {A : Nat → Nat} {j c k n : Nat} {PP : Option Value → Hp → Prop} {X : String → Hp → Prop} (hl : eXl E < 2 ^ 31) (hj : j + 5 < eXl E) (a : AnsW E m_LW_loadSetup m_MO_loadSetup fI [] h A c) (kk : ∀ h1, LOK h1 A (c + 1) → G E m_LAW 3284 [(4, .int (nI j)), (3, .ref (A 0)), (2, .ref (A 8)), (1, .ref (A 22)), (0, .ref (eXa E))] [] h1 k n PP X) : G E m_LAW 498 [(4, .int (nI j)), (3, .ref (A 0)), (2, .ref (A 8)), (1, .ref (A 22)), (0, .ref (eXa E))] [] h (k + 11) (n + 156) PP X := by
  refine g_aload_n (pc := 498) d_LAW_498 rfl 3 rfl ?_
  refine g_aload_n (pc := 499) d_LAW_499 rfl 1 rfl ?_
  refine g_callSX (k := k) (n := n) (kz := 11) (nz := 156) (pc := 500) (As := [.ref _, .ref _]) d_LAW_500 rfl mx_LW_loadSetup st_LAW_186 rfl rfl (Nat.le_of_ble_eq_true rfl) a (fun _ _ z => z.elim) (fun v h1 z => ?_)
  obtain ⟨code, z, hcd, rfl, km, hz, hm⟩ := z
  refine g_istore (pc := 503) (lv' := [(5, .int (nI code)), (4, .int (nI j)), (3, .ref (A 0)), (2, .ref (A 8)), (1, .ref (A 22)), (0, .ref (eXa E))]) d_LAW_503 (by decide) rfl ?_
  refine g_aload_n (pc := 505) d_LAW_505 rfl 3 rfl ?_
  refine g_callV (k := k) (n := n) (kz := 0) (nz := 0) (pc := 506) (ci := 7) (As := []) d_LAW_506 rfl mv_MO_loadSetup st_LAW_189 rfl rfl (by decide) km rfl rfl (Nat.le_of_ble_eq_true rfl) hm (fun _ _ z => z.elim) (fun v h2 z => ?_)
  obtain ⟨yv, rfl, e17, hf, eJ, γ', s', L'⟩ := z
  refine g_istore (pc := 509) (lv' := [(6, .int yv), (5, .int (nI code)), (4, .int (nI j)), (3, .ref (A 0)), (2, .ref (A 8)), (1, .ref (A 22)), (0, .ref (eXa E))]) d_LAW_509 (by decide) rfl ?_
  refine g_aload_n (pc := 511) d_LAW_511 rfl 4 rfl ?_
  refine g_cV1 (pc := 512) (ci := 7) (As := []) d_LAW_512 rfl mv_MO_thrown st_LAW_171 rfl rfl (by decide) rfl rfl (Nat.le_of_ble_eq_true rfl) L'.1.2.1.1.1 (thr_ct L') ?_
  refine g_top e17 ?_
  refine g_iload (pc := 515) d_LAW_515 1 rfl ?_
  refine g_icmp_eq (pc := 517) (tgt := 522) d_LAW_517 (by decide) (fun _ => ?_) (fun q => absurd rfl q)
  refine g_iload (pc := 522) d_LAW_522 1 rfl ?_
  refine g_if_ne (pc := 524) (tgt := 539) d_LAW_524 (by decide) (fun q => ?_) (fun q => ?_)
  · skip
    refine g_goto (pc := 539) (tgt := 3284) d_LAW_539 (by decide) ?_
    refine g_perm [2, 3, 4, 5, 6] rfl ?_
    exact kk _ ⟨γ', s', L'⟩
  · have c0 := code0 hcd q
    refine g_aload_n (pc := 527) d_LAW_527 rfl 3 rfl ?_
    refine g_iconst (pc := 528) (v := 0) d_LAW_528 (by decide) ?_
    refine g_laload (pc := 529) d_LAW_529 L'.1.2.1.2.2.2.1 (z_vp L'.1.2.1.2.2.2.2) ?_
    refine g_iload (pc := 530) d_LAW_530 0 rfl ?_
    refine g_i2l (pc := 532) d_LAW_532 ?_
    refine g_lcmp (pc := 533) d_LAW_533 ?_
    refine g_top (y := 0) (by
      show lg_cmp (hJ h2 (A 0) 0) yv.toInt64 = 0
      rw [eJ, hz c0, ← hf c0]
      exact lg_self _) ?_
    refine g_if_eq (pc := 534) (tgt := 539) d_LAW_534 (by decide) (fun _ => ?_) (fun q => absurd rfl q)
    refine g_goto (pc := 539) (tgt := 3284) d_LAW_539 (by decide) ?_
    refine g_perm [2, 3, 4, 5, 6] rfl ?_
    exact kk _ ⟨γ', s', L'⟩
theorem lc_5 {E : En} {h : Hp} {A : Nat → Nat} {j c k n : Nat} {PP : Option Value → Hp → Prop} {X : String → Hp → Prop} (hl : eXl E < 2 ^ 31) (hj : j + 5 < eXl E) (a : AnsW E m_LW_runScript m_MO_runScript fI [] h A c) (kk : ∀ h1, LOK h1 A (c + 1) → G E m_LAW 3284 [(4, .int (nI j)), (3, .ref (A 0)), (2, .ref (A 8)), (1, .ref (A 22)), (0, .ref (eXa E))] [] h1 k n PP X) : G E m_LAW 542 [(4, .int (nI j)), (3, .ref (A 0)), (2, .ref (A 8)), (1, .ref (A 22)), (0, .ref (eXa E))] [] h (k + 11) (n + 156) PP X := by
  refine g_aload_n (pc := 542) d_LAW_542 rfl 3 rfl ?_
  refine g_aload_n (pc := 543) d_LAW_543 rfl 1 rfl ?_
  refine g_callSX (k := k) (n := n) (kz := 11) (nz := 156) (pc := 544) (As := [.ref _, .ref _]) d_LAW_544 rfl mx_LW_runScript st_LAW_190 rfl rfl (Nat.le_of_ble_eq_true rfl) a (fun _ _ z => z.elim) (fun v h1 z => ?_)
  obtain ⟨code, z, hcd, rfl, km, hz, hm⟩ := z
  refine g_istore (pc := 547) (lv' := [(5, .int (nI code)), (4, .int (nI j)), (3, .ref (A 0)), (2, .ref (A 8)), (1, .ref (A 22)), (0, .ref (eXa E))]) d_LAW_547 (by decide) rfl ?_
  refine g_aload_n (pc := 549) d_LAW_549 rfl 3 rfl ?_
  refine g_callV (k := k) (n := n) (kz := 0) (nz := 0) (pc := 550) (ci := 7) (As := []) d_LAW_550 rfl mv_MO_runScript st_LAW_192 rfl rfl (by decide) km rfl rfl (Nat.le_of_ble_eq_true rfl) hm (fun _ _ z => z.elim) (fun v h2 z => ?_)
  obtain ⟨yv, rfl, e17, hf, eJ, γ', s', L'⟩ := z
  refine g_istore (pc := 553) (lv' := [(6, .int yv), (5, .int (nI code)), (4, .int (nI j)), (3, .ref (A 0)), (2, .ref (A 8)), (1, .ref (A 22)), (0, .ref (eXa E))]) d_LAW_553 (by decide) rfl ?_
  refine g_aload_n (pc := 555) d_LAW_555 rfl 4 rfl ?_
  refine g_cV1 (pc := 556) (ci := 7) (As := []) d_LAW_556 rfl mv_MO_thrown st_LAW_171 rfl rfl (by decide) rfl rfl (Nat.le_of_ble_eq_true rfl) L'.1.2.1.1.1 (thr_ct L') ?_
  refine g_top e17 ?_
  refine g_iload (pc := 559) d_LAW_559 1 rfl ?_
  refine g_icmp_eq (pc := 561) (tgt := 566) d_LAW_561 (by decide) (fun _ => ?_) (fun q => absurd rfl q)
  refine g_iload (pc := 566) d_LAW_566 1 rfl ?_
  refine g_if_ne (pc := 568) (tgt := 583) d_LAW_568 (by decide) (fun q => ?_) (fun q => ?_)
  · skip
    refine g_goto (pc := 583) (tgt := 3284) d_LAW_583 (by decide) ?_
    refine g_perm [2, 3, 4, 5, 6] rfl ?_
    exact kk _ ⟨γ', s', L'⟩
  · have c0 := code0 hcd q
    refine g_aload_n (pc := 571) d_LAW_571 rfl 3 rfl ?_
    refine g_iconst (pc := 572) (v := 0) d_LAW_572 (by decide) ?_
    refine g_laload (pc := 573) d_LAW_573 L'.1.2.1.2.2.2.1 (z_vp L'.1.2.1.2.2.2.2) ?_
    refine g_iload (pc := 574) d_LAW_574 0 rfl ?_
    refine g_i2l (pc := 576) d_LAW_576 ?_
    refine g_lcmp (pc := 577) d_LAW_577 ?_
    refine g_top (y := 0) (by
      show lg_cmp (hJ h2 (A 0) 0) yv.toInt64 = 0
      rw [eJ, hz c0, ← hf c0]
      exact lg_self _) ?_
    refine g_if_eq (pc := 578) (tgt := 583) d_LAW_578 (by decide) (fun _ => ?_) (fun q => absurd rfl q)
    refine g_goto (pc := 583) (tgt := 3284) d_LAW_583 (by decide) ?_
    refine g_perm [2, 3, 4, 5, 6] rfl ?_
    exact kk _ ⟨γ', s', L'⟩
theorem lc_6 {E : En} {h : Hp} {A : Nat → Nat} {j c k n : Nat} {PP : Option Value → Hp → Prop} {X : String → Hp → Prop} (hl : eXl E < 2 ^ 31) (hj : j + 5 < eXl E) (a : AnsW E m_LW_passDays m_MO_passDays fI [.int (eXs E (j + 1))] h A c) (kk : ∀ h1, LOK h1 A (c + 1) → G E m_LAW 3284 [(4, .int (nI j)), (3, .ref (A 0)), (2, .ref (A 8)), (1, .ref (A 22)), (0, .ref (eXa E))] [] h1 k n PP X) : G E m_LAW 586 [(4, .int (nI j)), (3, .ref (A 0)), (2, .ref (A 8)), (1, .ref (A 22)), (0, .ref (eXa E))] [] h (k + 11) (n + 156) PP X := by
  refine g_aload_n (pc := 586) d_LAW_586 rfl 3 rfl ?_
  refine g_aload_n (pc := 587) d_LAW_587 rfl 4 rfl ?_
  refine g_iload (pc := 588) d_LAW_588 0 rfl ?_
  refine g_iconst (pc := 590) (v := 1) d_LAW_590 (by decide) ?_
  refine g_iadd (pc := 591) d_LAW_591 ?_
  refine g_top (y := nI (j + 1)) (nI_add j 1) ?_
  refine g_sld (pc := 592) (j := j + 1) (by omega) hl d_LAW_592 ?_
  refine g_aload_n (pc := 593) d_LAW_593 rfl 1 rfl ?_
  refine g_callSX (k := k) (n := n) (kz := 11) (nz := 156) (pc := 594) (As := [.ref _, .int _, .ref _]) d_LAW_594 rfl mx_LW_passDays st_LAW_193 rfl rfl (Nat.le_of_ble_eq_true rfl) a (fun _ _ z => z.elim) (fun v h1 z => ?_)
  obtain ⟨code, z, hcd, rfl, km, hz, hm⟩ := z
  refine g_istore (pc := 597) (lv' := [(5, .int (nI code)), (4, .int (nI j)), (3, .ref (A 0)), (2, .ref (A 8)), (1, .ref (A 22)), (0, .ref (eXa E))]) d_LAW_597 (by decide) rfl ?_
  refine g_aload_n (pc := 599) d_LAW_599 rfl 3 rfl ?_
  refine g_aload_n (pc := 600) d_LAW_600 rfl 5 rfl ?_
  refine g_iload (pc := 601) d_LAW_601 1 rfl ?_
  refine g_iconst (pc := 603) (v := 1) d_LAW_603 (by decide) ?_
  refine g_iadd (pc := 604) d_LAW_604 ?_
  refine g_top (y := nI (j + 1)) (nI_add j 1) ?_
  refine g_sld (pc := 605) (j := j + 1) (by omega) hl d_LAW_605 ?_
  refine g_callV (k := k) (n := n) (kz := 0) (nz := 0) (pc := 606) (ci := 7) (As := [.int _]) d_LAW_606 rfl mv_MO_passDays st_LAW_195 rfl rfl (by decide) km rfl rfl (Nat.le_of_ble_eq_true rfl) hm (fun _ _ z => z.elim) (fun v h2 z => ?_)
  obtain ⟨yv, rfl, e17, hf, eJ, γ', s', L'⟩ := z
  refine g_istore (pc := 609) (lv' := [(6, .int yv), (5, .int (nI code)), (4, .int (nI j)), (3, .ref (A 0)), (2, .ref (A 8)), (1, .ref (A 22)), (0, .ref (eXa E))]) d_LAW_609 (by decide) rfl ?_
  refine g_aload_n (pc := 611) d_LAW_611 rfl 4 rfl ?_
  refine g_cV1 (pc := 612) (ci := 7) (As := []) d_LAW_612 rfl mv_MO_thrown st_LAW_171 rfl rfl (by decide) rfl rfl (Nat.le_of_ble_eq_true rfl) L'.1.2.1.1.1 (thr_ct L') ?_
  refine g_top e17 ?_
  refine g_iload (pc := 615) d_LAW_615 1 rfl ?_
  refine g_icmp_eq (pc := 617) (tgt := 622) d_LAW_617 (by decide) (fun _ => ?_) (fun q => absurd rfl q)
  refine g_iload (pc := 622) d_LAW_622 1 rfl ?_
  refine g_if_ne (pc := 624) (tgt := 639) d_LAW_624 (by decide) (fun q => ?_) (fun q => ?_)
  · skip
    refine g_goto (pc := 639) (tgt := 3284) d_LAW_639 (by decide) ?_
    refine g_perm [2, 3, 4, 5, 6] rfl ?_
    exact kk _ ⟨γ', s', L'⟩
  · have c0 := code0 hcd q
    refine g_aload_n (pc := 627) d_LAW_627 rfl 3 rfl ?_
    refine g_iconst (pc := 628) (v := 0) d_LAW_628 (by decide) ?_
    refine g_laload (pc := 629) d_LAW_629 L'.1.2.1.2.2.2.1 (z_vp L'.1.2.1.2.2.2.2) ?_
    refine g_iload (pc := 630) d_LAW_630 0 rfl ?_
    refine g_i2l (pc := 632) d_LAW_632 ?_
    refine g_lcmp (pc := 633) d_LAW_633 ?_
    refine g_top (y := 0) (by
      show lg_cmp (hJ h2 (A 0) 0) yv.toInt64 = 0
      rw [eJ, hz c0, ← hf c0]
      exact lg_self _) ?_
    refine g_if_eq (pc := 634) (tgt := 639) d_LAW_634 (by decide) (fun _ => ?_) (fun q => absurd rfl q)
    refine g_goto (pc := 639) (tgt := 3284) d_LAW_639 (by decide) ?_
    refine g_perm [2, 3, 4, 5, 6] rfl ?_
    exact kk _ ⟨γ', s', L'⟩
theorem lc_7 {E : En} {h : Hp} {A : Nat → Nat} {j c k n : Nat} {PP : Option Value → Hp → Prop} {X : String → Hp → Prop} (hl : eXl E < 2 ^ 31) (hj : j + 5 < eXl E) (a : AnsW E m_LW_visit m_MO_visit fI [.int (eXs E (j + 1))] h A c) (kk : ∀ h1, LOK h1 A (c + 1) → G E m_LAW 3284 [(4, .int (nI j)), (3, .ref (A 0)), (2, .ref (A 8)), (1, .ref (A 22)), (0, .ref (eXa E))] [] h1 k n PP X) : G E m_LAW 642 [(4, .int (nI j)), (3, .ref (A 0)), (2, .ref (A 8)), (1, .ref (A 22)), (0, .ref (eXa E))] [] h (k + 11) (n + 156) PP X := by
  refine g_aload_n (pc := 642) d_LAW_642 rfl 3 rfl ?_
  refine g_aload_n (pc := 643) d_LAW_643 rfl 4 rfl ?_
  refine g_iload (pc := 644) d_LAW_644 0 rfl ?_
  refine g_iconst (pc := 646) (v := 1) d_LAW_646 (by decide) ?_
  refine g_iadd (pc := 647) d_LAW_647 ?_
  refine g_top (y := nI (j + 1)) (nI_add j 1) ?_
  refine g_sld (pc := 648) (j := j + 1) (by omega) hl d_LAW_648 ?_
  refine g_aload_n (pc := 649) d_LAW_649 rfl 1 rfl ?_
  refine g_callSX (k := k) (n := n) (kz := 11) (nz := 156) (pc := 650) (As := [.ref _, .int _, .ref _]) d_LAW_650 rfl mx_LW_visit st_LAW_196 rfl rfl (Nat.le_of_ble_eq_true rfl) a (fun _ _ z => z.elim) (fun v h1 z => ?_)
  obtain ⟨code, z, hcd, rfl, km, hz, hm⟩ := z
  refine g_istore (pc := 653) (lv' := [(5, .int (nI code)), (4, .int (nI j)), (3, .ref (A 0)), (2, .ref (A 8)), (1, .ref (A 22)), (0, .ref (eXa E))]) d_LAW_653 (by decide) rfl ?_
  refine g_aload_n (pc := 655) d_LAW_655 rfl 3 rfl ?_
  refine g_aload_n (pc := 656) d_LAW_656 rfl 5 rfl ?_
  refine g_iload (pc := 657) d_LAW_657 1 rfl ?_
  refine g_iconst (pc := 659) (v := 1) d_LAW_659 (by decide) ?_
  refine g_iadd (pc := 660) d_LAW_660 ?_
  refine g_top (y := nI (j + 1)) (nI_add j 1) ?_
  refine g_sld (pc := 661) (j := j + 1) (by omega) hl d_LAW_661 ?_
  refine g_callV (k := k) (n := n) (kz := 0) (nz := 0) (pc := 662) (ci := 7) (As := [.int _]) d_LAW_662 rfl mv_MO_visit st_LAW_198 rfl rfl (by decide) km rfl rfl (Nat.le_of_ble_eq_true rfl) hm (fun _ _ z => z.elim) (fun v h2 z => ?_)
  obtain ⟨yv, rfl, e17, hf, eJ, γ', s', L'⟩ := z
  refine g_istore (pc := 665) (lv' := [(6, .int yv), (5, .int (nI code)), (4, .int (nI j)), (3, .ref (A 0)), (2, .ref (A 8)), (1, .ref (A 22)), (0, .ref (eXa E))]) d_LAW_665 (by decide) rfl ?_
  refine g_aload_n (pc := 667) d_LAW_667 rfl 4 rfl ?_
  refine g_cV1 (pc := 668) (ci := 7) (As := []) d_LAW_668 rfl mv_MO_thrown st_LAW_171 rfl rfl (by decide) rfl rfl (Nat.le_of_ble_eq_true rfl) L'.1.2.1.1.1 (thr_ct L') ?_
  refine g_top e17 ?_
  refine g_iload (pc := 671) d_LAW_671 1 rfl ?_
  refine g_icmp_eq (pc := 673) (tgt := 678) d_LAW_673 (by decide) (fun _ => ?_) (fun q => absurd rfl q)
  refine g_iload (pc := 678) d_LAW_678 1 rfl ?_
  refine g_if_ne (pc := 680) (tgt := 695) d_LAW_680 (by decide) (fun q => ?_) (fun q => ?_)
  · skip
    refine g_goto (pc := 695) (tgt := 3284) d_LAW_695 (by decide) ?_
    refine g_perm [2, 3, 4, 5, 6] rfl ?_
    exact kk _ ⟨γ', s', L'⟩
  · have c0 := code0 hcd q
    refine g_aload_n (pc := 683) d_LAW_683 rfl 3 rfl ?_
    refine g_iconst (pc := 684) (v := 0) d_LAW_684 (by decide) ?_
    refine g_laload (pc := 685) d_LAW_685 L'.1.2.1.2.2.2.1 (z_vp L'.1.2.1.2.2.2.2) ?_
    refine g_iload (pc := 686) d_LAW_686 0 rfl ?_
    refine g_i2l (pc := 688) d_LAW_688 ?_
    refine g_lcmp (pc := 689) d_LAW_689 ?_
    refine g_top (y := 0) (by
      show lg_cmp (hJ h2 (A 0) 0) yv.toInt64 = 0
      rw [eJ, hz c0, ← hf c0]
      exact lg_self _) ?_
    refine g_if_eq (pc := 690) (tgt := 695) d_LAW_690 (by decide) (fun _ => ?_) (fun q => absurd rfl q)
    refine g_goto (pc := 695) (tgt := 3284) d_LAW_695 (by decide) ?_
    refine g_perm [2, 3, 4, 5, 6] rfl ?_
    exact kk _ ⟨γ', s', L'⟩
theorem lc_8 {E : En} {h : Hp} {A : Nat → Nat} {j c k n : Nat} {PP : Option Value → Hp → Prop} {X : String → Hp → Prop} (hl : eXl E < 2 ^ 31) (hj : j + 5 < eXl E) (a : AnsW E m_LW_repair m_MO_repair fI [.int (eXs E (j + 1))] h A c) (kk : ∀ h1, LOK h1 A (c + 1) → G E m_LAW 3284 [(4, .int (nI j)), (3, .ref (A 0)), (2, .ref (A 8)), (1, .ref (A 22)), (0, .ref (eXa E))] [] h1 k n PP X) : G E m_LAW 698 [(4, .int (nI j)), (3, .ref (A 0)), (2, .ref (A 8)), (1, .ref (A 22)), (0, .ref (eXa E))] [] h (k + 11) (n + 156) PP X := by
  refine g_aload_n (pc := 698) d_LAW_698 rfl 3 rfl ?_
  refine g_aload_n (pc := 699) d_LAW_699 rfl 4 rfl ?_
  refine g_iload (pc := 700) d_LAW_700 0 rfl ?_
  refine g_iconst (pc := 702) (v := 1) d_LAW_702 (by decide) ?_
  refine g_iadd (pc := 703) d_LAW_703 ?_
  refine g_top (y := nI (j + 1)) (nI_add j 1) ?_
  refine g_sld (pc := 704) (j := j + 1) (by omega) hl d_LAW_704 ?_
  refine g_aload_n (pc := 705) d_LAW_705 rfl 1 rfl ?_
  refine g_callSX (k := k) (n := n) (kz := 11) (nz := 156) (pc := 706) (As := [.ref _, .int _, .ref _]) d_LAW_706 rfl mx_LW_repair st_LAW_199 rfl rfl (Nat.le_of_ble_eq_true rfl) a (fun _ _ z => z.elim) (fun v h1 z => ?_)
  obtain ⟨code, z, hcd, rfl, km, hz, hm⟩ := z
  refine g_istore (pc := 709) (lv' := [(5, .int (nI code)), (4, .int (nI j)), (3, .ref (A 0)), (2, .ref (A 8)), (1, .ref (A 22)), (0, .ref (eXa E))]) d_LAW_709 (by decide) rfl ?_
  refine g_aload_n (pc := 711) d_LAW_711 rfl 3 rfl ?_
  refine g_aload_n (pc := 712) d_LAW_712 rfl 5 rfl ?_
  refine g_iload (pc := 713) d_LAW_713 1 rfl ?_
  refine g_iconst (pc := 715) (v := 1) d_LAW_715 (by decide) ?_
  refine g_iadd (pc := 716) d_LAW_716 ?_
  refine g_top (y := nI (j + 1)) (nI_add j 1) ?_
  refine g_sld (pc := 717) (j := j + 1) (by omega) hl d_LAW_717 ?_
  refine g_callV (k := k) (n := n) (kz := 0) (nz := 0) (pc := 718) (ci := 7) (As := [.int _]) d_LAW_718 rfl mv_MO_repair st_LAW_201 rfl rfl (by decide) km rfl rfl (Nat.le_of_ble_eq_true rfl) hm (fun _ _ z => z.elim) (fun v h2 z => ?_)
  obtain ⟨yv, rfl, e17, hf, eJ, γ', s', L'⟩ := z
  refine g_istore (pc := 721) (lv' := [(6, .int yv), (5, .int (nI code)), (4, .int (nI j)), (3, .ref (A 0)), (2, .ref (A 8)), (1, .ref (A 22)), (0, .ref (eXa E))]) d_LAW_721 (by decide) rfl ?_
  refine g_aload_n (pc := 723) d_LAW_723 rfl 4 rfl ?_
  refine g_cV1 (pc := 724) (ci := 7) (As := []) d_LAW_724 rfl mv_MO_thrown st_LAW_171 rfl rfl (by decide) rfl rfl (Nat.le_of_ble_eq_true rfl) L'.1.2.1.1.1 (thr_ct L') ?_
  refine g_top e17 ?_
  refine g_iload (pc := 727) d_LAW_727 1 rfl ?_
  refine g_icmp_eq (pc := 729) (tgt := 734) d_LAW_729 (by decide) (fun _ => ?_) (fun q => absurd rfl q)
  refine g_iload (pc := 734) d_LAW_734 1 rfl ?_
  refine g_if_ne (pc := 736) (tgt := 751) d_LAW_736 (by decide) (fun q => ?_) (fun q => ?_)
  · skip
    refine g_goto (pc := 751) (tgt := 3284) d_LAW_751 (by decide) ?_
    refine g_perm [2, 3, 4, 5, 6] rfl ?_
    exact kk _ ⟨γ', s', L'⟩
  · have c0 := code0 hcd q
    refine g_aload_n (pc := 739) d_LAW_739 rfl 3 rfl ?_
    refine g_iconst (pc := 740) (v := 0) d_LAW_740 (by decide) ?_
    refine g_laload (pc := 741) d_LAW_741 L'.1.2.1.2.2.2.1 (z_vp L'.1.2.1.2.2.2.2) ?_
    refine g_iload (pc := 742) d_LAW_742 0 rfl ?_
    refine g_i2l (pc := 744) d_LAW_744 ?_
    refine g_lcmp (pc := 745) d_LAW_745 ?_
    refine g_top (y := 0) (by
      show lg_cmp (hJ h2 (A 0) 0) yv.toInt64 = 0
      rw [eJ, hz c0, ← hf c0]
      exact lg_self _) ?_
    refine g_if_eq (pc := 746) (tgt := 751) d_LAW_746 (by decide) (fun _ => ?_) (fun q => absurd rfl q)
    refine g_goto (pc := 751) (tgt := 3284) d_LAW_751 (by decide) ?_
    refine g_perm [2, 3, 4, 5, 6] rfl ?_
    exact kk _ ⟨γ', s', L'⟩
theorem lc_9 {E : En} {h : Hp} {A : Nat → Nat} {j c k n : Nat} {PP : Option Value → Hp → Prop} {X : String → Hp → Prop} (hl : eXl E < 2 ^ 31) (hj : j + 5 < eXl E) (a : AnsW E m_LW_setThumb m_MO_setThumb fI [.int (eXs E (j + 1)), .int (eXs E (j + 2))] h A c) (kk : ∀ h1, LOK h1 A (c + 1) → G E m_LAW 3284 [(4, .int (nI j)), (3, .ref (A 0)), (2, .ref (A 8)), (1, .ref (A 22)), (0, .ref (eXa E))] [] h1 k n PP X) : G E m_LAW 754 [(4, .int (nI j)), (3, .ref (A 0)), (2, .ref (A 8)), (1, .ref (A 22)), (0, .ref (eXa E))] [] h (k + 11) (n + 156) PP X := by
  refine g_aload_n (pc := 754) d_LAW_754 rfl 3 rfl ?_
  refine g_aload_n (pc := 755) d_LAW_755 rfl 4 rfl ?_
  refine g_iload (pc := 756) d_LAW_756 0 rfl ?_
  refine g_iconst (pc := 758) (v := 1) d_LAW_758 (by decide) ?_
  refine g_iadd (pc := 759) d_LAW_759 ?_
  refine g_top (y := nI (j + 1)) (nI_add j 1) ?_
  refine g_sld (pc := 760) (j := j + 1) (by omega) hl d_LAW_760 ?_
  refine g_aload_n (pc := 761) d_LAW_761 rfl 4 rfl ?_
  refine g_iload (pc := 762) d_LAW_762 0 rfl ?_
  refine g_iconst (pc := 764) (v := 2) d_LAW_764 (by decide) ?_
  refine g_iadd (pc := 765) d_LAW_765 ?_
  refine g_top (y := nI (j + 2)) (nI_add j 2) ?_
  refine g_sld (pc := 766) (j := j + 2) (by omega) hl d_LAW_766 ?_
  refine g_aload_n (pc := 767) d_LAW_767 rfl 1 rfl ?_
  refine g_callSX (k := k) (n := n) (kz := 11) (nz := 156) (pc := 768) (As := [.ref _, .int _, .int _, .ref _]) d_LAW_768 rfl mx_LW_setThumb st_LAW_202 rfl rfl (Nat.le_of_ble_eq_true rfl) a (fun _ _ z => z.elim) (fun v h1 z => ?_)
  obtain ⟨code, z, hcd, rfl, km, hz, hm⟩ := z
  refine g_istore (pc := 771) (lv' := [(5, .int (nI code)), (4, .int (nI j)), (3, .ref (A 0)), (2, .ref (A 8)), (1, .ref (A 22)), (0, .ref (eXa E))]) d_LAW_771 (by decide) rfl ?_
  refine g_aload_n (pc := 773) d_LAW_773 rfl 3 rfl ?_
  refine g_aload_n (pc := 774) d_LAW_774 rfl 5 rfl ?_
  refine g_iload (pc := 775) d_LAW_775 1 rfl ?_
  refine g_iconst (pc := 777) (v := 1) d_LAW_777 (by decide) ?_
  refine g_iadd (pc := 778) d_LAW_778 ?_
  refine g_top (y := nI (j + 1)) (nI_add j 1) ?_
  refine g_sld (pc := 779) (j := j + 1) (by omega) hl d_LAW_779 ?_
  refine g_aload_n (pc := 780) d_LAW_780 rfl 5 rfl ?_
  refine g_iload (pc := 781) d_LAW_781 1 rfl ?_
  refine g_iconst (pc := 783) (v := 2) d_LAW_783 (by decide) ?_
  refine g_iadd (pc := 784) d_LAW_784 ?_
  refine g_top (y := nI (j + 2)) (nI_add j 2) ?_
  refine g_sld (pc := 785) (j := j + 2) (by omega) hl d_LAW_785 ?_
  refine g_callV (k := k) (n := n) (kz := 0) (nz := 0) (pc := 786) (ci := 7) (As := [.int _, .int _]) d_LAW_786 rfl mv_MO_setThumb st_LAW_205 rfl rfl (by decide) km rfl rfl (Nat.le_of_ble_eq_true rfl) hm (fun _ _ z => z.elim) (fun v h2 z => ?_)
  obtain ⟨yv, rfl, e17, hf, eJ, γ', s', L'⟩ := z
  refine g_istore (pc := 789) (lv' := [(6, .int yv), (5, .int (nI code)), (4, .int (nI j)), (3, .ref (A 0)), (2, .ref (A 8)), (1, .ref (A 22)), (0, .ref (eXa E))]) d_LAW_789 (by decide) rfl ?_
  refine g_aload_n (pc := 791) d_LAW_791 rfl 4 rfl ?_
  refine g_cV1 (pc := 792) (ci := 7) (As := []) d_LAW_792 rfl mv_MO_thrown st_LAW_171 rfl rfl (by decide) rfl rfl (Nat.le_of_ble_eq_true rfl) L'.1.2.1.1.1 (thr_ct L') ?_
  refine g_top e17 ?_
  refine g_iload (pc := 795) d_LAW_795 1 rfl ?_
  refine g_icmp_eq (pc := 797) (tgt := 802) d_LAW_797 (by decide) (fun _ => ?_) (fun q => absurd rfl q)
  refine g_iload (pc := 802) d_LAW_802 1 rfl ?_
  refine g_if_ne (pc := 804) (tgt := 819) d_LAW_804 (by decide) (fun q => ?_) (fun q => ?_)
  · skip
    refine g_goto (pc := 819) (tgt := 3284) d_LAW_819 (by decide) ?_
    refine g_perm [2, 3, 4, 5, 6] rfl ?_
    exact kk _ ⟨γ', s', L'⟩
  · have c0 := code0 hcd q
    refine g_aload_n (pc := 807) d_LAW_807 rfl 3 rfl ?_
    refine g_iconst (pc := 808) (v := 0) d_LAW_808 (by decide) ?_
    refine g_laload (pc := 809) d_LAW_809 L'.1.2.1.2.2.2.1 (z_vp L'.1.2.1.2.2.2.2) ?_
    refine g_iload (pc := 810) d_LAW_810 0 rfl ?_
    refine g_i2l (pc := 812) d_LAW_812 ?_
    refine g_lcmp (pc := 813) d_LAW_813 ?_
    refine g_top (y := 0) (by
      show lg_cmp (hJ h2 (A 0) 0) yv.toInt64 = 0
      rw [eJ, hz c0, ← hf c0]
      exact lg_self _) ?_
    refine g_if_eq (pc := 814) (tgt := 819) d_LAW_814 (by decide) (fun _ => ?_) (fun q => absurd rfl q)
    refine g_goto (pc := 819) (tgt := 3284) d_LAW_819 (by decide) ?_
    refine g_perm [2, 3, 4, 5, 6] rfl ?_
    exact kk _ ⟨γ', s', L'⟩
theorem lc_10 {E : En} {h : Hp} {A : Nat → Nat} {j c k n : Nat} {PP : Option Value → Hp → Prop} {X : String → Hp → Prop} (hl : eXl E < 2 ^ 31) (hj : j + 5 < eXl E) (a : AnsW E m_LW_complain m_MO_complain fI [.int (eXs E (j + 1))] h A c) (kk : ∀ h1, LOK h1 A (c + 1) → G E m_LAW 3284 [(4, .int (nI j)), (3, .ref (A 0)), (2, .ref (A 8)), (1, .ref (A 22)), (0, .ref (eXa E))] [] h1 k n PP X) : G E m_LAW 822 [(4, .int (nI j)), (3, .ref (A 0)), (2, .ref (A 8)), (1, .ref (A 22)), (0, .ref (eXa E))] [] h (k + 11) (n + 156) PP X := by
  refine g_aload_n (pc := 822) d_LAW_822 rfl 3 rfl ?_
  refine g_aload_n (pc := 823) d_LAW_823 rfl 4 rfl ?_
  refine g_iload (pc := 824) d_LAW_824 0 rfl ?_
  refine g_iconst (pc := 826) (v := 1) d_LAW_826 (by decide) ?_
  refine g_iadd (pc := 827) d_LAW_827 ?_
  refine g_top (y := nI (j + 1)) (nI_add j 1) ?_
  refine g_sld (pc := 828) (j := j + 1) (by omega) hl d_LAW_828 ?_
  refine g_aload_n (pc := 829) d_LAW_829 rfl 1 rfl ?_
  refine g_callSX (k := k) (n := n) (kz := 11) (nz := 156) (pc := 830) (As := [.ref _, .int _, .ref _]) d_LAW_830 rfl mx_LW_complain st_LAW_206 rfl rfl (Nat.le_of_ble_eq_true rfl) a (fun _ _ z => z.elim) (fun v h1 z => ?_)
  obtain ⟨code, z, hcd, rfl, km, hz, hm⟩ := z
  refine g_istore (pc := 833) (lv' := [(5, .int (nI code)), (4, .int (nI j)), (3, .ref (A 0)), (2, .ref (A 8)), (1, .ref (A 22)), (0, .ref (eXa E))]) d_LAW_833 (by decide) rfl ?_
  refine g_aload_n (pc := 835) d_LAW_835 rfl 3 rfl ?_
  refine g_aload_n (pc := 836) d_LAW_836 rfl 5 rfl ?_
  refine g_iload (pc := 837) d_LAW_837 1 rfl ?_
  refine g_iconst (pc := 839) (v := 1) d_LAW_839 (by decide) ?_
  refine g_iadd (pc := 840) d_LAW_840 ?_
  refine g_top (y := nI (j + 1)) (nI_add j 1) ?_
  refine g_sld (pc := 841) (j := j + 1) (by omega) hl d_LAW_841 ?_
  refine g_callV (k := k) (n := n) (kz := 0) (nz := 0) (pc := 842) (ci := 7) (As := [.int _]) d_LAW_842 rfl mv_MO_complain st_LAW_208 rfl rfl (by decide) km rfl rfl (Nat.le_of_ble_eq_true rfl) hm (fun _ _ z => z.elim) (fun v h2 z => ?_)
  obtain ⟨yv, rfl, e17, hf, eJ, γ', s', L'⟩ := z
  refine g_istore (pc := 845) (lv' := [(6, .int yv), (5, .int (nI code)), (4, .int (nI j)), (3, .ref (A 0)), (2, .ref (A 8)), (1, .ref (A 22)), (0, .ref (eXa E))]) d_LAW_845 (by decide) rfl ?_
  refine g_aload_n (pc := 847) d_LAW_847 rfl 4 rfl ?_
  refine g_cV1 (pc := 848) (ci := 7) (As := []) d_LAW_848 rfl mv_MO_thrown st_LAW_171 rfl rfl (by decide) rfl rfl (Nat.le_of_ble_eq_true rfl) L'.1.2.1.1.1 (thr_ct L') ?_
  refine g_top e17 ?_
  refine g_iload (pc := 851) d_LAW_851 1 rfl ?_
  refine g_icmp_eq (pc := 853) (tgt := 858) d_LAW_853 (by decide) (fun _ => ?_) (fun q => absurd rfl q)
  refine g_iload (pc := 858) d_LAW_858 1 rfl ?_
  refine g_if_ne (pc := 860) (tgt := 875) d_LAW_860 (by decide) (fun q => ?_) (fun q => ?_)
  · skip
    refine g_goto (pc := 875) (tgt := 3284) d_LAW_875 (by decide) ?_
    refine g_perm [2, 3, 4, 5, 6] rfl ?_
    exact kk _ ⟨γ', s', L'⟩
  · have c0 := code0 hcd q
    refine g_aload_n (pc := 863) d_LAW_863 rfl 3 rfl ?_
    refine g_iconst (pc := 864) (v := 0) d_LAW_864 (by decide) ?_
    refine g_laload (pc := 865) d_LAW_865 L'.1.2.1.2.2.2.1 (z_vp L'.1.2.1.2.2.2.2) ?_
    refine g_iload (pc := 866) d_LAW_866 0 rfl ?_
    refine g_i2l (pc := 868) d_LAW_868 ?_
    refine g_lcmp (pc := 869) d_LAW_869 ?_
    refine g_top (y := 0) (by
      show lg_cmp (hJ h2 (A 0) 0) yv.toInt64 = 0
      rw [eJ, hz c0, ← hf c0]
      exact lg_self _) ?_
    refine g_if_eq (pc := 870) (tgt := 875) d_LAW_870 (by decide) (fun _ => ?_) (fun q => absurd rfl q)
    refine g_goto (pc := 875) (tgt := 3284) d_LAW_875 (by decide) ?_
    refine g_perm [2, 3, 4, 5, 6] rfl ?_
    exact kk _ ⟨γ', s', L'⟩
theorem lc_11 {E : En} {h : Hp} {A : Nat → Nat} {j c k n : Nat} {PP : Option Value → Hp → Prop} {X : String → Hp → Prop} (hl : eXl E < 2 ^ 31) (hj : j + 5 < eXl E) (a : AnsW E m_LW_reopen m_MO_reopen fI [.int (eXs E (j + 1))] h A c) (kk : ∀ h1, LOK h1 A (c + 1) → G E m_LAW 3284 [(4, .int (nI j)), (3, .ref (A 0)), (2, .ref (A 8)), (1, .ref (A 22)), (0, .ref (eXa E))] [] h1 k n PP X) : G E m_LAW 878 [(4, .int (nI j)), (3, .ref (A 0)), (2, .ref (A 8)), (1, .ref (A 22)), (0, .ref (eXa E))] [] h (k + 11) (n + 156) PP X := by
  refine g_aload_n (pc := 878) d_LAW_878 rfl 3 rfl ?_
  refine g_aload_n (pc := 879) d_LAW_879 rfl 4 rfl ?_
  refine g_iload (pc := 880) d_LAW_880 0 rfl ?_
  refine g_iconst (pc := 882) (v := 1) d_LAW_882 (by decide) ?_
  refine g_iadd (pc := 883) d_LAW_883 ?_
  refine g_top (y := nI (j + 1)) (nI_add j 1) ?_
  refine g_sld (pc := 884) (j := j + 1) (by omega) hl d_LAW_884 ?_
  refine g_aload_n (pc := 885) d_LAW_885 rfl 1 rfl ?_
  refine g_callSX (k := k) (n := n) (kz := 11) (nz := 156) (pc := 886) (As := [.ref _, .int _, .ref _]) d_LAW_886 rfl mx_LW_reopen st_LAW_209 rfl rfl (Nat.le_of_ble_eq_true rfl) a (fun _ _ z => z.elim) (fun v h1 z => ?_)
  obtain ⟨code, z, hcd, rfl, km, hz, hm⟩ := z
  refine g_istore (pc := 889) (lv' := [(5, .int (nI code)), (4, .int (nI j)), (3, .ref (A 0)), (2, .ref (A 8)), (1, .ref (A 22)), (0, .ref (eXa E))]) d_LAW_889 (by decide) rfl ?_
  refine g_aload_n (pc := 891) d_LAW_891 rfl 3 rfl ?_
  refine g_aload_n (pc := 892) d_LAW_892 rfl 5 rfl ?_
  refine g_iload (pc := 893) d_LAW_893 1 rfl ?_
  refine g_iconst (pc := 895) (v := 1) d_LAW_895 (by decide) ?_
  refine g_iadd (pc := 896) d_LAW_896 ?_
  refine g_top (y := nI (j + 1)) (nI_add j 1) ?_
  refine g_sld (pc := 897) (j := j + 1) (by omega) hl d_LAW_897 ?_
  refine g_callV (k := k) (n := n) (kz := 0) (nz := 0) (pc := 898) (ci := 7) (As := [.int _]) d_LAW_898 rfl mv_MO_reopen st_LAW_211 rfl rfl (by decide) km rfl rfl (Nat.le_of_ble_eq_true rfl) hm (fun _ _ z => z.elim) (fun v h2 z => ?_)
  obtain ⟨yv, rfl, e17, hf, eJ, γ', s', L'⟩ := z
  refine g_istore (pc := 901) (lv' := [(6, .int yv), (5, .int (nI code)), (4, .int (nI j)), (3, .ref (A 0)), (2, .ref (A 8)), (1, .ref (A 22)), (0, .ref (eXa E))]) d_LAW_901 (by decide) rfl ?_
  refine g_aload_n (pc := 903) d_LAW_903 rfl 4 rfl ?_
  refine g_cV1 (pc := 904) (ci := 7) (As := []) d_LAW_904 rfl mv_MO_thrown st_LAW_171 rfl rfl (by decide) rfl rfl (Nat.le_of_ble_eq_true rfl) L'.1.2.1.1.1 (thr_ct L') ?_
  refine g_top e17 ?_
  refine g_iload (pc := 907) d_LAW_907 1 rfl ?_
  refine g_icmp_eq (pc := 909) (tgt := 914) d_LAW_909 (by decide) (fun _ => ?_) (fun q => absurd rfl q)
  refine g_iload (pc := 914) d_LAW_914 1 rfl ?_
  refine g_if_ne (pc := 916) (tgt := 931) d_LAW_916 (by decide) (fun q => ?_) (fun q => ?_)
  · skip
    refine g_goto (pc := 931) (tgt := 3284) d_LAW_931 (by decide) ?_
    refine g_perm [2, 3, 4, 5, 6] rfl ?_
    exact kk _ ⟨γ', s', L'⟩
  · have c0 := code0 hcd q
    refine g_aload_n (pc := 919) d_LAW_919 rfl 3 rfl ?_
    refine g_iconst (pc := 920) (v := 0) d_LAW_920 (by decide) ?_
    refine g_laload (pc := 921) d_LAW_921 L'.1.2.1.2.2.2.1 (z_vp L'.1.2.1.2.2.2.2) ?_
    refine g_iload (pc := 922) d_LAW_922 0 rfl ?_
    refine g_i2l (pc := 924) d_LAW_924 ?_
    refine g_lcmp (pc := 925) d_LAW_925 ?_
    refine g_top (y := 0) (by
      show lg_cmp (hJ h2 (A 0) 0) yv.toInt64 = 0
      rw [eJ, hz c0, ← hf c0]
      exact lg_self _) ?_
    refine g_if_eq (pc := 926) (tgt := 931) d_LAW_926 (by decide) (fun _ => ?_) (fun q => absurd rfl q)
    refine g_goto (pc := 931) (tgt := 3284) d_LAW_931 (by decide) ?_
    refine g_perm [2, 3, 4, 5, 6] rfl ?_
    exact kk _ ⟨γ', s', L'⟩
theorem lc_12 {E : En} {h : Hp} {A : Nat → Nat} {j c k n : Nat} {PP : Option Value → Hp → Prop} {X : String → Hp → Prop} (hl : eXl E < 2 ^ 31) (hj : j + 5 < eXl E) (a : AnsW E m_LW_setInspectors m_MO_setInspectors fI [.int (eXs E (j + 1))] h A c) (kk : ∀ h1, LOK h1 A (c + 1) → G E m_LAW 3284 [(4, .int (nI j)), (3, .ref (A 0)), (2, .ref (A 8)), (1, .ref (A 22)), (0, .ref (eXa E))] [] h1 k n PP X) : G E m_LAW 934 [(4, .int (nI j)), (3, .ref (A 0)), (2, .ref (A 8)), (1, .ref (A 22)), (0, .ref (eXa E))] [] h (k + 11) (n + 156) PP X := by
  refine g_aload_n (pc := 934) d_LAW_934 rfl 3 rfl ?_
  refine g_aload_n (pc := 935) d_LAW_935 rfl 4 rfl ?_
  refine g_iload (pc := 936) d_LAW_936 0 rfl ?_
  refine g_iconst (pc := 938) (v := 1) d_LAW_938 (by decide) ?_
  refine g_iadd (pc := 939) d_LAW_939 ?_
  refine g_top (y := nI (j + 1)) (nI_add j 1) ?_
  refine g_sld (pc := 940) (j := j + 1) (by omega) hl d_LAW_940 ?_
  refine g_aload_n (pc := 941) d_LAW_941 rfl 1 rfl ?_
  refine g_callSX (k := k) (n := n) (kz := 11) (nz := 156) (pc := 942) (As := [.ref _, .int _, .ref _]) d_LAW_942 rfl mx_LW_setInspectors st_LAW_212 rfl rfl (Nat.le_of_ble_eq_true rfl) a (fun _ _ z => z.elim) (fun v h1 z => ?_)
  obtain ⟨code, z, hcd, rfl, km, hz, hm⟩ := z
  refine g_istore (pc := 945) (lv' := [(5, .int (nI code)), (4, .int (nI j)), (3, .ref (A 0)), (2, .ref (A 8)), (1, .ref (A 22)), (0, .ref (eXa E))]) d_LAW_945 (by decide) rfl ?_
  refine g_aload_n (pc := 947) d_LAW_947 rfl 3 rfl ?_
  refine g_aload_n (pc := 948) d_LAW_948 rfl 5 rfl ?_
  refine g_iload (pc := 949) d_LAW_949 1 rfl ?_
  refine g_iconst (pc := 951) (v := 1) d_LAW_951 (by decide) ?_
  refine g_iadd (pc := 952) d_LAW_952 ?_
  refine g_top (y := nI (j + 1)) (nI_add j 1) ?_
  refine g_sld (pc := 953) (j := j + 1) (by omega) hl d_LAW_953 ?_
  refine g_callV (k := k) (n := n) (kz := 0) (nz := 0) (pc := 954) (ci := 7) (As := [.int _]) d_LAW_954 rfl mv_MO_setInspectors st_LAW_214 rfl rfl (by decide) km rfl rfl (Nat.le_of_ble_eq_true rfl) hm (fun _ _ z => z.elim) (fun v h2 z => ?_)
  obtain ⟨yv, rfl, e17, hf, eJ, γ', s', L'⟩ := z
  refine g_istore (pc := 957) (lv' := [(6, .int yv), (5, .int (nI code)), (4, .int (nI j)), (3, .ref (A 0)), (2, .ref (A 8)), (1, .ref (A 22)), (0, .ref (eXa E))]) d_LAW_957 (by decide) rfl ?_
  refine g_aload_n (pc := 959) d_LAW_959 rfl 4 rfl ?_
  refine g_cV1 (pc := 960) (ci := 7) (As := []) d_LAW_960 rfl mv_MO_thrown st_LAW_171 rfl rfl (by decide) rfl rfl (Nat.le_of_ble_eq_true rfl) L'.1.2.1.1.1 (thr_ct L') ?_
  refine g_top e17 ?_
  refine g_iload (pc := 963) d_LAW_963 1 rfl ?_
  refine g_icmp_eq (pc := 965) (tgt := 970) d_LAW_965 (by decide) (fun _ => ?_) (fun q => absurd rfl q)
  refine g_iload (pc := 970) d_LAW_970 1 rfl ?_
  refine g_if_ne (pc := 972) (tgt := 987) d_LAW_972 (by decide) (fun q => ?_) (fun q => ?_)
  · skip
    refine g_goto (pc := 987) (tgt := 3284) d_LAW_987 (by decide) ?_
    refine g_perm [2, 3, 4, 5, 6] rfl ?_
    exact kk _ ⟨γ', s', L'⟩
  · have c0 := code0 hcd q
    refine g_aload_n (pc := 975) d_LAW_975 rfl 3 rfl ?_
    refine g_iconst (pc := 976) (v := 0) d_LAW_976 (by decide) ?_
    refine g_laload (pc := 977) d_LAW_977 L'.1.2.1.2.2.2.1 (z_vp L'.1.2.1.2.2.2.2) ?_
    refine g_iload (pc := 978) d_LAW_978 0 rfl ?_
    refine g_i2l (pc := 980) d_LAW_980 ?_
    refine g_lcmp (pc := 981) d_LAW_981 ?_
    refine g_top (y := 0) (by
      show lg_cmp (hJ h2 (A 0) 0) yv.toInt64 = 0
      rw [eJ, hz c0, ← hf c0]
      exact lg_self _) ?_
    refine g_if_eq (pc := 982) (tgt := 987) d_LAW_982 (by decide) (fun _ => ?_) (fun q => absurd rfl q)
    refine g_goto (pc := 987) (tgt := 3284) d_LAW_987 (by decide) ?_
    refine g_perm [2, 3, 4, 5, 6] rfl ?_
    exact kk _ ⟨γ', s', L'⟩
theorem lc_13 {E : En} {h : Hp} {A : Nat → Nat} {j c k n : Nat} {PP : Option Value → Hp → Prop} {X : String → Hp → Prop} (hl : eXl E < 2 ^ 31) (hj : j + 5 < eXl E) (a : AnsW E m_LW_setFee m_MO_setFee fI [.int (eXs E (j + 1))] h A c) (kk : ∀ h1, LOK h1 A (c + 1) → G E m_LAW 3284 [(4, .int (nI j)), (3, .ref (A 0)), (2, .ref (A 8)), (1, .ref (A 22)), (0, .ref (eXa E))] [] h1 k n PP X) : G E m_LAW 990 [(4, .int (nI j)), (3, .ref (A 0)), (2, .ref (A 8)), (1, .ref (A 22)), (0, .ref (eXa E))] [] h (k + 11) (n + 156) PP X := by
  refine g_aload_n (pc := 990) d_LAW_990 rfl 3 rfl ?_
  refine g_aload_n (pc := 991) d_LAW_991 rfl 4 rfl ?_
  refine g_iload (pc := 992) d_LAW_992 0 rfl ?_
  refine g_iconst (pc := 994) (v := 1) d_LAW_994 (by decide) ?_
  refine g_iadd (pc := 995) d_LAW_995 ?_
  refine g_top (y := nI (j + 1)) (nI_add j 1) ?_
  refine g_sld (pc := 996) (j := j + 1) (by omega) hl d_LAW_996 ?_
  refine g_aload_n (pc := 997) d_LAW_997 rfl 1 rfl ?_
  refine g_callSX (k := k) (n := n) (kz := 11) (nz := 156) (pc := 998) (As := [.ref _, .int _, .ref _]) d_LAW_998 rfl mx_LW_setFee st_LAW_215 rfl rfl (Nat.le_of_ble_eq_true rfl) a (fun _ _ z => z.elim) (fun v h1 z => ?_)
  obtain ⟨code, z, hcd, rfl, km, hz, hm⟩ := z
  refine g_istore (pc := 1001) (lv' := [(5, .int (nI code)), (4, .int (nI j)), (3, .ref (A 0)), (2, .ref (A 8)), (1, .ref (A 22)), (0, .ref (eXa E))]) d_LAW_1001 (by decide) rfl ?_
  refine g_aload_n (pc := 1003) d_LAW_1003 rfl 3 rfl ?_
  refine g_aload_n (pc := 1004) d_LAW_1004 rfl 5 rfl ?_
  refine g_iload (pc := 1005) d_LAW_1005 1 rfl ?_
  refine g_iconst (pc := 1007) (v := 1) d_LAW_1007 (by decide) ?_
  refine g_iadd (pc := 1008) d_LAW_1008 ?_
  refine g_top (y := nI (j + 1)) (nI_add j 1) ?_
  refine g_sld (pc := 1009) (j := j + 1) (by omega) hl d_LAW_1009 ?_
  refine g_callV (k := k) (n := n) (kz := 0) (nz := 0) (pc := 1010) (ci := 7) (As := [.int _]) d_LAW_1010 rfl mv_MO_setFee st_LAW_217 rfl rfl (by decide) km rfl rfl (Nat.le_of_ble_eq_true rfl) hm (fun _ _ z => z.elim) (fun v h2 z => ?_)
  obtain ⟨yv, rfl, e17, hf, eJ, γ', s', L'⟩ := z
  refine g_istore (pc := 1013) (lv' := [(6, .int yv), (5, .int (nI code)), (4, .int (nI j)), (3, .ref (A 0)), (2, .ref (A 8)), (1, .ref (A 22)), (0, .ref (eXa E))]) d_LAW_1013 (by decide) rfl ?_
  refine g_aload_n (pc := 1015) d_LAW_1015 rfl 4 rfl ?_
  refine g_cV1 (pc := 1016) (ci := 7) (As := []) d_LAW_1016 rfl mv_MO_thrown st_LAW_171 rfl rfl (by decide) rfl rfl (Nat.le_of_ble_eq_true rfl) L'.1.2.1.1.1 (thr_ct L') ?_
  refine g_top e17 ?_
  refine g_iload (pc := 1019) d_LAW_1019 1 rfl ?_
  refine g_icmp_eq (pc := 1021) (tgt := 1026) d_LAW_1021 (by decide) (fun _ => ?_) (fun q => absurd rfl q)
  refine g_iload (pc := 1026) d_LAW_1026 1 rfl ?_
  refine g_if_ne (pc := 1028) (tgt := 1043) d_LAW_1028 (by decide) (fun q => ?_) (fun q => ?_)
  · skip
    refine g_goto (pc := 1043) (tgt := 3284) d_LAW_1043 (by decide) ?_
    refine g_perm [2, 3, 4, 5, 6] rfl ?_
    exact kk _ ⟨γ', s', L'⟩
  · have c0 := code0 hcd q
    refine g_aload_n (pc := 1031) d_LAW_1031 rfl 3 rfl ?_
    refine g_iconst (pc := 1032) (v := 0) d_LAW_1032 (by decide) ?_
    refine g_laload (pc := 1033) d_LAW_1033 L'.1.2.1.2.2.2.1 (z_vp L'.1.2.1.2.2.2.2) ?_
    refine g_iload (pc := 1034) d_LAW_1034 0 rfl ?_
    refine g_i2l (pc := 1036) d_LAW_1036 ?_
    refine g_lcmp (pc := 1037) d_LAW_1037 ?_
    refine g_top (y := 0) (by
      show lg_cmp (hJ h2 (A 0) 0) yv.toInt64 = 0
      rw [eJ, hz c0, ← hf c0]
      exact lg_self _) ?_
    refine g_if_eq (pc := 1038) (tgt := 1043) d_LAW_1038 (by decide) (fun _ => ?_) (fun q => absurd rfl q)
    refine g_goto (pc := 1043) (tgt := 3284) d_LAW_1043 (by decide) ?_
    refine g_perm [2, 3, 4, 5, 6] rfl ?_
    exact kk _ ⟨γ', s', L'⟩
theorem lc_14 {E : En} {h : Hp} {A : Nat → Nat} {j c k n : Nat} {PP : Option Value → Hp → Prop} {X : String → Hp → Prop} (hl : eXl E < 2 ^ 31) (hj : j + 5 < eXl E) (a : AnsW E m_LW_undo m_MO_undo fI [] h A c) (kk : ∀ h1, LOK h1 A (c + 1) → G E m_LAW 3284 [(4, .int (nI j)), (3, .ref (A 0)), (2, .ref (A 8)), (1, .ref (A 22)), (0, .ref (eXa E))] [] h1 k n PP X) : G E m_LAW 1046 [(4, .int (nI j)), (3, .ref (A 0)), (2, .ref (A 8)), (1, .ref (A 22)), (0, .ref (eXa E))] [] h (k + 11) (n + 156) PP X := by
  refine g_aload_n (pc := 1046) d_LAW_1046 rfl 3 rfl ?_
  refine g_aload_n (pc := 1047) d_LAW_1047 rfl 1 rfl ?_
  refine g_callSX (k := k) (n := n) (kz := 11) (nz := 156) (pc := 1048) (As := [.ref _, .ref _]) d_LAW_1048 rfl mx_LW_undo st_LAW_218 rfl rfl (Nat.le_of_ble_eq_true rfl) a (fun _ _ z => z.elim) (fun v h1 z => ?_)
  obtain ⟨code, z, hcd, rfl, km, hz, hm⟩ := z
  refine g_istore (pc := 1051) (lv' := [(5, .int (nI code)), (4, .int (nI j)), (3, .ref (A 0)), (2, .ref (A 8)), (1, .ref (A 22)), (0, .ref (eXa E))]) d_LAW_1051 (by decide) rfl ?_
  refine g_aload_n (pc := 1053) d_LAW_1053 rfl 3 rfl ?_
  refine g_callV (k := k) (n := n) (kz := 0) (nz := 0) (pc := 1054) (ci := 7) (As := []) d_LAW_1054 rfl mv_MO_undo st_LAW_220 rfl rfl (by decide) km rfl rfl (Nat.le_of_ble_eq_true rfl) hm (fun _ _ z => z.elim) (fun v h2 z => ?_)
  obtain ⟨yv, rfl, e17, hf, eJ, γ', s', L'⟩ := z
  refine g_istore (pc := 1057) (lv' := [(6, .int yv), (5, .int (nI code)), (4, .int (nI j)), (3, .ref (A 0)), (2, .ref (A 8)), (1, .ref (A 22)), (0, .ref (eXa E))]) d_LAW_1057 (by decide) rfl ?_
  refine g_aload_n (pc := 1059) d_LAW_1059 rfl 4 rfl ?_
  refine g_cV1 (pc := 1060) (ci := 7) (As := []) d_LAW_1060 rfl mv_MO_thrown st_LAW_171 rfl rfl (by decide) rfl rfl (Nat.le_of_ble_eq_true rfl) L'.1.2.1.1.1 (thr_ct L') ?_
  refine g_top e17 ?_
  refine g_iload (pc := 1063) d_LAW_1063 1 rfl ?_
  refine g_icmp_eq (pc := 1065) (tgt := 1070) d_LAW_1065 (by decide) (fun _ => ?_) (fun q => absurd rfl q)
  refine g_iload (pc := 1070) d_LAW_1070 1 rfl ?_
  refine g_if_ne (pc := 1072) (tgt := 1087) d_LAW_1072 (by decide) (fun q => ?_) (fun q => ?_)
  · skip
    refine g_goto (pc := 1087) (tgt := 3284) d_LAW_1087 (by decide) ?_
    refine g_perm [2, 3, 4, 5, 6] rfl ?_
    exact kk _ ⟨γ', s', L'⟩
  · have c0 := code0 hcd q
    refine g_aload_n (pc := 1075) d_LAW_1075 rfl 3 rfl ?_
    refine g_iconst (pc := 1076) (v := 0) d_LAW_1076 (by decide) ?_
    refine g_laload (pc := 1077) d_LAW_1077 L'.1.2.1.2.2.2.1 (z_vp L'.1.2.1.2.2.2.2) ?_
    refine g_iload (pc := 1078) d_LAW_1078 0 rfl ?_
    refine g_i2l (pc := 1080) d_LAW_1080 ?_
    refine g_lcmp (pc := 1081) d_LAW_1081 ?_
    refine g_top (y := 0) (by
      show lg_cmp (hJ h2 (A 0) 0) yv.toInt64 = 0
      rw [eJ, hz c0, ← hf c0]
      exact lg_self _) ?_
    refine g_if_eq (pc := 1082) (tgt := 1087) d_LAW_1082 (by decide) (fun _ => ?_) (fun q => absurd rfl q)
    refine g_goto (pc := 1087) (tgt := 3284) d_LAW_1087 (by decide) ?_
    refine g_perm [2, 3, 4, 5, 6] rfl ?_
    exact kk _ ⟨γ', s', L'⟩
theorem lc_15 {E : En} {h : Hp} {A : Nat → Nat} {j c k n : Nat} {PP : Option Value → Hp → Prop} {X : String → Hp → Prop} (hl : eXl E < 2 ^ 31) (hj : j + 5 < eXl E) (a : AnsS E m_LW_saveSnapshot m_MO_saveSnapshot [.int (eXs E (j + 1))] h A c) (kk : ∀ h1, LOK h1 A (c + 1) → G E m_LAW 3284 [(4, .int (nI j)), (3, .ref (A 0)), (2, .ref (A 8)), (1, .ref (A 22)), (0, .ref (eXa E))] [] h1 k n PP X) : G E m_LAW 1090 [(4, .int (nI j)), (3, .ref (A 0)), (2, .ref (A 8)), (1, .ref (A 22)), (0, .ref (eXa E))] [] h (k + 11) (n + 156) PP X := by
  refine g_aload_n (pc := 1090) d_LAW_1090 rfl 3 rfl ?_
  refine g_aload_n (pc := 1091) d_LAW_1091 rfl 4 rfl ?_
  refine g_iload (pc := 1092) d_LAW_1092 0 rfl ?_
  refine g_iconst (pc := 1094) (v := 1) d_LAW_1094 (by decide) ?_
  refine g_iadd (pc := 1095) d_LAW_1095 ?_
  refine g_top (y := nI (j + 1)) (nI_add j 1) ?_
  refine g_sld (pc := 1096) (j := j + 1) (by omega) hl d_LAW_1096 ?_
  refine g_callSX (k := k) (n := n) (kz := 11) (nz := 156) (pc := 1097) (As := [.ref _, .int _]) d_LAW_1097 rfl mx_LW_saveSnapshot st_LAW_221 rfl rfl (Nat.le_of_ble_eq_true rfl) a (fun _ _ z => z.elim) (fun v h1 z => ?_)
  obtain ⟨code, hcd, rfl, km, hm⟩ := z
  refine g_istore (pc := 1100) (lv' := [(5, .int (nI code)), (4, .int (nI j)), (3, .ref (A 0)), (2, .ref (A 8)), (1, .ref (A 22)), (0, .ref (eXa E))]) d_LAW_1100 (by decide) rfl ?_
  refine g_aload_n (pc := 1102) d_LAW_1102 rfl 3 rfl ?_
  refine g_aload_n (pc := 1103) d_LAW_1103 rfl 5 rfl ?_
  refine g_iload (pc := 1104) d_LAW_1104 1 rfl ?_
  refine g_iconst (pc := 1106) (v := 1) d_LAW_1106 (by decide) ?_
  refine g_iadd (pc := 1107) d_LAW_1107 ?_
  refine g_top (y := nI (j + 1)) (nI_add j 1) ?_
  refine g_sld (pc := 1108) (j := j + 1) (by omega) hl d_LAW_1108 ?_
  refine g_callV (k := k) (n := n) (kz := 0) (nz := 0) (pc := 1109) (ci := 7) (As := [.int _]) d_LAW_1109 rfl mv_MO_saveSnapshot st_LAW_224 rfl rfl (by decide) km rfl rfl (Nat.le_of_ble_eq_true rfl) hm (fun _ _ z => z.elim) (fun v h2 z => ?_)
  obtain ⟨rfl, e17, γ', s', L'⟩ := z
  refine g_aload_n (pc := 1112) d_LAW_1112 rfl 3 rfl ?_
  refine g_cV1 (pc := 1113) (ci := 7) (As := []) d_LAW_1113 rfl mv_MO_thrown st_LAW_171 rfl rfl (by decide) rfl rfl (Nat.le_of_ble_eq_true rfl) L'.1.2.1.1.1 (thr_ct L') ?_
  refine g_top e17 ?_
  refine g_iload (pc := 1116) d_LAW_1116 0 rfl ?_
  refine g_icmp_eq (pc := 1118) (tgt := 1123) d_LAW_1118 (by decide) (fun _ => ?_) (fun q => absurd rfl q)
  refine g_goto (pc := 1123) (tgt := 3284) d_LAW_1123 (by decide) ?_
  refine g_perm [1, 2, 3, 4, 5] rfl ?_
  exact kk _ ⟨γ', s', L'⟩
theorem lc_16 {E : En} {h : Hp} {A : Nat → Nat} {j c k n : Nat} {PP : Option Value → Hp → Prop} {X : String → Hp → Prop} (hl : eXl E < 2 ^ 31) (hj : j + 5 < eXl E) (a : AnsW E m_LW_restoreSnapshot m_MO_restoreSnapshot fI [.int (eXs E (j + 1))] h A c) (kk : ∀ h1, LOK h1 A (c + 1) → G E m_LAW 3284 [(4, .int (nI j)), (3, .ref (A 0)), (2, .ref (A 8)), (1, .ref (A 22)), (0, .ref (eXa E))] [] h1 k n PP X) : G E m_LAW 1126 [(4, .int (nI j)), (3, .ref (A 0)), (2, .ref (A 8)), (1, .ref (A 22)), (0, .ref (eXa E))] [] h (k + 11) (n + 156) PP X := by
  refine g_aload_n (pc := 1126) d_LAW_1126 rfl 3 rfl ?_
  refine g_aload_n (pc := 1127) d_LAW_1127 rfl 4 rfl ?_
  refine g_iload (pc := 1128) d_LAW_1128 0 rfl ?_
  refine g_iconst (pc := 1130) (v := 1) d_LAW_1130 (by decide) ?_
  refine g_iadd (pc := 1131) d_LAW_1131 ?_
  refine g_top (y := nI (j + 1)) (nI_add j 1) ?_
  refine g_sld (pc := 1132) (j := j + 1) (by omega) hl d_LAW_1132 ?_
  refine g_aload_n (pc := 1133) d_LAW_1133 rfl 1 rfl ?_
  refine g_callSX (k := k) (n := n) (kz := 11) (nz := 156) (pc := 1134) (As := [.ref _, .int _, .ref _]) d_LAW_1134 rfl mx_LW_restoreSnapshot st_LAW_225 rfl rfl (Nat.le_of_ble_eq_true rfl) a (fun _ _ z => z.elim) (fun v h1 z => ?_)
  obtain ⟨code, z, hcd, rfl, km, hz, hm⟩ := z
  refine g_istore (pc := 1137) (lv' := [(5, .int (nI code)), (4, .int (nI j)), (3, .ref (A 0)), (2, .ref (A 8)), (1, .ref (A 22)), (0, .ref (eXa E))]) d_LAW_1137 (by decide) rfl ?_
  refine g_aload_n (pc := 1139) d_LAW_1139 rfl 3 rfl ?_
  refine g_aload_n (pc := 1140) d_LAW_1140 rfl 5 rfl ?_
  refine g_iload (pc := 1141) d_LAW_1141 1 rfl ?_
  refine g_iconst (pc := 1143) (v := 1) d_LAW_1143 (by decide) ?_
  refine g_iadd (pc := 1144) d_LAW_1144 ?_
  refine g_top (y := nI (j + 1)) (nI_add j 1) ?_
  refine g_sld (pc := 1145) (j := j + 1) (by omega) hl d_LAW_1145 ?_
  refine g_callV (k := k) (n := n) (kz := 0) (nz := 0) (pc := 1146) (ci := 7) (As := [.int _]) d_LAW_1146 rfl mv_MO_restoreSnapshot st_LAW_227 rfl rfl (by decide) km rfl rfl (Nat.le_of_ble_eq_true rfl) hm (fun _ _ z => z.elim) (fun v h2 z => ?_)
  obtain ⟨yv, rfl, e17, hf, eJ, γ', s', L'⟩ := z
  refine g_istore (pc := 1149) (lv' := [(6, .int yv), (5, .int (nI code)), (4, .int (nI j)), (3, .ref (A 0)), (2, .ref (A 8)), (1, .ref (A 22)), (0, .ref (eXa E))]) d_LAW_1149 (by decide) rfl ?_
  refine g_aload_n (pc := 1151) d_LAW_1151 rfl 4 rfl ?_
  refine g_cV1 (pc := 1152) (ci := 7) (As := []) d_LAW_1152 rfl mv_MO_thrown st_LAW_171 rfl rfl (by decide) rfl rfl (Nat.le_of_ble_eq_true rfl) L'.1.2.1.1.1 (thr_ct L') ?_
  refine g_top e17 ?_
  refine g_iload (pc := 1155) d_LAW_1155 1 rfl ?_
  refine g_icmp_eq (pc := 1157) (tgt := 1162) d_LAW_1157 (by decide) (fun _ => ?_) (fun q => absurd rfl q)
  refine g_iload (pc := 1162) d_LAW_1162 1 rfl ?_
  refine g_if_ne (pc := 1164) (tgt := 1179) d_LAW_1164 (by decide) (fun q => ?_) (fun q => ?_)
  · skip
    refine g_goto (pc := 1179) (tgt := 3284) d_LAW_1179 (by decide) ?_
    refine g_perm [2, 3, 4, 5, 6] rfl ?_
    exact kk _ ⟨γ', s', L'⟩
  · have c0 := code0 hcd q
    refine g_aload_n (pc := 1167) d_LAW_1167 rfl 3 rfl ?_
    refine g_iconst (pc := 1168) (v := 0) d_LAW_1168 (by decide) ?_
    refine g_laload (pc := 1169) d_LAW_1169 L'.1.2.1.2.2.2.1 (z_vp L'.1.2.1.2.2.2.2) ?_
    refine g_iload (pc := 1170) d_LAW_1170 0 rfl ?_
    refine g_i2l (pc := 1172) d_LAW_1172 ?_
    refine g_lcmp (pc := 1173) d_LAW_1173 ?_
    refine g_top (y := 0) (by
      show lg_cmp (hJ h2 (A 0) 0) yv.toInt64 = 0
      rw [eJ, hz c0, ← hf c0]
      exact lg_self _) ?_
    refine g_if_eq (pc := 1174) (tgt := 1179) d_LAW_1174 (by decide) (fun _ => ?_) (fun q => absurd rfl q)
    refine g_goto (pc := 1179) (tgt := 3284) d_LAW_1179 (by decide) ?_
    refine g_perm [2, 3, 4, 5, 6] rfl ?_
    exact kk _ ⟨γ', s', L'⟩
theorem lc_17 {E : En} {h : Hp} {A : Nat → Nat} {j c k n : Nat} {PP : Option Value → Hp → Prop} {X : String → Hp → Prop} (hl : eXl E < 2 ^ 31) (hj : j + 5 < eXl E) (k_x : hK h (A 22) = 1) (a : AnsD E m_HS_day m_MO_day [] h A c) (kk : ∀ h1, LOK h1 A (c + 1) → G E m_LAW 3284 [(4, .int (nI j)), (3, .ref (A 0)), (2, .ref (A 8)), (1, .ref (A 22)), (0, .ref (eXa E))] [] h1 k n PP X) : G E m_LAW 1182 [(4, .int (nI j)), (3, .ref (A 0)), (2, .ref (A 8)), (1, .ref (A 22)), (0, .ref (eXa E))] [] h k n PP X := by
  refine g_aload_n (pc := 1182) d_LAW_1182 rfl 3 rfl ?_
  refine g_callV (k := k) (n := n) (kz := 0) (nz := 0) (pc := 1183) (ci := 0) (As := []) d_LAW_1183 rfl mv_HS_day st_LAW_228 rfl rfl (by decide) k_x rfl rfl (Nat.le_of_ble_eq_true rfl) a (fun _ _ z => z.elim) (fun v h1 z => ?_)
  obtain ⟨z9, rfl, km, hm⟩ := z
  refine g_aload_n (pc := 1186) d_LAW_1186 rfl 2 rfl ?_
  refine g_callV (k := k) (n := n) (kz := 0) (nz := 0) (pc := 1187) (ci := 7) (As := []) d_LAW_1187 rfl mv_MO_day st_LAW_231 rfl rfl (by decide) km rfl rfl (Nat.le_of_ble_eq_true rfl) hm (fun _ _ z => z.elim) (fun v h2 z => ?_)
  obtain ⟨rfl, L'⟩ := z
  refine g_icmp_eq (pc := 1190) (tgt := 3284) d_LAW_1190 (by decide) (fun _ => ?_) (fun q => absurd rfl q)
  exact kk _ L'
theorem lc_18 {E : En} {h : Hp} {A : Nat → Nat} {j c k n : Nat} {PP : Option Value → Hp → Prop} {X : String → Hp → Prop} (hl : eXl E < 2 ^ 31) (hj : j + 5 < eXl E) (k_x : hK h (A 22) = 1) (a : AnsD E m_HS_weightCount m_MO_weightCount [] h A c) (kk : ∀ h1, LOK h1 A (c + 1) → G E m_LAW 3284 [(4, .int (nI j)), (3, .ref (A 0)), (2, .ref (A 8)), (1, .ref (A 22)), (0, .ref (eXa E))] [] h1 k n PP X) : G E m_LAW 1195 [(4, .int (nI j)), (3, .ref (A 0)), (2, .ref (A 8)), (1, .ref (A 22)), (0, .ref (eXa E))] [] h k n PP X := by
  refine g_aload_n (pc := 1195) d_LAW_1195 rfl 3 rfl ?_
  refine g_callV (k := k) (n := n) (kz := 0) (nz := 0) (pc := 1196) (ci := 0) (As := []) d_LAW_1196 rfl mv_HS_weightCount st_LAW_232 rfl rfl (by decide) k_x rfl rfl (Nat.le_of_ble_eq_true rfl) a (fun _ _ z => z.elim) (fun v h1 z => ?_)
  obtain ⟨z9, rfl, km, hm⟩ := z
  refine g_aload_n (pc := 1199) d_LAW_1199 rfl 2 rfl ?_
  refine g_callV (k := k) (n := n) (kz := 0) (nz := 0) (pc := 1200) (ci := 7) (As := []) d_LAW_1200 rfl mv_MO_weightCount st_LAW_235 rfl rfl (by decide) km rfl rfl (Nat.le_of_ble_eq_true rfl) hm (fun _ _ z => z.elim) (fun v h2 z => ?_)
  obtain ⟨rfl, L'⟩ := z
  refine g_icmp_eq (pc := 1203) (tgt := 3284) d_LAW_1203 (by decide) (fun _ => ?_) (fun q => absurd rfl q)
  exact kk _ L'
theorem lc_19 {E : En} {h : Hp} {A : Nat → Nat} {j c k n : Nat} {PP : Option Value → Hp → Prop} {X : String → Hp → Prop} (hl : eXl E < 2 ^ 31) (hj : j + 5 < eXl E) (a : AnsW E m_LW_testWeight m_MO_testWeight fI [.int (eXs E (j + 1))] h A c) (kk : ∀ h1, LOK h1 A (c + 1) → G E m_LAW 3284 [(4, .int (nI j)), (3, .ref (A 0)), (2, .ref (A 8)), (1, .ref (A 22)), (0, .ref (eXa E))] [] h1 k n PP X) : G E m_LAW 1208 [(4, .int (nI j)), (3, .ref (A 0)), (2, .ref (A 8)), (1, .ref (A 22)), (0, .ref (eXa E))] [] h (k + 11) (n + 156) PP X := by
  refine g_aload_n (pc := 1208) d_LAW_1208 rfl 3 rfl ?_
  refine g_aload_n (pc := 1209) d_LAW_1209 rfl 4 rfl ?_
  refine g_iload (pc := 1210) d_LAW_1210 0 rfl ?_
  refine g_iconst (pc := 1212) (v := 1) d_LAW_1212 (by decide) ?_
  refine g_iadd (pc := 1213) d_LAW_1213 ?_
  refine g_top (y := nI (j + 1)) (nI_add j 1) ?_
  refine g_sld (pc := 1214) (j := j + 1) (by omega) hl d_LAW_1214 ?_
  refine g_aload_n (pc := 1215) d_LAW_1215 rfl 1 rfl ?_
  refine g_callSX (k := k) (n := n) (kz := 11) (nz := 156) (pc := 1216) (As := [.ref _, .int _, .ref _]) d_LAW_1216 rfl mx_LW_testWeight st_LAW_236 rfl rfl (Nat.le_of_ble_eq_true rfl) a (fun _ _ z => z.elim) (fun v h1 z => ?_)
  obtain ⟨code, z, hcd, rfl, km, hz, hm⟩ := z
  refine g_istore (pc := 1219) (lv' := [(5, .int (nI code)), (4, .int (nI j)), (3, .ref (A 0)), (2, .ref (A 8)), (1, .ref (A 22)), (0, .ref (eXa E))]) d_LAW_1219 (by decide) rfl ?_
  refine g_aload_n (pc := 1221) d_LAW_1221 rfl 3 rfl ?_
  refine g_aload_n (pc := 1222) d_LAW_1222 rfl 5 rfl ?_
  refine g_iload (pc := 1223) d_LAW_1223 1 rfl ?_
  refine g_iconst (pc := 1225) (v := 1) d_LAW_1225 (by decide) ?_
  refine g_iadd (pc := 1226) d_LAW_1226 ?_
  refine g_top (y := nI (j + 1)) (nI_add j 1) ?_
  refine g_sld (pc := 1227) (j := j + 1) (by omega) hl d_LAW_1227 ?_
  refine g_callV (k := k) (n := n) (kz := 0) (nz := 0) (pc := 1228) (ci := 7) (As := [.int _]) d_LAW_1228 rfl mv_MO_testWeight st_LAW_238 rfl rfl (by decide) km rfl rfl (Nat.le_of_ble_eq_true rfl) hm (fun _ _ z => z.elim) (fun v h2 z => ?_)
  obtain ⟨yv, rfl, e17, hf, eJ, γ', s', L'⟩ := z
  refine g_istore (pc := 1231) (lv' := [(6, .int yv), (5, .int (nI code)), (4, .int (nI j)), (3, .ref (A 0)), (2, .ref (A 8)), (1, .ref (A 22)), (0, .ref (eXa E))]) d_LAW_1231 (by decide) rfl ?_
  refine g_aload_n (pc := 1233) d_LAW_1233 rfl 4 rfl ?_
  refine g_cV1 (pc := 1234) (ci := 7) (As := []) d_LAW_1234 rfl mv_MO_thrown st_LAW_171 rfl rfl (by decide) rfl rfl (Nat.le_of_ble_eq_true rfl) L'.1.2.1.1.1 (thr_ct L') ?_
  refine g_top e17 ?_
  refine g_iload (pc := 1237) d_LAW_1237 1 rfl ?_
  refine g_icmp_eq (pc := 1239) (tgt := 1244) d_LAW_1239 (by decide) (fun _ => ?_) (fun q => absurd rfl q)
  refine g_iload (pc := 1244) d_LAW_1244 1 rfl ?_
  refine g_if_ne (pc := 1246) (tgt := 1261) d_LAW_1246 (by decide) (fun q => ?_) (fun q => ?_)
  · skip
    refine g_goto (pc := 1261) (tgt := 3284) d_LAW_1261 (by decide) ?_
    refine g_perm [2, 3, 4, 5, 6] rfl ?_
    exact kk _ ⟨γ', s', L'⟩
  · have c0 := code0 hcd q
    refine g_aload_n (pc := 1249) d_LAW_1249 rfl 3 rfl ?_
    refine g_iconst (pc := 1250) (v := 0) d_LAW_1250 (by decide) ?_
    refine g_laload (pc := 1251) d_LAW_1251 L'.1.2.1.2.2.2.1 (z_vp L'.1.2.1.2.2.2.2) ?_
    refine g_iload (pc := 1252) d_LAW_1252 0 rfl ?_
    refine g_i2l (pc := 1254) d_LAW_1254 ?_
    refine g_lcmp (pc := 1255) d_LAW_1255 ?_
    refine g_top (y := 0) (by
      show lg_cmp (hJ h2 (A 0) 0) yv.toInt64 = 0
      rw [eJ, hz c0, ← hf c0]
      exact lg_self _) ?_
    refine g_if_eq (pc := 1256) (tgt := 1261) d_LAW_1256 (by decide) (fun _ => ?_) (fun q => absurd rfl q)
    refine g_goto (pc := 1261) (tgt := 3284) d_LAW_1261 (by decide) ?_
    refine g_perm [2, 3, 4, 5, 6] rfl ?_
    exact kk _ ⟨γ', s', L'⟩
theorem lc_20 {E : En} {h : Hp} {A : Nat → Nat} {j c k n : Nat} {PP : Option Value → Hp → Prop} {X : String → Hp → Prop} (hl : eXl E < 2 ^ 31) (hj : j + 5 < eXl E) (a : AnsW E m_LW_bound m_MO_bound fI [.int (eXs E (j + 1))] h A c) (kk : ∀ h1, LOK h1 A (c + 1) → G E m_LAW 3284 [(4, .int (nI j)), (3, .ref (A 0)), (2, .ref (A 8)), (1, .ref (A 22)), (0, .ref (eXa E))] [] h1 k n PP X) : G E m_LAW 1264 [(4, .int (nI j)), (3, .ref (A 0)), (2, .ref (A 8)), (1, .ref (A 22)), (0, .ref (eXa E))] [] h (k + 11) (n + 156) PP X := by
  refine g_aload_n (pc := 1264) d_LAW_1264 rfl 3 rfl ?_
  refine g_aload_n (pc := 1265) d_LAW_1265 rfl 4 rfl ?_
  refine g_iload (pc := 1266) d_LAW_1266 0 rfl ?_
  refine g_iconst (pc := 1268) (v := 1) d_LAW_1268 (by decide) ?_
  refine g_iadd (pc := 1269) d_LAW_1269 ?_
  refine g_top (y := nI (j + 1)) (nI_add j 1) ?_
  refine g_sld (pc := 1270) (j := j + 1) (by omega) hl d_LAW_1270 ?_
  refine g_aload_n (pc := 1271) d_LAW_1271 rfl 1 rfl ?_
  refine g_callSX (k := k) (n := n) (kz := 11) (nz := 156) (pc := 1272) (As := [.ref _, .int _, .ref _]) d_LAW_1272 rfl mx_LW_bound st_LAW_239 rfl rfl (Nat.le_of_ble_eq_true rfl) a (fun _ _ z => z.elim) (fun v h1 z => ?_)
  obtain ⟨code, z, hcd, rfl, km, hz, hm⟩ := z
  refine g_istore (pc := 1275) (lv' := [(5, .int (nI code)), (4, .int (nI j)), (3, .ref (A 0)), (2, .ref (A 8)), (1, .ref (A 22)), (0, .ref (eXa E))]) d_LAW_1275 (by decide) rfl ?_
  refine g_aload_n (pc := 1277) d_LAW_1277 rfl 3 rfl ?_
  refine g_aload_n (pc := 1278) d_LAW_1278 rfl 5 rfl ?_
  refine g_iload (pc := 1279) d_LAW_1279 1 rfl ?_
  refine g_iconst (pc := 1281) (v := 1) d_LAW_1281 (by decide) ?_
  refine g_iadd (pc := 1282) d_LAW_1282 ?_
  refine g_top (y := nI (j + 1)) (nI_add j 1) ?_
  refine g_sld (pc := 1283) (j := j + 1) (by omega) hl d_LAW_1283 ?_
  refine g_callV (k := k) (n := n) (kz := 0) (nz := 0) (pc := 1284) (ci := 7) (As := [.int _]) d_LAW_1284 rfl mv_MO_bound st_LAW_241 rfl rfl (by decide) km rfl rfl (Nat.le_of_ble_eq_true rfl) hm (fun _ _ z => z.elim) (fun v h2 z => ?_)
  obtain ⟨yv, rfl, e17, hf, eJ, γ', s', L'⟩ := z
  refine g_istore (pc := 1287) (lv' := [(6, .int yv), (5, .int (nI code)), (4, .int (nI j)), (3, .ref (A 0)), (2, .ref (A 8)), (1, .ref (A 22)), (0, .ref (eXa E))]) d_LAW_1287 (by decide) rfl ?_
  refine g_aload_n (pc := 1289) d_LAW_1289 rfl 4 rfl ?_
  refine g_cV1 (pc := 1290) (ci := 7) (As := []) d_LAW_1290 rfl mv_MO_thrown st_LAW_171 rfl rfl (by decide) rfl rfl (Nat.le_of_ble_eq_true rfl) L'.1.2.1.1.1 (thr_ct L') ?_
  refine g_top e17 ?_
  refine g_iload (pc := 1293) d_LAW_1293 1 rfl ?_
  refine g_icmp_eq (pc := 1295) (tgt := 1300) d_LAW_1295 (by decide) (fun _ => ?_) (fun q => absurd rfl q)
  refine g_iload (pc := 1300) d_LAW_1300 1 rfl ?_
  refine g_if_ne (pc := 1302) (tgt := 1317) d_LAW_1302 (by decide) (fun q => ?_) (fun q => ?_)
  · skip
    refine g_goto (pc := 1317) (tgt := 3284) d_LAW_1317 (by decide) ?_
    refine g_perm [2, 3, 4, 5, 6] rfl ?_
    exact kk _ ⟨γ', s', L'⟩
  · have c0 := code0 hcd q
    refine g_aload_n (pc := 1305) d_LAW_1305 rfl 3 rfl ?_
    refine g_iconst (pc := 1306) (v := 0) d_LAW_1306 (by decide) ?_
    refine g_laload (pc := 1307) d_LAW_1307 L'.1.2.1.2.2.2.1 (z_vp L'.1.2.1.2.2.2.2) ?_
    refine g_iload (pc := 1308) d_LAW_1308 0 rfl ?_
    refine g_i2l (pc := 1310) d_LAW_1310 ?_
    refine g_lcmp (pc := 1311) d_LAW_1311 ?_
    refine g_top (y := 0) (by
      show lg_cmp (hJ h2 (A 0) 0) yv.toInt64 = 0
      rw [eJ, hz c0, ← hf c0]
      exact lg_self _) ?_
    refine g_if_eq (pc := 1312) (tgt := 1317) d_LAW_1312 (by decide) (fun _ => ?_) (fun q => absurd rfl q)
    refine g_goto (pc := 1317) (tgt := 3284) d_LAW_1317 (by decide) ?_
    refine g_perm [2, 3, 4, 5, 6] rfl ?_
    exact kk _ ⟨γ', s', L'⟩
theorem lc_21 {E : En} {h : Hp} {A : Nat → Nat} {j c k n : Nat} {PP : Option Value → Hp → Prop} {X : String → Hp → Prop} (hl : eXl E < 2 ^ 31) (hj : j + 5 < eXl E) (k_x : hK h (A 22) = 1) (a : AnsD E m_HS_fee m_MO_fee [] h A c) (kk : ∀ h1, LOK h1 A (c + 1) → G E m_LAW 3284 [(4, .int (nI j)), (3, .ref (A 0)), (2, .ref (A 8)), (1, .ref (A 22)), (0, .ref (eXa E))] [] h1 k n PP X) : G E m_LAW 1320 [(4, .int (nI j)), (3, .ref (A 0)), (2, .ref (A 8)), (1, .ref (A 22)), (0, .ref (eXa E))] [] h k n PP X := by
  refine g_aload_n (pc := 1320) d_LAW_1320 rfl 3 rfl ?_
  refine g_callV (k := k) (n := n) (kz := 0) (nz := 0) (pc := 1321) (ci := 0) (As := []) d_LAW_1321 rfl mv_HS_fee st_LAW_242 rfl rfl (by decide) k_x rfl rfl (Nat.le_of_ble_eq_true rfl) a (fun _ _ z => z.elim) (fun v h1 z => ?_)
  obtain ⟨z9, rfl, km, hm⟩ := z
  refine g_aload_n (pc := 1324) d_LAW_1324 rfl 2 rfl ?_
  refine g_callV (k := k) (n := n) (kz := 0) (nz := 0) (pc := 1325) (ci := 7) (As := []) d_LAW_1325 rfl mv_MO_fee st_LAW_245 rfl rfl (by decide) km rfl rfl (Nat.le_of_ble_eq_true rfl) hm (fun _ _ z => z.elim) (fun v h2 z => ?_)
  obtain ⟨rfl, L'⟩ := z
  refine g_icmp_eq (pc := 1328) (tgt := 3284) d_LAW_1328 (by decide) (fun _ => ?_) (fun q => absurd rfl q)
  exact kk _ L'
theorem lc_22 {E : En} {h : Hp} {A : Nat → Nat} {j c k n : Nat} {PP : Option Value → Hp → Prop} {X : String → Hp → Prop} (hl : eXl E < 2 ^ 31) (hj : j + 5 < eXl E) (k_x : hK h (A 22) = 1) (a : AnsD E m_HS_inspectors m_MO_inspectors [] h A c) (kk : ∀ h1, LOK h1 A (c + 1) → G E m_LAW 3284 [(4, .int (nI j)), (3, .ref (A 0)), (2, .ref (A 8)), (1, .ref (A 22)), (0, .ref (eXa E))] [] h1 k n PP X) : G E m_LAW 1333 [(4, .int (nI j)), (3, .ref (A 0)), (2, .ref (A 8)), (1, .ref (A 22)), (0, .ref (eXa E))] [] h k n PP X := by
  refine g_aload_n (pc := 1333) d_LAW_1333 rfl 3 rfl ?_
  refine g_callV (k := k) (n := n) (kz := 0) (nz := 0) (pc := 1334) (ci := 0) (As := []) d_LAW_1334 rfl mv_HS_inspectors st_LAW_246 rfl rfl (by decide) k_x rfl rfl (Nat.le_of_ble_eq_true rfl) a (fun _ _ z => z.elim) (fun v h1 z => ?_)
  obtain ⟨z9, rfl, km, hm⟩ := z
  refine g_aload_n (pc := 1337) d_LAW_1337 rfl 2 rfl ?_
  refine g_callV (k := k) (n := n) (kz := 0) (nz := 0) (pc := 1338) (ci := 7) (As := []) d_LAW_1338 rfl mv_MO_inspectors st_LAW_249 rfl rfl (by decide) km rfl rfl (Nat.le_of_ble_eq_true rfl) hm (fun _ _ z => z.elim) (fun v h2 z => ?_)
  obtain ⟨rfl, L'⟩ := z
  refine g_icmp_eq (pc := 1341) (tgt := 3284) d_LAW_1341 (by decide) (fun _ => ?_) (fun q => absurd rfl q)
  exact kk _ L'
theorem lc_23 {E : En} {h : Hp} {A : Nat → Nat} {j c k n : Nat} {PP : Option Value → Hp → Prop} {X : String → Hp → Prop} (hl : eXl E < 2 ^ 31) (hj : j + 5 < eXl E) (k_x : hK h (A 22) = 1) (a : AnsD E m_HS_seed m_MO_seed [] h A c) (kk : ∀ h1, LOK h1 A (c + 1) → G E m_LAW 3284 [(4, .int (nI j)), (3, .ref (A 0)), (2, .ref (A 8)), (1, .ref (A 22)), (0, .ref (eXa E))] [] h1 k n PP X) : G E m_LAW 1346 [(4, .int (nI j)), (3, .ref (A 0)), (2, .ref (A 8)), (1, .ref (A 22)), (0, .ref (eXa E))] [] h k n PP X := by
  refine g_aload_n (pc := 1346) d_LAW_1346 rfl 3 rfl ?_
  refine g_callV (k := k) (n := n) (kz := 0) (nz := 0) (pc := 1347) (ci := 0) (As := []) d_LAW_1347 rfl mv_HS_seed st_LAW_250 rfl rfl (by decide) k_x rfl rfl (Nat.le_of_ble_eq_true rfl) a (fun _ _ z => z.elim) (fun v h1 z => ?_)
  obtain ⟨z9, rfl, km, hm⟩ := z
  refine g_aload_n (pc := 1350) d_LAW_1350 rfl 2 rfl ?_
  refine g_callV (k := k) (n := n) (kz := 0) (nz := 0) (pc := 1351) (ci := 7) (As := []) d_LAW_1351 rfl mv_MO_seed st_LAW_253 rfl rfl (by decide) km rfl rfl (Nat.le_of_ble_eq_true rfl) hm (fun _ _ z => z.elim) (fun v h2 z => ?_)
  obtain ⟨rfl, L'⟩ := z
  refine g_icmp_eq (pc := 1354) (tgt := 3284) d_LAW_1354 (by decide) (fun _ => ?_) (fun q => absurd rfl q)
  exact kk _ L'
theorem lc_24 {E : En} {h : Hp} {A : Nat → Nat} {j c k n : Nat} {PP : Option Value → Hp → Prop} {X : String → Hp → Prop} (hl : eXl E < 2 ^ 31) (hj : j + 5 < eXl E) (k_x : hK h (A 22) = 1) (a : AnsD E m_HS_bureauCoins m_MO_bureauCoins [] h A c) (kk : ∀ h1, LOK h1 A (c + 1) → G E m_LAW 3284 [(4, .int (nI j)), (3, .ref (A 0)), (2, .ref (A 8)), (1, .ref (A 22)), (0, .ref (eXa E))] [] h1 k n PP X) : G E m_LAW 1359 [(4, .int (nI j)), (3, .ref (A 0)), (2, .ref (A 8)), (1, .ref (A 22)), (0, .ref (eXa E))] [] h k n PP X := by
  refine g_aload_n (pc := 1359) d_LAW_1359 rfl 3 rfl ?_
  refine g_callV (k := k) (n := n) (kz := 0) (nz := 0) (pc := 1360) (ci := 0) (As := []) d_LAW_1360 rfl mv_HS_bureauCoins st_LAW_254 rfl rfl (by decide) k_x rfl rfl (Nat.le_of_ble_eq_true rfl) a (fun _ _ z => z.elim) (fun v h1 z => ?_)
  obtain ⟨z9, rfl, km, hm⟩ := z
  refine g_aload_n (pc := 1363) d_LAW_1363 rfl 2 rfl ?_
  refine g_callV (k := k) (n := n) (kz := 0) (nz := 0) (pc := 1364) (ci := 7) (As := []) d_LAW_1364 rfl mv_MO_bureauCoins st_LAW_257 rfl rfl (by decide) km rfl rfl (Nat.le_of_ble_eq_true rfl) hm (fun _ _ z => z.elim) (fun v h2 z => ?_)
  obtain ⟨rfl, L'⟩ := z
  refine g_icmp_eq (pc := 1367) (tgt := 3284) d_LAW_1367 (by decide) (fun _ => ?_) (fun q => absurd rfl q)
  exact kk _ L'
theorem lc_25 {E : En} {h : Hp} {A : Nat → Nat} {j c k n : Nat} {PP : Option Value → Hp → Prop} {X : String → Hp → Prop} (hl : eXl E < 2 ^ 31) (hj : j + 5 < eXl E) (k_x : hK h (A 22) = 1) (a : AnsD E m_HS_visits m_MO_visits [] h A c) (kk : ∀ h1, LOK h1 A (c + 1) → G E m_LAW 3284 [(4, .int (nI j)), (3, .ref (A 0)), (2, .ref (A 8)), (1, .ref (A 22)), (0, .ref (eXa E))] [] h1 k n PP X) : G E m_LAW 1372 [(4, .int (nI j)), (3, .ref (A 0)), (2, .ref (A 8)), (1, .ref (A 22)), (0, .ref (eXa E))] [] h k n PP X := by
  refine g_aload_n (pc := 1372) d_LAW_1372 rfl 3 rfl ?_
  refine g_callV (k := k) (n := n) (kz := 0) (nz := 0) (pc := 1373) (ci := 0) (As := []) d_LAW_1373 rfl mv_HS_visits st_LAW_258 rfl rfl (by decide) k_x rfl rfl (Nat.le_of_ble_eq_true rfl) a (fun _ _ z => z.elim) (fun v h1 z => ?_)
  obtain ⟨z9, rfl, km, hm⟩ := z
  refine g_aload_n (pc := 1376) d_LAW_1376 rfl 2 rfl ?_
  refine g_callV (k := k) (n := n) (kz := 0) (nz := 0) (pc := 1377) (ci := 7) (As := []) d_LAW_1377 rfl mv_MO_visits st_LAW_261 rfl rfl (by decide) km rfl rfl (Nat.le_of_ble_eq_true rfl) hm (fun _ _ z => z.elim) (fun v h2 z => ?_)
  obtain ⟨rfl, L'⟩ := z
  refine g_icmp_eq (pc := 1380) (tgt := 3284) d_LAW_1380 (by decide) (fun _ => ?_) (fun q => absurd rfl q)
  exact kk _ L'
theorem lc_26 {E : En} {h : Hp} {A : Nat → Nat} {j c k n : Nat} {PP : Option Value → Hp → Prop} {X : String → Hp → Prop} (hl : eXl E < 2 ^ 31) (hj : j + 5 < eXl E) (a : AnsW E m_LW_offset m_MO_offset fI [.int (eXs E (j + 1))] h A c) (kk : ∀ h1, LOK h1 A (c + 1) → G E m_LAW 3284 [(4, .int (nI j)), (3, .ref (A 0)), (2, .ref (A 8)), (1, .ref (A 22)), (0, .ref (eXa E))] [] h1 k n PP X) : G E m_LAW 1385 [(4, .int (nI j)), (3, .ref (A 0)), (2, .ref (A 8)), (1, .ref (A 22)), (0, .ref (eXa E))] [] h (k + 11) (n + 156) PP X := by
  refine g_aload_n (pc := 1385) d_LAW_1385 rfl 3 rfl ?_
  refine g_aload_n (pc := 1386) d_LAW_1386 rfl 4 rfl ?_
  refine g_iload (pc := 1387) d_LAW_1387 0 rfl ?_
  refine g_iconst (pc := 1389) (v := 1) d_LAW_1389 (by decide) ?_
  refine g_iadd (pc := 1390) d_LAW_1390 ?_
  refine g_top (y := nI (j + 1)) (nI_add j 1) ?_
  refine g_sld (pc := 1391) (j := j + 1) (by omega) hl d_LAW_1391 ?_
  refine g_aload_n (pc := 1392) d_LAW_1392 rfl 1 rfl ?_
  refine g_callSX (k := k) (n := n) (kz := 11) (nz := 156) (pc := 1393) (As := [.ref _, .int _, .ref _]) d_LAW_1393 rfl mx_LW_offset st_LAW_262 rfl rfl (Nat.le_of_ble_eq_true rfl) a (fun _ _ z => z.elim) (fun v h1 z => ?_)
  obtain ⟨code, z, hcd, rfl, km, hz, hm⟩ := z
  refine g_istore (pc := 1396) (lv' := [(5, .int (nI code)), (4, .int (nI j)), (3, .ref (A 0)), (2, .ref (A 8)), (1, .ref (A 22)), (0, .ref (eXa E))]) d_LAW_1396 (by decide) rfl ?_
  refine g_aload_n (pc := 1398) d_LAW_1398 rfl 3 rfl ?_
  refine g_aload_n (pc := 1399) d_LAW_1399 rfl 5 rfl ?_
  refine g_iload (pc := 1400) d_LAW_1400 1 rfl ?_
  refine g_iconst (pc := 1402) (v := 1) d_LAW_1402 (by decide) ?_
  refine g_iadd (pc := 1403) d_LAW_1403 ?_
  refine g_top (y := nI (j + 1)) (nI_add j 1) ?_
  refine g_sld (pc := 1404) (j := j + 1) (by omega) hl d_LAW_1404 ?_
  refine g_callV (k := k) (n := n) (kz := 0) (nz := 0) (pc := 1405) (ci := 7) (As := [.int _]) d_LAW_1405 rfl mv_MO_offset st_LAW_264 rfl rfl (by decide) km rfl rfl (Nat.le_of_ble_eq_true rfl) hm (fun _ _ z => z.elim) (fun v h2 z => ?_)
  obtain ⟨yv, rfl, e17, hf, eJ, γ', s', L'⟩ := z
  refine g_istore (pc := 1408) (lv' := [(6, .int yv), (5, .int (nI code)), (4, .int (nI j)), (3, .ref (A 0)), (2, .ref (A 8)), (1, .ref (A 22)), (0, .ref (eXa E))]) d_LAW_1408 (by decide) rfl ?_
  refine g_aload_n (pc := 1410) d_LAW_1410 rfl 4 rfl ?_
  refine g_cV1 (pc := 1411) (ci := 7) (As := []) d_LAW_1411 rfl mv_MO_thrown st_LAW_171 rfl rfl (by decide) rfl rfl (Nat.le_of_ble_eq_true rfl) L'.1.2.1.1.1 (thr_ct L') ?_
  refine g_top e17 ?_
  refine g_iload (pc := 1414) d_LAW_1414 1 rfl ?_
  refine g_icmp_eq (pc := 1416) (tgt := 1421) d_LAW_1416 (by decide) (fun _ => ?_) (fun q => absurd rfl q)
  refine g_iload (pc := 1421) d_LAW_1421 1 rfl ?_
  refine g_if_ne (pc := 1423) (tgt := 1438) d_LAW_1423 (by decide) (fun q => ?_) (fun q => ?_)
  · skip
    refine g_goto (pc := 1438) (tgt := 3284) d_LAW_1438 (by decide) ?_
    refine g_perm [2, 3, 4, 5, 6] rfl ?_
    exact kk _ ⟨γ', s', L'⟩
  · have c0 := code0 hcd q
    refine g_aload_n (pc := 1426) d_LAW_1426 rfl 3 rfl ?_
    refine g_iconst (pc := 1427) (v := 0) d_LAW_1427 (by decide) ?_
    refine g_laload (pc := 1428) d_LAW_1428 L'.1.2.1.2.2.2.1 (z_vp L'.1.2.1.2.2.2.2) ?_
    refine g_iload (pc := 1429) d_LAW_1429 0 rfl ?_
    refine g_i2l (pc := 1431) d_LAW_1431 ?_
    refine g_lcmp (pc := 1432) d_LAW_1432 ?_
    refine g_top (y := 0) (by
      show lg_cmp (hJ h2 (A 0) 0) yv.toInt64 = 0
      rw [eJ, hz c0, ← hf c0]
      exact lg_self _) ?_
    refine g_if_eq (pc := 1433) (tgt := 1438) d_LAW_1433 (by decide) (fun _ => ?_) (fun q => absurd rfl q)
    refine g_goto (pc := 1438) (tgt := 3284) d_LAW_1438 (by decide) ?_
    refine g_perm [2, 3, 4, 5, 6] rfl ?_
    exact kk _ ⟨γ', s', L'⟩
theorem lc_27 {E : En} {h : Hp} {A : Nat → Nat} {j c k n : Nat} {PP : Option Value → Hp → Prop} {X : String → Hp → Prop} (hl : eXl E < 2 ^ 31) (hj : j + 5 < eXl E) (a : AnsW E m_LW_slope m_MO_slope fI [.int (eXs E (j + 1))] h A c) (kk : ∀ h1, LOK h1 A (c + 1) → G E m_LAW 3284 [(4, .int (nI j)), (3, .ref (A 0)), (2, .ref (A 8)), (1, .ref (A 22)), (0, .ref (eXa E))] [] h1 k n PP X) : G E m_LAW 1441 [(4, .int (nI j)), (3, .ref (A 0)), (2, .ref (A 8)), (1, .ref (A 22)), (0, .ref (eXa E))] [] h (k + 11) (n + 156) PP X := by
  refine g_aload_n (pc := 1441) d_LAW_1441 rfl 3 rfl ?_
  refine g_aload_n (pc := 1442) d_LAW_1442 rfl 4 rfl ?_
  refine g_iload (pc := 1443) d_LAW_1443 0 rfl ?_
  refine g_iconst (pc := 1445) (v := 1) d_LAW_1445 (by decide) ?_
  refine g_iadd (pc := 1446) d_LAW_1446 ?_
  refine g_top (y := nI (j + 1)) (nI_add j 1) ?_
  refine g_sld (pc := 1447) (j := j + 1) (by omega) hl d_LAW_1447 ?_
  refine g_aload_n (pc := 1448) d_LAW_1448 rfl 1 rfl ?_
  refine g_callSX (k := k) (n := n) (kz := 11) (nz := 156) (pc := 1449) (As := [.ref _, .int _, .ref _]) d_LAW_1449 rfl mx_LW_slope st_LAW_265 rfl rfl (Nat.le_of_ble_eq_true rfl) a (fun _ _ z => z.elim) (fun v h1 z => ?_)
  obtain ⟨code, z, hcd, rfl, km, hz, hm⟩ := z
  refine g_istore (pc := 1452) (lv' := [(5, .int (nI code)), (4, .int (nI j)), (3, .ref (A 0)), (2, .ref (A 8)), (1, .ref (A 22)), (0, .ref (eXa E))]) d_LAW_1452 (by decide) rfl ?_
  refine g_aload_n (pc := 1454) d_LAW_1454 rfl 3 rfl ?_
  refine g_aload_n (pc := 1455) d_LAW_1455 rfl 5 rfl ?_
  refine g_iload (pc := 1456) d_LAW_1456 1 rfl ?_
  refine g_iconst (pc := 1458) (v := 1) d_LAW_1458 (by decide) ?_
  refine g_iadd (pc := 1459) d_LAW_1459 ?_
  refine g_top (y := nI (j + 1)) (nI_add j 1) ?_
  refine g_sld (pc := 1460) (j := j + 1) (by omega) hl d_LAW_1460 ?_
  refine g_callV (k := k) (n := n) (kz := 0) (nz := 0) (pc := 1461) (ci := 7) (As := [.int _]) d_LAW_1461 rfl mv_MO_slope st_LAW_267 rfl rfl (by decide) km rfl rfl (Nat.le_of_ble_eq_true rfl) hm (fun _ _ z => z.elim) (fun v h2 z => ?_)
  obtain ⟨yv, rfl, e17, hf, eJ, γ', s', L'⟩ := z
  refine g_istore (pc := 1464) (lv' := [(6, .int yv), (5, .int (nI code)), (4, .int (nI j)), (3, .ref (A 0)), (2, .ref (A 8)), (1, .ref (A 22)), (0, .ref (eXa E))]) d_LAW_1464 (by decide) rfl ?_
  refine g_aload_n (pc := 1466) d_LAW_1466 rfl 4 rfl ?_
  refine g_cV1 (pc := 1467) (ci := 7) (As := []) d_LAW_1467 rfl mv_MO_thrown st_LAW_171 rfl rfl (by decide) rfl rfl (Nat.le_of_ble_eq_true rfl) L'.1.2.1.1.1 (thr_ct L') ?_
  refine g_top e17 ?_
  refine g_iload (pc := 1470) d_LAW_1470 1 rfl ?_
  refine g_icmp_eq (pc := 1472) (tgt := 1477) d_LAW_1472 (by decide) (fun _ => ?_) (fun q => absurd rfl q)
  refine g_iload (pc := 1477) d_LAW_1477 1 rfl ?_
  refine g_if_ne (pc := 1479) (tgt := 1494) d_LAW_1479 (by decide) (fun q => ?_) (fun q => ?_)
  · skip
    refine g_goto (pc := 1494) (tgt := 3284) d_LAW_1494 (by decide) ?_
    refine g_perm [2, 3, 4, 5, 6] rfl ?_
    exact kk _ ⟨γ', s', L'⟩
  · have c0 := code0 hcd q
    refine g_aload_n (pc := 1482) d_LAW_1482 rfl 3 rfl ?_
    refine g_iconst (pc := 1483) (v := 0) d_LAW_1483 (by decide) ?_
    refine g_laload (pc := 1484) d_LAW_1484 L'.1.2.1.2.2.2.1 (z_vp L'.1.2.1.2.2.2.2) ?_
    refine g_iload (pc := 1485) d_LAW_1485 0 rfl ?_
    refine g_i2l (pc := 1487) d_LAW_1487 ?_
    refine g_lcmp (pc := 1488) d_LAW_1488 ?_
    refine g_top (y := 0) (by
      show lg_cmp (hJ h2 (A 0) 0) yv.toInt64 = 0
      rw [eJ, hz c0, ← hf c0]
      exact lg_self _) ?_
    refine g_if_eq (pc := 1489) (tgt := 1494) d_LAW_1489 (by decide) (fun _ => ?_) (fun q => absurd rfl q)
    refine g_goto (pc := 1494) (tgt := 3284) d_LAW_1494 (by decide) ?_
    refine g_perm [2, 3, 4, 5, 6] rfl ?_
    exact kk _ ⟨γ', s', L'⟩
theorem lc_28 {E : En} {h : Hp} {A : Nat → Nat} {j c k n : Nat} {PP : Option Value → Hp → Prop} {X : String → Hp → Prop} (hl : eXl E < 2 ^ 31) (hj : j + 5 < eXl E) (a : AnsW E m_LW_drift m_MO_drift fI [.int (eXs E (j + 1))] h A c) (kk : ∀ h1, LOK h1 A (c + 1) → G E m_LAW 3284 [(4, .int (nI j)), (3, .ref (A 0)), (2, .ref (A 8)), (1, .ref (A 22)), (0, .ref (eXa E))] [] h1 k n PP X) : G E m_LAW 1497 [(4, .int (nI j)), (3, .ref (A 0)), (2, .ref (A 8)), (1, .ref (A 22)), (0, .ref (eXa E))] [] h (k + 11) (n + 156) PP X := by
  refine g_aload_n (pc := 1497) d_LAW_1497 rfl 3 rfl ?_
  refine g_aload_n (pc := 1498) d_LAW_1498 rfl 4 rfl ?_
  refine g_iload (pc := 1499) d_LAW_1499 0 rfl ?_
  refine g_iconst (pc := 1501) (v := 1) d_LAW_1501 (by decide) ?_
  refine g_iadd (pc := 1502) d_LAW_1502 ?_
  refine g_top (y := nI (j + 1)) (nI_add j 1) ?_
  refine g_sld (pc := 1503) (j := j + 1) (by omega) hl d_LAW_1503 ?_
  refine g_aload_n (pc := 1504) d_LAW_1504 rfl 1 rfl ?_
  refine g_callSX (k := k) (n := n) (kz := 11) (nz := 156) (pc := 1505) (As := [.ref _, .int _, .ref _]) d_LAW_1505 rfl mx_LW_drift st_LAW_268 rfl rfl (Nat.le_of_ble_eq_true rfl) a (fun _ _ z => z.elim) (fun v h1 z => ?_)
  obtain ⟨code, z, hcd, rfl, km, hz, hm⟩ := z
  refine g_istore (pc := 1508) (lv' := [(5, .int (nI code)), (4, .int (nI j)), (3, .ref (A 0)), (2, .ref (A 8)), (1, .ref (A 22)), (0, .ref (eXa E))]) d_LAW_1508 (by decide) rfl ?_
  refine g_aload_n (pc := 1510) d_LAW_1510 rfl 3 rfl ?_
  refine g_aload_n (pc := 1511) d_LAW_1511 rfl 5 rfl ?_
  refine g_iload (pc := 1512) d_LAW_1512 1 rfl ?_
  refine g_iconst (pc := 1514) (v := 1) d_LAW_1514 (by decide) ?_
  refine g_iadd (pc := 1515) d_LAW_1515 ?_
  refine g_top (y := nI (j + 1)) (nI_add j 1) ?_
  refine g_sld (pc := 1516) (j := j + 1) (by omega) hl d_LAW_1516 ?_
  refine g_callV (k := k) (n := n) (kz := 0) (nz := 0) (pc := 1517) (ci := 7) (As := [.int _]) d_LAW_1517 rfl mv_MO_drift st_LAW_270 rfl rfl (by decide) km rfl rfl (Nat.le_of_ble_eq_true rfl) hm (fun _ _ z => z.elim) (fun v h2 z => ?_)
  obtain ⟨yv, rfl, e17, hf, eJ, γ', s', L'⟩ := z
  refine g_istore (pc := 1520) (lv' := [(6, .int yv), (5, .int (nI code)), (4, .int (nI j)), (3, .ref (A 0)), (2, .ref (A 8)), (1, .ref (A 22)), (0, .ref (eXa E))]) d_LAW_1520 (by decide) rfl ?_
  refine g_aload_n (pc := 1522) d_LAW_1522 rfl 4 rfl ?_
  refine g_cV1 (pc := 1523) (ci := 7) (As := []) d_LAW_1523 rfl mv_MO_thrown st_LAW_171 rfl rfl (by decide) rfl rfl (Nat.le_of_ble_eq_true rfl) L'.1.2.1.1.1 (thr_ct L') ?_
  refine g_top e17 ?_
  refine g_iload (pc := 1526) d_LAW_1526 1 rfl ?_
  refine g_icmp_eq (pc := 1528) (tgt := 1533) d_LAW_1528 (by decide) (fun _ => ?_) (fun q => absurd rfl q)
  refine g_iload (pc := 1533) d_LAW_1533 1 rfl ?_
  refine g_if_ne (pc := 1535) (tgt := 1550) d_LAW_1535 (by decide) (fun q => ?_) (fun q => ?_)
  · skip
    refine g_goto (pc := 1550) (tgt := 3284) d_LAW_1550 (by decide) ?_
    refine g_perm [2, 3, 4, 5, 6] rfl ?_
    exact kk _ ⟨γ', s', L'⟩
  · have c0 := code0 hcd q
    refine g_aload_n (pc := 1538) d_LAW_1538 rfl 3 rfl ?_
    refine g_iconst (pc := 1539) (v := 0) d_LAW_1539 (by decide) ?_
    refine g_laload (pc := 1540) d_LAW_1540 L'.1.2.1.2.2.2.1 (z_vp L'.1.2.1.2.2.2.2) ?_
    refine g_iload (pc := 1541) d_LAW_1541 0 rfl ?_
    refine g_i2l (pc := 1543) d_LAW_1543 ?_
    refine g_lcmp (pc := 1544) d_LAW_1544 ?_
    refine g_top (y := 0) (by
      show lg_cmp (hJ h2 (A 0) 0) yv.toInt64 = 0
      rw [eJ, hz c0, ← hf c0]
      exact lg_self _) ?_
    refine g_if_eq (pc := 1545) (tgt := 1550) d_LAW_1545 (by decide) (fun _ => ?_) (fun q => absurd rfl q)
    refine g_goto (pc := 1550) (tgt := 3284) d_LAW_1550 (by decide) ?_
    refine g_perm [2, 3, 4, 5, 6] rfl ?_
    exact kk _ ⟨γ', s', L'⟩
theorem lc_29 {E : En} {h : Hp} {A : Nat → Nat} {j c k n : Nat} {PP : Option Value → Hp → Prop} {X : String → Hp → Prop} (hl : eXl E < 2 ^ 31) (hj : j + 5 < eXl E) (a : AnsW E m_LW_reading m_MO_reading fI [.int (eXs E (j + 1)), .int (eXs E (j + 2))] h A c) (kk : ∀ h1, LOK h1 A (c + 1) → G E m_LAW 3284 [(4, .int (nI j)), (3, .ref (A 0)), (2, .ref (A 8)), (1, .ref (A 22)), (0, .ref (eXa E))] [] h1 k n PP X) : G E m_LAW 1553 [(4, .int (nI j)), (3, .ref (A 0)), (2, .ref (A 8)), (1, .ref (A 22)), (0, .ref (eXa E))] [] h (k + 11) (n + 156) PP X := by
  refine g_aload_n (pc := 1553) d_LAW_1553 rfl 3 rfl ?_
  refine g_aload_n (pc := 1554) d_LAW_1554 rfl 4 rfl ?_
  refine g_iload (pc := 1555) d_LAW_1555 0 rfl ?_
  refine g_iconst (pc := 1557) (v := 1) d_LAW_1557 (by decide) ?_
  refine g_iadd (pc := 1558) d_LAW_1558 ?_
  refine g_top (y := nI (j + 1)) (nI_add j 1) ?_
  refine g_sld (pc := 1559) (j := j + 1) (by omega) hl d_LAW_1559 ?_
  refine g_aload_n (pc := 1560) d_LAW_1560 rfl 4 rfl ?_
  refine g_iload (pc := 1561) d_LAW_1561 0 rfl ?_
  refine g_iconst (pc := 1563) (v := 2) d_LAW_1563 (by decide) ?_
  refine g_iadd (pc := 1564) d_LAW_1564 ?_
  refine g_top (y := nI (j + 2)) (nI_add j 2) ?_
  refine g_sld (pc := 1565) (j := j + 2) (by omega) hl d_LAW_1565 ?_
  refine g_aload_n (pc := 1566) d_LAW_1566 rfl 1 rfl ?_
  refine g_callSX (k := k) (n := n) (kz := 11) (nz := 156) (pc := 1567) (As := [.ref _, .int _, .int _, .ref _]) d_LAW_1567 rfl mx_LW_reading st_LAW_271 rfl rfl (Nat.le_of_ble_eq_true rfl) a (fun _ _ z => z.elim) (fun v h1 z => ?_)
  obtain ⟨code, z, hcd, rfl, km, hz, hm⟩ := z
  refine g_istore (pc := 1570) (lv' := [(5, .int (nI code)), (4, .int (nI j)), (3, .ref (A 0)), (2, .ref (A 8)), (1, .ref (A 22)), (0, .ref (eXa E))]) d_LAW_1570 (by decide) rfl ?_
  refine g_aload_n (pc := 1572) d_LAW_1572 rfl 3 rfl ?_
  refine g_aload_n (pc := 1573) d_LAW_1573 rfl 5 rfl ?_
  refine g_iload (pc := 1574) d_LAW_1574 1 rfl ?_
  refine g_iconst (pc := 1576) (v := 1) d_LAW_1576 (by decide) ?_
  refine g_iadd (pc := 1577) d_LAW_1577 ?_
  refine g_top (y := nI (j + 1)) (nI_add j 1) ?_
  refine g_sld (pc := 1578) (j := j + 1) (by omega) hl d_LAW_1578 ?_
  refine g_aload_n (pc := 1579) d_LAW_1579 rfl 5 rfl ?_
  refine g_iload (pc := 1580) d_LAW_1580 1 rfl ?_
  refine g_iconst (pc := 1582) (v := 2) d_LAW_1582 (by decide) ?_
  refine g_iadd (pc := 1583) d_LAW_1583 ?_
  refine g_top (y := nI (j + 2)) (nI_add j 2) ?_
  refine g_sld (pc := 1584) (j := j + 2) (by omega) hl d_LAW_1584 ?_
  refine g_callV (k := k) (n := n) (kz := 0) (nz := 0) (pc := 1585) (ci := 7) (As := [.int _, .int _]) d_LAW_1585 rfl mv_MO_reading st_LAW_273 rfl rfl (by decide) km rfl rfl (Nat.le_of_ble_eq_true rfl) hm (fun _ _ z => z.elim) (fun v h2 z => ?_)
  obtain ⟨yv, rfl, e17, hf, eJ, γ', s', L'⟩ := z
  refine g_istore (pc := 1588) (lv' := [(6, .int yv), (5, .int (nI code)), (4, .int (nI j)), (3, .ref (A 0)), (2, .ref (A 8)), (1, .ref (A 22)), (0, .ref (eXa E))]) d_LAW_1588 (by decide) rfl ?_
  refine g_aload_n (pc := 1590) d_LAW_1590 rfl 4 rfl ?_
  refine g_cV1 (pc := 1591) (ci := 7) (As := []) d_LAW_1591 rfl mv_MO_thrown st_LAW_171 rfl rfl (by decide) rfl rfl (Nat.le_of_ble_eq_true rfl) L'.1.2.1.1.1 (thr_ct L') ?_
  refine g_top e17 ?_
  refine g_iload (pc := 1594) d_LAW_1594 1 rfl ?_
  refine g_icmp_eq (pc := 1596) (tgt := 1601) d_LAW_1596 (by decide) (fun _ => ?_) (fun q => absurd rfl q)
  refine g_iload (pc := 1601) d_LAW_1601 1 rfl ?_
  refine g_if_ne (pc := 1603) (tgt := 1618) d_LAW_1603 (by decide) (fun q => ?_) (fun q => ?_)
  · skip
    refine g_goto (pc := 1618) (tgt := 3284) d_LAW_1618 (by decide) ?_
    refine g_perm [2, 3, 4, 5, 6] rfl ?_
    exact kk _ ⟨γ', s', L'⟩
  · have c0 := code0 hcd q
    refine g_aload_n (pc := 1606) d_LAW_1606 rfl 3 rfl ?_
    refine g_iconst (pc := 1607) (v := 0) d_LAW_1607 (by decide) ?_
    refine g_laload (pc := 1608) d_LAW_1608 L'.1.2.1.2.2.2.1 (z_vp L'.1.2.1.2.2.2.2) ?_
    refine g_iload (pc := 1609) d_LAW_1609 0 rfl ?_
    refine g_i2l (pc := 1611) d_LAW_1611 ?_
    refine g_lcmp (pc := 1612) d_LAW_1612 ?_
    refine g_top (y := 0) (by
      show lg_cmp (hJ h2 (A 0) 0) yv.toInt64 = 0
      rw [eJ, hz c0, ← hf c0]
      exact lg_self _) ?_
    refine g_if_eq (pc := 1613) (tgt := 1618) d_LAW_1613 (by decide) (fun _ => ?_) (fun q => absurd rfl q)
    refine g_goto (pc := 1618) (tgt := 3284) d_LAW_1618 (by decide) ?_
    refine g_perm [2, 3, 4, 5, 6] rfl ?_
    exact kk _ ⟨γ', s', L'⟩
theorem lc_30 {E : En} {h : Hp} {A : Nat → Nat} {j c k n : Nat} {PP : Option Value → Hp → Prop} {X : String → Hp → Prop} (hl : eXl E < 2 ^ 31) (hj : j + 5 < eXl E) (a : AnsW E m_LW_excess m_MO_excess fI [.int (eXs E (j + 1)), .int (eXs E (j + 2))] h A c) (kk : ∀ h1, LOK h1 A (c + 1) → G E m_LAW 3284 [(4, .int (nI j)), (3, .ref (A 0)), (2, .ref (A 8)), (1, .ref (A 22)), (0, .ref (eXa E))] [] h1 k n PP X) : G E m_LAW 1621 [(4, .int (nI j)), (3, .ref (A 0)), (2, .ref (A 8)), (1, .ref (A 22)), (0, .ref (eXa E))] [] h (k + 11) (n + 156) PP X := by
  refine g_aload_n (pc := 1621) d_LAW_1621 rfl 3 rfl ?_
  refine g_aload_n (pc := 1622) d_LAW_1622 rfl 4 rfl ?_
  refine g_iload (pc := 1623) d_LAW_1623 0 rfl ?_
  refine g_iconst (pc := 1625) (v := 1) d_LAW_1625 (by decide) ?_
  refine g_iadd (pc := 1626) d_LAW_1626 ?_
  refine g_top (y := nI (j + 1)) (nI_add j 1) ?_
  refine g_sld (pc := 1627) (j := j + 1) (by omega) hl d_LAW_1627 ?_
  refine g_aload_n (pc := 1628) d_LAW_1628 rfl 4 rfl ?_
  refine g_iload (pc := 1629) d_LAW_1629 0 rfl ?_
  refine g_iconst (pc := 1631) (v := 2) d_LAW_1631 (by decide) ?_
  refine g_iadd (pc := 1632) d_LAW_1632 ?_
  refine g_top (y := nI (j + 2)) (nI_add j 2) ?_
  refine g_sld (pc := 1633) (j := j + 2) (by omega) hl d_LAW_1633 ?_
  refine g_aload_n (pc := 1634) d_LAW_1634 rfl 1 rfl ?_
  refine g_callSX (k := k) (n := n) (kz := 11) (nz := 156) (pc := 1635) (As := [.ref _, .int _, .int _, .ref _]) d_LAW_1635 rfl mx_LW_excess st_LAW_274 rfl rfl (Nat.le_of_ble_eq_true rfl) a (fun _ _ z => z.elim) (fun v h1 z => ?_)
  obtain ⟨code, z, hcd, rfl, km, hz, hm⟩ := z
  refine g_istore (pc := 1638) (lv' := [(5, .int (nI code)), (4, .int (nI j)), (3, .ref (A 0)), (2, .ref (A 8)), (1, .ref (A 22)), (0, .ref (eXa E))]) d_LAW_1638 (by decide) rfl ?_
  refine g_aload_n (pc := 1640) d_LAW_1640 rfl 3 rfl ?_
  refine g_aload_n (pc := 1641) d_LAW_1641 rfl 5 rfl ?_
  refine g_iload (pc := 1642) d_LAW_1642 1 rfl ?_
  refine g_iconst (pc := 1644) (v := 1) d_LAW_1644 (by decide) ?_
  refine g_iadd (pc := 1645) d_LAW_1645 ?_
  refine g_top (y := nI (j + 1)) (nI_add j 1) ?_
  refine g_sld (pc := 1646) (j := j + 1) (by omega) hl d_LAW_1646 ?_
  refine g_aload_n (pc := 1647) d_LAW_1647 rfl 5 rfl ?_
  refine g_iload (pc := 1648) d_LAW_1648 1 rfl ?_
  refine g_iconst (pc := 1650) (v := 2) d_LAW_1650 (by decide) ?_
  refine g_iadd (pc := 1651) d_LAW_1651 ?_
  refine g_top (y := nI (j + 2)) (nI_add j 2) ?_
  refine g_sld (pc := 1652) (j := j + 2) (by omega) hl d_LAW_1652 ?_
  refine g_callV (k := k) (n := n) (kz := 0) (nz := 0) (pc := 1653) (ci := 7) (As := [.int _, .int _]) d_LAW_1653 rfl mv_MO_excess st_LAW_276 rfl rfl (by decide) km rfl rfl (Nat.le_of_ble_eq_true rfl) hm (fun _ _ z => z.elim) (fun v h2 z => ?_)
  obtain ⟨yv, rfl, e17, hf, eJ, γ', s', L'⟩ := z
  refine g_istore (pc := 1656) (lv' := [(6, .int yv), (5, .int (nI code)), (4, .int (nI j)), (3, .ref (A 0)), (2, .ref (A 8)), (1, .ref (A 22)), (0, .ref (eXa E))]) d_LAW_1656 (by decide) rfl ?_
  refine g_aload_n (pc := 1658) d_LAW_1658 rfl 4 rfl ?_
  refine g_cV1 (pc := 1659) (ci := 7) (As := []) d_LAW_1659 rfl mv_MO_thrown st_LAW_171 rfl rfl (by decide) rfl rfl (Nat.le_of_ble_eq_true rfl) L'.1.2.1.1.1 (thr_ct L') ?_
  refine g_top e17 ?_
  refine g_iload (pc := 1662) d_LAW_1662 1 rfl ?_
  refine g_icmp_eq (pc := 1664) (tgt := 1669) d_LAW_1664 (by decide) (fun _ => ?_) (fun q => absurd rfl q)
  refine g_iload (pc := 1669) d_LAW_1669 1 rfl ?_
  refine g_if_ne (pc := 1671) (tgt := 1686) d_LAW_1671 (by decide) (fun q => ?_) (fun q => ?_)
  · skip
    refine g_goto (pc := 1686) (tgt := 3284) d_LAW_1686 (by decide) ?_
    refine g_perm [2, 3, 4, 5, 6] rfl ?_
    exact kk _ ⟨γ', s', L'⟩
  · have c0 := code0 hcd q
    refine g_aload_n (pc := 1674) d_LAW_1674 rfl 3 rfl ?_
    refine g_iconst (pc := 1675) (v := 0) d_LAW_1675 (by decide) ?_
    refine g_laload (pc := 1676) d_LAW_1676 L'.1.2.1.2.2.2.1 (z_vp L'.1.2.1.2.2.2.2) ?_
    refine g_iload (pc := 1677) d_LAW_1677 0 rfl ?_
    refine g_i2l (pc := 1679) d_LAW_1679 ?_
    refine g_lcmp (pc := 1680) d_LAW_1680 ?_
    refine g_top (y := 0) (by
      show lg_cmp (hJ h2 (A 0) 0) yv.toInt64 = 0
      rw [eJ, hz c0, ← hf c0]
      exact lg_self _) ?_
    refine g_if_eq (pc := 1681) (tgt := 1686) d_LAW_1681 (by decide) (fun _ => ?_) (fun q => absurd rfl q)
    refine g_goto (pc := 1686) (tgt := 3284) d_LAW_1686 (by decide) ?_
    refine g_perm [2, 3, 4, 5, 6] rfl ?_
    exact kk _ ⟨γ', s', L'⟩
theorem lc_31 {E : En} {h : Hp} {A : Nat → Nat} {j c k n : Nat} {PP : Option Value → Hp → Prop} {X : String → Hp → Prop} (hl : eXl E < 2 ^ 31) (hj : j + 5 < eXl E) (a : AnsW E m_LW_totalExcess m_MO_totalExcess fI [.int (eXs E (j + 1))] h A c) (kk : ∀ h1, LOK h1 A (c + 1) → G E m_LAW 3284 [(4, .int (nI j)), (3, .ref (A 0)), (2, .ref (A 8)), (1, .ref (A 22)), (0, .ref (eXa E))] [] h1 k n PP X) : G E m_LAW 1689 [(4, .int (nI j)), (3, .ref (A 0)), (2, .ref (A 8)), (1, .ref (A 22)), (0, .ref (eXa E))] [] h (k + 11) (n + 156) PP X := by
  refine g_aload_n (pc := 1689) d_LAW_1689 rfl 3 rfl ?_
  refine g_aload_n (pc := 1690) d_LAW_1690 rfl 4 rfl ?_
  refine g_iload (pc := 1691) d_LAW_1691 0 rfl ?_
  refine g_iconst (pc := 1693) (v := 1) d_LAW_1693 (by decide) ?_
  refine g_iadd (pc := 1694) d_LAW_1694 ?_
  refine g_top (y := nI (j + 1)) (nI_add j 1) ?_
  refine g_sld (pc := 1695) (j := j + 1) (by omega) hl d_LAW_1695 ?_
  refine g_aload_n (pc := 1696) d_LAW_1696 rfl 1 rfl ?_
  refine g_callSX (k := k) (n := n) (kz := 11) (nz := 156) (pc := 1697) (As := [.ref _, .int _, .ref _]) d_LAW_1697 rfl mx_LW_totalExcess st_LAW_277 rfl rfl (Nat.le_of_ble_eq_true rfl) a (fun _ _ z => z.elim) (fun v h1 z => ?_)
  obtain ⟨code, z, hcd, rfl, km, hz, hm⟩ := z
  refine g_istore (pc := 1700) (lv' := [(5, .int (nI code)), (4, .int (nI j)), (3, .ref (A 0)), (2, .ref (A 8)), (1, .ref (A 22)), (0, .ref (eXa E))]) d_LAW_1700 (by decide) rfl ?_
  refine g_aload_n (pc := 1702) d_LAW_1702 rfl 3 rfl ?_
  refine g_aload_n (pc := 1703) d_LAW_1703 rfl 5 rfl ?_
  refine g_iload (pc := 1704) d_LAW_1704 1 rfl ?_
  refine g_iconst (pc := 1706) (v := 1) d_LAW_1706 (by decide) ?_
  refine g_iadd (pc := 1707) d_LAW_1707 ?_
  refine g_top (y := nI (j + 1)) (nI_add j 1) ?_
  refine g_sld (pc := 1708) (j := j + 1) (by omega) hl d_LAW_1708 ?_
  refine g_callV (k := k) (n := n) (kz := 0) (nz := 0) (pc := 1709) (ci := 7) (As := [.int _]) d_LAW_1709 rfl mv_MO_totalExcess st_LAW_279 rfl rfl (by decide) km rfl rfl (Nat.le_of_ble_eq_true rfl) hm (fun _ _ z => z.elim) (fun v h2 z => ?_)
  obtain ⟨yv, rfl, e17, hf, eJ, γ', s', L'⟩ := z
  refine g_istore (pc := 1712) (lv' := [(6, .int yv), (5, .int (nI code)), (4, .int (nI j)), (3, .ref (A 0)), (2, .ref (A 8)), (1, .ref (A 22)), (0, .ref (eXa E))]) d_LAW_1712 (by decide) rfl ?_
  refine g_aload_n (pc := 1714) d_LAW_1714 rfl 4 rfl ?_
  refine g_cV1 (pc := 1715) (ci := 7) (As := []) d_LAW_1715 rfl mv_MO_thrown st_LAW_171 rfl rfl (by decide) rfl rfl (Nat.le_of_ble_eq_true rfl) L'.1.2.1.1.1 (thr_ct L') ?_
  refine g_top e17 ?_
  refine g_iload (pc := 1718) d_LAW_1718 1 rfl ?_
  refine g_icmp_eq (pc := 1720) (tgt := 1725) d_LAW_1720 (by decide) (fun _ => ?_) (fun q => absurd rfl q)
  refine g_iload (pc := 1725) d_LAW_1725 1 rfl ?_
  refine g_if_ne (pc := 1727) (tgt := 1742) d_LAW_1727 (by decide) (fun q => ?_) (fun q => ?_)
  · skip
    refine g_goto (pc := 1742) (tgt := 3284) d_LAW_1742 (by decide) ?_
    refine g_perm [2, 3, 4, 5, 6] rfl ?_
    exact kk _ ⟨γ', s', L'⟩
  · have c0 := code0 hcd q
    refine g_aload_n (pc := 1730) d_LAW_1730 rfl 3 rfl ?_
    refine g_iconst (pc := 1731) (v := 0) d_LAW_1731 (by decide) ?_
    refine g_laload (pc := 1732) d_LAW_1732 L'.1.2.1.2.2.2.1 (z_vp L'.1.2.1.2.2.2.2) ?_
    refine g_iload (pc := 1733) d_LAW_1733 0 rfl ?_
    refine g_i2l (pc := 1735) d_LAW_1735 ?_
    refine g_lcmp (pc := 1736) d_LAW_1736 ?_
    refine g_top (y := 0) (by
      show lg_cmp (hJ h2 (A 0) 0) yv.toInt64 = 0
      rw [eJ, hz c0, ← hf c0]
      exact lg_self _) ?_
    refine g_if_eq (pc := 1737) (tgt := 1742) d_LAW_1737 (by decide) (fun _ => ?_) (fun q => absurd rfl q)
    refine g_goto (pc := 1742) (tgt := 3284) d_LAW_1742 (by decide) ?_
    refine g_perm [2, 3, 4, 5, 6] rfl ?_
    exact kk _ ⟨γ', s', L'⟩

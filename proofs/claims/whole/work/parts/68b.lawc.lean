/-! The law's cases 5 to 9. -/
theorem dL_law_373 : decode cL_law 373 = .ok (.aload_n 1, 1) := by decide +kernel
theorem dL_law_374 : decode cL_law 374 = .ok (.aload_n 0, 1) := by decide +kernel
theorem dL_law_375 : decode cL_law 375 = .ok (.iload_n 3, 1) := by decide +kernel
theorem dL_law_376 : decode cL_law 376 = .ok (.iconst 1, 1) := by decide +kernel
theorem dL_law_377 : decode cL_law 377 = .ok (.iadd, 1) := by decide +kernel
theorem dL_law_378 : decode cL_law 378 = .ok (.iaload, 1) := by decide +kernel
theorem dL_law_379 : decode cL_law 379 = .ok (.aload_n 0, 1) := by decide +kernel
theorem dL_law_380 : decode cL_law 380 = .ok (.iload_n 3, 1) := by decide +kernel
theorem dL_law_381 : decode cL_law 381 = .ok (.iconst 2, 1) := by decide +kernel
theorem dL_law_382 : decode cL_law 382 = .ok (.iadd, 1) := by decide +kernel
theorem dL_law_383 : decode cL_law 383 = .ok (.iaload, 1) := by decide +kernel
theorem dL_law_384 : decode cL_law 384 = .ok (.aload_n 0, 1) := by decide +kernel
theorem dL_law_385 : decode cL_law 385 = .ok (.iload_n 3, 1) := by decide +kernel
theorem dL_law_386 : decode cL_law 386 = .ok (.iconst 3, 1) := by decide +kernel
theorem dL_law_387 : decode cL_law 387 = .ok (.iadd, 1) := by decide +kernel
theorem dL_law_388 : decode cL_law 388 = .ok (.iaload, 1) := by decide +kernel
theorem dL_law_389 : decode cL_law 389 = .ok (.invokevirtual 36, 3) := by decide +kernel
theorem dL_law_392 : decode cL_law 392 = .ok (.aload_n 2, 1) := by decide +kernel
theorem dL_law_393 : decode cL_law 393 = .ok (.aload_n 0, 1) := by decide +kernel
theorem dL_law_394 : decode cL_law 394 = .ok (.iload_n 3, 1) := by decide +kernel
theorem dL_law_395 : decode cL_law 395 = .ok (.iconst 1, 1) := by decide +kernel
theorem dL_law_396 : decode cL_law 396 = .ok (.iadd, 1) := by decide +kernel
theorem dL_law_397 : decode cL_law 397 = .ok (.iaload, 1) := by decide +kernel
theorem dL_law_398 : decode cL_law 398 = .ok (.aload_n 0, 1) := by decide +kernel
theorem dL_law_399 : decode cL_law 399 = .ok (.iload_n 3, 1) := by decide +kernel
theorem dL_law_400 : decode cL_law 400 = .ok (.iconst 2, 1) := by decide +kernel
theorem dL_law_401 : decode cL_law 401 = .ok (.iadd, 1) := by decide +kernel
theorem dL_law_402 : decode cL_law 402 = .ok (.iaload, 1) := by decide +kernel
theorem dL_law_403 : decode cL_law 403 = .ok (.aload_n 0, 1) := by decide +kernel
theorem dL_law_404 : decode cL_law 404 = .ok (.iload_n 3, 1) := by decide +kernel
theorem dL_law_405 : decode cL_law 405 = .ok (.iconst 3, 1) := by decide +kernel
theorem dL_law_406 : decode cL_law 406 = .ok (.iadd, 1) := by decide +kernel
theorem dL_law_407 : decode cL_law 407 = .ok (.iaload, 1) := by decide +kernel
theorem dL_law_408 : decode cL_law 408 = .ok (.invokevirtual 39, 3) := by decide +kernel
theorem dL_law_411 : decode cL_law 411 = .ok (.if_icmp .eq 1087, 3) := by decide +kernel
theorem dL_law_414 : decode cL_law 414 = .ok (.iconst 0, 1) := by decide +kernel
theorem dL_law_415 : decode cL_law 415 = .ok (.ireturn, 1) := by decide +kernel
theorem vl_36 : VW R_law 36 yX11_change cX11_change 7 (some .int) 3 := ⟨gw 504 (by decide +kernel) rfl, gw 501 (by decide +kernel) rfl, gw 502 (by decide +kernel) rfl, gw 503 (by decide +kernel) rfl, gw 83 (by decide +kernel) rfl, by decide +kernel, by decide⟩
theorem vl_39 : VW R_law 39 yX12_change cX12_change 5 (some .int) 3 := ⟨gw 1200 (by decide +kernel) rfl, gw 1197 (by decide +kernel) rfl, gw 1198 (by decide +kernel) rfl, gw 1199 (by decide +kernel) rfl, gw 96 (by decide +kernel) rfl, by decide +kernel, by decide⟩
set_option maxHeartbeats 2000000 in
set_option maxRecDepth 20000 in
theorem lc_change {p : Program} {l : Launch} {e : Env} {s : State} {m : MethodId} {below : List Frame} {meth : Method} {c : Code} {Q : State → Prop} {D : va_G} {A : Nat → Prop} {cI cG cW : ClassId} {o : Nat} {qR q : Nat → Nat} {O : Ou} {b Ln : Nat} {xs : Nat → Int32} (C : Cx p s m #[Value.ref b] meth c code 4 R_law ret D (tyL cI cG cW) A) (hO : OUT O A s s.heap) (hX : va_X b Ln xs s s.heap) (hbl : b < s.heap.size) (hbA : ¬ A b) (hL : Ln ≤ 3072) {i M : Nat} (hi : i + 6 ≤ Ln) {V row kept tried bf fd pk bo so sh mv tr : Nat → Int32} {S : Nat → Int32} {X : Nat → Nat → Int32} {P : Nat → Nat} (hI : RI M (sR V row kept tried bf fd pk bo so sh mv tr)) (hC : CR (S, X, P) (sR V row kept tried bf fd pk bo so sh mv tr)) (hM : M < 3000) (kk : ∀ (σ' : RS) (κ' : CS), RI (M + 1) σ' → CR κ' σ' → JN p l e room_1 s m #[Value.ref b] below meth c Q 4 D A 103 2575 (Wl cI cG cW o qR q) (σ', κ') 1498 [(0, .ref b), (1, .ref (q 0)), (2, .ref o), (3, .int (nI i))] []) : JN p l e room_1 s m #[Value.ref b] below meth c Q 4 D A 103 2575 (Wl cI cG cW o qR q) (sR V row kept tried bf fd pk bo so sh mv tr, (S, X, P)) 373 [(0, .ref b), (1, .ref (q 0)), (2, .ref o), (3, .int (nI i))] [] := by
  obtain ⟨⟨nc, np, nw, d, nt, nq, hR⟩, ⟨im, him1, eV5, eV4, hMk⟩, ⟨hV15, hV16, hV18⟩, hSh, ⟨tn, h26, e26⟩⟩ := id hI
  have him3 : im ≤ 3000 := by omega
  refine n_aload_n C 1 dL_law_373 rfl ?_
  refine n_aload_n C 0 dL_law_374 rfl ?_
  refine n_iload_n C 3 dL_law_375 rfl ?_
  refine n_iconst C (v := (nI 1)) dL_law_376 (by decide) ?_
  refine n_iaddN C dL_law_377 ?_
  refine l_sld C hX hbl hbA (i + 1) (by omega) (by omega) dL_law_378 ?_
  refine n_aload_n C 0 dL_law_379 rfl ?_
  refine n_iload_n C 3 dL_law_380 rfl ?_
  refine n_iconst C (v := (nI 2)) dL_law_381 (by decide) ?_
  refine n_iaddN C dL_law_382 ?_
  refine l_sld C hX hbl hbA (i + 2) (by omega) (by omega) dL_law_383 ?_
  refine n_aload_n C 0 dL_law_384 rfl ?_
  refine n_iload_n C 3 dL_law_385 rfl ?_
  refine n_iconst C (v := (nI 3)) dL_law_386 (by decide) ?_
  refine n_iaddN C dL_law_387 ?_
  refine l_sld C hX hbl hbA (i + 3) (by omega) (by omega) dL_law_388 ?_
  refine l_callC (As := [.int (xs (i + 1)), .int (xs (i + 2)), .int (xs (i + 3))]) (rest := []) C hO vl_36 ((k_change hR hC).o) ⟨0, 11, _, _, rfl, rfl, rfl⟩ rfl (Nat.le_of_ble_eq_true rfl) dL_law_389 ⟨Nat.le_of_ble_eq_true rfl, Nat.le_of_ble_eq_true rfl⟩ ⟨Nat.le_of_ble_eq_true rfl, Nat.le_of_ble_eq_true rfl⟩ ?_
  rintro r1 κ1 ⟨e1, hC1⟩
  refine n_aload_n C 2 dL_law_392 rfl ?_
  refine n_aload_n C 0 dL_law_393 rfl ?_
  refine n_iload_n C 3 dL_law_394 rfl ?_
  refine n_iconst C (v := (nI 1)) dL_law_395 (by decide) ?_
  refine n_iaddN C dL_law_396 ?_
  refine l_sld C hX hbl hbA (i + 1) (by omega) (by omega) dL_law_397 ?_
  refine n_aload_n C 0 dL_law_398 rfl ?_
  refine n_iload_n C 3 dL_law_399 rfl ?_
  refine n_iconst C (v := (nI 2)) dL_law_400 (by decide) ?_
  refine n_iaddN C dL_law_401 ?_
  refine l_sld C hX hbl hbA (i + 2) (by omega) (by omega) dL_law_402 ?_
  refine n_aload_n C 0 dL_law_403 rfl ?_
  refine n_iload_n C 3 dL_law_404 rfl ?_
  refine n_iconst C (v := (nI 3)) dL_law_405 (by decide) ?_
  refine n_iaddN C dL_law_406 ?_
  refine l_sld C hX hbl hbA (i + 3) (by omega) (by omega) dL_law_407 ?_
  refine l_callM (As := [.int (xs (i + 1)), .int (xs (i + 2)), .int (xs (i + 3))]) (rest := [.int r1]) C vl_39 (c_change hR) rRcv rfl (Nat.le_of_ble_eq_true rfl) dL_law_408 ⟨Nat.le_of_ble_eq_true rfl, Nat.le_of_ble_eq_true rfl⟩ ⟨Nat.le_of_ble_eq_true rfl, Nat.le_of_ble_eq_true rfl⟩ ?_
  rintro r2 σ1 ⟨e2, hE⟩
  refine n_icmp_eq C 1498 dL_law_411 (by decide) (fun c_ => ?_) (fun c_ => ?_)
  · exact kk σ1 κ1 ((ri_change hI).eq hE) (hC1.eq hE)
  · exact absurd (e1.trans e2.symm) c_
theorem dL_law_416 : decode cL_law 416 = .ok (.aload_n 1, 1) := by decide +kernel
theorem dL_law_417 : decode cL_law 417 = .ok (.aload_n 0, 1) := by decide +kernel
theorem dL_law_418 : decode cL_law 418 = .ok (.iload_n 3, 1) := by decide +kernel
theorem dL_law_419 : decode cL_law 419 = .ok (.iconst 1, 1) := by decide +kernel
theorem dL_law_420 : decode cL_law 420 = .ok (.iadd, 1) := by decide +kernel
theorem dL_law_421 : decode cL_law 421 = .ok (.iaload, 1) := by decide +kernel
theorem dL_law_422 : decode cL_law 422 = .ok (.aload_n 0, 1) := by decide +kernel
theorem dL_law_423 : decode cL_law 423 = .ok (.iload_n 3, 1) := by decide +kernel
theorem dL_law_424 : decode cL_law 424 = .ok (.iconst 2, 1) := by decide +kernel
theorem dL_law_425 : decode cL_law 425 = .ok (.iadd, 1) := by decide +kernel
theorem dL_law_426 : decode cL_law 426 = .ok (.iaload, 1) := by decide +kernel
theorem dL_law_427 : decode cL_law 427 = .ok (.invokevirtual 40, 3) := by decide +kernel
theorem dL_law_430 : decode cL_law 430 = .ok (.aload_n 2, 1) := by decide +kernel
theorem dL_law_431 : decode cL_law 431 = .ok (.aload_n 0, 1) := by decide +kernel
theorem dL_law_432 : decode cL_law 432 = .ok (.iload_n 3, 1) := by decide +kernel
theorem dL_law_433 : decode cL_law 433 = .ok (.iconst 1, 1) := by decide +kernel
theorem dL_law_434 : decode cL_law 434 = .ok (.iadd, 1) := by decide +kernel
theorem dL_law_435 : decode cL_law 435 = .ok (.iaload, 1) := by decide +kernel
theorem dL_law_436 : decode cL_law 436 = .ok (.aload_n 0, 1) := by decide +kernel
theorem dL_law_437 : decode cL_law 437 = .ok (.iload_n 3, 1) := by decide +kernel
theorem dL_law_438 : decode cL_law 438 = .ok (.iconst 2, 1) := by decide +kernel
theorem dL_law_439 : decode cL_law 439 = .ok (.iadd, 1) := by decide +kernel
theorem dL_law_440 : decode cL_law 440 = .ok (.iaload, 1) := by decide +kernel
theorem dL_law_441 : decode cL_law 441 = .ok (.invokevirtual 43, 3) := by decide +kernel
theorem dL_law_444 : decode cL_law 444 = .ok (.if_icmp .eq 1054, 3) := by decide +kernel
theorem dL_law_447 : decode cL_law 447 = .ok (.iconst 0, 1) := by decide +kernel
theorem dL_law_448 : decode cL_law 448 = .ok (.ireturn, 1) := by decide +kernel
theorem vl_40 : VW R_law 40 yX11_become cX11_become 4 (some .int) 2 := ⟨gw 508 (by decide +kernel) rfl, gw 505 (by decide +kernel) rfl, gw 506 (by decide +kernel) rfl, gw 507 (by decide +kernel) rfl, gw 83 (by decide +kernel) rfl, by decide +kernel, by decide⟩
theorem vl_43 : VW R_law 43 yX12_become cX12_become 3 (some .int) 2 := ⟨gw 1204 (by decide +kernel) rfl, gw 1201 (by decide +kernel) rfl, gw 1202 (by decide +kernel) rfl, gw 1203 (by decide +kernel) rfl, gw 96 (by decide +kernel) rfl, by decide +kernel, by decide⟩
set_option maxHeartbeats 2000000 in
set_option maxRecDepth 20000 in
theorem lc_become {p : Program} {l : Launch} {e : Env} {s : State} {m : MethodId} {below : List Frame} {meth : Method} {c : Code} {Q : State → Prop} {D : va_G} {A : Nat → Prop} {cI cG cW : ClassId} {o : Nat} {qR q : Nat → Nat} {O : Ou} {b Ln : Nat} {xs : Nat → Int32} (C : Cx p s m #[Value.ref b] meth c code 4 R_law ret D (tyL cI cG cW) A) (hO : OUT O A s s.heap) (hX : va_X b Ln xs s s.heap) (hbl : b < s.heap.size) (hbA : ¬ A b) (hL : Ln ≤ 3072) {i M : Nat} (hi : i + 6 ≤ Ln) {V row kept tried bf fd pk bo so sh mv tr : Nat → Int32} {S : Nat → Int32} {X : Nat → Nat → Int32} {P : Nat → Nat} (hI : RI M (sR V row kept tried bf fd pk bo so sh mv tr)) (hC : CR (S, X, P) (sR V row kept tried bf fd pk bo so sh mv tr)) (hM : M < 3000) (kk : ∀ (σ' : RS) (κ' : CS), RI (M + 1) σ' → CR κ' σ' → JN p l e room_1 s m #[Value.ref b] below meth c Q 4 D A 103 2575 (Wl cI cG cW o qR q) (σ', κ') 1498 [(0, .ref b), (1, .ref (q 0)), (2, .ref o), (3, .int (nI i))] []) : JN p l e room_1 s m #[Value.ref b] below meth c Q 4 D A 103 2575 (Wl cI cG cW o qR q) (sR V row kept tried bf fd pk bo so sh mv tr, (S, X, P)) 416 [(0, .ref b), (1, .ref (q 0)), (2, .ref o), (3, .int (nI i))] [] := by
  obtain ⟨⟨nc, np, nw, d, nt, nq, hR⟩, ⟨im, him1, eV5, eV4, hMk⟩, ⟨hV15, hV16, hV18⟩, hSh, ⟨tn, h26, e26⟩⟩ := id hI
  have him3 : im ≤ 3000 := by omega
  refine n_aload_n C 1 dL_law_416 rfl ?_
  refine n_aload_n C 0 dL_law_417 rfl ?_
  refine n_iload_n C 3 dL_law_418 rfl ?_
  refine n_iconst C (v := (nI 1)) dL_law_419 (by decide) ?_
  refine n_iaddN C dL_law_420 ?_
  refine l_sld C hX hbl hbA (i + 1) (by omega) (by omega) dL_law_421 ?_
  refine n_aload_n C 0 dL_law_422 rfl ?_
  refine n_iload_n C 3 dL_law_423 rfl ?_
  refine n_iconst C (v := (nI 2)) dL_law_424 (by decide) ?_
  refine n_iaddN C dL_law_425 ?_
  refine l_sld C hX hbl hbA (i + 2) (by omega) (by omega) dL_law_426 ?_
  refine l_callC (As := [.int (xs (i + 1)), .int (xs (i + 2))]) (rest := []) C hO vl_40 ((k_become hR hC).o) ⟨0, 11, _, _, rfl, rfl, rfl⟩ rfl (Nat.le_of_ble_eq_true rfl) dL_law_427 ⟨Nat.le_of_ble_eq_true rfl, Nat.le_of_ble_eq_true rfl⟩ ⟨Nat.le_of_ble_eq_true rfl, Nat.le_of_ble_eq_true rfl⟩ ?_
  rintro r1 κ1 ⟨e1, hC1⟩
  refine n_aload_n C 2 dL_law_430 rfl ?_
  refine n_aload_n C 0 dL_law_431 rfl ?_
  refine n_iload_n C 3 dL_law_432 rfl ?_
  refine n_iconst C (v := (nI 1)) dL_law_433 (by decide) ?_
  refine n_iaddN C dL_law_434 ?_
  refine l_sld C hX hbl hbA (i + 1) (by omega) (by omega) dL_law_435 ?_
  refine n_aload_n C 0 dL_law_436 rfl ?_
  refine n_iload_n C 3 dL_law_437 rfl ?_
  refine n_iconst C (v := (nI 2)) dL_law_438 (by decide) ?_
  refine n_iaddN C dL_law_439 ?_
  refine l_sld C hX hbl hbA (i + 2) (by omega) (by omega) dL_law_440 ?_
  refine l_callM (As := [.int (xs (i + 1)), .int (xs (i + 2))]) (rest := [.int r1]) C vl_43 (c_become hR) rRcv rfl (Nat.le_of_ble_eq_true rfl) dL_law_441 ⟨Nat.le_of_ble_eq_true rfl, Nat.le_of_ble_eq_true rfl⟩ ⟨Nat.le_of_ble_eq_true rfl, Nat.le_of_ble_eq_true rfl⟩ ?_
  rintro r2 σ1 ⟨e2, hE⟩
  refine n_icmp_eq C 1498 dL_law_444 (by decide) (fun c_ => ?_) (fun c_ => ?_)
  · exact kk σ1 κ1 ((ri_become hI).eq hE) (hC1.eq hE)
  · exact absurd (e1.trans e2.symm) c_
theorem dL_law_449 : decode cL_law 449 = .ok (.aload_n 1, 1) := by decide +kernel
theorem dL_law_450 : decode cL_law 450 = .ok (.aload_n 0, 1) := by decide +kernel
theorem dL_law_451 : decode cL_law 451 = .ok (.iload_n 3, 1) := by decide +kernel
theorem dL_law_452 : decode cL_law 452 = .ok (.iconst 1, 1) := by decide +kernel
theorem dL_law_453 : decode cL_law 453 = .ok (.iadd, 1) := by decide +kernel
theorem dL_law_454 : decode cL_law 454 = .ok (.iaload, 1) := by decide +kernel
theorem dL_law_455 : decode cL_law 455 = .ok (.aload_n 0, 1) := by decide +kernel
theorem dL_law_456 : decode cL_law 456 = .ok (.iload_n 3, 1) := by decide +kernel
theorem dL_law_457 : decode cL_law 457 = .ok (.iconst 2, 1) := by decide +kernel
theorem dL_law_458 : decode cL_law 458 = .ok (.iadd, 1) := by decide +kernel
theorem dL_law_459 : decode cL_law 459 = .ok (.iaload, 1) := by decide +kernel
theorem dL_law_460 : decode cL_law 460 = .ok (.invokevirtual 44, 3) := by decide +kernel
theorem dL_law_463 : decode cL_law 463 = .ok (.aload_n 2, 1) := by decide +kernel
theorem dL_law_464 : decode cL_law 464 = .ok (.aload_n 0, 1) := by decide +kernel
theorem dL_law_465 : decode cL_law 465 = .ok (.iload_n 3, 1) := by decide +kernel
theorem dL_law_466 : decode cL_law 466 = .ok (.iconst 1, 1) := by decide +kernel
theorem dL_law_467 : decode cL_law 467 = .ok (.iadd, 1) := by decide +kernel
theorem dL_law_468 : decode cL_law 468 = .ok (.iaload, 1) := by decide +kernel
theorem dL_law_469 : decode cL_law 469 = .ok (.aload_n 0, 1) := by decide +kernel
theorem dL_law_470 : decode cL_law 470 = .ok (.iload_n 3, 1) := by decide +kernel
theorem dL_law_471 : decode cL_law 471 = .ok (.iconst 2, 1) := by decide +kernel
theorem dL_law_472 : decode cL_law 472 = .ok (.iadd, 1) := by decide +kernel
theorem dL_law_473 : decode cL_law 473 = .ok (.iaload, 1) := by decide +kernel
theorem dL_law_474 : decode cL_law 474 = .ok (.invokevirtual 47, 3) := by decide +kernel
theorem dL_law_477 : decode cL_law 477 = .ok (.if_icmp .eq 1021, 3) := by decide +kernel
theorem dL_law_480 : decode cL_law 480 = .ok (.iconst 0, 1) := by decide +kernel
theorem dL_law_481 : decode cL_law 481 = .ok (.ireturn, 1) := by decide +kernel
theorem vl_44 : VW R_law 44 yX11_as cX11_as 3 (some .int) 2 := ⟨gw 512 (by decide +kernel) rfl, gw 509 (by decide +kernel) rfl, gw 510 (by decide +kernel) rfl, gw 511 (by decide +kernel) rfl, gw 83 (by decide +kernel) rfl, by decide +kernel, by decide⟩
theorem vl_47 : VW R_law 47 yX12_as cX12_as 4 (some .int) 2 := ⟨gw 1208 (by decide +kernel) rfl, gw 1205 (by decide +kernel) rfl, gw 1206 (by decide +kernel) rfl, gw 1207 (by decide +kernel) rfl, gw 96 (by decide +kernel) rfl, by decide +kernel, by decide⟩
set_option maxHeartbeats 2000000 in
set_option maxRecDepth 20000 in
theorem lc_as {p : Program} {l : Launch} {e : Env} {s : State} {m : MethodId} {below : List Frame} {meth : Method} {c : Code} {Q : State → Prop} {D : va_G} {A : Nat → Prop} {cI cG cW : ClassId} {o : Nat} {qR q : Nat → Nat} {O : Ou} {b Ln : Nat} {xs : Nat → Int32} (C : Cx p s m #[Value.ref b] meth c code 4 R_law ret D (tyL cI cG cW) A) (hO : OUT O A s s.heap) (hX : va_X b Ln xs s s.heap) (hbl : b < s.heap.size) (hbA : ¬ A b) (hL : Ln ≤ 3072) {i M : Nat} (hi : i + 6 ≤ Ln) {V row kept tried bf fd pk bo so sh mv tr : Nat → Int32} {S : Nat → Int32} {X : Nat → Nat → Int32} {P : Nat → Nat} (hI : RI M (sR V row kept tried bf fd pk bo so sh mv tr)) (hC : CR (S, X, P) (sR V row kept tried bf fd pk bo so sh mv tr)) (hM : M < 3000) (kk : ∀ (σ' : RS) (κ' : CS), RI (M + 1) σ' → CR κ' σ' → JN p l e room_1 s m #[Value.ref b] below meth c Q 4 D A 103 2575 (Wl cI cG cW o qR q) (σ', κ') 1498 [(0, .ref b), (1, .ref (q 0)), (2, .ref o), (3, .int (nI i))] []) : JN p l e room_1 s m #[Value.ref b] below meth c Q 4 D A 103 2575 (Wl cI cG cW o qR q) (sR V row kept tried bf fd pk bo so sh mv tr, (S, X, P)) 449 [(0, .ref b), (1, .ref (q 0)), (2, .ref o), (3, .int (nI i))] [] := by
  obtain ⟨⟨nc, np, nw, d, nt, nq, hR⟩, ⟨im, him1, eV5, eV4, hMk⟩, ⟨hV15, hV16, hV18⟩, hSh, ⟨tn, h26, e26⟩⟩ := id hI
  have him3 : im ≤ 3000 := by omega
  refine n_aload_n C 1 dL_law_449 rfl ?_
  refine n_aload_n C 0 dL_law_450 rfl ?_
  refine n_iload_n C 3 dL_law_451 rfl ?_
  refine n_iconst C (v := (nI 1)) dL_law_452 (by decide) ?_
  refine n_iaddN C dL_law_453 ?_
  refine l_sld C hX hbl hbA (i + 1) (by omega) (by omega) dL_law_454 ?_
  refine n_aload_n C 0 dL_law_455 rfl ?_
  refine n_iload_n C 3 dL_law_456 rfl ?_
  refine n_iconst C (v := (nI 2)) dL_law_457 (by decide) ?_
  refine n_iaddN C dL_law_458 ?_
  refine l_sld C hX hbl hbA (i + 2) (by omega) (by omega) dL_law_459 ?_
  refine l_callC (As := [.int (xs (i + 1)), .int (xs (i + 2))]) (rest := []) C hO vl_44 (k_as hR hC) ⟨0, 11, _, _, rfl, rfl, rfl⟩ rfl (Nat.le_of_ble_eq_true rfl) dL_law_460 ⟨Nat.le_of_ble_eq_true rfl, Nat.le_of_ble_eq_true rfl⟩ ⟨Nat.le_of_ble_eq_true rfl, Nat.le_of_ble_eq_true rfl⟩ ?_
  rintro r1 κ1 ⟨e1, hC1⟩
  refine n_aload_n C 2 dL_law_463 rfl ?_
  refine n_aload_n C 0 dL_law_464 rfl ?_
  refine n_iload_n C 3 dL_law_465 rfl ?_
  refine n_iconst C (v := (nI 1)) dL_law_466 (by decide) ?_
  refine n_iaddN C dL_law_467 ?_
  refine l_sld C hX hbl hbA (i + 1) (by omega) (by omega) dL_law_468 ?_
  refine n_aload_n C 0 dL_law_469 rfl ?_
  refine n_iload_n C 3 dL_law_470 rfl ?_
  refine n_iconst C (v := (nI 2)) dL_law_471 (by decide) ?_
  refine n_iaddN C dL_law_472 ?_
  refine l_sld C hX hbl hbA (i + 2) (by omega) (by omega) dL_law_473 ?_
  refine l_callM (As := [.int (xs (i + 1)), .int (xs (i + 2))]) (rest := [.int r1]) C vl_47 (c_as hR) rRcv rfl (Nat.le_of_ble_eq_true rfl) dL_law_474 ⟨Nat.le_of_ble_eq_true rfl, Nat.le_of_ble_eq_true rfl⟩ ⟨Nat.le_of_ble_eq_true rfl, Nat.le_of_ble_eq_true rfl⟩ ?_
  rintro r2 σ1 ⟨e2, hE⟩
  refine n_icmp_eq C 1498 dL_law_477 (by decide) (fun c_ => ?_) (fun c_ => ?_)
  · exact kk σ1 κ1 ((ri_as hI).eq hE) (hC1.eq hE)
  · exact absurd (e1.trans e2.symm) c_
theorem dL_law_482 : decode cL_law 482 = .ok (.aload_n 1, 1) := by decide +kernel
theorem dL_law_483 : decode cL_law 483 = .ok (.aload_n 0, 1) := by decide +kernel
theorem dL_law_484 : decode cL_law 484 = .ok (.iload_n 3, 1) := by decide +kernel
theorem dL_law_485 : decode cL_law 485 = .ok (.iconst 1, 1) := by decide +kernel
theorem dL_law_486 : decode cL_law 486 = .ok (.iadd, 1) := by decide +kernel
theorem dL_law_487 : decode cL_law 487 = .ok (.iaload, 1) := by decide +kernel
theorem dL_law_488 : decode cL_law 488 = .ok (.aload_n 0, 1) := by decide +kernel
theorem dL_law_489 : decode cL_law 489 = .ok (.iload_n 3, 1) := by decide +kernel
theorem dL_law_490 : decode cL_law 490 = .ok (.iconst 2, 1) := by decide +kernel
theorem dL_law_491 : decode cL_law 491 = .ok (.iadd, 1) := by decide +kernel
theorem dL_law_492 : decode cL_law 492 = .ok (.iaload, 1) := by decide +kernel
theorem dL_law_493 : decode cL_law 493 = .ok (.aload_n 0, 1) := by decide +kernel
theorem dL_law_494 : decode cL_law 494 = .ok (.iload_n 3, 1) := by decide +kernel
theorem dL_law_495 : decode cL_law 495 = .ok (.iconst 3, 1) := by decide +kernel
theorem dL_law_496 : decode cL_law 496 = .ok (.iadd, 1) := by decide +kernel
theorem dL_law_497 : decode cL_law 497 = .ok (.iaload, 1) := by decide +kernel
theorem dL_law_498 : decode cL_law 498 = .ok (.invokevirtual 48, 3) := by decide +kernel
theorem dL_law_501 : decode cL_law 501 = .ok (.aload_n 2, 1) := by decide +kernel
theorem dL_law_502 : decode cL_law 502 = .ok (.aload_n 0, 1) := by decide +kernel
theorem dL_law_503 : decode cL_law 503 = .ok (.iload_n 3, 1) := by decide +kernel
theorem dL_law_504 : decode cL_law 504 = .ok (.iconst 1, 1) := by decide +kernel
theorem dL_law_505 : decode cL_law 505 = .ok (.iadd, 1) := by decide +kernel
theorem dL_law_506 : decode cL_law 506 = .ok (.iaload, 1) := by decide +kernel
theorem dL_law_507 : decode cL_law 507 = .ok (.aload_n 0, 1) := by decide +kernel
theorem dL_law_508 : decode cL_law 508 = .ok (.iload_n 3, 1) := by decide +kernel
theorem dL_law_509 : decode cL_law 509 = .ok (.iconst 2, 1) := by decide +kernel
theorem dL_law_510 : decode cL_law 510 = .ok (.iadd, 1) := by decide +kernel
theorem dL_law_511 : decode cL_law 511 = .ok (.iaload, 1) := by decide +kernel
theorem dL_law_512 : decode cL_law 512 = .ok (.aload_n 0, 1) := by decide +kernel
theorem dL_law_513 : decode cL_law 513 = .ok (.iload_n 3, 1) := by decide +kernel
theorem dL_law_514 : decode cL_law 514 = .ok (.iconst 3, 1) := by decide +kernel
theorem dL_law_515 : decode cL_law 515 = .ok (.iadd, 1) := by decide +kernel
theorem dL_law_516 : decode cL_law 516 = .ok (.iaload, 1) := by decide +kernel
theorem dL_law_517 : decode cL_law 517 = .ok (.invokevirtual 51, 3) := by decide +kernel
theorem dL_law_520 : decode cL_law 520 = .ok (.if_icmp .eq 978, 3) := by decide +kernel
theorem dL_law_523 : decode cL_law 523 = .ok (.iconst 0, 1) := by decide +kernel
theorem dL_law_524 : decode cL_law 524 = .ok (.ireturn, 1) := by decide +kernel
theorem vl_48 : VW R_law 48 yX11_wrong cX11_wrong 4 (some .int) 3 := ⟨gw 521 (by decide +kernel) rfl, gw 518 (by decide +kernel) rfl, gw 519 (by decide +kernel) rfl, gw 520 (by decide +kernel) rfl, gw 83 (by decide +kernel) rfl, by decide +kernel, by decide⟩
theorem vl_51 : VW R_law 51 yX12_wrong cX12_wrong 5 (some .int) 3 := ⟨gw 1216 (by decide +kernel) rfl, gw 1213 (by decide +kernel) rfl, gw 1214 (by decide +kernel) rfl, gw 1215 (by decide +kernel) rfl, gw 96 (by decide +kernel) rfl, by decide +kernel, by decide⟩
set_option maxHeartbeats 2000000 in
set_option maxRecDepth 20000 in
theorem lc_wrong {p : Program} {l : Launch} {e : Env} {s : State} {m : MethodId} {below : List Frame} {meth : Method} {c : Code} {Q : State → Prop} {D : va_G} {A : Nat → Prop} {cI cG cW : ClassId} {o : Nat} {qR q : Nat → Nat} {O : Ou} {b Ln : Nat} {xs : Nat → Int32} (C : Cx p s m #[Value.ref b] meth c code 4 R_law ret D (tyL cI cG cW) A) (hO : OUT O A s s.heap) (hX : va_X b Ln xs s s.heap) (hbl : b < s.heap.size) (hbA : ¬ A b) (hL : Ln ≤ 3072) {i M : Nat} (hi : i + 6 ≤ Ln) {V row kept tried bf fd pk bo so sh mv tr : Nat → Int32} {S : Nat → Int32} {X : Nat → Nat → Int32} {P : Nat → Nat} (hI : RI M (sR V row kept tried bf fd pk bo so sh mv tr)) (hC : CR (S, X, P) (sR V row kept tried bf fd pk bo so sh mv tr)) (hM : M < 3000) (kk : ∀ (σ' : RS) (κ' : CS), RI (M + 1) σ' → CR κ' σ' → JN p l e room_1 s m #[Value.ref b] below meth c Q 4 D A 103 2575 (Wl cI cG cW o qR q) (σ', κ') 1498 [(0, .ref b), (1, .ref (q 0)), (2, .ref o), (3, .int (nI i))] []) : JN p l e room_1 s m #[Value.ref b] below meth c Q 4 D A 103 2575 (Wl cI cG cW o qR q) (sR V row kept tried bf fd pk bo so sh mv tr, (S, X, P)) 482 [(0, .ref b), (1, .ref (q 0)), (2, .ref o), (3, .int (nI i))] [] := by
  obtain ⟨⟨nc, np, nw, d, nt, nq, hR⟩, ⟨im, him1, eV5, eV4, hMk⟩, ⟨hV15, hV16, hV18⟩, hSh, ⟨tn, h26, e26⟩⟩ := id hI
  have him3 : im ≤ 3000 := by omega
  refine n_aload_n C 1 dL_law_482 rfl ?_
  refine n_aload_n C 0 dL_law_483 rfl ?_
  refine n_iload_n C 3 dL_law_484 rfl ?_
  refine n_iconst C (v := (nI 1)) dL_law_485 (by decide) ?_
  refine n_iaddN C dL_law_486 ?_
  refine l_sld C hX hbl hbA (i + 1) (by omega) (by omega) dL_law_487 ?_
  refine n_aload_n C 0 dL_law_488 rfl ?_
  refine n_iload_n C 3 dL_law_489 rfl ?_
  refine n_iconst C (v := (nI 2)) dL_law_490 (by decide) ?_
  refine n_iaddN C dL_law_491 ?_
  refine l_sld C hX hbl hbA (i + 2) (by omega) (by omega) dL_law_492 ?_
  refine n_aload_n C 0 dL_law_493 rfl ?_
  refine n_iload_n C 3 dL_law_494 rfl ?_
  refine n_iconst C (v := (nI 3)) dL_law_495 (by decide) ?_
  refine n_iaddN C dL_law_496 ?_
  refine l_sld C hX hbl hbA (i + 3) (by omega) (by omega) dL_law_497 ?_
  refine l_callC (As := [.int (xs (i + 1)), .int (xs (i + 2)), .int (xs (i + 3))]) (rest := []) C hO vl_48 ((k_wrong hR hC).o) ⟨0, 11, _, _, rfl, rfl, rfl⟩ rfl (Nat.le_of_ble_eq_true rfl) dL_law_498 ⟨Nat.le_of_ble_eq_true rfl, Nat.le_of_ble_eq_true rfl⟩ ⟨Nat.le_of_ble_eq_true rfl, Nat.le_of_ble_eq_true rfl⟩ ?_
  rintro r1 κ1 ⟨e1, hC1⟩
  refine n_aload_n C 2 dL_law_501 rfl ?_
  refine n_aload_n C 0 dL_law_502 rfl ?_
  refine n_iload_n C 3 dL_law_503 rfl ?_
  refine n_iconst C (v := (nI 1)) dL_law_504 (by decide) ?_
  refine n_iaddN C dL_law_505 ?_
  refine l_sld C hX hbl hbA (i + 1) (by omega) (by omega) dL_law_506 ?_
  refine n_aload_n C 0 dL_law_507 rfl ?_
  refine n_iload_n C 3 dL_law_508 rfl ?_
  refine n_iconst C (v := (nI 2)) dL_law_509 (by decide) ?_
  refine n_iaddN C dL_law_510 ?_
  refine l_sld C hX hbl hbA (i + 2) (by omega) (by omega) dL_law_511 ?_
  refine n_aload_n C 0 dL_law_512 rfl ?_
  refine n_iload_n C 3 dL_law_513 rfl ?_
  refine n_iconst C (v := (nI 3)) dL_law_514 (by decide) ?_
  refine n_iaddN C dL_law_515 ?_
  refine l_sld C hX hbl hbA (i + 3) (by omega) (by omega) dL_law_516 ?_
  refine l_callM (As := [.int (xs (i + 1)), .int (xs (i + 2)), .int (xs (i + 3))]) (rest := [.int r1]) C vl_51 (c_wrong hR) rRcv rfl (Nat.le_of_ble_eq_true rfl) dL_law_517 ⟨Nat.le_of_ble_eq_true rfl, Nat.le_of_ble_eq_true rfl⟩ ⟨Nat.le_of_ble_eq_true rfl, Nat.le_of_ble_eq_true rfl⟩ ?_
  rintro r2 σ1 ⟨e2, hE⟩
  refine n_icmp_eq C 1498 dL_law_520 (by decide) (fun c_ => ?_) (fun c_ => ?_)
  · exact kk σ1 κ1 ((ri_wrong hI).eq hE) (hC1.eq hE)
  · exact absurd (e1.trans e2.symm) c_
theorem dL_law_525 : decode cL_law 525 = .ok (.aload_n 1, 1) := by decide +kernel
theorem dL_law_526 : decode cL_law 526 = .ok (.aload_n 0, 1) := by decide +kernel
theorem dL_law_527 : decode cL_law 527 = .ok (.iload_n 3, 1) := by decide +kernel
theorem dL_law_528 : decode cL_law 528 = .ok (.iconst 1, 1) := by decide +kernel
theorem dL_law_529 : decode cL_law 529 = .ok (.iadd, 1) := by decide +kernel
theorem dL_law_530 : decode cL_law 530 = .ok (.iaload, 1) := by decide +kernel
theorem dL_law_531 : decode cL_law 531 = .ok (.aload_n 0, 1) := by decide +kernel
theorem dL_law_532 : decode cL_law 532 = .ok (.iload_n 3, 1) := by decide +kernel
theorem dL_law_533 : decode cL_law 533 = .ok (.iconst 2, 1) := by decide +kernel
theorem dL_law_534 : decode cL_law 534 = .ok (.iadd, 1) := by decide +kernel
theorem dL_law_535 : decode cL_law 535 = .ok (.iaload, 1) := by decide +kernel
theorem dL_law_536 : decode cL_law 536 = .ok (.invokevirtual 52, 3) := by decide +kernel
theorem dL_law_539 : decode cL_law 539 = .ok (.aload_n 2, 1) := by decide +kernel
theorem dL_law_540 : decode cL_law 540 = .ok (.aload_n 0, 1) := by decide +kernel
theorem dL_law_541 : decode cL_law 541 = .ok (.iload_n 3, 1) := by decide +kernel
theorem dL_law_542 : decode cL_law 542 = .ok (.iconst 1, 1) := by decide +kernel
theorem dL_law_543 : decode cL_law 543 = .ok (.iadd, 1) := by decide +kernel
theorem dL_law_544 : decode cL_law 544 = .ok (.iaload, 1) := by decide +kernel
theorem dL_law_545 : decode cL_law 545 = .ok (.aload_n 0, 1) := by decide +kernel
theorem dL_law_546 : decode cL_law 546 = .ok (.iload_n 3, 1) := by decide +kernel
theorem dL_law_547 : decode cL_law 547 = .ok (.iconst 2, 1) := by decide +kernel
theorem dL_law_548 : decode cL_law 548 = .ok (.iadd, 1) := by decide +kernel
theorem dL_law_549 : decode cL_law 549 = .ok (.iaload, 1) := by decide +kernel
theorem dL_law_550 : decode cL_law 550 = .ok (.invokevirtual 55, 3) := by decide +kernel
theorem dL_law_553 : decode cL_law 553 = .ok (.if_icmp .eq 945, 3) := by decide +kernel
theorem dL_law_556 : decode cL_law 556 = .ok (.iconst 0, 1) := by decide +kernel
theorem dL_law_557 : decode cL_law 557 = .ok (.ireturn, 1) := by decide +kernel
theorem vl_52 : VW R_law 52 yX11_ofWrong cX11_ofWrong 3 (some .int) 2 := ⟨gw 529 (by decide +kernel) rfl, gw 526 (by decide +kernel) rfl, gw 527 (by decide +kernel) rfl, gw 528 (by decide +kernel) rfl, gw 83 (by decide +kernel) rfl, by decide +kernel, by decide⟩
theorem vl_55 : VW R_law 55 yX12_ofWrong cX12_ofWrong 3 (some .int) 2 := ⟨gw 1220 (by decide +kernel) rfl, gw 1217 (by decide +kernel) rfl, gw 1218 (by decide +kernel) rfl, gw 1219 (by decide +kernel) rfl, gw 96 (by decide +kernel) rfl, by decide +kernel, by decide⟩
set_option maxHeartbeats 2000000 in
set_option maxRecDepth 20000 in
theorem lc_ofWrong {p : Program} {l : Launch} {e : Env} {s : State} {m : MethodId} {below : List Frame} {meth : Method} {c : Code} {Q : State → Prop} {D : va_G} {A : Nat → Prop} {cI cG cW : ClassId} {o : Nat} {qR q : Nat → Nat} {O : Ou} {b Ln : Nat} {xs : Nat → Int32} (C : Cx p s m #[Value.ref b] meth c code 4 R_law ret D (tyL cI cG cW) A) (hO : OUT O A s s.heap) (hX : va_X b Ln xs s s.heap) (hbl : b < s.heap.size) (hbA : ¬ A b) (hL : Ln ≤ 3072) {i M : Nat} (hi : i + 6 ≤ Ln) {V row kept tried bf fd pk bo so sh mv tr : Nat → Int32} {S : Nat → Int32} {X : Nat → Nat → Int32} {P : Nat → Nat} (hI : RI M (sR V row kept tried bf fd pk bo so sh mv tr)) (hC : CR (S, X, P) (sR V row kept tried bf fd pk bo so sh mv tr)) (hM : M < 3000) (kk : ∀ (σ' : RS) (κ' : CS), RI (M + 1) σ' → CR κ' σ' → JN p l e room_1 s m #[Value.ref b] below meth c Q 4 D A 103 2575 (Wl cI cG cW o qR q) (σ', κ') 1498 [(0, .ref b), (1, .ref (q 0)), (2, .ref o), (3, .int (nI i))] []) : JN p l e room_1 s m #[Value.ref b] below meth c Q 4 D A 103 2575 (Wl cI cG cW o qR q) (sR V row kept tried bf fd pk bo so sh mv tr, (S, X, P)) 525 [(0, .ref b), (1, .ref (q 0)), (2, .ref o), (3, .int (nI i))] [] := by
  obtain ⟨⟨nc, np, nw, d, nt, nq, hR⟩, ⟨im, him1, eV5, eV4, hMk⟩, ⟨hV15, hV16, hV18⟩, hSh, ⟨tn, h26, e26⟩⟩ := id hI
  have him3 : im ≤ 3000 := by omega
  refine n_aload_n C 1 dL_law_525 rfl ?_
  refine n_aload_n C 0 dL_law_526 rfl ?_
  refine n_iload_n C 3 dL_law_527 rfl ?_
  refine n_iconst C (v := (nI 1)) dL_law_528 (by decide) ?_
  refine n_iaddN C dL_law_529 ?_
  refine l_sld C hX hbl hbA (i + 1) (by omega) (by omega) dL_law_530 ?_
  refine n_aload_n C 0 dL_law_531 rfl ?_
  refine n_iload_n C 3 dL_law_532 rfl ?_
  refine n_iconst C (v := (nI 2)) dL_law_533 (by decide) ?_
  refine n_iaddN C dL_law_534 ?_
  refine l_sld C hX hbl hbA (i + 2) (by omega) (by omega) dL_law_535 ?_
  refine l_callC (As := [.int (xs (i + 1)), .int (xs (i + 2))]) (rest := []) C hO vl_52 ((k_ofWrong hR hC).o) ⟨0, 11, _, _, rfl, rfl, rfl⟩ rfl (Nat.le_of_ble_eq_true rfl) dL_law_536 ⟨Nat.le_of_ble_eq_true rfl, Nat.le_of_ble_eq_true rfl⟩ ⟨Nat.le_of_ble_eq_true rfl, Nat.le_of_ble_eq_true rfl⟩ ?_
  rintro r1 κ1 ⟨e1, hC1⟩
  refine n_aload_n C 2 dL_law_539 rfl ?_
  refine n_aload_n C 0 dL_law_540 rfl ?_
  refine n_iload_n C 3 dL_law_541 rfl ?_
  refine n_iconst C (v := (nI 1)) dL_law_542 (by decide) ?_
  refine n_iaddN C dL_law_543 ?_
  refine l_sld C hX hbl hbA (i + 1) (by omega) (by omega) dL_law_544 ?_
  refine n_aload_n C 0 dL_law_545 rfl ?_
  refine n_iload_n C 3 dL_law_546 rfl ?_
  refine n_iconst C (v := (nI 2)) dL_law_547 (by decide) ?_
  refine n_iaddN C dL_law_548 ?_
  refine l_sld C hX hbl hbA (i + 2) (by omega) (by omega) dL_law_549 ?_
  refine l_callM (As := [.int (xs (i + 1)), .int (xs (i + 2))]) (rest := [.int r1]) C vl_55 (c_ofWrong hR) rRcv rfl (Nat.le_of_ble_eq_true rfl) dL_law_550 ⟨Nat.le_of_ble_eq_true rfl, Nat.le_of_ble_eq_true rfl⟩ ⟨Nat.le_of_ble_eq_true rfl, Nat.le_of_ble_eq_true rfl⟩ ?_
  rintro r2 σ1 ⟨e2, hE⟩
  refine n_icmp_eq C 1498 dL_law_553 (by decide) (fun c_ => ?_) (fun c_ => ?_)
  · exact kk σ1 κ1 ((ri_ofWrong hI).eq hE) (hC1.eq hE)
  · exact absurd (e1.trans e2.symm) c_

/-! The law's cases 35 to 39. -/
theorem dL_law_1403 : decode cL_law 1403 = .ok (.aload_n 1, 1) := by decide +kernel
theorem dL_law_1404 : decode cL_law 1404 = .ok (.invokevirtual 162, 3) := by decide +kernel
theorem dL_law_1407 : decode cL_law 1407 = .ok (.aload_n 2, 1) := by decide +kernel
theorem dL_law_1408 : decode cL_law 1408 = .ok (.invokevirtual 165, 3) := by decide +kernel
theorem dL_law_1411 : decode cL_law 1411 = .ok (.if_icmp .eq 87, 3) := by decide +kernel
theorem dL_law_1414 : decode cL_law 1414 = .ok (.iconst 0, 1) := by decide +kernel
theorem dL_law_1415 : decode cL_law 1415 = .ok (.ireturn, 1) := by decide +kernel
theorem vl_162 : VW R_law 162 yX11_restore cX11_restore 1 (some .int) 0 := ⟨gw 957 (by decide +kernel) rfl, gw 954 (by decide +kernel) rfl, gw 955 (by decide +kernel) rfl, gw 956 (by decide +kernel) rfl, gw 83 (by decide +kernel) rfl, by decide +kernel, by decide⟩
theorem vl_165 : VW R_law 165 yX12_restore cX12_restore 1 (some .int) 0 := ⟨gw 1403 (by decide +kernel) rfl, gw 1400 (by decide +kernel) rfl, gw 1401 (by decide +kernel) rfl, gw 1402 (by decide +kernel) rfl, gw 96 (by decide +kernel) rfl, by decide +kernel, by decide⟩
set_option maxHeartbeats 2000000 in
set_option maxRecDepth 20000 in
theorem lc_restore {p : Program} {l : Launch} {e : Env} {s : State} {m : MethodId} {below : List Frame} {meth : Method} {c : Code} {Q : State → Prop} {D : va_G} {A : Nat → Prop} {cI cG cW : ClassId} {o : Nat} {qR q : Nat → Nat} {O : Ou} {b Ln : Nat} {xs : Nat → Int32} (C : Cx p s m #[Value.ref b] meth c code 4 R_law ret D (tyL cI cG cW) A) (hO : OUT O A s s.heap) (hX : va_X b Ln xs s s.heap) (hbl : b < s.heap.size) (hbA : ¬ A b) (hL : Ln ≤ 3072) {i M : Nat} (hi : i + 6 ≤ Ln) {V row kept tried bf fd pk bo so sh mv tr : Nat → Int32} {S : Nat → Int32} {X : Nat → Nat → Int32} {P : Nat → Nat} (hI : RI M (sR V row kept tried bf fd pk bo so sh mv tr)) (hC : CR (S, X, P) (sR V row kept tried bf fd pk bo so sh mv tr)) (hM : M < 3000) (kk : ∀ (σ' : RS) (κ' : CS), RI (M + 1) σ' → CR κ' σ' → JN p l e room_1 s m #[Value.ref b] below meth c Q 4 D A 103 2575 (Wl cI cG cW o qR q) (σ', κ') 1498 [(0, .ref b), (1, .ref (q 0)), (2, .ref o), (3, .int (nI i))] []) : JN p l e room_1 s m #[Value.ref b] below meth c Q 4 D A 103 2575 (Wl cI cG cW o qR q) (sR V row kept tried bf fd pk bo so sh mv tr, (S, X, P)) 1403 [(0, .ref b), (1, .ref (q 0)), (2, .ref o), (3, .int (nI i))] [] := by
  obtain ⟨⟨nc, np, nw, d, nt, nq, hR⟩, ⟨im, him1, eV5, eV4, hMk⟩, ⟨hV15, hV16, hV18⟩, hSh, ⟨tn, h26, e26⟩⟩ := id hI
  have him3 : im ≤ 3000 := by omega
  refine n_aload_n C 1 dL_law_1403 rfl ?_
  refine l_callC (As := []) (rest := []) C hO vl_162 ((k_restore hR hC him3 eV5 eV4 hMk).o) ⟨0, 11, _, _, rfl, rfl, rfl⟩ rfl (Nat.le_of_ble_eq_true rfl) dL_law_1404 ⟨Nat.le_of_ble_eq_true rfl, Nat.le_of_ble_eq_true rfl⟩ ⟨Nat.le_of_ble_eq_true rfl, Nat.le_of_ble_eq_true rfl⟩ ?_
  rintro r1 κ1 ⟨e1, hC1⟩
  refine n_aload_n C 2 dL_law_1407 rfl ?_
  refine l_callM (As := []) (rest := [.int r1]) C vl_165 (c_restore hR) rRcv rfl (Nat.le_of_ble_eq_true rfl) dL_law_1408 ⟨Nat.le_of_ble_eq_true rfl, Nat.le_of_ble_eq_true rfl⟩ ⟨Nat.le_of_ble_eq_true rfl, Nat.le_of_ble_eq_true rfl⟩ ?_
  rintro r2 σ1 ⟨e2, hE⟩
  refine n_icmp_eq C 1498 dL_law_1411 (by decide) (fun c_ => ?_) (fun c_ => ?_)
  · exact kk σ1 κ1 ((ri_restore hI).eq hE) (hC1.eq hE)
  · exact absurd (e1.trans e2.symm) c_
theorem dL_law_1416 : decode cL_law 1416 = .ok (.aload_n 1, 1) := by decide +kernel
theorem dL_law_1417 : decode cL_law 1417 = .ok (.aload_n 0, 1) := by decide +kernel
theorem dL_law_1418 : decode cL_law 1418 = .ok (.iload_n 3, 1) := by decide +kernel
theorem dL_law_1419 : decode cL_law 1419 = .ok (.iconst 1, 1) := by decide +kernel
theorem dL_law_1420 : decode cL_law 1420 = .ok (.iadd, 1) := by decide +kernel
theorem dL_law_1421 : decode cL_law 1421 = .ok (.iaload, 1) := by decide +kernel
theorem dL_law_1422 : decode cL_law 1422 = .ok (.invokevirtual 166, 3) := by decide +kernel
theorem dL_law_1425 : decode cL_law 1425 = .ok (.aload_n 2, 1) := by decide +kernel
theorem dL_law_1426 : decode cL_law 1426 = .ok (.aload_n 0, 1) := by decide +kernel
theorem dL_law_1427 : decode cL_law 1427 = .ok (.iload_n 3, 1) := by decide +kernel
theorem dL_law_1428 : decode cL_law 1428 = .ok (.iconst 1, 1) := by decide +kernel
theorem dL_law_1429 : decode cL_law 1429 = .ok (.iadd, 1) := by decide +kernel
theorem dL_law_1430 : decode cL_law 1430 = .ok (.iaload, 1) := by decide +kernel
theorem dL_law_1431 : decode cL_law 1431 = .ok (.invokevirtual 169, 3) := by decide +kernel
theorem dL_law_1434 : decode cL_law 1434 = .ok (.if_icmp .eq 64, 3) := by decide +kernel
theorem dL_law_1437 : decode cL_law 1437 = .ok (.iconst 0, 1) := by decide +kernel
theorem dL_law_1438 : decode cL_law 1438 = .ok (.ireturn, 1) := by decide +kernel
theorem vl_166 : VW R_law 166 yX11_tell cX11_tell 2 (some .int) 1 := ⟨gw 961 (by decide +kernel) rfl, gw 958 (by decide +kernel) rfl, gw 959 (by decide +kernel) rfl, gw 960 (by decide +kernel) rfl, gw 83 (by decide +kernel) rfl, by decide +kernel, by decide⟩
theorem vl_169 : VW R_law 169 yX12_tell cX12_tell 2 (some .int) 1 := ⟨gw 1407 (by decide +kernel) rfl, gw 1404 (by decide +kernel) rfl, gw 1405 (by decide +kernel) rfl, gw 1406 (by decide +kernel) rfl, gw 96 (by decide +kernel) rfl, by decide +kernel, by decide⟩
set_option maxHeartbeats 2000000 in
set_option maxRecDepth 20000 in
theorem lc_tell {p : Program} {l : Launch} {e : Env} {s : State} {m : MethodId} {below : List Frame} {meth : Method} {c : Code} {Q : State → Prop} {D : va_G} {A : Nat → Prop} {cI cG cW : ClassId} {o : Nat} {qR q : Nat → Nat} {O : Ou} {b Ln : Nat} {xs : Nat → Int32} (C : Cx p s m #[Value.ref b] meth c code 4 R_law ret D (tyL cI cG cW) A) (hO : OUT O A s s.heap) (hX : va_X b Ln xs s s.heap) (hbl : b < s.heap.size) (hbA : ¬ A b) (hL : Ln ≤ 3072) {i M : Nat} (hi : i + 6 ≤ Ln) {V row kept tried bf fd pk bo so sh mv tr : Nat → Int32} {S : Nat → Int32} {X : Nat → Nat → Int32} {P : Nat → Nat} (hI : RI M (sR V row kept tried bf fd pk bo so sh mv tr)) (hC : CR (S, X, P) (sR V row kept tried bf fd pk bo so sh mv tr)) (hM : M < 3000) (kk : ∀ (σ' : RS) (κ' : CS), RI (M + 1) σ' → CR κ' σ' → JN p l e room_1 s m #[Value.ref b] below meth c Q 4 D A 103 2575 (Wl cI cG cW o qR q) (σ', κ') 1498 [(0, .ref b), (1, .ref (q 0)), (2, .ref o), (3, .int (nI i))] []) : JN p l e room_1 s m #[Value.ref b] below meth c Q 4 D A 103 2575 (Wl cI cG cW o qR q) (sR V row kept tried bf fd pk bo so sh mv tr, (S, X, P)) 1416 [(0, .ref b), (1, .ref (q 0)), (2, .ref o), (3, .int (nI i))] [] := by
  obtain ⟨⟨nc, np, nw, d, nt, nq, hR⟩, ⟨im, him1, eV5, eV4, hMk⟩, ⟨hV15, hV16, hV18⟩, hSh, ⟨tn, h26, e26⟩⟩ := id hI
  have him3 : im ≤ 3000 := by omega
  refine n_aload_n C 1 dL_law_1416 rfl ?_
  refine n_aload_n C 0 dL_law_1417 rfl ?_
  refine n_iload_n C 3 dL_law_1418 rfl ?_
  refine n_iconst C (v := (nI 1)) dL_law_1419 (by decide) ?_
  refine n_iaddN C dL_law_1420 ?_
  refine l_sld C hX hbl hbA (i + 1) (by omega) (by omega) dL_law_1421 ?_
  refine l_callC (As := [.int (xs (i + 1))]) (rest := []) C hO vl_166 ((k_tell hR hC).o) ⟨0, 11, _, _, rfl, rfl, rfl⟩ rfl (Nat.le_of_ble_eq_true rfl) dL_law_1422 ⟨Nat.le_of_ble_eq_true rfl, Nat.le_of_ble_eq_true rfl⟩ ⟨Nat.le_of_ble_eq_true rfl, Nat.le_of_ble_eq_true rfl⟩ ?_
  rintro r1 κ1 ⟨e1, hC1⟩
  refine n_aload_n C 2 dL_law_1425 rfl ?_
  refine n_aload_n C 0 dL_law_1426 rfl ?_
  refine n_iload_n C 3 dL_law_1427 rfl ?_
  refine n_iconst C (v := (nI 1)) dL_law_1428 (by decide) ?_
  refine n_iaddN C dL_law_1429 ?_
  refine l_sld C hX hbl hbA (i + 1) (by omega) (by omega) dL_law_1430 ?_
  refine l_callM (As := [.int (xs (i + 1))]) (rest := [.int r1]) C vl_169 (c_tell hR) rRcv rfl (Nat.le_of_ble_eq_true rfl) dL_law_1431 ⟨Nat.le_of_ble_eq_true rfl, Nat.le_of_ble_eq_true rfl⟩ ⟨Nat.le_of_ble_eq_true rfl, Nat.le_of_ble_eq_true rfl⟩ ?_
  rintro r2 σ1 ⟨e2, hE⟩
  refine n_icmp_eq C 1498 dL_law_1434 (by decide) (fun c_ => ?_) (fun c_ => ?_)
  · exact kk σ1 κ1 ((ri_tell hI).eq hE) (hC1.eq hE)
  · exact absurd (e1.trans e2.symm) c_
theorem dL_law_1439 : decode cL_law 1439 = .ok (.aload_n 1, 1) := by decide +kernel
theorem dL_law_1440 : decode cL_law 1440 = .ok (.invokevirtual 170, 3) := by decide +kernel
theorem dL_law_1443 : decode cL_law 1443 = .ok (.aload_n 2, 1) := by decide +kernel
theorem dL_law_1444 : decode cL_law 1444 = .ok (.invokevirtual 173, 3) := by decide +kernel
theorem dL_law_1447 : decode cL_law 1447 = .ok (.if_icmp .eq 51, 3) := by decide +kernel
theorem dL_law_1450 : decode cL_law 1450 = .ok (.iconst 0, 1) := by decide +kernel
theorem dL_law_1451 : decode cL_law 1451 = .ok (.ireturn, 1) := by decide +kernel
theorem vl_170 : VW R_law 170 yX11_check cX11_check 3 (some .int) 0 := ⟨gw 965 (by decide +kernel) rfl, gw 962 (by decide +kernel) rfl, gw 963 (by decide +kernel) rfl, gw 964 (by decide +kernel) rfl, gw 83 (by decide +kernel) rfl, by decide +kernel, by decide⟩
theorem vl_173 : VW R_law 173 yX12_check cX12_check 4 (some .int) 0 := ⟨gw 1411 (by decide +kernel) rfl, gw 1408 (by decide +kernel) rfl, gw 1409 (by decide +kernel) rfl, gw 1410 (by decide +kernel) rfl, gw 96 (by decide +kernel) rfl, by decide +kernel, by decide⟩
set_option maxHeartbeats 2000000 in
set_option maxRecDepth 20000 in
theorem lc_check {p : Program} {l : Launch} {e : Env} {s : State} {m : MethodId} {below : List Frame} {meth : Method} {c : Code} {Q : State → Prop} {D : va_G} {A : Nat → Prop} {cI cG cW : ClassId} {o : Nat} {qR q : Nat → Nat} {O : Ou} {b Ln : Nat} {xs : Nat → Int32} (C : Cx p s m #[Value.ref b] meth c code 4 R_law ret D (tyL cI cG cW) A) (hO : OUT O A s s.heap) (hX : va_X b Ln xs s s.heap) (hbl : b < s.heap.size) (hbA : ¬ A b) (hL : Ln ≤ 3072) {i M : Nat} (hi : i + 6 ≤ Ln) {V row kept tried bf fd pk bo so sh mv tr : Nat → Int32} {S : Nat → Int32} {X : Nat → Nat → Int32} {P : Nat → Nat} (hI : RI M (sR V row kept tried bf fd pk bo so sh mv tr)) (hC : CR (S, X, P) (sR V row kept tried bf fd pk bo so sh mv tr)) (hM : M < 3000) (kk : ∀ (σ' : RS) (κ' : CS), RI (M + 1) σ' → CR κ' σ' → JN p l e room_1 s m #[Value.ref b] below meth c Q 4 D A 103 2575 (Wl cI cG cW o qR q) (σ', κ') 1498 [(0, .ref b), (1, .ref (q 0)), (2, .ref o), (3, .int (nI i))] []) : JN p l e room_1 s m #[Value.ref b] below meth c Q 4 D A 103 2575 (Wl cI cG cW o qR q) (sR V row kept tried bf fd pk bo so sh mv tr, (S, X, P)) 1439 [(0, .ref b), (1, .ref (q 0)), (2, .ref o), (3, .int (nI i))] [] := by
  obtain ⟨⟨nc, np, nw, d, nt, nq, hR⟩, ⟨im, him1, eV5, eV4, hMk⟩, ⟨hV15, hV16, hV18⟩, hSh, ⟨tn, h26, e26⟩⟩ := id hI
  have him3 : im ≤ 3000 := by omega
  refine n_aload_n C 1 dL_law_1439 rfl ?_
  refine l_callC (As := []) (rest := []) C hO vl_170 ((k_check hR hC hV15 hV16 hV18).o) ⟨0, 11, _, _, rfl, rfl, rfl⟩ rfl (Nat.le_of_ble_eq_true rfl) dL_law_1440 ⟨Nat.le_of_ble_eq_true rfl, Nat.le_of_ble_eq_true rfl⟩ ⟨Nat.le_of_ble_eq_true rfl, Nat.le_of_ble_eq_true rfl⟩ ?_
  rintro r1 κ1 ⟨e1, hC1⟩
  refine n_aload_n C 2 dL_law_1443 rfl ?_
  refine l_callM (As := []) (rest := [.int r1]) C vl_173 (c_check hR) rRcv rfl (Nat.le_of_ble_eq_true rfl) dL_law_1444 ⟨Nat.le_of_ble_eq_true rfl, Nat.le_of_ble_eq_true rfl⟩ ⟨Nat.le_of_ble_eq_true rfl, Nat.le_of_ble_eq_true rfl⟩ ?_
  rintro r2 σ1 ⟨e2, hE⟩
  refine n_icmp_eq C 1498 dL_law_1447 (by decide) (fun c_ => ?_) (fun c_ => ?_)
  · exact kk σ1 κ1 ((ri_check hI).eq hE) (hC1.eq hE)
  · exact absurd (e1.trans e2.symm) c_
theorem dL_law_1452 : decode cL_law 1452 = .ok (.aload_n 1, 1) := by decide +kernel
theorem dL_law_1453 : decode cL_law 1453 = .ok (.aload_n 0, 1) := by decide +kernel
theorem dL_law_1454 : decode cL_law 1454 = .ok (.iload_n 3, 1) := by decide +kernel
theorem dL_law_1455 : decode cL_law 1455 = .ok (.iconst 1, 1) := by decide +kernel
theorem dL_law_1456 : decode cL_law 1456 = .ok (.iadd, 1) := by decide +kernel
theorem dL_law_1457 : decode cL_law 1457 = .ok (.iaload, 1) := by decide +kernel
theorem dL_law_1458 : decode cL_law 1458 = .ok (.invokevirtual 174, 3) := by decide +kernel
theorem dL_law_1461 : decode cL_law 1461 = .ok (.aload_n 2, 1) := by decide +kernel
theorem dL_law_1462 : decode cL_law 1462 = .ok (.aload_n 0, 1) := by decide +kernel
theorem dL_law_1463 : decode cL_law 1463 = .ok (.iload_n 3, 1) := by decide +kernel
theorem dL_law_1464 : decode cL_law 1464 = .ok (.iconst 1, 1) := by decide +kernel
theorem dL_law_1465 : decode cL_law 1465 = .ok (.iadd, 1) := by decide +kernel
theorem dL_law_1466 : decode cL_law 1466 = .ok (.iaload, 1) := by decide +kernel
theorem dL_law_1467 : decode cL_law 1467 = .ok (.invokevirtual 177, 3) := by decide +kernel
theorem dL_law_1470 : decode cL_law 1470 = .ok (.if_icmp .eq 28, 3) := by decide +kernel
theorem dL_law_1473 : decode cL_law 1473 = .ok (.iconst 0, 1) := by decide +kernel
theorem dL_law_1474 : decode cL_law 1474 = .ok (.ireturn, 1) := by decide +kernel
theorem vl_174 : VW R_law 174 yX11_count cX11_count 2 (some .int) 1 := ⟨gw 969 (by decide +kernel) rfl, gw 966 (by decide +kernel) rfl, gw 967 (by decide +kernel) rfl, gw 968 (by decide +kernel) rfl, gw 83 (by decide +kernel) rfl, by decide +kernel, by decide⟩
theorem vl_177 : VW R_law 177 yX12_count cX12_count 2 (some .int) 1 := ⟨gw 1415 (by decide +kernel) rfl, gw 1412 (by decide +kernel) rfl, gw 1413 (by decide +kernel) rfl, gw 1414 (by decide +kernel) rfl, gw 96 (by decide +kernel) rfl, by decide +kernel, by decide⟩
set_option maxHeartbeats 2000000 in
set_option maxRecDepth 20000 in
theorem lc_count {p : Program} {l : Launch} {e : Env} {s : State} {m : MethodId} {below : List Frame} {meth : Method} {c : Code} {Q : State → Prop} {D : va_G} {A : Nat → Prop} {cI cG cW : ClassId} {o : Nat} {qR q : Nat → Nat} {O : Ou} {b Ln : Nat} {xs : Nat → Int32} (C : Cx p s m #[Value.ref b] meth c code 4 R_law ret D (tyL cI cG cW) A) (hO : OUT O A s s.heap) (hX : va_X b Ln xs s s.heap) (hbl : b < s.heap.size) (hbA : ¬ A b) (hL : Ln ≤ 3072) {i M : Nat} (hi : i + 6 ≤ Ln) {V row kept tried bf fd pk bo so sh mv tr : Nat → Int32} {S : Nat → Int32} {X : Nat → Nat → Int32} {P : Nat → Nat} (hI : RI M (sR V row kept tried bf fd pk bo so sh mv tr)) (hC : CR (S, X, P) (sR V row kept tried bf fd pk bo so sh mv tr)) (hM : M < 3000) (kk : ∀ (σ' : RS) (κ' : CS), RI (M + 1) σ' → CR κ' σ' → JN p l e room_1 s m #[Value.ref b] below meth c Q 4 D A 103 2575 (Wl cI cG cW o qR q) (σ', κ') 1498 [(0, .ref b), (1, .ref (q 0)), (2, .ref o), (3, .int (nI i))] []) : JN p l e room_1 s m #[Value.ref b] below meth c Q 4 D A 103 2575 (Wl cI cG cW o qR q) (sR V row kept tried bf fd pk bo so sh mv tr, (S, X, P)) 1452 [(0, .ref b), (1, .ref (q 0)), (2, .ref o), (3, .int (nI i))] [] := by
  obtain ⟨⟨nc, np, nw, d, nt, nq, hR⟩, ⟨im, him1, eV5, eV4, hMk⟩, ⟨hV15, hV16, hV18⟩, hSh, ⟨tn, h26, e26⟩⟩ := id hI
  have him3 : im ≤ 3000 := by omega
  refine n_aload_n C 1 dL_law_1452 rfl ?_
  refine n_aload_n C 0 dL_law_1453 rfl ?_
  refine n_iload_n C 3 dL_law_1454 rfl ?_
  refine n_iconst C (v := (nI 1)) dL_law_1455 (by decide) ?_
  refine n_iaddN C dL_law_1456 ?_
  refine l_sld C hX hbl hbA (i + 1) (by omega) (by omega) dL_law_1457 ?_
  refine l_callC (As := [.int (xs (i + 1))]) (rest := []) C hO vl_174 ((k_count hR hC).o) ⟨0, 11, _, _, rfl, rfl, rfl⟩ rfl (Nat.le_of_ble_eq_true rfl) dL_law_1458 ⟨Nat.le_of_ble_eq_true rfl, Nat.le_of_ble_eq_true rfl⟩ ⟨Nat.le_of_ble_eq_true rfl, Nat.le_of_ble_eq_true rfl⟩ ?_
  rintro r1 κ1 ⟨e1, hC1⟩
  refine n_aload_n C 2 dL_law_1461 rfl ?_
  refine n_aload_n C 0 dL_law_1462 rfl ?_
  refine n_iload_n C 3 dL_law_1463 rfl ?_
  refine n_iconst C (v := (nI 1)) dL_law_1464 (by decide) ?_
  refine n_iaddN C dL_law_1465 ?_
  refine l_sld C hX hbl hbA (i + 1) (by omega) (by omega) dL_law_1466 ?_
  refine l_callM (As := [.int (xs (i + 1))]) (rest := [.int r1]) C vl_177 (c_count hR) rRcv rfl (Nat.le_of_ble_eq_true rfl) dL_law_1467 ⟨Nat.le_of_ble_eq_true rfl, Nat.le_of_ble_eq_true rfl⟩ ⟨Nat.le_of_ble_eq_true rfl, Nat.le_of_ble_eq_true rfl⟩ ?_
  rintro r2 σ1 ⟨e2, hE⟩
  refine n_icmp_eq C 1498 dL_law_1470 (by decide) (fun c_ => ?_) (fun c_ => ?_)
  · exact kk σ1 κ1 ((ri_count hI).eq hE) (hC1.eq hE)
  · exact absurd (e1.trans e2.symm) c_
theorem dL_law_1475 : decode cL_law 1475 = .ok (.aload_n 1, 1) := by decide +kernel
theorem dL_law_1476 : decode cL_law 1476 = .ok (.aload_n 0, 1) := by decide +kernel
theorem dL_law_1477 : decode cL_law 1477 = .ok (.iload_n 3, 1) := by decide +kernel
theorem dL_law_1478 : decode cL_law 1478 = .ok (.iconst 1, 1) := by decide +kernel
theorem dL_law_1479 : decode cL_law 1479 = .ok (.iadd, 1) := by decide +kernel
theorem dL_law_1480 : decode cL_law 1480 = .ok (.iaload, 1) := by decide +kernel
theorem dL_law_1481 : decode cL_law 1481 = .ok (.invokevirtual 178, 3) := by decide +kernel
theorem dL_law_1484 : decode cL_law 1484 = .ok (.aload_n 2, 1) := by decide +kernel
theorem dL_law_1485 : decode cL_law 1485 = .ok (.aload_n 0, 1) := by decide +kernel
theorem dL_law_1486 : decode cL_law 1486 = .ok (.iload_n 3, 1) := by decide +kernel
theorem dL_law_1487 : decode cL_law 1487 = .ok (.iconst 1, 1) := by decide +kernel
theorem dL_law_1488 : decode cL_law 1488 = .ok (.iadd, 1) := by decide +kernel
theorem dL_law_1489 : decode cL_law 1489 = .ok (.iaload, 1) := by decide +kernel
theorem dL_law_1490 : decode cL_law 1490 = .ok (.invokevirtual 181, 3) := by decide +kernel
theorem dL_law_1493 : decode cL_law 1493 = .ok (.if_icmp .eq 5, 3) := by decide +kernel
theorem dL_law_1496 : decode cL_law 1496 = .ok (.iconst 0, 1) := by decide +kernel
theorem dL_law_1497 : decode cL_law 1497 = .ok (.ireturn, 1) := by decide +kernel
theorem vl_178 : VW R_law 178 yX11_told cX11_told 2 (some .int) 1 := ⟨gw 974 (by decide +kernel) rfl, gw 971 (by decide +kernel) rfl, gw 972 (by decide +kernel) rfl, gw 973 (by decide +kernel) rfl, gw 83 (by decide +kernel) rfl, by decide +kernel, by decide⟩
theorem vl_181 : VW R_law 181 yX12_told cX12_told 2 (some .int) 1 := ⟨gw 1423 (by decide +kernel) rfl, gw 1420 (by decide +kernel) rfl, gw 1421 (by decide +kernel) rfl, gw 1422 (by decide +kernel) rfl, gw 96 (by decide +kernel) rfl, by decide +kernel, by decide⟩
set_option maxHeartbeats 2000000 in
set_option maxRecDepth 20000 in
theorem lc_told {p : Program} {l : Launch} {e : Env} {s : State} {m : MethodId} {below : List Frame} {meth : Method} {c : Code} {Q : State → Prop} {D : va_G} {A : Nat → Prop} {cI cG cW : ClassId} {o : Nat} {qR q : Nat → Nat} {O : Ou} {b Ln : Nat} {xs : Nat → Int32} (C : Cx p s m #[Value.ref b] meth c code 4 R_law ret D (tyL cI cG cW) A) (hO : OUT O A s s.heap) (hX : va_X b Ln xs s s.heap) (hbl : b < s.heap.size) (hbA : ¬ A b) (hL : Ln ≤ 3072) {i M : Nat} (hi : i + 6 ≤ Ln) {V row kept tried bf fd pk bo so sh mv tr : Nat → Int32} {S : Nat → Int32} {X : Nat → Nat → Int32} {P : Nat → Nat} (hI : RI M (sR V row kept tried bf fd pk bo so sh mv tr)) (hC : CR (S, X, P) (sR V row kept tried bf fd pk bo so sh mv tr)) (hM : M < 3000) (kk : ∀ (σ' : RS) (κ' : CS), RI (M + 1) σ' → CR κ' σ' → JN p l e room_1 s m #[Value.ref b] below meth c Q 4 D A 103 2575 (Wl cI cG cW o qR q) (σ', κ') 1498 [(0, .ref b), (1, .ref (q 0)), (2, .ref o), (3, .int (nI i))] []) : JN p l e room_1 s m #[Value.ref b] below meth c Q 4 D A 103 2575 (Wl cI cG cW o qR q) (sR V row kept tried bf fd pk bo so sh mv tr, (S, X, P)) 1475 [(0, .ref b), (1, .ref (q 0)), (2, .ref o), (3, .int (nI i))] [] := by
  obtain ⟨⟨nc, np, nw, d, nt, nq, hR⟩, ⟨im, him1, eV5, eV4, hMk⟩, ⟨hV15, hV16, hV18⟩, hSh, ⟨tn, h26, e26⟩⟩ := id hI
  have him3 : im ≤ 3000 := by omega
  refine n_aload_n C 1 dL_law_1475 rfl ?_
  refine n_aload_n C 0 dL_law_1476 rfl ?_
  refine n_iload_n C 3 dL_law_1477 rfl ?_
  refine n_iconst C (v := (nI 1)) dL_law_1478 (by decide) ?_
  refine n_iaddN C dL_law_1479 ?_
  refine l_sld C hX hbl hbA (i + 1) (by omega) (by omega) dL_law_1480 ?_
  refine l_callC (As := [.int (xs (i + 1))]) (rest := []) C hO vl_178 ((k_told hR hC).o) ⟨0, 11, _, _, rfl, rfl, rfl⟩ rfl (Nat.le_of_ble_eq_true rfl) dL_law_1481 ⟨Nat.le_of_ble_eq_true rfl, Nat.le_of_ble_eq_true rfl⟩ ⟨Nat.le_of_ble_eq_true rfl, Nat.le_of_ble_eq_true rfl⟩ ?_
  rintro r1 κ1 ⟨e1, hC1⟩
  refine n_aload_n C 2 dL_law_1484 rfl ?_
  refine n_aload_n C 0 dL_law_1485 rfl ?_
  refine n_iload_n C 3 dL_law_1486 rfl ?_
  refine n_iconst C (v := (nI 1)) dL_law_1487 (by decide) ?_
  refine n_iaddN C dL_law_1488 ?_
  refine l_sld C hX hbl hbA (i + 1) (by omega) (by omega) dL_law_1489 ?_
  refine l_callM (As := [.int (xs (i + 1))]) (rest := [.int r1]) C vl_181 (c_told hR) rRcv rfl (Nat.le_of_ble_eq_true rfl) dL_law_1490 ⟨Nat.le_of_ble_eq_true rfl, Nat.le_of_ble_eq_true rfl⟩ ⟨Nat.le_of_ble_eq_true rfl, Nat.le_of_ble_eq_true rfl⟩ ?_
  rintro r2 σ1 ⟨e2, hE⟩
  refine n_icmp_eq C 1498 dL_law_1493 (by decide) (fun c_ => ?_) (fun c_ => ?_)
  · exact kk σ1 κ1 ((ri_told hI).eq hE) (hC1.eq hE)
  · exact absurd (e1.trans e2.symm) c_

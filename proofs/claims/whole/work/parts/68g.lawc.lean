/-! The law's cases 30 to 34. -/
theorem dL_law_1238 : decode cL_law 1238 = .ok (.aload_n 1, 1) := by decide +kernel
theorem dL_law_1239 : decode cL_law 1239 = .ok (.aload_n 0, 1) := by decide +kernel
theorem dL_law_1240 : decode cL_law 1240 = .ok (.iload_n 3, 1) := by decide +kernel
theorem dL_law_1241 : decode cL_law 1241 = .ok (.iconst 1, 1) := by decide +kernel
theorem dL_law_1242 : decode cL_law 1242 = .ok (.iadd, 1) := by decide +kernel
theorem dL_law_1243 : decode cL_law 1243 = .ok (.iaload, 1) := by decide +kernel
theorem dL_law_1244 : decode cL_law 1244 = .ok (.aload_n 0, 1) := by decide +kernel
theorem dL_law_1245 : decode cL_law 1245 = .ok (.iload_n 3, 1) := by decide +kernel
theorem dL_law_1246 : decode cL_law 1246 = .ok (.iconst 2, 1) := by decide +kernel
theorem dL_law_1247 : decode cL_law 1247 = .ok (.iadd, 1) := by decide +kernel
theorem dL_law_1248 : decode cL_law 1248 = .ok (.iaload, 1) := by decide +kernel
theorem dL_law_1249 : decode cL_law 1249 = .ok (.aload_n 0, 1) := by decide +kernel
theorem dL_law_1250 : decode cL_law 1250 = .ok (.iload_n 3, 1) := by decide +kernel
theorem dL_law_1251 : decode cL_law 1251 = .ok (.iconst 3, 1) := by decide +kernel
theorem dL_law_1252 : decode cL_law 1252 = .ok (.iadd, 1) := by decide +kernel
theorem dL_law_1253 : decode cL_law 1253 = .ok (.iaload, 1) := by decide +kernel
theorem dL_law_1254 : decode cL_law 1254 = .ok (.invokevirtual 140, 3) := by decide +kernel
theorem dL_law_1257 : decode cL_law 1257 = .ok (.aload_n 2, 1) := by decide +kernel
theorem dL_law_1258 : decode cL_law 1258 = .ok (.aload_n 0, 1) := by decide +kernel
theorem dL_law_1259 : decode cL_law 1259 = .ok (.iload_n 3, 1) := by decide +kernel
theorem dL_law_1260 : decode cL_law 1260 = .ok (.iconst 1, 1) := by decide +kernel
theorem dL_law_1261 : decode cL_law 1261 = .ok (.iadd, 1) := by decide +kernel
theorem dL_law_1262 : decode cL_law 1262 = .ok (.iaload, 1) := by decide +kernel
theorem dL_law_1263 : decode cL_law 1263 = .ok (.aload_n 0, 1) := by decide +kernel
theorem dL_law_1264 : decode cL_law 1264 = .ok (.iload_n 3, 1) := by decide +kernel
theorem dL_law_1265 : decode cL_law 1265 = .ok (.iconst 2, 1) := by decide +kernel
theorem dL_law_1266 : decode cL_law 1266 = .ok (.iadd, 1) := by decide +kernel
theorem dL_law_1267 : decode cL_law 1267 = .ok (.iaload, 1) := by decide +kernel
theorem dL_law_1268 : decode cL_law 1268 = .ok (.aload_n 0, 1) := by decide +kernel
theorem dL_law_1269 : decode cL_law 1269 = .ok (.iload_n 3, 1) := by decide +kernel
theorem dL_law_1270 : decode cL_law 1270 = .ok (.iconst 3, 1) := by decide +kernel
theorem dL_law_1271 : decode cL_law 1271 = .ok (.iadd, 1) := by decide +kernel
theorem dL_law_1272 : decode cL_law 1272 = .ok (.iaload, 1) := by decide +kernel
theorem dL_law_1273 : decode cL_law 1273 = .ok (.invokevirtual 143, 3) := by decide +kernel
theorem dL_law_1276 : decode cL_law 1276 = .ok (.if_icmp .eq 222, 3) := by decide +kernel
theorem dL_law_1279 : decode cL_law 1279 = .ok (.iconst 0, 1) := by decide +kernel
theorem dL_law_1280 : decode cL_law 1280 = .ok (.ireturn, 1) := by decide +kernel
theorem vl_140 : VW R_law 140 yX11_put cX11_put 4 (some .int) 3 := ⟨gw 922 (by decide +kernel) rfl, gw 919 (by decide +kernel) rfl, gw 920 (by decide +kernel) rfl, gw 921 (by decide +kernel) rfl, gw 83 (by decide +kernel) rfl, by decide +kernel, by decide⟩
theorem vl_143 : VW R_law 143 yX12_put cX12_put 4 (some .int) 3 := ⟨gw 1380 (by decide +kernel) rfl, gw 1377 (by decide +kernel) rfl, gw 1378 (by decide +kernel) rfl, gw 1379 (by decide +kernel) rfl, gw 96 (by decide +kernel) rfl, by decide +kernel, by decide⟩
set_option maxHeartbeats 2000000 in
set_option maxRecDepth 20000 in
theorem lc_put {p : Program} {l : Launch} {e : Env} {s : State} {m : MethodId} {below : List Frame} {meth : Method} {c : Code} {Q : State → Prop} {D : va_G} {A : Nat → Prop} {cI cG cW : ClassId} {o : Nat} {qR q : Nat → Nat} {O : Ou} {b Ln : Nat} {xs : Nat → Int32} (C : Cx p s m #[Value.ref b] meth c code 4 R_law ret D (tyL cI cG cW) A) (hO : OUT O A s s.heap) (hX : va_X b Ln xs s s.heap) (hbl : b < s.heap.size) (hbA : ¬ A b) (hL : Ln ≤ 3072) {i M : Nat} (hi : i + 6 ≤ Ln) {V row kept tried bf fd pk bo so sh mv tr : Nat → Int32} {S : Nat → Int32} {X : Nat → Nat → Int32} {P : Nat → Nat} (hI : RI M (sR V row kept tried bf fd pk bo so sh mv tr)) (hC : CR (S, X, P) (sR V row kept tried bf fd pk bo so sh mv tr)) (hM : M < 3000) (kk : ∀ (σ' : RS) (κ' : CS), RI (M + 1) σ' → CR κ' σ' → JN p l e room_1 s m #[Value.ref b] below meth c Q 4 D A 103 2575 (Wl cI cG cW o qR q) (σ', κ') 1498 [(0, .ref b), (1, .ref (q 0)), (2, .ref o), (3, .int (nI i))] []) : JN p l e room_1 s m #[Value.ref b] below meth c Q 4 D A 103 2575 (Wl cI cG cW o qR q) (sR V row kept tried bf fd pk bo so sh mv tr, (S, X, P)) 1238 [(0, .ref b), (1, .ref (q 0)), (2, .ref o), (3, .int (nI i))] [] := by
  obtain ⟨⟨nc, np, nw, d, nt, nq, hR⟩, ⟨im, him1, eV5, eV4, hMk⟩, ⟨hV15, hV16, hV18⟩, hSh, ⟨tn, h26, e26⟩⟩ := id hI
  have him3 : im ≤ 3000 := by omega
  refine n_aload_n C 1 dL_law_1238 rfl ?_
  refine n_aload_n C 0 dL_law_1239 rfl ?_
  refine n_iload_n C 3 dL_law_1240 rfl ?_
  refine n_iconst C (v := (nI 1)) dL_law_1241 (by decide) ?_
  refine n_iaddN C dL_law_1242 ?_
  refine l_sld C hX hbl hbA (i + 1) (by omega) (by omega) dL_law_1243 ?_
  refine n_aload_n C 0 dL_law_1244 rfl ?_
  refine n_iload_n C 3 dL_law_1245 rfl ?_
  refine n_iconst C (v := (nI 2)) dL_law_1246 (by decide) ?_
  refine n_iaddN C dL_law_1247 ?_
  refine l_sld C hX hbl hbA (i + 2) (by omega) (by omega) dL_law_1248 ?_
  refine n_aload_n C 0 dL_law_1249 rfl ?_
  refine n_iload_n C 3 dL_law_1250 rfl ?_
  refine n_iconst C (v := (nI 3)) dL_law_1251 (by decide) ?_
  refine n_iaddN C dL_law_1252 ?_
  refine l_sld C hX hbl hbA (i + 3) (by omega) (by omega) dL_law_1253 ?_
  refine l_callC (As := [.int (xs (i + 1)), .int (xs (i + 2)), .int (xs (i + 3))]) (rest := []) C hO vl_140 ((k_put hR hC hSh).o) ⟨0, 11, _, _, rfl, rfl, rfl⟩ rfl (Nat.le_of_ble_eq_true rfl) dL_law_1254 ⟨Nat.le_of_ble_eq_true rfl, Nat.le_of_ble_eq_true rfl⟩ ⟨Nat.le_of_ble_eq_true rfl, Nat.le_of_ble_eq_true rfl⟩ ?_
  rintro r1 κ1 ⟨e1, hC1⟩
  refine n_aload_n C 2 dL_law_1257 rfl ?_
  refine n_aload_n C 0 dL_law_1258 rfl ?_
  refine n_iload_n C 3 dL_law_1259 rfl ?_
  refine n_iconst C (v := (nI 1)) dL_law_1260 (by decide) ?_
  refine n_iaddN C dL_law_1261 ?_
  refine l_sld C hX hbl hbA (i + 1) (by omega) (by omega) dL_law_1262 ?_
  refine n_aload_n C 0 dL_law_1263 rfl ?_
  refine n_iload_n C 3 dL_law_1264 rfl ?_
  refine n_iconst C (v := (nI 2)) dL_law_1265 (by decide) ?_
  refine n_iaddN C dL_law_1266 ?_
  refine l_sld C hX hbl hbA (i + 2) (by omega) (by omega) dL_law_1267 ?_
  refine n_aload_n C 0 dL_law_1268 rfl ?_
  refine n_iload_n C 3 dL_law_1269 rfl ?_
  refine n_iconst C (v := (nI 3)) dL_law_1270 (by decide) ?_
  refine n_iaddN C dL_law_1271 ?_
  refine l_sld C hX hbl hbA (i + 3) (by omega) (by omega) dL_law_1272 ?_
  refine l_callM (As := [.int (xs (i + 1)), .int (xs (i + 2)), .int (xs (i + 3))]) (rest := [.int r1]) C vl_143 (c_put hR hSh) rRcv rfl (Nat.le_of_ble_eq_true rfl) dL_law_1273 ⟨Nat.le_of_ble_eq_true rfl, Nat.le_of_ble_eq_true rfl⟩ ⟨Nat.le_of_ble_eq_true rfl, Nat.le_of_ble_eq_true rfl⟩ ?_
  rintro r2 σ1 ⟨e2, hE⟩
  refine n_icmp_eq C 1498 dL_law_1276 (by decide) (fun c_ => ?_) (fun c_ => ?_)
  · exact kk σ1 κ1 ((ri_put hI).eq hE) (hC1.eq hE)
  · exact absurd (e1.trans e2.symm) c_
theorem dL_law_1281 : decode cL_law 1281 = .ok (.aload_n 1, 1) := by decide +kernel
theorem dL_law_1282 : decode cL_law 1282 = .ok (.aload_n 0, 1) := by decide +kernel
theorem dL_law_1283 : decode cL_law 1283 = .ok (.iload_n 3, 1) := by decide +kernel
theorem dL_law_1284 : decode cL_law 1284 = .ok (.iconst 1, 1) := by decide +kernel
theorem dL_law_1285 : decode cL_law 1285 = .ok (.iadd, 1) := by decide +kernel
theorem dL_law_1286 : decode cL_law 1286 = .ok (.iaload, 1) := by decide +kernel
theorem dL_law_1287 : decode cL_law 1287 = .ok (.aload_n 0, 1) := by decide +kernel
theorem dL_law_1288 : decode cL_law 1288 = .ok (.iload_n 3, 1) := by decide +kernel
theorem dL_law_1289 : decode cL_law 1289 = .ok (.iconst 2, 1) := by decide +kernel
theorem dL_law_1290 : decode cL_law 1290 = .ok (.iadd, 1) := by decide +kernel
theorem dL_law_1291 : decode cL_law 1291 = .ok (.iaload, 1) := by decide +kernel
theorem dL_law_1292 : decode cL_law 1292 = .ok (.aload_n 0, 1) := by decide +kernel
theorem dL_law_1293 : decode cL_law 1293 = .ok (.iload_n 3, 1) := by decide +kernel
theorem dL_law_1294 : decode cL_law 1294 = .ok (.iconst 3, 1) := by decide +kernel
theorem dL_law_1295 : decode cL_law 1295 = .ok (.iadd, 1) := by decide +kernel
theorem dL_law_1296 : decode cL_law 1296 = .ok (.iaload, 1) := by decide +kernel
theorem dL_law_1297 : decode cL_law 1297 = .ok (.aload_n 0, 1) := by decide +kernel
theorem dL_law_1298 : decode cL_law 1298 = .ok (.iload_n 3, 1) := by decide +kernel
theorem dL_law_1299 : decode cL_law 1299 = .ok (.iconst 4, 1) := by decide +kernel
theorem dL_law_1300 : decode cL_law 1300 = .ok (.iadd, 1) := by decide +kernel
theorem dL_law_1301 : decode cL_law 1301 = .ok (.iaload, 1) := by decide +kernel
theorem dL_law_1302 : decode cL_law 1302 = .ok (.aload_n 0, 1) := by decide +kernel
theorem dL_law_1303 : decode cL_law 1303 = .ok (.iload_n 3, 1) := by decide +kernel
theorem dL_law_1304 : decode cL_law 1304 = .ok (.iconst 5, 1) := by decide +kernel
theorem dL_law_1305 : decode cL_law 1305 = .ok (.iadd, 1) := by decide +kernel
theorem dL_law_1306 : decode cL_law 1306 = .ok (.iaload, 1) := by decide +kernel
theorem dL_law_1307 : decode cL_law 1307 = .ok (.invokevirtual 144, 3) := by decide +kernel
theorem dL_law_1310 : decode cL_law 1310 = .ok (.aload_n 2, 1) := by decide +kernel
theorem dL_law_1311 : decode cL_law 1311 = .ok (.aload_n 0, 1) := by decide +kernel
theorem dL_law_1312 : decode cL_law 1312 = .ok (.iload_n 3, 1) := by decide +kernel
theorem dL_law_1313 : decode cL_law 1313 = .ok (.iconst 1, 1) := by decide +kernel
theorem dL_law_1314 : decode cL_law 1314 = .ok (.iadd, 1) := by decide +kernel
theorem dL_law_1315 : decode cL_law 1315 = .ok (.iaload, 1) := by decide +kernel
theorem dL_law_1316 : decode cL_law 1316 = .ok (.aload_n 0, 1) := by decide +kernel
theorem dL_law_1317 : decode cL_law 1317 = .ok (.iload_n 3, 1) := by decide +kernel
theorem dL_law_1318 : decode cL_law 1318 = .ok (.iconst 2, 1) := by decide +kernel
theorem dL_law_1319 : decode cL_law 1319 = .ok (.iadd, 1) := by decide +kernel
theorem dL_law_1320 : decode cL_law 1320 = .ok (.iaload, 1) := by decide +kernel
theorem dL_law_1321 : decode cL_law 1321 = .ok (.aload_n 0, 1) := by decide +kernel
theorem dL_law_1322 : decode cL_law 1322 = .ok (.iload_n 3, 1) := by decide +kernel
theorem dL_law_1323 : decode cL_law 1323 = .ok (.iconst 3, 1) := by decide +kernel
theorem dL_law_1324 : decode cL_law 1324 = .ok (.iadd, 1) := by decide +kernel
theorem dL_law_1325 : decode cL_law 1325 = .ok (.iaload, 1) := by decide +kernel
theorem dL_law_1326 : decode cL_law 1326 = .ok (.aload_n 0, 1) := by decide +kernel
theorem dL_law_1327 : decode cL_law 1327 = .ok (.iload_n 3, 1) := by decide +kernel
theorem dL_law_1328 : decode cL_law 1328 = .ok (.iconst 4, 1) := by decide +kernel
theorem dL_law_1329 : decode cL_law 1329 = .ok (.iadd, 1) := by decide +kernel
theorem dL_law_1330 : decode cL_law 1330 = .ok (.iaload, 1) := by decide +kernel
theorem dL_law_1331 : decode cL_law 1331 = .ok (.aload_n 0, 1) := by decide +kernel
theorem dL_law_1332 : decode cL_law 1332 = .ok (.iload_n 3, 1) := by decide +kernel
theorem dL_law_1333 : decode cL_law 1333 = .ok (.iconst 5, 1) := by decide +kernel
theorem dL_law_1334 : decode cL_law 1334 = .ok (.iadd, 1) := by decide +kernel
theorem dL_law_1335 : decode cL_law 1335 = .ok (.iaload, 1) := by decide +kernel
theorem dL_law_1336 : decode cL_law 1336 = .ok (.invokevirtual 148, 3) := by decide +kernel
theorem dL_law_1339 : decode cL_law 1339 = .ok (.if_icmp .eq 159, 3) := by decide +kernel
theorem dL_law_1342 : decode cL_law 1342 = .ok (.iconst 0, 1) := by decide +kernel
theorem dL_law_1343 : decode cL_law 1343 = .ok (.ireturn, 1) := by decide +kernel
theorem vl_144 : VW R_law 144 yX11_move cX11_move 6 (some .int) 5 := ⟨gw 929 (by decide +kernel) rfl, gw 926 (by decide +kernel) rfl, gw 927 (by decide +kernel) rfl, gw 928 (by decide +kernel) rfl, gw 83 (by decide +kernel) rfl, by decide +kernel, by decide⟩
theorem vl_148 : VW R_law 148 yX12_move cX12_move 7 (some .int) 5 := ⟨gw 1387 (by decide +kernel) rfl, gw 1384 (by decide +kernel) rfl, gw 1385 (by decide +kernel) rfl, gw 1386 (by decide +kernel) rfl, gw 96 (by decide +kernel) rfl, by decide +kernel, by decide⟩
set_option maxHeartbeats 2000000 in
set_option maxRecDepth 20000 in
theorem lc_move {p : Program} {l : Launch} {e : Env} {s : State} {m : MethodId} {below : List Frame} {meth : Method} {c : Code} {Q : State → Prop} {D : va_G} {A : Nat → Prop} {cI cG cW : ClassId} {o : Nat} {qR q : Nat → Nat} {O : Ou} {b Ln : Nat} {xs : Nat → Int32} (C : Cx p s m #[Value.ref b] meth c code 4 R_law ret D (tyL cI cG cW) A) (hO : OUT O A s s.heap) (hX : va_X b Ln xs s s.heap) (hbl : b < s.heap.size) (hbA : ¬ A b) (hL : Ln ≤ 3072) {i M : Nat} (hi : i + 6 ≤ Ln) {V row kept tried bf fd pk bo so sh mv tr : Nat → Int32} {S : Nat → Int32} {X : Nat → Nat → Int32} {P : Nat → Nat} (hI : RI M (sR V row kept tried bf fd pk bo so sh mv tr)) (hC : CR (S, X, P) (sR V row kept tried bf fd pk bo so sh mv tr)) (hM : M < 3000) (kk : ∀ (σ' : RS) (κ' : CS), RI (M + 1) σ' → CR κ' σ' → JN p l e room_1 s m #[Value.ref b] below meth c Q 4 D A 103 2575 (Wl cI cG cW o qR q) (σ', κ') 1498 [(0, .ref b), (1, .ref (q 0)), (2, .ref o), (3, .int (nI i))] []) : JN p l e room_1 s m #[Value.ref b] below meth c Q 4 D A 103 2575 (Wl cI cG cW o qR q) (sR V row kept tried bf fd pk bo so sh mv tr, (S, X, P)) 1281 [(0, .ref b), (1, .ref (q 0)), (2, .ref o), (3, .int (nI i))] [] := by
  obtain ⟨⟨nc, np, nw, d, nt, nq, hR⟩, ⟨im, him1, eV5, eV4, hMk⟩, ⟨hV15, hV16, hV18⟩, hSh, ⟨tn, h26, e26⟩⟩ := id hI
  have him3 : im ≤ 3000 := by omega
  refine n_aload_n C 1 dL_law_1281 rfl ?_
  refine n_aload_n C 0 dL_law_1282 rfl ?_
  refine n_iload_n C 3 dL_law_1283 rfl ?_
  refine n_iconst C (v := (nI 1)) dL_law_1284 (by decide) ?_
  refine n_iaddN C dL_law_1285 ?_
  refine l_sld C hX hbl hbA (i + 1) (by omega) (by omega) dL_law_1286 ?_
  refine n_aload_n C 0 dL_law_1287 rfl ?_
  refine n_iload_n C 3 dL_law_1288 rfl ?_
  refine n_iconst C (v := (nI 2)) dL_law_1289 (by decide) ?_
  refine n_iaddN C dL_law_1290 ?_
  refine l_sld C hX hbl hbA (i + 2) (by omega) (by omega) dL_law_1291 ?_
  refine n_aload_n C 0 dL_law_1292 rfl ?_
  refine n_iload_n C 3 dL_law_1293 rfl ?_
  refine n_iconst C (v := (nI 3)) dL_law_1294 (by decide) ?_
  refine n_iaddN C dL_law_1295 ?_
  refine l_sld C hX hbl hbA (i + 3) (by omega) (by omega) dL_law_1296 ?_
  refine n_aload_n C 0 dL_law_1297 rfl ?_
  refine n_iload_n C 3 dL_law_1298 rfl ?_
  refine n_iconst C (v := (nI 4)) dL_law_1299 (by decide) ?_
  refine n_iaddN C dL_law_1300 ?_
  refine l_sld C hX hbl hbA (i + 4) (by omega) (by omega) dL_law_1301 ?_
  refine n_aload_n C 0 dL_law_1302 rfl ?_
  refine n_iload_n C 3 dL_law_1303 rfl ?_
  refine n_iconst C (v := (nI 5)) dL_law_1304 (by decide) ?_
  refine n_iaddN C dL_law_1305 ?_
  refine l_sld C hX hbl hbA (i + 5) (by omega) (by omega) dL_law_1306 ?_
  refine l_callC (As := [.int (xs (i + 1)), .int (xs (i + 2)), .int (xs (i + 3)), .int (xs (i + 4)), .int (xs (i + 5))]) (rest := []) C hO vl_144 ((k_move hR hC hSh).o) ⟨0, 11, _, _, rfl, rfl, rfl⟩ rfl (Nat.le_of_ble_eq_true rfl) dL_law_1307 ⟨Nat.le_of_ble_eq_true rfl, Nat.le_of_ble_eq_true rfl⟩ ⟨Nat.le_of_ble_eq_true rfl, Nat.le_of_ble_eq_true rfl⟩ ?_
  rintro r1 κ1 ⟨e1, hC1⟩
  refine n_aload_n C 2 dL_law_1310 rfl ?_
  refine n_aload_n C 0 dL_law_1311 rfl ?_
  refine n_iload_n C 3 dL_law_1312 rfl ?_
  refine n_iconst C (v := (nI 1)) dL_law_1313 (by decide) ?_
  refine n_iaddN C dL_law_1314 ?_
  refine l_sld C hX hbl hbA (i + 1) (by omega) (by omega) dL_law_1315 ?_
  refine n_aload_n C 0 dL_law_1316 rfl ?_
  refine n_iload_n C 3 dL_law_1317 rfl ?_
  refine n_iconst C (v := (nI 2)) dL_law_1318 (by decide) ?_
  refine n_iaddN C dL_law_1319 ?_
  refine l_sld C hX hbl hbA (i + 2) (by omega) (by omega) dL_law_1320 ?_
  refine n_aload_n C 0 dL_law_1321 rfl ?_
  refine n_iload_n C 3 dL_law_1322 rfl ?_
  refine n_iconst C (v := (nI 3)) dL_law_1323 (by decide) ?_
  refine n_iaddN C dL_law_1324 ?_
  refine l_sld C hX hbl hbA (i + 3) (by omega) (by omega) dL_law_1325 ?_
  refine n_aload_n C 0 dL_law_1326 rfl ?_
  refine n_iload_n C 3 dL_law_1327 rfl ?_
  refine n_iconst C (v := (nI 4)) dL_law_1328 (by decide) ?_
  refine n_iaddN C dL_law_1329 ?_
  refine l_sld C hX hbl hbA (i + 4) (by omega) (by omega) dL_law_1330 ?_
  refine n_aload_n C 0 dL_law_1331 rfl ?_
  refine n_iload_n C 3 dL_law_1332 rfl ?_
  refine n_iconst C (v := (nI 5)) dL_law_1333 (by decide) ?_
  refine n_iaddN C dL_law_1334 ?_
  refine l_sld C hX hbl hbA (i + 5) (by omega) (by omega) dL_law_1335 ?_
  refine l_callM (As := [.int (xs (i + 1)), .int (xs (i + 2)), .int (xs (i + 3)), .int (xs (i + 4)), .int (xs (i + 5))]) (rest := [.int r1]) C vl_148 (c_move hR hSh) rRcv rfl (Nat.le_of_ble_eq_true rfl) dL_law_1336 ⟨Nat.le_of_ble_eq_true rfl, Nat.le_of_ble_eq_true rfl⟩ ⟨Nat.le_of_ble_eq_true rfl, Nat.le_of_ble_eq_true rfl⟩ ?_
  rintro r2 σ1 ⟨e2, hE⟩
  refine n_icmp_eq C 1498 dL_law_1339 (by decide) (fun c_ => ?_) (fun c_ => ?_)
  · exact kk σ1 κ1 ((ri_move hI).eq hE) (hC1.eq hE)
  · exact absurd (e1.trans e2.symm) c_
theorem dL_law_1344 : decode cL_law 1344 = .ok (.aload_n 1, 1) := by decide +kernel
theorem dL_law_1345 : decode cL_law 1345 = .ok (.aload_n 0, 1) := by decide +kernel
theorem dL_law_1346 : decode cL_law 1346 = .ok (.iload_n 3, 1) := by decide +kernel
theorem dL_law_1347 : decode cL_law 1347 = .ok (.iconst 1, 1) := by decide +kernel
theorem dL_law_1348 : decode cL_law 1348 = .ok (.iadd, 1) := by decide +kernel
theorem dL_law_1349 : decode cL_law 1349 = .ok (.iaload, 1) := by decide +kernel
theorem dL_law_1350 : decode cL_law 1350 = .ok (.invokevirtual 149, 3) := by decide +kernel
theorem dL_law_1353 : decode cL_law 1353 = .ok (.aload_n 2, 1) := by decide +kernel
theorem dL_law_1354 : decode cL_law 1354 = .ok (.aload_n 0, 1) := by decide +kernel
theorem dL_law_1355 : decode cL_law 1355 = .ok (.iload_n 3, 1) := by decide +kernel
theorem dL_law_1356 : decode cL_law 1356 = .ok (.iconst 1, 1) := by decide +kernel
theorem dL_law_1357 : decode cL_law 1357 = .ok (.iadd, 1) := by decide +kernel
theorem dL_law_1358 : decode cL_law 1358 = .ok (.iaload, 1) := by decide +kernel
theorem dL_law_1359 : decode cL_law 1359 = .ok (.invokevirtual 152, 3) := by decide +kernel
theorem dL_law_1362 : decode cL_law 1362 = .ok (.if_icmp .eq 136, 3) := by decide +kernel
theorem dL_law_1365 : decode cL_law 1365 = .ok (.iconst 0, 1) := by decide +kernel
theorem dL_law_1366 : decode cL_law 1366 = .ok (.ireturn, 1) := by decide +kernel
theorem vl_149 : VW R_law 149 yX11_ears cX11_ears 5 (some .int) 1 := ⟨gw 938 (by decide +kernel) rfl, gw 935 (by decide +kernel) rfl, gw 936 (by decide +kernel) rfl, gw 937 (by decide +kernel) rfl, gw 83 (by decide +kernel) rfl, by decide +kernel, by decide⟩
theorem vl_152 : VW R_law 152 yX12_ears cX12_ears 3 (some .int) 1 := ⟨gw 1391 (by decide +kernel) rfl, gw 1388 (by decide +kernel) rfl, gw 1389 (by decide +kernel) rfl, gw 1390 (by decide +kernel) rfl, gw 96 (by decide +kernel) rfl, by decide +kernel, by decide⟩
set_option maxHeartbeats 2000000 in
set_option maxRecDepth 20000 in
theorem lc_ears {p : Program} {l : Launch} {e : Env} {s : State} {m : MethodId} {below : List Frame} {meth : Method} {c : Code} {Q : State → Prop} {D : va_G} {A : Nat → Prop} {cI cG cW : ClassId} {o : Nat} {qR q : Nat → Nat} {O : Ou} {b Ln : Nat} {xs : Nat → Int32} (C : Cx p s m #[Value.ref b] meth c code 4 R_law ret D (tyL cI cG cW) A) (hO : OUT O A s s.heap) (hX : va_X b Ln xs s s.heap) (hbl : b < s.heap.size) (hbA : ¬ A b) (hL : Ln ≤ 3072) {i M : Nat} (hi : i + 6 ≤ Ln) {V row kept tried bf fd pk bo so sh mv tr : Nat → Int32} {S : Nat → Int32} {X : Nat → Nat → Int32} {P : Nat → Nat} (hI : RI M (sR V row kept tried bf fd pk bo so sh mv tr)) (hC : CR (S, X, P) (sR V row kept tried bf fd pk bo so sh mv tr)) (hM : M < 3000) (kk : ∀ (σ' : RS) (κ' : CS), RI (M + 1) σ' → CR κ' σ' → JN p l e room_1 s m #[Value.ref b] below meth c Q 4 D A 103 2575 (Wl cI cG cW o qR q) (σ', κ') 1498 [(0, .ref b), (1, .ref (q 0)), (2, .ref o), (3, .int (nI i))] []) : JN p l e room_1 s m #[Value.ref b] below meth c Q 4 D A 103 2575 (Wl cI cG cW o qR q) (sR V row kept tried bf fd pk bo so sh mv tr, (S, X, P)) 1344 [(0, .ref b), (1, .ref (q 0)), (2, .ref o), (3, .int (nI i))] [] := by
  obtain ⟨⟨nc, np, nw, d, nt, nq, hR⟩, ⟨im, him1, eV5, eV4, hMk⟩, ⟨hV15, hV16, hV18⟩, hSh, ⟨tn, h26, e26⟩⟩ := id hI
  have him3 : im ≤ 3000 := by omega
  refine n_aload_n C 1 dL_law_1344 rfl ?_
  refine n_aload_n C 0 dL_law_1345 rfl ?_
  refine n_iload_n C 3 dL_law_1346 rfl ?_
  refine n_iconst C (v := (nI 1)) dL_law_1347 (by decide) ?_
  refine n_iaddN C dL_law_1348 ?_
  refine l_sld C hX hbl hbA (i + 1) (by omega) (by omega) dL_law_1349 ?_
  refine l_callC (As := [.int (xs (i + 1))]) (rest := []) C hO vl_149 ((k_ears hR hC hSh).o) ⟨0, 11, _, _, rfl, rfl, rfl⟩ rfl (Nat.le_of_ble_eq_true rfl) dL_law_1350 ⟨Nat.le_of_ble_eq_true rfl, Nat.le_of_ble_eq_true rfl⟩ ⟨Nat.le_of_ble_eq_true rfl, Nat.le_of_ble_eq_true rfl⟩ ?_
  rintro r1 κ1 ⟨e1, hC1⟩
  refine n_aload_n C 2 dL_law_1353 rfl ?_
  refine n_aload_n C 0 dL_law_1354 rfl ?_
  refine n_iload_n C 3 dL_law_1355 rfl ?_
  refine n_iconst C (v := (nI 1)) dL_law_1356 (by decide) ?_
  refine n_iaddN C dL_law_1357 ?_
  refine l_sld C hX hbl hbA (i + 1) (by omega) (by omega) dL_law_1358 ?_
  refine l_callM (As := [.int (xs (i + 1))]) (rest := [.int r1]) C vl_152 (c_ears hR hSh) rRcv rfl (Nat.le_of_ble_eq_true rfl) dL_law_1359 ⟨Nat.le_of_ble_eq_true rfl, Nat.le_of_ble_eq_true rfl⟩ ⟨Nat.le_of_ble_eq_true rfl, Nat.le_of_ble_eq_true rfl⟩ ?_
  rintro r2 σ1 ⟨e2, hE⟩
  refine n_icmp_eq C 1498 dL_law_1362 (by decide) (fun c_ => ?_) (fun c_ => ?_)
  · exact kk σ1 κ1 ((ri_ears hI).eq hE) (hC1.eq hE)
  · exact absurd (e1.trans e2.symm) c_
theorem dL_law_1367 : decode cL_law 1367 = .ok (.aload_n 1, 1) := by decide +kernel
theorem dL_law_1368 : decode cL_law 1368 = .ok (.aload_n 0, 1) := by decide +kernel
theorem dL_law_1369 : decode cL_law 1369 = .ok (.iload_n 3, 1) := by decide +kernel
theorem dL_law_1370 : decode cL_law 1370 = .ok (.iconst 1, 1) := by decide +kernel
theorem dL_law_1371 : decode cL_law 1371 = .ok (.iadd, 1) := by decide +kernel
theorem dL_law_1372 : decode cL_law 1372 = .ok (.iaload, 1) := by decide +kernel
theorem dL_law_1373 : decode cL_law 1373 = .ok (.invokevirtual 153, 3) := by decide +kernel
theorem dL_law_1376 : decode cL_law 1376 = .ok (.aload_n 2, 1) := by decide +kernel
theorem dL_law_1377 : decode cL_law 1377 = .ok (.aload_n 0, 1) := by decide +kernel
theorem dL_law_1378 : decode cL_law 1378 = .ok (.iload_n 3, 1) := by decide +kernel
theorem dL_law_1379 : decode cL_law 1379 = .ok (.iconst 1, 1) := by decide +kernel
theorem dL_law_1380 : decode cL_law 1380 = .ok (.iadd, 1) := by decide +kernel
theorem dL_law_1381 : decode cL_law 1381 = .ok (.iaload, 1) := by decide +kernel
theorem dL_law_1382 : decode cL_law 1382 = .ok (.invokevirtual 156, 3) := by decide +kernel
theorem dL_law_1385 : decode cL_law 1385 = .ok (.if_icmp .eq 113, 3) := by decide +kernel
theorem dL_law_1388 : decode cL_law 1388 = .ok (.iconst 0, 1) := by decide +kernel
theorem dL_law_1389 : decode cL_law 1389 = .ok (.ireturn, 1) := by decide +kernel
theorem vl_153 : VW R_law 153 yX11_judge cX11_judge 5 (some .int) 1 := ⟨gw 942 (by decide +kernel) rfl, gw 939 (by decide +kernel) rfl, gw 940 (by decide +kernel) rfl, gw 941 (by decide +kernel) rfl, gw 83 (by decide +kernel) rfl, by decide +kernel, by decide⟩
theorem vl_156 : VW R_law 156 yX12_judge cX12_judge 3 (some .int) 1 := ⟨gw 1395 (by decide +kernel) rfl, gw 1392 (by decide +kernel) rfl, gw 1393 (by decide +kernel) rfl, gw 1394 (by decide +kernel) rfl, gw 96 (by decide +kernel) rfl, by decide +kernel, by decide⟩
set_option maxHeartbeats 2000000 in
set_option maxRecDepth 20000 in
theorem lc_judge {p : Program} {l : Launch} {e : Env} {s : State} {m : MethodId} {below : List Frame} {meth : Method} {c : Code} {Q : State → Prop} {D : va_G} {A : Nat → Prop} {cI cG cW : ClassId} {o : Nat} {qR q : Nat → Nat} {O : Ou} {b Ln : Nat} {xs : Nat → Int32} (C : Cx p s m #[Value.ref b] meth c code 4 R_law ret D (tyL cI cG cW) A) (hO : OUT O A s s.heap) (hX : va_X b Ln xs s s.heap) (hbl : b < s.heap.size) (hbA : ¬ A b) (hL : Ln ≤ 3072) {i M : Nat} (hi : i + 6 ≤ Ln) {V row kept tried bf fd pk bo so sh mv tr : Nat → Int32} {S : Nat → Int32} {X : Nat → Nat → Int32} {P : Nat → Nat} (hI : RI M (sR V row kept tried bf fd pk bo so sh mv tr)) (hC : CR (S, X, P) (sR V row kept tried bf fd pk bo so sh mv tr)) (hM : M < 3000) (kk : ∀ (σ' : RS) (κ' : CS), RI (M + 1) σ' → CR κ' σ' → JN p l e room_1 s m #[Value.ref b] below meth c Q 4 D A 103 2575 (Wl cI cG cW o qR q) (σ', κ') 1498 [(0, .ref b), (1, .ref (q 0)), (2, .ref o), (3, .int (nI i))] []) : JN p l e room_1 s m #[Value.ref b] below meth c Q 4 D A 103 2575 (Wl cI cG cW o qR q) (sR V row kept tried bf fd pk bo so sh mv tr, (S, X, P)) 1367 [(0, .ref b), (1, .ref (q 0)), (2, .ref o), (3, .int (nI i))] [] := by
  obtain ⟨⟨nc, np, nw, d, nt, nq, hR⟩, ⟨im, him1, eV5, eV4, hMk⟩, ⟨hV15, hV16, hV18⟩, hSh, ⟨tn, h26, e26⟩⟩ := id hI
  have him3 : im ≤ 3000 := by omega
  refine n_aload_n C 1 dL_law_1367 rfl ?_
  refine n_aload_n C 0 dL_law_1368 rfl ?_
  refine n_iload_n C 3 dL_law_1369 rfl ?_
  refine n_iconst C (v := (nI 1)) dL_law_1370 (by decide) ?_
  refine n_iaddN C dL_law_1371 ?_
  refine l_sld C hX hbl hbA (i + 1) (by omega) (by omega) dL_law_1372 ?_
  refine l_callC (As := [.int (xs (i + 1))]) (rest := []) C hO vl_153 ((k_judge hR hC hSh).o) ⟨0, 11, _, _, rfl, rfl, rfl⟩ rfl (Nat.le_of_ble_eq_true rfl) dL_law_1373 ⟨Nat.le_of_ble_eq_true rfl, Nat.le_of_ble_eq_true rfl⟩ ⟨Nat.le_of_ble_eq_true rfl, Nat.le_of_ble_eq_true rfl⟩ ?_
  rintro r1 κ1 ⟨e1, hC1⟩
  refine n_aload_n C 2 dL_law_1376 rfl ?_
  refine n_aload_n C 0 dL_law_1377 rfl ?_
  refine n_iload_n C 3 dL_law_1378 rfl ?_
  refine n_iconst C (v := (nI 1)) dL_law_1379 (by decide) ?_
  refine n_iaddN C dL_law_1380 ?_
  refine l_sld C hX hbl hbA (i + 1) (by omega) (by omega) dL_law_1381 ?_
  refine l_callM (As := [.int (xs (i + 1))]) (rest := [.int r1]) C vl_156 (c_judge hR hSh) rRcv rfl (Nat.le_of_ble_eq_true rfl) dL_law_1382 ⟨Nat.le_of_ble_eq_true rfl, Nat.le_of_ble_eq_true rfl⟩ ⟨Nat.le_of_ble_eq_true rfl, Nat.le_of_ble_eq_true rfl⟩ ?_
  rintro r2 σ1 ⟨e2, hE⟩
  refine n_icmp_eq C 1498 dL_law_1385 (by decide) (fun c_ => ?_) (fun c_ => ?_)
  · exact kk σ1 κ1 ((ri_judge hI).eq hE) (hC1.eq hE)
  · exact absurd (e1.trans e2.symm) c_
theorem dL_law_1390 : decode cL_law 1390 = .ok (.aload_n 1, 1) := by decide +kernel
theorem dL_law_1391 : decode cL_law 1391 = .ok (.invokevirtual 157, 3) := by decide +kernel
theorem dL_law_1394 : decode cL_law 1394 = .ok (.aload_n 2, 1) := by decide +kernel
theorem dL_law_1395 : decode cL_law 1395 = .ok (.invokevirtual 161, 3) := by decide +kernel
theorem dL_law_1398 : decode cL_law 1398 = .ok (.if_icmp .eq 100, 3) := by decide +kernel
theorem dL_law_1401 : decode cL_law 1401 = .ok (.iconst 0, 1) := by decide +kernel
theorem dL_law_1402 : decode cL_law 1402 = .ok (.ireturn, 1) := by decide +kernel
theorem vl_157 : VW R_law 157 yX11_image cX11_image 1 (some .int) 0 := ⟨gw 946 (by decide +kernel) rfl, gw 943 (by decide +kernel) rfl, gw 944 (by decide +kernel) rfl, gw 945 (by decide +kernel) rfl, gw 83 (by decide +kernel) rfl, by decide +kernel, by decide⟩
theorem vl_161 : VW R_law 161 yX12_image cX12_image 1 (some .int) 0 := ⟨gw 1399 (by decide +kernel) rfl, gw 1396 (by decide +kernel) rfl, gw 1397 (by decide +kernel) rfl, gw 1398 (by decide +kernel) rfl, gw 96 (by decide +kernel) rfl, by decide +kernel, by decide⟩
set_option maxHeartbeats 2000000 in
set_option maxRecDepth 20000 in
theorem lc_image {p : Program} {l : Launch} {e : Env} {s : State} {m : MethodId} {below : List Frame} {meth : Method} {c : Code} {Q : State → Prop} {D : va_G} {A : Nat → Prop} {cI cG cW : ClassId} {o : Nat} {qR q : Nat → Nat} {O : Ou} {b Ln : Nat} {xs : Nat → Int32} (C : Cx p s m #[Value.ref b] meth c code 4 R_law ret D (tyL cI cG cW) A) (hO : OUT O A s s.heap) (hX : va_X b Ln xs s s.heap) (hbl : b < s.heap.size) (hbA : ¬ A b) (hL : Ln ≤ 3072) {i M : Nat} (hi : i + 6 ≤ Ln) {V row kept tried bf fd pk bo so sh mv tr : Nat → Int32} {S : Nat → Int32} {X : Nat → Nat → Int32} {P : Nat → Nat} (hI : RI M (sR V row kept tried bf fd pk bo so sh mv tr)) (hC : CR (S, X, P) (sR V row kept tried bf fd pk bo so sh mv tr)) (hM : M < 3000) (kk : ∀ (σ' : RS) (κ' : CS), RI (M + 1) σ' → CR κ' σ' → JN p l e room_1 s m #[Value.ref b] below meth c Q 4 D A 103 2575 (Wl cI cG cW o qR q) (σ', κ') 1498 [(0, .ref b), (1, .ref (q 0)), (2, .ref o), (3, .int (nI i))] []) : JN p l e room_1 s m #[Value.ref b] below meth c Q 4 D A 103 2575 (Wl cI cG cW o qR q) (sR V row kept tried bf fd pk bo so sh mv tr, (S, X, P)) 1390 [(0, .ref b), (1, .ref (q 0)), (2, .ref o), (3, .int (nI i))] [] := by
  obtain ⟨⟨nc, np, nw, d, nt, nq, hR⟩, ⟨im, him1, eV5, eV4, hMk⟩, ⟨hV15, hV16, hV18⟩, hSh, ⟨tn, h26, e26⟩⟩ := id hI
  have him3 : im ≤ 3000 := by omega
  refine n_aload_n C 1 dL_law_1390 rfl ?_
  refine l_callC (As := []) (rest := []) C hO vl_157 ((k_image hR hC).o) ⟨0, 11, _, _, rfl, rfl, rfl⟩ rfl (Nat.le_of_ble_eq_true rfl) dL_law_1391 ⟨Nat.le_of_ble_eq_true rfl, Nat.le_of_ble_eq_true rfl⟩ ⟨Nat.le_of_ble_eq_true rfl, Nat.le_of_ble_eq_true rfl⟩ ?_
  rintro r1 κ1 ⟨e1, hC1⟩
  refine n_aload_n C 2 dL_law_1394 rfl ?_
  refine l_callM (As := []) (rest := [.int r1]) C vl_161 (c_image hR) rRcv rfl (Nat.le_of_ble_eq_true rfl) dL_law_1395 ⟨Nat.le_of_ble_eq_true rfl, Nat.le_of_ble_eq_true rfl⟩ ⟨Nat.le_of_ble_eq_true rfl, Nat.le_of_ble_eq_true rfl⟩ ?_
  rintro r2 σ1 ⟨e2, hE⟩
  refine n_icmp_eq C 1498 dL_law_1398 (by decide) (fun c_ => ?_) (fun c_ => ?_)
  · exact kk σ1 κ1 ((ri_image hI hM).eq hE) (hC1.eq hE)
  · exact absurd (e1.trans e2.symm) c_

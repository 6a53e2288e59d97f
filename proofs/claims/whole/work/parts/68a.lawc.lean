/-! The law's cases 0 to 4. -/
theorem kL_64 : Cond.constantLong R_law 64 4294967295 ∈ lw_g := gw 1424 (by decide +kernel) rfl
theorem dL_law_208 : decode cL_law 208 = .ok (.aload_n 1, 1) := by decide +kernel
theorem dL_law_209 : decode cL_law 209 = .ok (.aload_n 0, 1) := by decide +kernel
theorem dL_law_210 : decode cL_law 210 = .ok (.iload_n 3, 1) := by decide +kernel
theorem dL_law_211 : decode cL_law 211 = .ok (.iconst 1, 1) := by decide +kernel
theorem dL_law_212 : decode cL_law 212 = .ok (.iadd, 1) := by decide +kernel
theorem dL_law_213 : decode cL_law 213 = .ok (.iaload, 1) := by decide +kernel
theorem dL_law_214 : decode cL_law 214 = .ok (.invokevirtual 13, 3) := by decide +kernel
theorem dL_law_217 : decode cL_law 217 = .ok (.aload_n 2, 1) := by decide +kernel
theorem dL_law_218 : decode cL_law 218 = .ok (.aload_n 0, 1) := by decide +kernel
theorem dL_law_219 : decode cL_law 219 = .ok (.iload_n 3, 1) := by decide +kernel
theorem dL_law_220 : decode cL_law 220 = .ok (.iconst 1, 1) := by decide +kernel
theorem dL_law_221 : decode cL_law 221 = .ok (.iadd, 1) := by decide +kernel
theorem dL_law_222 : decode cL_law 222 = .ok (.iaload, 1) := by decide +kernel
theorem dL_law_223 : decode cL_law 223 = .ok (.invokevirtual 17, 3) := by decide +kernel
theorem dL_law_226 : decode cL_law 226 = .ok (.if_icmp .eq 1272, 3) := by decide +kernel
theorem dL_law_229 : decode cL_law 229 = .ok (.iconst 0, 1) := by decide +kernel
theorem dL_law_230 : decode cL_law 230 = .ok (.ireturn, 1) := by decide +kernel
theorem vl_13 : VW R_law 13 yX11_field cX11_field 3 (some .int) 1 := ⟨gw 371 (by decide +kernel) rfl, gw 368 (by decide +kernel) rfl, gw 369 (by decide +kernel) rfl, gw 370 (by decide +kernel) rfl, gw 83 (by decide +kernel) rfl, by decide +kernel, by decide⟩
theorem vl_17 : VW R_law 17 yX12_field cX12_field 3 (some .int) 1 := ⟨gw 1075 (by decide +kernel) rfl, gw 1072 (by decide +kernel) rfl, gw 1073 (by decide +kernel) rfl, gw 1074 (by decide +kernel) rfl, gw 96 (by decide +kernel) rfl, by decide +kernel, by decide⟩
set_option maxHeartbeats 2000000 in
set_option maxRecDepth 20000 in
theorem lc_field {p : Program} {l : Launch} {e : Env} {s : State} {m : MethodId} {below : List Frame} {meth : Method} {c : Code} {Q : State → Prop} {D : va_G} {A : Nat → Prop} {cI cG cW : ClassId} {o : Nat} {qR q : Nat → Nat} {O : Ou} {b Ln : Nat} {xs : Nat → Int32} (C : Cx p s m #[Value.ref b] meth c code 4 R_law ret D (tyL cI cG cW) A) (hO : OUT O A s s.heap) (hX : va_X b Ln xs s s.heap) (hbl : b < s.heap.size) (hbA : ¬ A b) (hL : Ln ≤ 3072) {i M : Nat} (hi : i + 6 ≤ Ln) {V row kept tried bf fd pk bo so sh mv tr : Nat → Int32} {S : Nat → Int32} {X : Nat → Nat → Int32} {P : Nat → Nat} (hI : RI M (sR V row kept tried bf fd pk bo so sh mv tr)) (hC : CR (S, X, P) (sR V row kept tried bf fd pk bo so sh mv tr)) (hM : M < 3000) (kk : ∀ (σ' : RS) (κ' : CS), RI (M + 1) σ' → CR κ' σ' → JN p l e room_1 s m #[Value.ref b] below meth c Q 4 D A 103 2575 (Wl cI cG cW o qR q) (σ', κ') 1498 [(0, .ref b), (1, .ref (q 0)), (2, .ref o), (3, .int (nI i))] []) : JN p l e room_1 s m #[Value.ref b] below meth c Q 4 D A 103 2575 (Wl cI cG cW o qR q) (sR V row kept tried bf fd pk bo so sh mv tr, (S, X, P)) 208 [(0, .ref b), (1, .ref (q 0)), (2, .ref o), (3, .int (nI i))] [] := by
  obtain ⟨⟨nc, np, nw, d, nt, nq, hR⟩, ⟨im, him1, eV5, eV4, hMk⟩, ⟨hV15, hV16, hV18⟩, hSh, ⟨tn, h26, e26⟩⟩ := id hI
  have him3 : im ≤ 3000 := by omega
  refine n_aload_n C 1 dL_law_208 rfl ?_
  refine n_aload_n C 0 dL_law_209 rfl ?_
  refine n_iload_n C 3 dL_law_210 rfl ?_
  refine n_iconst C (v := (nI 1)) dL_law_211 (by decide) ?_
  refine n_iaddN C dL_law_212 ?_
  refine l_sld C hX hbl hbA (i + 1) (by omega) (by omega) dL_law_213 ?_
  refine l_callC (As := [.int (xs (i + 1))]) (rest := []) C hO vl_13 ((k_field hR hC).o) ⟨0, 11, _, _, rfl, rfl, rfl⟩ rfl (Nat.le_of_ble_eq_true rfl) dL_law_214 ⟨Nat.le_of_ble_eq_true rfl, Nat.le_of_ble_eq_true rfl⟩ ⟨Nat.le_of_ble_eq_true rfl, Nat.le_of_ble_eq_true rfl⟩ ?_
  rintro r1 κ1 ⟨e1, hC1⟩
  refine n_aload_n C 2 dL_law_217 rfl ?_
  refine n_aload_n C 0 dL_law_218 rfl ?_
  refine n_iload_n C 3 dL_law_219 rfl ?_
  refine n_iconst C (v := (nI 1)) dL_law_220 (by decide) ?_
  refine n_iaddN C dL_law_221 ?_
  refine l_sld C hX hbl hbA (i + 1) (by omega) (by omega) dL_law_222 ?_
  refine l_callM (As := [.int (xs (i + 1))]) (rest := [.int r1]) C vl_17 (c_field hR) rRcv rfl (Nat.le_of_ble_eq_true rfl) dL_law_223 ⟨Nat.le_of_ble_eq_true rfl, Nat.le_of_ble_eq_true rfl⟩ ⟨Nat.le_of_ble_eq_true rfl, Nat.le_of_ble_eq_true rfl⟩ ?_
  rintro r2 σ1 ⟨e2, hE⟩
  refine n_icmp_eq C 1498 dL_law_226 (by decide) (fun c_ => ?_) (fun c_ => ?_)
  · exact kk σ1 κ1 ((ri_field hI).eq hE) (hC1.eq hE)
  · exact absurd (e1.trans e2.symm) c_
theorem dL_law_231 : decode cL_law 231 = .ok (.aload_n 1, 1) := by decide +kernel
theorem dL_law_232 : decode cL_law 232 = .ok (.aload_n 0, 1) := by decide +kernel
theorem dL_law_233 : decode cL_law 233 = .ok (.iload_n 3, 1) := by decide +kernel
theorem dL_law_234 : decode cL_law 234 = .ok (.iconst 1, 1) := by decide +kernel
theorem dL_law_235 : decode cL_law 235 = .ok (.iadd, 1) := by decide +kernel
theorem dL_law_236 : decode cL_law 236 = .ok (.iaload, 1) := by decide +kernel
theorem dL_law_237 : decode cL_law 237 = .ok (.aload_n 0, 1) := by decide +kernel
theorem dL_law_238 : decode cL_law 238 = .ok (.iload_n 3, 1) := by decide +kernel
theorem dL_law_239 : decode cL_law 239 = .ok (.iconst 2, 1) := by decide +kernel
theorem dL_law_240 : decode cL_law 240 = .ok (.iadd, 1) := by decide +kernel
theorem dL_law_241 : decode cL_law 241 = .ok (.iaload, 1) := by decide +kernel
theorem dL_law_242 : decode cL_law 242 = .ok (.aload_n 0, 1) := by decide +kernel
theorem dL_law_243 : decode cL_law 243 = .ok (.iload_n 3, 1) := by decide +kernel
theorem dL_law_244 : decode cL_law 244 = .ok (.iconst 3, 1) := by decide +kernel
theorem dL_law_245 : decode cL_law 245 = .ok (.iadd, 1) := by decide +kernel
theorem dL_law_246 : decode cL_law 246 = .ok (.iaload, 1) := by decide +kernel
theorem dL_law_247 : decode cL_law 247 = .ok (.invokevirtual 18, 3) := by decide +kernel
theorem dL_law_250 : decode cL_law 250 = .ok (.aload_n 2, 1) := by decide +kernel
theorem dL_law_251 : decode cL_law 251 = .ok (.aload_n 0, 1) := by decide +kernel
theorem dL_law_252 : decode cL_law 252 = .ok (.iload_n 3, 1) := by decide +kernel
theorem dL_law_253 : decode cL_law 253 = .ok (.iconst 1, 1) := by decide +kernel
theorem dL_law_254 : decode cL_law 254 = .ok (.iadd, 1) := by decide +kernel
theorem dL_law_255 : decode cL_law 255 = .ok (.iaload, 1) := by decide +kernel
theorem dL_law_256 : decode cL_law 256 = .ok (.aload_n 0, 1) := by decide +kernel
theorem dL_law_257 : decode cL_law 257 = .ok (.iload_n 3, 1) := by decide +kernel
theorem dL_law_258 : decode cL_law 258 = .ok (.iconst 2, 1) := by decide +kernel
theorem dL_law_259 : decode cL_law 259 = .ok (.iadd, 1) := by decide +kernel
theorem dL_law_260 : decode cL_law 260 = .ok (.iaload, 1) := by decide +kernel
theorem dL_law_261 : decode cL_law 261 = .ok (.aload_n 0, 1) := by decide +kernel
theorem dL_law_262 : decode cL_law 262 = .ok (.iload_n 3, 1) := by decide +kernel
theorem dL_law_263 : decode cL_law 263 = .ok (.iconst 3, 1) := by decide +kernel
theorem dL_law_264 : decode cL_law 264 = .ok (.iadd, 1) := by decide +kernel
theorem dL_law_265 : decode cL_law 265 = .ok (.iaload, 1) := by decide +kernel
theorem dL_law_266 : decode cL_law 266 = .ok (.invokevirtual 22, 3) := by decide +kernel
theorem dL_law_269 : decode cL_law 269 = .ok (.if_icmp .eq 1229, 3) := by decide +kernel
theorem dL_law_272 : decode cL_law 272 = .ok (.iconst 0, 1) := by decide +kernel
theorem dL_law_273 : decode cL_law 273 = .ok (.ireturn, 1) := by decide +kernel
theorem vl_18 : VW R_law 18 yX11_lay cX11_lay 6 (some .int) 3 := ⟨gw 384 (by decide +kernel) rfl, gw 381 (by decide +kernel) rfl, gw 382 (by decide +kernel) rfl, gw 383 (by decide +kernel) rfl, gw 83 (by decide +kernel) rfl, by decide +kernel, by decide⟩
theorem vl_22 : VW R_law 22 yX12_lay cX12_lay 4 (some .int) 3 := ⟨gw 1093 (by decide +kernel) rfl, gw 1090 (by decide +kernel) rfl, gw 1091 (by decide +kernel) rfl, gw 1092 (by decide +kernel) rfl, gw 96 (by decide +kernel) rfl, by decide +kernel, by decide⟩
set_option maxHeartbeats 2000000 in
set_option maxRecDepth 20000 in
theorem lc_lay {p : Program} {l : Launch} {e : Env} {s : State} {m : MethodId} {below : List Frame} {meth : Method} {c : Code} {Q : State → Prop} {D : va_G} {A : Nat → Prop} {cI cG cW : ClassId} {o : Nat} {qR q : Nat → Nat} {O : Ou} {b Ln : Nat} {xs : Nat → Int32} (C : Cx p s m #[Value.ref b] meth c code 4 R_law ret D (tyL cI cG cW) A) (hO : OUT O A s s.heap) (hX : va_X b Ln xs s s.heap) (hbl : b < s.heap.size) (hbA : ¬ A b) (hL : Ln ≤ 3072) {i M : Nat} (hi : i + 6 ≤ Ln) {V row kept tried bf fd pk bo so sh mv tr : Nat → Int32} {S : Nat → Int32} {X : Nat → Nat → Int32} {P : Nat → Nat} (hI : RI M (sR V row kept tried bf fd pk bo so sh mv tr)) (hC : CR (S, X, P) (sR V row kept tried bf fd pk bo so sh mv tr)) (hM : M < 3000) (kk : ∀ (σ' : RS) (κ' : CS), RI (M + 1) σ' → CR κ' σ' → JN p l e room_1 s m #[Value.ref b] below meth c Q 4 D A 103 2575 (Wl cI cG cW o qR q) (σ', κ') 1498 [(0, .ref b), (1, .ref (q 0)), (2, .ref o), (3, .int (nI i))] []) : JN p l e room_1 s m #[Value.ref b] below meth c Q 4 D A 103 2575 (Wl cI cG cW o qR q) (sR V row kept tried bf fd pk bo so sh mv tr, (S, X, P)) 231 [(0, .ref b), (1, .ref (q 0)), (2, .ref o), (3, .int (nI i))] [] := by
  obtain ⟨⟨nc, np, nw, d, nt, nq, hR⟩, ⟨im, him1, eV5, eV4, hMk⟩, ⟨hV15, hV16, hV18⟩, hSh, ⟨tn, h26, e26⟩⟩ := id hI
  have him3 : im ≤ 3000 := by omega
  refine n_aload_n C 1 dL_law_231 rfl ?_
  refine n_aload_n C 0 dL_law_232 rfl ?_
  refine n_iload_n C 3 dL_law_233 rfl ?_
  refine n_iconst C (v := (nI 1)) dL_law_234 (by decide) ?_
  refine n_iaddN C dL_law_235 ?_
  refine l_sld C hX hbl hbA (i + 1) (by omega) (by omega) dL_law_236 ?_
  refine n_aload_n C 0 dL_law_237 rfl ?_
  refine n_iload_n C 3 dL_law_238 rfl ?_
  refine n_iconst C (v := (nI 2)) dL_law_239 (by decide) ?_
  refine n_iaddN C dL_law_240 ?_
  refine l_sld C hX hbl hbA (i + 2) (by omega) (by omega) dL_law_241 ?_
  refine n_aload_n C 0 dL_law_242 rfl ?_
  refine n_iload_n C 3 dL_law_243 rfl ?_
  refine n_iconst C (v := (nI 3)) dL_law_244 (by decide) ?_
  refine n_iaddN C dL_law_245 ?_
  refine l_sld C hX hbl hbA (i + 3) (by omega) (by omega) dL_law_246 ?_
  refine l_callC (As := [.int (xs (i + 1)), .int (xs (i + 2)), .int (xs (i + 3))]) (rest := []) C hO vl_18 ((k_lay hR hC).o) ⟨0, 11, _, _, rfl, rfl, rfl⟩ rfl (Nat.le_of_ble_eq_true rfl) dL_law_247 ⟨Nat.le_of_ble_eq_true rfl, Nat.le_of_ble_eq_true rfl⟩ ⟨Nat.le_of_ble_eq_true rfl, Nat.le_of_ble_eq_true rfl⟩ ?_
  rintro r1 κ1 ⟨e1, hC1⟩
  refine n_aload_n C 2 dL_law_250 rfl ?_
  refine n_aload_n C 0 dL_law_251 rfl ?_
  refine n_iload_n C 3 dL_law_252 rfl ?_
  refine n_iconst C (v := (nI 1)) dL_law_253 (by decide) ?_
  refine n_iaddN C dL_law_254 ?_
  refine l_sld C hX hbl hbA (i + 1) (by omega) (by omega) dL_law_255 ?_
  refine n_aload_n C 0 dL_law_256 rfl ?_
  refine n_iload_n C 3 dL_law_257 rfl ?_
  refine n_iconst C (v := (nI 2)) dL_law_258 (by decide) ?_
  refine n_iaddN C dL_law_259 ?_
  refine l_sld C hX hbl hbA (i + 2) (by omega) (by omega) dL_law_260 ?_
  refine n_aload_n C 0 dL_law_261 rfl ?_
  refine n_iload_n C 3 dL_law_262 rfl ?_
  refine n_iconst C (v := (nI 3)) dL_law_263 (by decide) ?_
  refine n_iaddN C dL_law_264 ?_
  refine l_sld C hX hbl hbA (i + 3) (by omega) (by omega) dL_law_265 ?_
  refine l_callM (As := [.int (xs (i + 1)), .int (xs (i + 2)), .int (xs (i + 3))]) (rest := [.int r1]) C vl_22 (c_lay hR) rRcv rfl (Nat.le_of_ble_eq_true rfl) dL_law_266 ⟨Nat.le_of_ble_eq_true rfl, Nat.le_of_ble_eq_true rfl⟩ ⟨Nat.le_of_ble_eq_true rfl, Nat.le_of_ble_eq_true rfl⟩ ?_
  rintro r2 σ1 ⟨e2, hE⟩
  refine n_icmp_eq C 1498 dL_law_269 (by decide) (fun c_ => ?_) (fun c_ => ?_)
  · exact kk σ1 κ1 ((ri_lay hI).eq hE) (hC1.eq hE)
  · exact absurd (e1.trans e2.symm) c_
theorem dL_law_274 : decode cL_law 274 = .ok (.aload_n 1, 1) := by decide +kernel
theorem dL_law_275 : decode cL_law 275 = .ok (.aload_n 0, 1) := by decide +kernel
theorem dL_law_276 : decode cL_law 276 = .ok (.iload_n 3, 1) := by decide +kernel
theorem dL_law_277 : decode cL_law 277 = .ok (.iconst 1, 1) := by decide +kernel
theorem dL_law_278 : decode cL_law 278 = .ok (.iadd, 1) := by decide +kernel
theorem dL_law_279 : decode cL_law 279 = .ok (.iaload, 1) := by decide +kernel
theorem dL_law_280 : decode cL_law 280 = .ok (.aload_n 0, 1) := by decide +kernel
theorem dL_law_281 : decode cL_law 281 = .ok (.iload_n 3, 1) := by decide +kernel
theorem dL_law_282 : decode cL_law 282 = .ok (.iconst 2, 1) := by decide +kernel
theorem dL_law_283 : decode cL_law 283 = .ok (.iadd, 1) := by decide +kernel
theorem dL_law_284 : decode cL_law 284 = .ok (.iaload, 1) := by decide +kernel
theorem dL_law_285 : decode cL_law 285 = .ok (.invokevirtual 23, 3) := by decide +kernel
theorem dL_law_288 : decode cL_law 288 = .ok (.aload_n 2, 1) := by decide +kernel
theorem dL_law_289 : decode cL_law 289 = .ok (.aload_n 0, 1) := by decide +kernel
theorem dL_law_290 : decode cL_law 290 = .ok (.iload_n 3, 1) := by decide +kernel
theorem dL_law_291 : decode cL_law 291 = .ok (.iconst 1, 1) := by decide +kernel
theorem dL_law_292 : decode cL_law 292 = .ok (.iadd, 1) := by decide +kernel
theorem dL_law_293 : decode cL_law 293 = .ok (.iaload, 1) := by decide +kernel
theorem dL_law_294 : decode cL_law 294 = .ok (.aload_n 0, 1) := by decide +kernel
theorem dL_law_295 : decode cL_law 295 = .ok (.iload_n 3, 1) := by decide +kernel
theorem dL_law_296 : decode cL_law 296 = .ok (.iconst 2, 1) := by decide +kernel
theorem dL_law_297 : decode cL_law 297 = .ok (.iadd, 1) := by decide +kernel
theorem dL_law_298 : decode cL_law 298 = .ok (.iaload, 1) := by decide +kernel
theorem dL_law_299 : decode cL_law 299 = .ok (.invokevirtual 27, 3) := by decide +kernel
theorem dL_law_302 : decode cL_law 302 = .ok (.if_icmp .eq 1196, 3) := by decide +kernel
theorem dL_law_305 : decode cL_law 305 = .ok (.iconst 0, 1) := by decide +kernel
theorem dL_law_306 : decode cL_law 306 = .ok (.ireturn, 1) := by decide +kernel
theorem vl_23 : VW R_law 23 yX11_ofCell cX11_ofCell 3 (some .int) 2 := ⟨gw 392 (by decide +kernel) rfl, gw 389 (by decide +kernel) rfl, gw 390 (by decide +kernel) rfl, gw 391 (by decide +kernel) rfl, gw 83 (by decide +kernel) rfl, by decide +kernel, by decide⟩
theorem vl_27 : VW R_law 27 yX12_ofCell cX12_ofCell 3 (some .int) 2 := ⟨gw 1101 (by decide +kernel) rfl, gw 1098 (by decide +kernel) rfl, gw 1099 (by decide +kernel) rfl, gw 1100 (by decide +kernel) rfl, gw 96 (by decide +kernel) rfl, by decide +kernel, by decide⟩
set_option maxHeartbeats 2000000 in
set_option maxRecDepth 20000 in
theorem lc_ofCell {p : Program} {l : Launch} {e : Env} {s : State} {m : MethodId} {below : List Frame} {meth : Method} {c : Code} {Q : State → Prop} {D : va_G} {A : Nat → Prop} {cI cG cW : ClassId} {o : Nat} {qR q : Nat → Nat} {O : Ou} {b Ln : Nat} {xs : Nat → Int32} (C : Cx p s m #[Value.ref b] meth c code 4 R_law ret D (tyL cI cG cW) A) (hO : OUT O A s s.heap) (hX : va_X b Ln xs s s.heap) (hbl : b < s.heap.size) (hbA : ¬ A b) (hL : Ln ≤ 3072) {i M : Nat} (hi : i + 6 ≤ Ln) {V row kept tried bf fd pk bo so sh mv tr : Nat → Int32} {S : Nat → Int32} {X : Nat → Nat → Int32} {P : Nat → Nat} (hI : RI M (sR V row kept tried bf fd pk bo so sh mv tr)) (hC : CR (S, X, P) (sR V row kept tried bf fd pk bo so sh mv tr)) (hM : M < 3000) (kk : ∀ (σ' : RS) (κ' : CS), RI (M + 1) σ' → CR κ' σ' → JN p l e room_1 s m #[Value.ref b] below meth c Q 4 D A 103 2575 (Wl cI cG cW o qR q) (σ', κ') 1498 [(0, .ref b), (1, .ref (q 0)), (2, .ref o), (3, .int (nI i))] []) : JN p l e room_1 s m #[Value.ref b] below meth c Q 4 D A 103 2575 (Wl cI cG cW o qR q) (sR V row kept tried bf fd pk bo so sh mv tr, (S, X, P)) 274 [(0, .ref b), (1, .ref (q 0)), (2, .ref o), (3, .int (nI i))] [] := by
  obtain ⟨⟨nc, np, nw, d, nt, nq, hR⟩, ⟨im, him1, eV5, eV4, hMk⟩, ⟨hV15, hV16, hV18⟩, hSh, ⟨tn, h26, e26⟩⟩ := id hI
  have him3 : im ≤ 3000 := by omega
  refine n_aload_n C 1 dL_law_274 rfl ?_
  refine n_aload_n C 0 dL_law_275 rfl ?_
  refine n_iload_n C 3 dL_law_276 rfl ?_
  refine n_iconst C (v := (nI 1)) dL_law_277 (by decide) ?_
  refine n_iaddN C dL_law_278 ?_
  refine l_sld C hX hbl hbA (i + 1) (by omega) (by omega) dL_law_279 ?_
  refine n_aload_n C 0 dL_law_280 rfl ?_
  refine n_iload_n C 3 dL_law_281 rfl ?_
  refine n_iconst C (v := (nI 2)) dL_law_282 (by decide) ?_
  refine n_iaddN C dL_law_283 ?_
  refine l_sld C hX hbl hbA (i + 2) (by omega) (by omega) dL_law_284 ?_
  refine l_callC (As := [.int (xs (i + 1)), .int (xs (i + 2))]) (rest := []) C hO vl_23 ((k_ofCell hR hC).o) ⟨0, 11, _, _, rfl, rfl, rfl⟩ rfl (Nat.le_of_ble_eq_true rfl) dL_law_285 ⟨Nat.le_of_ble_eq_true rfl, Nat.le_of_ble_eq_true rfl⟩ ⟨Nat.le_of_ble_eq_true rfl, Nat.le_of_ble_eq_true rfl⟩ ?_
  rintro r1 κ1 ⟨e1, hC1⟩
  refine n_aload_n C 2 dL_law_288 rfl ?_
  refine n_aload_n C 0 dL_law_289 rfl ?_
  refine n_iload_n C 3 dL_law_290 rfl ?_
  refine n_iconst C (v := (nI 1)) dL_law_291 (by decide) ?_
  refine n_iaddN C dL_law_292 ?_
  refine l_sld C hX hbl hbA (i + 1) (by omega) (by omega) dL_law_293 ?_
  refine n_aload_n C 0 dL_law_294 rfl ?_
  refine n_iload_n C 3 dL_law_295 rfl ?_
  refine n_iconst C (v := (nI 2)) dL_law_296 (by decide) ?_
  refine n_iaddN C dL_law_297 ?_
  refine l_sld C hX hbl hbA (i + 2) (by omega) (by omega) dL_law_298 ?_
  refine l_callM (As := [.int (xs (i + 1)), .int (xs (i + 2))]) (rest := [.int r1]) C vl_27 (c_ofCell hR) rRcv rfl (Nat.le_of_ble_eq_true rfl) dL_law_299 ⟨Nat.le_of_ble_eq_true rfl, Nat.le_of_ble_eq_true rfl⟩ ⟨Nat.le_of_ble_eq_true rfl, Nat.le_of_ble_eq_true rfl⟩ ?_
  rintro r2 σ1 ⟨e2, hE⟩
  refine n_icmp_eq C 1498 dL_law_302 (by decide) (fun c_ => ?_) (fun c_ => ?_)
  · exact kk σ1 κ1 ((ri_ofCell hI).eq hE) (hC1.eq hE)
  · exact absurd (e1.trans e2.symm) c_
theorem dL_law_307 : decode cL_law 307 = .ok (.aload_n 1, 1) := by decide +kernel
theorem dL_law_308 : decode cL_law 308 = .ok (.aload_n 0, 1) := by decide +kernel
theorem dL_law_309 : decode cL_law 309 = .ok (.iload_n 3, 1) := by decide +kernel
theorem dL_law_310 : decode cL_law 310 = .ok (.iconst 1, 1) := by decide +kernel
theorem dL_law_311 : decode cL_law 311 = .ok (.iadd, 1) := by decide +kernel
theorem dL_law_312 : decode cL_law 312 = .ok (.iaload, 1) := by decide +kernel
theorem dL_law_313 : decode cL_law 313 = .ok (.aload_n 0, 1) := by decide +kernel
theorem dL_law_314 : decode cL_law 314 = .ok (.iload_n 3, 1) := by decide +kernel
theorem dL_law_315 : decode cL_law 315 = .ok (.iconst 2, 1) := by decide +kernel
theorem dL_law_316 : decode cL_law 316 = .ok (.iadd, 1) := by decide +kernel
theorem dL_law_317 : decode cL_law 317 = .ok (.iaload, 1) := by decide +kernel
theorem dL_law_318 : decode cL_law 318 = .ok (.invokevirtual 28, 3) := by decide +kernel
theorem dL_law_321 : decode cL_law 321 = .ok (.aload_n 2, 1) := by decide +kernel
theorem dL_law_322 : decode cL_law 322 = .ok (.aload_n 0, 1) := by decide +kernel
theorem dL_law_323 : decode cL_law 323 = .ok (.iload_n 3, 1) := by decide +kernel
theorem dL_law_324 : decode cL_law 324 = .ok (.iconst 1, 1) := by decide +kernel
theorem dL_law_325 : decode cL_law 325 = .ok (.iadd, 1) := by decide +kernel
theorem dL_law_326 : decode cL_law 326 = .ok (.iaload, 1) := by decide +kernel
theorem dL_law_327 : decode cL_law 327 = .ok (.aload_n 0, 1) := by decide +kernel
theorem dL_law_328 : decode cL_law 328 = .ok (.iload_n 3, 1) := by decide +kernel
theorem dL_law_329 : decode cL_law 329 = .ok (.iconst 2, 1) := by decide +kernel
theorem dL_law_330 : decode cL_law 330 = .ok (.iadd, 1) := by decide +kernel
theorem dL_law_331 : decode cL_law 331 = .ok (.iaload, 1) := by decide +kernel
theorem dL_law_332 : decode cL_law 332 = .ok (.invokevirtual 31, 3) := by decide +kernel
theorem dL_law_335 : decode cL_law 335 = .ok (.if_icmp .eq 1163, 3) := by decide +kernel
theorem dL_law_338 : decode cL_law 338 = .ok (.iconst 0, 1) := by decide +kernel
theorem dL_law_339 : decode cL_law 339 = .ok (.ireturn, 1) := by decide +kernel
theorem vl_28 : VW R_law 28 yX11_person cX11_person 3 (some .int) 2 := ⟨gw 400 (by decide +kernel) rfl, gw 397 (by decide +kernel) rfl, gw 398 (by decide +kernel) rfl, gw 399 (by decide +kernel) rfl, gw 83 (by decide +kernel) rfl, by decide +kernel, by decide⟩
theorem vl_31 : VW R_law 31 yX12_person cX12_person 4 (some .int) 2 := ⟨gw 1113 (by decide +kernel) rfl, gw 1110 (by decide +kernel) rfl, gw 1111 (by decide +kernel) rfl, gw 1112 (by decide +kernel) rfl, gw 96 (by decide +kernel) rfl, by decide +kernel, by decide⟩
set_option maxHeartbeats 2000000 in
set_option maxRecDepth 20000 in
theorem lc_person {p : Program} {l : Launch} {e : Env} {s : State} {m : MethodId} {below : List Frame} {meth : Method} {c : Code} {Q : State → Prop} {D : va_G} {A : Nat → Prop} {cI cG cW : ClassId} {o : Nat} {qR q : Nat → Nat} {O : Ou} {b Ln : Nat} {xs : Nat → Int32} (C : Cx p s m #[Value.ref b] meth c code 4 R_law ret D (tyL cI cG cW) A) (hO : OUT O A s s.heap) (hX : va_X b Ln xs s s.heap) (hbl : b < s.heap.size) (hbA : ¬ A b) (hL : Ln ≤ 3072) {i M : Nat} (hi : i + 6 ≤ Ln) {V row kept tried bf fd pk bo so sh mv tr : Nat → Int32} {S : Nat → Int32} {X : Nat → Nat → Int32} {P : Nat → Nat} (hI : RI M (sR V row kept tried bf fd pk bo so sh mv tr)) (hC : CR (S, X, P) (sR V row kept tried bf fd pk bo so sh mv tr)) (hM : M < 3000) (kk : ∀ (σ' : RS) (κ' : CS), RI (M + 1) σ' → CR κ' σ' → JN p l e room_1 s m #[Value.ref b] below meth c Q 4 D A 103 2575 (Wl cI cG cW o qR q) (σ', κ') 1498 [(0, .ref b), (1, .ref (q 0)), (2, .ref o), (3, .int (nI i))] []) : JN p l e room_1 s m #[Value.ref b] below meth c Q 4 D A 103 2575 (Wl cI cG cW o qR q) (sR V row kept tried bf fd pk bo so sh mv tr, (S, X, P)) 307 [(0, .ref b), (1, .ref (q 0)), (2, .ref o), (3, .int (nI i))] [] := by
  obtain ⟨⟨nc, np, nw, d, nt, nq, hR⟩, ⟨im, him1, eV5, eV4, hMk⟩, ⟨hV15, hV16, hV18⟩, hSh, ⟨tn, h26, e26⟩⟩ := id hI
  have him3 : im ≤ 3000 := by omega
  refine n_aload_n C 1 dL_law_307 rfl ?_
  refine n_aload_n C 0 dL_law_308 rfl ?_
  refine n_iload_n C 3 dL_law_309 rfl ?_
  refine n_iconst C (v := (nI 1)) dL_law_310 (by decide) ?_
  refine n_iaddN C dL_law_311 ?_
  refine l_sld C hX hbl hbA (i + 1) (by omega) (by omega) dL_law_312 ?_
  refine n_aload_n C 0 dL_law_313 rfl ?_
  refine n_iload_n C 3 dL_law_314 rfl ?_
  refine n_iconst C (v := (nI 2)) dL_law_315 (by decide) ?_
  refine n_iaddN C dL_law_316 ?_
  refine l_sld C hX hbl hbA (i + 2) (by omega) (by omega) dL_law_317 ?_
  refine l_callC (As := [.int (xs (i + 1)), .int (xs (i + 2))]) (rest := []) C hO vl_28 ((k_person hR hC).o) ⟨0, 11, _, _, rfl, rfl, rfl⟩ rfl (Nat.le_of_ble_eq_true rfl) dL_law_318 ⟨Nat.le_of_ble_eq_true rfl, Nat.le_of_ble_eq_true rfl⟩ ⟨Nat.le_of_ble_eq_true rfl, Nat.le_of_ble_eq_true rfl⟩ ?_
  rintro r1 κ1 ⟨e1, hC1⟩
  refine n_aload_n C 2 dL_law_321 rfl ?_
  refine n_aload_n C 0 dL_law_322 rfl ?_
  refine n_iload_n C 3 dL_law_323 rfl ?_
  refine n_iconst C (v := (nI 1)) dL_law_324 (by decide) ?_
  refine n_iaddN C dL_law_325 ?_
  refine l_sld C hX hbl hbA (i + 1) (by omega) (by omega) dL_law_326 ?_
  refine n_aload_n C 0 dL_law_327 rfl ?_
  refine n_iload_n C 3 dL_law_328 rfl ?_
  refine n_iconst C (v := (nI 2)) dL_law_329 (by decide) ?_
  refine n_iaddN C dL_law_330 ?_
  refine l_sld C hX hbl hbA (i + 2) (by omega) (by omega) dL_law_331 ?_
  refine l_callM (As := [.int (xs (i + 1)), .int (xs (i + 2))]) (rest := [.int r1]) C vl_31 (c_person hR) rRcv rfl (Nat.le_of_ble_eq_true rfl) dL_law_332 ⟨Nat.le_of_ble_eq_true rfl, Nat.le_of_ble_eq_true rfl⟩ ⟨Nat.le_of_ble_eq_true rfl, Nat.le_of_ble_eq_true rfl⟩ ?_
  rintro r2 σ1 ⟨e2, hE⟩
  refine n_icmp_eq C 1498 dL_law_335 (by decide) (fun c_ => ?_) (fun c_ => ?_)
  · exact kk σ1 κ1 ((ri_person hI).eq hE) (hC1.eq hE)
  · exact absurd (e1.trans e2.symm) c_
theorem dL_law_340 : decode cL_law 340 = .ok (.aload_n 1, 1) := by decide +kernel
theorem dL_law_341 : decode cL_law 341 = .ok (.aload_n 0, 1) := by decide +kernel
theorem dL_law_342 : decode cL_law 342 = .ok (.iload_n 3, 1) := by decide +kernel
theorem dL_law_343 : decode cL_law 343 = .ok (.iconst 1, 1) := by decide +kernel
theorem dL_law_344 : decode cL_law 344 = .ok (.iadd, 1) := by decide +kernel
theorem dL_law_345 : decode cL_law 345 = .ok (.iaload, 1) := by decide +kernel
theorem dL_law_346 : decode cL_law 346 = .ok (.aload_n 0, 1) := by decide +kernel
theorem dL_law_347 : decode cL_law 347 = .ok (.iload_n 3, 1) := by decide +kernel
theorem dL_law_348 : decode cL_law 348 = .ok (.iconst 2, 1) := by decide +kernel
theorem dL_law_349 : decode cL_law 349 = .ok (.iadd, 1) := by decide +kernel
theorem dL_law_350 : decode cL_law 350 = .ok (.iaload, 1) := by decide +kernel
theorem dL_law_351 : decode cL_law 351 = .ok (.invokevirtual 32, 3) := by decide +kernel
theorem dL_law_354 : decode cL_law 354 = .ok (.aload_n 2, 1) := by decide +kernel
theorem dL_law_355 : decode cL_law 355 = .ok (.aload_n 0, 1) := by decide +kernel
theorem dL_law_356 : decode cL_law 356 = .ok (.iload_n 3, 1) := by decide +kernel
theorem dL_law_357 : decode cL_law 357 = .ok (.iconst 1, 1) := by decide +kernel
theorem dL_law_358 : decode cL_law 358 = .ok (.iadd, 1) := by decide +kernel
theorem dL_law_359 : decode cL_law 359 = .ok (.iaload, 1) := by decide +kernel
theorem dL_law_360 : decode cL_law 360 = .ok (.aload_n 0, 1) := by decide +kernel
theorem dL_law_361 : decode cL_law 361 = .ok (.iload_n 3, 1) := by decide +kernel
theorem dL_law_362 : decode cL_law 362 = .ok (.iconst 2, 1) := by decide +kernel
theorem dL_law_363 : decode cL_law 363 = .ok (.iadd, 1) := by decide +kernel
theorem dL_law_364 : decode cL_law 364 = .ok (.iaload, 1) := by decide +kernel
theorem dL_law_365 : decode cL_law 365 = .ok (.invokevirtual 35, 3) := by decide +kernel
theorem dL_law_368 : decode cL_law 368 = .ok (.if_icmp .eq 1130, 3) := by decide +kernel
theorem dL_law_371 : decode cL_law 371 = .ok (.iconst 0, 1) := by decide +kernel
theorem dL_law_372 : decode cL_law 372 = .ok (.ireturn, 1) := by decide +kernel
theorem vl_32 : VW R_law 32 yX11_ofPerson cX11_ofPerson 4 (some .int) 2 := ⟨gw 408 (by decide +kernel) rfl, gw 405 (by decide +kernel) rfl, gw 406 (by decide +kernel) rfl, gw 407 (by decide +kernel) rfl, gw 83 (by decide +kernel) rfl, by decide +kernel, by decide⟩
theorem vl_35 : VW R_law 35 yX12_ofPerson cX12_ofPerson 3 (some .int) 2 := ⟨gw 1122 (by decide +kernel) rfl, gw 1119 (by decide +kernel) rfl, gw 1120 (by decide +kernel) rfl, gw 1121 (by decide +kernel) rfl, gw 96 (by decide +kernel) rfl, by decide +kernel, by decide⟩
set_option maxHeartbeats 2000000 in
set_option maxRecDepth 20000 in
theorem lc_ofPerson {p : Program} {l : Launch} {e : Env} {s : State} {m : MethodId} {below : List Frame} {meth : Method} {c : Code} {Q : State → Prop} {D : va_G} {A : Nat → Prop} {cI cG cW : ClassId} {o : Nat} {qR q : Nat → Nat} {O : Ou} {b Ln : Nat} {xs : Nat → Int32} (C : Cx p s m #[Value.ref b] meth c code 4 R_law ret D (tyL cI cG cW) A) (hO : OUT O A s s.heap) (hX : va_X b Ln xs s s.heap) (hbl : b < s.heap.size) (hbA : ¬ A b) (hL : Ln ≤ 3072) {i M : Nat} (hi : i + 6 ≤ Ln) {V row kept tried bf fd pk bo so sh mv tr : Nat → Int32} {S : Nat → Int32} {X : Nat → Nat → Int32} {P : Nat → Nat} (hI : RI M (sR V row kept tried bf fd pk bo so sh mv tr)) (hC : CR (S, X, P) (sR V row kept tried bf fd pk bo so sh mv tr)) (hM : M < 3000) (kk : ∀ (σ' : RS) (κ' : CS), RI (M + 1) σ' → CR κ' σ' → JN p l e room_1 s m #[Value.ref b] below meth c Q 4 D A 103 2575 (Wl cI cG cW o qR q) (σ', κ') 1498 [(0, .ref b), (1, .ref (q 0)), (2, .ref o), (3, .int (nI i))] []) : JN p l e room_1 s m #[Value.ref b] below meth c Q 4 D A 103 2575 (Wl cI cG cW o qR q) (sR V row kept tried bf fd pk bo so sh mv tr, (S, X, P)) 340 [(0, .ref b), (1, .ref (q 0)), (2, .ref o), (3, .int (nI i))] [] := by
  obtain ⟨⟨nc, np, nw, d, nt, nq, hR⟩, ⟨im, him1, eV5, eV4, hMk⟩, ⟨hV15, hV16, hV18⟩, hSh, ⟨tn, h26, e26⟩⟩ := id hI
  have him3 : im ≤ 3000 := by omega
  refine n_aload_n C 1 dL_law_340 rfl ?_
  refine n_aload_n C 0 dL_law_341 rfl ?_
  refine n_iload_n C 3 dL_law_342 rfl ?_
  refine n_iconst C (v := (nI 1)) dL_law_343 (by decide) ?_
  refine n_iaddN C dL_law_344 ?_
  refine l_sld C hX hbl hbA (i + 1) (by omega) (by omega) dL_law_345 ?_
  refine n_aload_n C 0 dL_law_346 rfl ?_
  refine n_iload_n C 3 dL_law_347 rfl ?_
  refine n_iconst C (v := (nI 2)) dL_law_348 (by decide) ?_
  refine n_iaddN C dL_law_349 ?_
  refine l_sld C hX hbl hbA (i + 2) (by omega) (by omega) dL_law_350 ?_
  refine l_callC (As := [.int (xs (i + 1)), .int (xs (i + 2))]) (rest := []) C hO vl_32 ((k_ofPerson hR hC hV15 hV16 hV18).o) ⟨0, 11, _, _, rfl, rfl, rfl⟩ rfl (Nat.le_of_ble_eq_true rfl) dL_law_351 ⟨Nat.le_of_ble_eq_true rfl, Nat.le_of_ble_eq_true rfl⟩ ⟨Nat.le_of_ble_eq_true rfl, Nat.le_of_ble_eq_true rfl⟩ ?_
  rintro r1 κ1 ⟨e1, hC1⟩
  refine n_aload_n C 2 dL_law_354 rfl ?_
  refine n_aload_n C 0 dL_law_355 rfl ?_
  refine n_iload_n C 3 dL_law_356 rfl ?_
  refine n_iconst C (v := (nI 1)) dL_law_357 (by decide) ?_
  refine n_iaddN C dL_law_358 ?_
  refine l_sld C hX hbl hbA (i + 1) (by omega) (by omega) dL_law_359 ?_
  refine n_aload_n C 0 dL_law_360 rfl ?_
  refine n_iload_n C 3 dL_law_361 rfl ?_
  refine n_iconst C (v := (nI 2)) dL_law_362 (by decide) ?_
  refine n_iaddN C dL_law_363 ?_
  refine l_sld C hX hbl hbA (i + 2) (by omega) (by omega) dL_law_364 ?_
  refine l_callM (As := [.int (xs (i + 1)), .int (xs (i + 2))]) (rest := [.int r1]) C vl_35 (c_ofPerson hR) rRcv rfl (Nat.le_of_ble_eq_true rfl) dL_law_365 ⟨Nat.le_of_ble_eq_true rfl, Nat.le_of_ble_eq_true rfl⟩ ⟨Nat.le_of_ble_eq_true rfl, Nat.le_of_ble_eq_true rfl⟩ ?_
  rintro r2 σ1 ⟨e2, hE⟩
  refine n_icmp_eq C 1498 dL_law_368 (by decide) (fun c_ => ?_) (fun c_ => ?_)
  · exact kk σ1 κ1 ((ri_ofPerson hI).eq hE) (hC1.eq hE)
  · exact absurd (e1.trans e2.symm) c_

/-! The law's loop, and its start. -/
theorem dL_law_0 : decode cL_law 0 = .ok (.new 7, 3) := by decide +kernel
theorem dL_law_3 : decode cL_law 3 = .ok (.dup, 1) := by decide +kernel
theorem dL_law_4 : decode cL_law 4 = .ok (.invokespecial 9, 3) := by decide +kernel
theorem dL_law_7 : decode cL_law 7 = .ok (.astore_n 1, 1) := by decide +kernel
theorem dL_law_8 : decode cL_law 8 = .ok (.new 10, 3) := by decide +kernel
theorem dL_law_11 : decode cL_law 11 = .ok (.dup, 1) := by decide +kernel
theorem dL_law_12 : decode cL_law 12 = .ok (.invokespecial 12, 3) := by decide +kernel
theorem dL_law_15 : decode cL_law 15 = .ok (.astore_n 2, 1) := by decide +kernel
theorem dL_law_16 : decode cL_law 16 = .ok (.iconst 0, 1) := by decide +kernel
theorem dL_law_17 : decode cL_law 17 = .ok (.istore_n 3, 1) := by decide +kernel
theorem dL_law_18 : decode cL_law 18 = .ok (.iload_n 3, 1) := by decide +kernel
theorem dL_law_19 : decode cL_law 19 = .ok (.aload_n 0, 1) := by decide +kernel
theorem dL_law_20 : decode cL_law 20 = .ok (.arraylength, 1) := by decide +kernel
theorem dL_law_21 : decode cL_law 21 = .ok (.bipush 6, 2) := by decide +kernel
theorem dL_law_23 : decode cL_law 23 = .ok (.isub, 1) := by decide +kernel
theorem dL_law_24 : decode cL_law 24 = .ok (.if_icmp .gt 1480, 3) := by decide +kernel
theorem dL_law_27 : decode cL_law 27 = .ok (.aload_n 0, 1) := by decide +kernel
theorem dL_law_28 : decode cL_law 28 = .ok (.iload_n 3, 1) := by decide +kernel
theorem dL_law_29 : decode cL_law 29 = .ok (.iaload, 1) := by decide +kernel
theorem dL_law_30 : decode cL_law 30 = .ok (.bipush 63, 2) := by decide +kernel
theorem dL_law_32 : decode cL_law 32 = .ok (.iand, 1) := by decide +kernel
theorem dL_law_33 : decode cL_law 33 = .ok (.tableswitch 1465 0 39 #[175, 198, 241, 274, 307, 340, 383, 416, 449, 492, 525, 548, 581, 644, 667, 720, 743, 766, 809, 832, 865, 888, 911, 954, 997, 1030, 1073, 1096, 1139, 1162, 1205, 1248, 1311, 1334, 1357, 1370, 1383, 1406, 1419, 1442], 175) := by decide +kernel
theorem dL_law_1498 : decode cL_law 1498 = .ok (.iinc 3 6, 3) := by decide +kernel
theorem dL_law_1501 : decode cL_law 1501 = .ok (.goto (-1483), 3) := by decide +kernel
theorem dL_law_1504 : decode cL_law 1504 = .ok (.iconst 1, 1) := by decide +kernel
theorem dL_law_1505 : decode cL_law 1505 = .ok (.ireturn, 1) := by decide +kernel
theorem clL_7 : Cond.classLink R_law 7 RX11 ∈ lw_g := gw 104 (by decide +kernel) rfl
theorem clL_10 : Cond.classLink R_law 10 RX12 ∈ lw_g := gw 975 (by decide +kernel) rfl
theorem iiL_9 : IW R_law 9 yX11_init cX11_init 5 0 := ⟨gw 108 (by decide +kernel) rfl, gw 106 (by decide +kernel) rfl, gw 107 (by decide +kernel) rfl, it11, by decide +kernel, by decide, rfl⟩
theorem iiL_12 : IW R_law 12 yX12_init cX12_init 2 0 := ⟨gw 979 (by decide +kernel) rfl, gw 977 (by decide +kernel) rfl, gw 978 (by decide +kernel) rfl, it12, by decide +kernel, by decide, rfl⟩
theorem lt6 {n i : Nat} (hn : n ≤ 3072) (hi : i ≤ 3080) : nI n - nI 6 < nI i ↔ n < i + 6 := by
  rw [Int32.lt_iff_toInt_lt, pk_sub_toInt (by omega) (by omega), nI_toInt (by omega)]; omega
theorem and_63 (x : Int32) : ∃ k, k < 64 ∧ x &&& nI 63 = nI k := by
  obtain ⟨y, hy⟩ : ∃ y, y = x &&& nI 63 := ⟨_, rfl⟩
  have h4 : y.toBitVec.toNat ≤ 63 := by
    rw [hy]
    show (x.toBitVec &&& 63#32).toNat ≤ 63
    rw [BitVec.toNat_and]; exact Nat.and_le_right
  rw [← hy]
  refine ⟨y.toBitVec.toNat, by omega, ?_⟩
  apply Int32.toBitVec_inj.mp
  apply BitVec.eq_of_toNat_eq
  show y.toBitVec.toNat = y.toBitVec.toNat % 2 ^ 32
  omega
theorem rex {D : va_G} {cs : List vw_C} {ws : va_W} {H : Heap} {i a n : Nat} {cA : ClassId} {f g : Nat → Option Nat} (hP : va_P D cs ws H) (h : ws[i]? = some (a, .inl (cA, n, .inr (.inr (.inr (.inr f)))))) (hfg : ∀ j, j < n → f j = g j) : va_P D cs (ws.set i (a, .inl (cA, n, .inr (.inr (.inr (.inr g)))))) H := by
  intro k x hx
  by_cases e : k = i
  · subst e
    have hl := (List.getElem?_eq_some_iff.mp h).1
    rw [List.getElem?_set_self hl] at hx
    cases hx
    have h1 := hP k _ h
    have h2 : vp_cell cA (n, .inr (.inr (.inr (.inr f)))) = vp_cell cA (n, .inr (.inr (.inr (.inr g)))) := by
      show arrV cA n (fun j => va_rf (f j)) = arrV cA n (fun j => va_rf (g j))
      unfold arrV
      congr 1
      congr 1
      funext j
      exact congrArg va_rf (hfg j.val j.isLt)
    show H[a]? = some (vp_cell cA (n, .inr (.inr (.inr (.inr g)))))
    rw [← h2]; exact h1
  · rw [List.getElem?_set_ne (fun h => e h.symm)] at hx; exact hP k x hx
theorem reD {A : Nat → Prop} {ws : va_W} {i a : Nat} {e e' : va_E} (hD : va_D A ws) (h : ws[i]? = some (a, e)) : va_D A (ws.set i (a, e')) := by
  have key : ∀ (k : Nat) (x : Nat × va_E), (ws.set i (a, e'))[k]? = some x → ∃ y, ws[k]? = some y ∧ y.1 = x.1 := by
    intro k x hx
    by_cases g : k = i
    · subst g
      rw [List.getElem?_set_self (List.getElem?_eq_some_iff.mp h).1] at hx
      cases hx; exact ⟨_, h, rfl⟩
    · rw [List.getElem?_set_ne (fun h => g h.symm)] at hx; exact ⟨x, hx, rfl⟩
  refine ⟨fun i j p q hi hj e => ?_, fun k x hx => ?_⟩
  · obtain ⟨y1, g1, g2⟩ := key i p hi
    obtain ⟨y2, g3, g4⟩ := key j q hj
    exact hD.1 i j y1 y2 g1 g3 (by rw [g2, g4]; exact e)
  · obtain ⟨y, g1, g2⟩ := key k x hx
    rw [← g2]; exact hD.2 k y g1
set_option maxHeartbeats 4000000 in
set_option maxRecDepth 20000 in
theorem lw_loop {p : Program} {l : Launch} {e : Env} {s : State} {m : MethodId} {below : List Frame} {meth : Method} {c : Code} {D : va_G} {cI cG cW : ClassId} {o : Nat} {qR q : Nat → Nat} {O : Ou} {b Ln : Nat} {xs : Nat → Int32} (C : Cx p s m #[Value.ref b] meth c code 4 R_law ret D (tyL cI cG cW) (fun q => s.heap.size ≤ q)) (hO : OUT O (fun q => s.heap.size ≤ q) s s.heap) (hX : va_X b Ln xs s s.heap) (hbl : b < s.heap.size) (hL : Ln ≤ 3072) (κ : CS) (hC : CR κ σ0) : JN p l e room_1 s m #[Value.ref b] below meth c (lw_Z below #[Value.ref b] s) 4 D (fun q => s.heap.size ≤ q) 103 2575 (Wl cI cG cW o qR q) (σ0, κ) 18 [(0, .ref b), (1, .ref (q 0)), (2, .ref o), (3, .int (nI 0))] [] := by
  have hbA : ¬ (fun q : Nat => s.heap.size ≤ q) b := Nat.not_le.mpr hbl
  refine n_loop (X := Nat × RS × CS) (fun z => 6 * z.1 ≤ Ln ∧ RI z.1 z.2.1 ∧ CR z.2.2 z.2.1) (fun z => Ln + 6 - 6 * z.1) (fun z => (z.2.1, z.2.2)) (fun z => [(0, .ref b), (1, .ref (q 0)), (2, .ref o), (3, .int (nI (6 * z.1)))]) (0, σ0, κ) ⟨Nat.zero_le _, RI_0, hC⟩ rfl rfl ?_
  rintro ⟨t, ⟨V, row, kept, tried, bf, fd, pk, bo, so, sh, mv, tr⟩, S, X, P⟩ ⟨ht, hI, hC⟩ ih
  dsimp only at ht hI hC ih ⊢
  refine n_iload_n C 3 dL_law_18 rfl ?_
  refine n_aload_n C 0 dL_law_19 rfl ?_
  refine l_slen C hX hbl hbA dL_law_20 ?_
  refine n_bipush C (v := (nI 6)) dL_law_21 (by decide) ?_
  refine n_isub C dL_law_23 ?_
  refine n_icmp_gt C 1504 dL_law_24 (by decide) (fun c24 => ?_) (fun c24 => ?_)
  · refine n_iconst C (v := 1) dL_law_1504 (by decide) ?_
    obtain ⟨hx, hb, hml, hown, hts, hK, hA, hr, hlocks⟩ := C
    intro H locs ls hP hD hS hl
    exact va_forget (fun q hq => hS.2.2 q hq) (W.widen (by decide) (by decide) (lw_ret hx hb hr hlocks dL_law_1505))
  · rw [lt6 hL (by omega)] at c24
    have kend : ∀ (σ' : RS) (κ' : CS), RI (t + 1) σ' → CR κ' σ' → JN p l e room_1 s m #[Value.ref b] below meth c (lw_Z below #[Value.ref b] s) 4 D (fun q => s.heap.size ≤ q) 103 2575 (Wl cI cG cW o qR q) (σ', κ') 1498 [(0, .ref b), (1, .ref (q 0)), (2, .ref o), (3, .int (nI (6 * t)))] [] := by
      intro σ' κ' g1 g2
      refine n_iinc C (v := nI (6 * t + 6)) 3 [(3, .int (nI (6 * t + 6))), (0, .ref b), (1, .ref (q 0)), (2, .ref o)] dL_law_1498 rfl (nI_add _ _) (by decide) rfl ?_
      refine n_goto C 18 dL_law_1501 (by decide) ?_
      refine n_L [1, 2, 3, 0] [(0, .ref b), (1, .ref (q 0)), (2, .ref o), (3, .int (nI (6 * (t + 1))))] rfl ?_
      exact ih (t + 1, σ', κ') ⟨by dsimp only; omega, g1, g2⟩ (by dsimp only; omega)
    refine n_aload_n C 0 dL_law_27 rfl ?_
    refine n_iload_n C 3 dL_law_28 rfl ?_
    refine l_sld C hX hbl hbA (6 * t) (by omega) (by omega) dL_law_29 ?_
    refine n_bipush C (v := (nI 63)) dL_law_30 (by decide) ?_
    refine n_iand C dL_law_32 ?_
    obtain ⟨k, hk, ek⟩ := and_63 (xs (6 * t))
    refine n_v (nI k) ek ?_
    by_cases h40 : k < 40
    · rcases (show k = 0 ∨ k = 1 ∨ k = 2 ∨ k = 3 ∨ k = 4 ∨ k = 5 ∨ k = 6 ∨ k = 7 ∨ k = 8 ∨ k = 9 ∨ k = 10 ∨ k = 11 ∨ k = 12 ∨ k = 13 ∨ k = 14 ∨ k = 15 ∨ k = 16 ∨ k = 17 ∨ k = 18 ∨ k = 19 ∨ k = 20 ∨ k = 21 ∨ k = 22 ∨ k = 23 ∨ k = 24 ∨ k = 25 ∨ k = 26 ∨ k = 27 ∨ k = 28 ∨ k = 29 ∨ k = 30 ∨ k = 31 ∨ k = 32 ∨ k = 33 ∨ k = 34 ∨ k = 35 ∨ k = 36 ∨ k = 37 ∨ k = 38 ∨ k = 39 by omega) with rfl | rfl | rfl | rfl | rfl | rfl | rfl | rfl | rfl | rfl | rfl | rfl | rfl | rfl | rfl | rfl | rfl | rfl | rfl | rfl | rfl | rfl | rfl | rfl | rfl | rfl | rfl | rfl | rfl | rfl | rfl | rfl | rfl | rfl | rfl | rfl | rfl | rfl | rfl | rfl
      · refine n_tblIn C (off := 175) 208 dL_law_33 (by decide) (by decide) (by decide) (by decide) ?_
        exact lc_field C hO hX hbl hbA hL (i := 6 * t) (by omega) hI hC (by omega) kend
      · refine n_tblIn C (off := 198) 231 dL_law_33 (by decide) (by decide) (by decide) (by decide) ?_
        exact lc_lay C hO hX hbl hbA hL (i := 6 * t) (by omega) hI hC (by omega) kend
      · refine n_tblIn C (off := 241) 274 dL_law_33 (by decide) (by decide) (by decide) (by decide) ?_
        exact lc_ofCell C hO hX hbl hbA hL (i := 6 * t) (by omega) hI hC (by omega) kend
      · refine n_tblIn C (off := 274) 307 dL_law_33 (by decide) (by decide) (by decide) (by decide) ?_
        exact lc_person C hO hX hbl hbA hL (i := 6 * t) (by omega) hI hC (by omega) kend
      · refine n_tblIn C (off := 307) 340 dL_law_33 (by decide) (by decide) (by decide) (by decide) ?_
        exact lc_ofPerson C hO hX hbl hbA hL (i := 6 * t) (by omega) hI hC (by omega) kend
      · refine n_tblIn C (off := 340) 373 dL_law_33 (by decide) (by decide) (by decide) (by decide) ?_
        exact lc_change C hO hX hbl hbA hL (i := 6 * t) (by omega) hI hC (by omega) kend
      · refine n_tblIn C (off := 383) 416 dL_law_33 (by decide) (by decide) (by decide) (by decide) ?_
        exact lc_become C hO hX hbl hbA hL (i := 6 * t) (by omega) hI hC (by omega) kend
      · refine n_tblIn C (off := 416) 449 dL_law_33 (by decide) (by decide) (by decide) (by decide) ?_
        exact lc_as C hO hX hbl hbA hL (i := 6 * t) (by omega) hI hC (by omega) kend
      · refine n_tblIn C (off := 449) 482 dL_law_33 (by decide) (by decide) (by decide) (by decide) ?_
        exact lc_wrong C hO hX hbl hbA hL (i := 6 * t) (by omega) hI hC (by omega) kend
      · refine n_tblIn C (off := 492) 525 dL_law_33 (by decide) (by decide) (by decide) (by decide) ?_
        exact lc_ofWrong C hO hX hbl hbA hL (i := 6 * t) (by omega) hI hC (by omega) kend
      · refine n_tblIn C (off := 525) 558 dL_law_33 (by decide) (by decide) (by decide) (by decide) ?_
        exact lc_forgive C hO hX hbl hbA hL (i := 6 * t) (by omega) hI hC (by omega) kend
      · refine n_tblIn C (off := 548) 581 dL_law_33 (by decide) (by decide) (by decide) (by decide) ?_
        exact lc_borrow C hO hX hbl hbA hL (i := 6 * t) (by omega) hI hC (by omega) kend
      · refine n_tblIn C (off := 581) 614 dL_law_33 (by decide) (by decide) (by decide) (by decide) ?_
        exact lc_feed C hO hX hbl hbA hL (i := 6 * t) (by omega) hI hC (by omega) kend
      · refine n_tblIn C (off := 644) 677 dL_law_33 (by decide) (by decide) (by decide) (by decide) ?_
        exact lc_text C hO hX hbl hbA hL (i := 6 * t) (by omega) hI hC (by omega) kend
      · refine n_tblIn C (off := 667) 700 dL_law_33 (by decide) (by decide) (by decide) (by decide) ?_
        exact lc_law C hO hX hbl hbA hL (i := 6 * t) (by omega) hI hC (by omega) kend
      · refine n_tblIn C (off := 720) 753 dL_law_33 (by decide) (by decide) (by decide) (by decide) ?_
        exact lc_dawns C hO hX hbl hbA hL (i := 6 * t) (by omega) hI hC (by omega) kend
      · refine n_tblIn C (off := 743) 776 dL_law_33 (by decide) (by decide) (by decide) (by decide) ?_
        exact lc_loose C hO hX hbl hbA hL (i := 6 * t) (by omega) hI hC (by omega) kend
      · refine n_tblIn C (off := 766) 799 dL_law_33 (by decide) (by decide) (by decide) (by decide) ?_
        exact lc_then C hO hX hbl hbA hL (i := 6 * t) (by omega) hI hC (by omega) kend
      · refine n_tblIn C (off := 809) 842 dL_law_33 (by decide) (by decide) (by decide) (by decide) ?_
        exact lc_upright C hO hX hbl hbA hL (i := 6 * t) (by omega) hI hC (by omega) kend
      · refine n_tblIn C (off := 832) 865 dL_law_33 (by decide) (by decide) (by decide) (by decide) ?_
        exact lc_adds C hO hX hbl hbA hL (i := 6 * t) (by omega) hI hC (by omega) kend
      · refine n_tblIn C (off := 865) 898 dL_law_33 (by decide) (by decide) (by decide) (by decide) ?_
        exact lc_pardons C hO hX hbl hbA hL (i := 6 * t) (by omega) hI hC (by omega) kend
      · refine n_tblIn C (off := 888) 921 dL_law_33 (by decide) (by decide) (by decide) (by decide) ?_
        exact lc_starves C hO hX hbl hbA hL (i := 6 * t) (by omega) hI hC (by omega) kend
      · refine n_tblIn C (off := 911) 944 dL_law_33 (by decide) (by decide) (by decide) (by decide) ?_
        exact lc_best C hO hX hbl hbA hL (i := 6 * t) (by omega) hI hC (by omega) kend
      · refine n_tblIn C (off := 954) 987 dL_law_33 (by decide) (by decide) (by decide) (by decide) ?_
        exact lc_brings C hO hX hbl hbA hL (i := 6 * t) (by omega) hI hC (by omega) kend
      · refine n_tblIn C (off := 997) 1030 dL_law_33 (by decide) (by decide) (by decide) (by decide) ?_
        exact lc_shares C hO hX hbl hbA hL (i := 6 * t) (by omega) hI hC (by omega) kend
      · refine n_tblIn C (off := 1030) 1063 dL_law_33 (by decide) (by decide) (by decide) (by decide) ?_
        exact lc_odds C hO hX hbl hbA hL (i := 6 * t) (by omega) hI hC (by omega) kend
      · refine n_tblIn C (off := 1073) 1106 dL_law_33 (by decide) (by decide) (by decide) (by decide) ?_
        exact lc_seed C hO hX hbl hbA hL (i := 6 * t) (by omega) hI hC (by omega) kend
      · refine n_tblIn C (off := 1096) 1129 dL_law_33 (by decide) (by decide) (by decide) (by decide) ?_
        exact lc_voice C hO hX hbl hbA hL (i := 6 * t) (by omega) hI hC (by omega) kend
      · refine n_tblIn C (off := 1139) 1172 dL_law_33 (by decide) (by decide) (by decide) (by decide) ?_
        exact lc_trace C hO hX hbl hbA hL (i := 6 * t) (by omega) hI hC (by omega) kend
      · refine n_tblIn C (off := 1162) 1195 dL_law_33 (by decide) (by decide) (by decide) (by decide) ?_
        exact lc_sheet C hO hX hbl hbA hL (i := 6 * t) (by omega) hI hC (by omega) kend
      · refine n_tblIn C (off := 1205) 1238 dL_law_33 (by decide) (by decide) (by decide) (by decide) ?_
        exact lc_put C hO hX hbl hbA hL (i := 6 * t) (by omega) hI hC (by omega) kend
      · refine n_tblIn C (off := 1248) 1281 dL_law_33 (by decide) (by decide) (by decide) (by decide) ?_
        exact lc_move C hO hX hbl hbA hL (i := 6 * t) (by omega) hI hC (by omega) kend
      · refine n_tblIn C (off := 1311) 1344 dL_law_33 (by decide) (by decide) (by decide) (by decide) ?_
        exact lc_ears C hO hX hbl hbA hL (i := 6 * t) (by omega) hI hC (by omega) kend
      · refine n_tblIn C (off := 1334) 1367 dL_law_33 (by decide) (by decide) (by decide) (by decide) ?_
        exact lc_judge C hO hX hbl hbA hL (i := 6 * t) (by omega) hI hC (by omega) kend
      · refine n_tblIn C (off := 1357) 1390 dL_law_33 (by decide) (by decide) (by decide) (by decide) ?_
        exact lc_image C hO hX hbl hbA hL (i := 6 * t) (by omega) hI hC (by omega) kend
      · refine n_tblIn C (off := 1370) 1403 dL_law_33 (by decide) (by decide) (by decide) (by decide) ?_
        exact lc_restore C hO hX hbl hbA hL (i := 6 * t) (by omega) hI hC (by omega) kend
      · refine n_tblIn C (off := 1383) 1416 dL_law_33 (by decide) (by decide) (by decide) (by decide) ?_
        exact lc_tell C hO hX hbl hbA hL (i := 6 * t) (by omega) hI hC (by omega) kend
      · refine n_tblIn C (off := 1406) 1439 dL_law_33 (by decide) (by decide) (by decide) (by decide) ?_
        exact lc_check C hO hX hbl hbA hL (i := 6 * t) (by omega) hI hC (by omega) kend
      · refine n_tblIn C (off := 1419) 1452 dL_law_33 (by decide) (by decide) (by decide) (by decide) ?_
        exact lc_count C hO hX hbl hbA hL (i := 6 * t) (by omega) hI hC (by omega) kend
      · refine n_tblIn C (off := 1442) 1475 dL_law_33 (by decide) (by decide) (by decide) (by decide) ?_
        exact lc_told C hO hX hbl hbA hL (i := 6 * t) (by omega) hI hC (by omega) kend
    · refine n_tblOut C 1498 dL_law_33 (Or.inr (by rw [nI_toInt (by omega)]; omega)) (by decide) ?_
      exact kend _ _ hI.up hC
theorem n_to {p : Program} {l : Launch} {e : Env} {R : Room} {s : State} {m : MethodId} {args : Array Value} {below : List Frame} {meth : Method} {c : Code} {Q : State → Prop} {nL : Nat} {D : va_G} {A : Nat → Prop} {cl sl : Nat} {S : Type} {Wd : S → va_W} {ws : va_W} {pc : Nat} {L : List (Nat × Value)} {st : List Value} (z : S) (is : List Nat) (h1 : va_nd is = true) (h3 : is.map (fun i => ws[i]?) = (Wd z).map some) (kk : JN p l e R s m args below meth c Q nL D A cl sl Wd z pc L st) : JN p l e R s m args below meth c Q nL D A cl sl (fun w : va_W => w) ws pc L st := by
  intro H locs ls hP hD hS hl
  refine kk H locs ls (fun k x hx => ?_) (hD.sub is h1 h3) hS hl
  have h4 : (is.map (fun i => ws[i]?))[k]? = some (some x) := by rw [h3, List.getElem?_map, hx]; rfl
  rw [List.getElem?_map] at h4
  cases h5 : is[k]? with
  | none => rw [h5] at h4; cases h4
  | some j =>
    rw [h5] at h4
    exact hP j x (Option.some.inj h4)
theorem n_rex {p : Program} {l : Launch} {e : Env} {R : Room} {s : State} {m : MethodId} {args : Array Value} {below : List Frame} {meth : Method} {c : Code} {Q : State → Prop} {nL : Nat} {D : va_G} {A : Nat → Prop} {cl sl : Nat} {ws : va_W} {pc : Nat} {L : List (Nat × Value)} {st : List Value} (i : Nat) {a n : Nat} {cA : ClassId} {f : Nat → Option Nat} (g : Nat → Option Nat) (h : ws[i]? = some (a, .inl (cA, n, .inr (.inr (.inr (.inr f)))))) (hfg : ∀ j, j < n → f j = g j) (ws' : va_W) (h2 : ws.set i (a, .inl (cA, n, .inr (.inr (.inr (.inr g))))) = ws') (kk : JN p l e R s m args below meth c Q nL D A cl sl (fun w : va_W => w) ws' pc L st) : JN p l e R s m args below meth c Q nL D A cl sl (fun w : va_W => w) ws pc L st := by
  intro H locs ls hP hD hS hl
  subst h2
  exact kk H locs ls (rex hP h hfg) (reD hD h) hS hl

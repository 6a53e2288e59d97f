/-! The class's public calls: sheets. -/
theorem dX11_lowestBits_0 : decode cX11_lowestBits 0 = .ok (.iload_n 0, 1) := by decide +kernel
theorem dX11_lowestBits_1 : decode cX11_lowestBits 1 = .ok (.lookupswitch 33 #[(8, 27), (16, 30)], 27) := by decide +kernel
theorem dX11_lowestBits_28 : decode cX11_lowestBits 28 = .ok (.iload_n 1, 1) := by decide +kernel
theorem dX11_lowestBits_29 : decode cX11_lowestBits 29 = .ok (.i2b, 1) := by decide +kernel
theorem dX11_lowestBits_30 : decode cX11_lowestBits 30 = .ok (.ireturn, 1) := by decide +kernel
theorem dX11_lowestBits_31 : decode cX11_lowestBits 31 = .ok (.iload_n 1, 1) := by decide +kernel
theorem dX11_lowestBits_32 : decode cX11_lowestBits 32 = .ok (.i2s, 1) := by decide +kernel
theorem dX11_lowestBits_33 : decode cX11_lowestBits 33 = .ok (.ireturn, 1) := by decide +kernel
theorem dX11_lowestBits_34 : decode cX11_lowestBits 34 = .ok (.iload_n 1, 1) := by decide +kernel
theorem dX11_lowestBits_35 : decode cX11_lowestBits 35 = .ok (.ireturn, 1) := by decide +kernel
set_option maxHeartbeats 2000000 in
set_option maxRecDepth 20000 in
theorem h_lowestBits {l : Launch} {D : va_G} {cI cG cW : ClassId} {q : Nat → Nat} {S : Nat → Int32} {X : Nat → Nat → Int32} {P : Nat → Nat} {b v : Int32} : Ci l yX11_lowestBits cX11_lowestBits 2 (some .int) 0 D (tyL cI cG cW) (wC cI cG cW q) [.int b, .int v] (S, X, P) (fun r τ => r = narF b v ∧ τ = (S, X, P)) := by
  refine Ci.of (by decide) (Nat.le_of_ble_eq_true rfl) ?_
  intro p_ e_ s_ m_ b_ M_ c_ A_ C
  replace C : Cx _ _ _ _ _ _ _ _ RX11 _ _ _ _ := C
  refine j_L [0, 1] [(0, .int b), (1, .int v)] rfl ?_
  by_cases h8 : b = nI 8
  · subst h8
    refine j_iload_n C 0 dX11_lowestBits_0 rfl ?_
    · refine j_lookup C (off := 27) 28 dX11_lowestBits_1 (by decide) (by decide) (by decide) ?_
      refine j_iload_n C 1 dX11_lowestBits_28 rfl ?_
      refine j_i2b C dX11_lowestBits_29 ?_
      refine j_iret C dX11_lowestBits_30 ?_
      refine ⟨?_, rfl⟩
      unfold narF
      rw [if_pos rfl]
  · by_cases h16 : b = nI 16
    · subst h16
      refine j_iload_n C 0 dX11_lowestBits_0 rfl ?_
      · refine j_lookup C (off := 30) 31 dX11_lowestBits_1 (by decide) (by decide) (by decide) ?_
        refine j_iload_n C 1 dX11_lowestBits_31 rfl ?_
        refine j_i2s C dX11_lowestBits_32 ?_
        refine j_iret C dX11_lowestBits_33 ?_
        refine ⟨?_, rfl⟩
        unfold narF
        rw [if_neg (by decide), if_pos rfl]
    · refine j_iload_n C 0 dX11_lowestBits_0 rfl ?_
      refine j_lookup C (off := 33) 34 dX11_lowestBits_1 (by decide) (show Op.lookupswitch.offset [(8, 27), (16, 30)] 33 _ = _ from by rw [lv_osw h8 (by decide), lv_osw h16 (by decide)]; rfl) (by decide) ?_
      refine j_iload_n C 1 dX11_lowestBits_34 rfl ?_
      refine j_iret C dX11_lowestBits_35 ?_
      refine ⟨?_, rfl⟩
      unfold narF
      rw [if_neg h8, if_neg h16]
theorem CR.put {S : Nat → Int32} {X : Nat → Nat → Int32} {P : Nat → Nat} {V row kept tried bf fd pk bo so sh mv tr : Nat → Int32} (h : CR (S, X, P) (sR V row kept tried bf fd pk bo so sh mv tr)) (hSh : ∀ s, s < 4 → (bo s = nI 0 ∨ bo s = nI 8 ∨ bo s = nI 16 ∨ bo s = nI 32) ∧ ∃ n, n ≤ 40 ∧ so s = nI n) (s : Nat) (hs : s < 4) (i : Nat) (hi : i < 40) (v : Int32) : CR (S, va_up X (82 + s) (upd (X (82 + s)) i v), P) (sR V row kept tried bf fd pk bo so (upd sh (40 * s + i) v) mv tr) := by
  refine ⟨?_, h.kp.oth (by omega) (by omega), h.l0.oth (by omega), h.l1.oth (by omega), fun g => ?_, h.ims, fun j hj => ?_, h.bsz, fun j hj => ?_, fun a ha => ?_, h.shs, fun a ha j hj => ?_⟩
  · show CF S (va_up X (82 + s) _) 0 row (va_up X (82 + s) _ 44) _ _
    rw [va_n (by omega)]; exact CF.oth h.fld (by omega)
  · obtain ⟨a, b, c, d⟩ := h.img g
    refine ⟨?_, b.oth (by omega) (by omega), c.oth (by omega), d.oth (by omega)⟩
    show CF S (va_up X (82 + s) _) 1 kept (va_up X (82 + s) _ 54) _ _
    rw [va_n (by omega)]; exact CF.oth a (by omega)
  · show va_up X (82 + s) _ 35 j = _
    rw [va_n (by omega)]; exact h.err j hj
  · show va_up X (82 + s) _ 81 j = _
    rw [va_n (by omega)]; exact h.bod j hj
  · show va_up X (82 + s) _ 34 a = _
    rw [va_n (by omega)]; exact h.shb a ha
  · show va_up X (82 + s) _ (82 + a) j = _
    obtain ⟨-, n, hn, en⟩ := hSh a ha
    have hj2 : j < n := by rw [en, tN_nI (by omega)] at hj; exact hj
    by_cases e : a = s
    · subst e
      rw [va_s]
      by_cases e2 : j = i
      · subst e2; rw [pk_us, pk_us]
      · rw [pk_un e2, pk_un (by omega)]; exact h.shi a ha j hj
    · rw [va_n (by omega), pk_un (by omega)]; exact h.shi a ha j hj
theorem dX11_put_0 : decode cX11_put 0 = .ok (.iload_n 1, 1) := by decide +kernel
theorem dX11_put_1 : decode cX11_put 1 = .ok (.invokestatic 246, 3) := by decide +kernel
theorem dX11_put_4 : decode cX11_put 4 = .ok (.ifCond .ne 9, 3) := by decide +kernel
theorem dX11_put_7 : decode cX11_put 7 = .ok (.aload_n 0, 1) := by decide +kernel
theorem dX11_put_8 : decode cX11_put 8 = .ok (.iconst 1, 1) := by decide +kernel
theorem dX11_put_9 : decode cX11_put 9 = .ok (.invokevirtual 90, 3) := by decide +kernel
theorem dX11_put_12 : decode cX11_put 12 = .ok (.ireturn, 1) := by decide +kernel
theorem dX11_put_13 : decode cX11_put 13 = .ok (.aload_n 0, 1) := by decide +kernel
theorem dX11_put_14 : decode cX11_put 14 = .ok (.getfield 29, 3) := by decide +kernel
theorem dX11_put_17 : decode cX11_put 17 = .ok (.iload_n 1, 1) := by decide +kernel
theorem dX11_put_18 : decode cX11_put 18 = .ok (.iaload, 1) := by decide +kernel
theorem dX11_put_19 : decode cX11_put 19 = .ok (.ifCond .ne 9, 3) := by decide +kernel
theorem dX11_put_22 : decode cX11_put 22 = .ok (.aload_n 0, 1) := by decide +kernel
theorem dX11_put_23 : decode cX11_put 23 = .ok (.iconst 2, 1) := by decide +kernel
theorem dX11_put_24 : decode cX11_put 24 = .ok (.invokevirtual 90, 3) := by decide +kernel
theorem dX11_put_27 : decode cX11_put 27 = .ok (.ireturn, 1) := by decide +kernel
theorem dX11_put_28 : decode cX11_put 28 = .ok (.aload_n 0, 1) := by decide +kernel
theorem dX11_put_29 : decode cX11_put 29 = .ok (.getfield 25, 3) := by decide +kernel
theorem dX11_put_32 : decode cX11_put 32 = .ok (.iload_n 1, 1) := by decide +kernel
theorem dX11_put_33 : decode cX11_put 33 = .ok (.aaload, 1) := by decide +kernel
theorem dX11_put_34 : decode cX11_put 34 = .ok (.iload_n 2, 1) := by decide +kernel
theorem dX11_put_35 : decode cX11_put 35 = .ok (.invokevirtual 278, 3) := by decide +kernel
theorem dX11_put_38 : decode cX11_put 38 = .ok (.ifCond .ne 9, 3) := by decide +kernel
theorem dX11_put_41 : decode cX11_put 41 = .ok (.aload_n 0, 1) := by decide +kernel
theorem dX11_put_42 : decode cX11_put 42 = .ok (.iconst 1, 1) := by decide +kernel
theorem dX11_put_43 : decode cX11_put 43 = .ok (.invokevirtual 90, 3) := by decide +kernel
theorem dX11_put_46 : decode cX11_put 46 = .ok (.ireturn, 1) := by decide +kernel
theorem dX11_put_47 : decode cX11_put 47 = .ok (.aload_n 0, 1) := by decide +kernel
theorem dX11_put_48 : decode cX11_put 48 = .ok (.getfield 25, 3) := by decide +kernel
theorem dX11_put_51 : decode cX11_put 51 = .ok (.iload_n 1, 1) := by decide +kernel
theorem dX11_put_52 : decode cX11_put 52 = .ok (.aaload, 1) := by decide +kernel
theorem dX11_put_53 : decode cX11_put 53 = .ok (.getfield 281, 3) := by decide +kernel
theorem dX11_put_56 : decode cX11_put 56 = .ok (.iload_n 2, 1) := by decide +kernel
theorem dX11_put_57 : decode cX11_put 57 = .ok (.aload_n 0, 1) := by decide +kernel
theorem dX11_put_58 : decode cX11_put 58 = .ok (.getfield 29, 3) := by decide +kernel
theorem dX11_put_61 : decode cX11_put 61 = .ok (.iload_n 1, 1) := by decide +kernel
theorem dX11_put_62 : decode cX11_put 62 = .ok (.iaload, 1) := by decide +kernel
theorem dX11_put_63 : decode cX11_put 63 = .ok (.iload_n 3, 1) := by decide +kernel
theorem dX11_put_64 : decode cX11_put 64 = .ok (.invokestatic 287, 3) := by decide +kernel
theorem dX11_put_67 : decode cX11_put 67 = .ok (.iastore, 1) := by decide +kernel
theorem dX11_put_68 : decode cX11_put 68 = .ok (.iconst 1, 1) := by decide +kernel
theorem dX11_put_69 : decode cX11_put 69 = .ok (.ireturn, 1) := by decide +kernel
set_option maxHeartbeats 2000000 in
set_option maxRecDepth 20000 in
theorem k_put {l : Launch} {D : va_G} {cI cG cW : ClassId} {q : Nat → Nat} {S : Nat → Int32} {X : Nat → Nat → Int32} {P : Nat → Nat} {s i v : Int32} {V row kept tried bf fd pk bo so sh mv tr : Nat → Int32} {nc np nw d nt nq : Nat} (hR : RKx row nc np nw d nt nq) (hC : CR (S, X, P) (sR V row kept tried bf fd pk bo so sh mv tr)) (hSh : ∀ s, s < 4 → (bo s = nI 0 ∨ bo s = nI 8 ∨ bo s = nI 16 ∨ bo s = nI 32) ∧ ∃ n, n ≤ 40 ∧ so s = nI n) : Ci l yX11_put cX11_put 4 (some .int) 3 D (tyL cI cG cW) (wC cI cG cW q) [.ref (q 0), .int s, .int i, .int v] (S, X, P) (fun r τ => r = (sp_put V row kept tried bf fd pk bo so sh mv tr s i v).1 ∧ CR τ (sp_put V row kept tried bf fd pk bo so sh mv tr s i v).2) := by
  refine Ci.of (by decide) (Nat.le_of_ble_eq_true rfl) ?_
  intro p_ e_ s_ m_ b_ M_ c_ A_ C
  replace C : Cx _ _ _ _ _ _ _ _ RX11 _ _ _ _ := C
  refine j_L [0, 1, 2, 3] [(0, .ref (q 0)), (1, .int s), (2, .int i), (3, .int v)] rfl ?_
  obtain ⟨hI, hW, ⟨e0, hd⟩, ⟨e4, ht⟩, ⟨e5, hq⟩, hB⟩ := id hR
  obtain ⟨⟨e2, hc2, hc10⟩, ⟨e3, hn6⟩, ⟨e8, hw8⟩, hP, hE, hLo, hT0, hT1⟩ := id hI
  have hIc := hI
  have hF : CF S X 0 row (X 44) nc np := by have h := hC.fld; rw [e2, e3, tN_nI (by omega), tN_nI (by omega)] at h; exact h
  have hK : CK S X 0 row nw nt nq := by have h := hC.kp; rw [e8, e4, e5, tN_nI (by omega), tN_nI (by omega), tN_nI (by omega)] at h; exact h
  have hS1 : S 1 = row 8 := hK.wrongs
  have hS5 : S 5 = row 2 := hF.cells
  have hS7 : S 7 = row 3 := hF.people
  refine j_iload_n C 1 dX11_put_0 rfl ?_
  refine j_callS (As := [.int s]) (rest := []) C sw11_246 (h_isSheet) rfl (Nat.le_of_ble_eq_true rfl) dX11_put_1 (by decide) ?_
  rintro _ _ ⟨rfl, rfl⟩
  refine j_if_ne C 13 dX11_put_4 (by decide) (fun c4 => ?_) (fun c4 => ?_)
  · replace c4 := bI_t c4
    obtain ⟨sn, gsn, hsn, rfl⟩ := inn_lit c4 (by omega)
    rcases (show sn = 0 ∨ sn = 1 ∨ sn = 2 ∨ sn = 3 by omega) with rfl | rfl | rfl | rfl
    · obtain ⟨-, nn, hnn, eso⟩ := hSh 0 (by omega)
      refine j_aload_n C 0 dX11_put_13 rfl ?_
      refine j_get C (v := .ref (q 34)) 0 7 rfl rfl inlC11 (by decide) kf11_29 rfl dX11_put_14 ?_
      refine j_iload_n C 1 dX11_put_17 rfl ?_
      refine j_ialdN C 34 0 rfl rfl 0 rfl (by omega) (by decide) dX11_put_18 ?_
      refine j_v (bo 0) (hC.shb 0 (by omega)) ?_
      refine j_if_ne C 28 dX11_put_19 (by decide) (fun c19 => ?_) (fun c19 => ?_)
      · skip
        refine j_aload_n C 0 dX11_put_28 rfl ?_
        refine j_get C (v := .ref (q 33)) 0 6 rfl rfl inlC11 (by decide) kf11_25 rfl dX11_put_29 ?_
        refine j_iload_n C 1 dX11_put_32 rfl ?_
        refine j_aaldN C 33 2 rfl rfl 0 rfl (by decide) (by decide) rfl dX11_put_33 ?_
        refine j_iload_n C 2 dX11_put_34 rfl ?_
        refine j_callVN (As := [.int i]) (rest := []) C vn11_278 (h_has_10) ⟨21, 8, _, _, rfl, rfl, rfl⟩ rfl (Nat.le_of_ble_eq_true rfl) dX11_put_35 (by decide) ?_
        rintro _ _ ⟨rfl, rfl⟩
        refine j_v (bI (inn i (nI 0) (so 0 - nI 1))) (by rw [show S 29 = so 0 from hC.shs 0 (by omega)]; exact bI_c (inn_c0 eso (by omega)).symm) ?_
        refine j_if_ne C 47 dX11_put_38 (by decide) (fun c38 => ?_) (fun c38 => ?_)
        · replace c38 := bI_t c38
          obtain ⟨ii, hii, rfl⟩ := inn_row (n := nn) c38 eso (by omega)
          refine j_aload_n C 0 dX11_put_47 rfl ?_
          refine j_get C (v := .ref (q 33)) 0 6 rfl rfl inlC11 (by decide) kf11_25 rfl dX11_put_48 ?_
          refine j_iload_n C 1 dX11_put_51 rfl ?_
          refine j_aaldN C 33 2 rfl rfl 0 rfl (by decide) (by decide) rfl dX11_put_52 ?_
          refine j_getN C (v := .ref (q 82)) 21 0 rfl rfl inlC8 (by decide) kf11_281 rfl dX11_put_53 ?_
          refine j_iload_n C 2 dX11_put_56 rfl ?_
          refine j_aload_n C 0 dX11_put_57 rfl ?_
          refine j_get C (v := .ref (q 34)) 0 7 rfl rfl inlC11 (by decide) kf11_29 rfl dX11_put_58 ?_
          refine j_iload_n C 1 dX11_put_61 rfl ?_
          refine j_ialdN C 34 0 rfl rfl 0 rfl (by omega) (by decide) dX11_put_62 ?_
          refine j_v (bo 0) (hC.shb 0 (by omega)) ?_
          refine j_iload_n C 3 dX11_put_63 rfl ?_
          refine j_callS (As := [.int (bo 0), .int v]) (rest := [.int (nI ii), .ref (q 82)]) C sw11_287 (h_lowestBits) rfl (Nat.le_of_ble_eq_true rfl) dX11_put_64 (by decide) ?_
          rintro _ _ ⟨rfl, rfl⟩
          refine j_iastN C 82 0 rfl rfl ii rfl (by omega) (by decide) dX11_put_67 (S, va_up X 82 (upd (X 82) ii (narF (bo 0) v)), P) rfl ?_
          refine j_iconst C (v := (nI 1)) dX11_put_68 (by decide) ?_
          refine j_iret C dX11_put_69 ?_
          unfold sp_put
          rw [if_pos (show inn (nI 0) 0 3 from c4), tN_nI (n := 0) (by decide)]
          rw [if_neg c19, if_pos c38, tN_nI (n := ii) (by omega)]
          exact ⟨rfl, hC.put hSh 0 (by omega) ii (by omega) _⟩
        · replace c38 := bI_f c38
          refine j_aload_n C 0 dX11_put_41 rfl ?_
          refine j_iconst C (v := (nI 1)) dX11_put_42 (by decide) ?_
          refine j_callV (As := [.int (nI 1)]) (rest := []) C vw11_90 (h_error 1 (by decide)) ⟨0, 11, _, _, rfl, rfl, rfl⟩ rfl (Nat.le_of_ble_eq_true rfl) dX11_put_43 (by decide) ?_
          rintro _ _ ⟨rfl, rfl⟩
          refine j_iret C dX11_put_46 ?_
          unfold sp_put
          rw [if_pos (show inn (nI 0) 0 3 from c4), tN_nI (n := 0) (by decide)]
          rw [if_neg c19, if_neg c38]
          exact ⟨show (-1000000000 : Int32) - nI 1 = -1000000001 from by decide, hC.er 1⟩
      · skip
        refine j_aload_n C 0 dX11_put_22 rfl ?_
        refine j_iconst C (v := (nI 2)) dX11_put_23 (by decide) ?_
        refine j_callV (As := [.int (nI 2)]) (rest := []) C vw11_90 (h_error 2 (by decide)) ⟨0, 11, _, _, rfl, rfl, rfl⟩ rfl (Nat.le_of_ble_eq_true rfl) dX11_put_24 (by decide) ?_
        rintro _ _ ⟨rfl, rfl⟩
        refine j_iret C dX11_put_27 ?_
        unfold sp_put
        rw [if_pos (show inn (nI 0) 0 3 from c4), tN_nI (n := 0) (by decide)]
        rw [if_pos c19]
        exact ⟨show (-1000000000 : Int32) - nI 2 = -1000000002 from by decide, hC.er 2⟩
    · obtain ⟨-, nn, hnn, eso⟩ := hSh 1 (by omega)
      refine j_aload_n C 0 dX11_put_13 rfl ?_
      refine j_get C (v := .ref (q 34)) 0 7 rfl rfl inlC11 (by decide) kf11_29 rfl dX11_put_14 ?_
      refine j_iload_n C 1 dX11_put_17 rfl ?_
      refine j_ialdN C 34 0 rfl rfl 1 rfl (by omega) (by decide) dX11_put_18 ?_
      refine j_v (bo 1) (hC.shb 1 (by omega)) ?_
      refine j_if_ne C 28 dX11_put_19 (by decide) (fun c19 => ?_) (fun c19 => ?_)
      · skip
        refine j_aload_n C 0 dX11_put_28 rfl ?_
        refine j_get C (v := .ref (q 33)) 0 6 rfl rfl inlC11 (by decide) kf11_25 rfl dX11_put_29 ?_
        refine j_iload_n C 1 dX11_put_32 rfl ?_
        refine j_aaldN C 33 2 rfl rfl 1 rfl (by decide) (by decide) rfl dX11_put_33 ?_
        refine j_iload_n C 2 dX11_put_34 rfl ?_
        refine j_callVN (As := [.int i]) (rest := []) C vn11_278 (h_has_11) ⟨22, 8, _, _, rfl, rfl, rfl⟩ rfl (Nat.le_of_ble_eq_true rfl) dX11_put_35 (by decide) ?_
        rintro _ _ ⟨rfl, rfl⟩
        refine j_v (bI (inn i (nI 0) (so 1 - nI 1))) (by rw [show S 30 = so 1 from hC.shs 1 (by omega)]; exact bI_c (inn_c0 eso (by omega)).symm) ?_
        refine j_if_ne C 47 dX11_put_38 (by decide) (fun c38 => ?_) (fun c38 => ?_)
        · replace c38 := bI_t c38
          obtain ⟨ii, hii, rfl⟩ := inn_row (n := nn) c38 eso (by omega)
          refine j_aload_n C 0 dX11_put_47 rfl ?_
          refine j_get C (v := .ref (q 33)) 0 6 rfl rfl inlC11 (by decide) kf11_25 rfl dX11_put_48 ?_
          refine j_iload_n C 1 dX11_put_51 rfl ?_
          refine j_aaldN C 33 2 rfl rfl 1 rfl (by decide) (by decide) rfl dX11_put_52 ?_
          refine j_getN C (v := .ref (q 83)) 22 0 rfl rfl inlC8 (by decide) kf11_281 rfl dX11_put_53 ?_
          refine j_iload_n C 2 dX11_put_56 rfl ?_
          refine j_aload_n C 0 dX11_put_57 rfl ?_
          refine j_get C (v := .ref (q 34)) 0 7 rfl rfl inlC11 (by decide) kf11_29 rfl dX11_put_58 ?_
          refine j_iload_n C 1 dX11_put_61 rfl ?_
          refine j_ialdN C 34 0 rfl rfl 1 rfl (by omega) (by decide) dX11_put_62 ?_
          refine j_v (bo 1) (hC.shb 1 (by omega)) ?_
          refine j_iload_n C 3 dX11_put_63 rfl ?_
          refine j_callS (As := [.int (bo 1), .int v]) (rest := [.int (nI ii), .ref (q 83)]) C sw11_287 (h_lowestBits) rfl (Nat.le_of_ble_eq_true rfl) dX11_put_64 (by decide) ?_
          rintro _ _ ⟨rfl, rfl⟩
          refine j_iastN C 83 0 rfl rfl ii rfl (by omega) (by decide) dX11_put_67 (S, va_up X 83 (upd (X 83) ii (narF (bo 1) v)), P) rfl ?_
          refine j_iconst C (v := (nI 1)) dX11_put_68 (by decide) ?_
          refine j_iret C dX11_put_69 ?_
          unfold sp_put
          rw [if_pos (show inn (nI 1) 0 3 from c4), tN_nI (n := 1) (by decide)]
          rw [if_neg c19, if_pos c38, tN_nI (n := ii) (by omega)]
          exact ⟨rfl, hC.put hSh 1 (by omega) ii (by omega) _⟩
        · replace c38 := bI_f c38
          refine j_aload_n C 0 dX11_put_41 rfl ?_
          refine j_iconst C (v := (nI 1)) dX11_put_42 (by decide) ?_
          refine j_callV (As := [.int (nI 1)]) (rest := []) C vw11_90 (h_error 1 (by decide)) ⟨0, 11, _, _, rfl, rfl, rfl⟩ rfl (Nat.le_of_ble_eq_true rfl) dX11_put_43 (by decide) ?_
          rintro _ _ ⟨rfl, rfl⟩
          refine j_iret C dX11_put_46 ?_
          unfold sp_put
          rw [if_pos (show inn (nI 1) 0 3 from c4), tN_nI (n := 1) (by decide)]
          rw [if_neg c19, if_neg c38]
          exact ⟨show (-1000000000 : Int32) - nI 1 = -1000000001 from by decide, hC.er 1⟩
      · skip
        refine j_aload_n C 0 dX11_put_22 rfl ?_
        refine j_iconst C (v := (nI 2)) dX11_put_23 (by decide) ?_
        refine j_callV (As := [.int (nI 2)]) (rest := []) C vw11_90 (h_error 2 (by decide)) ⟨0, 11, _, _, rfl, rfl, rfl⟩ rfl (Nat.le_of_ble_eq_true rfl) dX11_put_24 (by decide) ?_
        rintro _ _ ⟨rfl, rfl⟩
        refine j_iret C dX11_put_27 ?_
        unfold sp_put
        rw [if_pos (show inn (nI 1) 0 3 from c4), tN_nI (n := 1) (by decide)]
        rw [if_pos c19]
        exact ⟨show (-1000000000 : Int32) - nI 2 = -1000000002 from by decide, hC.er 2⟩
    · obtain ⟨-, nn, hnn, eso⟩ := hSh 2 (by omega)
      refine j_aload_n C 0 dX11_put_13 rfl ?_
      refine j_get C (v := .ref (q 34)) 0 7 rfl rfl inlC11 (by decide) kf11_29 rfl dX11_put_14 ?_
      refine j_iload_n C 1 dX11_put_17 rfl ?_
      refine j_ialdN C 34 0 rfl rfl 2 rfl (by omega) (by decide) dX11_put_18 ?_
      refine j_v (bo 2) (hC.shb 2 (by omega)) ?_
      refine j_if_ne C 28 dX11_put_19 (by decide) (fun c19 => ?_) (fun c19 => ?_)
      · skip
        refine j_aload_n C 0 dX11_put_28 rfl ?_
        refine j_get C (v := .ref (q 33)) 0 6 rfl rfl inlC11 (by decide) kf11_25 rfl dX11_put_29 ?_
        refine j_iload_n C 1 dX11_put_32 rfl ?_
        refine j_aaldN C 33 2 rfl rfl 2 rfl (by decide) (by decide) rfl dX11_put_33 ?_
        refine j_iload_n C 2 dX11_put_34 rfl ?_
        refine j_callVN (As := [.int i]) (rest := []) C vn11_278 (h_has_12) ⟨23, 8, _, _, rfl, rfl, rfl⟩ rfl (Nat.le_of_ble_eq_true rfl) dX11_put_35 (by decide) ?_
        rintro _ _ ⟨rfl, rfl⟩
        refine j_v (bI (inn i (nI 0) (so 2 - nI 1))) (by rw [show S 31 = so 2 from hC.shs 2 (by omega)]; exact bI_c (inn_c0 eso (by omega)).symm) ?_
        refine j_if_ne C 47 dX11_put_38 (by decide) (fun c38 => ?_) (fun c38 => ?_)
        · replace c38 := bI_t c38
          obtain ⟨ii, hii, rfl⟩ := inn_row (n := nn) c38 eso (by omega)
          refine j_aload_n C 0 dX11_put_47 rfl ?_
          refine j_get C (v := .ref (q 33)) 0 6 rfl rfl inlC11 (by decide) kf11_25 rfl dX11_put_48 ?_
          refine j_iload_n C 1 dX11_put_51 rfl ?_
          refine j_aaldN C 33 2 rfl rfl 2 rfl (by decide) (by decide) rfl dX11_put_52 ?_
          refine j_getN C (v := .ref (q 84)) 23 0 rfl rfl inlC8 (by decide) kf11_281 rfl dX11_put_53 ?_
          refine j_iload_n C 2 dX11_put_56 rfl ?_
          refine j_aload_n C 0 dX11_put_57 rfl ?_
          refine j_get C (v := .ref (q 34)) 0 7 rfl rfl inlC11 (by decide) kf11_29 rfl dX11_put_58 ?_
          refine j_iload_n C 1 dX11_put_61 rfl ?_
          refine j_ialdN C 34 0 rfl rfl 2 rfl (by omega) (by decide) dX11_put_62 ?_
          refine j_v (bo 2) (hC.shb 2 (by omega)) ?_
          refine j_iload_n C 3 dX11_put_63 rfl ?_
          refine j_callS (As := [.int (bo 2), .int v]) (rest := [.int (nI ii), .ref (q 84)]) C sw11_287 (h_lowestBits) rfl (Nat.le_of_ble_eq_true rfl) dX11_put_64 (by decide) ?_
          rintro _ _ ⟨rfl, rfl⟩
          refine j_iastN C 84 0 rfl rfl ii rfl (by omega) (by decide) dX11_put_67 (S, va_up X 84 (upd (X 84) ii (narF (bo 2) v)), P) rfl ?_
          refine j_iconst C (v := (nI 1)) dX11_put_68 (by decide) ?_
          refine j_iret C dX11_put_69 ?_
          unfold sp_put
          rw [if_pos (show inn (nI 2) 0 3 from c4), tN_nI (n := 2) (by decide)]
          rw [if_neg c19, if_pos c38, tN_nI (n := ii) (by omega)]
          exact ⟨rfl, hC.put hSh 2 (by omega) ii (by omega) _⟩
        · replace c38 := bI_f c38
          refine j_aload_n C 0 dX11_put_41 rfl ?_
          refine j_iconst C (v := (nI 1)) dX11_put_42 (by decide) ?_
          refine j_callV (As := [.int (nI 1)]) (rest := []) C vw11_90 (h_error 1 (by decide)) ⟨0, 11, _, _, rfl, rfl, rfl⟩ rfl (Nat.le_of_ble_eq_true rfl) dX11_put_43 (by decide) ?_
          rintro _ _ ⟨rfl, rfl⟩
          refine j_iret C dX11_put_46 ?_
          unfold sp_put
          rw [if_pos (show inn (nI 2) 0 3 from c4), tN_nI (n := 2) (by decide)]
          rw [if_neg c19, if_neg c38]
          exact ⟨show (-1000000000 : Int32) - nI 1 = -1000000001 from by decide, hC.er 1⟩
      · skip
        refine j_aload_n C 0 dX11_put_22 rfl ?_
        refine j_iconst C (v := (nI 2)) dX11_put_23 (by decide) ?_
        refine j_callV (As := [.int (nI 2)]) (rest := []) C vw11_90 (h_error 2 (by decide)) ⟨0, 11, _, _, rfl, rfl, rfl⟩ rfl (Nat.le_of_ble_eq_true rfl) dX11_put_24 (by decide) ?_
        rintro _ _ ⟨rfl, rfl⟩
        refine j_iret C dX11_put_27 ?_
        unfold sp_put
        rw [if_pos (show inn (nI 2) 0 3 from c4), tN_nI (n := 2) (by decide)]
        rw [if_pos c19]
        exact ⟨show (-1000000000 : Int32) - nI 2 = -1000000002 from by decide, hC.er 2⟩
    · obtain ⟨-, nn, hnn, eso⟩ := hSh 3 (by omega)
      refine j_aload_n C 0 dX11_put_13 rfl ?_
      refine j_get C (v := .ref (q 34)) 0 7 rfl rfl inlC11 (by decide) kf11_29 rfl dX11_put_14 ?_
      refine j_iload_n C 1 dX11_put_17 rfl ?_
      refine j_ialdN C 34 0 rfl rfl 3 rfl (by omega) (by decide) dX11_put_18 ?_
      refine j_v (bo 3) (hC.shb 3 (by omega)) ?_
      refine j_if_ne C 28 dX11_put_19 (by decide) (fun c19 => ?_) (fun c19 => ?_)
      · skip
        refine j_aload_n C 0 dX11_put_28 rfl ?_
        refine j_get C (v := .ref (q 33)) 0 6 rfl rfl inlC11 (by decide) kf11_25 rfl dX11_put_29 ?_
        refine j_iload_n C 1 dX11_put_32 rfl ?_
        refine j_aaldN C 33 2 rfl rfl 3 rfl (by decide) (by decide) rfl dX11_put_33 ?_
        refine j_iload_n C 2 dX11_put_34 rfl ?_
        refine j_callVN (As := [.int i]) (rest := []) C vn11_278 (h_has_13) ⟨24, 8, _, _, rfl, rfl, rfl⟩ rfl (Nat.le_of_ble_eq_true rfl) dX11_put_35 (by decide) ?_
        rintro _ _ ⟨rfl, rfl⟩
        refine j_v (bI (inn i (nI 0) (so 3 - nI 1))) (by rw [show S 32 = so 3 from hC.shs 3 (by omega)]; exact bI_c (inn_c0 eso (by omega)).symm) ?_
        refine j_if_ne C 47 dX11_put_38 (by decide) (fun c38 => ?_) (fun c38 => ?_)
        · replace c38 := bI_t c38
          obtain ⟨ii, hii, rfl⟩ := inn_row (n := nn) c38 eso (by omega)
          refine j_aload_n C 0 dX11_put_47 rfl ?_
          refine j_get C (v := .ref (q 33)) 0 6 rfl rfl inlC11 (by decide) kf11_25 rfl dX11_put_48 ?_
          refine j_iload_n C 1 dX11_put_51 rfl ?_
          refine j_aaldN C 33 2 rfl rfl 3 rfl (by decide) (by decide) rfl dX11_put_52 ?_
          refine j_getN C (v := .ref (q 85)) 24 0 rfl rfl inlC8 (by decide) kf11_281 rfl dX11_put_53 ?_
          refine j_iload_n C 2 dX11_put_56 rfl ?_
          refine j_aload_n C 0 dX11_put_57 rfl ?_
          refine j_get C (v := .ref (q 34)) 0 7 rfl rfl inlC11 (by decide) kf11_29 rfl dX11_put_58 ?_
          refine j_iload_n C 1 dX11_put_61 rfl ?_
          refine j_ialdN C 34 0 rfl rfl 3 rfl (by omega) (by decide) dX11_put_62 ?_
          refine j_v (bo 3) (hC.shb 3 (by omega)) ?_
          refine j_iload_n C 3 dX11_put_63 rfl ?_
          refine j_callS (As := [.int (bo 3), .int v]) (rest := [.int (nI ii), .ref (q 85)]) C sw11_287 (h_lowestBits) rfl (Nat.le_of_ble_eq_true rfl) dX11_put_64 (by decide) ?_
          rintro _ _ ⟨rfl, rfl⟩
          refine j_iastN C 85 0 rfl rfl ii rfl (by omega) (by decide) dX11_put_67 (S, va_up X 85 (upd (X 85) ii (narF (bo 3) v)), P) rfl ?_
          refine j_iconst C (v := (nI 1)) dX11_put_68 (by decide) ?_
          refine j_iret C dX11_put_69 ?_
          unfold sp_put
          rw [if_pos (show inn (nI 3) 0 3 from c4), tN_nI (n := 3) (by decide)]
          rw [if_neg c19, if_pos c38, tN_nI (n := ii) (by omega)]
          exact ⟨rfl, hC.put hSh 3 (by omega) ii (by omega) _⟩
        · replace c38 := bI_f c38
          refine j_aload_n C 0 dX11_put_41 rfl ?_
          refine j_iconst C (v := (nI 1)) dX11_put_42 (by decide) ?_
          refine j_callV (As := [.int (nI 1)]) (rest := []) C vw11_90 (h_error 1 (by decide)) ⟨0, 11, _, _, rfl, rfl, rfl⟩ rfl (Nat.le_of_ble_eq_true rfl) dX11_put_43 (by decide) ?_
          rintro _ _ ⟨rfl, rfl⟩
          refine j_iret C dX11_put_46 ?_
          unfold sp_put
          rw [if_pos (show inn (nI 3) 0 3 from c4), tN_nI (n := 3) (by decide)]
          rw [if_neg c19, if_neg c38]
          exact ⟨show (-1000000000 : Int32) - nI 1 = -1000000001 from by decide, hC.er 1⟩
      · skip
        refine j_aload_n C 0 dX11_put_22 rfl ?_
        refine j_iconst C (v := (nI 2)) dX11_put_23 (by decide) ?_
        refine j_callV (As := [.int (nI 2)]) (rest := []) C vw11_90 (h_error 2 (by decide)) ⟨0, 11, _, _, rfl, rfl, rfl⟩ rfl (Nat.le_of_ble_eq_true rfl) dX11_put_24 (by decide) ?_
        rintro _ _ ⟨rfl, rfl⟩
        refine j_iret C dX11_put_27 ?_
        unfold sp_put
        rw [if_pos (show inn (nI 3) 0 3 from c4), tN_nI (n := 3) (by decide)]
        rw [if_pos c19]
        exact ⟨show (-1000000000 : Int32) - nI 2 = -1000000002 from by decide, hC.er 2⟩
  · replace c4 := bI_f c4
    refine j_aload_n C 0 dX11_put_7 rfl ?_
    refine j_iconst C (v := (nI 1)) dX11_put_8 (by decide) ?_
    refine j_callV (As := [.int (nI 1)]) (rest := []) C vw11_90 (h_error 1 (by decide)) ⟨0, 11, _, _, rfl, rfl, rfl⟩ rfl (Nat.le_of_ble_eq_true rfl) dX11_put_9 (by decide) ?_
    rintro _ _ ⟨rfl, rfl⟩
    refine j_iret C dX11_put_12 ?_
    unfold sp_put
    rw [if_neg (show ¬ inn s 0 3 from c4)]
    exact ⟨show (-1000000000 : Int32) - nI 1 = -1000000001 from by decide, hC.er 1⟩

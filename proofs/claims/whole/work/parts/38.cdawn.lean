/-! The class's fields: picking, walking, sums. -/
theorem pick_0 {row : Nat → Int32} {np p a b : Nat} {w : Int32} (ea : row (30 + 6 * p + 2) = nI a) (ha : a < 10) (ee : row (10 + a) = 0) (eb : row (30 + 6 * p + 4) = nI b) (hb : b ≤ 9999) : pickV row np w p = nI 0 ∧ pickF row np w p = row := by
  obtain ⟨t, ht, hv⟩ := pickV_le (np := np) (w := w) ea (by omega) (e := 0) ee (by omega)
  obtain rfl : t = 0 := by omega
  refine ⟨hv, ?_⟩
  rw [pickF_eq ea (by omega), hv, ee, eb]
  funext k
  by_cases e1 : k = 30 + 6 * p + 4
  · subst e1; rw [pk_us, eb, show nI b + nI 0 = nI b from Int32.add_zero _, hld_min rfl (by omega)]
    by_cases h : nI b < nI 9999
    · rw [if_pos h]
    · rw [if_neg h]; rw [nI_ltI (by omega) (by omega)] at h; congr 1; omega
  · rw [pk_un e1]
    by_cases e2 : k = 10 + a
    · subst e2; rw [pk_us, ee]; rfl
    · rw [pk_un e2]
theorem dX1_pick_0 : decode cX1_pick 0 = .ok (.aload_n 0, 1) := by decide +kernel
theorem dX1_pick_1 : decode cX1_pick 1 = .ok (.getfield 34, 3) := by decide +kernel
theorem dX1_pick_4 : decode cX1_pick 4 = .ok (.iload_n 1, 1) := by decide +kernel
theorem dX1_pick_5 : decode cX1_pick 5 = .ok (.iaload, 1) := by decide +kernel
theorem dX1_pick_6 : decode cX1_pick 6 = .ok (.istore_n 2, 1) := by decide +kernel
theorem dX1_pick_7 : decode cX1_pick 7 = .ok (.aload_n 0, 1) := by decide +kernel
theorem dX1_pick_8 : decode cX1_pick 8 = .ok (.getfield 49, 3) := by decide +kernel
theorem dX1_pick_11 : decode cX1_pick 11 = .ok (.iload_n 1, 1) := by decide +kernel
theorem dX1_pick_12 : decode cX1_pick 12 = .ok (.iconst 0, 1) := by decide +kernel
theorem dX1_pick_13 : decode cX1_pick 13 = .ok (.iastore, 1) := by decide +kernel
theorem dX1_pick_14 : decode cX1_pick 14 = .ok (.aload_n 0, 1) := by decide +kernel
theorem dX1_pick_15 : decode cX1_pick 15 = .ok (.getfield 15, 3) := by decide +kernel
theorem dX1_pick_18 : decode cX1_pick 18 = .ok (.iload_n 2, 1) := by decide +kernel
theorem dX1_pick_19 : decode cX1_pick 19 = .ok (.iaload, 1) := by decide +kernel
theorem dX1_pick_20 : decode cX1_pick 20 = .ok (.ifCond .ne 4, 3) := by decide +kernel
theorem dX1_pick_23 : decode cX1_pick 23 = .ok (.return_, 1) := by decide +kernel
theorem dX1_pick_24 : decode cX1_pick 24 = .ok (.aload_n 0, 1) := by decide +kernel
theorem dX1_pick_25 : decode cX1_pick 25 = .ok (.iload_n 1, 1) := by decide +kernel
theorem dX1_pick_26 : decode cX1_pick 26 = .ok (.invokevirtual 117, 3) := by decide +kernel
theorem dX1_pick_29 : decode cX1_pick 29 = .ok (.istore_n 3, 1) := by decide +kernel
theorem dX1_pick_30 : decode cX1_pick 30 = .ok (.iload_n 3, 1) := by decide +kernel
theorem dX1_pick_31 : decode cX1_pick 31 = .ok (.aload_n 0, 1) := by decide +kernel
theorem dX1_pick_32 : decode cX1_pick 32 = .ok (.getfield 19, 3) := by decide +kernel
theorem dX1_pick_35 : decode cX1_pick 35 = .ok (.iload_n 2, 1) := by decide +kernel
theorem dX1_pick_36 : decode cX1_pick 36 = .ok (.iaload, 1) := by decide +kernel
theorem dX1_pick_37 : decode cX1_pick 37 = .ok (.if_icmp .lt 38, 3) := by decide +kernel
theorem dX1_pick_40 : decode cX1_pick 40 = .ok (.aload_n 0, 1) := by decide +kernel
theorem dX1_pick_41 : decode cX1_pick 41 = .ok (.getfield 49, 3) := by decide +kernel
theorem dX1_pick_44 : decode cX1_pick 44 = .ok (.iload_n 1, 1) := by decide +kernel
theorem dX1_pick_45 : decode cX1_pick 45 = .ok (.aload_n 0, 1) := by decide +kernel
theorem dX1_pick_46 : decode cX1_pick 46 = .ok (.getfield 15, 3) := by decide +kernel
theorem dX1_pick_49 : decode cX1_pick 49 = .ok (.iload_n 2, 1) := by decide +kernel
theorem dX1_pick_50 : decode cX1_pick 50 = .ok (.iaload, 1) := by decide +kernel
theorem dX1_pick_51 : decode cX1_pick 51 = .ok (.aload_n 0, 1) := by decide +kernel
theorem dX1_pick_52 : decode cX1_pick 52 = .ok (.getfield 60, 3) := by decide +kernel
theorem dX1_pick_55 : decode cX1_pick 55 = .ok (.iload_n 3, 1) := by decide +kernel
theorem dX1_pick_56 : decode cX1_pick 56 = .ok (.aload_n 0, 1) := by decide +kernel
theorem dX1_pick_57 : decode cX1_pick 57 = .ok (.getfield 15, 3) := by decide +kernel
theorem dX1_pick_60 : decode cX1_pick 60 = .ok (.iload_n 2, 1) := by decide +kernel
theorem dX1_pick_61 : decode cX1_pick 61 = .ok (.iaload, 1) := by decide +kernel
theorem dX1_pick_62 : decode cX1_pick 62 = .ok (.aload_n 0, 1) := by decide +kernel
theorem dX1_pick_63 : decode cX1_pick 63 = .ok (.getfield 31, 3) := by decide +kernel
theorem dX1_pick_66 : decode cX1_pick 66 = .ok (.iload_n 1, 1) := by decide +kernel
theorem dX1_pick_67 : decode cX1_pick 67 = .ok (.iaload, 1) := by decide +kernel
theorem dX1_pick_68 : decode cX1_pick 68 = .ok (.invokevirtual 82, 3) := by decide +kernel
theorem dX1_pick_71 : decode cX1_pick 71 = .ok (.invokestatic 67, 3) := by decide +kernel
theorem dX1_pick_74 : decode cX1_pick 74 = .ok (.iastore, 1) := by decide +kernel
theorem dX1_pick_75 : decode cX1_pick 75 = .ok (.aload_n 0, 1) := by decide +kernel
theorem dX1_pick_76 : decode cX1_pick 76 = .ok (.getfield 15, 3) := by decide +kernel
theorem dX1_pick_79 : decode cX1_pick 79 = .ok (.iload_n 2, 1) := by decide +kernel
theorem dX1_pick_80 : decode cX1_pick 80 = .ok (.dup2, 1) := by decide +kernel
theorem dX1_pick_81 : decode cX1_pick 81 = .ok (.iaload, 1) := by decide +kernel
theorem dX1_pick_82 : decode cX1_pick 82 = .ok (.aload_n 0, 1) := by decide +kernel
theorem dX1_pick_83 : decode cX1_pick 83 = .ok (.getfield 49, 3) := by decide +kernel
theorem dX1_pick_86 : decode cX1_pick 86 = .ok (.iload_n 1, 1) := by decide +kernel
theorem dX1_pick_87 : decode cX1_pick 87 = .ok (.iaload, 1) := by decide +kernel
theorem dX1_pick_88 : decode cX1_pick 88 = .ok (.isub, 1) := by decide +kernel
theorem dX1_pick_89 : decode cX1_pick 89 = .ok (.iastore, 1) := by decide +kernel
theorem dX1_pick_90 : decode cX1_pick 90 = .ok (.aload_n 0, 1) := by decide +kernel
theorem dX1_pick_91 : decode cX1_pick 91 = .ok (.getfield 40, 3) := by decide +kernel
theorem dX1_pick_94 : decode cX1_pick 94 = .ok (.iload_n 1, 1) := by decide +kernel
theorem dX1_pick_95 : decode cX1_pick 95 = .ok (.sipush 9999, 3) := by decide +kernel
theorem dX1_pick_98 : decode cX1_pick 98 = .ok (.aload_n 0, 1) := by decide +kernel
theorem dX1_pick_99 : decode cX1_pick 99 = .ok (.getfield 40, 3) := by decide +kernel
theorem dX1_pick_102 : decode cX1_pick 102 = .ok (.iload_n 1, 1) := by decide +kernel
theorem dX1_pick_103 : decode cX1_pick 103 = .ok (.iaload, 1) := by decide +kernel
theorem dX1_pick_104 : decode cX1_pick 104 = .ok (.aload_n 0, 1) := by decide +kernel
theorem dX1_pick_105 : decode cX1_pick 105 = .ok (.getfield 49, 3) := by decide +kernel
theorem dX1_pick_108 : decode cX1_pick 108 = .ok (.iload_n 1, 1) := by decide +kernel
theorem dX1_pick_109 : decode cX1_pick 109 = .ok (.iaload, 1) := by decide +kernel
theorem dX1_pick_110 : decode cX1_pick 110 = .ok (.iadd, 1) := by decide +kernel
theorem dX1_pick_111 : decode cX1_pick 111 = .ok (.invokestatic 67, 3) := by decide +kernel
theorem dX1_pick_114 : decode cX1_pick 114 = .ok (.iastore, 1) := by decide +kernel
theorem dX1_pick_115 : decode cX1_pick 115 = .ok (.return_, 1) := by decide +kernel
set_option maxHeartbeats 2000000 in
set_option maxRecDepth 20000 in
theorem h_pick_0 {l : Launch} {D : va_G} {cI cG cW : ClassId} {q : Nat → Nat} {S : Nat → Int32} {X : Nat → Nat → Int32} {P : Nat → Nat} {row w : Nat → Int32} {nc np : Nat} (hF : CF S X 0 row w nc np) {nw : Nat} (hI : Iv row nc np nw) (p : Nat) (hp : p < np) (hL0 : CLaw S X 0 row 0) (hL1 : CLaw S X 1 row 1) : Cv l yX1_pick cX1_pick 4 none 6 D (tyL cI cG cW) (wC cI cG cW q) [.ref (q 3), .int (nI p)] (S, X, P) (fun τ => ∃ X', τ = (S, X', P) ∧ CF S X' 0 (pickF row np (w p) p) w nc np ∧ FrX 0 X' X ∧ X' 45 = upd (X 45) p (pickV row np (w p) p)) := by
  refine Cv.of (by decide) (Nat.le_of_ble_eq_true rfl) ?_
  intro p_ e_ s_ m_ b_ M_ c_ A_ C
  replace C : Cx _ _ _ _ _ _ _ _ RX1 _ _ _ _ := C
  refine j_L [0, 1] [(0, .ref (q 3)), (1, .int (nI p))] rfl ?_
  obtain ⟨⟨e2, hc2, hc10⟩, ⟨e3, hn6⟩, -, hP, hE, hLo, -, -⟩ := id hI
  obtain ⟨⟨k, hk, ek⟩, -, ⟨a, ha, ea⟩, hway, ⟨b, hb, eb⟩, -⟩ := hP p hp
  obtain ⟨e, he, ee⟩ := hE a ha
  refine j_aload_n C 0 dX1_pick_0 rfl ?_
  refine j_get C (v := .ref (q 40)) 3 7 rfl rfl inlC1 (by decide) kf1_34 rfl dX1_pick_1 ?_
  refine j_iload_n C 1 dX1_pick_4 rfl ?_
  refine j_ialdN C 40 0 rfl rfl p rfl (by omega) (by decide) dX1_pick_5 ?_
  refine j_v (nI a) ((hF.per 2 (by omega) p (by omega)).trans ea) ?_
  refine j_istore_n C [(2, .int (nI a)), (0, .ref (q 3)), (1, .int (nI p))] dX1_pick_6 (by decide) rfl ?_
  refine j_aload_n C 1 dX1_pick_7 rfl ?_
  refine j_get C (v := .ref (q 45)) 3 12 rfl rfl inlC1 (by decide) kf1_49 rfl dX1_pick_8 ?_
  refine j_iload_n C 2 dX1_pick_11 rfl ?_
  refine j_iconst C (v := (nI 0)) dX1_pick_12 (by decide) ?_
  refine j_iastN C 45 0 rfl rfl p rfl (by omega) (by decide) dX1_pick_13 (S, va_up X 45 (upd (X 45) p (nI 0)), P) rfl ?_
  refine j_aload_n C 1 dX1_pick_14 rfl ?_
  refine j_get C (v := .ref (q 36)) 3 1 rfl rfl inlC1 (by decide) kf1_15 rfl dX1_pick_15 ?_
  refine j_iload_n C 0 dX1_pick_18 rfl ?_
  refine j_ialdN C 36 0 rfl rfl a rfl (by omega) (by decide) dX1_pick_19 ?_
  refine j_v (row (10 + a)) (hF.ears a (by omega)) ?_
  refine j_if_ne C 24 dX1_pick_20 (by decide) (fun c20 => ?_) (fun c20 => ?_)
  · skip
    refine j_aload_n C 1 dX1_pick_24 rfl ?_
    refine j_iload_n C 2 dX1_pick_25 rfl ?_
    refine j_callV (As := [.int (nI p)]) (rest := []) C vw1_117 (h_bendsOf_0 (hF.oth (by omega)) e3 hn6 p hp hk ek (hL0.oth (by decide))) ⟨3, 1, _, _, rfl, rfl, rfl⟩ rfl (Nat.le_of_ble_eq_true rfl) dX1_pick_26 (by decide) ?_
    rintro _ _ ⟨rfl, g86, rfl⟩
    refine j_istore_n C [(3, .int (bendF row np (w p) p)), (2, .int (nI a)), (0, .ref (q 3)), (1, .int (nI p))] dX1_pick_29 (by decide) rfl ?_
    refine j_iload_n C 0 dX1_pick_30 rfl ?_
    refine j_aload_n C 2 dX1_pick_31 rfl ?_
    refine j_get C (v := .ref (q 37)) 3 2 rfl rfl inlC1 (by decide) kf1_19 rfl dX1_pick_32 ?_
    refine j_iload_n C 1 dX1_pick_35 rfl ?_
    refine j_ialdN C 37 0 rfl rfl a rfl (by omega) (by decide) dX1_pick_36 ?_
    refine j_v (row (20 + a)) (hF.low a (by omega)) ?_
    refine j_icmp_lt C 75 dX1_pick_37 (by decide) (fun c37 => ?_) (fun c37 => ?_)
    · skip
      refine j_aload_n C 2 dX1_pick_75 rfl ?_
      refine j_get C (v := .ref (q 36)) 3 1 rfl rfl inlC1 (by decide) kf1_15 rfl dX1_pick_76 ?_
      refine j_iload_n C 1 dX1_pick_79 rfl ?_
      refine j_dup2 C dX1_pick_80 rfl rfl ?_
      refine j_ialdN C 36 0 rfl rfl a rfl (by omega) (by decide) dX1_pick_81 ?_
      refine j_v (row (10 + a)) (hF.ears a (by omega)) ?_
      refine j_aload_n C 2 dX1_pick_82 rfl ?_
      refine j_get C (v := .ref (q 45)) 3 12 rfl rfl inlC1 (by decide) kf1_49 rfl dX1_pick_83 ?_
      refine j_iload_n C 3 dX1_pick_86 rfl ?_
      refine j_ialdN C 45 0 rfl rfl p rfl (by omega) (by decide) dX1_pick_87 ?_
      refine j_v (nI 0) (show (upd (X 45) p (nI 0)) p = (nI 0) from by rw [pk_us]) ?_
      refine j_isub C dX1_pick_88 ?_
      refine j_iastN C 36 0 rfl rfl a rfl (by omega) (by decide) dX1_pick_89 (S, va_up (va_up (va_up X 36 (upd (X 36) a ((row (10 + a)) - (nI 0)))) 45 (upd (X 45) p (nI 0))) 86 g86, P) rfl ?_
      refine j_aload_n C 2 dX1_pick_90 rfl ?_
      refine j_get C (v := .ref (q 42)) 3 9 rfl rfl inlC1 (by decide) kf1_40 rfl dX1_pick_91 ?_
      refine j_iload_n C 3 dX1_pick_94 rfl ?_
      refine j_sipush C (v := (nI 9999)) dX1_pick_95 (by decide) ?_
      refine j_aload_n C 2 dX1_pick_98 rfl ?_
      refine j_get C (v := .ref (q 42)) 3 9 rfl rfl inlC1 (by decide) kf1_40 rfl dX1_pick_99 ?_
      refine j_iload_n C 3 dX1_pick_102 rfl ?_
      refine j_ialdN C 42 0 rfl rfl p rfl (by omega) (by decide) dX1_pick_103 ?_
      refine j_v (row (30 + 6 * p + 4)) (hF.per 4 (by omega) p (by omega)) ?_
      refine j_aload_n C 2 dX1_pick_104 rfl ?_
      refine j_get C (v := .ref (q 45)) 3 12 rfl rfl inlC1 (by decide) kf1_49 rfl dX1_pick_105 ?_
      refine j_iload_n C 3 dX1_pick_108 rfl ?_
      refine j_ialdN C 45 0 rfl rfl p rfl (by omega) (by decide) dX1_pick_109 ?_
      refine j_v (nI 0) (show (upd (X 45) p (nI 0)) p = (nI 0) from by rw [pk_us]) ?_
      refine j_iadd C dX1_pick_110 ?_
      refine j_mmin (rest := [.int (nI p), .ref (q 42)]) C mn1_67 (by decide) (Nat.le_of_ble_eq_true rfl) dX1_pick_111 ?_
      refine j_iastN C 42 0 rfl rfl p rfl (by omega) (by decide) dX1_pick_114 (S, va_up (va_up (va_up (va_up X 36 (upd (X 36) a ((row (10 + a)) - (nI 0)))) 42 (upd (X 42) p (if ((row (30 + 6 * p + 4)) + (nI 0)) < (nI 9999) then ((row (30 + 6 * p + 4)) + (nI 0)) else (nI 9999)))) 45 (upd (X 45) p (nI 0))) 86 g86, P) rfl ?_
      refine j_vret C dX1_pick_115 ?_
      have hv := pickV_eq (np := np) (w := w p) ea (by omega)
      rw [if_neg (c := row (20 + a) ≤ bendF row np (w p) p) (ltn c37), if_neg (by rw [ee, nI_ltI (by omega) (by omega)]; omega)] at hv
      obtain ⟨t, ht, hvt⟩ := pickV_le (np := np) (w := w p) ea (by omega) ee (by omega)
      have hbb := hld_min (x := row (30 + 6 * p + 4) + pickV row np (w p) p) (t := b + t) (by rw [eb, hvt, nI_add]) (by omega)
      refine ⟨_, rfl, ?_, ((((FrX.rf.up (by omega)).up (by omega)).up (by omega)).up (by omega)), ?_⟩
      · rw [pickF_eq ea (by omega), hbb, hv]
        exact ((((hF.setE hc10 a ha _).setP hc10 4 (by omega) p _).oth (by omega)).oth (by omega))
      · rw [hv, va_n (by omega), va_s]
    · skip
      refine j_aload_n C 2 dX1_pick_40 rfl ?_
      refine j_get C (v := .ref (q 45)) 3 12 rfl rfl inlC1 (by decide) kf1_49 rfl dX1_pick_41 ?_
      refine j_iload_n C 3 dX1_pick_44 rfl ?_
      refine j_aload_n C 2 dX1_pick_45 rfl ?_
      refine j_get C (v := .ref (q 36)) 3 1 rfl rfl inlC1 (by decide) kf1_15 rfl dX1_pick_46 ?_
      refine j_iload_n C 1 dX1_pick_49 rfl ?_
      refine j_ialdN C 36 0 rfl rfl a rfl (by omega) (by decide) dX1_pick_50 ?_
      refine j_v (row (10 + a)) (hF.ears a (by omega)) ?_
      refine j_aload_n C 2 dX1_pick_51 rfl ?_
      refine j_get C (v := .ref (q 7)) 3 15 rfl rfl inlC1 (by decide) kf1_60 rfl dX1_pick_52 ?_
      refine j_iload_n C 0 dX1_pick_55 rfl ?_
      refine j_aload_n C 2 dX1_pick_56 rfl ?_
      refine j_get C (v := .ref (q 36)) 3 1 rfl rfl inlC1 (by decide) kf1_15 rfl dX1_pick_57 ?_
      refine j_iload_n C 1 dX1_pick_60 rfl ?_
      refine j_ialdN C 36 0 rfl rfl a rfl (by omega) (by decide) dX1_pick_61 ?_
      refine j_v (row (10 + a)) (hF.ears a (by omega)) ?_
      refine j_aload_n C 2 dX1_pick_62 rfl ?_
      refine j_get C (v := .ref (q 39)) 3 6 rfl rfl inlC1 (by decide) kf1_31 rfl dX1_pick_63 ?_
      refine j_iload_n C 3 dX1_pick_66 rfl ?_
      refine j_ialdN C 39 0 rfl rfl p rfl (by omega) (by decide) dX1_pick_67 ?_
      refine j_v (row (30 + 6 * p + 1)) (hF.per 1 (by omega) p (by omega)) ?_
      refine j_callVN (As := [.int (bendF row np (w p) p), .int (row (10 + a)), .int (row (30 + 6 * p + 1))]) (rest := [.int (row (10 + a)), .int (nI p), .ref (q 45)]) C vn1_82 (h_gives_1 ((hL1.oth (by decide)).oth (by decide))) ⟨7, 4, _, _, rfl, rfl, rfl⟩ rfl (Nat.le_of_ble_eq_true rfl) dX1_pick_68 (by decide) ?_
      rintro _ _ ⟨rfl, g87, rfl⟩
      refine j_mmin (rest := [.int (nI p), .ref (q 45)]) C mn1_67 (by decide) (Nat.le_of_ble_eq_true rfl) dX1_pick_71 ?_
      refine j_iastN C 45 0 rfl rfl p rfl (by omega) (by decide) dX1_pick_74 (S, va_up (va_up (va_up X 45 (upd (upd (X 45) p (nI 0)) p (if (lawF row 1 (bendF row np (w p) p) (row (10 + a)) (row (30 + 6 * p + 1))) < (row (10 + a)) then (lawF row 1 (bendF row np (w p) p) (row (10 + a)) (row (30 + 6 * p + 1))) else (row (10 + a))))) 86 g86) 87 g87, P) rfl ?_
      refine j_aload_n C 2 dX1_pick_75 rfl ?_
      refine j_get C (v := .ref (q 36)) 3 1 rfl rfl inlC1 (by decide) kf1_15 rfl dX1_pick_76 ?_
      refine j_iload_n C 1 dX1_pick_79 rfl ?_
      refine j_dup2 C dX1_pick_80 rfl rfl ?_
      refine j_ialdN C 36 0 rfl rfl a rfl (by omega) (by decide) dX1_pick_81 ?_
      refine j_v (row (10 + a)) (hF.ears a (by omega)) ?_
      refine j_aload_n C 2 dX1_pick_82 rfl ?_
      refine j_get C (v := .ref (q 45)) 3 12 rfl rfl inlC1 (by decide) kf1_49 rfl dX1_pick_83 ?_
      refine j_iload_n C 3 dX1_pick_86 rfl ?_
      refine j_ialdN C 45 0 rfl rfl p rfl (by omega) (by decide) dX1_pick_87 ?_
      refine j_v (if (lawF row 1 (bendF row np (w p) p) (row (10 + a)) (row (30 + 6 * p + 1))) < (row (10 + a)) then (lawF row 1 (bendF row np (w p) p) (row (10 + a)) (row (30 + 6 * p + 1))) else (row (10 + a))) (show (upd (upd (X 45) p (nI 0)) p (if (lawF row 1 (bendF row np (w p) p) (row (10 + a)) (row (30 + 6 * p + 1))) < (row (10 + a)) then (lawF row 1 (bendF row np (w p) p) (row (10 + a)) (row (30 + 6 * p + 1))) else (row (10 + a)))) p = (if (lawF row 1 (bendF row np (w p) p) (row (10 + a)) (row (30 + 6 * p + 1))) < (row (10 + a)) then (lawF row 1 (bendF row np (w p) p) (row (10 + a)) (row (30 + 6 * p + 1))) else (row (10 + a))) from by rw [pk_us]) ?_
      refine j_isub C dX1_pick_88 ?_
      refine j_iastN C 36 0 rfl rfl a rfl (by omega) (by decide) dX1_pick_89 (S, va_up (va_up (va_up (va_up X 36 (upd (X 36) a ((row (10 + a)) - (if (lawF row 1 (bendF row np (w p) p) (row (10 + a)) (row (30 + 6 * p + 1))) < (row (10 + a)) then (lawF row 1 (bendF row np (w p) p) (row (10 + a)) (row (30 + 6 * p + 1))) else (row (10 + a)))))) 45 (upd (upd (X 45) p (nI 0)) p (if (lawF row 1 (bendF row np (w p) p) (row (10 + a)) (row (30 + 6 * p + 1))) < (row (10 + a)) then (lawF row 1 (bendF row np (w p) p) (row (10 + a)) (row (30 + 6 * p + 1))) else (row (10 + a))))) 86 g86) 87 g87, P) rfl ?_
      refine j_aload_n C 2 dX1_pick_90 rfl ?_
      refine j_get C (v := .ref (q 42)) 3 9 rfl rfl inlC1 (by decide) kf1_40 rfl dX1_pick_91 ?_
      refine j_iload_n C 3 dX1_pick_94 rfl ?_
      refine j_sipush C (v := (nI 9999)) dX1_pick_95 (by decide) ?_
      refine j_aload_n C 2 dX1_pick_98 rfl ?_
      refine j_get C (v := .ref (q 42)) 3 9 rfl rfl inlC1 (by decide) kf1_40 rfl dX1_pick_99 ?_
      refine j_iload_n C 3 dX1_pick_102 rfl ?_
      refine j_ialdN C 42 0 rfl rfl p rfl (by omega) (by decide) dX1_pick_103 ?_
      refine j_v (row (30 + 6 * p + 4)) (hF.per 4 (by omega) p (by omega)) ?_
      refine j_aload_n C 2 dX1_pick_104 rfl ?_
      refine j_get C (v := .ref (q 45)) 3 12 rfl rfl inlC1 (by decide) kf1_49 rfl dX1_pick_105 ?_
      refine j_iload_n C 3 dX1_pick_108 rfl ?_
      refine j_ialdN C 45 0 rfl rfl p rfl (by omega) (by decide) dX1_pick_109 ?_
      refine j_v (if (lawF row 1 (bendF row np (w p) p) (row (10 + a)) (row (30 + 6 * p + 1))) < (row (10 + a)) then (lawF row 1 (bendF row np (w p) p) (row (10 + a)) (row (30 + 6 * p + 1))) else (row (10 + a))) (show (upd (upd (X 45) p (nI 0)) p (if (lawF row 1 (bendF row np (w p) p) (row (10 + a)) (row (30 + 6 * p + 1))) < (row (10 + a)) then (lawF row 1 (bendF row np (w p) p) (row (10 + a)) (row (30 + 6 * p + 1))) else (row (10 + a)))) p = (if (lawF row 1 (bendF row np (w p) p) (row (10 + a)) (row (30 + 6 * p + 1))) < (row (10 + a)) then (lawF row 1 (bendF row np (w p) p) (row (10 + a)) (row (30 + 6 * p + 1))) else (row (10 + a))) from by rw [pk_us]) ?_
      refine j_iadd C dX1_pick_110 ?_
      refine j_mmin (rest := [.int (nI p), .ref (q 42)]) C mn1_67 (by decide) (Nat.le_of_ble_eq_true rfl) dX1_pick_111 ?_
      refine j_iastN C 42 0 rfl rfl p rfl (by omega) (by decide) dX1_pick_114 (S, va_up (va_up (va_up (va_up (va_up X 36 (upd (X 36) a ((row (10 + a)) - (if (lawF row 1 (bendF row np (w p) p) (row (10 + a)) (row (30 + 6 * p + 1))) < (row (10 + a)) then (lawF row 1 (bendF row np (w p) p) (row (10 + a)) (row (30 + 6 * p + 1))) else (row (10 + a)))))) 42 (upd (X 42) p (if ((row (30 + 6 * p + 4)) + (if (lawF row 1 (bendF row np (w p) p) (row (10 + a)) (row (30 + 6 * p + 1))) < (row (10 + a)) then (lawF row 1 (bendF row np (w p) p) (row (10 + a)) (row (30 + 6 * p + 1))) else (row (10 + a)))) < (nI 9999) then ((row (30 + 6 * p + 4)) + (if (lawF row 1 (bendF row np (w p) p) (row (10 + a)) (row (30 + 6 * p + 1))) < (row (10 + a)) then (lawF row 1 (bendF row np (w p) p) (row (10 + a)) (row (30 + 6 * p + 1))) else (row (10 + a)))) else (nI 9999)))) 45 (upd (upd (X 45) p (nI 0)) p (if (lawF row 1 (bendF row np (w p) p) (row (10 + a)) (row (30 + 6 * p + 1))) < (row (10 + a)) then (lawF row 1 (bendF row np (w p) p) (row (10 + a)) (row (30 + 6 * p + 1))) else (row (10 + a))))) 86 g86) 87 g87, P) rfl ?_
      refine j_vret C dX1_pick_115 ?_
      have hv := pickV_eq (np := np) (w := w p) ea (by omega)
      rw [if_pos (c := row (20 + a) ≤ bendF row np (w p) p) (nlt c37), ← min_sw] at hv
      obtain ⟨t, ht, hvt⟩ := pickV_le (np := np) (w := w p) ea (by omega) ee (by omega)
      have hbb := hld_min (x := row (30 + 6 * p + 4) + pickV row np (w p) p) (t := b + t) (by rw [eb, hvt, nI_add]) (by omega)
      refine ⟨_, rfl, ?_, (((((FrX.rf.up (by omega)).up (by omega)).up (by omega)).up (by omega)).up (by omega)), ?_⟩
      · rw [pickF_eq ea (by omega), hbb, hv]
        exact (((((hF.setE hc10 a ha _).setP hc10 4 (by omega) p _).oth (by omega)).oth (by omega)).oth (by omega))
      · rw [hv, va_n (by omega), va_n (by omega), va_s]; exact upd_uu _ _ _ _
  · skip
    refine j_vret C dX1_pick_23 ?_
    obtain ⟨hv, hpf⟩ := pick_0 (np := np) (w := w p) ea (by omega) c20 eb hb
    refine ⟨_, rfl, ?_, FrX.rf.up (by omega), ?_⟩
    · rw [hpf]; exact hF.oth (by omega)
    · rw [hv]; exact va_s
theorem dX1_walk_0 : decode cX1_walk 0 = .ok (.aload_n 0, 1) := by decide +kernel
theorem dX1_walk_1 : decode cX1_walk 1 = .ok (.getfield 34, 3) := by decide +kernel
theorem dX1_walk_4 : decode cX1_walk 4 = .ok (.iload_n 1, 1) := by decide +kernel
theorem dX1_walk_5 : decode cX1_walk 5 = .ok (.iaload, 1) := by decide +kernel
theorem dX1_walk_6 : decode cX1_walk 6 = .ok (.aload_n 0, 1) := by decide +kernel
theorem dX1_walk_7 : decode cX1_walk 7 = .ok (.getfield 37, 3) := by decide +kernel
theorem dX1_walk_10 : decode cX1_walk 10 = .ok (.iload_n 1, 1) := by decide +kernel
theorem dX1_walk_11 : decode cX1_walk 11 = .ok (.iaload, 1) := by decide +kernel
theorem dX1_walk_12 : decode cX1_walk 12 = .ok (.iadd, 1) := by decide +kernel
theorem dX1_walk_13 : decode cX1_walk 13 = .ok (.istore_n 2, 1) := by decide +kernel
theorem dX1_walk_14 : decode cX1_walk 14 = .ok (.iload_n 2, 1) := by decide +kernel
theorem dX1_walk_15 : decode cX1_walk 15 = .ok (.ifCond .lt 21, 3) := by decide +kernel
theorem dX1_walk_18 : decode cX1_walk 18 = .ok (.iload_n 2, 1) := by decide +kernel
theorem dX1_walk_19 : decode cX1_walk 19 = .ok (.aload_n 0, 1) := by decide +kernel
theorem dX1_walk_20 : decode cX1_walk 20 = .ok (.getfield 9, 3) := by decide +kernel
theorem dX1_walk_23 : decode cX1_walk 23 = .ok (.if_icmp .ge 13, 3) := by decide +kernel
theorem dX1_walk_26 : decode cX1_walk 26 = .ok (.aload_n 0, 1) := by decide +kernel
theorem dX1_walk_27 : decode cX1_walk 27 = .ok (.getfield 34, 3) := by decide +kernel
theorem dX1_walk_30 : decode cX1_walk 30 = .ok (.iload_n 1, 1) := by decide +kernel
theorem dX1_walk_31 : decode cX1_walk 31 = .ok (.iload_n 2, 1) := by decide +kernel
theorem dX1_walk_32 : decode cX1_walk 32 = .ok (.iastore, 1) := by decide +kernel
theorem dX1_walk_33 : decode cX1_walk 33 = .ok (.goto 16, 3) := by decide +kernel
theorem dX1_walk_36 : decode cX1_walk 36 = .ok (.aload_n 0, 1) := by decide +kernel
theorem dX1_walk_37 : decode cX1_walk 37 = .ok (.getfield 37, 3) := by decide +kernel
theorem dX1_walk_40 : decode cX1_walk 40 = .ok (.iload_n 1, 1) := by decide +kernel
theorem dX1_walk_41 : decode cX1_walk 41 = .ok (.aload_n 0, 1) := by decide +kernel
theorem dX1_walk_42 : decode cX1_walk 42 = .ok (.getfield 37, 3) := by decide +kernel
theorem dX1_walk_45 : decode cX1_walk 45 = .ok (.iload_n 1, 1) := by decide +kernel
theorem dX1_walk_46 : decode cX1_walk 46 = .ok (.iaload, 1) := by decide +kernel
theorem dX1_walk_47 : decode cX1_walk 47 = .ok (.ineg, 1) := by decide +kernel
theorem dX1_walk_48 : decode cX1_walk 48 = .ok (.iastore, 1) := by decide +kernel
theorem dX1_walk_49 : decode cX1_walk 49 = .ok (.return_, 1) := by decide +kernel
set_option maxHeartbeats 2000000 in
set_option maxRecDepth 20000 in
theorem h_walk_0 {l : Launch} {D : va_G} {cI cG cW : ClassId} {q : Nat → Nat} {S : Nat → Int32} {X : Nat → Nat → Int32} {P : Nat → Nat} {row w : Nat → Int32} {nc np : Nat} (hF : CF S X 0 row w nc np) {nw : Nat} (hI : Iv row nc np nw) (p : Nat) (hp : p < np) : Cv l yX1_walk cX1_walk 3 none 0 D (tyL cI cG cW) (wC cI cG cW q) [.ref (q 3), .int (nI p)] (S, X, P) (fun τ => ∃ X', τ = (S, X', P) ∧ CF S X' 0 (goF row p) w nc np ∧ FrX 0 X' X ∧ X' 45 = X 45) := by
  refine Cv.of (by decide) (Nat.le_of_ble_eq_true rfl) ?_
  intro p_ e_ s_ m_ b_ M_ c_ A_ C
  replace C : Cx _ _ _ _ _ _ _ _ RX1 _ _ _ _ := C
  refine j_L [0, 1] [(0, .ref (q 3)), (1, .int (nI p))] rfl ?_
  obtain ⟨⟨e2, hc2, hc10⟩, ⟨e3, hn6⟩, -, hP, hE, hLo, -, -⟩ := id hI
  obtain ⟨⟨k, hk, ek⟩, -, ⟨a, ha, ea⟩, hway, ⟨b, hb, eb⟩, -⟩ := hP p hp
  obtain ⟨e, he, ee⟩ := hE a ha
  refine j_aload_n C 0 dX1_walk_0 rfl ?_
  refine j_get C (v := .ref (q 40)) 3 7 rfl rfl inlC1 (by decide) kf1_34 rfl dX1_walk_1 ?_
  refine j_iload_n C 1 dX1_walk_4 rfl ?_
  refine j_ialdN C 40 0 rfl rfl p rfl (by omega) (by decide) dX1_walk_5 ?_
  refine j_v (row (30 + 6 * p + 2)) (hF.per 2 (by omega) p (by omega)) ?_
  refine j_aload_n C 0 dX1_walk_6 rfl ?_
  refine j_get C (v := .ref (q 41)) 3 8 rfl rfl inlC1 (by decide) kf1_37 rfl dX1_walk_7 ?_
  refine j_iload_n C 1 dX1_walk_10 rfl ?_
  refine j_ialdN C 41 0 rfl rfl p rfl (by omega) (by decide) dX1_walk_11 ?_
  refine j_v (row (30 + 6 * p + 3)) (hF.per 3 (by omega) p (by omega)) ?_
  refine j_iadd C dX1_walk_12 ?_
  refine j_istore_n C [(2, .int ((row (30 + 6 * p + 2)) + (row (30 + 6 * p + 3)))), (0, .ref (q 3)), (1, .int (nI p))] dX1_walk_13 (by decide) rfl ?_
  refine j_iload_n C 0 dX1_walk_14 rfl ?_
  refine j_if_lt C 36 dX1_walk_15 (by decide) (fun c15 => ?_) (fun c15 => ?_)
  · skip
    refine j_aload_n C 1 dX1_walk_36 rfl ?_
    refine j_get C (v := .ref (q 41)) 3 8 rfl rfl inlC1 (by decide) kf1_37 rfl dX1_walk_37 ?_
    refine j_iload_n C 2 dX1_walk_40 rfl ?_
    refine j_aload_n C 1 dX1_walk_41 rfl ?_
    refine j_get C (v := .ref (q 41)) 3 8 rfl rfl inlC1 (by decide) kf1_37 rfl dX1_walk_42 ?_
    refine j_iload_n C 2 dX1_walk_45 rfl ?_
    refine j_ialdN C 41 0 rfl rfl p rfl (by omega) (by decide) dX1_walk_46 ?_
    refine j_v (row (30 + 6 * p + 3)) (hF.per 3 (by omega) p (by omega)) ?_
    refine j_ineg C dX1_walk_47 ?_
    refine j_iastN C 41 0 rfl rfl p rfl (by omega) (by decide) dX1_walk_48 (S, va_up X 41 (upd (X 41) p (-(row (30 + 6 * p + 3)))), P) rfl ?_
    refine j_vret C dX1_walk_49 ?_
    refine ⟨_, rfl, ?_, FrX.rf.up (by omega), va_n (by omega)⟩
    unfold goF
    rw [if_neg (fun h => ((inn_c e2 (by omega) (by omega)).1 h).1 c15)]
    exact hF.setP hc10 3 (by omega) p _
  · skip
    refine j_iload_n C 0 dX1_walk_18 rfl ?_
    refine j_aload_n C 1 dX1_walk_19 rfl ?_
    refine j_get C (v := .int (S 5)) 3 0 rfl rfl inlC1 (by decide) kf1_9 rfl dX1_walk_20 ?_
    refine j_v (row 2) hF.cells ?_
    refine j_icmp_ge C 36 dX1_walk_23 (by decide) (fun c23 => ?_) (fun c23 => ?_)
    · skip
      refine j_aload_n C 1 dX1_walk_36 rfl ?_
      refine j_get C (v := .ref (q 41)) 3 8 rfl rfl inlC1 (by decide) kf1_37 rfl dX1_walk_37 ?_
      refine j_iload_n C 2 dX1_walk_40 rfl ?_
      refine j_aload_n C 1 dX1_walk_41 rfl ?_
      refine j_get C (v := .ref (q 41)) 3 8 rfl rfl inlC1 (by decide) kf1_37 rfl dX1_walk_42 ?_
      refine j_iload_n C 2 dX1_walk_45 rfl ?_
      refine j_ialdN C 41 0 rfl rfl p rfl (by omega) (by decide) dX1_walk_46 ?_
      refine j_v (row (30 + 6 * p + 3)) (hF.per 3 (by omega) p (by omega)) ?_
      refine j_ineg C dX1_walk_47 ?_
      refine j_iastN C 41 0 rfl rfl p rfl (by omega) (by decide) dX1_walk_48 (S, va_up X 41 (upd (X 41) p (-(row (30 + 6 * p + 3)))), P) rfl ?_
      refine j_vret C dX1_walk_49 ?_
      refine ⟨_, rfl, ?_, FrX.rf.up (by omega), va_n (by omega)⟩
      unfold goF
      rw [if_neg (fun h => ((inn_c e2 (by omega) (by omega)).1 h).2 c23)]
      exact hF.setP hc10 3 (by omega) p _
    · skip
      refine j_aload_n C 1 dX1_walk_26 rfl ?_
      refine j_get C (v := .ref (q 40)) 3 7 rfl rfl inlC1 (by decide) kf1_34 rfl dX1_walk_27 ?_
      refine j_iload_n C 2 dX1_walk_30 rfl ?_
      refine j_iload_n C 0 dX1_walk_31 rfl ?_
      refine j_iastN C 40 0 rfl rfl p rfl (by omega) (by decide) dX1_walk_32 (S, va_up X 40 (upd (X 40) p ((row (30 + 6 * p + 2)) + (row (30 + 6 * p + 3)))), P) rfl ?_
      refine j_goto C 49 dX1_walk_33 (by decide) ?_
      refine j_vret C dX1_walk_49 ?_
      refine ⟨_, rfl, ?_, FrX.rf.up (by omega), va_n (by omega)⟩
      unfold goF
      rw [if_pos ((inn_c e2 (by omega) (by omega)).2 ⟨c15, c23⟩)]
      exact hF.setP hc10 2 (by omega) p _
theorem dX11_sumOf_0 : decode cX11_sumOf 0 = .ok (.iconst 0, 1) := by decide +kernel
theorem dX11_sumOf_1 : decode cX11_sumOf 1 = .ok (.istore_n 2, 1) := by decide +kernel
theorem dX11_sumOf_2 : decode cX11_sumOf 2 = .ok (.iconst 0, 1) := by decide +kernel
theorem dX11_sumOf_3 : decode cX11_sumOf 3 = .ok (.istore_n 3, 1) := by decide +kernel
theorem dX11_sumOf_4 : decode cX11_sumOf 4 = .ok (.iload_n 3, 1) := by decide +kernel
theorem dX11_sumOf_5 : decode cX11_sumOf 5 = .ok (.iload_n 1, 1) := by decide +kernel
theorem dX11_sumOf_6 : decode cX11_sumOf 6 = .ok (.if_icmp .ge 21, 3) := by decide +kernel
theorem dX11_sumOf_9 : decode cX11_sumOf 9 = .ok (.iload_n 3, 1) := by decide +kernel
theorem dX11_sumOf_10 : decode cX11_sumOf 10 = .ok (.aload_n 0, 1) := by decide +kernel
theorem dX11_sumOf_11 : decode cX11_sumOf 11 = .ok (.arraylength, 1) := by decide +kernel
theorem dX11_sumOf_12 : decode cX11_sumOf 12 = .ok (.if_icmp .ge 15, 3) := by decide +kernel
theorem dX11_sumOf_15 : decode cX11_sumOf 15 = .ok (.iload_n 2, 1) := by decide +kernel
theorem dX11_sumOf_16 : decode cX11_sumOf 16 = .ok (.aload_n 0, 1) := by decide +kernel
theorem dX11_sumOf_17 : decode cX11_sumOf 17 = .ok (.iload_n 3, 1) := by decide +kernel
theorem dX11_sumOf_18 : decode cX11_sumOf 18 = .ok (.iaload, 1) := by decide +kernel
theorem dX11_sumOf_19 : decode cX11_sumOf 19 = .ok (.iadd, 1) := by decide +kernel
theorem dX11_sumOf_20 : decode cX11_sumOf 20 = .ok (.istore_n 2, 1) := by decide +kernel
theorem dX11_sumOf_21 : decode cX11_sumOf 21 = .ok (.iinc 3 1, 3) := by decide +kernel
theorem dX11_sumOf_24 : decode cX11_sumOf 24 = .ok (.goto (-20), 3) := by decide +kernel
theorem dX11_sumOf_27 : decode cX11_sumOf 27 = .ok (.iload_n 2, 1) := by decide +kernel
theorem dX11_sumOf_28 : decode cX11_sumOf 28 = .ok (.ireturn, 1) := by decide +kernel
set_option maxHeartbeats 2000000 in
set_option maxRecDepth 20000 in
theorem h_sumOf_0 {l : Launch} {D : va_G} {cI cG cW : ClassId} {q : Nat → Nat} {S : Nat → Int32} {X : Nat → Nat → Int32} {P : Nat → Nat} {row w : Nat → Int32} {nc np : Nat} (hF : CF S X 0 row w nc np) (hn6 : np ≤ 6) : Ci l yX11_sumOf cX11_sumOf 4 (some .int) 0 D (tyL cI cG cW) (wC cI cG cW q) [.ref (q 42), .int (nI np)] (S, X, P) (fun r τ => r = sumF row 4 np ∧ τ = (S, X, P)) := by
  refine Ci.of (by decide) (Nat.le_of_ble_eq_true rfl) ?_
  intro p_ e_ s_ m_ b_ M_ c_ A_ C
  replace C : Cx _ _ _ _ _ _ _ _ RX11 _ _ _ _ := C
  refine j_L [0, 1] [(0, .ref (q 42)), (1, .int (nI np))] rfl ?_
  refine j_iconst C (v := (nI 0)) dX11_sumOf_0 (by decide) ?_
  refine j_istore_n C [(2, .int (nI 0)), (0, .ref (q 42)), (1, .int (nI np))] dX11_sumOf_1 (by decide) rfl ?_
  refine j_iconst C (v := (nI 0)) dX11_sumOf_2 (by decide) ?_
  refine j_istore_n C [(3, .int (nI 0)), (2, .int (nI 0)), (0, .ref (q 42)), (1, .int (nI np))] dX11_sumOf_3 (by decide) rfl ?_
  refine j_L [2, 3, 1, 0] [(0, .ref (q 42)), (1, .int (nI np)), (2, .int (nI 0)), (3, .int (nI 0))] rfl ?_
  refine j_loop (X := Nat × Int32) (fun (z : Nat × Int32) => match z with | (i, s) => i ≤ np ∧ s = sumF row 4 i) (fun (z : Nat × Int32) => match z with | (i, s) => np - i) (fun (z : Nat × Int32) => match z with | (i, s) => (S, X, P)) (fun (z : Nat × Int32) => match z with | (i, s) => [(0, .ref (q 42)), (1, .int (nI np)), (2, .int s), (3, .int (nI i))]) (0, 0) (⟨Nat.zero_le _, rfl⟩) rfl rfl ?_
  rintro ⟨i, s⟩ ⟨hi, hs⟩ ih
  try dsimp only at ih ⊢
  refine j_iload_n C 3 dX11_sumOf_4 rfl ?_
  refine j_iload_n C 1 dX11_sumOf_5 rfl ?_
  refine j_icmp_ge C 27 dX11_sumOf_6 (by decide) (fun c6 => ?_) (fun c6 => ?_)
  · rw [nI_leI (by omega) (by omega)] at c6
    refine j_iload_n C 2 dX11_sumOf_27 rfl ?_
    refine j_iret C dX11_sumOf_28 ?_
    obtain rfl : i = np := by omega
    exact ⟨hs, rfl⟩
  · rw [nI_leI (by omega) (by omega)] at c6
    refine j_iload_n C 3 dX11_sumOf_9 rfl ?_
    refine j_aload_n C 0 dX11_sumOf_10 rfl ?_
    refine j_alen C 42 0 (nI 6) rfl rfl rfl dX11_sumOf_11 ?_
    refine j_icmp_ge C 27 dX11_sumOf_12 (by decide) (fun c12 => ?_) (fun c12 => ?_)
    · rw [nI_leI (by omega) (by omega)] at c12
      exfalso; omega
    · rw [nI_leI (by omega) (by omega)] at c12
      refine j_iload_n C 2 dX11_sumOf_15 rfl ?_
      refine j_aload_n C 0 dX11_sumOf_16 rfl ?_
      refine j_iload_n C 3 dX11_sumOf_17 rfl ?_
      refine j_ialdN C 42 0 rfl rfl i rfl (by omega) (by decide) dX11_sumOf_18 ?_
      refine j_v (row (30 + 6 * i + 4)) (hF.per 4 (by omega) i (by omega)) ?_
      refine j_iadd C dX11_sumOf_19 ?_
      refine j_istore_n C [(2, .int (s + (row (30 + 6 * i + 4)))), (0, .ref (q 42)), (1, .int (nI np)), (3, .int (nI i))] dX11_sumOf_20 (by decide) rfl ?_
      refine j_iinc C (v := (nI (i + 1))) 3 [(3, .int (nI (i + 1))), (2, .int (s + (row (30 + 6 * i + 4)))), (0, .ref (q 42)), (1, .int (nI np))] dX11_sumOf_21 rfl (nI_1 _) (by decide) rfl ?_
      refine j_goto C 4 dX11_sumOf_24 (by decide) ?_
      refine j_L [2, 3, 1, 0] [(0, .ref (q 42)), (1, .int (nI np)), (2, .int (s + (row (30 + 6 * i + 4)))), (3, .int (nI (i + 1)))] rfl ?_
      exact ih (i + 1, s + (row (30 + 6 * i + 4))) (⟨by dsimp only; omega, by dsimp only; rw [sumF, ← hs]⟩) (by dsimp only; omega)
theorem dX1_allBags_0 : decode cX1_allBags 0 = .ok (.aload_n 0, 1) := by decide +kernel
theorem dX1_allBags_1 : decode cX1_allBags 1 = .ok (.getfield 40, 3) := by decide +kernel
theorem dX1_allBags_4 : decode cX1_allBags 4 = .ok (.aload_n 0, 1) := by decide +kernel
theorem dX1_allBags_5 : decode cX1_allBags 5 = .ok (.getfield 25, 3) := by decide +kernel
theorem dX1_allBags_8 : decode cX1_allBags 8 = .ok (.invokestatic 104, 3) := by decide +kernel
theorem dX1_allBags_11 : decode cX1_allBags 11 = .ok (.ireturn, 1) := by decide +kernel
set_option maxHeartbeats 2000000 in
set_option maxRecDepth 20000 in
theorem h_allBags_0 {l : Launch} {D : va_G} {cI cG cW : ClassId} {q : Nat → Nat} {S : Nat → Int32} {X : Nat → Nat → Int32} {P : Nat → Nat} {row w : Nat → Int32} {nc np : Nat} (hF : CF S X 0 row w nc np) (e3 : row 3 = nI np) (hn6 : np ≤ 6) : Ci l yX1_allBags cX1_allBags 1 (some .int) 1 D (tyL cI cG cW) (wC cI cG cW q) [.ref (q 3)] (S, X, P) (fun r τ => r = sumF row 4 np ∧ τ = (S, X, P)) := by
  refine Ci.of (by decide) (Nat.le_of_ble_eq_true rfl) ?_
  intro p_ e_ s_ m_ b_ M_ c_ A_ C
  replace C : Cx _ _ _ _ _ _ _ _ RX1 _ _ _ _ := C
  refine j_L [0] [(0, .ref (q 3))] rfl ?_
  refine j_aload_n C 0 dX1_allBags_0 rfl ?_
  refine j_get C (v := .ref (q 42)) 3 9 rfl rfl inlC1 (by decide) kf1_40 rfl dX1_allBags_1 ?_
  refine j_aload_n C 0 dX1_allBags_4 rfl ?_
  refine j_get C (v := .int (S 7)) 3 4 rfl rfl inlC1 (by decide) kf1_25 rfl dX1_allBags_5 ?_
  refine j_v (nI np) (hF.people.trans e3) ?_
  refine j_callSN (As := [.ref (q 42), .int (nI np)]) (rest := []) C sn1_104 (h_sumOf_0 hF hn6) rfl (Nat.le_of_ble_eq_true rfl) dX1_allBags_8 (by decide) ?_
  rintro _ _ ⟨rfl, rfl⟩
  refine j_iret C dX1_allBags_11 ?_
  exact ⟨rfl, rfl⟩
set_option maxHeartbeats 2000000 in
set_option maxRecDepth 20000 in
theorem h_pick_2 {l : Launch} {D : va_G} {cI cG cW : ClassId} {q : Nat → Nat} {S : Nat → Int32} {X : Nat → Nat → Int32} {P : Nat → Nat} {row w : Nat → Int32} {nc np : Nat} (hF : CF S X 2 row w nc np) {nw : Nat} (hI : Iv row nc np nw) (p : Nat) (hp : p < np) (hL0 : CLaw S X 0 row 0) (hL1 : CLaw S X 1 row 1) : Cv l yX1_pick cX1_pick 4 none 6 D (tyL cI cG cW) (wC cI cG cW q) [.ref (q 5), .int (nI p)] (S, X, P) (fun τ => ∃ X', τ = (S, X', P) ∧ CF S X' 2 (pickF row np (w p) p) w nc np ∧ FrX 2 X' X ∧ X' 65 = upd (X 65) p (pickV row np (w p) p)) := by
  refine Cv.of (by decide) (Nat.le_of_ble_eq_true rfl) ?_
  intro p_ e_ s_ m_ b_ M_ c_ A_ C
  replace C : Cx _ _ _ _ _ _ _ _ RX1 _ _ _ _ := C
  refine j_L [0, 1] [(0, .ref (q 5)), (1, .int (nI p))] rfl ?_
  obtain ⟨⟨e2, hc2, hc10⟩, ⟨e3, hn6⟩, -, hP, hE, hLo, -, -⟩ := id hI
  obtain ⟨⟨k, hk, ek⟩, -, ⟨a, ha, ea⟩, hway, ⟨b, hb, eb⟩, -⟩ := hP p hp
  obtain ⟨e, he, ee⟩ := hE a ha
  refine j_aload_n C 0 dX1_pick_0 rfl ?_
  refine j_get C (v := .ref (q 60)) 5 7 rfl rfl inlC1 (by decide) kf1_34 rfl dX1_pick_1 ?_
  refine j_iload_n C 1 dX1_pick_4 rfl ?_
  refine j_ialdN C 60 0 rfl rfl p rfl (by omega) (by decide) dX1_pick_5 ?_
  refine j_v (nI a) ((hF.per 2 (by omega) p (by omega)).trans ea) ?_
  refine j_istore_n C [(2, .int (nI a)), (0, .ref (q 5)), (1, .int (nI p))] dX1_pick_6 (by decide) rfl ?_
  refine j_aload_n C 1 dX1_pick_7 rfl ?_
  refine j_get C (v := .ref (q 65)) 5 12 rfl rfl inlC1 (by decide) kf1_49 rfl dX1_pick_8 ?_
  refine j_iload_n C 2 dX1_pick_11 rfl ?_
  refine j_iconst C (v := (nI 0)) dX1_pick_12 (by decide) ?_
  refine j_iastN C 65 0 rfl rfl p rfl (by omega) (by decide) dX1_pick_13 (S, va_up X 65 (upd (X 65) p (nI 0)), P) rfl ?_
  refine j_aload_n C 1 dX1_pick_14 rfl ?_
  refine j_get C (v := .ref (q 56)) 5 1 rfl rfl inlC1 (by decide) kf1_15 rfl dX1_pick_15 ?_
  refine j_iload_n C 0 dX1_pick_18 rfl ?_
  refine j_ialdN C 56 0 rfl rfl a rfl (by omega) (by decide) dX1_pick_19 ?_
  refine j_v (row (10 + a)) (hF.ears a (by omega)) ?_
  refine j_if_ne C 24 dX1_pick_20 (by decide) (fun c20 => ?_) (fun c20 => ?_)
  · skip
    refine j_aload_n C 1 dX1_pick_24 rfl ?_
    refine j_iload_n C 2 dX1_pick_25 rfl ?_
    refine j_callV (As := [.int (nI p)]) (rest := []) C vw1_117 (h_bendsOf_2 (hF.oth (by omega)) e3 hn6 p hp hk ek (hL0.oth (by decide))) ⟨5, 1, _, _, rfl, rfl, rfl⟩ rfl (Nat.le_of_ble_eq_true rfl) dX1_pick_26 (by decide) ?_
    rintro _ _ ⟨rfl, g86, rfl⟩
    refine j_istore_n C [(3, .int (bendF row np (w p) p)), (2, .int (nI a)), (0, .ref (q 5)), (1, .int (nI p))] dX1_pick_29 (by decide) rfl ?_
    refine j_iload_n C 0 dX1_pick_30 rfl ?_
    refine j_aload_n C 2 dX1_pick_31 rfl ?_
    refine j_get C (v := .ref (q 57)) 5 2 rfl rfl inlC1 (by decide) kf1_19 rfl dX1_pick_32 ?_
    refine j_iload_n C 1 dX1_pick_35 rfl ?_
    refine j_ialdN C 57 0 rfl rfl a rfl (by omega) (by decide) dX1_pick_36 ?_
    refine j_v (row (20 + a)) (hF.low a (by omega)) ?_
    refine j_icmp_lt C 75 dX1_pick_37 (by decide) (fun c37 => ?_) (fun c37 => ?_)
    · skip
      refine j_aload_n C 2 dX1_pick_75 rfl ?_
      refine j_get C (v := .ref (q 56)) 5 1 rfl rfl inlC1 (by decide) kf1_15 rfl dX1_pick_76 ?_
      refine j_iload_n C 1 dX1_pick_79 rfl ?_
      refine j_dup2 C dX1_pick_80 rfl rfl ?_
      refine j_ialdN C 56 0 rfl rfl a rfl (by omega) (by decide) dX1_pick_81 ?_
      refine j_v (row (10 + a)) (hF.ears a (by omega)) ?_
      refine j_aload_n C 2 dX1_pick_82 rfl ?_
      refine j_get C (v := .ref (q 65)) 5 12 rfl rfl inlC1 (by decide) kf1_49 rfl dX1_pick_83 ?_
      refine j_iload_n C 3 dX1_pick_86 rfl ?_
      refine j_ialdN C 65 0 rfl rfl p rfl (by omega) (by decide) dX1_pick_87 ?_
      refine j_v (nI 0) (show (upd (X 65) p (nI 0)) p = (nI 0) from by rw [pk_us]) ?_
      refine j_isub C dX1_pick_88 ?_
      refine j_iastN C 56 0 rfl rfl a rfl (by omega) (by decide) dX1_pick_89 (S, va_up (va_up (va_up X 56 (upd (X 56) a ((row (10 + a)) - (nI 0)))) 65 (upd (X 65) p (nI 0))) 86 g86, P) rfl ?_
      refine j_aload_n C 2 dX1_pick_90 rfl ?_
      refine j_get C (v := .ref (q 62)) 5 9 rfl rfl inlC1 (by decide) kf1_40 rfl dX1_pick_91 ?_
      refine j_iload_n C 3 dX1_pick_94 rfl ?_
      refine j_sipush C (v := (nI 9999)) dX1_pick_95 (by decide) ?_
      refine j_aload_n C 2 dX1_pick_98 rfl ?_
      refine j_get C (v := .ref (q 62)) 5 9 rfl rfl inlC1 (by decide) kf1_40 rfl dX1_pick_99 ?_
      refine j_iload_n C 3 dX1_pick_102 rfl ?_
      refine j_ialdN C 62 0 rfl rfl p rfl (by omega) (by decide) dX1_pick_103 ?_
      refine j_v (row (30 + 6 * p + 4)) (hF.per 4 (by omega) p (by omega)) ?_
      refine j_aload_n C 2 dX1_pick_104 rfl ?_
      refine j_get C (v := .ref (q 65)) 5 12 rfl rfl inlC1 (by decide) kf1_49 rfl dX1_pick_105 ?_
      refine j_iload_n C 3 dX1_pick_108 rfl ?_
      refine j_ialdN C 65 0 rfl rfl p rfl (by omega) (by decide) dX1_pick_109 ?_
      refine j_v (nI 0) (show (upd (X 65) p (nI 0)) p = (nI 0) from by rw [pk_us]) ?_
      refine j_iadd C dX1_pick_110 ?_
      refine j_mmin (rest := [.int (nI p), .ref (q 62)]) C mn1_67 (by decide) (Nat.le_of_ble_eq_true rfl) dX1_pick_111 ?_
      refine j_iastN C 62 0 rfl rfl p rfl (by omega) (by decide) dX1_pick_114 (S, va_up (va_up (va_up (va_up X 56 (upd (X 56) a ((row (10 + a)) - (nI 0)))) 62 (upd (X 62) p (if ((row (30 + 6 * p + 4)) + (nI 0)) < (nI 9999) then ((row (30 + 6 * p + 4)) + (nI 0)) else (nI 9999)))) 65 (upd (X 65) p (nI 0))) 86 g86, P) rfl ?_
      refine j_vret C dX1_pick_115 ?_
      have hv := pickV_eq (np := np) (w := w p) ea (by omega)
      rw [if_neg (c := row (20 + a) ≤ bendF row np (w p) p) (ltn c37), if_neg (by rw [ee, nI_ltI (by omega) (by omega)]; omega)] at hv
      obtain ⟨t, ht, hvt⟩ := pickV_le (np := np) (w := w p) ea (by omega) ee (by omega)
      have hbb := hld_min (x := row (30 + 6 * p + 4) + pickV row np (w p) p) (t := b + t) (by rw [eb, hvt, nI_add]) (by omega)
      refine ⟨_, rfl, ?_, ((((FrX.rf.up (by omega)).up (by omega)).up (by omega)).up (by omega)), ?_⟩
      · rw [pickF_eq ea (by omega), hbb, hv]
        exact ((((hF.setE hc10 a ha _).setP hc10 4 (by omega) p _).oth (by omega)).oth (by omega))
      · rw [hv, va_n (by omega), va_s]
    · skip
      refine j_aload_n C 2 dX1_pick_40 rfl ?_
      refine j_get C (v := .ref (q 65)) 5 12 rfl rfl inlC1 (by decide) kf1_49 rfl dX1_pick_41 ?_
      refine j_iload_n C 3 dX1_pick_44 rfl ?_
      refine j_aload_n C 2 dX1_pick_45 rfl ?_
      refine j_get C (v := .ref (q 56)) 5 1 rfl rfl inlC1 (by decide) kf1_15 rfl dX1_pick_46 ?_
      refine j_iload_n C 1 dX1_pick_49 rfl ?_
      refine j_ialdN C 56 0 rfl rfl a rfl (by omega) (by decide) dX1_pick_50 ?_
      refine j_v (row (10 + a)) (hF.ears a (by omega)) ?_
      refine j_aload_n C 2 dX1_pick_51 rfl ?_
      refine j_get C (v := .ref (q 7)) 5 15 rfl rfl inlC1 (by decide) kf1_60 rfl dX1_pick_52 ?_
      refine j_iload_n C 0 dX1_pick_55 rfl ?_
      refine j_aload_n C 2 dX1_pick_56 rfl ?_
      refine j_get C (v := .ref (q 56)) 5 1 rfl rfl inlC1 (by decide) kf1_15 rfl dX1_pick_57 ?_
      refine j_iload_n C 1 dX1_pick_60 rfl ?_
      refine j_ialdN C 56 0 rfl rfl a rfl (by omega) (by decide) dX1_pick_61 ?_
      refine j_v (row (10 + a)) (hF.ears a (by omega)) ?_
      refine j_aload_n C 2 dX1_pick_62 rfl ?_
      refine j_get C (v := .ref (q 59)) 5 6 rfl rfl inlC1 (by decide) kf1_31 rfl dX1_pick_63 ?_
      refine j_iload_n C 3 dX1_pick_66 rfl ?_
      refine j_ialdN C 59 0 rfl rfl p rfl (by omega) (by decide) dX1_pick_67 ?_
      refine j_v (row (30 + 6 * p + 1)) (hF.per 1 (by omega) p (by omega)) ?_
      refine j_callVN (As := [.int (bendF row np (w p) p), .int (row (10 + a)), .int (row (30 + 6 * p + 1))]) (rest := [.int (row (10 + a)), .int (nI p), .ref (q 65)]) C vn1_82 (h_gives_1 ((hL1.oth (by decide)).oth (by decide))) ⟨7, 4, _, _, rfl, rfl, rfl⟩ rfl (Nat.le_of_ble_eq_true rfl) dX1_pick_68 (by decide) ?_
      rintro _ _ ⟨rfl, g87, rfl⟩
      refine j_mmin (rest := [.int (nI p), .ref (q 65)]) C mn1_67 (by decide) (Nat.le_of_ble_eq_true rfl) dX1_pick_71 ?_
      refine j_iastN C 65 0 rfl rfl p rfl (by omega) (by decide) dX1_pick_74 (S, va_up (va_up (va_up X 65 (upd (upd (X 65) p (nI 0)) p (if (lawF row 1 (bendF row np (w p) p) (row (10 + a)) (row (30 + 6 * p + 1))) < (row (10 + a)) then (lawF row 1 (bendF row np (w p) p) (row (10 + a)) (row (30 + 6 * p + 1))) else (row (10 + a))))) 86 g86) 87 g87, P) rfl ?_
      refine j_aload_n C 2 dX1_pick_75 rfl ?_
      refine j_get C (v := .ref (q 56)) 5 1 rfl rfl inlC1 (by decide) kf1_15 rfl dX1_pick_76 ?_
      refine j_iload_n C 1 dX1_pick_79 rfl ?_
      refine j_dup2 C dX1_pick_80 rfl rfl ?_
      refine j_ialdN C 56 0 rfl rfl a rfl (by omega) (by decide) dX1_pick_81 ?_
      refine j_v (row (10 + a)) (hF.ears a (by omega)) ?_
      refine j_aload_n C 2 dX1_pick_82 rfl ?_
      refine j_get C (v := .ref (q 65)) 5 12 rfl rfl inlC1 (by decide) kf1_49 rfl dX1_pick_83 ?_
      refine j_iload_n C 3 dX1_pick_86 rfl ?_
      refine j_ialdN C 65 0 rfl rfl p rfl (by omega) (by decide) dX1_pick_87 ?_
      refine j_v (if (lawF row 1 (bendF row np (w p) p) (row (10 + a)) (row (30 + 6 * p + 1))) < (row (10 + a)) then (lawF row 1 (bendF row np (w p) p) (row (10 + a)) (row (30 + 6 * p + 1))) else (row (10 + a))) (show (upd (upd (X 65) p (nI 0)) p (if (lawF row 1 (bendF row np (w p) p) (row (10 + a)) (row (30 + 6 * p + 1))) < (row (10 + a)) then (lawF row 1 (bendF row np (w p) p) (row (10 + a)) (row (30 + 6 * p + 1))) else (row (10 + a)))) p = (if (lawF row 1 (bendF row np (w p) p) (row (10 + a)) (row (30 + 6 * p + 1))) < (row (10 + a)) then (lawF row 1 (bendF row np (w p) p) (row (10 + a)) (row (30 + 6 * p + 1))) else (row (10 + a))) from by rw [pk_us]) ?_
      refine j_isub C dX1_pick_88 ?_
      refine j_iastN C 56 0 rfl rfl a rfl (by omega) (by decide) dX1_pick_89 (S, va_up (va_up (va_up (va_up X 56 (upd (X 56) a ((row (10 + a)) - (if (lawF row 1 (bendF row np (w p) p) (row (10 + a)) (row (30 + 6 * p + 1))) < (row (10 + a)) then (lawF row 1 (bendF row np (w p) p) (row (10 + a)) (row (30 + 6 * p + 1))) else (row (10 + a)))))) 65 (upd (upd (X 65) p (nI 0)) p (if (lawF row 1 (bendF row np (w p) p) (row (10 + a)) (row (30 + 6 * p + 1))) < (row (10 + a)) then (lawF row 1 (bendF row np (w p) p) (row (10 + a)) (row (30 + 6 * p + 1))) else (row (10 + a))))) 86 g86) 87 g87, P) rfl ?_
      refine j_aload_n C 2 dX1_pick_90 rfl ?_
      refine j_get C (v := .ref (q 62)) 5 9 rfl rfl inlC1 (by decide) kf1_40 rfl dX1_pick_91 ?_
      refine j_iload_n C 3 dX1_pick_94 rfl ?_
      refine j_sipush C (v := (nI 9999)) dX1_pick_95 (by decide) ?_
      refine j_aload_n C 2 dX1_pick_98 rfl ?_
      refine j_get C (v := .ref (q 62)) 5 9 rfl rfl inlC1 (by decide) kf1_40 rfl dX1_pick_99 ?_
      refine j_iload_n C 3 dX1_pick_102 rfl ?_
      refine j_ialdN C 62 0 rfl rfl p rfl (by omega) (by decide) dX1_pick_103 ?_
      refine j_v (row (30 + 6 * p + 4)) (hF.per 4 (by omega) p (by omega)) ?_
      refine j_aload_n C 2 dX1_pick_104 rfl ?_
      refine j_get C (v := .ref (q 65)) 5 12 rfl rfl inlC1 (by decide) kf1_49 rfl dX1_pick_105 ?_
      refine j_iload_n C 3 dX1_pick_108 rfl ?_
      refine j_ialdN C 65 0 rfl rfl p rfl (by omega) (by decide) dX1_pick_109 ?_
      refine j_v (if (lawF row 1 (bendF row np (w p) p) (row (10 + a)) (row (30 + 6 * p + 1))) < (row (10 + a)) then (lawF row 1 (bendF row np (w p) p) (row (10 + a)) (row (30 + 6 * p + 1))) else (row (10 + a))) (show (upd (upd (X 65) p (nI 0)) p (if (lawF row 1 (bendF row np (w p) p) (row (10 + a)) (row (30 + 6 * p + 1))) < (row (10 + a)) then (lawF row 1 (bendF row np (w p) p) (row (10 + a)) (row (30 + 6 * p + 1))) else (row (10 + a)))) p = (if (lawF row 1 (bendF row np (w p) p) (row (10 + a)) (row (30 + 6 * p + 1))) < (row (10 + a)) then (lawF row 1 (bendF row np (w p) p) (row (10 + a)) (row (30 + 6 * p + 1))) else (row (10 + a))) from by rw [pk_us]) ?_
      refine j_iadd C dX1_pick_110 ?_
      refine j_mmin (rest := [.int (nI p), .ref (q 62)]) C mn1_67 (by decide) (Nat.le_of_ble_eq_true rfl) dX1_pick_111 ?_
      refine j_iastN C 62 0 rfl rfl p rfl (by omega) (by decide) dX1_pick_114 (S, va_up (va_up (va_up (va_up (va_up X 56 (upd (X 56) a ((row (10 + a)) - (if (lawF row 1 (bendF row np (w p) p) (row (10 + a)) (row (30 + 6 * p + 1))) < (row (10 + a)) then (lawF row 1 (bendF row np (w p) p) (row (10 + a)) (row (30 + 6 * p + 1))) else (row (10 + a)))))) 62 (upd (X 62) p (if ((row (30 + 6 * p + 4)) + (if (lawF row 1 (bendF row np (w p) p) (row (10 + a)) (row (30 + 6 * p + 1))) < (row (10 + a)) then (lawF row 1 (bendF row np (w p) p) (row (10 + a)) (row (30 + 6 * p + 1))) else (row (10 + a)))) < (nI 9999) then ((row (30 + 6 * p + 4)) + (if (lawF row 1 (bendF row np (w p) p) (row (10 + a)) (row (30 + 6 * p + 1))) < (row (10 + a)) then (lawF row 1 (bendF row np (w p) p) (row (10 + a)) (row (30 + 6 * p + 1))) else (row (10 + a)))) else (nI 9999)))) 65 (upd (upd (X 65) p (nI 0)) p (if (lawF row 1 (bendF row np (w p) p) (row (10 + a)) (row (30 + 6 * p + 1))) < (row (10 + a)) then (lawF row 1 (bendF row np (w p) p) (row (10 + a)) (row (30 + 6 * p + 1))) else (row (10 + a))))) 86 g86) 87 g87, P) rfl ?_
      refine j_vret C dX1_pick_115 ?_
      have hv := pickV_eq (np := np) (w := w p) ea (by omega)
      rw [if_pos (c := row (20 + a) ≤ bendF row np (w p) p) (nlt c37), ← min_sw] at hv
      obtain ⟨t, ht, hvt⟩ := pickV_le (np := np) (w := w p) ea (by omega) ee (by omega)
      have hbb := hld_min (x := row (30 + 6 * p + 4) + pickV row np (w p) p) (t := b + t) (by rw [eb, hvt, nI_add]) (by omega)
      refine ⟨_, rfl, ?_, (((((FrX.rf.up (by omega)).up (by omega)).up (by omega)).up (by omega)).up (by omega)), ?_⟩
      · rw [pickF_eq ea (by omega), hbb, hv]
        exact (((((hF.setE hc10 a ha _).setP hc10 4 (by omega) p _).oth (by omega)).oth (by omega)).oth (by omega))
      · rw [hv, va_n (by omega), va_n (by omega), va_s]; exact upd_uu _ _ _ _
  · skip
    refine j_vret C dX1_pick_23 ?_
    obtain ⟨hv, hpf⟩ := pick_0 (np := np) (w := w p) ea (by omega) c20 eb hb
    refine ⟨_, rfl, ?_, FrX.rf.up (by omega), ?_⟩
    · rw [hpf]; exact hF.oth (by omega)
    · rw [hv]; exact va_s
set_option maxHeartbeats 2000000 in
set_option maxRecDepth 20000 in
theorem h_walk_2 {l : Launch} {D : va_G} {cI cG cW : ClassId} {q : Nat → Nat} {S : Nat → Int32} {X : Nat → Nat → Int32} {P : Nat → Nat} {row w : Nat → Int32} {nc np : Nat} (hF : CF S X 2 row w nc np) {nw : Nat} (hI : Iv row nc np nw) (p : Nat) (hp : p < np) : Cv l yX1_walk cX1_walk 3 none 0 D (tyL cI cG cW) (wC cI cG cW q) [.ref (q 5), .int (nI p)] (S, X, P) (fun τ => ∃ X', τ = (S, X', P) ∧ CF S X' 2 (goF row p) w nc np ∧ FrX 2 X' X ∧ X' 65 = X 65) := by
  refine Cv.of (by decide) (Nat.le_of_ble_eq_true rfl) ?_
  intro p_ e_ s_ m_ b_ M_ c_ A_ C
  replace C : Cx _ _ _ _ _ _ _ _ RX1 _ _ _ _ := C
  refine j_L [0, 1] [(0, .ref (q 5)), (1, .int (nI p))] rfl ?_
  obtain ⟨⟨e2, hc2, hc10⟩, ⟨e3, hn6⟩, -, hP, hE, hLo, -, -⟩ := id hI
  obtain ⟨⟨k, hk, ek⟩, -, ⟨a, ha, ea⟩, hway, ⟨b, hb, eb⟩, -⟩ := hP p hp
  obtain ⟨e, he, ee⟩ := hE a ha
  refine j_aload_n C 0 dX1_walk_0 rfl ?_
  refine j_get C (v := .ref (q 60)) 5 7 rfl rfl inlC1 (by decide) kf1_34 rfl dX1_walk_1 ?_
  refine j_iload_n C 1 dX1_walk_4 rfl ?_
  refine j_ialdN C 60 0 rfl rfl p rfl (by omega) (by decide) dX1_walk_5 ?_
  refine j_v (row (30 + 6 * p + 2)) (hF.per 2 (by omega) p (by omega)) ?_
  refine j_aload_n C 0 dX1_walk_6 rfl ?_
  refine j_get C (v := .ref (q 61)) 5 8 rfl rfl inlC1 (by decide) kf1_37 rfl dX1_walk_7 ?_
  refine j_iload_n C 1 dX1_walk_10 rfl ?_
  refine j_ialdN C 61 0 rfl rfl p rfl (by omega) (by decide) dX1_walk_11 ?_
  refine j_v (row (30 + 6 * p + 3)) (hF.per 3 (by omega) p (by omega)) ?_
  refine j_iadd C dX1_walk_12 ?_
  refine j_istore_n C [(2, .int ((row (30 + 6 * p + 2)) + (row (30 + 6 * p + 3)))), (0, .ref (q 5)), (1, .int (nI p))] dX1_walk_13 (by decide) rfl ?_
  refine j_iload_n C 0 dX1_walk_14 rfl ?_
  refine j_if_lt C 36 dX1_walk_15 (by decide) (fun c15 => ?_) (fun c15 => ?_)
  · skip
    refine j_aload_n C 1 dX1_walk_36 rfl ?_
    refine j_get C (v := .ref (q 61)) 5 8 rfl rfl inlC1 (by decide) kf1_37 rfl dX1_walk_37 ?_
    refine j_iload_n C 2 dX1_walk_40 rfl ?_
    refine j_aload_n C 1 dX1_walk_41 rfl ?_
    refine j_get C (v := .ref (q 61)) 5 8 rfl rfl inlC1 (by decide) kf1_37 rfl dX1_walk_42 ?_
    refine j_iload_n C 2 dX1_walk_45 rfl ?_
    refine j_ialdN C 61 0 rfl rfl p rfl (by omega) (by decide) dX1_walk_46 ?_
    refine j_v (row (30 + 6 * p + 3)) (hF.per 3 (by omega) p (by omega)) ?_
    refine j_ineg C dX1_walk_47 ?_
    refine j_iastN C 61 0 rfl rfl p rfl (by omega) (by decide) dX1_walk_48 (S, va_up X 61 (upd (X 61) p (-(row (30 + 6 * p + 3)))), P) rfl ?_
    refine j_vret C dX1_walk_49 ?_
    refine ⟨_, rfl, ?_, FrX.rf.up (by omega), va_n (by omega)⟩
    unfold goF
    rw [if_neg (fun h => ((inn_c e2 (by omega) (by omega)).1 h).1 c15)]
    exact hF.setP hc10 3 (by omega) p _
  · skip
    refine j_iload_n C 0 dX1_walk_18 rfl ?_
    refine j_aload_n C 1 dX1_walk_19 rfl ?_
    refine j_get C (v := .int (S 11)) 5 0 rfl rfl inlC1 (by decide) kf1_9 rfl dX1_walk_20 ?_
    refine j_v (row 2) hF.cells ?_
    refine j_icmp_ge C 36 dX1_walk_23 (by decide) (fun c23 => ?_) (fun c23 => ?_)
    · skip
      refine j_aload_n C 1 dX1_walk_36 rfl ?_
      refine j_get C (v := .ref (q 61)) 5 8 rfl rfl inlC1 (by decide) kf1_37 rfl dX1_walk_37 ?_
      refine j_iload_n C 2 dX1_walk_40 rfl ?_
      refine j_aload_n C 1 dX1_walk_41 rfl ?_
      refine j_get C (v := .ref (q 61)) 5 8 rfl rfl inlC1 (by decide) kf1_37 rfl dX1_walk_42 ?_
      refine j_iload_n C 2 dX1_walk_45 rfl ?_
      refine j_ialdN C 61 0 rfl rfl p rfl (by omega) (by decide) dX1_walk_46 ?_
      refine j_v (row (30 + 6 * p + 3)) (hF.per 3 (by omega) p (by omega)) ?_
      refine j_ineg C dX1_walk_47 ?_
      refine j_iastN C 61 0 rfl rfl p rfl (by omega) (by decide) dX1_walk_48 (S, va_up X 61 (upd (X 61) p (-(row (30 + 6 * p + 3)))), P) rfl ?_
      refine j_vret C dX1_walk_49 ?_
      refine ⟨_, rfl, ?_, FrX.rf.up (by omega), va_n (by omega)⟩
      unfold goF
      rw [if_neg (fun h => ((inn_c e2 (by omega) (by omega)).1 h).2 c23)]
      exact hF.setP hc10 3 (by omega) p _
    · skip
      refine j_aload_n C 1 dX1_walk_26 rfl ?_
      refine j_get C (v := .ref (q 60)) 5 7 rfl rfl inlC1 (by decide) kf1_34 rfl dX1_walk_27 ?_
      refine j_iload_n C 2 dX1_walk_30 rfl ?_
      refine j_iload_n C 0 dX1_walk_31 rfl ?_
      refine j_iastN C 60 0 rfl rfl p rfl (by omega) (by decide) dX1_walk_32 (S, va_up X 60 (upd (X 60) p ((row (30 + 6 * p + 2)) + (row (30 + 6 * p + 3)))), P) rfl ?_
      refine j_goto C 49 dX1_walk_33 (by decide) ?_
      refine j_vret C dX1_walk_49 ?_
      refine ⟨_, rfl, ?_, FrX.rf.up (by omega), va_n (by omega)⟩
      unfold goF
      rw [if_pos ((inn_c e2 (by omega) (by omega)).2 ⟨c15, c23⟩)]
      exact hF.setP hc10 2 (by omega) p _
set_option maxHeartbeats 2000000 in
set_option maxRecDepth 20000 in
theorem h_sumOf_2 {l : Launch} {D : va_G} {cI cG cW : ClassId} {q : Nat → Nat} {S : Nat → Int32} {X : Nat → Nat → Int32} {P : Nat → Nat} {row w : Nat → Int32} {nc np : Nat} (hF : CF S X 2 row w nc np) (hn6 : np ≤ 6) : Ci l yX11_sumOf cX11_sumOf 4 (some .int) 0 D (tyL cI cG cW) (wC cI cG cW q) [.ref (q 62), .int (nI np)] (S, X, P) (fun r τ => r = sumF row 4 np ∧ τ = (S, X, P)) := by
  refine Ci.of (by decide) (Nat.le_of_ble_eq_true rfl) ?_
  intro p_ e_ s_ m_ b_ M_ c_ A_ C
  replace C : Cx _ _ _ _ _ _ _ _ RX11 _ _ _ _ := C
  refine j_L [0, 1] [(0, .ref (q 62)), (1, .int (nI np))] rfl ?_
  refine j_iconst C (v := (nI 0)) dX11_sumOf_0 (by decide) ?_
  refine j_istore_n C [(2, .int (nI 0)), (0, .ref (q 62)), (1, .int (nI np))] dX11_sumOf_1 (by decide) rfl ?_
  refine j_iconst C (v := (nI 0)) dX11_sumOf_2 (by decide) ?_
  refine j_istore_n C [(3, .int (nI 0)), (2, .int (nI 0)), (0, .ref (q 62)), (1, .int (nI np))] dX11_sumOf_3 (by decide) rfl ?_
  refine j_L [2, 3, 1, 0] [(0, .ref (q 62)), (1, .int (nI np)), (2, .int (nI 0)), (3, .int (nI 0))] rfl ?_
  refine j_loop (X := Nat × Int32) (fun (z : Nat × Int32) => match z with | (i, s) => i ≤ np ∧ s = sumF row 4 i) (fun (z : Nat × Int32) => match z with | (i, s) => np - i) (fun (z : Nat × Int32) => match z with | (i, s) => (S, X, P)) (fun (z : Nat × Int32) => match z with | (i, s) => [(0, .ref (q 62)), (1, .int (nI np)), (2, .int s), (3, .int (nI i))]) (0, 0) (⟨Nat.zero_le _, rfl⟩) rfl rfl ?_
  rintro ⟨i, s⟩ ⟨hi, hs⟩ ih
  try dsimp only at ih ⊢
  refine j_iload_n C 3 dX11_sumOf_4 rfl ?_
  refine j_iload_n C 1 dX11_sumOf_5 rfl ?_
  refine j_icmp_ge C 27 dX11_sumOf_6 (by decide) (fun c6 => ?_) (fun c6 => ?_)
  · rw [nI_leI (by omega) (by omega)] at c6
    refine j_iload_n C 2 dX11_sumOf_27 rfl ?_
    refine j_iret C dX11_sumOf_28 ?_
    obtain rfl : i = np := by omega
    exact ⟨hs, rfl⟩
  · rw [nI_leI (by omega) (by omega)] at c6
    refine j_iload_n C 3 dX11_sumOf_9 rfl ?_
    refine j_aload_n C 0 dX11_sumOf_10 rfl ?_
    refine j_alen C 62 0 (nI 6) rfl rfl rfl dX11_sumOf_11 ?_
    refine j_icmp_ge C 27 dX11_sumOf_12 (by decide) (fun c12 => ?_) (fun c12 => ?_)
    · rw [nI_leI (by omega) (by omega)] at c12
      exfalso; omega
    · rw [nI_leI (by omega) (by omega)] at c12
      refine j_iload_n C 2 dX11_sumOf_15 rfl ?_
      refine j_aload_n C 0 dX11_sumOf_16 rfl ?_
      refine j_iload_n C 3 dX11_sumOf_17 rfl ?_
      refine j_ialdN C 62 0 rfl rfl i rfl (by omega) (by decide) dX11_sumOf_18 ?_
      refine j_v (row (30 + 6 * i + 4)) (hF.per 4 (by omega) i (by omega)) ?_
      refine j_iadd C dX11_sumOf_19 ?_
      refine j_istore_n C [(2, .int (s + (row (30 + 6 * i + 4)))), (0, .ref (q 62)), (1, .int (nI np)), (3, .int (nI i))] dX11_sumOf_20 (by decide) rfl ?_
      refine j_iinc C (v := (nI (i + 1))) 3 [(3, .int (nI (i + 1))), (2, .int (s + (row (30 + 6 * i + 4)))), (0, .ref (q 62)), (1, .int (nI np))] dX11_sumOf_21 rfl (nI_1 _) (by decide) rfl ?_
      refine j_goto C 4 dX11_sumOf_24 (by decide) ?_
      refine j_L [2, 3, 1, 0] [(0, .ref (q 62)), (1, .int (nI np)), (2, .int (s + (row (30 + 6 * i + 4)))), (3, .int (nI (i + 1)))] rfl ?_
      exact ih (i + 1, s + (row (30 + 6 * i + 4))) (⟨by dsimp only; omega, by dsimp only; rw [sumF, ← hs]⟩) (by dsimp only; omega)
set_option maxHeartbeats 2000000 in
set_option maxRecDepth 20000 in
theorem h_allBags_2 {l : Launch} {D : va_G} {cI cG cW : ClassId} {q : Nat → Nat} {S : Nat → Int32} {X : Nat → Nat → Int32} {P : Nat → Nat} {row w : Nat → Int32} {nc np : Nat} (hF : CF S X 2 row w nc np) (e3 : row 3 = nI np) (hn6 : np ≤ 6) : Ci l yX1_allBags cX1_allBags 1 (some .int) 1 D (tyL cI cG cW) (wC cI cG cW q) [.ref (q 5)] (S, X, P) (fun r τ => r = sumF row 4 np ∧ τ = (S, X, P)) := by
  refine Ci.of (by decide) (Nat.le_of_ble_eq_true rfl) ?_
  intro p_ e_ s_ m_ b_ M_ c_ A_ C
  replace C : Cx _ _ _ _ _ _ _ _ RX1 _ _ _ _ := C
  refine j_L [0] [(0, .ref (q 5))] rfl ?_
  refine j_aload_n C 0 dX1_allBags_0 rfl ?_
  refine j_get C (v := .ref (q 62)) 5 9 rfl rfl inlC1 (by decide) kf1_40 rfl dX1_allBags_1 ?_
  refine j_aload_n C 0 dX1_allBags_4 rfl ?_
  refine j_get C (v := .int (S 13)) 5 4 rfl rfl inlC1 (by decide) kf1_25 rfl dX1_allBags_5 ?_
  refine j_v (nI np) (hF.people.trans e3) ?_
  refine j_callSN (As := [.ref (q 62), .int (nI np)]) (rest := []) C sn1_104 (h_sumOf_2 hF hn6) rfl (Nat.le_of_ble_eq_true rfl) dX1_allBags_8 (by decide) ?_
  rintro _ _ ⟨rfl, rfl⟩
  refine j_iret C dX1_allBags_11 ?_
  exact ⟨rfl, rfl⟩
theorem dX1_firstHungrierThan_0 : decode cX1_firstHungrierThan 0 = .ok (.iconst 0, 1) := by decide +kernel
theorem dX1_firstHungrierThan_1 : decode cX1_firstHungrierThan 1 = .ok (.istore_n 2, 1) := by decide +kernel
theorem dX1_firstHungrierThan_2 : decode cX1_firstHungrierThan 2 = .ok (.iload_n 2, 1) := by decide +kernel
theorem dX1_firstHungrierThan_3 : decode cX1_firstHungrierThan 3 = .ok (.aload_n 0, 1) := by decide +kernel
theorem dX1_firstHungrierThan_4 : decode cX1_firstHungrierThan 4 = .ok (.getfield 25, 3) := by decide +kernel
theorem dX1_firstHungrierThan_7 : decode cX1_firstHungrierThan 7 = .ok (.if_icmp .ge 26, 3) := by decide +kernel
theorem dX1_firstHungrierThan_10 : decode cX1_firstHungrierThan 10 = .ok (.aload_n 0, 1) := by decide +kernel
theorem dX1_firstHungrierThan_11 : decode cX1_firstHungrierThan 11 = .ok (.getfield 43, 3) := by decide +kernel
theorem dX1_firstHungrierThan_14 : decode cX1_firstHungrierThan 14 = .ok (.iload_n 2, 1) := by decide +kernel
theorem dX1_firstHungrierThan_15 : decode cX1_firstHungrierThan 15 = .ok (.iaload, 1) := by decide +kernel
theorem dX1_firstHungrierThan_16 : decode cX1_firstHungrierThan 16 = .ok (.aload_n 1, 1) := by decide +kernel
theorem dX1_firstHungrierThan_17 : decode cX1_firstHungrierThan 17 = .ok (.getfield 43, 3) := by decide +kernel
theorem dX1_firstHungrierThan_20 : decode cX1_firstHungrierThan 20 = .ok (.iload_n 2, 1) := by decide +kernel
theorem dX1_firstHungrierThan_21 : decode cX1_firstHungrierThan 21 = .ok (.iaload, 1) := by decide +kernel
theorem dX1_firstHungrierThan_22 : decode cX1_firstHungrierThan 22 = .ok (.if_icmp .le 5, 3) := by decide +kernel
theorem dX1_firstHungrierThan_25 : decode cX1_firstHungrierThan 25 = .ok (.iload_n 2, 1) := by decide +kernel
theorem dX1_firstHungrierThan_26 : decode cX1_firstHungrierThan 26 = .ok (.ireturn, 1) := by decide +kernel
theorem dX1_firstHungrierThan_27 : decode cX1_firstHungrierThan 27 = .ok (.iinc 2 1, 3) := by decide +kernel
theorem dX1_firstHungrierThan_30 : decode cX1_firstHungrierThan 30 = .ok (.goto (-28), 3) := by decide +kernel
theorem dX1_firstHungrierThan_33 : decode cX1_firstHungrierThan 33 = .ok (.iconst (-1), 1) := by decide +kernel
theorem dX1_firstHungrierThan_34 : decode cX1_firstHungrierThan 34 = .ok (.ireturn, 1) := by decide +kernel
set_option maxHeartbeats 2000000 in
set_option maxRecDepth 20000 in
theorem h_fht {l : Launch} {D : va_G} {cI cG cW : ClassId} {q : Nat → Nat} {S : Nat → Int32} {X : Nat → Nat → Int32} {P : Nat → Nat} {w2 row2 : Nat → Int32} {nc2 : Nat} {row w : Nat → Int32} {nc np : Nat} (hF : CF S X 0 row w nc np) (e3 : row 3 = nI np) (hn6 : np ≤ 6) (hF2 : CF S X 2 row2 w2 nc2 np) (e32 : row2 3 = nI np) : Ci l yX1_firstHungrierThan cX1_firstHungrierThan 3 (some .int) 0 D (tyL cI cG cW) (wC cI cG cW q) [.ref (q 5), .ref (q 3)] (S, X, P) (fun r τ => ((∃ i, i < np ∧ r = nI i ∧ row (30 + 6 * i + 5) < row2 (30 + 6 * i + 5) ∧ ∀ j, j < i → ¬ row (30 + 6 * j + 5) < row2 (30 + 6 * j + 5)) ∨ (r = -1 ∧ ∀ j, j < np → ¬ row (30 + 6 * j + 5) < row2 (30 + 6 * j + 5))) ∧ τ = (S, X, P)) := by
  refine Ci.of (by decide) (Nat.le_of_ble_eq_true rfl) ?_
  intro p_ e_ s_ m_ b_ M_ c_ A_ C
  replace C : Cx _ _ _ _ _ _ _ _ RX1 _ _ _ _ := C
  refine j_L [0, 1] [(0, .ref (q 5)), (1, .ref (q 3))] rfl ?_
  refine j_iconst C (v := (nI 0)) dX1_firstHungrierThan_0 (by decide) ?_
  refine j_istore_n C [(2, .int (nI 0)), (0, .ref (q 5)), (1, .ref (q 3))] dX1_firstHungrierThan_1 (by decide) rfl ?_
  refine j_L [1, 2, 0] [(0, .ref (q 5)), (1, .ref (q 3)), (2, .int (nI 0))] rfl ?_
  refine j_loop (X := Nat) (fun (i : Nat) => i ≤ np ∧ ∀ j, j < i → ¬ row (30 + 6 * j + 5) < row2 (30 + 6 * j + 5)) (fun (i : Nat) => np - i) (fun (i : Nat) => (S, X, P)) (fun (i : Nat) => [(0, .ref (q 5)), (1, .ref (q 3)), (2, .int (nI i))]) (0) (⟨Nat.zero_le _, fun j h => absurd h (Nat.not_lt_zero _)⟩) rfl rfl ?_
  rintro i ⟨hi, hs⟩ ih
  try dsimp only at ih ⊢
  refine j_iload_n C 2 dX1_firstHungrierThan_2 rfl ?_
  refine j_aload_n C 0 dX1_firstHungrierThan_3 rfl ?_
  refine j_get C (v := .int (S 13)) 5 4 rfl rfl inlC1 (by decide) kf1_25 rfl dX1_firstHungrierThan_4 ?_
  refine j_v (nI np) (hF2.people.trans e32) ?_
  refine j_icmp_ge C 33 dX1_firstHungrierThan_7 (by decide) (fun c7 => ?_) (fun c7 => ?_)
  · rw [nI_leI (by omega) (by omega)] at c7
    refine j_iconst C (v := (-1)) dX1_firstHungrierThan_33 (by decide) ?_
    refine j_iret C dX1_firstHungrierThan_34 ?_
    exact ⟨Or.inr ⟨rfl, fun j hj => hs j (by omega)⟩, rfl⟩
  · rw [nI_leI (by omega) (by omega)] at c7
    refine j_aload_n C 0 dX1_firstHungrierThan_10 rfl ?_
    refine j_get C (v := .ref (q 63)) 5 10 rfl rfl inlC1 (by decide) kf1_43 rfl dX1_firstHungrierThan_11 ?_
    refine j_iload_n C 2 dX1_firstHungrierThan_14 rfl ?_
    refine j_ialdN C 63 0 rfl rfl i rfl (by omega) (by decide) dX1_firstHungrierThan_15 ?_
    refine j_v (row2 (30 + 6 * i + 5)) (hF2.per 5 (by omega) i (by omega)) ?_
    refine j_aload_n C 1 dX1_firstHungrierThan_16 rfl ?_
    refine j_get C (v := .ref (q 43)) 3 10 rfl rfl inlC1 (by decide) kf1_43 rfl dX1_firstHungrierThan_17 ?_
    refine j_iload_n C 2 dX1_firstHungrierThan_20 rfl ?_
    refine j_ialdN C 43 0 rfl rfl i rfl (by omega) (by decide) dX1_firstHungrierThan_21 ?_
    refine j_v (row (30 + 6 * i + 5)) (hF.per 5 (by omega) i (by omega)) ?_
    refine j_icmp_le C 27 dX1_firstHungrierThan_22 (by decide) (fun c22 => ?_) (fun c22 => ?_)
    · skip
      refine j_iinc C (v := (nI (i + 1))) 2 [(2, .int (nI (i + 1))), (0, .ref (q 5)), (1, .ref (q 3))] dX1_firstHungrierThan_27 rfl (nI_1 _) (by decide) rfl ?_
      refine j_goto C 2 dX1_firstHungrierThan_30 (by decide) ?_
      refine j_L [1, 2, 0] [(0, .ref (q 5)), (1, .ref (q 3)), (2, .int (nI (i + 1)))] rfl ?_
      exact ih (i + 1) (⟨by omega, fun j hj => by rcases (show j < i ∨ j = i by omega) with g | rfl; exact hs j g; exact lnl c22⟩) (by omega)
    · skip
      refine j_iload_n C 2 dX1_firstHungrierThan_25 rfl ?_
      refine j_iret C dX1_firstHungrierThan_26 ?_
      exact ⟨Or.inl ⟨i, by omega, rfl, nle c22, hs⟩, rfl⟩

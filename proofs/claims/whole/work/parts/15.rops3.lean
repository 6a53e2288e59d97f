/-! The reference's public calls: dawns and what would be (1). -/
theorem cnt_4 {V row : Nat → Int32} {nc : Nat} (e2 : row 2 = nI nc) (h : nc ≤ 10) : cntF V row 4 = earF row nc := by show earF row (tN (row 2)) = _; rw [e2, tN_nI (by omega)]
theorem cnt_5 {V row : Nat → Int32} {np : Nat} (e3 : row 3 = nI np) (h : np ≤ 6) : cntF V row 5 = sumF row 4 np := by show sumF row 4 (tN (row 3)) = _; rw [e3, tN_nI (by omega)]
theorem cnt_6 {V row : Nat → Int32} {np : Nat} (e3 : row 3 = nI np) (h : np ≤ 6) : cntF V row 6 = sumF row 5 np := by show sumF row 5 (tN (row 3)) = _; rw [e3, tN_nI (by omega)]
theorem n10 {x : Int32} (h : ¬ inn x (nI 0) (nI 10)) : x.toInt < 0 ∨ 10 < x.toInt := by
  have e0 : (nI 0).toInt = 0 := rfl
  have e1 : (nI 10).toInt = 10 := by decide
  rcases Classical.em (x.toInt < 0) with g | g
  · exact Or.inl g
  · refine Or.inr ?_
    rcases Classical.em (10 < x.toInt) with k | k
    · exact k
    · exact absurd ⟨by rw [Int32.le_iff_toInt_le, e0]; omega, by rw [Int32.le_iff_toInt_le, e1]; omega⟩ h

theorem dX12_count_0 : decode cX12_count 0 = .ok (.iload_n 1, 1) := by decide +kernel
theorem dX12_count_1 : decode cX12_count 1 = .ok (.tableswitch 131 0 10 #[59, 66, 73, 81, 88, 93, 99, 105, 112, 119, 124], 59) := by decide +kernel
theorem dX12_count_60 : decode cX12_count 60 = .ok (.aload_n 0, 1) := by decide +kernel
theorem dX12_count_61 : decode cX12_count 61 = .ok (.getfield 7, 3) := by decide +kernel
theorem dX12_count_64 : decode cX12_count 64 = .ok (.iconst 2, 1) := by decide +kernel
theorem dX12_count_65 : decode cX12_count 65 = .ok (.iaload, 1) := by decide +kernel
theorem dX12_count_66 : decode cX12_count 66 = .ok (.ireturn, 1) := by decide +kernel
theorem dX12_count_67 : decode cX12_count 67 = .ok (.aload_n 0, 1) := by decide +kernel
theorem dX12_count_68 : decode cX12_count 68 = .ok (.getfield 7, 3) := by decide +kernel
theorem dX12_count_71 : decode cX12_count 71 = .ok (.iconst 3, 1) := by decide +kernel
theorem dX12_count_72 : decode cX12_count 72 = .ok (.iaload, 1) := by decide +kernel
theorem dX12_count_73 : decode cX12_count 73 = .ok (.ireturn, 1) := by decide +kernel
theorem dX12_count_74 : decode cX12_count 74 = .ok (.aload_n 0, 1) := by decide +kernel
theorem dX12_count_75 : decode cX12_count 75 = .ok (.getfield 7, 3) := by decide +kernel
theorem dX12_count_78 : decode cX12_count 78 = .ok (.bipush 8, 2) := by decide +kernel
theorem dX12_count_80 : decode cX12_count 80 = .ok (.iaload, 1) := by decide +kernel
theorem dX12_count_81 : decode cX12_count 81 = .ok (.ireturn, 1) := by decide +kernel
theorem dX12_count_82 : decode cX12_count 82 = .ok (.aload_n 0, 1) := by decide +kernel
theorem dX12_count_83 : decode cX12_count 83 = .ok (.getfield 7, 3) := by decide +kernel
theorem dX12_count_86 : decode cX12_count 86 = .ok (.iconst 0, 1) := by decide +kernel
theorem dX12_count_87 : decode cX12_count 87 = .ok (.iaload, 1) := by decide +kernel
theorem dX12_count_88 : decode cX12_count 88 = .ok (.ireturn, 1) := by decide +kernel
theorem dX12_count_89 : decode cX12_count 89 = .ok (.aload_n 0, 1) := by decide +kernel
theorem dX12_count_90 : decode cX12_count 90 = .ok (.invokevirtual 262, 3) := by decide +kernel
theorem dX12_count_93 : decode cX12_count 93 = .ok (.ireturn, 1) := by decide +kernel
theorem dX12_count_94 : decode cX12_count 94 = .ok (.aload_n 0, 1) := by decide +kernel
theorem dX12_count_95 : decode cX12_count 95 = .ok (.iconst 4, 1) := by decide +kernel
theorem dX12_count_96 : decode cX12_count 96 = .ok (.invokevirtual 203, 3) := by decide +kernel
theorem dX12_count_99 : decode cX12_count 99 = .ok (.ireturn, 1) := by decide +kernel
theorem dX12_count_100 : decode cX12_count 100 = .ok (.aload_n 0, 1) := by decide +kernel
theorem dX12_count_101 : decode cX12_count 101 = .ok (.iconst 5, 1) := by decide +kernel
theorem dX12_count_102 : decode cX12_count 102 = .ok (.invokevirtual 203, 3) := by decide +kernel
theorem dX12_count_105 : decode cX12_count 105 = .ok (.ireturn, 1) := by decide +kernel
theorem dX12_count_106 : decode cX12_count 106 = .ok (.aload_n 0, 1) := by decide +kernel
theorem dX12_count_107 : decode cX12_count 107 = .ok (.getfield 7, 3) := by decide +kernel
theorem dX12_count_110 : decode cX12_count 110 = .ok (.iconst 4, 1) := by decide +kernel
theorem dX12_count_111 : decode cX12_count 111 = .ok (.iaload, 1) := by decide +kernel
theorem dX12_count_112 : decode cX12_count 112 = .ok (.ireturn, 1) := by decide +kernel
theorem dX12_count_113 : decode cX12_count 113 = .ok (.aload_n 0, 1) := by decide +kernel
theorem dX12_count_114 : decode cX12_count 114 = .ok (.getfield 7, 3) := by decide +kernel
theorem dX12_count_117 : decode cX12_count 117 = .ok (.iconst 5, 1) := by decide +kernel
theorem dX12_count_118 : decode cX12_count 118 = .ok (.iaload, 1) := by decide +kernel
theorem dX12_count_119 : decode cX12_count 119 = .ok (.ireturn, 1) := by decide +kernel
theorem dX12_count_120 : decode cX12_count 120 = .ok (.aload_n 0, 1) := by decide +kernel
theorem dX12_count_121 : decode cX12_count 121 = .ok (.getfield 226, 3) := by decide +kernel
theorem dX12_count_124 : decode cX12_count 124 = .ok (.ireturn, 1) := by decide +kernel
theorem dX12_count_125 : decode cX12_count 125 = .ok (.aload_n 0, 1) := by decide +kernel
theorem dX12_count_126 : decode cX12_count 126 = .ok (.getfield 7, 3) := by decide +kernel
theorem dX12_count_129 : decode cX12_count 129 = .ok (.iconst 1, 1) := by decide +kernel
theorem dX12_count_130 : decode cX12_count 130 = .ok (.iaload, 1) := by decide +kernel
theorem dX12_count_131 : decode cX12_count 131 = .ok (.ireturn, 1) := by decide +kernel
theorem dX12_count_132 : decode cX12_count 132 = .ok (.aload_n 0, 1) := by decide +kernel
theorem dX12_count_133 : decode cX12_count 133 = .ok (.ldc 55, 2) := by decide +kernel
theorem dX12_count_135 : decode cX12_count 135 = .ok (.invokevirtual 56, 3) := by decide +kernel
theorem dX12_count_138 : decode cX12_count 138 = .ok (.ireturn, 1) := by decide +kernel
set_option maxHeartbeats 2000000 in
set_option maxRecDepth 20000 in
theorem c_count {l : Launch} {D : va_G} {cI cG cW : ClassId} {o : Nat} {q : Nat → Nat} {V row kept tried bf fd pk bo so sh mv tr : Nat → Int32} {what : Int32} {nc np nw d nt nq : Nat} (hR : RKx row nc np nw d nt nq) : Ci l yX12_count cX12_count 2 (some .int) 3 D (tyL cI cG cW) (wR cI o q) [.ref o, .int what] (sR V row kept tried bf fd pk bo so sh mv tr) (fun r τ => r = (sp_count V row kept tried bf fd pk bo so sh mv tr what).1 ∧ EQ τ (sp_count V row kept tried bf fd pk bo so sh mv tr what).2) := by
  refine Ci.of (by decide) (Nat.le_of_ble_eq_true rfl) ?_
  intro p_ e_ s_ m_ b_ M_ c_ A_ C
  replace C : Cx _ _ _ _ _ _ _ _ RX12 _ _ _ _ := C
  refine j_L [0, 1] [(0, .ref o), (1, .int what)] rfl ?_
  obtain ⟨hI, hW, ⟨e0, hd⟩, ⟨e4, ht⟩, ⟨e5, hq⟩, hB⟩ := id hR
  obtain ⟨⟨e2, hc2, hc10⟩, ⟨e3, hn6⟩, ⟨e8, hw8⟩, hP, hE, hLo, hT0, hT1⟩ := id hI
  have hIc := hI
  by_cases hin : inn what (nI 0) (nI 10)
  · obtain ⟨wn, gwn, hwn, rfl⟩ := inn_lit hin (by omega)
    refine j_iload_n C 1 dX12_count_0 rfl ?_
    rcases (show wn = 0 ∨ wn = 1 ∨ wn = 2 ∨ wn = 3 ∨ wn = 4 ∨ wn = 5 ∨ wn = 6 ∨ wn = 7 ∨ wn = 8 ∨ wn = 9 ∨ wn = 10 by omega) with rfl | rfl | rfl | rfl | rfl | rfl | rfl | rfl | rfl | rfl | rfl
    · refine j_tblIn C (off := 59) 60 dX12_count_1 (by decide) (by decide) (by decide) (by decide) ?_
      refine j_aload_n C 0 dX12_count_60 rfl ?_
      refine rg C (v := .ref (q 0)) 0 (by decide) kf12_7 rfl dX12_count_61 ?_
      refine j_iconst C (v := (nI 2)) dX12_count_64 (by decide) ?_
      refine rl_row C 2 rfl (by omega) dX12_count_65 ?_
      refine j_iret C dX12_count_66 ?_
      unfold sp_count
      rw [if_pos hin, tN_nI (by decide)]
      exact ⟨rfl, EQ.rf⟩
    · refine j_tblIn C (off := 66) 67 dX12_count_1 (by decide) (by decide) (by decide) (by decide) ?_
      refine j_aload_n C 0 dX12_count_67 rfl ?_
      refine rg C (v := .ref (q 0)) 0 (by decide) kf12_7 rfl dX12_count_68 ?_
      refine j_iconst C (v := (nI 3)) dX12_count_71 (by decide) ?_
      refine rl_row C 3 rfl (by omega) dX12_count_72 ?_
      refine j_iret C dX12_count_73 ?_
      unfold sp_count
      rw [if_pos hin, tN_nI (by decide)]
      exact ⟨rfl, EQ.rf⟩
    · refine j_tblIn C (off := 73) 74 dX12_count_1 (by decide) (by decide) (by decide) (by decide) ?_
      refine j_aload_n C 0 dX12_count_74 rfl ?_
      refine rg C (v := .ref (q 0)) 0 (by decide) kf12_7 rfl dX12_count_75 ?_
      refine j_bipush C (v := (nI 8)) dX12_count_78 (by decide) ?_
      refine rl_row C 8 rfl (by omega) dX12_count_80 ?_
      refine j_iret C dX12_count_81 ?_
      unfold sp_count
      rw [if_pos hin, tN_nI (by decide)]
      exact ⟨rfl, EQ.rf⟩
    · refine j_tblIn C (off := 81) 82 dX12_count_1 (by decide) (by decide) (by decide) (by decide) ?_
      refine j_aload_n C 0 dX12_count_82 rfl ?_
      refine rg C (v := .ref (q 0)) 0 (by decide) kf12_7 rfl dX12_count_83 ?_
      refine j_iconst C (v := (nI 0)) dX12_count_86 (by decide) ?_
      refine rl_row C 0 rfl (by omega) dX12_count_87 ?_
      refine j_iret C dX12_count_88 ?_
      unfold sp_count
      rw [if_pos hin, tN_nI (by decide)]
      exact ⟨rfl, EQ.rf⟩
    · refine j_tblIn C (off := 88) 89 dX12_count_1 (by decide) (by decide) (by decide) (by decide) ?_
      refine j_aload_n C 0 dX12_count_89 rfl ?_
      refine j_callV (As := []) (rest := []) C vw12_earsOfAll (c_earsOfAll e2 hc10) rRcv rfl (Nat.le_of_ble_eq_true rfl) dX12_count_90 (by decide) ?_
      rintro _ _ ⟨rfl, rfl⟩
      refine j_iret C dX12_count_93 ?_
      unfold sp_count
      rw [if_pos hin, tN_nI (by decide)]
      exact ⟨(cnt_4 (V := V) e2 hc10).symm, EQ.rf⟩
    · refine j_tblIn C (off := 93) 94 dX12_count_1 (by decide) (by decide) (by decide) (by decide) ?_
      refine j_aload_n C 0 dX12_count_94 rfl ?_
      refine j_iconst C (v := (nI 4)) dX12_count_95 (by decide) ?_
      refine j_callV (As := [.int (nI 4)]) (rest := []) C vw12_sumOf (c_sumOf 4 e3 hn6 (by omega)) rRcv rfl (Nat.le_of_ble_eq_true rfl) dX12_count_96 (by decide) ?_
      rintro _ _ ⟨rfl, rfl⟩
      refine j_iret C dX12_count_99 ?_
      unfold sp_count
      rw [if_pos hin, tN_nI (by decide)]
      exact ⟨(cnt_5 (V := V) e3 hn6).symm, EQ.rf⟩
    · refine j_tblIn C (off := 99) 100 dX12_count_1 (by decide) (by decide) (by decide) (by decide) ?_
      refine j_aload_n C 0 dX12_count_100 rfl ?_
      refine j_iconst C (v := (nI 5)) dX12_count_101 (by decide) ?_
      refine j_callV (As := [.int (nI 5)]) (rest := []) C vw12_sumOf (c_sumOf 5 e3 hn6 (by omega)) rRcv rfl (Nat.le_of_ble_eq_true rfl) dX12_count_102 (by decide) ?_
      rintro _ _ ⟨rfl, rfl⟩
      refine j_iret C dX12_count_105 ?_
      unfold sp_count
      rw [if_pos hin, tN_nI (by decide)]
      exact ⟨(cnt_6 (V := V) e3 hn6).symm, EQ.rf⟩
    · refine j_tblIn C (off := 105) 106 dX12_count_1 (by decide) (by decide) (by decide) (by decide) ?_
      refine j_aload_n C 0 dX12_count_106 rfl ?_
      refine rg C (v := .ref (q 0)) 0 (by decide) kf12_7 rfl dX12_count_107 ?_
      refine j_iconst C (v := (nI 4)) dX12_count_110 (by decide) ?_
      refine rl_row C 4 rfl (by omega) dX12_count_111 ?_
      refine j_iret C dX12_count_112 ?_
      unfold sp_count
      rw [if_pos hin, tN_nI (by decide)]
      exact ⟨rfl, EQ.rf⟩
    · refine j_tblIn C (off := 112) 113 dX12_count_1 (by decide) (by decide) (by decide) (by decide) ?_
      refine j_aload_n C 0 dX12_count_113 rfl ?_
      refine rg C (v := .ref (q 0)) 0 (by decide) kf12_7 rfl dX12_count_114 ?_
      refine j_iconst C (v := (nI 5)) dX12_count_117 (by decide) ?_
      refine rl_row C 5 rfl (by omega) dX12_count_118 ?_
      refine j_iret C dX12_count_119 ?_
      unfold sp_count
      rw [if_pos hin, tN_nI (by decide)]
      exact ⟨rfl, EQ.rf⟩
    · refine j_tblIn C (off := 119) 120 dX12_count_1 (by decide) (by decide) (by decide) (by decide) ?_
      refine j_aload_n C 0 dX12_count_120 rfl ?_
      refine rg C (v := .int (V 26)) 26 (by decide) kf12_226 rfl dX12_count_121 ?_
      refine j_iret C dX12_count_124 ?_
      unfold sp_count
      rw [if_pos hin, tN_nI (by decide)]
      exact ⟨rfl, EQ.rf⟩
    · refine j_tblIn C (off := 124) 125 dX12_count_1 (by decide) (by decide) (by decide) (by decide) ?_
      refine j_aload_n C 0 dX12_count_125 rfl ?_
      refine rg C (v := .ref (q 0)) 0 (by decide) kf12_7 rfl dX12_count_126 ?_
      refine j_iconst C (v := (nI 1)) dX12_count_129 (by decide) ?_
      refine rl_row C 1 rfl (by omega) dX12_count_130 ?_
      refine j_iret C dX12_count_131 ?_
      unfold sp_count
      rw [if_pos hin, tN_nI (by decide)]
      exact ⟨rfl, EQ.rf⟩
  · refine j_iload_n C 1 dX12_count_0 rfl ?_
    refine j_tblOut C 132 dX12_count_1 (n10 hin) (by decide) ?_
    refine j_aload_n C 0 dX12_count_132 rfl ?_
    refine j_ldc C (-1000000001) dX12_count_133 kc12_55 ?_
    refine j_callV (As := [.int (-1000000001)]) (rest := []) C vw12_errs (c_errs 1 (by decide) (by decide)) rRcv rfl (Nat.le_of_ble_eq_true rfl) dX12_count_135 (by decide) ?_
    rintro _ _ ⟨rfl, rfl⟩
    refine j_iret C dX12_count_138 ?_
    unfold sp_count
    rw [if_neg hin]
    exact ⟨rfl, EQ.rf⟩
theorem dX12_dawns_0 : decode cX12_dawns 0 = .ok (.iload_n 1, 1) := by decide +kernel
theorem dX12_dawns_1 : decode cX12_dawns 1 = .ok (.iconst 1, 1) := by decide +kernel
theorem dX12_dawns_2 : decode cX12_dawns 2 = .ok (.bipush 60, 2) := by decide +kernel
theorem dX12_dawns_4 : decode cX12_dawns 4 = .ok (.invokestatic 51, 3) := by decide +kernel
theorem dX12_dawns_7 : decode cX12_dawns 7 = .ok (.ifCond .ne 10, 3) := by decide +kernel
theorem dX12_dawns_10 : decode cX12_dawns 10 = .ok (.aload_n 0, 1) := by decide +kernel
theorem dX12_dawns_11 : decode cX12_dawns 11 = .ok (.ldc 55, 2) := by decide +kernel
theorem dX12_dawns_13 : decode cX12_dawns 13 = .ok (.invokevirtual 56, 3) := by decide +kernel
theorem dX12_dawns_16 : decode cX12_dawns 16 = .ok (.ireturn, 1) := by decide +kernel
theorem dX12_dawns_17 : decode cX12_dawns 17 = .ok (.aload_n 0, 1) := by decide +kernel
theorem dX12_dawns_18 : decode cX12_dawns 18 = .ok (.getfield 7, 3) := by decide +kernel
theorem dX12_dawns_21 : decode cX12_dawns 21 = .ok (.iconst 0, 1) := by decide +kernel
theorem dX12_dawns_22 : decode cX12_dawns 22 = .ok (.iaload, 1) := by decide +kernel
theorem dX12_dawns_23 : decode cX12_dawns 23 = .ok (.iload_n 1, 1) := by decide +kernel
theorem dX12_dawns_24 : decode cX12_dawns 24 = .ok (.iadd, 1) := by decide +kernel
theorem dX12_dawns_25 : decode cX12_dawns 25 = .ok (.sipush 9999, 3) := by decide +kernel
theorem dX12_dawns_28 : decode cX12_dawns 28 = .ok (.if_icmp .le 10, 3) := by decide +kernel
theorem dX12_dawns_31 : decode cX12_dawns 31 = .ok (.aload_n 0, 1) := by decide +kernel
theorem dX12_dawns_32 : decode cX12_dawns 32 = .ok (.ldc 60, 2) := by decide +kernel
theorem dX12_dawns_34 : decode cX12_dawns 34 = .ok (.invokevirtual 56, 3) := by decide +kernel
theorem dX12_dawns_37 : decode cX12_dawns 37 = .ok (.ireturn, 1) := by decide +kernel
theorem dX12_dawns_38 : decode cX12_dawns 38 = .ok (.aload_n 0, 1) := by decide +kernel
theorem dX12_dawns_39 : decode cX12_dawns 39 = .ok (.iload_n 1, 1) := by decide +kernel
theorem dX12_dawns_40 : decode cX12_dawns 40 = .ok (.invokevirtual 200, 3) := by decide +kernel
theorem dX12_dawns_43 : decode cX12_dawns 43 = .ok (.aload_n 0, 1) := by decide +kernel
theorem dX12_dawns_44 : decode cX12_dawns 44 = .ok (.iconst 4, 1) := by decide +kernel
theorem dX12_dawns_45 : decode cX12_dawns 45 = .ok (.invokevirtual 203, 3) := by decide +kernel
theorem dX12_dawns_48 : decode cX12_dawns 48 = .ok (.ireturn, 1) := by decide +kernel
set_option maxHeartbeats 2000000 in
set_option maxRecDepth 20000 in
theorem c_dawns {l : Launch} {D : va_G} {cI cG cW : ClassId} {o : Nat} {q : Nat → Nat} {V row kept tried bf fd pk bo so sh mv tr : Nat → Int32} {n : Int32} {nc np nw d nt nq : Nat} (hR : RKx row nc np nw d nt nq) : Ci l yX12_dawns cX12_dawns 2 (some .int) 90 D (tyL cI cG cW) (wR cI o q) [.ref o, .int n] (sR V row kept tried bf fd pk bo so sh mv tr) (fun r τ => r = (sp_dawns V row kept tried bf fd pk bo so sh mv tr n).1 ∧ EQ τ (sp_dawns V row kept tried bf fd pk bo so sh mv tr n).2) := by
  refine Ci.of (by decide) (Nat.le_of_ble_eq_true rfl) ?_
  intro p_ e_ s_ m_ b_ M_ c_ A_ C
  replace C : Cx _ _ _ _ _ _ _ _ RX12 _ _ _ _ := C
  refine j_L [0, 1] [(0, .ref o), (1, .int n)] rfl ?_
  obtain ⟨hI, hW, ⟨e0, hd⟩, ⟨e4, ht⟩, ⟨e5, hq⟩, hB⟩ := id hR
  obtain ⟨⟨e2, hc2, hc10⟩, ⟨e3, hn6⟩, ⟨e8, hw8⟩, hP, hE, hLo, hT0, hT1⟩ := id hI
  have hIc := hI
  refine j_iload_n C 1 dX12_dawns_0 rfl ?_
  refine j_iconst C (v := (nI 1)) dX12_dawns_1 (by decide) ?_
  refine j_bipush C (v := (nI 60)) dX12_dawns_2 (by decide) ?_
  refine j_callS (As := [.int n, .int (nI 1), .int (nI 60)]) (rest := []) C vw12_in (c_in) rfl (Nat.le_of_ble_eq_true rfl) dX12_dawns_4 (by decide) ?_
  rintro _ _ ⟨rfl, rfl⟩
  refine j_if_ne C 17 dX12_dawns_7 (by decide) (fun c7 => ?_) (fun c7 => ?_)
  · replace c7 := bI_t c7
    obtain ⟨nn, gnn, hnn, rfl⟩ := inn_lit c7 (by omega)
    refine j_aload_n C 0 dX12_dawns_17 rfl ?_
    refine rg C (v := .ref (q 0)) 0 (by decide) kf12_7 rfl dX12_dawns_18 ?_
    refine j_iconst C (v := (nI 0)) dX12_dawns_21 (by decide) ?_
    refine rl_row C 0 rfl (by omega) dX12_dawns_22 ?_
    refine j_iload_n C 1 dX12_dawns_23 rfl ?_
    refine j_iadd C dX12_dawns_24 ?_
    refine j_sipush C (v := (nI 9999)) dX12_dawns_25 (by decide) ?_
    refine j_icmp_le C 38 dX12_dawns_28 (by decide) (fun c28 => ?_) (fun c28 => ?_)
    · skip
      refine j_aload_n C 0 dX12_dawns_38 rfl ?_
      refine j_iload_n C 1 dX12_dawns_39 rfl ?_
      refine j_callVv (As := [.int (nI nn)]) (rest := []) C vw12_passes (c_passes nn (by omega) hIc) rRcv rfl (Nat.le_of_ble_eq_true rfl) dX12_dawns_40 (by decide) ?_
      rintro _ ⟨Vx1, pkx2, hVx1, rfl⟩
      obtain ⟨hIc, hFc⟩ := dawns_IF (wv V row nw) hI nn
      refine j_aload_n C 0 dX12_dawns_43 rfl ?_
      refine j_iconst C (v := (nI 4)) dX12_dawns_44 (by decide) ?_
      refine j_callV (As := [.int (nI 4)]) (rest := []) C vw12_sumOf (c_sumOf 4 hIc.2.1.1 hIc.2.1.2 (by omega)) rRcv rfl (Nat.le_of_ble_eq_true rfl) dX12_dawns_45 (by decide) ?_
      rintro _ _ ⟨rfl, rfl⟩
      refine j_iret C dX12_dawns_48 ?_
      unfold sp_dawns
      rw [if_pos c7]
      rw [if_pos c28, tN_nI (n := nn) (by omega)]
      rw [show dwF V row nn = dawnsF np (wv V row nw) row nn by unfold dwF; rw [e3, e8, tN_nI (n := np) (by omega), tN_nI (n := nw) (by omega)]]
      rw [e3, tN_nI (n := np) (by omega)]
      exact ⟨rfl, EQ.ve hVx1⟩
    · skip
      refine j_aload_n C 0 dX12_dawns_31 rfl ?_
      refine j_ldc C (-1000000003) dX12_dawns_32 kc12_60 ?_
      refine j_callV (As := [.int (-1000000003)]) (rest := []) C vw12_errs (c_errs 3 (by decide) (by decide)) rRcv rfl (Nat.le_of_ble_eq_true rfl) dX12_dawns_34 (by decide) ?_
      rintro _ _ ⟨rfl, rfl⟩
      refine j_iret C dX12_dawns_37 ?_
      unfold sp_dawns
      rw [if_pos c7]
      rw [if_neg c28]
      exact ⟨rfl, EQ.rf⟩
  · replace c7 := bI_f c7
    refine j_aload_n C 0 dX12_dawns_10 rfl ?_
    refine j_ldc C (-1000000001) dX12_dawns_11 kc12_55 ?_
    refine j_callV (As := [.int (-1000000001)]) (rest := []) C vw12_errs (c_errs 1 (by decide) (by decide)) rRcv rfl (Nat.le_of_ble_eq_true rfl) dX12_dawns_13 (by decide) ?_
    rintro _ _ ⟨rfl, rfl⟩
    refine j_iret C dX12_dawns_16 ?_
    unfold sp_dawns
    rw [if_neg c7]
    exact ⟨rfl, EQ.rf⟩
theorem dX12_then_0 : decode cX12_then 0 = .ok (.iload_n 1, 1) := by decide +kernel
theorem dX12_then_1 : decode cX12_then 1 = .ok (.iconst 0, 1) := by decide +kernel
theorem dX12_then_2 : decode cX12_then 2 = .ok (.bipush 60, 2) := by decide +kernel
theorem dX12_then_4 : decode cX12_then 4 = .ok (.invokestatic 51, 3) := by decide +kernel
theorem dX12_then_7 : decode cX12_then 7 = .ok (.ifCond .eq 20, 3) := by decide +kernel
theorem dX12_then_10 : decode cX12_then 10 = .ok (.aload_n 0, 1) := by decide +kernel
theorem dX12_then_11 : decode cX12_then 11 = .ok (.iload_n 2, 1) := by decide +kernel
theorem dX12_then_12 : decode cX12_then 12 = .ok (.invokevirtual 80, 3) := by decide +kernel
theorem dX12_then_15 : decode cX12_then 15 = .ok (.ifCond .eq 12, 3) := by decide +kernel
theorem dX12_then_18 : decode cX12_then 18 = .ok (.iload_n 3, 1) := by decide +kernel
theorem dX12_then_19 : decode cX12_then 19 = .ok (.iconst 0, 1) := by decide +kernel
theorem dX12_then_20 : decode cX12_then 20 = .ok (.iconst 1, 1) := by decide +kernel
theorem dX12_then_21 : decode cX12_then 21 = .ok (.invokestatic 51, 3) := by decide +kernel
theorem dX12_then_24 : decode cX12_then 24 = .ok (.ifCond .ne 10, 3) := by decide +kernel
theorem dX12_then_27 : decode cX12_then 27 = .ok (.aload_n 0, 1) := by decide +kernel
theorem dX12_then_28 : decode cX12_then 28 = .ok (.ldc 55, 2) := by decide +kernel
theorem dX12_then_30 : decode cX12_then 30 = .ok (.invokevirtual 56, 3) := by decide +kernel
theorem dX12_then_33 : decode cX12_then 33 = .ok (.ireturn, 1) := by decide +kernel
theorem dX12_then_34 : decode cX12_then 34 = .ok (.aload_n 0, 1) := by decide +kernel
theorem dX12_then_35 : decode cX12_then 35 = .ok (.aload_n 0, 1) := by decide +kernel
theorem dX12_then_36 : decode cX12_then 36 = .ok (.getfield 7, 3) := by decide +kernel
theorem dX12_then_39 : decode cX12_then 39 = .ok (.aload_n 0, 1) := by decide +kernel
theorem dX12_then_40 : decode cX12_then 40 = .ok (.getfield 16, 3) := by decide +kernel
theorem dX12_then_43 : decode cX12_then 43 = .ok (.invokevirtual 171, 3) := by decide +kernel
theorem dX12_then_46 : decode cX12_then 46 = .ok (.aload_n 0, 1) := by decide +kernel
theorem dX12_then_47 : decode cX12_then 47 = .ok (.iload_n 1, 1) := by decide +kernel
theorem dX12_then_48 : decode cX12_then 48 = .ok (.invokevirtual 200, 3) := by decide +kernel
theorem dX12_then_51 : decode cX12_then 51 = .ok (.aload_n 0, 1) := by decide +kernel
theorem dX12_then_52 : decode cX12_then 52 = .ok (.iload_n 2, 1) := by decide +kernel
theorem dX12_then_53 : decode cX12_then 53 = .ok (.iconst 4, 1) := by decide +kernel
theorem dX12_then_54 : decode cX12_then 54 = .ok (.iload_n 3, 1) := by decide +kernel
theorem dX12_then_55 : decode cX12_then 55 = .ok (.iadd, 1) := by decide +kernel
theorem dX12_then_56 : decode cX12_then 56 = .ok (.invokevirtual 69, 3) := by decide +kernel
theorem dX12_then_59 : decode cX12_then 59 = .ok (.istore 4, 2) := by decide +kernel
theorem dX12_then_61 : decode cX12_then 61 = .ok (.aload_n 0, 1) := by decide +kernel
theorem dX12_then_62 : decode cX12_then 62 = .ok (.aload_n 0, 1) := by decide +kernel
theorem dX12_then_63 : decode cX12_then 63 = .ok (.getfield 16, 3) := by decide +kernel
theorem dX12_then_66 : decode cX12_then 66 = .ok (.aload_n 0, 1) := by decide +kernel
theorem dX12_then_67 : decode cX12_then 67 = .ok (.getfield 7, 3) := by decide +kernel
theorem dX12_then_70 : decode cX12_then 70 = .ok (.invokevirtual 171, 3) := by decide +kernel
theorem dX12_then_73 : decode cX12_then 73 = .ok (.iload 4, 2) := by decide +kernel
theorem dX12_then_75 : decode cX12_then 75 = .ok (.ireturn, 1) := by decide +kernel
set_option maxHeartbeats 2000000 in
set_option maxRecDepth 20000 in
theorem c_then {l : Launch} {D : va_G} {cI cG cW : ClassId} {o : Nat} {q : Nat → Nat} {V row kept tried bf fd pk bo so sh mv tr : Nat → Int32} {n p what : Int32} {nc np nw d nt nq : Nat} (hR : RKx row nc np nw d nt nq) : Ci l yX12_then cX12_then 5 (some .int) 90 D (tyL cI cG cW) (wR cI o q) [.ref o, .int n, .int p, .int what] (sR V row kept tried bf fd pk bo so sh mv tr) (fun r τ => r = (sp_then V row kept tried bf fd pk bo so sh mv tr n p what).1 ∧ EQ τ (sp_then V row kept tried bf fd pk bo so sh mv tr n p what).2) := by
  refine Ci.of (by decide) (Nat.le_of_ble_eq_true rfl) ?_
  intro p_ e_ s_ m_ b_ M_ c_ A_ C
  replace C : Cx _ _ _ _ _ _ _ _ RX12 _ _ _ _ := C
  refine j_L [0, 1, 2, 3] [(0, .ref o), (1, .int n), (2, .int p), (3, .int what)] rfl ?_
  obtain ⟨hI, hW, ⟨e0, hd⟩, ⟨e4, ht⟩, ⟨e5, hq⟩, hB⟩ := id hR
  obtain ⟨⟨e2, hc2, hc10⟩, ⟨e3, hn6⟩, ⟨e8, hw8⟩, hP, hE, hLo, hT0, hT1⟩ := id hI
  have hIc := hI
  refine j_iload_n C 1 dX12_then_0 rfl ?_
  refine j_iconst C (v := (nI 0)) dX12_then_1 (by decide) ?_
  refine j_bipush C (v := (nI 60)) dX12_then_2 (by decide) ?_
  refine j_callS (As := [.int n, .int (nI 0), .int (nI 60)]) (rest := []) C vw12_in (c_in) rfl (Nat.le_of_ble_eq_true rfl) dX12_then_4 (by decide) ?_
  rintro _ _ ⟨rfl, rfl⟩
  refine j_if_eq C 27 dX12_then_7 (by decide) (fun c7 => ?_) (fun c7 => ?_)
  · replace c7 := bI_f c7
    refine j_aload_n C 0 dX12_then_27 rfl ?_
    refine j_ldc C (-1000000001) dX12_then_28 kc12_55 ?_
    refine j_callV (As := [.int (-1000000001)]) (rest := []) C vw12_errs (c_errs 1 (by decide) (by decide)) rRcv rfl (Nat.le_of_ble_eq_true rfl) dX12_then_30 (by decide) ?_
    rintro _ _ ⟨rfl, rfl⟩
    refine j_iret C dX12_then_33 ?_
    unfold sp_then
    rw [if_neg (fun h => c7 h.1)]
    exact ⟨rfl, EQ.rf⟩
  · replace c7 := bI_t c7
    obtain ⟨nn, gnn, hnn, rfl⟩ := inn_lit c7 (by omega)
    refine j_aload_n C 0 dX12_then_10 rfl ?_
    refine j_iload_n C 2 dX12_then_11 rfl ?_
    refine j_callV (As := [.int p]) (rest := []) C vw12_isPerson (c_isPerson) rRcv rfl (Nat.le_of_ble_eq_true rfl) dX12_then_12 (by decide) ?_
    rintro _ _ ⟨rfl, rfl⟩
    refine j_if_eq C 27 dX12_then_15 (by decide) (fun c15 => ?_) (fun c15 => ?_)
    · replace c15 := bI_f c15
      refine j_aload_n C 0 dX12_then_27 rfl ?_
      refine j_ldc C (-1000000001) dX12_then_28 kc12_55 ?_
      refine j_callV (As := [.int (-1000000001)]) (rest := []) C vw12_errs (c_errs 1 (by decide) (by decide)) rRcv rfl (Nat.le_of_ble_eq_true rfl) dX12_then_30 (by decide) ?_
      rintro _ _ ⟨rfl, rfl⟩
      refine j_iret C dX12_then_33 ?_
      unfold sp_then
      rw [if_neg (fun h => c15 h.2.1)]
      exact ⟨rfl, EQ.rf⟩
    · replace c15 := bI_t c15
      obtain ⟨pn, hpn, rfl⟩ := inn_row c15 e3 (by omega)
      refine j_iload_n C 3 dX12_then_18 rfl ?_
      refine j_iconst C (v := (nI 0)) dX12_then_19 (by decide) ?_
      refine j_iconst C (v := (nI 1)) dX12_then_20 (by decide) ?_
      refine j_callS (As := [.int what, .int (nI 0), .int (nI 1)]) (rest := []) C vw12_in (c_in) rfl (Nat.le_of_ble_eq_true rfl) dX12_then_21 (by decide) ?_
      rintro _ _ ⟨rfl, rfl⟩
      refine j_if_ne C 34 dX12_then_24 (by decide) (fun c24 => ?_) (fun c24 => ?_)
      · replace c24 := bI_t c24
        obtain ⟨xn, gxn, hxn, rfl⟩ := inn_lit c24 (by omega)
        refine j_aload_n C 0 dX12_then_34 rfl ?_
        refine j_aload_n C 0 dX12_then_35 rfl ?_
        refine rg C (v := .ref (q 0)) 0 (by decide) kf12_7 rfl dX12_then_36 ?_
        refine j_aload_n C 0 dX12_then_39 rfl ?_
        refine rg C (v := .ref (q 2)) 2 (by decide) kf12_16 rfl dX12_then_40 ?_
        refine j_callVv (As := [.ref (q 0), .ref (q 2)]) (rest := []) C vw12_moveAll (c_moveAll_row_tried) rRcv rfl (Nat.le_of_ble_eq_true rfl) dX12_then_43 (by decide) ?_
        rintro _ rfl
        refine j_aload_n C 0 dX12_then_46 rfl ?_
        refine j_iload_n C 1 dX12_then_47 rfl ?_
        refine j_callVv (As := [.int (nI nn)]) (rest := []) C vw12_passes (c_passes nn (by omega) hIc) rRcv rfl (Nat.le_of_ble_eq_true rfl) dX12_then_48 (by decide) ?_
        rintro _ ⟨Vx1, pkx2, hVx1, rfl⟩
        refine j_aload_n C 0 dX12_then_51 rfl ?_
        refine j_iload_n C 2 dX12_then_52 rfl ?_
        refine j_iconst C (v := (nI 4)) dX12_then_53 (by decide) ?_
        refine j_iload_n C 3 dX12_then_54 rfl ?_
        refine j_iaddN C dX12_then_55 ?_
        refine j_callV (As := [.int (nI pn), .int (nI (4 + xn))]) (rest := []) C vw12_its (c_its pn (4 + xn) (by omega)) rRcv rfl (Nat.le_of_ble_eq_true rfl) dX12_then_56 (by decide) ?_
        rintro _ _ ⟨rfl, rfl⟩
        refine j_istore C [(4, .int ((dawnsF np (wv V row nw) row nn) (30 + 6 * pn + (4 + xn)))), (0, .ref o), (1, .int (nI nn)), (2, .int (nI pn)), (3, .int (nI xn))] dX12_then_59 (by decide) rfl ?_
        refine j_aload_n C 1 dX12_then_61 rfl ?_
        refine j_aload_n C 1 dX12_then_62 rfl ?_
        refine rg C (v := .ref (q 2)) 2 (by decide) kf12_16 rfl dX12_then_63 ?_
        refine j_aload_n C 1 dX12_then_66 rfl ?_
        refine rg C (v := .ref (q 0)) 0 (by decide) kf12_7 rfl dX12_then_67 ?_
        refine j_callVv (As := [.ref (q 2), .ref (q 0)]) (rest := []) C vw12_moveAll (c_moveAll_tried_row) rRcv rfl (Nat.le_of_ble_eq_true rfl) dX12_then_70 (by decide) ?_
        rintro _ rfl
        refine j_iload C 0 dX12_then_73 rfl ?_
        refine j_iret C dX12_then_75 ?_
        unfold sp_then
        rw [if_pos ⟨c7, c15, c24⟩, tN_nI (n := nn) (by omega), tN_nI (n := pn) (by omega), tN_nI (n := xn) (by omega)]
        rw [show dwF V row nn = dawnsF np (wv V row nw) row nn by unfold dwF; rw [e3, e8, tN_nI (n := np) (by omega), tN_nI (n := nw) (by omega)]]
        exact ⟨rfl, EQ.ve hVx1⟩
      · replace c24 := bI_f c24
        refine j_aload_n C 0 dX12_then_27 rfl ?_
        refine j_ldc C (-1000000001) dX12_then_28 kc12_55 ?_
        refine j_callV (As := [.int (-1000000001)]) (rest := []) C vw12_errs (c_errs 1 (by decide) (by decide)) rRcv rfl (Nat.le_of_ble_eq_true rfl) dX12_then_30 (by decide) ?_
        rintro _ _ ⟨rfl, rfl⟩
        refine j_iret C dX12_then_33 ?_
        unfold sp_then
        rw [if_neg (fun h => c24 h.2.2)]
        exact ⟨rfl, EQ.rf⟩
theorem shr_0 {row : Nat → Int32} {np : Nat} {n : Int32} (e3 : row 3 = nI np) (h : np ≤ 6) : shrF row n 0 = sumF row 4 np := by unfold shrF; rw [e3, tN_nI (by omega)]
theorem shr_s (row : Nat → Int32) (n : Int32) (p : Nat) : shrF row n p - shrG row n p = shrF row n (p + 1) := rfl
theorem shr_t {row : Nat → Int32} {n : Int32} {p : Nat} (h : n * eatF row p < shrF row n p) : shrG row n p = n * eatF row p := if_pos h
theorem shr_f {row : Nat → Int32} {n : Int32} {p : Nat} (h : shrF row n p ≤ n * eatF row p) : shrG row n p = shrF row n p := if_neg (lnl h)

theorem dX12_shares_0 : decode cX12_shares 0 = .ok (.iload_n 1, 1) := by decide +kernel
theorem dX12_shares_1 : decode cX12_shares 1 = .ok (.iconst 1, 1) := by decide +kernel
theorem dX12_shares_2 : decode cX12_shares 2 = .ok (.bipush 30, 2) := by decide +kernel
theorem dX12_shares_4 : decode cX12_shares 4 = .ok (.invokestatic 51, 3) := by decide +kernel
theorem dX12_shares_7 : decode cX12_shares 7 = .ok (.ifCond .eq 19, 3) := by decide +kernel
theorem dX12_shares_10 : decode cX12_shares 10 = .ok (.iload_n 2, 1) := by decide +kernel
theorem dX12_shares_11 : decode cX12_shares 11 = .ok (.iconst (-1), 1) := by decide +kernel
theorem dX12_shares_12 : decode cX12_shares 12 = .ok (.aload_n 0, 1) := by decide +kernel
theorem dX12_shares_13 : decode cX12_shares 13 = .ok (.getfield 7, 3) := by decide +kernel
theorem dX12_shares_16 : decode cX12_shares 16 = .ok (.iconst 3, 1) := by decide +kernel
theorem dX12_shares_17 : decode cX12_shares 17 = .ok (.iaload, 1) := by decide +kernel
theorem dX12_shares_18 : decode cX12_shares 18 = .ok (.iconst 1, 1) := by decide +kernel
theorem dX12_shares_19 : decode cX12_shares 19 = .ok (.isub, 1) := by decide +kernel
theorem dX12_shares_20 : decode cX12_shares 20 = .ok (.invokestatic 51, 3) := by decide +kernel
theorem dX12_shares_23 : decode cX12_shares 23 = .ok (.ifCond .ne 10, 3) := by decide +kernel
theorem dX12_shares_26 : decode cX12_shares 26 = .ok (.aload_n 0, 1) := by decide +kernel
theorem dX12_shares_27 : decode cX12_shares 27 = .ok (.ldc 55, 2) := by decide +kernel
theorem dX12_shares_29 : decode cX12_shares 29 = .ok (.invokevirtual 56, 3) := by decide +kernel
theorem dX12_shares_32 : decode cX12_shares 32 = .ok (.ireturn, 1) := by decide +kernel
theorem dX12_shares_33 : decode cX12_shares 33 = .ok (.aload_n 0, 1) := by decide +kernel
theorem dX12_shares_34 : decode cX12_shares 34 = .ok (.iconst 4, 1) := by decide +kernel
theorem dX12_shares_35 : decode cX12_shares 35 = .ok (.invokevirtual 203, 3) := by decide +kernel
theorem dX12_shares_38 : decode cX12_shares 38 = .ok (.istore_n 3, 1) := by decide +kernel
theorem dX12_shares_39 : decode cX12_shares 39 = .ok (.iconst 0, 1) := by decide +kernel
theorem dX12_shares_40 : decode cX12_shares 40 = .ok (.istore 4, 2) := by decide +kernel
theorem dX12_shares_42 : decode cX12_shares 42 = .ok (.iconst 0, 1) := by decide +kernel
theorem dX12_shares_43 : decode cX12_shares 43 = .ok (.istore 5, 2) := by decide +kernel
theorem dX12_shares_45 : decode cX12_shares 45 = .ok (.iload 5, 2) := by decide +kernel
theorem dX12_shares_47 : decode cX12_shares 47 = .ok (.aload_n 0, 1) := by decide +kernel
theorem dX12_shares_48 : decode cX12_shares 48 = .ok (.getfield 7, 3) := by decide +kernel
theorem dX12_shares_51 : decode cX12_shares 51 = .ok (.iconst 3, 1) := by decide +kernel
theorem dX12_shares_52 : decode cX12_shares 52 = .ok (.iaload, 1) := by decide +kernel
theorem dX12_shares_53 : decode cX12_shares 53 = .ok (.if_icmp .ge 55, 3) := by decide +kernel
theorem dX12_shares_56 : decode cX12_shares 56 = .ok (.iload_n 1, 1) := by decide +kernel
theorem dX12_shares_57 : decode cX12_shares 57 = .ok (.aload_n 0, 1) := by decide +kernel
theorem dX12_shares_58 : decode cX12_shares 58 = .ok (.iload 5, 2) := by decide +kernel
theorem dX12_shares_60 : decode cX12_shares 60 = .ok (.invokevirtual 89, 3) := by decide +kernel
theorem dX12_shares_63 : decode cX12_shares 63 = .ok (.imul, 1) := by decide +kernel
theorem dX12_shares_64 : decode cX12_shares 64 = .ok (.iload_n 3, 1) := by decide +kernel
theorem dX12_shares_65 : decode cX12_shares 65 = .ok (.if_icmp .ge 14, 3) := by decide +kernel
theorem dX12_shares_68 : decode cX12_shares 68 = .ok (.iload_n 1, 1) := by decide +kernel
theorem dX12_shares_69 : decode cX12_shares 69 = .ok (.aload_n 0, 1) := by decide +kernel
theorem dX12_shares_70 : decode cX12_shares 70 = .ok (.iload 5, 2) := by decide +kernel
theorem dX12_shares_72 : decode cX12_shares 72 = .ok (.invokevirtual 89, 3) := by decide +kernel
theorem dX12_shares_75 : decode cX12_shares 75 = .ok (.imul, 1) := by decide +kernel
theorem dX12_shares_76 : decode cX12_shares 76 = .ok (.goto 4, 3) := by decide +kernel
theorem dX12_shares_79 : decode cX12_shares 79 = .ok (.iload_n 3, 1) := by decide +kernel
theorem dX12_shares_80 : decode cX12_shares 80 = .ok (.istore 6, 2) := by decide +kernel
theorem dX12_shares_82 : decode cX12_shares 82 = .ok (.iload_n 3, 1) := by decide +kernel
theorem dX12_shares_83 : decode cX12_shares 83 = .ok (.iload 6, 2) := by decide +kernel
theorem dX12_shares_85 : decode cX12_shares 85 = .ok (.isub, 1) := by decide +kernel
theorem dX12_shares_86 : decode cX12_shares 86 = .ok (.istore_n 3, 1) := by decide +kernel
theorem dX12_shares_87 : decode cX12_shares 87 = .ok (.iload 5, 2) := by decide +kernel
theorem dX12_shares_89 : decode cX12_shares 89 = .ok (.iload_n 2, 1) := by decide +kernel
theorem dX12_shares_90 : decode cX12_shares 90 = .ok (.if_icmp .ne 8, 3) := by decide +kernel
theorem dX12_shares_93 : decode cX12_shares 93 = .ok (.iload 6, 2) := by decide +kernel
theorem dX12_shares_95 : decode cX12_shares 95 = .ok (.goto 5, 3) := by decide +kernel
theorem dX12_shares_98 : decode cX12_shares 98 = .ok (.iload 4, 2) := by decide +kernel
theorem dX12_shares_100 : decode cX12_shares 100 = .ok (.istore 4, 2) := by decide +kernel
theorem dX12_shares_102 : decode cX12_shares 102 = .ok (.iinc 5 1, 3) := by decide +kernel
theorem dX12_shares_105 : decode cX12_shares 105 = .ok (.goto (-60), 3) := by decide +kernel
theorem dX12_shares_108 : decode cX12_shares 108 = .ok (.iload_n 2, 1) := by decide +kernel
theorem dX12_shares_109 : decode cX12_shares 109 = .ok (.ifCond .ge 7, 3) := by decide +kernel
theorem dX12_shares_112 : decode cX12_shares 112 = .ok (.iload_n 3, 1) := by decide +kernel
theorem dX12_shares_113 : decode cX12_shares 113 = .ok (.goto 5, 3) := by decide +kernel
theorem dX12_shares_116 : decode cX12_shares 116 = .ok (.iload 4, 2) := by decide +kernel
theorem dX12_shares_118 : decode cX12_shares 118 = .ok (.ireturn, 1) := by decide +kernel
set_option maxHeartbeats 2000000 in
set_option maxRecDepth 20000 in
theorem c_shares {l : Launch} {D : va_G} {cI cG cW : ClassId} {o : Nat} {q : Nat → Nat} {V row kept tried bf fd pk bo so sh mv tr : Nat → Int32} {n what : Int32} {nc np nw d nt nq : Nat} (hR : RKx row nc np nw d nt nq) : Ci l yX12_shares cX12_shares 7 (some .int) 90 D (tyL cI cG cW) (wR cI o q) [.ref o, .int n, .int what] (sR V row kept tried bf fd pk bo so sh mv tr) (fun r τ => r = (sp_shares V row kept tried bf fd pk bo so sh mv tr n what).1 ∧ EQ τ (sp_shares V row kept tried bf fd pk bo so sh mv tr n what).2) := by
  refine Ci.of (by decide) (Nat.le_of_ble_eq_true rfl) ?_
  intro p_ e_ s_ m_ b_ M_ c_ A_ C
  replace C : Cx _ _ _ _ _ _ _ _ RX12 _ _ _ _ := C
  refine j_L [0, 1, 2] [(0, .ref o), (1, .int n), (2, .int what)] rfl ?_
  obtain ⟨hI, hW, ⟨e0, hd⟩, ⟨e4, ht⟩, ⟨e5, hq⟩, hB⟩ := id hR
  obtain ⟨⟨e2, hc2, hc10⟩, ⟨e3, hn6⟩, ⟨e8, hw8⟩, hP, hE, hLo, hT0, hT1⟩ := id hI
  have hIc := hI
  refine j_iload_n C 1 dX12_shares_0 rfl ?_
  refine j_iconst C (v := (nI 1)) dX12_shares_1 (by decide) ?_
  refine j_bipush C (v := (nI 30)) dX12_shares_2 (by decide) ?_
  refine j_callS (As := [.int n, .int (nI 1), .int (nI 30)]) (rest := []) C vw12_in (c_in) rfl (Nat.le_of_ble_eq_true rfl) dX12_shares_4 (by decide) ?_
  rintro _ _ ⟨rfl, rfl⟩
  refine j_if_eq C 26 dX12_shares_7 (by decide) (fun c7 => ?_) (fun c7 => ?_)
  · replace c7 := bI_f c7
    refine j_aload_n C 0 dX12_shares_26 rfl ?_
    refine j_ldc C (-1000000001) dX12_shares_27 kc12_55 ?_
    refine j_callV (As := [.int (-1000000001)]) (rest := []) C vw12_errs (c_errs 1 (by decide) (by decide)) rRcv rfl (Nat.le_of_ble_eq_true rfl) dX12_shares_29 (by decide) ?_
    rintro _ _ ⟨rfl, rfl⟩
    refine j_iret C dX12_shares_32 ?_
    unfold sp_shares
    rw [if_neg (fun h => c7 h.1)]
    exact ⟨rfl, EQ.rf⟩
  · replace c7 := bI_t c7
    refine j_iload_n C 2 dX12_shares_10 rfl ?_
    refine j_iconst C (v := (-1)) dX12_shares_11 (by decide) ?_
    refine j_aload_n C 0 dX12_shares_12 rfl ?_
    refine rg C (v := .ref (q 0)) 0 (by decide) kf12_7 rfl dX12_shares_13 ?_
    refine j_iconst C (v := (nI 3)) dX12_shares_16 (by decide) ?_
    refine rl_row C 3 rfl (by omega) dX12_shares_17 ?_
    refine j_iconst C (v := (nI 1)) dX12_shares_18 (by decide) ?_
    refine j_isub C dX12_shares_19 ?_
    refine j_callS (As := [.int what, .int (-1), .int ((row 3) - (nI 1))]) (rest := []) C vw12_in (c_in) rfl (Nat.le_of_ble_eq_true rfl) dX12_shares_20 (by decide) ?_
    rintro _ _ ⟨rfl, rfl⟩
    refine j_if_ne C 33 dX12_shares_23 (by decide) (fun c23 => ?_) (fun c23 => ?_)
    · replace c23 := bI_t c23
      refine j_aload_n C 0 dX12_shares_33 rfl ?_
      refine j_iconst C (v := (nI 4)) dX12_shares_34 (by decide) ?_
      refine j_callV (As := [.int (nI 4)]) (rest := []) C vw12_sumOf (c_sumOf 4 hIc.2.1.1 hIc.2.1.2 (by omega)) rRcv rfl (Nat.le_of_ble_eq_true rfl) dX12_shares_35 (by decide) ?_
      rintro _ _ ⟨rfl, rfl⟩
      refine j_istore_n C [(3, .int (sumF row 4 np)), (0, .ref o), (1, .int n), (2, .int what)] dX12_shares_38 (by decide) rfl ?_
      refine j_eqL [(3, .int (shrF row n 0)), (0, .ref o), (1, .int n), (2, .int what)] (by rw [shr_0 e3 hn6]) ?_
      refine j_iconst C (v := (nI 0)) dX12_shares_39 (by decide) ?_
      refine j_istore C [(4, .int (nI 0)), (3, .int (shrF row n 0)), (0, .ref o), (1, .int n), (2, .int what)] dX12_shares_40 (by decide) rfl ?_
      refine j_iconst C (v := (nI 0)) dX12_shares_42 (by decide) ?_
      refine j_istore C [(5, .int (nI 0)), (4, .int (nI 0)), (3, .int (shrF row n 0)), (0, .ref o), (1, .int n), (2, .int what)] dX12_shares_43 (by decide) rfl ?_
      refine j_L [3, 4, 5, 2, 1, 0] [(0, .ref o), (1, .int n), (2, .int what), (3, .int (shrF row n 0)), (4, .int (nI 0)), (5, .int (nI 0))] rfl ?_
      refine j_loop (X := Nat × Int32) (fun (z : Nat × Int32) => match z with | (i, g) => i ≤ np ∧ ∀ j, j < i → what = nI j → g = shrG row n j) (fun (z : Nat × Int32) => match z with | (i, g) => np - i) (fun (z : Nat × Int32) => match z with | (i, g) => (sR V row kept tried bf fd pk bo so sh mv tr)) (fun (z : Nat × Int32) => match z with | (i, g) => [(0, .ref o), (1, .int n), (2, .int what), (3, .int (shrF row n i)), (4, .int g), (5, .int (nI i))]) (0, (nI 0)) (⟨Nat.zero_le _, fun j h => absurd h (Nat.not_lt_zero _)⟩) rfl rfl ?_
      rintro ⟨i, g⟩ ⟨hi, hg⟩ ih
      try dsimp only at ih ⊢
      refine j_iload C 5 dX12_shares_45 rfl ?_
      refine j_aload_n C 0 dX12_shares_47 rfl ?_
      refine rg C (v := .ref (q 0)) 0 (by decide) kf12_7 rfl dX12_shares_48 ?_
      refine j_iconst C (v := (nI 3)) dX12_shares_51 (by decide) ?_
      refine rl_row C 3 rfl (by omega) dX12_shares_52 ?_
      refine j_v (nI np) e3 ?_
      refine j_icmp_ge C 108 dX12_shares_53 (by decide) (fun c53 => ?_) (fun c53 => ?_)
      · rw [nI_leI (by omega) (by omega)] at c53
        obtain rfl : np = i := by omega
        refine j_iload_n C 2 dX12_shares_108 rfl ?_
        refine j_if_ge C 116 dX12_shares_109 (by decide) (fun c109 => ?_) (fun c109 => ?_)
        · skip
          refine j_iload C 4 dX12_shares_116 rfl ?_
          refine j_iret C dX12_shares_118 ?_
          unfold sp_shares
          rw [if_pos ⟨c7, c23⟩]
          rw [if_pos c109]
          obtain ⟨j, hj, ej⟩ := inn_row (n := np) (x := what) ⟨c109, c23.2⟩ e3 (by omega)
          rw [hg j hj ej, ej, tN_nI (by omega)]
          exact ⟨rfl, EQ.rf⟩
        · skip
          refine j_iload_n C 3 dX12_shares_112 rfl ?_
          refine j_goto C 118 dX12_shares_113 (by decide) ?_
          refine j_iret C dX12_shares_118 ?_
          unfold sp_shares
          rw [if_pos ⟨c7, c23⟩]
          rw [if_neg c109, e3, tN_nI (n := np) (by omega)]
          exact ⟨rfl, EQ.rf⟩
      · rw [nI_leI (by omega) (by omega)] at c53
        obtain ⟨⟨k, hk, ek⟩, -⟩ := hP i (by omega)
        refine j_iload_n C 1 dX12_shares_56 rfl ?_
        refine j_aload_n C 0 dX12_shares_57 rfl ?_
        refine j_iload C 5 dX12_shares_58 rfl ?_
        refine j_callV (As := [.int (nI i)]) (rest := [.int n]) C vw12_eats (c_eats i ek hk (by omega)) rRcv rfl (Nat.le_of_ble_eq_true rfl) dX12_shares_60 (by decide) ?_
        rintro _ _ ⟨rfl, rfl⟩
        refine j_imul C dX12_shares_63 ?_
        refine j_iload_n C 3 dX12_shares_64 rfl ?_
        refine j_icmp_ge C 79 dX12_shares_65 (by decide) (fun c65 => ?_) (fun c65 => ?_)
        · skip
          refine j_iload_n C 3 dX12_shares_79 rfl ?_
          refine j_istore C [(6, .int (shrF row n i)), (0, .ref o), (1, .int n), (2, .int what), (3, .int (shrF row n i)), (4, .int g), (5, .int (nI i))] dX12_shares_80 (by decide) rfl ?_
          refine j_eqL [(6, .int (shrG row n i)), (0, .ref o), (1, .int n), (2, .int what), (3, .int (shrF row n i)), (4, .int g), (5, .int (nI i))] (by rw [shr_f c65]) ?_
          refine j_iload_n C 4 dX12_shares_82 rfl ?_
          refine j_iload C 0 dX12_shares_83 rfl ?_
          refine j_isub C dX12_shares_85 ?_
          refine j_istore_n C [(3, .int ((shrF row n i) - (shrG row n i))), (6, .int (shrG row n i)), (0, .ref o), (1, .int n), (2, .int what), (4, .int g), (5, .int (nI i))] dX12_shares_86 (by decide) rfl ?_
          refine j_eqL [(3, .int (shrF row n (i + 1))), (6, .int (shrG row n i)), (0, .ref o), (1, .int n), (2, .int what), (4, .int g), (5, .int (nI i))] rfl ?_
          refine j_iload C 6 dX12_shares_87 rfl ?_
          refine j_iload_n C 4 dX12_shares_89 rfl ?_
          refine j_icmp_ne C 98 dX12_shares_90 (by decide) (fun c90 => ?_) (fun c90 => ?_)
          · skip
            refine j_iload C 5 dX12_shares_98 rfl ?_
            refine j_istore C [(4, .int g), (3, .int (shrF row n (i + 1))), (6, .int (shrG row n i)), (0, .ref o), (1, .int n), (2, .int what), (5, .int (nI i))] dX12_shares_100 (by decide) rfl ?_
            refine j_iinc C (v := (nI (i + 1))) 6 [(5, .int (nI (i + 1))), (4, .int g), (3, .int (shrF row n (i + 1))), (6, .int (shrG row n i)), (0, .ref o), (1, .int n), (2, .int what)] dX12_shares_102 rfl (nI_1 _) (by decide) rfl ?_
            refine j_goto C 45 dX12_shares_105 (by decide) ?_
            refine j_L [4, 5, 6, 2, 1, 0] [(0, .ref o), (1, .int n), (2, .int what), (3, .int (shrF row n (i + 1))), (4, .int g), (5, .int (nI (i + 1)))] rfl ?_
            refine ih (i + 1, g) ⟨by dsimp only; omega, fun j hj ej => ?_⟩ (by dsimp only; omega)
            dsimp only at hj ⊢
            refine hg j ?_ ej
            rcases Nat.lt_or_ge j i with g | g
            · exact g
            · exact absurd (by rw [ej]; congr 1; omega) c90
          · skip
            refine j_iload C 1 dX12_shares_93 rfl ?_
            refine j_goto C 100 dX12_shares_95 (by decide) ?_
            refine j_istore C [(4, .int (shrG row n i)), (3, .int (shrF row n (i + 1))), (6, .int (shrG row n i)), (0, .ref o), (1, .int n), (2, .int what), (5, .int (nI i))] dX12_shares_100 (by decide) rfl ?_
            refine j_iinc C (v := (nI (i + 1))) 6 [(5, .int (nI (i + 1))), (4, .int (shrG row n i)), (3, .int (shrF row n (i + 1))), (6, .int (shrG row n i)), (0, .ref o), (1, .int n), (2, .int what)] dX12_shares_102 rfl (nI_1 _) (by decide) rfl ?_
            refine j_goto C 45 dX12_shares_105 (by decide) ?_
            refine j_L [4, 5, 6, 2, 1, 0] [(0, .ref o), (1, .int n), (2, .int what), (3, .int (shrF row n (i + 1))), (4, .int (shrG row n i)), (5, .int (nI (i + 1)))] rfl ?_
            refine ih (i + 1, shrG row n i) ⟨by dsimp only; omega, fun j hj ej => ?_⟩ (by dsimp only; omega)
            dsimp only at hj ⊢
            rw [← c90, nI_eq (by omega) (by omega)] at ej
            subst ej
            rfl
        · skip
          refine j_iload_n C 1 dX12_shares_68 rfl ?_
          refine j_aload_n C 0 dX12_shares_69 rfl ?_
          refine j_iload C 5 dX12_shares_70 rfl ?_
          refine j_callV (As := [.int (nI i)]) (rest := [.int n]) C vw12_eats (c_eats i ek hk (by omega)) rRcv rfl (Nat.le_of_ble_eq_true rfl) dX12_shares_72 (by decide) ?_
          rintro _ _ ⟨rfl, rfl⟩
          refine j_imul C dX12_shares_75 ?_
          refine j_goto C 80 dX12_shares_76 (by decide) ?_
          refine j_istore C [(6, .int (n * (eatF row i))), (0, .ref o), (1, .int n), (2, .int what), (3, .int (shrF row n i)), (4, .int g), (5, .int (nI i))] dX12_shares_80 (by decide) rfl ?_
          refine j_eqL [(6, .int (shrG row n i)), (0, .ref o), (1, .int n), (2, .int what), (3, .int (shrF row n i)), (4, .int g), (5, .int (nI i))] (by rw [shr_t (nle c65)]) ?_
          refine j_iload_n C 4 dX12_shares_82 rfl ?_
          refine j_iload C 0 dX12_shares_83 rfl ?_
          refine j_isub C dX12_shares_85 ?_
          refine j_istore_n C [(3, .int ((shrF row n i) - (shrG row n i))), (6, .int (shrG row n i)), (0, .ref o), (1, .int n), (2, .int what), (4, .int g), (5, .int (nI i))] dX12_shares_86 (by decide) rfl ?_
          refine j_eqL [(3, .int (shrF row n (i + 1))), (6, .int (shrG row n i)), (0, .ref o), (1, .int n), (2, .int what), (4, .int g), (5, .int (nI i))] rfl ?_
          refine j_iload C 6 dX12_shares_87 rfl ?_
          refine j_iload_n C 4 dX12_shares_89 rfl ?_
          refine j_icmp_ne C 98 dX12_shares_90 (by decide) (fun c90 => ?_) (fun c90 => ?_)
          · skip
            refine j_iload C 5 dX12_shares_98 rfl ?_
            refine j_istore C [(4, .int g), (3, .int (shrF row n (i + 1))), (6, .int (shrG row n i)), (0, .ref o), (1, .int n), (2, .int what), (5, .int (nI i))] dX12_shares_100 (by decide) rfl ?_
            refine j_iinc C (v := (nI (i + 1))) 6 [(5, .int (nI (i + 1))), (4, .int g), (3, .int (shrF row n (i + 1))), (6, .int (shrG row n i)), (0, .ref o), (1, .int n), (2, .int what)] dX12_shares_102 rfl (nI_1 _) (by decide) rfl ?_
            refine j_goto C 45 dX12_shares_105 (by decide) ?_
            refine j_L [4, 5, 6, 2, 1, 0] [(0, .ref o), (1, .int n), (2, .int what), (3, .int (shrF row n (i + 1))), (4, .int g), (5, .int (nI (i + 1)))] rfl ?_
            refine ih (i + 1, g) ⟨by dsimp only; omega, fun j hj ej => ?_⟩ (by dsimp only; omega)
            dsimp only at hj ⊢
            refine hg j ?_ ej
            rcases Nat.lt_or_ge j i with g | g
            · exact g
            · exact absurd (by rw [ej]; congr 1; omega) c90
          · skip
            refine j_iload C 1 dX12_shares_93 rfl ?_
            refine j_goto C 100 dX12_shares_95 (by decide) ?_
            refine j_istore C [(4, .int (shrG row n i)), (3, .int (shrF row n (i + 1))), (6, .int (shrG row n i)), (0, .ref o), (1, .int n), (2, .int what), (5, .int (nI i))] dX12_shares_100 (by decide) rfl ?_
            refine j_iinc C (v := (nI (i + 1))) 6 [(5, .int (nI (i + 1))), (4, .int (shrG row n i)), (3, .int (shrF row n (i + 1))), (6, .int (shrG row n i)), (0, .ref o), (1, .int n), (2, .int what)] dX12_shares_102 rfl (nI_1 _) (by decide) rfl ?_
            refine j_goto C 45 dX12_shares_105 (by decide) ?_
            refine j_L [4, 5, 6, 2, 1, 0] [(0, .ref o), (1, .int n), (2, .int what), (3, .int (shrF row n (i + 1))), (4, .int (shrG row n i)), (5, .int (nI (i + 1)))] rfl ?_
            refine ih (i + 1, shrG row n i) ⟨by dsimp only; omega, fun j hj ej => ?_⟩ (by dsimp only; omega)
            dsimp only at hj ⊢
            rw [← c90, nI_eq (by omega) (by omega)] at ej
            subst ej
            rfl
    · replace c23 := bI_f c23
      refine j_aload_n C 0 dX12_shares_26 rfl ?_
      refine j_ldc C (-1000000001) dX12_shares_27 kc12_55 ?_
      refine j_callV (As := [.int (-1000000001)]) (rest := []) C vw12_errs (c_errs 1 (by decide) (by decide)) rRcv rfl (Nat.le_of_ble_eq_true rfl) dX12_shares_29 (by decide) ?_
      rintro _ _ ⟨rfl, rfl⟩
      refine j_iret C dX12_shares_32 ?_
      unfold sp_shares
      rw [if_neg (fun h => c23 h.2)]
      exact ⟨rfl, EQ.rf⟩
theorem dawnsF_s (np : Nat) (w row : Nat → Int32) (n : Nat) : dawnsF np w row (n + 1) = dawnF np w (dawnsF np w row n) := rfl
theorem RK5 {row : Nat → Int32} {nc np nw : Nat} (hI : Iv row nc np nw) (x : Int32) : Iv (upd row 5 x) nc np nw := by
  obtain ⟨⟨e2, g2, g10⟩, ⟨e3, g6⟩, ⟨e8, g8⟩, hP0, hE0, hL0, hT0, hT1⟩ := hI
  have ht : ∀ u, u ≤ 1 → txtOK row u → txtOK (upd row 5 x) u := by
    intro u hu h
    have e1 : txF (upd row 5 x) u = txF row u := by funext k; exact pk_un (by omega)
    unfold txtOK
    rw [e1, pk_un (by omega)]
    exact h
  refine ⟨⟨?_, g2, g10⟩, ⟨?_, g6⟩, ⟨?_, g8⟩, fun p hp => ?_, fun c hc => ?_, fun c hc => ?_, ht 0 (by omega) hT0, ht 1 (by omega) hT1⟩
  · rw [pk_un (by omega)]; exact e2
  · rw [pk_un (by omega)]; exact e3
  · rw [pk_un (by omega)]; exact e8
  · obtain ⟨h0, h1, h2, h3, h4, h5⟩ := hP0 p hp
    refine ⟨?_, ?_, ?_, ?_, ?_, ?_⟩ <;> rw [pk_un (by omega)] <;> assumption
  · rw [pk_un (by omega)]; exact hE0 c hc
  · rw [pk_un (by omega)]; exact hL0 c hc
theorem wv_5 (V row : Nat → Int32) (nw : Nat) (x : Int32) (h8 : nw ≤ 8) : wv V (upd row 5 x) nw = wv V row nw := by
  funext p
  have hs : ∀ n, n ≤ 8 → ∀ par s, sumW (upd row 5 x) par p s n = sumW row par p s n := by
    intro n
    induction n with
    | zero => intro _ _ _; rfl
    | succ n ih => intro hn par s; unfold sumW; rw [ih (by omega), pk_un (by omega), pk_un (by omega)]
  unfold wv wS
  rw [hs nw h8, pk_un (by omega), pk_un (by omega)]

theorem bit_or : ∀ n, n < 8 → ∀ a, a < 2 ^ n → nI a ||| (nI 1 <<< (nI n &&& 31)) = nI (a + 2 ^ n) := by decide +kernel
theorem bit_z : ∀ a, a < 256 → nI a ||| nI 0 = nI a := by decide +kernel
theorem bit_t : ∀ a, a < 256 → ∀ p, p < 8 → (nI a >>> (nI p &&& 31)) &&& nI 1 = nI (a / 2 ^ p % 2) := by decide +kernel
def setN (P : Nat → Prop) [DecidablePred P] : Nat → Nat
  | 0 => 0
  | n + 1 => setN P n + (if P n then 2 ^ n else 0)
theorem setN_lt (P : Nat → Prop) [DecidablePred P] (n : Nat) : setN P n < 2 ^ n := by
  induction n with
  | zero => exact Nat.one_pos
  | succ n ih => unfold setN; rw [Nat.pow_succ]; split <;> omega
theorem setN_bit (P : Nat → Prop) [DecidablePred P] {n p : Nat} (h : p < n) : setN P n / 2 ^ p % 2 = if P p then 1 else 0 := by
  induction n with
  | zero => omega
  | succ n ih =>
    unfold setN
    have hl := setN_lt P n
    by_cases e : p = n
    · subst e
      by_cases g : P p
      · rw [if_pos g, if_pos g, Nat.add_div_right _ (Nat.two_pow_pos _), Nat.div_eq_of_lt hl]
      · rw [if_neg g, if_neg g, Nat.add_zero, Nat.div_eq_of_lt hl]
    · rw [← ih (by omega)]
      by_cases g : P n
      · rw [if_pos g]
        obtain ⟨d, hd⟩ : ∃ d, n = p + (d + 1) := ⟨n - p - 1, by omega⟩
        have e2 : 2 ^ n = 2 ^ p * (2 * 2 ^ d) := by rw [hd, Nat.pow_add, Nat.pow_succ]; congr 1; omega
        rw [e2, Nat.add_mul_div_left _ _ (Nat.two_pow_pos _), Nat.add_mul_mod_self_left]
      · rw [if_neg g, Nat.add_zero]
theorem hunF_N (r t : Nat → Int32) (n : Nat) (hn : n ≤ 6) : hunF r t n = nI (setN (fun p => t (30 + 6 * p + 5) < r (30 + 6 * p + 5)) n) := by
  induction n with
  | zero => rfl
  | succ n ih =>
    have hl := setN_lt (fun p => t (30 + 6 * p + 5) < r (30 + 6 * p + 5)) n
    have h6 : 2 ^ n ≤ 2 ^ 6 := Nat.pow_le_pow_right (by omega) (by omega)
    unfold hunF setN
    rw [ih (by omega)]
    by_cases g : t (30 + 6 * n + 5) < r (30 + 6 * n + 5)
    · rw [if_pos g, if_pos g, bit_or n (by omega) _ hl]
    · rw [if_neg g, if_neg g, bit_z _ (by omega), Nat.add_zero]
theorem set_bI (P : Nat → Prop) [DecidablePred P] {n p : Nat} (hn : n ≤ 8) (h : p < n) : (nI (setN P n) >>> (nI p &&& 31)) &&& nI 1 = bI (P p) := by
  have hl := setN_lt P n
  have h6 : 2 ^ n ≤ 2 ^ 8 := Nat.pow_le_pow_right (by omega) hn
  rw [bit_t _ (by omega) p (by omega), setN_bit P h]
  unfold bI
  by_cases g : P p
  · rw [if_pos g, if_pos g]; rfl
  · rw [if_neg g, if_neg g]; rfl
theorem hun_bit {r t : Nat → Int32} {np p : Nat} (hn : np ≤ 6) (h : p < np) : (hunF r t np >>> (nI p &&& 31)) &&& nI 1 = bI (t (30 + 6 * p + 5) < r (30 + 6 * p + 5)) := by
  rw [hunF_N r t np hn]
  exact set_bI (fun p => t (30 + 6 * p + 5) < r (30 + 6 * p + 5)) (by omega) h
theorem setN_0 (P : Nat → Prop) [DecidablePred P] (n : Nat) : setN P n = 0 ↔ ∀ p, p < n → ¬ P p := by
  induction n with
  | zero => exact ⟨fun _ p h => absurd h (Nat.not_lt_zero _), fun _ => rfl⟩
  | succ n ih =>
    unfold setN
    by_cases g : P n
    · rw [if_pos g]
      exact ⟨fun h => absurd h (by have := Nat.two_pow_pos n; omega), fun h => absurd g (h n (by omega))⟩
    · rw [if_neg g, Nat.add_zero, ih]
      exact ⟨fun h p hp => by by_cases e : p = n; · subst e; exact g
                              · exact h p (by omega), fun h p hp => h p (by omega)⟩
theorem hun_0 {r t : Nat → Int32} {np : Nat} (hn : np ≤ 6) : hunF r t np = 0 ↔ ∀ p, p < np → ¬ t (30 + 6 * p + 5) < r (30 + 6 * p + 5) := by
  have hl := setN_lt (fun p => t (30 + 6 * p + 5) < r (30 + 6 * p + 5)) np
  have h6 : 2 ^ np ≤ 2 ^ 6 := Nat.pow_le_pow_right (by omega) hn
  rw [hunF_N r t np hn, show (0 : Int32) = nI 0 from rfl, nI_eq (by omega) (by omega), setN_0]
theorem wv_5d (V row : Nat → Int32) (nw : Nat) (h8 : nw ≤ 8) : True := trivial

theorem dX12_check_0 : decode cX12_check 0 = .ok (.aload_n 0, 1) := by decide +kernel
theorem dX12_check_1 : decode cX12_check 1 = .ok (.getfield 7, 3) := by decide +kernel
theorem dX12_check_4 : decode cX12_check 4 = .ok (.iconst 5, 1) := by decide +kernel
theorem dX12_check_5 : decode cX12_check 5 = .ok (.iaload, 1) := by decide +kernel
theorem dX12_check_6 : decode cX12_check 6 = .ok (.istore_n 1, 1) := by decide +kernel
theorem dX12_check_7 : decode cX12_check 7 = .ok (.aload_n 0, 1) := by decide +kernel
theorem dX12_check_8 : decode cX12_check 8 = .ok (.getfield 7, 3) := by decide +kernel
theorem dX12_check_11 : decode cX12_check 11 = .ok (.iconst 5, 1) := by decide +kernel
theorem dX12_check_12 : decode cX12_check 12 = .ok (.iconst 0, 1) := by decide +kernel
theorem dX12_check_13 : decode cX12_check 13 = .ok (.iastore, 1) := by decide +kernel
theorem dX12_check_14 : decode cX12_check 14 = .ok (.aload_n 0, 1) := by decide +kernel
theorem dX12_check_15 : decode cX12_check 15 = .ok (.aload_n 0, 1) := by decide +kernel
theorem dX12_check_16 : decode cX12_check 16 = .ok (.getfield 7, 3) := by decide +kernel
theorem dX12_check_19 : decode cX12_check 19 = .ok (.aload_n 0, 1) := by decide +kernel
theorem dX12_check_20 : decode cX12_check 20 = .ok (.getfield 16, 3) := by decide +kernel
theorem dX12_check_23 : decode cX12_check 23 = .ok (.invokevirtual 171, 3) := by decide +kernel
theorem dX12_check_26 : decode cX12_check 26 = .ok (.iconst 0, 1) := by decide +kernel
theorem dX12_check_27 : decode cX12_check 27 = .ok (.istore_n 2, 1) := by decide +kernel
theorem dX12_check_28 : decode cX12_check 28 = .ok (.iconst 1, 1) := by decide +kernel
theorem dX12_check_29 : decode cX12_check 29 = .ok (.istore_n 3, 1) := by decide +kernel
theorem dX12_check_30 : decode cX12_check 30 = .ok (.iload_n 2, 1) := by decide +kernel
theorem dX12_check_31 : decode cX12_check 31 = .ok (.iload_n 1, 1) := by decide +kernel
theorem dX12_check_32 : decode cX12_check 32 = .ok (.if_icmp .ge 50, 3) := by decide +kernel
theorem dX12_check_35 : decode cX12_check 35 = .ok (.iload_n 3, 1) := by decide +kernel
theorem dX12_check_36 : decode cX12_check 36 = .ok (.ifCond .eq 46, 3) := by decide +kernel
theorem dX12_check_39 : decode cX12_check 39 = .ok (.aload_n 0, 1) := by decide +kernel
theorem dX12_check_40 : decode cX12_check 40 = .ok (.invokevirtual 197, 3) := by decide +kernel
theorem dX12_check_43 : decode cX12_check 43 = .ok (.aload_n 0, 1) := by decide +kernel
theorem dX12_check_44 : decode cX12_check 44 = .ok (.iconst 4, 1) := by decide +kernel
theorem dX12_check_45 : decode cX12_check 45 = .ok (.invokevirtual 203, 3) := by decide +kernel
theorem dX12_check_48 : decode cX12_check 48 = .ok (.aload_n 0, 1) := by decide +kernel
theorem dX12_check_49 : decode cX12_check 49 = .ok (.getfield 7, 3) := by decide +kernel
theorem dX12_check_52 : decode cX12_check 52 = .ok (.sipush 140, 3) := by decide +kernel
theorem dX12_check_55 : decode cX12_check 55 = .ok (.iload_n 2, 1) := by decide +kernel
theorem dX12_check_56 : decode cX12_check 56 = .ok (.iadd, 1) := by decide +kernel
theorem dX12_check_57 : decode cX12_check 57 = .ok (.iaload, 1) := by decide +kernel
theorem dX12_check_58 : decode cX12_check 58 = .ok (.if_icmp .ne 7, 3) := by decide +kernel
theorem dX12_check_61 : decode cX12_check 61 = .ok (.iconst 1, 1) := by decide +kernel
theorem dX12_check_62 : decode cX12_check 62 = .ok (.goto 4, 3) := by decide +kernel
theorem dX12_check_65 : decode cX12_check 65 = .ok (.iconst 0, 1) := by decide +kernel
theorem dX12_check_66 : decode cX12_check 66 = .ok (.istore_n 3, 1) := by decide +kernel
theorem dX12_check_67 : decode cX12_check 67 = .ok (.iload_n 2, 1) := by decide +kernel
theorem dX12_check_68 : decode cX12_check 68 = .ok (.iload_n 3, 1) := by decide +kernel
theorem dX12_check_69 : decode cX12_check 69 = .ok (.ifCond .eq 7, 3) := by decide +kernel
theorem dX12_check_72 : decode cX12_check 72 = .ok (.iconst 1, 1) := by decide +kernel
theorem dX12_check_73 : decode cX12_check 73 = .ok (.goto 4, 3) := by decide +kernel
theorem dX12_check_76 : decode cX12_check 76 = .ok (.iconst 0, 1) := by decide +kernel
theorem dX12_check_77 : decode cX12_check 77 = .ok (.iadd, 1) := by decide +kernel
theorem dX12_check_78 : decode cX12_check 78 = .ok (.istore_n 2, 1) := by decide +kernel
theorem dX12_check_79 : decode cX12_check 79 = .ok (.goto (-49), 3) := by decide +kernel
theorem dX12_check_82 : decode cX12_check 82 = .ok (.aload_n 0, 1) := by decide +kernel
theorem dX12_check_83 : decode cX12_check 83 = .ok (.aload_n 0, 1) := by decide +kernel
theorem dX12_check_84 : decode cX12_check 84 = .ok (.getfield 16, 3) := by decide +kernel
theorem dX12_check_87 : decode cX12_check 87 = .ok (.aload_n 0, 1) := by decide +kernel
theorem dX12_check_88 : decode cX12_check 88 = .ok (.getfield 7, 3) := by decide +kernel
theorem dX12_check_91 : decode cX12_check 91 = .ok (.invokevirtual 171, 3) := by decide +kernel
theorem dX12_check_94 : decode cX12_check 94 = .ok (.iload_n 3, 1) := by decide +kernel
theorem dX12_check_95 : decode cX12_check 95 = .ok (.ifCond .eq 7, 3) := by decide +kernel
theorem dX12_check_98 : decode cX12_check 98 = .ok (.iconst 0, 1) := by decide +kernel
theorem dX12_check_99 : decode cX12_check 99 = .ok (.goto 6, 3) := by decide +kernel
theorem dX12_check_102 : decode cX12_check 102 = .ok (.iconst 1, 1) := by decide +kernel
theorem dX12_check_103 : decode cX12_check 103 = .ok (.iload_n 2, 1) := by decide +kernel
theorem dX12_check_104 : decode cX12_check 104 = .ok (.iadd, 1) := by decide +kernel
theorem dX12_check_105 : decode cX12_check 105 = .ok (.ireturn, 1) := by decide +kernel
set_option maxHeartbeats 2000000 in
set_option maxRecDepth 20000 in
theorem c_check {l : Launch} {D : va_G} {cI cG cW : ClassId} {o : Nat} {q : Nat → Nat} {V row kept tried bf fd pk bo so sh mv tr : Nat → Int32} {nc np nw d nt nq : Nat} (hR : RKx row nc np nw d nt nq) : Ci l yX12_check cX12_check 4 (some .int) 90 D (tyL cI cG cW) (wR cI o q) [.ref o] (sR V row kept tried bf fd pk bo so sh mv tr) (fun r τ => r = (sp_check V row kept tried bf fd pk bo so sh mv tr ).1 ∧ EQ τ (sp_check V row kept tried bf fd pk bo so sh mv tr ).2) := by
  refine Ci.of (by decide) (Nat.le_of_ble_eq_true rfl) ?_
  intro p_ e_ s_ m_ b_ M_ c_ A_ C
  replace C : Cx _ _ _ _ _ _ _ _ RX12 _ _ _ _ := C
  refine j_L [0] [(0, .ref o)] rfl ?_
  obtain ⟨hI, hW, ⟨e0, hd⟩, ⟨e4, ht⟩, ⟨e5, hq⟩, hB⟩ := id hR
  obtain ⟨⟨e2, hc2, hc10⟩, ⟨e3, hn6⟩, ⟨e8, hw8⟩, hP, hE, hLo, hT0, hT1⟩ := id hI
  have hIc := hI
  refine j_aload_n C 0 dX12_check_0 rfl ?_
  refine rg C (v := .ref (q 0)) 0 (by decide) kf12_7 rfl dX12_check_1 ?_
  refine j_iconst C (v := (nI 5)) dX12_check_4 (by decide) ?_
  refine rl_row C 5 rfl (by omega) dX12_check_5 ?_
  refine j_v (nI nq) e5 ?_
  refine j_istore_n C [(1, .int (nI nq)), (0, .ref o)] dX12_check_6 (by decide) rfl ?_
  refine j_aload_n C 1 dX12_check_7 rfl ?_
  refine rg C (v := .ref (q 0)) 0 (by decide) kf12_7 rfl dX12_check_8 ?_
  refine j_iconst C (v := (nI 5)) dX12_check_11 (by decide) ?_
  refine j_iconst C (v := (nI 0)) dX12_check_12 (by decide) ?_
  refine rs_row C 5 rfl (by omega) dX12_check_13 ?_
  refine j_aload_n C 1 dX12_check_14 rfl ?_
  refine j_aload_n C 1 dX12_check_15 rfl ?_
  refine rg C (v := .ref (q 0)) 0 (by decide) kf12_7 rfl dX12_check_16 ?_
  refine j_aload_n C 1 dX12_check_19 rfl ?_
  refine rg C (v := .ref (q 2)) 2 (by decide) kf12_16 rfl dX12_check_20 ?_
  refine j_callVv (As := [.ref (q 0), .ref (q 2)]) (rest := []) C vw12_moveAll (c_moveAll_row_tried) rRcv rfl (Nat.le_of_ble_eq_true rfl) dX12_check_23 (by decide) ?_
  rintro _ rfl
  have hI5 := RK5 hI (nI 0)
  refine j_iconst C (v := (nI 0)) dX12_check_26 (by decide) ?_
  refine j_istore_n C [(2, .int (nI 0)), (1, .int (nI nq)), (0, .ref o)] dX12_check_27 (by decide) rfl ?_
  refine j_iconst C (v := (nI 1)) dX12_check_28 (by decide) ?_
  refine j_istore_n C [(3, .int (nI 1)), (2, .int (nI 0)), (1, .int (nI nq)), (0, .ref o)] dX12_check_29 (by decide) rfl ?_
  refine j_L [3, 2, 1, 0] [(0, .ref o), (1, .int (nI nq)), (2, .int (nI 0)), (3, .int (nI 1))] rfl ?_
  refine j_loop (X := Nat × (Nat → Int32) × (Nat → Int32)) (fun (z : Nat × (Nat → Int32) × (Nat → Int32)) => match z with | (k, V1, pk1) => k ≤ nq ∧ VE V1 V ∧ ∀ j, j < k → sumF (dawnsF np (wv V row nw) (upd row 5 (nI 0)) (j + 1)) 4 np = row (140 + j)) (fun (z : Nat × (Nat → Int32) × (Nat → Int32)) => match z with | (k, V1, pk1) => nq - k) (fun (z : Nat × (Nat → Int32) × (Nat → Int32)) => match z with | (k, V1, pk1) => (sR V1 (dawnsF np (wv V row nw) (upd row 5 (nI 0)) k) kept (upd row 5 (nI 0)) bf fd pk1 bo so sh mv tr)) (fun (z : Nat × (Nat → Int32) × (Nat → Int32)) => match z with | (k, V1, pk1) => [(0, .ref o), (1, .int (nI nq)), (2, .int (nI k)), (3, .int (nI 1))]) (0, V, pk) (⟨Nat.zero_le _, VE.rf, fun j h => absurd h (Nat.not_lt_zero _)⟩) rfl rfl ?_
  rintro ⟨k, V1, pk1⟩ ⟨hk, hV, hok⟩ ih
  try dsimp only at ih ⊢
  obtain ⟨hIc, hFc⟩ := dawns_IF (wv V row nw) hI5 k
  have hwv := (wv_eq nw hV hFc).trans (wv_5 V row nw (nI 0) hw8)
  obtain ⟨hId, hFd⟩ := dawns_IF (wv V row nw) hI5 (k + 1)
  refine j_iload_n C 2 dX12_check_30 rfl ?_
  refine j_iload_n C 1 dX12_check_31 rfl ?_
  refine j_icmp_ge C 82 dX12_check_32 (by decide) (fun c32 => ?_) (fun c32 => ?_)
  · rw [nI_leI (by omega) (by omega)] at c32
    refine j_aload_n C 0 dX12_check_82 rfl ?_
    refine j_aload_n C 0 dX12_check_83 rfl ?_
    refine rg C (v := .ref (q 2)) 2 (by decide) kf12_16 rfl dX12_check_84 ?_
    refine j_aload_n C 0 dX12_check_87 rfl ?_
    refine rg C (v := .ref (q 0)) 0 (by decide) kf12_7 rfl dX12_check_88 ?_
    refine j_callVv (As := [.ref (q 2), .ref (q 0)]) (rest := []) C vw12_moveAll (c_moveAll_tried_row) rRcv rfl (Nat.le_of_ble_eq_true rfl) dX12_check_91 (by decide) ?_
    rintro _ rfl
    refine j_iload_n C 3 dX12_check_94 rfl ?_
    refine j_if_eq C 102 dX12_check_95 (by decide) (fun c95 => ?_) (fun c95 => ?_)
    · rw [show (0 : Int32) = nI 0 from rfl, nI_eq (by omega) (by omega)] at c95
      exfalso; omega
    · rw [show (0 : Int32) = nI 0 from rfl, nI_eq (by omega) (by omega)] at c95
      refine j_iconst C (v := (nI 0)) dX12_check_98 (by decide) ?_
      refine j_goto C 105 dX12_check_99 (by decide) ?_
      refine j_iret C dX12_check_105 ?_
      unfold sp_check
      have hls : lsF (chkP V row) nq 0 = k := lsF_at (P := chkP V row) (Nat.zero_le _) (by omega) (fun j _ hj => by unfold chkP; rw [e3, e8, tN_nI (n := np) (by omega), tN_nI (n := nw) (by omega)]; exact fun h => h (hok j hj)) (Or.inr (by omega))
      rw [e5, tN_nI (n := nq) (by omega), hls, if_pos (by omega)]
      exact ⟨rfl, EQ.ve hV⟩
  · rw [nI_leI (by omega) (by omega)] at c32
    refine j_iload_n C 3 dX12_check_35 rfl ?_
    refine j_if_eq C 82 dX12_check_36 (by decide) (fun c36 => ?_) (fun c36 => ?_)
    · rw [show (0 : Int32) = nI 0 from rfl, nI_eq (by omega) (by omega)] at c36
      exfalso; omega
    · rw [show (0 : Int32) = nI 0 from rfl, nI_eq (by omega) (by omega)] at c36
      refine j_aload_n C 0 dX12_check_39 rfl ?_
      refine j_callVv (As := []) (rest := []) C vw12_oneDawn (c_oneDawn hIc) rRcv rfl (Nat.le_of_ble_eq_true rfl) dX12_check_40 (by decide) ?_
      rintro _ ⟨Vx1, pkx2, hVx1, hpkx2, rfl⟩
      rw [hwv, ← dawnsF_s]
      have hIc := hId
      refine j_aload_n C 0 dX12_check_43 rfl ?_
      refine j_iconst C (v := (nI 4)) dX12_check_44 (by decide) ?_
      refine j_callV (As := [.int (nI 4)]) (rest := []) C vw12_sumOf (c_sumOf 4 hIc.2.1.1 hIc.2.1.2 (by omega)) rRcv rfl (Nat.le_of_ble_eq_true rfl) dX12_check_45 (by decide) ?_
      rintro _ _ ⟨rfl, rfl⟩
      refine j_aload_n C 0 dX12_check_48 rfl ?_
      refine rg C (v := .ref (q 0)) 0 (by decide) kf12_7 rfl dX12_check_49 ?_
      refine j_sipush C (v := (nI 140)) dX12_check_52 (by decide) ?_
      refine j_iload_n C 2 dX12_check_55 rfl ?_
      refine j_iaddN C dX12_check_56 ?_
      refine rl_row C (140 + k) rfl (by omega) dX12_check_57 ?_
      refine j_v (row (140 + k)) ((hFd (140 + k) (by omega)).trans (pk_un (by omega))) ?_
      refine j_icmp_ne C 65 dX12_check_58 (by decide) (fun c58 => ?_) (fun c58 => ?_)
      · skip
        refine j_iconst C (v := (nI 0)) dX12_check_65 (by decide) ?_
        refine j_istore_n C [(3, .int (nI 0)), (0, .ref o), (1, .int (nI nq)), (2, .int (nI k))] dX12_check_66 (by decide) rfl ?_
        refine j_iload_n C 3 dX12_check_67 rfl ?_
        refine j_iload_n C 0 dX12_check_68 rfl ?_
        refine j_if_eq C 76 dX12_check_69 (by decide) (fun c69 => ?_) (fun c69 => ?_)
        · rw [show (0 : Int32) = nI 0 from rfl, nI_eq (by omega) (by omega)] at c69
          refine j_iconst C (v := (nI 0)) dX12_check_76 (by decide) ?_
          refine j_iaddN C dX12_check_77 ?_
          refine j_istore_n C [(2, .int (nI (k + 0))), (3, .int (nI 0)), (0, .ref o), (1, .int (nI nq))] dX12_check_78 (by decide) rfl ?_
          refine j_goto C 30 dX12_check_79 (by decide) ?_
          refine j_iload_n C 0 dX12_check_30 rfl ?_
          refine j_iload_n C 3 dX12_check_31 rfl ?_
          refine j_icmp_ge C 82 dX12_check_32 (by decide) (fun c32 => ?_) (fun c32 => ?_)
          · rw [nI_leI (by omega) (by omega)] at c32
            refine j_aload_n C 2 dX12_check_82 rfl ?_
            refine j_aload_n C 2 dX12_check_83 rfl ?_
            refine rg C (v := .ref (q 2)) 2 (by decide) kf12_16 rfl dX12_check_84 ?_
            refine j_aload_n C 2 dX12_check_87 rfl ?_
            refine rg C (v := .ref (q 0)) 0 (by decide) kf12_7 rfl dX12_check_88 ?_
            refine j_callVv (As := [.ref (q 2), .ref (q 0)]) (rest := []) C vw12_moveAll (c_moveAll_tried_row) rRcv rfl (Nat.le_of_ble_eq_true rfl) dX12_check_91 (by decide) ?_
            rintro _ rfl
            refine j_iload_n C 1 dX12_check_94 rfl ?_
            refine j_if_eq C 102 dX12_check_95 (by decide) (fun c95 => ?_) (fun c95 => ?_)
            · rw [show (0 : Int32) = nI 0 from rfl, nI_eq (by omega) (by omega)] at c95
              refine j_iconst C (v := (nI 1)) dX12_check_102 (by decide) ?_
              refine j_iload_n C 0 dX12_check_103 rfl ?_
              refine j_iaddN C dX12_check_104 ?_
              refine j_iret C dX12_check_105 ?_
              unfold sp_check
              have hls : lsF (chkP V row) nq 0 = k := lsF_at (P := chkP V row) (Nat.zero_le _) (by omega) (fun j _ hj => by unfold chkP; rw [e3, e8, tN_nI (n := np) (by omega), tN_nI (n := nw) (by omega)]; exact fun h => h (hok j hj)) (Or.inl (by unfold chkP; rw [e3, e8, tN_nI (n := np) (by omega), tN_nI (n := nw) (by omega)]; exact c58))
              rw [e5, tN_nI (n := nq) (by omega), hls, if_neg (by omega)]
              exact ⟨rfl, EQ.ve (hVx1.tr hV)⟩
            · rw [show (0 : Int32) = nI 0 from rfl, nI_eq (by omega) (by omega)] at c95
              exact absurd c69 c95
          · rw [nI_leI (by omega) (by omega)] at c32
            refine j_iload_n C 1 dX12_check_35 rfl ?_
            refine j_if_eq C 82 dX12_check_36 (by decide) (fun c36 => ?_) (fun c36 => ?_)
            · rw [show (0 : Int32) = nI 0 from rfl, nI_eq (by omega) (by omega)] at c36
              refine j_aload_n C 2 dX12_check_82 rfl ?_
              refine j_aload_n C 2 dX12_check_83 rfl ?_
              refine rg C (v := .ref (q 2)) 2 (by decide) kf12_16 rfl dX12_check_84 ?_
              refine j_aload_n C 2 dX12_check_87 rfl ?_
              refine rg C (v := .ref (q 0)) 0 (by decide) kf12_7 rfl dX12_check_88 ?_
              refine j_callVv (As := [.ref (q 2), .ref (q 0)]) (rest := []) C vw12_moveAll (c_moveAll_tried_row) rRcv rfl (Nat.le_of_ble_eq_true rfl) dX12_check_91 (by decide) ?_
              rintro _ rfl
              refine j_iload_n C 1 dX12_check_94 rfl ?_
              refine j_if_eq C 102 dX12_check_95 (by decide) (fun c95 => ?_) (fun c95 => ?_)
              · rw [show (0 : Int32) = nI 0 from rfl, nI_eq (by omega) (by omega)] at c95
                refine j_iconst C (v := (nI 1)) dX12_check_102 (by decide) ?_
                refine j_iload_n C 0 dX12_check_103 rfl ?_
                refine j_iaddN C dX12_check_104 ?_
                refine j_iret C dX12_check_105 ?_
                unfold sp_check
                have hls : lsF (chkP V row) nq 0 = k := lsF_at (P := chkP V row) (Nat.zero_le _) (by omega) (fun j _ hj => by unfold chkP; rw [e3, e8, tN_nI (n := np) (by omega), tN_nI (n := nw) (by omega)]; exact fun h => h (hok j hj)) (Or.inl (by unfold chkP; rw [e3, e8, tN_nI (n := np) (by omega), tN_nI (n := nw) (by omega)]; exact c58))
                rw [e5, tN_nI (n := nq) (by omega), hls, if_neg (by omega)]
                exact ⟨rfl, EQ.ve (hVx1.tr hV)⟩
              · rw [show (0 : Int32) = nI 0 from rfl, nI_eq (by omega) (by omega)] at c95
                exact absurd c36 c95
            · rw [show (0 : Int32) = nI 0 from rfl, nI_eq (by omega) (by omega)] at c36
              exact absurd c69 c36
        · rw [show (0 : Int32) = nI 0 from rfl, nI_eq (by omega) (by omega)] at c69
          exfalso; omega
      · skip
        refine j_iconst C (v := (nI 1)) dX12_check_61 (by decide) ?_
        refine j_goto C 66 dX12_check_62 (by decide) ?_
        refine j_istore_n C [(3, .int (nI 1)), (0, .ref o), (1, .int (nI nq)), (2, .int (nI k))] dX12_check_66 (by decide) rfl ?_
        refine j_iload_n C 3 dX12_check_67 rfl ?_
        refine j_iload_n C 0 dX12_check_68 rfl ?_
        refine j_if_eq C 76 dX12_check_69 (by decide) (fun c69 => ?_) (fun c69 => ?_)
        · rw [show (0 : Int32) = nI 0 from rfl, nI_eq (by omega) (by omega)] at c69
          exact absurd c69 c36
        · rw [show (0 : Int32) = nI 0 from rfl, nI_eq (by omega) (by omega)] at c69
          refine j_iconst C (v := (nI 1)) dX12_check_72 (by decide) ?_
          refine j_goto C 77 dX12_check_73 (by decide) ?_
          refine j_iaddN C dX12_check_77 ?_
          refine j_istore_n C [(2, .int (nI (k + 1))), (3, .int (nI 1)), (0, .ref o), (1, .int (nI nq))] dX12_check_78 (by decide) rfl ?_
          refine j_goto C 30 dX12_check_79 (by decide) ?_
          refine j_L [2, 3, 0, 1] [(0, .ref o), (1, .int (nI nq)), (2, .int (nI (k + 1))), (3, .int (nI 1))] rfl ?_
          refine ih (k + 1, Vx1, pkx2) ⟨by dsimp only; omega, hVx1.tr hV, fun j hj => ?_⟩ (by dsimp only; omega)
          dsimp only at hj
          by_cases ej : j = k
          · subst ej; exact c58
          · exact hok j (by omega)

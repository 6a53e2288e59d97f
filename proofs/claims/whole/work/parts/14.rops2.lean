/-! The reference's public calls: rows, images, what is told, dawns. -/
theorem zroF_0 (sh : Nat → Int32) (s : Nat) : sh = zroF sh s 0 := by
  funext k; unfold zroF; rw [if_neg (by omega)]
theorem zroF_s (sh : Nat → Int32) (s i : Nat) : upd (zroF sh s i) (40 * s + i) (nI 0) = zroF sh s (i + 1) := by
  funext k
  by_cases e : k = 40 * s + i
  · subst e; rw [pk_us]; unfold zroF; rw [if_pos (by omega)]
  · rw [pk_un e]; unfold zroF
    by_cases g : 40 * s ≤ k ∧ k < 40 * s + i
    · rw [if_pos g, if_pos (by omega)]
    · rw [if_neg g, if_neg (by omega)]
theorem mvF_0 (sh : Nat → Int32) (a b : Nat) : sh = mvF sh a b 0 := by
  funext k; unfold mvF; rw [if_neg (by omega)]
theorem mvF_s (sh : Nat → Int32) (a b i : Nat) : upd (mvF sh a b i) (b + i) (sh (a + i)) = mvF sh a b (i + 1) := by
  funext k
  by_cases e : k = b + i
  · subst e; rw [pk_us]; unfold mvF; rw [if_pos (by omega)]; congr 1; omega
  · rw [pk_un e]; unfold mvF
    by_cases g : b ≤ k ∧ k < b + i
    · rw [if_pos g, if_pos (by omega)]
    · rw [if_neg g, if_neg (by omega)]
theorem earG_0 (row sh : Nat → Int32) (s : Nat) : row = earG row sh s 0 := by
  funext k; unfold earG; rw [if_neg (by omega)]
theorem earG_s (row sh : Nat → Int32) (s i : Nat) : upd (earG row sh s i) (10 + i) (sh (40 * s + i)) = earG row sh s (i + 1) := by
  funext k
  by_cases e : k = 10 + i
  · subst e; rw [pk_us]; unfold earG; rw [if_pos (by omega)]; congr 1; omega
  · rw [pk_un e]; unfold earG
    by_cases g : 10 ≤ k ∧ k < 10 + i
    · rw [if_pos g, if_pos (by omega)]
    · rw [if_neg g, if_neg (by omega)]
theorem earG_2 (row sh : Nat → Int32) (s i : Nat) : earG row sh s i 2 = row 2 := by unfold earG; rw [if_neg (by omega)]
theorem sub_le {z n i : Nat} (hz : z < 2 ^ 30) (hn : n < 2 ^ 31) (hi : i < 2 ^ 31) (h : ¬ nI z - nI n < nI i) : i + n ≤ z := by
  rw [Int32.lt_iff_toInt_lt, Int32.toInt_sub, nI_toInt (by omega), nI_toInt hn, nI_toInt hi] at h
  simp only [Int.bmod] at h
  omega

theorem dX12_seed_0 : decode cX12_seed 0 = .ok (.aload_n 0, 1) := by decide +kernel
theorem dX12_seed_1 : decode cX12_seed 1 = .ok (.getfield 7, 3) := by decide +kernel
theorem dX12_seed_4 : decode cX12_seed 4 = .ok (.iconst 1, 1) := by decide +kernel
theorem dX12_seed_5 : decode cX12_seed 5 = .ok (.iaload, 1) := by decide +kernel
theorem dX12_seed_6 : decode cX12_seed 6 = .ok (.istore_n 2, 1) := by decide +kernel
theorem dX12_seed_7 : decode cX12_seed 7 = .ok (.aload_n 0, 1) := by decide +kernel
theorem dX12_seed_8 : decode cX12_seed 8 = .ok (.getfield 7, 3) := by decide +kernel
theorem dX12_seed_11 : decode cX12_seed 11 = .ok (.iconst 1, 1) := by decide +kernel
theorem dX12_seed_12 : decode cX12_seed 12 = .ok (.iload_n 1, 1) := by decide +kernel
theorem dX12_seed_13 : decode cX12_seed 13 = .ok (.iastore, 1) := by decide +kernel
theorem dX12_seed_14 : decode cX12_seed 14 = .ok (.iload_n 2, 1) := by decide +kernel
theorem dX12_seed_15 : decode cX12_seed 15 = .ok (.ireturn, 1) := by decide +kernel
set_option maxHeartbeats 2000000 in
set_option maxRecDepth 20000 in
theorem c_seed {l : Launch} {D : va_G} {cI cG cW : ClassId} {o : Nat} {q : Nat → Nat} {V row kept tried bf fd pk bo so sh mv tr : Nat → Int32} {v : Int32} {nc np nw d nt nq : Nat} (hR : RKx row nc np nw d nt nq) : Ci l yX12_seed cX12_seed 3 (some .int) 3 D (tyL cI cG cW) (wR cI o q) [.ref o, .int v] (sR V row kept tried bf fd pk bo so sh mv tr) (fun r τ => r = (sp_seed V row kept tried bf fd pk bo so sh mv tr v).1 ∧ EQ τ (sp_seed V row kept tried bf fd pk bo so sh mv tr v).2) := by
  refine Ci.of (by decide) (Nat.le_of_ble_eq_true rfl) ?_
  intro p_ e_ s_ m_ b_ M_ c_ A_ C
  replace C : Cx _ _ _ _ _ _ _ _ RX12 _ _ _ _ := C
  refine j_L [0, 1] [(0, .ref o), (1, .int v)] rfl ?_
  obtain ⟨hI, hW, ⟨e0, hd⟩, ⟨e4, ht⟩, ⟨e5, hq⟩, hB⟩ := id hR
  obtain ⟨⟨e2, hc2, hc10⟩, ⟨e3, hn6⟩, ⟨e8, hw8⟩, hP, hE, hLo, hT0, hT1⟩ := id hI
  have hIc := hI
  refine j_aload_n C 0 dX12_seed_0 rfl ?_
  refine rg C (v := .ref (q 0)) 0 (by decide) kf12_7 rfl dX12_seed_1 ?_
  refine j_iconst C (v := (nI 1)) dX12_seed_4 (by decide) ?_
  refine rl_row C 1 rfl (by omega) dX12_seed_5 ?_
  refine j_istore_n C [(2, .int (row 1)), (0, .ref o), (1, .int v)] dX12_seed_6 (by decide) rfl ?_
  refine j_aload_n C 1 dX12_seed_7 rfl ?_
  refine rg C (v := .ref (q 0)) 0 (by decide) kf12_7 rfl dX12_seed_8 ?_
  refine j_iconst C (v := (nI 1)) dX12_seed_11 (by decide) ?_
  refine j_iload_n C 2 dX12_seed_12 rfl ?_
  refine rs_row C 1 rfl (by omega) dX12_seed_13 ?_
  refine j_iload_n C 0 dX12_seed_14 rfl ?_
  refine j_iret C dX12_seed_15 ?_
  unfold sp_seed
  exact ⟨rfl, EQ.rf⟩
theorem dX12_trace_0 : decode cX12_trace 0 = .ok (.iload_n 1, 1) := by decide +kernel
theorem dX12_trace_1 : decode cX12_trace 1 = .ok (.iconst 0, 1) := by decide +kernel
theorem dX12_trace_2 : decode cX12_trace 2 = .ok (.aload_n 0, 1) := by decide +kernel
theorem dX12_trace_3 : decode cX12_trace 3 = .ok (.getfield 226, 3) := by decide +kernel
theorem dX12_trace_6 : decode cX12_trace 6 = .ok (.iconst 1, 1) := by decide +kernel
theorem dX12_trace_7 : decode cX12_trace 7 = .ok (.isub, 1) := by decide +kernel
theorem dX12_trace_8 : decode cX12_trace 8 = .ok (.invokestatic 51, 3) := by decide +kernel
theorem dX12_trace_11 : decode cX12_trace 11 = .ok (.ifCond .eq 12, 3) := by decide +kernel
theorem dX12_trace_14 : decode cX12_trace 14 = .ok (.aload_n 0, 1) := by decide +kernel
theorem dX12_trace_15 : decode cX12_trace 15 = .ok (.getfield 47, 3) := by decide +kernel
theorem dX12_trace_18 : decode cX12_trace 18 = .ok (.iload_n 1, 1) := by decide +kernel
theorem dX12_trace_19 : decode cX12_trace 19 = .ok (.iaload, 1) := by decide +kernel
theorem dX12_trace_20 : decode cX12_trace 20 = .ok (.goto 9, 3) := by decide +kernel
theorem dX12_trace_23 : decode cX12_trace 23 = .ok (.aload_n 0, 1) := by decide +kernel
theorem dX12_trace_24 : decode cX12_trace 24 = .ok (.ldc 213, 2) := by decide +kernel
theorem dX12_trace_26 : decode cX12_trace 26 = .ok (.invokevirtual 56, 3) := by decide +kernel
theorem dX12_trace_29 : decode cX12_trace 29 = .ok (.ireturn, 1) := by decide +kernel
set_option maxHeartbeats 2000000 in
set_option maxRecDepth 20000 in
theorem c_trace {l : Launch} {D : va_G} {cI cG cW : ClassId} {o : Nat} {q : Nat → Nat} {V row kept tried bf fd pk bo so sh mv tr : Nat → Int32} {i : Int32} {nc np nw d nt nq : Nat} (hR : RKx row nc np nw d nt nq) {tn : Nat} (e26 : V 26 = nI tn) (h26 : tn ≤ 40) : Ci l yX12_trace cX12_trace 2 (some .int) 3 D (tyL cI cG cW) (wR cI o q) [.ref o, .int i] (sR V row kept tried bf fd pk bo so sh mv tr) (fun r τ => r = (sp_trace V row kept tried bf fd pk bo so sh mv tr i).1 ∧ EQ τ (sp_trace V row kept tried bf fd pk bo so sh mv tr i).2) := by
  refine Ci.of (by decide) (Nat.le_of_ble_eq_true rfl) ?_
  intro p_ e_ s_ m_ b_ M_ c_ A_ C
  replace C : Cx _ _ _ _ _ _ _ _ RX12 _ _ _ _ := C
  refine j_L [0, 1] [(0, .ref o), (1, .int i)] rfl ?_
  obtain ⟨hI, hW, ⟨e0, hd⟩, ⟨e4, ht⟩, ⟨e5, hq⟩, hB⟩ := id hR
  obtain ⟨⟨e2, hc2, hc10⟩, ⟨e3, hn6⟩, ⟨e8, hw8⟩, hP, hE, hLo, hT0, hT1⟩ := id hI
  have hIc := hI
  refine j_iload_n C 1 dX12_trace_0 rfl ?_
  refine j_iconst C (v := (nI 0)) dX12_trace_1 (by decide) ?_
  refine j_aload_n C 0 dX12_trace_2 rfl ?_
  refine rg C (v := .int (V 26)) 26 (by decide) kf12_226 rfl dX12_trace_3 ?_
  refine j_iconst C (v := (nI 1)) dX12_trace_6 (by decide) ?_
  refine j_isub C dX12_trace_7 ?_
  refine j_callS (As := [.int i, .int (nI 0), .int ((V 26) - (nI 1))]) (rest := []) C vw12_in (c_in) rfl (Nat.le_of_ble_eq_true rfl) dX12_trace_8 (by decide) ?_
  rintro _ _ ⟨rfl, rfl⟩
  refine j_if_eq C 23 dX12_trace_11 (by decide) (fun c11 => ?_) (fun c11 => ?_)
  · replace c11 := bI_f c11
    refine j_aload_n C 0 dX12_trace_23 rfl ?_
    refine j_ldc C (-1000000002) dX12_trace_24 kc12_213 ?_
    refine j_callV (As := [.int (-1000000002)]) (rest := []) C vw12_errs (c_errs 2 (by decide) (by decide)) rRcv rfl (Nat.le_of_ble_eq_true rfl) dX12_trace_26 (by decide) ?_
    rintro _ _ ⟨rfl, rfl⟩
    refine j_iret C dX12_trace_29 ?_
    unfold sp_trace
    rw [if_neg (fun h => c11 h)]
    exact ⟨rfl, EQ.rf⟩
  · replace c11 := bI_t c11
    obtain ⟨xn, hxn, rfl⟩ := inn_row (n := tn) c11 e26 (by omega)
    refine j_aload_n C 0 dX12_trace_14 rfl ?_
    refine rg C (v := .ref (q 25)) 25 (by decide) kf12_47 rfl dX12_trace_15 ?_
    refine j_iload_n C 1 dX12_trace_18 rfl ?_
    refine rl_tr C xn rfl (by omega) dX12_trace_19 ?_
    refine j_goto C 29 dX12_trace_20 (by decide) ?_
    refine j_iret C dX12_trace_29 ?_
    unfold sp_trace
    rw [if_pos c11]
    rw [tN_nI (by omega)]
    exact ⟨rfl, EQ.rf⟩
theorem dX12_sheet_0 : decode cX12_sheet 0 = .ok (.iload_n 1, 1) := by decide +kernel
theorem dX12_sheet_1 : decode cX12_sheet 1 = .ok (.invokestatic 220, 3) := by decide +kernel
theorem dX12_sheet_4 : decode cX12_sheet 4 = .ok (.ifCond .eq 25, 3) := by decide +kernel
theorem dX12_sheet_7 : decode cX12_sheet 7 = .ok (.iload_n 2, 1) := by decide +kernel
theorem dX12_sheet_8 : decode cX12_sheet 8 = .ok (.ifCond .eq 28, 3) := by decide +kernel
theorem dX12_sheet_11 : decode cX12_sheet 11 = .ok (.iload_n 2, 1) := by decide +kernel
theorem dX12_sheet_12 : decode cX12_sheet 12 = .ok (.bipush 8, 2) := by decide +kernel
theorem dX12_sheet_14 : decode cX12_sheet 14 = .ok (.if_icmp .eq 22, 3) := by decide +kernel
theorem dX12_sheet_17 : decode cX12_sheet 17 = .ok (.iload_n 2, 1) := by decide +kernel
theorem dX12_sheet_18 : decode cX12_sheet 18 = .ok (.bipush 16, 2) := by decide +kernel
theorem dX12_sheet_20 : decode cX12_sheet 20 = .ok (.if_icmp .eq 16, 3) := by decide +kernel
theorem dX12_sheet_23 : decode cX12_sheet 23 = .ok (.iload_n 2, 1) := by decide +kernel
theorem dX12_sheet_24 : decode cX12_sheet 24 = .ok (.bipush 32, 2) := by decide +kernel
theorem dX12_sheet_26 : decode cX12_sheet 26 = .ok (.if_icmp .eq 10, 3) := by decide +kernel
theorem dX12_sheet_29 : decode cX12_sheet 29 = .ok (.aload_n 0, 1) := by decide +kernel
theorem dX12_sheet_30 : decode cX12_sheet 30 = .ok (.ldc 55, 2) := by decide +kernel
theorem dX12_sheet_32 : decode cX12_sheet 32 = .ok (.invokevirtual 56, 3) := by decide +kernel
theorem dX12_sheet_35 : decode cX12_sheet 35 = .ok (.ireturn, 1) := by decide +kernel
theorem dX12_sheet_36 : decode cX12_sheet 36 = .ok (.iload_n 2, 1) := by decide +kernel
theorem dX12_sheet_37 : decode cX12_sheet 37 = .ok (.ifCond .eq 14, 3) := by decide +kernel
theorem dX12_sheet_40 : decode cX12_sheet 40 = .ok (.iload_n 3, 1) := by decide +kernel
theorem dX12_sheet_41 : decode cX12_sheet 41 = .ok (.ifCond .ge 10, 3) := by decide +kernel
theorem dX12_sheet_44 : decode cX12_sheet 44 = .ok (.aload_n 0, 1) := by decide +kernel
theorem dX12_sheet_45 : decode cX12_sheet 45 = .ok (.ldc 60, 2) := by decide +kernel
theorem dX12_sheet_47 : decode cX12_sheet 47 = .ok (.invokevirtual 56, 3) := by decide +kernel
theorem dX12_sheet_50 : decode cX12_sheet 50 = .ok (.ireturn, 1) := by decide +kernel
theorem dX12_sheet_51 : decode cX12_sheet 51 = .ok (.iload_n 2, 1) := by decide +kernel
theorem dX12_sheet_52 : decode cX12_sheet 52 = .ok (.ifCond .eq 16, 3) := by decide +kernel
theorem dX12_sheet_55 : decode cX12_sheet 55 = .ok (.iload_n 3, 1) := by decide +kernel
theorem dX12_sheet_56 : decode cX12_sheet 56 = .ok (.bipush 40, 2) := by decide +kernel
theorem dX12_sheet_58 : decode cX12_sheet 58 = .ok (.if_icmp .le 10, 3) := by decide +kernel
theorem dX12_sheet_61 : decode cX12_sheet 61 = .ok (.aload_n 0, 1) := by decide +kernel
theorem dX12_sheet_62 : decode cX12_sheet 62 = .ok (.ldc 55, 2) := by decide +kernel
theorem dX12_sheet_64 : decode cX12_sheet 64 = .ok (.invokevirtual 56, 3) := by decide +kernel
theorem dX12_sheet_67 : decode cX12_sheet 67 = .ok (.ireturn, 1) := by decide +kernel
theorem dX12_sheet_68 : decode cX12_sheet 68 = .ok (.aload_n 0, 1) := by decide +kernel
theorem dX12_sheet_69 : decode cX12_sheet 69 = .ok (.getfield 35, 3) := by decide +kernel
theorem dX12_sheet_72 : decode cX12_sheet 72 = .ok (.iload_n 1, 1) := by decide +kernel
theorem dX12_sheet_73 : decode cX12_sheet 73 = .ok (.iload_n 2, 1) := by decide +kernel
theorem dX12_sheet_74 : decode cX12_sheet 74 = .ok (.iastore, 1) := by decide +kernel
theorem dX12_sheet_75 : decode cX12_sheet 75 = .ok (.aload_n 0, 1) := by decide +kernel
theorem dX12_sheet_76 : decode cX12_sheet 76 = .ok (.getfield 38, 3) := by decide +kernel
theorem dX12_sheet_79 : decode cX12_sheet 79 = .ok (.iload_n 1, 1) := by decide +kernel
theorem dX12_sheet_80 : decode cX12_sheet 80 = .ok (.iload_n 2, 1) := by decide +kernel
theorem dX12_sheet_81 : decode cX12_sheet 81 = .ok (.ifCond .ne 7, 3) := by decide +kernel
theorem dX12_sheet_84 : decode cX12_sheet 84 = .ok (.iconst 0, 1) := by decide +kernel
theorem dX12_sheet_85 : decode cX12_sheet 85 = .ok (.goto 4, 3) := by decide +kernel
theorem dX12_sheet_88 : decode cX12_sheet 88 = .ok (.iload_n 3, 1) := by decide +kernel
theorem dX12_sheet_89 : decode cX12_sheet 89 = .ok (.iastore, 1) := by decide +kernel
theorem dX12_sheet_90 : decode cX12_sheet 90 = .ok (.iconst 0, 1) := by decide +kernel
theorem dX12_sheet_91 : decode cX12_sheet 91 = .ok (.istore 4, 2) := by decide +kernel
theorem dX12_sheet_93 : decode cX12_sheet 93 = .ok (.iload 4, 2) := by decide +kernel
theorem dX12_sheet_95 : decode cX12_sheet 95 = .ok (.bipush 40, 2) := by decide +kernel
theorem dX12_sheet_97 : decode cX12_sheet 97 = .ok (.if_icmp .ge 22, 3) := by decide +kernel
theorem dX12_sheet_100 : decode cX12_sheet 100 = .ok (.aload_n 0, 1) := by decide +kernel
theorem dX12_sheet_101 : decode cX12_sheet 101 = .ok (.getfield 41, 3) := by decide +kernel
theorem dX12_sheet_104 : decode cX12_sheet 104 = .ok (.bipush 40, 2) := by decide +kernel
theorem dX12_sheet_106 : decode cX12_sheet 106 = .ok (.iload_n 1, 1) := by decide +kernel
theorem dX12_sheet_107 : decode cX12_sheet 107 = .ok (.imul, 1) := by decide +kernel
theorem dX12_sheet_108 : decode cX12_sheet 108 = .ok (.iload 4, 2) := by decide +kernel
theorem dX12_sheet_110 : decode cX12_sheet 110 = .ok (.iadd, 1) := by decide +kernel
theorem dX12_sheet_111 : decode cX12_sheet 111 = .ok (.iconst 0, 1) := by decide +kernel
theorem dX12_sheet_112 : decode cX12_sheet 112 = .ok (.iastore, 1) := by decide +kernel
theorem dX12_sheet_113 : decode cX12_sheet 113 = .ok (.iinc 4 1, 3) := by decide +kernel
theorem dX12_sheet_116 : decode cX12_sheet 116 = .ok (.goto (-23), 3) := by decide +kernel
theorem dX12_sheet_119 : decode cX12_sheet 119 = .ok (.iconst 1, 1) := by decide +kernel
theorem dX12_sheet_120 : decode cX12_sheet 120 = .ok (.ireturn, 1) := by decide +kernel
set_option maxHeartbeats 2000000 in
set_option maxRecDepth 20000 in
theorem c_sheet {l : Launch} {D : va_G} {cI cG cW : ClassId} {o : Nat} {q : Nat → Nat} {V row kept tried bf fd pk bo so sh mv tr : Nat → Int32} {s b n : Int32} {nc np nw d nt nq : Nat} (hR : RKx row nc np nw d nt nq) : Ci l yX12_sheet cX12_sheet 5 (some .int) 3 D (tyL cI cG cW) (wR cI o q) [.ref o, .int s, .int b, .int n] (sR V row kept tried bf fd pk bo so sh mv tr) (fun r τ => r = (sp_sheet V row kept tried bf fd pk bo so sh mv tr s b n).1 ∧ EQ τ (sp_sheet V row kept tried bf fd pk bo so sh mv tr s b n).2) := by
  refine Ci.of (by decide) (Nat.le_of_ble_eq_true rfl) ?_
  intro p_ e_ s_ m_ b_ M_ c_ A_ C
  replace C : Cx _ _ _ _ _ _ _ _ RX12 _ _ _ _ := C
  refine j_L [0, 1, 2, 3] [(0, .ref o), (1, .int s), (2, .int b), (3, .int n)] rfl ?_
  obtain ⟨hI, hW, ⟨e0, hd⟩, ⟨e4, ht⟩, ⟨e5, hq⟩, hB⟩ := id hR
  obtain ⟨⟨e2, hc2, hc10⟩, ⟨e3, hn6⟩, ⟨e8, hw8⟩, hP, hE, hLo, hT0, hT1⟩ := id hI
  have hIc := hI
  refine j_iload_n C 1 dX12_sheet_0 rfl ?_
  refine j_callS (As := [.int s]) (rest := []) C vw12_isSheet (c_isSheet) rfl (Nat.le_of_ble_eq_true rfl) dX12_sheet_1 (by decide) ?_
  rintro _ _ ⟨rfl, rfl⟩
  refine j_if_eq C 29 dX12_sheet_4 (by decide) (fun c4 => ?_) (fun c4 => ?_)
  · replace c4 := bI_f c4
    refine j_aload_n C 0 dX12_sheet_29 rfl ?_
    refine j_ldc C (-1000000001) dX12_sheet_30 kc12_55 ?_
    refine j_callV (As := [.int (-1000000001)]) (rest := []) C vw12_errs (c_errs 1 (by decide) (by decide)) rRcv rfl (Nat.le_of_ble_eq_true rfl) dX12_sheet_32 (by decide) ?_
    rintro _ _ ⟨rfl, rfl⟩
    refine j_iret C dX12_sheet_35 ?_
    unfold sp_sheet
    rw [if_neg (fun h => c4 h.1)]
    exact ⟨rfl, EQ.rf⟩
  · replace c4 := bI_t c4
    obtain ⟨sn, gsn, hsn, rfl⟩ := inn_lit (a := 0) (b := 3) c4 (by omega)
    refine j_iload_n C 2 dX12_sheet_7 rfl ?_
    refine j_if_eq C 36 dX12_sheet_8 (by decide) (fun c8 => ?_) (fun c8 => ?_)
    · skip
      obtain rfl : b = nI 0 := c8
      refine j_iload_n C 2 dX12_sheet_36 rfl ?_
      refine j_if_eq C 51 dX12_sheet_37 (by decide) (fun c37 => ?_) (fun c37 => ?_)
      · rw [show (0 : Int32) = nI 0 from rfl, nI_eq (by omega) (by omega)] at c37
        refine j_iload_n C 2 dX12_sheet_51 rfl ?_
        refine j_if_eq C 68 dX12_sheet_52 (by decide) (fun c52 => ?_) (fun c52 => ?_)
        · rw [show (0 : Int32) = nI 0 from rfl, nI_eq (by omega) (by omega)] at c52
          refine j_aload_n C 0 dX12_sheet_68 rfl ?_
          refine rg C (v := .ref (q 21)) 21 (by decide) kf12_35 rfl dX12_sheet_69 ?_
          refine j_iload_n C 1 dX12_sheet_72 rfl ?_
          refine j_iload_n C 2 dX12_sheet_73 rfl ?_
          refine rs_bo C sn rfl (by omega) dX12_sheet_74 ?_
          refine j_aload_n C 0 dX12_sheet_75 rfl ?_
          refine rg C (v := .ref (q 22)) 22 (by decide) kf12_38 rfl dX12_sheet_76 ?_
          refine j_iload_n C 1 dX12_sheet_79 rfl ?_
          refine j_iload_n C 2 dX12_sheet_80 rfl ?_
          refine j_if_ne C 88 dX12_sheet_81 (by decide) (fun c81 => ?_) (fun c81 => ?_)
          · rw [show (0 : Int32) = nI 0 from rfl, nI_eq (by omega) (by omega)] at c81
            exact absurd c52 c81
          · rw [show (0 : Int32) = nI 0 from rfl, nI_eq (by omega) (by omega)] at c81
            refine j_iconst C (v := (nI 0)) dX12_sheet_84 (by decide) ?_
            refine j_goto C 89 dX12_sheet_85 (by decide) ?_
            refine rs_so C sn rfl (by omega) dX12_sheet_89 ?_
            refine j_iconst C (v := (nI 0)) dX12_sheet_90 (by decide) ?_
            refine j_istore C [(4, .int (nI 0)), (0, .ref o), (1, .int (nI sn)), (2, .int (nI 0)), (3, .int n)] dX12_sheet_91 (by decide) rfl ?_
            refine j_L [1, 2, 3, 4, 0] [(0, .ref o), (1, .int (nI sn)), (2, .int (nI 0)), (3, .int n), (4, .int (nI 0))] rfl ?_
            refine j_loop (X := Nat) (fun (i : Nat) => i ≤ 40) (fun (i : Nat) => 40 - i) (fun (i : Nat) => (sR V row kept tried bf fd pk (upd bo sn (nI 0)) (upd so sn (nI 0)) (zroF sh sn i) mv tr)) (fun (i : Nat) => [(0, .ref o), (1, .int (nI sn)), (2, .int (nI 0)), (3, .int n), (4, .int (nI i))]) (0) (Nat.zero_le _) (by rw [← zroF_0 sh sn]) rfl ?_
            rintro i hi ih
            try dsimp only at ih ⊢
            refine j_iload C 4 dX12_sheet_93 rfl ?_
            refine j_bipush C (v := (nI 40)) dX12_sheet_95 (by decide) ?_
            refine j_icmp_ge C 119 dX12_sheet_97 (by decide) (fun c97 => ?_) (fun c97 => ?_)
            · rw [nI_leI (by omega) (by omega)] at c97
              obtain rfl : i = 40 := by omega
              refine j_iconst C (v := (nI 1)) dX12_sheet_119 (by decide) ?_
              refine j_iret C dX12_sheet_120 ?_
              unfold sp_sheet
              rw [if_pos ⟨c4, Or.inl rfl⟩]
              rw [if_neg (fun h => h.1 rfl), if_neg (fun h => h.1 rfl), if_pos (c := nI 0 = 0) rfl, tN_nI (by omega)]
              exact ⟨rfl, EQ.rf⟩
            · rw [nI_leI (by omega) (by omega)] at c97
              refine j_aload_n C 0 dX12_sheet_100 rfl ?_
              refine rg C (v := .ref (q 23)) 23 (by decide) kf12_41 rfl dX12_sheet_101 ?_
              refine j_bipush C (v := (nI 40)) dX12_sheet_104 (by decide) ?_
              refine j_iload_n C 1 dX12_sheet_106 rfl ?_
              refine j_imulN C dX12_sheet_107 ?_
              refine j_iload C 4 dX12_sheet_108 rfl ?_
              refine j_iaddN C dX12_sheet_110 ?_
              refine j_iconst C (v := (nI 0)) dX12_sheet_111 (by decide) ?_
              refine rs_sh C (40 * sn + i) rfl (by omega) dX12_sheet_112 ?_
              refine j_iinc C (v := (nI (i + 1))) 4 [(4, .int (nI (i + 1))), (0, .ref o), (1, .int (nI sn)), (2, .int (nI 0)), (3, .int n)] dX12_sheet_113 rfl (nI_1 _) (by decide) rfl ?_
              refine j_goto C 93 dX12_sheet_116 (by decide) ?_
              refine j_L [1, 2, 3, 4, 0] [(0, .ref o), (1, .int (nI sn)), (2, .int (nI 0)), (3, .int n), (4, .int (nI (i + 1)))] rfl ?_
              rw [zroF_s]
              exact ih (i + 1) (by omega) (by omega)
        · rw [show (0 : Int32) = nI 0 from rfl, nI_eq (by omega) (by omega)] at c52
          exact absurd c37 c52
      · rw [show (0 : Int32) = nI 0 from rfl, nI_eq (by omega) (by omega)] at c37
        exfalso; omega
    · skip
      refine j_iload_n C 2 dX12_sheet_11 rfl ?_
      refine j_bipush C (v := (nI 8)) dX12_sheet_12 (by decide) ?_
      refine j_icmp_eq C 36 dX12_sheet_14 (by decide) (fun c14 => ?_) (fun c14 => ?_)
      · skip
        obtain rfl : b = nI 8 := c14
        refine j_iload_n C 2 dX12_sheet_36 rfl ?_
        refine j_if_eq C 51 dX12_sheet_37 (by decide) (fun c37 => ?_) (fun c37 => ?_)
        · rw [show (0 : Int32) = nI 0 from rfl, nI_eq (by omega) (by omega)] at c37
          exfalso; omega
        · rw [show (0 : Int32) = nI 0 from rfl, nI_eq (by omega) (by omega)] at c37
          refine j_iload_n C 3 dX12_sheet_40 rfl ?_
          refine j_if_ge C 51 dX12_sheet_41 (by decide) (fun c41 => ?_) (fun c41 => ?_)
          · skip
            refine j_iload_n C 2 dX12_sheet_51 rfl ?_
            refine j_if_eq C 68 dX12_sheet_52 (by decide) (fun c52 => ?_) (fun c52 => ?_)
            · rw [show (0 : Int32) = nI 0 from rfl, nI_eq (by omega) (by omega)] at c52
              exact absurd c52 c37
            · rw [show (0 : Int32) = nI 0 from rfl, nI_eq (by omega) (by omega)] at c52
              refine j_iload_n C 3 dX12_sheet_55 rfl ?_
              refine j_bipush C (v := (nI 40)) dX12_sheet_56 (by decide) ?_
              refine j_icmp_le C 68 dX12_sheet_58 (by decide) (fun c58 => ?_) (fun c58 => ?_)
              · skip
                refine j_aload_n C 0 dX12_sheet_68 rfl ?_
                refine rg C (v := .ref (q 21)) 21 (by decide) kf12_35 rfl dX12_sheet_69 ?_
                refine j_iload_n C 1 dX12_sheet_72 rfl ?_
                refine j_iload_n C 2 dX12_sheet_73 rfl ?_
                refine rs_bo C sn rfl (by omega) dX12_sheet_74 ?_
                refine j_aload_n C 0 dX12_sheet_75 rfl ?_
                refine rg C (v := .ref (q 22)) 22 (by decide) kf12_38 rfl dX12_sheet_76 ?_
                refine j_iload_n C 1 dX12_sheet_79 rfl ?_
                refine j_iload_n C 2 dX12_sheet_80 rfl ?_
                refine j_if_ne C 88 dX12_sheet_81 (by decide) (fun c81 => ?_) (fun c81 => ?_)
                · rw [show (0 : Int32) = nI 0 from rfl, nI_eq (by omega) (by omega)] at c81
                  refine j_iload_n C 3 dX12_sheet_88 rfl ?_
                  refine rs_so C sn rfl (by omega) dX12_sheet_89 ?_
                  refine j_iconst C (v := (nI 0)) dX12_sheet_90 (by decide) ?_
                  refine j_istore C [(4, .int (nI 0)), (0, .ref o), (1, .int (nI sn)), (2, .int (nI 8)), (3, .int n)] dX12_sheet_91 (by decide) rfl ?_
                  refine j_L [1, 2, 3, 4, 0] [(0, .ref o), (1, .int (nI sn)), (2, .int (nI 8)), (3, .int n), (4, .int (nI 0))] rfl ?_
                  refine j_loop (X := Nat) (fun (i : Nat) => i ≤ 40) (fun (i : Nat) => 40 - i) (fun (i : Nat) => (sR V row kept tried bf fd pk (upd bo sn (nI 8)) (upd so sn n) (zroF sh sn i) mv tr)) (fun (i : Nat) => [(0, .ref o), (1, .int (nI sn)), (2, .int (nI 8)), (3, .int n), (4, .int (nI i))]) (0) (Nat.zero_le _) (by rw [← zroF_0 sh sn]) rfl ?_
                  rintro i hi ih
                  try dsimp only at ih ⊢
                  refine j_iload C 4 dX12_sheet_93 rfl ?_
                  refine j_bipush C (v := (nI 40)) dX12_sheet_95 (by decide) ?_
                  refine j_icmp_ge C 119 dX12_sheet_97 (by decide) (fun c97 => ?_) (fun c97 => ?_)
                  · rw [nI_leI (by omega) (by omega)] at c97
                    obtain rfl : i = 40 := by omega
                    refine j_iconst C (v := (nI 1)) dX12_sheet_119 (by decide) ?_
                    refine j_iret C dX12_sheet_120 ?_
                    unfold sp_sheet
                    rw [if_pos ⟨c4, Or.inr (Or.inl rfl)⟩]
                    rw [if_neg (fun h => h.2 c41)]
                    rw [if_neg (fun h => h.2 c58), if_neg (by decide), tN_nI (by omega)]
                    exact ⟨rfl, EQ.rf⟩
                  · rw [nI_leI (by omega) (by omega)] at c97
                    refine j_aload_n C 0 dX12_sheet_100 rfl ?_
                    refine rg C (v := .ref (q 23)) 23 (by decide) kf12_41 rfl dX12_sheet_101 ?_
                    refine j_bipush C (v := (nI 40)) dX12_sheet_104 (by decide) ?_
                    refine j_iload_n C 1 dX12_sheet_106 rfl ?_
                    refine j_imulN C dX12_sheet_107 ?_
                    refine j_iload C 4 dX12_sheet_108 rfl ?_
                    refine j_iaddN C dX12_sheet_110 ?_
                    refine j_iconst C (v := (nI 0)) dX12_sheet_111 (by decide) ?_
                    refine rs_sh C (40 * sn + i) rfl (by omega) dX12_sheet_112 ?_
                    refine j_iinc C (v := (nI (i + 1))) 4 [(4, .int (nI (i + 1))), (0, .ref o), (1, .int (nI sn)), (2, .int (nI 8)), (3, .int n)] dX12_sheet_113 rfl (nI_1 _) (by decide) rfl ?_
                    refine j_goto C 93 dX12_sheet_116 (by decide) ?_
                    refine j_L [1, 2, 3, 4, 0] [(0, .ref o), (1, .int (nI sn)), (2, .int (nI 8)), (3, .int n), (4, .int (nI (i + 1)))] rfl ?_
                    rw [zroF_s]
                    exact ih (i + 1) (by omega) (by omega)
                · rw [show (0 : Int32) = nI 0 from rfl, nI_eq (by omega) (by omega)] at c81
                  exact absurd c81 c52
              · skip
                refine j_aload_n C 0 dX12_sheet_61 rfl ?_
                refine j_ldc C (-1000000001) dX12_sheet_62 kc12_55 ?_
                refine j_callV (As := [.int (-1000000001)]) (rest := []) C vw12_errs (c_errs 1 (by decide) (by decide)) rRcv rfl (Nat.le_of_ble_eq_true rfl) dX12_sheet_64 (by decide) ?_
                rintro _ _ ⟨rfl, rfl⟩
                refine j_iret C dX12_sheet_67 ?_
                unfold sp_sheet
                rw [if_pos ⟨c4, Or.inr (Or.inl rfl)⟩]
                rw [if_neg (fun h => h.2 c41)]
                rw [if_pos ⟨by decide, c58⟩]
                exact ⟨rfl, EQ.rf⟩
          · skip
            refine j_aload_n C 0 dX12_sheet_44 rfl ?_
            refine j_ldc C (-1000000003) dX12_sheet_45 kc12_60 ?_
            refine j_callV (As := [.int (-1000000003)]) (rest := []) C vw12_errs (c_errs 3 (by decide) (by decide)) rRcv rfl (Nat.le_of_ble_eq_true rfl) dX12_sheet_47 (by decide) ?_
            rintro _ _ ⟨rfl, rfl⟩
            refine j_iret C dX12_sheet_50 ?_
            unfold sp_sheet
            rw [if_pos ⟨c4, Or.inr (Or.inl rfl)⟩]
            rw [if_pos ⟨by decide, c41⟩]
            exact ⟨rfl, EQ.rf⟩
      · skip
        refine j_iload_n C 2 dX12_sheet_17 rfl ?_
        refine j_bipush C (v := (nI 16)) dX12_sheet_18 (by decide) ?_
        refine j_icmp_eq C 36 dX12_sheet_20 (by decide) (fun c20 => ?_) (fun c20 => ?_)
        · skip
          obtain rfl : b = nI 16 := c20
          refine j_iload_n C 2 dX12_sheet_36 rfl ?_
          refine j_if_eq C 51 dX12_sheet_37 (by decide) (fun c37 => ?_) (fun c37 => ?_)
          · rw [show (0 : Int32) = nI 0 from rfl, nI_eq (by omega) (by omega)] at c37
            exfalso; omega
          · rw [show (0 : Int32) = nI 0 from rfl, nI_eq (by omega) (by omega)] at c37
            refine j_iload_n C 3 dX12_sheet_40 rfl ?_
            refine j_if_ge C 51 dX12_sheet_41 (by decide) (fun c41 => ?_) (fun c41 => ?_)
            · skip
              refine j_iload_n C 2 dX12_sheet_51 rfl ?_
              refine j_if_eq C 68 dX12_sheet_52 (by decide) (fun c52 => ?_) (fun c52 => ?_)
              · rw [show (0 : Int32) = nI 0 from rfl, nI_eq (by omega) (by omega)] at c52
                exact absurd c52 c37
              · rw [show (0 : Int32) = nI 0 from rfl, nI_eq (by omega) (by omega)] at c52
                refine j_iload_n C 3 dX12_sheet_55 rfl ?_
                refine j_bipush C (v := (nI 40)) dX12_sheet_56 (by decide) ?_
                refine j_icmp_le C 68 dX12_sheet_58 (by decide) (fun c58 => ?_) (fun c58 => ?_)
                · skip
                  refine j_aload_n C 0 dX12_sheet_68 rfl ?_
                  refine rg C (v := .ref (q 21)) 21 (by decide) kf12_35 rfl dX12_sheet_69 ?_
                  refine j_iload_n C 1 dX12_sheet_72 rfl ?_
                  refine j_iload_n C 2 dX12_sheet_73 rfl ?_
                  refine rs_bo C sn rfl (by omega) dX12_sheet_74 ?_
                  refine j_aload_n C 0 dX12_sheet_75 rfl ?_
                  refine rg C (v := .ref (q 22)) 22 (by decide) kf12_38 rfl dX12_sheet_76 ?_
                  refine j_iload_n C 1 dX12_sheet_79 rfl ?_
                  refine j_iload_n C 2 dX12_sheet_80 rfl ?_
                  refine j_if_ne C 88 dX12_sheet_81 (by decide) (fun c81 => ?_) (fun c81 => ?_)
                  · rw [show (0 : Int32) = nI 0 from rfl, nI_eq (by omega) (by omega)] at c81
                    refine j_iload_n C 3 dX12_sheet_88 rfl ?_
                    refine rs_so C sn rfl (by omega) dX12_sheet_89 ?_
                    refine j_iconst C (v := (nI 0)) dX12_sheet_90 (by decide) ?_
                    refine j_istore C [(4, .int (nI 0)), (0, .ref o), (1, .int (nI sn)), (2, .int (nI 16)), (3, .int n)] dX12_sheet_91 (by decide) rfl ?_
                    refine j_L [1, 2, 3, 4, 0] [(0, .ref o), (1, .int (nI sn)), (2, .int (nI 16)), (3, .int n), (4, .int (nI 0))] rfl ?_
                    refine j_loop (X := Nat) (fun (i : Nat) => i ≤ 40) (fun (i : Nat) => 40 - i) (fun (i : Nat) => (sR V row kept tried bf fd pk (upd bo sn (nI 16)) (upd so sn n) (zroF sh sn i) mv tr)) (fun (i : Nat) => [(0, .ref o), (1, .int (nI sn)), (2, .int (nI 16)), (3, .int n), (4, .int (nI i))]) (0) (Nat.zero_le _) (by rw [← zroF_0 sh sn]) rfl ?_
                    rintro i hi ih
                    try dsimp only at ih ⊢
                    refine j_iload C 4 dX12_sheet_93 rfl ?_
                    refine j_bipush C (v := (nI 40)) dX12_sheet_95 (by decide) ?_
                    refine j_icmp_ge C 119 dX12_sheet_97 (by decide) (fun c97 => ?_) (fun c97 => ?_)
                    · rw [nI_leI (by omega) (by omega)] at c97
                      obtain rfl : i = 40 := by omega
                      refine j_iconst C (v := (nI 1)) dX12_sheet_119 (by decide) ?_
                      refine j_iret C dX12_sheet_120 ?_
                      unfold sp_sheet
                      rw [if_pos ⟨c4, Or.inr (Or.inr (Or.inl rfl))⟩]
                      rw [if_neg (fun h => h.2 c41)]
                      rw [if_neg (fun h => h.2 c58), if_neg (by decide), tN_nI (by omega)]
                      exact ⟨rfl, EQ.rf⟩
                    · rw [nI_leI (by omega) (by omega)] at c97
                      refine j_aload_n C 0 dX12_sheet_100 rfl ?_
                      refine rg C (v := .ref (q 23)) 23 (by decide) kf12_41 rfl dX12_sheet_101 ?_
                      refine j_bipush C (v := (nI 40)) dX12_sheet_104 (by decide) ?_
                      refine j_iload_n C 1 dX12_sheet_106 rfl ?_
                      refine j_imulN C dX12_sheet_107 ?_
                      refine j_iload C 4 dX12_sheet_108 rfl ?_
                      refine j_iaddN C dX12_sheet_110 ?_
                      refine j_iconst C (v := (nI 0)) dX12_sheet_111 (by decide) ?_
                      refine rs_sh C (40 * sn + i) rfl (by omega) dX12_sheet_112 ?_
                      refine j_iinc C (v := (nI (i + 1))) 4 [(4, .int (nI (i + 1))), (0, .ref o), (1, .int (nI sn)), (2, .int (nI 16)), (3, .int n)] dX12_sheet_113 rfl (nI_1 _) (by decide) rfl ?_
                      refine j_goto C 93 dX12_sheet_116 (by decide) ?_
                      refine j_L [1, 2, 3, 4, 0] [(0, .ref o), (1, .int (nI sn)), (2, .int (nI 16)), (3, .int n), (4, .int (nI (i + 1)))] rfl ?_
                      rw [zroF_s]
                      exact ih (i + 1) (by omega) (by omega)
                  · rw [show (0 : Int32) = nI 0 from rfl, nI_eq (by omega) (by omega)] at c81
                    exact absurd c81 c52
                · skip
                  refine j_aload_n C 0 dX12_sheet_61 rfl ?_
                  refine j_ldc C (-1000000001) dX12_sheet_62 kc12_55 ?_
                  refine j_callV (As := [.int (-1000000001)]) (rest := []) C vw12_errs (c_errs 1 (by decide) (by decide)) rRcv rfl (Nat.le_of_ble_eq_true rfl) dX12_sheet_64 (by decide) ?_
                  rintro _ _ ⟨rfl, rfl⟩
                  refine j_iret C dX12_sheet_67 ?_
                  unfold sp_sheet
                  rw [if_pos ⟨c4, Or.inr (Or.inr (Or.inl rfl))⟩]
                  rw [if_neg (fun h => h.2 c41)]
                  rw [if_pos ⟨by decide, c58⟩]
                  exact ⟨rfl, EQ.rf⟩
            · skip
              refine j_aload_n C 0 dX12_sheet_44 rfl ?_
              refine j_ldc C (-1000000003) dX12_sheet_45 kc12_60 ?_
              refine j_callV (As := [.int (-1000000003)]) (rest := []) C vw12_errs (c_errs 3 (by decide) (by decide)) rRcv rfl (Nat.le_of_ble_eq_true rfl) dX12_sheet_47 (by decide) ?_
              rintro _ _ ⟨rfl, rfl⟩
              refine j_iret C dX12_sheet_50 ?_
              unfold sp_sheet
              rw [if_pos ⟨c4, Or.inr (Or.inr (Or.inl rfl))⟩]
              rw [if_pos ⟨by decide, c41⟩]
              exact ⟨rfl, EQ.rf⟩
        · skip
          refine j_iload_n C 2 dX12_sheet_23 rfl ?_
          refine j_bipush C (v := (nI 32)) dX12_sheet_24 (by decide) ?_
          refine j_icmp_eq C 36 dX12_sheet_26 (by decide) (fun c26 => ?_) (fun c26 => ?_)
          · skip
            obtain rfl : b = nI 32 := c26
            refine j_iload_n C 2 dX12_sheet_36 rfl ?_
            refine j_if_eq C 51 dX12_sheet_37 (by decide) (fun c37 => ?_) (fun c37 => ?_)
            · rw [show (0 : Int32) = nI 0 from rfl, nI_eq (by omega) (by omega)] at c37
              exfalso; omega
            · rw [show (0 : Int32) = nI 0 from rfl, nI_eq (by omega) (by omega)] at c37
              refine j_iload_n C 3 dX12_sheet_40 rfl ?_
              refine j_if_ge C 51 dX12_sheet_41 (by decide) (fun c41 => ?_) (fun c41 => ?_)
              · skip
                refine j_iload_n C 2 dX12_sheet_51 rfl ?_
                refine j_if_eq C 68 dX12_sheet_52 (by decide) (fun c52 => ?_) (fun c52 => ?_)
                · rw [show (0 : Int32) = nI 0 from rfl, nI_eq (by omega) (by omega)] at c52
                  exact absurd c52 c37
                · rw [show (0 : Int32) = nI 0 from rfl, nI_eq (by omega) (by omega)] at c52
                  refine j_iload_n C 3 dX12_sheet_55 rfl ?_
                  refine j_bipush C (v := (nI 40)) dX12_sheet_56 (by decide) ?_
                  refine j_icmp_le C 68 dX12_sheet_58 (by decide) (fun c58 => ?_) (fun c58 => ?_)
                  · skip
                    refine j_aload_n C 0 dX12_sheet_68 rfl ?_
                    refine rg C (v := .ref (q 21)) 21 (by decide) kf12_35 rfl dX12_sheet_69 ?_
                    refine j_iload_n C 1 dX12_sheet_72 rfl ?_
                    refine j_iload_n C 2 dX12_sheet_73 rfl ?_
                    refine rs_bo C sn rfl (by omega) dX12_sheet_74 ?_
                    refine j_aload_n C 0 dX12_sheet_75 rfl ?_
                    refine rg C (v := .ref (q 22)) 22 (by decide) kf12_38 rfl dX12_sheet_76 ?_
                    refine j_iload_n C 1 dX12_sheet_79 rfl ?_
                    refine j_iload_n C 2 dX12_sheet_80 rfl ?_
                    refine j_if_ne C 88 dX12_sheet_81 (by decide) (fun c81 => ?_) (fun c81 => ?_)
                    · rw [show (0 : Int32) = nI 0 from rfl, nI_eq (by omega) (by omega)] at c81
                      refine j_iload_n C 3 dX12_sheet_88 rfl ?_
                      refine rs_so C sn rfl (by omega) dX12_sheet_89 ?_
                      refine j_iconst C (v := (nI 0)) dX12_sheet_90 (by decide) ?_
                      refine j_istore C [(4, .int (nI 0)), (0, .ref o), (1, .int (nI sn)), (2, .int (nI 32)), (3, .int n)] dX12_sheet_91 (by decide) rfl ?_
                      refine j_L [1, 2, 3, 4, 0] [(0, .ref o), (1, .int (nI sn)), (2, .int (nI 32)), (3, .int n), (4, .int (nI 0))] rfl ?_
                      refine j_loop (X := Nat) (fun (i : Nat) => i ≤ 40) (fun (i : Nat) => 40 - i) (fun (i : Nat) => (sR V row kept tried bf fd pk (upd bo sn (nI 32)) (upd so sn n) (zroF sh sn i) mv tr)) (fun (i : Nat) => [(0, .ref o), (1, .int (nI sn)), (2, .int (nI 32)), (3, .int n), (4, .int (nI i))]) (0) (Nat.zero_le _) (by rw [← zroF_0 sh sn]) rfl ?_
                      rintro i hi ih
                      try dsimp only at ih ⊢
                      refine j_iload C 4 dX12_sheet_93 rfl ?_
                      refine j_bipush C (v := (nI 40)) dX12_sheet_95 (by decide) ?_
                      refine j_icmp_ge C 119 dX12_sheet_97 (by decide) (fun c97 => ?_) (fun c97 => ?_)
                      · rw [nI_leI (by omega) (by omega)] at c97
                        obtain rfl : i = 40 := by omega
                        refine j_iconst C (v := (nI 1)) dX12_sheet_119 (by decide) ?_
                        refine j_iret C dX12_sheet_120 ?_
                        unfold sp_sheet
                        rw [if_pos ⟨c4, Or.inr (Or.inr (Or.inr rfl))⟩]
                        rw [if_neg (fun h => h.2 c41)]
                        rw [if_neg (fun h => h.2 c58), if_neg (by decide), tN_nI (by omega)]
                        exact ⟨rfl, EQ.rf⟩
                      · rw [nI_leI (by omega) (by omega)] at c97
                        refine j_aload_n C 0 dX12_sheet_100 rfl ?_
                        refine rg C (v := .ref (q 23)) 23 (by decide) kf12_41 rfl dX12_sheet_101 ?_
                        refine j_bipush C (v := (nI 40)) dX12_sheet_104 (by decide) ?_
                        refine j_iload_n C 1 dX12_sheet_106 rfl ?_
                        refine j_imulN C dX12_sheet_107 ?_
                        refine j_iload C 4 dX12_sheet_108 rfl ?_
                        refine j_iaddN C dX12_sheet_110 ?_
                        refine j_iconst C (v := (nI 0)) dX12_sheet_111 (by decide) ?_
                        refine rs_sh C (40 * sn + i) rfl (by omega) dX12_sheet_112 ?_
                        refine j_iinc C (v := (nI (i + 1))) 4 [(4, .int (nI (i + 1))), (0, .ref o), (1, .int (nI sn)), (2, .int (nI 32)), (3, .int n)] dX12_sheet_113 rfl (nI_1 _) (by decide) rfl ?_
                        refine j_goto C 93 dX12_sheet_116 (by decide) ?_
                        refine j_L [1, 2, 3, 4, 0] [(0, .ref o), (1, .int (nI sn)), (2, .int (nI 32)), (3, .int n), (4, .int (nI (i + 1)))] rfl ?_
                        rw [zroF_s]
                        exact ih (i + 1) (by omega) (by omega)
                    · rw [show (0 : Int32) = nI 0 from rfl, nI_eq (by omega) (by omega)] at c81
                      exact absurd c81 c52
                  · skip
                    refine j_aload_n C 0 dX12_sheet_61 rfl ?_
                    refine j_ldc C (-1000000001) dX12_sheet_62 kc12_55 ?_
                    refine j_callV (As := [.int (-1000000001)]) (rest := []) C vw12_errs (c_errs 1 (by decide) (by decide)) rRcv rfl (Nat.le_of_ble_eq_true rfl) dX12_sheet_64 (by decide) ?_
                    rintro _ _ ⟨rfl, rfl⟩
                    refine j_iret C dX12_sheet_67 ?_
                    unfold sp_sheet
                    rw [if_pos ⟨c4, Or.inr (Or.inr (Or.inr rfl))⟩]
                    rw [if_neg (fun h => h.2 c41)]
                    rw [if_pos ⟨by decide, c58⟩]
                    exact ⟨rfl, EQ.rf⟩
              · skip
                refine j_aload_n C 0 dX12_sheet_44 rfl ?_
                refine j_ldc C (-1000000003) dX12_sheet_45 kc12_60 ?_
                refine j_callV (As := [.int (-1000000003)]) (rest := []) C vw12_errs (c_errs 3 (by decide) (by decide)) rRcv rfl (Nat.le_of_ble_eq_true rfl) dX12_sheet_47 (by decide) ?_
                rintro _ _ ⟨rfl, rfl⟩
                refine j_iret C dX12_sheet_50 ?_
                unfold sp_sheet
                rw [if_pos ⟨c4, Or.inr (Or.inr (Or.inr rfl))⟩]
                rw [if_pos ⟨by decide, c41⟩]
                exact ⟨rfl, EQ.rf⟩
          · skip
            refine j_aload_n C 0 dX12_sheet_29 rfl ?_
            refine j_ldc C (-1000000001) dX12_sheet_30 kc12_55 ?_
            refine j_callV (As := [.int (-1000000001)]) (rest := []) C vw12_errs (c_errs 1 (by decide) (by decide)) rRcv rfl (Nat.le_of_ble_eq_true rfl) dX12_sheet_32 (by decide) ?_
            rintro _ _ ⟨rfl, rfl⟩
            refine j_iret C dX12_sheet_35 ?_
            unfold sp_sheet
            rw [if_neg (fun h => h.2.elim c8 (fun g => g.elim c14 (fun g => g.elim c20 c26)))]
            exact ⟨rfl, EQ.rf⟩
theorem dX12_narrow_0 : decode cX12_narrow 0 = .ok (.iload_n 0, 1) := by decide +kernel
theorem dX12_narrow_1 : decode cX12_narrow 1 = .ok (.bipush 8, 2) := by decide +kernel
theorem dX12_narrow_3 : decode cX12_narrow 3 = .ok (.if_icmp .ne 8, 3) := by decide +kernel
theorem dX12_narrow_6 : decode cX12_narrow 6 = .ok (.iload_n 1, 1) := by decide +kernel
theorem dX12_narrow_7 : decode cX12_narrow 7 = .ok (.i2b, 1) := by decide +kernel
theorem dX12_narrow_8 : decode cX12_narrow 8 = .ok (.goto 15, 3) := by decide +kernel
theorem dX12_narrow_11 : decode cX12_narrow 11 = .ok (.iload_n 0, 1) := by decide +kernel
theorem dX12_narrow_12 : decode cX12_narrow 12 = .ok (.bipush 16, 2) := by decide +kernel
theorem dX12_narrow_14 : decode cX12_narrow 14 = .ok (.if_icmp .ne 8, 3) := by decide +kernel
theorem dX12_narrow_17 : decode cX12_narrow 17 = .ok (.iload_n 1, 1) := by decide +kernel
theorem dX12_narrow_18 : decode cX12_narrow 18 = .ok (.i2s, 1) := by decide +kernel
theorem dX12_narrow_19 : decode cX12_narrow 19 = .ok (.goto 4, 3) := by decide +kernel
theorem dX12_narrow_22 : decode cX12_narrow 22 = .ok (.iload_n 1, 1) := by decide +kernel
theorem dX12_narrow_23 : decode cX12_narrow 23 = .ok (.ireturn, 1) := by decide +kernel
set_option maxHeartbeats 2000000 in
set_option maxRecDepth 20000 in
theorem c_narrow {l : Launch} {D : va_G} {cI cG cW : ClassId} {S : Type} {Wd : S → va_W} {σ : S} {b v : Int32} : Ci l yX12_narrow cX12_narrow 2 (some .int) 0 D (tyL cI cG cW) Wd [.int b, .int v] σ (fun r τ => r = narF b v ∧ τ = σ) := by
  refine Ci.of (by decide) (Nat.le_of_ble_eq_true rfl) ?_
  intro p_ e_ s_ m_ b_ M_ c_ A_ C
  replace C : Cx _ _ _ _ _ _ _ _ RX12 _ _ _ _ := C
  refine j_L [0, 1] [(0, .int b), (1, .int v)] rfl ?_
  refine j_iload_n C 0 dX12_narrow_0 rfl ?_
  refine j_bipush C (v := (nI 8)) dX12_narrow_1 (by decide) ?_
  refine j_icmp_ne C 11 dX12_narrow_3 (by decide) (fun c3 => ?_) (fun c3 => ?_)
  · skip
    refine j_iload_n C 0 dX12_narrow_11 rfl ?_
    refine j_bipush C (v := (nI 16)) dX12_narrow_12 (by decide) ?_
    refine j_icmp_ne C 22 dX12_narrow_14 (by decide) (fun c14 => ?_) (fun c14 => ?_)
    · skip
      refine j_iload_n C 1 dX12_narrow_22 rfl ?_
      refine j_iret C dX12_narrow_23 ?_
      refine ⟨?_, rfl⟩
      unfold narF
      rw [if_neg c3, if_neg c14]
    · skip
      refine j_iload_n C 1 dX12_narrow_17 rfl ?_
      refine j_i2s C dX12_narrow_18 ?_
      refine j_goto C 23 dX12_narrow_19 (by decide) ?_
      refine j_iret C dX12_narrow_23 ?_
      refine ⟨?_, rfl⟩
      unfold narF
      rw [if_neg c3, if_pos c14]
  · skip
    refine j_iload_n C 1 dX12_narrow_6 rfl ?_
    refine j_i2b C dX12_narrow_7 ?_
    refine j_goto C 23 dX12_narrow_8 (by decide) ?_
    refine j_iret C dX12_narrow_23 ?_
    refine ⟨?_, rfl⟩
    unfold narF
    rw [if_pos c3]
theorem dX12_put_0 : decode cX12_put 0 = .ok (.iload_n 1, 1) := by decide +kernel
theorem dX12_put_1 : decode cX12_put 1 = .ok (.invokestatic 220, 3) := by decide +kernel
theorem dX12_put_4 : decode cX12_put 4 = .ok (.ifCond .ne 10, 3) := by decide +kernel
theorem dX12_put_7 : decode cX12_put 7 = .ok (.aload_n 0, 1) := by decide +kernel
theorem dX12_put_8 : decode cX12_put 8 = .ok (.ldc 55, 2) := by decide +kernel
theorem dX12_put_10 : decode cX12_put 10 = .ok (.invokevirtual 56, 3) := by decide +kernel
theorem dX12_put_13 : decode cX12_put 13 = .ok (.ireturn, 1) := by decide +kernel
theorem dX12_put_14 : decode cX12_put 14 = .ok (.aload_n 0, 1) := by decide +kernel
theorem dX12_put_15 : decode cX12_put 15 = .ok (.getfield 35, 3) := by decide +kernel
theorem dX12_put_18 : decode cX12_put 18 = .ok (.iload_n 1, 1) := by decide +kernel
theorem dX12_put_19 : decode cX12_put 19 = .ok (.iaload, 1) := by decide +kernel
theorem dX12_put_20 : decode cX12_put 20 = .ok (.ifCond .ne 10, 3) := by decide +kernel
theorem dX12_put_23 : decode cX12_put 23 = .ok (.aload_n 0, 1) := by decide +kernel
theorem dX12_put_24 : decode cX12_put 24 = .ok (.ldc 213, 2) := by decide +kernel
theorem dX12_put_26 : decode cX12_put 26 = .ok (.invokevirtual 56, 3) := by decide +kernel
theorem dX12_put_29 : decode cX12_put 29 = .ok (.ireturn, 1) := by decide +kernel
theorem dX12_put_30 : decode cX12_put 30 = .ok (.iload_n 2, 1) := by decide +kernel
theorem dX12_put_31 : decode cX12_put 31 = .ok (.iconst 0, 1) := by decide +kernel
theorem dX12_put_32 : decode cX12_put 32 = .ok (.aload_n 0, 1) := by decide +kernel
theorem dX12_put_33 : decode cX12_put 33 = .ok (.getfield 38, 3) := by decide +kernel
theorem dX12_put_36 : decode cX12_put 36 = .ok (.iload_n 1, 1) := by decide +kernel
theorem dX12_put_37 : decode cX12_put 37 = .ok (.iaload, 1) := by decide +kernel
theorem dX12_put_38 : decode cX12_put 38 = .ok (.iconst 1, 1) := by decide +kernel
theorem dX12_put_39 : decode cX12_put 39 = .ok (.isub, 1) := by decide +kernel
theorem dX12_put_40 : decode cX12_put 40 = .ok (.invokestatic 51, 3) := by decide +kernel
theorem dX12_put_43 : decode cX12_put 43 = .ok (.ifCond .ne 10, 3) := by decide +kernel
theorem dX12_put_46 : decode cX12_put 46 = .ok (.aload_n 0, 1) := by decide +kernel
theorem dX12_put_47 : decode cX12_put 47 = .ok (.ldc 55, 2) := by decide +kernel
theorem dX12_put_49 : decode cX12_put 49 = .ok (.invokevirtual 56, 3) := by decide +kernel
theorem dX12_put_52 : decode cX12_put 52 = .ok (.ireturn, 1) := by decide +kernel
theorem dX12_put_53 : decode cX12_put 53 = .ok (.aload_n 0, 1) := by decide +kernel
theorem dX12_put_54 : decode cX12_put 54 = .ok (.getfield 41, 3) := by decide +kernel
theorem dX12_put_57 : decode cX12_put 57 = .ok (.bipush 40, 2) := by decide +kernel
theorem dX12_put_59 : decode cX12_put 59 = .ok (.iload_n 1, 1) := by decide +kernel
theorem dX12_put_60 : decode cX12_put 60 = .ok (.imul, 1) := by decide +kernel
theorem dX12_put_61 : decode cX12_put 61 = .ok (.iload_n 2, 1) := by decide +kernel
theorem dX12_put_62 : decode cX12_put 62 = .ok (.iadd, 1) := by decide +kernel
theorem dX12_put_63 : decode cX12_put 63 = .ok (.aload_n 0, 1) := by decide +kernel
theorem dX12_put_64 : decode cX12_put 64 = .ok (.getfield 35, 3) := by decide +kernel
theorem dX12_put_67 : decode cX12_put 67 = .ok (.iload_n 1, 1) := by decide +kernel
theorem dX12_put_68 : decode cX12_put 68 = .ok (.iaload, 1) := by decide +kernel
theorem dX12_put_69 : decode cX12_put 69 = .ok (.iload_n 3, 1) := by decide +kernel
theorem dX12_put_70 : decode cX12_put 70 = .ok (.invokestatic 253, 3) := by decide +kernel
theorem dX12_put_73 : decode cX12_put 73 = .ok (.iastore, 1) := by decide +kernel
theorem dX12_put_74 : decode cX12_put 74 = .ok (.iconst 1, 1) := by decide +kernel
theorem dX12_put_75 : decode cX12_put 75 = .ok (.ireturn, 1) := by decide +kernel
set_option maxHeartbeats 2000000 in
set_option maxRecDepth 20000 in
theorem c_put {l : Launch} {D : va_G} {cI cG cW : ClassId} {o : Nat} {q : Nat → Nat} {V row kept tried bf fd pk bo so sh mv tr : Nat → Int32} {s i v : Int32} {nc np nw d nt nq : Nat} (hR : RKx row nc np nw d nt nq) (hSh : ∀ s, s < 4 → (bo s = nI 0 ∨ bo s = nI 8 ∨ bo s = nI 16 ∨ bo s = nI 32) ∧ ∃ n, n ≤ 40 ∧ so s = nI n) : Ci l yX12_put cX12_put 4 (some .int) 3 D (tyL cI cG cW) (wR cI o q) [.ref o, .int s, .int i, .int v] (sR V row kept tried bf fd pk bo so sh mv tr) (fun r τ => r = (sp_put V row kept tried bf fd pk bo so sh mv tr s i v).1 ∧ EQ τ (sp_put V row kept tried bf fd pk bo so sh mv tr s i v).2) := by
  refine Ci.of (by decide) (Nat.le_of_ble_eq_true rfl) ?_
  intro p_ e_ s_ m_ b_ M_ c_ A_ C
  replace C : Cx _ _ _ _ _ _ _ _ RX12 _ _ _ _ := C
  refine j_L [0, 1, 2, 3] [(0, .ref o), (1, .int s), (2, .int i), (3, .int v)] rfl ?_
  obtain ⟨hI, hW, ⟨e0, hd⟩, ⟨e4, ht⟩, ⟨e5, hq⟩, hB⟩ := id hR
  obtain ⟨⟨e2, hc2, hc10⟩, ⟨e3, hn6⟩, ⟨e8, hw8⟩, hP, hE, hLo, hT0, hT1⟩ := id hI
  have hIc := hI
  refine j_iload_n C 1 dX12_put_0 rfl ?_
  refine j_callS (As := [.int s]) (rest := []) C vw12_isSheet (c_isSheet) rfl (Nat.le_of_ble_eq_true rfl) dX12_put_1 (by decide) ?_
  rintro _ _ ⟨rfl, rfl⟩
  refine j_if_ne C 14 dX12_put_4 (by decide) (fun c4 => ?_) (fun c4 => ?_)
  · replace c4 := bI_t c4
    obtain ⟨sn, gsn, hsn, rfl⟩ := inn_lit (a := 0) (b := 3) c4 (by omega)
    obtain ⟨hbo, zn, hzn, es⟩ := hSh sn (by omega)
    refine j_aload_n C 0 dX12_put_14 rfl ?_
    refine rg C (v := .ref (q 21)) 21 (by decide) kf12_35 rfl dX12_put_15 ?_
    refine j_iload_n C 1 dX12_put_18 rfl ?_
    refine rl_bo C sn rfl (by omega) dX12_put_19 ?_
    refine j_if_ne C 30 dX12_put_20 (by decide) (fun c20 => ?_) (fun c20 => ?_)
    · skip
      refine j_iload_n C 2 dX12_put_30 rfl ?_
      refine j_iconst C (v := (nI 0)) dX12_put_31 (by decide) ?_
      refine j_aload_n C 0 dX12_put_32 rfl ?_
      refine rg C (v := .ref (q 22)) 22 (by decide) kf12_38 rfl dX12_put_33 ?_
      refine j_iload_n C 1 dX12_put_36 rfl ?_
      refine rl_so C sn rfl (by omega) dX12_put_37 ?_
      refine j_iconst C (v := (nI 1)) dX12_put_38 (by decide) ?_
      refine j_isub C dX12_put_39 ?_
      refine j_callS (As := [.int i, .int (nI 0), .int ((so sn) - (nI 1))]) (rest := []) C vw12_in (c_in) rfl (Nat.le_of_ble_eq_true rfl) dX12_put_40 (by decide) ?_
      rintro _ _ ⟨rfl, rfl⟩
      refine j_if_ne C 53 dX12_put_43 (by decide) (fun c43 => ?_) (fun c43 => ?_)
      · replace c43 := bI_t c43
        obtain ⟨xn, hxn, rfl⟩ := inn_row (n := zn) c43 es (by omega)
        refine j_aload_n C 0 dX12_put_53 rfl ?_
        refine rg C (v := .ref (q 23)) 23 (by decide) kf12_41 rfl dX12_put_54 ?_
        refine j_bipush C (v := (nI 40)) dX12_put_57 (by decide) ?_
        refine j_iload_n C 1 dX12_put_59 rfl ?_
        refine j_imulN C dX12_put_60 ?_
        refine j_iload_n C 2 dX12_put_61 rfl ?_
        refine j_iaddN C dX12_put_62 ?_
        refine j_aload_n C 0 dX12_put_63 rfl ?_
        refine rg C (v := .ref (q 21)) 21 (by decide) kf12_35 rfl dX12_put_64 ?_
        refine j_iload_n C 1 dX12_put_67 rfl ?_
        refine rl_bo C sn rfl (by omega) dX12_put_68 ?_
        refine j_iload_n C 3 dX12_put_69 rfl ?_
        refine j_callS (As := [.int (bo sn), .int v]) (rest := [.int (nI (40 * sn + xn)), .ref (q 23)]) C vw12_narrow (c_narrow) rfl (Nat.le_of_ble_eq_true rfl) dX12_put_70 (by decide) ?_
        rintro _ _ ⟨rfl, rfl⟩
        refine rs_sh C (40 * sn + xn) rfl (by omega) dX12_put_73 ?_
        refine j_iconst C (v := (nI 1)) dX12_put_74 (by decide) ?_
        refine j_iret C dX12_put_75 ?_
        unfold sp_put
        rw [if_pos c4, tN_nI (n := sn) (by omega)]
        rw [if_neg c20]
        rw [if_pos c43, tN_nI (n := xn) (by omega)]
        exact ⟨rfl, EQ.rf⟩
      · replace c43 := bI_f c43
        refine j_aload_n C 0 dX12_put_46 rfl ?_
        refine j_ldc C (-1000000001) dX12_put_47 kc12_55 ?_
        refine j_callV (As := [.int (-1000000001)]) (rest := []) C vw12_errs (c_errs 1 (by decide) (by decide)) rRcv rfl (Nat.le_of_ble_eq_true rfl) dX12_put_49 (by decide) ?_
        rintro _ _ ⟨rfl, rfl⟩
        refine j_iret C dX12_put_52 ?_
        unfold sp_put
        rw [if_pos c4, tN_nI (n := sn) (by omega)]
        rw [if_neg c20]
        rw [if_neg c43]
        exact ⟨rfl, EQ.rf⟩
    · skip
      refine j_aload_n C 0 dX12_put_23 rfl ?_
      refine j_ldc C (-1000000002) dX12_put_24 kc12_213 ?_
      refine j_callV (As := [.int (-1000000002)]) (rest := []) C vw12_errs (c_errs 2 (by decide) (by decide)) rRcv rfl (Nat.le_of_ble_eq_true rfl) dX12_put_26 (by decide) ?_
      rintro _ _ ⟨rfl, rfl⟩
      refine j_iret C dX12_put_29 ?_
      unfold sp_put
      rw [if_pos c4, tN_nI (n := sn) (by omega)]
      rw [if_pos c20]
      exact ⟨rfl, EQ.rf⟩
  · replace c4 := bI_f c4
    refine j_aload_n C 0 dX12_put_7 rfl ?_
    refine j_ldc C (-1000000001) dX12_put_8 kc12_55 ?_
    refine j_callV (As := [.int (-1000000001)]) (rest := []) C vw12_errs (c_errs 1 (by decide) (by decide)) rRcv rfl (Nat.le_of_ble_eq_true rfl) dX12_put_10 (by decide) ?_
    rintro _ _ ⟨rfl, rfl⟩
    refine j_iret C dX12_put_13 ?_
    unfold sp_put
    rw [if_neg c4]
    exact ⟨rfl, EQ.rf⟩
theorem EQ.of6 {V V1 row kept tried bf fd pk bo so sh mv tr tried' bf' pk' mv' : Nat → Int32} (h4 : V1 4 = V 4) (h5 : V1 5 = V 5) (h15 : V1 15 = V 15) (h16 : V1 16 = V 16) (h18 : V1 18 = V 18) (h26 : V1 26 = V 26) : EQ (sR V1 row kept tried' bf' fd pk' bo so sh mv' tr) (sR V row kept tried bf fd pk bo so sh mv tr) := ⟨rfl, rfl, rfl, rfl, rfl, rfl, rfl, h4, h5, h15, h16, h18, h26⟩
theorem dX12_move_0 : decode cX12_move 0 = .ok (.iload_n 1, 1) := by decide +kernel
theorem dX12_move_1 : decode cX12_move 1 = .ok (.invokestatic 220, 3) := by decide +kernel
theorem dX12_move_4 : decode cX12_move 4 = .ok (.ifCond .eq 10, 3) := by decide +kernel
theorem dX12_move_7 : decode cX12_move 7 = .ok (.iload_n 3, 1) := by decide +kernel
theorem dX12_move_8 : decode cX12_move 8 = .ok (.invokestatic 220, 3) := by decide +kernel
theorem dX12_move_11 : decode cX12_move 11 = .ok (.ifCond .ne 10, 3) := by decide +kernel
theorem dX12_move_14 : decode cX12_move 14 = .ok (.aload_n 0, 1) := by decide +kernel
theorem dX12_move_15 : decode cX12_move 15 = .ok (.ldc 55, 2) := by decide +kernel
theorem dX12_move_17 : decode cX12_move 17 = .ok (.invokevirtual 56, 3) := by decide +kernel
theorem dX12_move_20 : decode cX12_move 20 = .ok (.ireturn, 1) := by decide +kernel
theorem dX12_move_21 : decode cX12_move 21 = .ok (.aload_n 0, 1) := by decide +kernel
theorem dX12_move_22 : decode cX12_move 22 = .ok (.getfield 35, 3) := by decide +kernel
theorem dX12_move_25 : decode cX12_move 25 = .ok (.iload_n 1, 1) := by decide +kernel
theorem dX12_move_26 : decode cX12_move 26 = .ok (.iaload, 1) := by decide +kernel
theorem dX12_move_27 : decode cX12_move 27 = .ok (.ifCond .eq 12, 3) := by decide +kernel
theorem dX12_move_30 : decode cX12_move 30 = .ok (.aload_n 0, 1) := by decide +kernel
theorem dX12_move_31 : decode cX12_move 31 = .ok (.getfield 35, 3) := by decide +kernel
theorem dX12_move_34 : decode cX12_move 34 = .ok (.iload_n 3, 1) := by decide +kernel
theorem dX12_move_35 : decode cX12_move 35 = .ok (.iaload, 1) := by decide +kernel
theorem dX12_move_36 : decode cX12_move 36 = .ok (.ifCond .ne 10, 3) := by decide +kernel
theorem dX12_move_39 : decode cX12_move 39 = .ok (.aload_n 0, 1) := by decide +kernel
theorem dX12_move_40 : decode cX12_move 40 = .ok (.ldc 213, 2) := by decide +kernel
theorem dX12_move_42 : decode cX12_move 42 = .ok (.invokevirtual 56, 3) := by decide +kernel
theorem dX12_move_45 : decode cX12_move 45 = .ok (.ireturn, 1) := by decide +kernel
theorem dX12_move_46 : decode cX12_move 46 = .ok (.aload_n 0, 1) := by decide +kernel
theorem dX12_move_47 : decode cX12_move 47 = .ok (.getfield 35, 3) := by decide +kernel
theorem dX12_move_50 : decode cX12_move 50 = .ok (.iload_n 1, 1) := by decide +kernel
theorem dX12_move_51 : decode cX12_move 51 = .ok (.iaload, 1) := by decide +kernel
theorem dX12_move_52 : decode cX12_move 52 = .ok (.aload_n 0, 1) := by decide +kernel
theorem dX12_move_53 : decode cX12_move 53 = .ok (.getfield 35, 3) := by decide +kernel
theorem dX12_move_56 : decode cX12_move 56 = .ok (.iload_n 3, 1) := by decide +kernel
theorem dX12_move_57 : decode cX12_move 57 = .ok (.iaload, 1) := by decide +kernel
theorem dX12_move_58 : decode cX12_move 58 = .ok (.if_icmp .eq 10, 3) := by decide +kernel
theorem dX12_move_61 : decode cX12_move 61 = .ok (.aload_n 0, 1) := by decide +kernel
theorem dX12_move_62 : decode cX12_move 62 = .ok (.ldc 95, 2) := by decide +kernel
theorem dX12_move_64 : decode cX12_move 64 = .ok (.invokevirtual 56, 3) := by decide +kernel
theorem dX12_move_67 : decode cX12_move 67 = .ok (.ireturn, 1) := by decide +kernel
theorem dX12_move_68 : decode cX12_move 68 = .ok (.iload 5, 2) := by decide +kernel
theorem dX12_move_70 : decode cX12_move 70 = .ok (.ifCond .lt 39, 3) := by decide +kernel
theorem dX12_move_73 : decode cX12_move 73 = .ok (.iload_n 2, 1) := by decide +kernel
theorem dX12_move_74 : decode cX12_move 74 = .ok (.ifCond .lt 35, 3) := by decide +kernel
theorem dX12_move_77 : decode cX12_move 77 = .ok (.iload 4, 2) := by decide +kernel
theorem dX12_move_79 : decode cX12_move 79 = .ok (.ifCond .lt 30, 3) := by decide +kernel
theorem dX12_move_82 : decode cX12_move 82 = .ok (.iload_n 2, 1) := by decide +kernel
theorem dX12_move_83 : decode cX12_move 83 = .ok (.aload_n 0, 1) := by decide +kernel
theorem dX12_move_84 : decode cX12_move 84 = .ok (.getfield 38, 3) := by decide +kernel
theorem dX12_move_87 : decode cX12_move 87 = .ok (.iload_n 1, 1) := by decide +kernel
theorem dX12_move_88 : decode cX12_move 88 = .ok (.iaload, 1) := by decide +kernel
theorem dX12_move_89 : decode cX12_move 89 = .ok (.iload 5, 2) := by decide +kernel
theorem dX12_move_91 : decode cX12_move 91 = .ok (.isub, 1) := by decide +kernel
theorem dX12_move_92 : decode cX12_move 92 = .ok (.if_icmp .gt 17, 3) := by decide +kernel
theorem dX12_move_95 : decode cX12_move 95 = .ok (.iload 4, 2) := by decide +kernel
theorem dX12_move_97 : decode cX12_move 97 = .ok (.aload_n 0, 1) := by decide +kernel
theorem dX12_move_98 : decode cX12_move 98 = .ok (.getfield 38, 3) := by decide +kernel
theorem dX12_move_101 : decode cX12_move 101 = .ok (.iload_n 3, 1) := by decide +kernel
theorem dX12_move_102 : decode cX12_move 102 = .ok (.iaload, 1) := by decide +kernel
theorem dX12_move_103 : decode cX12_move 103 = .ok (.iload 5, 2) := by decide +kernel
theorem dX12_move_105 : decode cX12_move 105 = .ok (.isub, 1) := by decide +kernel
theorem dX12_move_106 : decode cX12_move 106 = .ok (.if_icmp .le 10, 3) := by decide +kernel
theorem dX12_move_109 : decode cX12_move 109 = .ok (.aload_n 0, 1) := by decide +kernel
theorem dX12_move_110 : decode cX12_move 110 = .ok (.ldc 55, 2) := by decide +kernel
theorem dX12_move_112 : decode cX12_move 112 = .ok (.invokevirtual 56, 3) := by decide +kernel
theorem dX12_move_115 : decode cX12_move 115 = .ok (.ireturn, 1) := by decide +kernel
theorem dX12_move_116 : decode cX12_move 116 = .ok (.iconst 0, 1) := by decide +kernel
theorem dX12_move_117 : decode cX12_move 117 = .ok (.istore 6, 2) := by decide +kernel
theorem dX12_move_119 : decode cX12_move 119 = .ok (.iload 6, 2) := by decide +kernel
theorem dX12_move_121 : decode cX12_move 121 = .ok (.iload 5, 2) := by decide +kernel
theorem dX12_move_123 : decode cX12_move 123 = .ok (.if_icmp .ge 30, 3) := by decide +kernel
theorem dX12_move_126 : decode cX12_move 126 = .ok (.aload_n 0, 1) := by decide +kernel
theorem dX12_move_127 : decode cX12_move 127 = .ok (.getfield 44, 3) := by decide +kernel
theorem dX12_move_130 : decode cX12_move 130 = .ok (.iload 6, 2) := by decide +kernel
theorem dX12_move_132 : decode cX12_move 132 = .ok (.aload_n 0, 1) := by decide +kernel
theorem dX12_move_133 : decode cX12_move 133 = .ok (.getfield 41, 3) := by decide +kernel
theorem dX12_move_136 : decode cX12_move 136 = .ok (.bipush 40, 2) := by decide +kernel
theorem dX12_move_138 : decode cX12_move 138 = .ok (.iload_n 1, 1) := by decide +kernel
theorem dX12_move_139 : decode cX12_move 139 = .ok (.imul, 1) := by decide +kernel
theorem dX12_move_140 : decode cX12_move 140 = .ok (.iload_n 2, 1) := by decide +kernel
theorem dX12_move_141 : decode cX12_move 141 = .ok (.iadd, 1) := by decide +kernel
theorem dX12_move_142 : decode cX12_move 142 = .ok (.iload 6, 2) := by decide +kernel
theorem dX12_move_144 : decode cX12_move 144 = .ok (.iadd, 1) := by decide +kernel
theorem dX12_move_145 : decode cX12_move 145 = .ok (.iaload, 1) := by decide +kernel
theorem dX12_move_146 : decode cX12_move 146 = .ok (.iastore, 1) := by decide +kernel
theorem dX12_move_147 : decode cX12_move 147 = .ok (.iinc 6 1, 3) := by decide +kernel
theorem dX12_move_150 : decode cX12_move 150 = .ok (.goto (-31), 3) := by decide +kernel
theorem dX12_move_153 : decode cX12_move 153 = .ok (.iconst 0, 1) := by decide +kernel
theorem dX12_move_154 : decode cX12_move 154 = .ok (.istore 6, 2) := by decide +kernel
theorem dX12_move_156 : decode cX12_move 156 = .ok (.iload 6, 2) := by decide +kernel
theorem dX12_move_158 : decode cX12_move 158 = .ok (.iload 5, 2) := by decide +kernel
theorem dX12_move_160 : decode cX12_move 160 = .ok (.if_icmp .ge 31, 3) := by decide +kernel
theorem dX12_move_163 : decode cX12_move 163 = .ok (.aload_n 0, 1) := by decide +kernel
theorem dX12_move_164 : decode cX12_move 164 = .ok (.getfield 41, 3) := by decide +kernel
theorem dX12_move_167 : decode cX12_move 167 = .ok (.bipush 40, 2) := by decide +kernel
theorem dX12_move_169 : decode cX12_move 169 = .ok (.iload_n 3, 1) := by decide +kernel
theorem dX12_move_170 : decode cX12_move 170 = .ok (.imul, 1) := by decide +kernel
theorem dX12_move_171 : decode cX12_move 171 = .ok (.iload 4, 2) := by decide +kernel
theorem dX12_move_173 : decode cX12_move 173 = .ok (.iadd, 1) := by decide +kernel
theorem dX12_move_174 : decode cX12_move 174 = .ok (.iload 6, 2) := by decide +kernel
theorem dX12_move_176 : decode cX12_move 176 = .ok (.iadd, 1) := by decide +kernel
theorem dX12_move_177 : decode cX12_move 177 = .ok (.aload_n 0, 1) := by decide +kernel
theorem dX12_move_178 : decode cX12_move 178 = .ok (.getfield 44, 3) := by decide +kernel
theorem dX12_move_181 : decode cX12_move 181 = .ok (.iload 6, 2) := by decide +kernel
theorem dX12_move_183 : decode cX12_move 183 = .ok (.iaload, 1) := by decide +kernel
theorem dX12_move_184 : decode cX12_move 184 = .ok (.iastore, 1) := by decide +kernel
theorem dX12_move_185 : decode cX12_move 185 = .ok (.iinc 6 1, 3) := by decide +kernel
theorem dX12_move_188 : decode cX12_move 188 = .ok (.goto (-32), 3) := by decide +kernel
theorem dX12_move_191 : decode cX12_move 191 = .ok (.iload 5, 2) := by decide +kernel
theorem dX12_move_193 : decode cX12_move 193 = .ok (.ireturn, 1) := by decide +kernel
set_option maxHeartbeats 2000000 in
set_option maxRecDepth 20000 in
theorem c_move {l : Launch} {D : va_G} {cI cG cW : ClassId} {o : Nat} {q : Nat → Nat} {V row kept tried bf fd pk bo so sh mv tr : Nat → Int32} {s i t j n : Int32} {nc np nw d nt nq : Nat} (hR : RKx row nc np nw d nt nq) (hSh : ∀ s, s < 4 → (bo s = nI 0 ∨ bo s = nI 8 ∨ bo s = nI 16 ∨ bo s = nI 32) ∧ ∃ n, n ≤ 40 ∧ so s = nI n) : Ci l yX12_move cX12_move 7 (some .int) 3 D (tyL cI cG cW) (wR cI o q) [.ref o, .int s, .int i, .int t, .int j, .int n] (sR V row kept tried bf fd pk bo so sh mv tr) (fun r τ => r = (sp_move V row kept tried bf fd pk bo so sh mv tr s i t j n).1 ∧ EQ τ (sp_move V row kept tried bf fd pk bo so sh mv tr s i t j n).2) := by
  refine Ci.of (by decide) (Nat.le_of_ble_eq_true rfl) ?_
  intro p_ e_ s_ m_ b_ M_ c_ A_ C
  replace C : Cx _ _ _ _ _ _ _ _ RX12 _ _ _ _ := C
  refine j_L [0, 1, 2, 3, 4, 5] [(0, .ref o), (1, .int s), (2, .int i), (3, .int t), (4, .int j), (5, .int n)] rfl ?_
  obtain ⟨hI, hW, ⟨e0, hd⟩, ⟨e4, ht⟩, ⟨e5, hq⟩, hB⟩ := id hR
  obtain ⟨⟨e2, hc2, hc10⟩, ⟨e3, hn6⟩, ⟨e8, hw8⟩, hP, hE, hLo, hT0, hT1⟩ := id hI
  have hIc := hI
  refine j_iload_n C 1 dX12_move_0 rfl ?_
  refine j_callS (As := [.int s]) (rest := []) C vw12_isSheet (c_isSheet) rfl (Nat.le_of_ble_eq_true rfl) dX12_move_1 (by decide) ?_
  rintro _ _ ⟨rfl, rfl⟩
  refine j_if_eq C 14 dX12_move_4 (by decide) (fun c4 => ?_) (fun c4 => ?_)
  · replace c4 := bI_f c4
    refine j_aload_n C 0 dX12_move_14 rfl ?_
    refine j_ldc C (-1000000001) dX12_move_15 kc12_55 ?_
    refine j_callV (As := [.int (-1000000001)]) (rest := []) C vw12_errs (c_errs 1 (by decide) (by decide)) rRcv rfl (Nat.le_of_ble_eq_true rfl) dX12_move_17 (by decide) ?_
    rintro _ _ ⟨rfl, rfl⟩
    refine j_iret C dX12_move_20 ?_
    unfold sp_move
    rw [if_neg (fun h => c4 h.1)]
    exact ⟨rfl, EQ.rf⟩
  · replace c4 := bI_t c4
    obtain ⟨sn, gsn, hsn, rfl⟩ := inn_lit (a := 0) (b := 3) c4 (by omega)
    refine j_iload_n C 3 dX12_move_7 rfl ?_
    refine j_callS (As := [.int t]) (rest := []) C vw12_isSheet (c_isSheet) rfl (Nat.le_of_ble_eq_true rfl) dX12_move_8 (by decide) ?_
    rintro _ _ ⟨rfl, rfl⟩
    refine j_if_ne C 21 dX12_move_11 (by decide) (fun c11 => ?_) (fun c11 => ?_)
    · replace c11 := bI_t c11
      obtain ⟨tn, gtn, htn, rfl⟩ := inn_lit (a := 0) (b := 3) c11 (by omega)
      obtain ⟨hbo, zn, hzn, es⟩ := hSh sn (by omega)
      obtain ⟨hbt, yz, hyz, et⟩ := hSh tn (by omega)
      refine j_aload_n C 0 dX12_move_21 rfl ?_
      refine rg C (v := .ref (q 21)) 21 (by decide) kf12_35 rfl dX12_move_22 ?_
      refine j_iload_n C 1 dX12_move_25 rfl ?_
      refine rl_bo C sn rfl (by omega) dX12_move_26 ?_
      refine j_if_eq C 39 dX12_move_27 (by decide) (fun c27 => ?_) (fun c27 => ?_)
      · skip
        refine j_aload_n C 0 dX12_move_39 rfl ?_
        refine j_ldc C (-1000000002) dX12_move_40 kc12_213 ?_
        refine j_callV (As := [.int (-1000000002)]) (rest := []) C vw12_errs (c_errs 2 (by decide) (by decide)) rRcv rfl (Nat.le_of_ble_eq_true rfl) dX12_move_42 (by decide) ?_
        rintro _ _ ⟨rfl, rfl⟩
        refine j_iret C dX12_move_45 ?_
        unfold sp_move
        rw [if_pos ⟨c4, c11⟩, tN_nI (n := sn) (by omega), tN_nI (n := tn) (by omega)]
        rw [if_pos (Or.inl c27)]
        exact ⟨rfl, EQ.rf⟩
      · skip
        refine j_aload_n C 0 dX12_move_30 rfl ?_
        refine rg C (v := .ref (q 21)) 21 (by decide) kf12_35 rfl dX12_move_31 ?_
        refine j_iload_n C 3 dX12_move_34 rfl ?_
        refine rl_bo C tn rfl (by omega) dX12_move_35 ?_
        refine j_if_ne C 46 dX12_move_36 (by decide) (fun c36 => ?_) (fun c36 => ?_)
        · skip
          refine j_aload_n C 0 dX12_move_46 rfl ?_
          refine rg C (v := .ref (q 21)) 21 (by decide) kf12_35 rfl dX12_move_47 ?_
          refine j_iload_n C 1 dX12_move_50 rfl ?_
          refine rl_bo C sn rfl (by omega) dX12_move_51 ?_
          refine j_aload_n C 0 dX12_move_52 rfl ?_
          refine rg C (v := .ref (q 21)) 21 (by decide) kf12_35 rfl dX12_move_53 ?_
          refine j_iload_n C 3 dX12_move_56 rfl ?_
          refine rl_bo C tn rfl (by omega) dX12_move_57 ?_
          refine j_icmp_eq C 68 dX12_move_58 (by decide) (fun c58 => ?_) (fun c58 => ?_)
          · skip
            refine j_iload C 5 dX12_move_68 rfl ?_
            refine j_if_lt C 109 dX12_move_70 (by decide) (fun c70 => ?_) (fun c70 => ?_)
            · skip
              refine j_aload_n C 0 dX12_move_109 rfl ?_
              refine j_ldc C (-1000000001) dX12_move_110 kc12_55 ?_
              refine j_callV (As := [.int (-1000000001)]) (rest := []) C vw12_errs (c_errs 1 (by decide) (by decide)) rRcv rfl (Nat.le_of_ble_eq_true rfl) dX12_move_112 (by decide) ?_
              rintro _ _ ⟨rfl, rfl⟩
              refine j_iret C dX12_move_115 ?_
              unfold sp_move
              rw [if_pos ⟨c4, c11⟩, tN_nI (n := sn) (by omega), tN_nI (n := tn) (by omega)]
              rw [if_neg (fun h => h.elim c27 c36)]
              rw [if_neg (fun h => h c58)]
              rw [if_pos (Or.inl c70)]
              exact ⟨rfl, EQ.rf⟩
            · skip
              refine j_iload_n C 2 dX12_move_73 rfl ?_
              refine j_if_lt C 109 dX12_move_74 (by decide) (fun c74 => ?_) (fun c74 => ?_)
              · skip
                refine j_aload_n C 0 dX12_move_109 rfl ?_
                refine j_ldc C (-1000000001) dX12_move_110 kc12_55 ?_
                refine j_callV (As := [.int (-1000000001)]) (rest := []) C vw12_errs (c_errs 1 (by decide) (by decide)) rRcv rfl (Nat.le_of_ble_eq_true rfl) dX12_move_112 (by decide) ?_
                rintro _ _ ⟨rfl, rfl⟩
                refine j_iret C dX12_move_115 ?_
                unfold sp_move
                rw [if_pos ⟨c4, c11⟩, tN_nI (n := sn) (by omega), tN_nI (n := tn) (by omega)]
                rw [if_neg (fun h => h.elim c27 c36)]
                rw [if_neg (fun h => h c58)]
                rw [if_pos (Or.inr (Or.inl c74))]
                exact ⟨rfl, EQ.rf⟩
              · skip
                refine j_iload C 4 dX12_move_77 rfl ?_
                refine j_if_lt C 109 dX12_move_79 (by decide) (fun c79 => ?_) (fun c79 => ?_)
                · skip
                  refine j_aload_n C 0 dX12_move_109 rfl ?_
                  refine j_ldc C (-1000000001) dX12_move_110 kc12_55 ?_
                  refine j_callV (As := [.int (-1000000001)]) (rest := []) C vw12_errs (c_errs 1 (by decide) (by decide)) rRcv rfl (Nat.le_of_ble_eq_true rfl) dX12_move_112 (by decide) ?_
                  rintro _ _ ⟨rfl, rfl⟩
                  refine j_iret C dX12_move_115 ?_
                  unfold sp_move
                  rw [if_pos ⟨c4, c11⟩, tN_nI (n := sn) (by omega), tN_nI (n := tn) (by omega)]
                  rw [if_neg (fun h => h.elim c27 c36)]
                  rw [if_neg (fun h => h c58)]
                  rw [if_pos (Or.inr (Or.inr (Or.inl c79)))]
                  exact ⟨rfl, EQ.rf⟩
                · skip
                  refine j_iload_n C 2 dX12_move_82 rfl ?_
                  refine j_aload_n C 0 dX12_move_83 rfl ?_
                  refine rg C (v := .ref (q 22)) 22 (by decide) kf12_38 rfl dX12_move_84 ?_
                  refine j_iload_n C 1 dX12_move_87 rfl ?_
                  refine rl_so C sn rfl (by omega) dX12_move_88 ?_
                  refine j_iload C 5 dX12_move_89 rfl ?_
                  refine j_isub C dX12_move_91 ?_
                  refine j_icmp_gt C 109 dX12_move_92 (by decide) (fun c92 => ?_) (fun c92 => ?_)
                  · skip
                    refine j_aload_n C 0 dX12_move_109 rfl ?_
                    refine j_ldc C (-1000000001) dX12_move_110 kc12_55 ?_
                    refine j_callV (As := [.int (-1000000001)]) (rest := []) C vw12_errs (c_errs 1 (by decide) (by decide)) rRcv rfl (Nat.le_of_ble_eq_true rfl) dX12_move_112 (by decide) ?_
                    rintro _ _ ⟨rfl, rfl⟩
                    refine j_iret C dX12_move_115 ?_
                    unfold sp_move
                    rw [if_pos ⟨c4, c11⟩, tN_nI (n := sn) (by omega), tN_nI (n := tn) (by omega)]
                    rw [if_neg (fun h => h.elim c27 c36)]
                    rw [if_neg (fun h => h c58)]
                    rw [if_pos (Or.inr (Or.inr (Or.inr (Or.inl c92))))]
                    exact ⟨rfl, EQ.rf⟩
                  · skip
                    refine j_iload C 4 dX12_move_95 rfl ?_
                    refine j_aload_n C 0 dX12_move_97 rfl ?_
                    refine rg C (v := .ref (q 22)) 22 (by decide) kf12_38 rfl dX12_move_98 ?_
                    refine j_iload_n C 3 dX12_move_101 rfl ?_
                    refine rl_so C tn rfl (by omega) dX12_move_102 ?_
                    refine j_iload C 5 dX12_move_103 rfl ?_
                    refine j_isub C dX12_move_105 ?_
                    refine j_icmp_le C 116 dX12_move_106 (by decide) (fun c106 => ?_) (fun c106 => ?_)
                    · skip
                      obtain ⟨nn, hnn, rfl⟩ := nI_of c70
                      obtain ⟨xn, hxn, rfl⟩ := nI_of c74
                      obtain ⟨yn, hyn, rfl⟩ := nI_of c79
                      have hx1 : xn + nn ≤ zn := sub_le (by omega) hnn hxn (by rw [← es]; exact c92)
                      have hx2 : yn + nn ≤ yz := sub_le (by omega) hnn hyn (by rw [← et]; exact lnl c106)
                      refine j_iconst C (v := (nI 0)) dX12_move_116 (by decide) ?_
                      refine j_istore C [(6, .int (nI 0)), (0, .ref o), (1, .int (nI sn)), (2, .int (nI xn)), (3, .int (nI tn)), (4, .int (nI yn)), (5, .int (nI nn))] dX12_move_117 (by decide) rfl ?_
                      refine j_L [1, 2, 3, 4, 5, 6, 0] [(0, .ref o), (1, .int (nI sn)), (2, .int (nI xn)), (3, .int (nI tn)), (4, .int (nI yn)), (5, .int (nI nn)), (6, .int (nI 0))] rfl ?_
                      refine j_loop (X := Nat × (Nat → Int32)) (fun (z : Nat × (Nat → Int32)) => match z with | (k, mv1) => k ≤ nn ∧ ∀ j, j < k → mv1 j = sh (40 * sn + xn + j)) (fun (z : Nat × (Nat → Int32)) => match z with | (k, mv1) => nn - k) (fun (z : Nat × (Nat → Int32)) => match z with | (k, mv1) => (sR V row kept tried bf fd pk bo so sh mv1 tr)) (fun (z : Nat × (Nat → Int32)) => match z with | (k, mv1) => [(0, .ref o), (1, .int (nI sn)), (2, .int (nI xn)), (3, .int (nI tn)), (4, .int (nI yn)), (5, .int (nI nn)), (6, .int (nI k))]) (0, mv) (⟨Nat.zero_le _, fun j h => absurd h (Nat.not_lt_zero _)⟩) rfl rfl ?_
                      rintro ⟨k, mv1⟩ ⟨hk, hm⟩ ih
                      try dsimp only at ih ⊢
                      refine j_iload C 6 dX12_move_119 rfl ?_
                      refine j_iload C 5 dX12_move_121 rfl ?_
                      refine j_icmp_ge C 153 dX12_move_123 (by decide) (fun c123 => ?_) (fun c123 => ?_)
                      · rw [nI_leI (by omega) (by omega)] at c123
                        obtain rfl : nn = k := by omega
                        refine j_iconst C (v := (nI 0)) dX12_move_153 (by decide) ?_
                        refine j_istore C [(6, .int (nI 0)), (0, .ref o), (1, .int (nI sn)), (2, .int (nI xn)), (3, .int (nI tn)), (4, .int (nI yn)), (5, .int (nI nn))] dX12_move_154 (by decide) rfl ?_
                        refine j_L [1, 2, 3, 4, 5, 6, 0] [(0, .ref o), (1, .int (nI sn)), (2, .int (nI xn)), (3, .int (nI tn)), (4, .int (nI yn)), (5, .int (nI nn)), (6, .int (nI 0))] rfl ?_
                        refine j_loop (X := Nat) (fun (k : Nat) => k ≤ nn) (fun (k : Nat) => nn - k) (fun (k : Nat) => (sR V row kept tried bf fd pk bo so (mvF sh (40 * sn + xn) (40 * tn + yn) k) mv1 tr)) (fun (k : Nat) => [(0, .ref o), (1, .int (nI sn)), (2, .int (nI xn)), (3, .int (nI tn)), (4, .int (nI yn)), (5, .int (nI nn)), (6, .int (nI k))]) (0) (Nat.zero_le _) (by rw [← mvF_0]) rfl ?_
                        rintro k hk ih
                        try dsimp only at ih ⊢
                        refine j_iload C 6 dX12_move_156 rfl ?_
                        refine j_iload C 5 dX12_move_158 rfl ?_
                        refine j_icmp_ge C 191 dX12_move_160 (by decide) (fun c160 => ?_) (fun c160 => ?_)
                        · rw [nI_leI (by omega) (by omega)] at c160
                          obtain rfl : nn = k := by omega
                          refine j_iload C 5 dX12_move_191 rfl ?_
                          refine j_iret C dX12_move_193 ?_
                          unfold sp_move
                          rw [if_pos ⟨c4, c11⟩, tN_nI (n := sn) (by omega), tN_nI (n := tn) (by omega)]
                          rw [if_neg (fun h => h.elim c27 c36)]
                          rw [if_neg (fun h => h c58)]
                          rw [if_neg (fun h => h.elim c70 (fun h => h.elim c74 (fun h => h.elim c79 (fun h => h.elim c92 (lnl c106))))), tN_nI (n := nn) (by omega), tN_nI (n := xn) (by omega), tN_nI (n := yn) (by omega)]
                          exact ⟨rfl, EQ.of6 rfl rfl rfl rfl rfl rfl⟩
                        · rw [nI_leI (by omega) (by omega)] at c160
                          refine j_aload_n C 0 dX12_move_163 rfl ?_
                          refine rg C (v := .ref (q 23)) 23 (by decide) kf12_41 rfl dX12_move_164 ?_
                          refine j_bipush C (v := (nI 40)) dX12_move_167 (by decide) ?_
                          refine j_iload_n C 3 dX12_move_169 rfl ?_
                          refine j_imulN C dX12_move_170 ?_
                          refine j_iload C 4 dX12_move_171 rfl ?_
                          refine j_iaddN C dX12_move_173 ?_
                          refine j_iload C 6 dX12_move_174 rfl ?_
                          refine j_iaddN C dX12_move_176 ?_
                          refine j_aload_n C 0 dX12_move_177 rfl ?_
                          refine rg C (v := .ref (q 24)) 24 (by decide) kf12_44 rfl dX12_move_178 ?_
                          refine j_iload C 6 dX12_move_181 rfl ?_
                          refine rl_mv C k rfl (by omega) dX12_move_183 ?_
                          refine rs_sh C (40 * tn + yn + k) rfl (by omega) dX12_move_184 ?_
                          refine j_iinc C (v := (nI (k + 1))) 6 [(6, .int (nI (k + 1))), (0, .ref o), (1, .int (nI sn)), (2, .int (nI xn)), (3, .int (nI tn)), (4, .int (nI yn)), (5, .int (nI nn))] dX12_move_185 rfl (nI_1 _) (by decide) rfl ?_
                          refine j_goto C 156 dX12_move_188 (by decide) ?_
                          refine j_L [1, 2, 3, 4, 5, 6, 0] [(0, .ref o), (1, .int (nI sn)), (2, .int (nI xn)), (3, .int (nI tn)), (4, .int (nI yn)), (5, .int (nI nn)), (6, .int (nI (k + 1)))] rfl ?_
                          rw [hm k (by omega), mvF_s]
                          exact ih (k + 1) (by omega) (by omega)
                      · rw [nI_leI (by omega) (by omega)] at c123
                        refine j_aload_n C 0 dX12_move_126 rfl ?_
                        refine rg C (v := .ref (q 24)) 24 (by decide) kf12_44 rfl dX12_move_127 ?_
                        refine j_iload C 6 dX12_move_130 rfl ?_
                        refine j_aload_n C 0 dX12_move_132 rfl ?_
                        refine rg C (v := .ref (q 23)) 23 (by decide) kf12_41 rfl dX12_move_133 ?_
                        refine j_bipush C (v := (nI 40)) dX12_move_136 (by decide) ?_
                        refine j_iload_n C 1 dX12_move_138 rfl ?_
                        refine j_imulN C dX12_move_139 ?_
                        refine j_iload_n C 2 dX12_move_140 rfl ?_
                        refine j_iaddN C dX12_move_141 ?_
                        refine j_iload C 6 dX12_move_142 rfl ?_
                        refine j_iaddN C dX12_move_144 ?_
                        refine rl_sh C (40 * sn + xn + k) rfl (by omega) dX12_move_145 ?_
                        refine rs_mv C k rfl (by omega) dX12_move_146 ?_
                        refine j_iinc C (v := (nI (k + 1))) 6 [(6, .int (nI (k + 1))), (0, .ref o), (1, .int (nI sn)), (2, .int (nI xn)), (3, .int (nI tn)), (4, .int (nI yn)), (5, .int (nI nn))] dX12_move_147 rfl (nI_1 _) (by decide) rfl ?_
                        refine j_goto C 119 dX12_move_150 (by decide) ?_
                        refine j_L [1, 2, 3, 4, 5, 6, 0] [(0, .ref o), (1, .int (nI sn)), (2, .int (nI xn)), (3, .int (nI tn)), (4, .int (nI yn)), (5, .int (nI nn)), (6, .int (nI (k + 1)))] rfl ?_
                        refine ih (k + 1, upd mv1 k (sh (40 * sn + xn + k))) ⟨by dsimp only; omega, fun j hj => ?_⟩ (by dsimp only; omega)
                        dsimp only at hj ⊢
                        by_cases ej : j = k
                        · subst ej; rw [pk_us]
                        · rw [pk_un ej]; exact hm j (by omega)
                    · skip
                      refine j_aload_n C 0 dX12_move_109 rfl ?_
                      refine j_ldc C (-1000000001) dX12_move_110 kc12_55 ?_
                      refine j_callV (As := [.int (-1000000001)]) (rest := []) C vw12_errs (c_errs 1 (by decide) (by decide)) rRcv rfl (Nat.le_of_ble_eq_true rfl) dX12_move_112 (by decide) ?_
                      rintro _ _ ⟨rfl, rfl⟩
                      refine j_iret C dX12_move_115 ?_
                      unfold sp_move
                      rw [if_pos ⟨c4, c11⟩, tN_nI (n := sn) (by omega), tN_nI (n := tn) (by omega)]
                      rw [if_neg (fun h => h.elim c27 c36)]
                      rw [if_neg (fun h => h c58)]
                      rw [if_pos (Or.inr (Or.inr (Or.inr (Or.inr (nle c106)))))]
                      exact ⟨rfl, EQ.rf⟩
          · skip
            refine j_aload_n C 0 dX12_move_61 rfl ?_
            refine j_ldc C (-1000000005) dX12_move_62 kc12_95 ?_
            refine j_callV (As := [.int (-1000000005)]) (rest := []) C vw12_errs (c_errs 5 (by decide) (by decide)) rRcv rfl (Nat.le_of_ble_eq_true rfl) dX12_move_64 (by decide) ?_
            rintro _ _ ⟨rfl, rfl⟩
            refine j_iret C dX12_move_67 ?_
            unfold sp_move
            rw [if_pos ⟨c4, c11⟩, tN_nI (n := sn) (by omega), tN_nI (n := tn) (by omega)]
            rw [if_neg (fun h => h.elim c27 c36)]
            rw [if_pos c58]
            exact ⟨rfl, EQ.rf⟩
        · skip
          refine j_aload_n C 0 dX12_move_39 rfl ?_
          refine j_ldc C (-1000000002) dX12_move_40 kc12_213 ?_
          refine j_callV (As := [.int (-1000000002)]) (rest := []) C vw12_errs (c_errs 2 (by decide) (by decide)) rRcv rfl (Nat.le_of_ble_eq_true rfl) dX12_move_42 (by decide) ?_
          rintro _ _ ⟨rfl, rfl⟩
          refine j_iret C dX12_move_45 ?_
          unfold sp_move
          rw [if_pos ⟨c4, c11⟩, tN_nI (n := sn) (by omega), tN_nI (n := tn) (by omega)]
          rw [if_pos (Or.inr c36)]
          exact ⟨rfl, EQ.rf⟩
    · replace c11 := bI_f c11
      refine j_aload_n C 0 dX12_move_14 rfl ?_
      refine j_ldc C (-1000000001) dX12_move_15 kc12_55 ?_
      refine j_callV (As := [.int (-1000000001)]) (rest := []) C vw12_errs (c_errs 1 (by decide) (by decide)) rRcv rfl (Nat.le_of_ble_eq_true rfl) dX12_move_17 (by decide) ?_
      rintro _ _ ⟨rfl, rfl⟩
      refine j_iret C dX12_move_20 ?_
      unfold sp_move
      rw [if_neg (fun h => c11 h.2)]
      exact ⟨rfl, EQ.rf⟩
theorem dX12_ears_0 : decode cX12_ears 0 = .ok (.iload_n 1, 1) := by decide +kernel
theorem dX12_ears_1 : decode cX12_ears 1 = .ok (.invokestatic 220, 3) := by decide +kernel
theorem dX12_ears_4 : decode cX12_ears 4 = .ok (.ifCond .ne 10, 3) := by decide +kernel
theorem dX12_ears_7 : decode cX12_ears 7 = .ok (.aload_n 0, 1) := by decide +kernel
theorem dX12_ears_8 : decode cX12_ears 8 = .ok (.ldc 55, 2) := by decide +kernel
theorem dX12_ears_10 : decode cX12_ears 10 = .ok (.invokevirtual 56, 3) := by decide +kernel
theorem dX12_ears_13 : decode cX12_ears 13 = .ok (.ireturn, 1) := by decide +kernel
theorem dX12_ears_14 : decode cX12_ears 14 = .ok (.aload_n 0, 1) := by decide +kernel
theorem dX12_ears_15 : decode cX12_ears 15 = .ok (.getfield 35, 3) := by decide +kernel
theorem dX12_ears_18 : decode cX12_ears 18 = .ok (.iload_n 1, 1) := by decide +kernel
theorem dX12_ears_19 : decode cX12_ears 19 = .ok (.iaload, 1) := by decide +kernel
theorem dX12_ears_20 : decode cX12_ears 20 = .ok (.ifCond .ne 10, 3) := by decide +kernel
theorem dX12_ears_23 : decode cX12_ears 23 = .ok (.aload_n 0, 1) := by decide +kernel
theorem dX12_ears_24 : decode cX12_ears 24 = .ok (.ldc 213, 2) := by decide +kernel
theorem dX12_ears_26 : decode cX12_ears 26 = .ok (.invokevirtual 56, 3) := by decide +kernel
theorem dX12_ears_29 : decode cX12_ears 29 = .ok (.ireturn, 1) := by decide +kernel
theorem dX12_ears_30 : decode cX12_ears 30 = .ok (.iconst 0, 1) := by decide +kernel
theorem dX12_ears_31 : decode cX12_ears 31 = .ok (.istore_n 2, 1) := by decide +kernel
theorem dX12_ears_32 : decode cX12_ears 32 = .ok (.iload_n 2, 1) := by decide +kernel
theorem dX12_ears_33 : decode cX12_ears 33 = .ok (.aload_n 0, 1) := by decide +kernel
theorem dX12_ears_34 : decode cX12_ears 34 = .ok (.getfield 38, 3) := by decide +kernel
theorem dX12_ears_37 : decode cX12_ears 37 = .ok (.iload_n 1, 1) := by decide +kernel
theorem dX12_ears_38 : decode cX12_ears 38 = .ok (.iaload, 1) := by decide +kernel
theorem dX12_ears_39 : decode cX12_ears 39 = .ok (.if_icmp .ge 58, 3) := by decide +kernel
theorem dX12_ears_42 : decode cX12_ears 42 = .ok (.aload_n 0, 1) := by decide +kernel
theorem dX12_ears_43 : decode cX12_ears 43 = .ok (.iload_n 2, 1) := by decide +kernel
theorem dX12_ears_44 : decode cX12_ears 44 = .ok (.invokevirtual 65, 3) := by decide +kernel
theorem dX12_ears_47 : decode cX12_ears 47 = .ok (.ifCond .eq 50, 3) := by decide +kernel
theorem dX12_ears_50 : decode cX12_ears 50 = .ok (.aload_n 0, 1) := by decide +kernel
theorem dX12_ears_51 : decode cX12_ears 51 = .ok (.getfield 41, 3) := by decide +kernel
theorem dX12_ears_54 : decode cX12_ears 54 = .ok (.bipush 40, 2) := by decide +kernel
theorem dX12_ears_56 : decode cX12_ears 56 = .ok (.iload_n 1, 1) := by decide +kernel
theorem dX12_ears_57 : decode cX12_ears 57 = .ok (.imul, 1) := by decide +kernel
theorem dX12_ears_58 : decode cX12_ears 58 = .ok (.iload_n 2, 1) := by decide +kernel
theorem dX12_ears_59 : decode cX12_ears 59 = .ok (.iadd, 1) := by decide +kernel
theorem dX12_ears_60 : decode cX12_ears 60 = .ok (.iaload, 1) := by decide +kernel
theorem dX12_ears_61 : decode cX12_ears 61 = .ok (.iconst 0, 1) := by decide +kernel
theorem dX12_ears_62 : decode cX12_ears 62 = .ok (.sipush 999, 3) := by decide +kernel
theorem dX12_ears_65 : decode cX12_ears 65 = .ok (.invokestatic 51, 3) := by decide +kernel
theorem dX12_ears_68 : decode cX12_ears 68 = .ok (.ifCond .eq 29, 3) := by decide +kernel
theorem dX12_ears_71 : decode cX12_ears 71 = .ok (.aload_n 0, 1) := by decide +kernel
theorem dX12_ears_72 : decode cX12_ears 72 = .ok (.getfield 7, 3) := by decide +kernel
theorem dX12_ears_75 : decode cX12_ears 75 = .ok (.bipush 10, 2) := by decide +kernel
theorem dX12_ears_77 : decode cX12_ears 77 = .ok (.iload_n 2, 1) := by decide +kernel
theorem dX12_ears_78 : decode cX12_ears 78 = .ok (.iadd, 1) := by decide +kernel
theorem dX12_ears_79 : decode cX12_ears 79 = .ok (.aload_n 0, 1) := by decide +kernel
theorem dX12_ears_80 : decode cX12_ears 80 = .ok (.getfield 41, 3) := by decide +kernel
theorem dX12_ears_83 : decode cX12_ears 83 = .ok (.bipush 40, 2) := by decide +kernel
theorem dX12_ears_85 : decode cX12_ears 85 = .ok (.iload_n 1, 1) := by decide +kernel
theorem dX12_ears_86 : decode cX12_ears 86 = .ok (.imul, 1) := by decide +kernel
theorem dX12_ears_87 : decode cX12_ears 87 = .ok (.iload_n 2, 1) := by decide +kernel
theorem dX12_ears_88 : decode cX12_ears 88 = .ok (.iadd, 1) := by decide +kernel
theorem dX12_ears_89 : decode cX12_ears 89 = .ok (.iaload, 1) := by decide +kernel
theorem dX12_ears_90 : decode cX12_ears 90 = .ok (.iastore, 1) := by decide +kernel
theorem dX12_ears_91 : decode cX12_ears 91 = .ok (.iinc 2 1, 3) := by decide +kernel
theorem dX12_ears_94 : decode cX12_ears 94 = .ok (.goto (-62), 3) := by decide +kernel
theorem dX12_ears_97 : decode cX12_ears 97 = .ok (.iload_n 2, 1) := by decide +kernel
theorem dX12_ears_98 : decode cX12_ears 98 = .ok (.ireturn, 1) := by decide +kernel
set_option maxHeartbeats 2000000 in
set_option maxRecDepth 20000 in
theorem c_ears {l : Launch} {D : va_G} {cI cG cW : ClassId} {o : Nat} {q : Nat → Nat} {V row kept tried bf fd pk bo so sh mv tr : Nat → Int32} {s : Int32} {nc np nw d nt nq : Nat} (hR : RKx row nc np nw d nt nq) (hSh : ∀ s, s < 4 → (bo s = nI 0 ∨ bo s = nI 8 ∨ bo s = nI 16 ∨ bo s = nI 32) ∧ ∃ n, n ≤ 40 ∧ so s = nI n) : Ci l yX12_ears cX12_ears 3 (some .int) 3 D (tyL cI cG cW) (wR cI o q) [.ref o, .int s] (sR V row kept tried bf fd pk bo so sh mv tr) (fun r τ => r = (sp_ears V row kept tried bf fd pk bo so sh mv tr s).1 ∧ EQ τ (sp_ears V row kept tried bf fd pk bo so sh mv tr s).2) := by
  refine Ci.of (by decide) (Nat.le_of_ble_eq_true rfl) ?_
  intro p_ e_ s_ m_ b_ M_ c_ A_ C
  replace C : Cx _ _ _ _ _ _ _ _ RX12 _ _ _ _ := C
  refine j_L [0, 1] [(0, .ref o), (1, .int s)] rfl ?_
  obtain ⟨hI, hW, ⟨e0, hd⟩, ⟨e4, ht⟩, ⟨e5, hq⟩, hB⟩ := id hR
  obtain ⟨⟨e2, hc2, hc10⟩, ⟨e3, hn6⟩, ⟨e8, hw8⟩, hP, hE, hLo, hT0, hT1⟩ := id hI
  have hIc := hI
  refine j_iload_n C 1 dX12_ears_0 rfl ?_
  refine j_callS (As := [.int s]) (rest := []) C vw12_isSheet (c_isSheet) rfl (Nat.le_of_ble_eq_true rfl) dX12_ears_1 (by decide) ?_
  rintro _ _ ⟨rfl, rfl⟩
  refine j_if_ne C 14 dX12_ears_4 (by decide) (fun c4 => ?_) (fun c4 => ?_)
  · replace c4 := bI_t c4
    obtain ⟨sn, gsn, hsn, rfl⟩ := inn_lit (a := 0) (b := 3) c4 (by omega)
    obtain ⟨hbo, zn, hzn, es⟩ := hSh sn (by omega)
    refine j_aload_n C 0 dX12_ears_14 rfl ?_
    refine rg C (v := .ref (q 21)) 21 (by decide) kf12_35 rfl dX12_ears_15 ?_
    refine j_iload_n C 1 dX12_ears_18 rfl ?_
    refine rl_bo C sn rfl (by omega) dX12_ears_19 ?_
    refine j_if_ne C 30 dX12_ears_20 (by decide) (fun c20 => ?_) (fun c20 => ?_)
    · skip
      refine j_iconst C (v := (nI 0)) dX12_ears_30 (by decide) ?_
      refine j_istore_n C [(2, .int (nI 0)), (0, .ref o), (1, .int (nI sn))] dX12_ears_31 (by decide) rfl ?_
      refine j_L [1, 2, 0] [(0, .ref o), (1, .int (nI sn)), (2, .int (nI 0))] rfl ?_
      refine j_loop (X := Nat) (fun (i : Nat) => i ≤ zn ∧ ∀ j, j < i → (j < tN (so sn) ∧ j < tN (row 2) ∧ inn (sh (40 * sn + j)) (nI 0) (nI 999))) (fun (i : Nat) => zn - i) (fun (i : Nat) => (sR V (earG row sh sn i) kept tried bf fd pk bo so sh mv tr)) (fun (i : Nat) => [(0, .ref o), (1, .int (nI sn)), (2, .int (nI i))]) (0) (⟨Nat.zero_le _, fun j h => absurd h (Nat.not_lt_zero _)⟩) (by rw [← earG_0]) rfl ?_
      rintro i ⟨hi, hpr⟩ ih
      try dsimp only at ih ⊢
      refine j_iload_n C 2 dX12_ears_32 rfl ?_
      refine j_aload_n C 0 dX12_ears_33 rfl ?_
      refine rg C (v := .ref (q 22)) 22 (by decide) kf12_38 rfl dX12_ears_34 ?_
      refine j_iload_n C 1 dX12_ears_37 rfl ?_
      refine rl_so C sn rfl (by omega) dX12_ears_38 ?_
      refine j_v (nI zn) es ?_
      refine j_icmp_ge C 97 dX12_ears_39 (by decide) (fun c39 => ?_) (fun c39 => ?_)
      · rw [nI_leI (by omega) (by omega)] at c39
        refine j_iload_n C 2 dX12_ears_97 rfl ?_
        refine j_iret C dX12_ears_98 ?_
        unfold sp_ears
        rw [if_pos c4, tN_nI (n := sn) (by omega)]
        rw [if_neg c20]
        have hls := lsF_at (P := earP row so sh sn) (f := 41) (k := 0) (i := i) (Nat.zero_le _) (by omega) (fun j _ hj h => h (hpr j hj)) (Or.inl (fun h => by have := h.1; rw [es, tN_nI (by omega)] at this; omega))
        rw [hls]
        exact ⟨rfl, EQ.rf⟩
      · rw [nI_leI (by omega) (by omega)] at c39
        refine j_aload_n C 0 dX12_ears_42 rfl ?_
        refine j_iload_n C 2 dX12_ears_43 rfl ?_
        refine j_callV (As := [.int (nI i)]) (rest := []) C vw12_isCell (c_isCell) rRcv rfl (Nat.le_of_ble_eq_true rfl) dX12_ears_44 (by decide) ?_
        rintro _ _ ⟨rfl, rfl⟩
        refine j_if_eq C 97 dX12_ears_47 (by decide) (fun c47 => ?_) (fun c47 => ?_)
        · replace c47 := bI_f c47
          refine j_iload_n C 2 dX12_ears_97 rfl ?_
          refine j_iret C dX12_ears_98 ?_
          unfold sp_ears
          rw [if_pos c4, tN_nI (n := sn) (by omega)]
          rw [if_neg c20]
          have hls := lsF_at (P := earP row so sh sn) (f := 41) (k := 0) (i := i) (Nat.zero_le _) (by omega) (fun j _ hj h => h (hpr j hj)) (Or.inl (fun h => c47 (by have h1 := h.2.1; rw [e2, tN_nI (by omega)] at h1; rw [earG_2, e2, show (1 : Int32) = nI 1 from rfl, pk_sub (by omega)]; exact ⟨nI_pos' (by omega), nI_le (by omega) (by omega)⟩)))
          rw [hls]
          exact ⟨rfl, EQ.rf⟩
        · replace c47 := bI_t c47
          refine j_aload_n C 0 dX12_ears_50 rfl ?_
          refine rg C (v := .ref (q 23)) 23 (by decide) kf12_41 rfl dX12_ears_51 ?_
          refine j_bipush C (v := (nI 40)) dX12_ears_54 (by decide) ?_
          refine j_iload_n C 1 dX12_ears_56 rfl ?_
          refine j_imulN C dX12_ears_57 ?_
          refine j_iload_n C 2 dX12_ears_58 rfl ?_
          refine j_iaddN C dX12_ears_59 ?_
          refine rl_sh C (40 * sn + i) rfl (by omega) dX12_ears_60 ?_
          refine j_iconst C (v := (nI 0)) dX12_ears_61 (by decide) ?_
          refine j_sipush C (v := (nI 999)) dX12_ears_62 (by decide) ?_
          refine j_callS (As := [.int (sh (40 * sn + i)), .int (nI 0), .int (nI 999)]) (rest := []) C vw12_in (c_in) rfl (Nat.le_of_ble_eq_true rfl) dX12_ears_65 (by decide) ?_
          rintro _ _ ⟨rfl, rfl⟩
          refine j_if_eq C 97 dX12_ears_68 (by decide) (fun c68 => ?_) (fun c68 => ?_)
          · replace c68 := bI_f c68
            refine j_iload_n C 2 dX12_ears_97 rfl ?_
            refine j_iret C dX12_ears_98 ?_
            unfold sp_ears
            rw [if_pos c4, tN_nI (n := sn) (by omega)]
            rw [if_neg c20]
            have hls := lsF_at (P := earP row so sh sn) (f := 41) (k := 0) (i := i) (Nat.zero_le _) (by omega) (fun j _ hj h => h (hpr j hj)) (Or.inl (fun h => c68 h.2.2))
            rw [hls]
            exact ⟨rfl, EQ.rf⟩
          · replace c68 := bI_t c68
            refine j_aload_n C 0 dX12_ears_71 rfl ?_
            refine rg C (v := .ref (q 0)) 0 (by decide) kf12_7 rfl dX12_ears_72 ?_
            refine j_bipush C (v := (nI 10)) dX12_ears_75 (by decide) ?_
            refine j_iload_n C 2 dX12_ears_77 rfl ?_
            refine j_iaddN C dX12_ears_78 ?_
            refine j_aload_n C 0 dX12_ears_79 rfl ?_
            refine rg C (v := .ref (q 23)) 23 (by decide) kf12_41 rfl dX12_ears_80 ?_
            refine j_bipush C (v := (nI 40)) dX12_ears_83 (by decide) ?_
            refine j_iload_n C 1 dX12_ears_85 rfl ?_
            refine j_imulN C dX12_ears_86 ?_
            refine j_iload_n C 2 dX12_ears_87 rfl ?_
            refine j_iaddN C dX12_ears_88 ?_
            refine rl_sh C (40 * sn + i) rfl (by omega) dX12_ears_89 ?_
            refine rs_row C (10 + i) rfl (by omega) dX12_ears_90 ?_
            refine j_iinc C (v := (nI (i + 1))) 2 [(2, .int (nI (i + 1))), (0, .ref o), (1, .int (nI sn))] dX12_ears_91 rfl (nI_1 _) (by decide) rfl ?_
            refine j_goto C 32 dX12_ears_94 (by decide) ?_
            refine j_L [1, 2, 0] [(0, .ref o), (1, .int (nI sn)), (2, .int (nI (i + 1)))] rfl ?_
            rw [earG_s]
            rw [earG_2] at c47
            obtain ⟨i2, hi2, ei2⟩ := inn_row c47 e2 (by omega)
            rw [nI_eq (by omega) (by omega)] at ei2
            subst ei2
            refine ih (i + 1) ⟨by omega, fun j hj => ?_⟩ (by omega)
            by_cases ej : j = i
            · subst ej; exact ⟨by rw [es, tN_nI (by omega)]; omega, by rw [e2, tN_nI (by omega)]; omega, c68⟩
            · exact hpr j (by omega)
    · skip
      refine j_aload_n C 0 dX12_ears_23 rfl ?_
      refine j_ldc C (-1000000002) dX12_ears_24 kc12_213 ?_
      refine j_callV (As := [.int (-1000000002)]) (rest := []) C vw12_errs (c_errs 2 (by decide) (by decide)) rRcv rfl (Nat.le_of_ble_eq_true rfl) dX12_ears_26 (by decide) ?_
      rintro _ _ ⟨rfl, rfl⟩
      refine j_iret C dX12_ears_29 ?_
      unfold sp_ears
      rw [if_pos c4, tN_nI (n := sn) (by omega)]
      rw [if_pos c20]
      exact ⟨rfl, EQ.rf⟩
  · replace c4 := bI_f c4
    refine j_aload_n C 0 dX12_ears_7 rfl ?_
    refine j_ldc C (-1000000001) dX12_ears_8 kc12_55 ?_
    refine j_callV (As := [.int (-1000000001)]) (rest := []) C vw12_errs (c_errs 1 (by decide) (by decide)) rRcv rfl (Nat.le_of_ble_eq_true rfl) dX12_ears_10 (by decide) ?_
    rintro _ _ ⟨rfl, rfl⟩
    refine j_iret C dX12_ears_13 ?_
    unfold sp_ears
    rw [if_neg c4]
    exact ⟨rfl, EQ.rf⟩
theorem dX12_judge_0 : decode cX12_judge 0 = .ok (.iload_n 1, 1) := by decide +kernel
theorem dX12_judge_1 : decode cX12_judge 1 = .ok (.invokestatic 220, 3) := by decide +kernel
theorem dX12_judge_4 : decode cX12_judge 4 = .ok (.ifCond .ne 10, 3) := by decide +kernel
theorem dX12_judge_7 : decode cX12_judge 7 = .ok (.aload_n 0, 1) := by decide +kernel
theorem dX12_judge_8 : decode cX12_judge 8 = .ok (.ldc 55, 2) := by decide +kernel
theorem dX12_judge_10 : decode cX12_judge 10 = .ok (.invokevirtual 56, 3) := by decide +kernel
theorem dX12_judge_13 : decode cX12_judge 13 = .ok (.ireturn, 1) := by decide +kernel
theorem dX12_judge_14 : decode cX12_judge 14 = .ok (.aload_n 0, 1) := by decide +kernel
theorem dX12_judge_15 : decode cX12_judge 15 = .ok (.getfield 35, 3) := by decide +kernel
theorem dX12_judge_18 : decode cX12_judge 18 = .ok (.iload_n 1, 1) := by decide +kernel
theorem dX12_judge_19 : decode cX12_judge 19 = .ok (.iaload, 1) := by decide +kernel
theorem dX12_judge_20 : decode cX12_judge 20 = .ok (.ifCond .ne 10, 3) := by decide +kernel
theorem dX12_judge_23 : decode cX12_judge 23 = .ok (.aload_n 0, 1) := by decide +kernel
theorem dX12_judge_24 : decode cX12_judge 24 = .ok (.ldc 213, 2) := by decide +kernel
theorem dX12_judge_26 : decode cX12_judge 26 = .ok (.invokevirtual 56, 3) := by decide +kernel
theorem dX12_judge_29 : decode cX12_judge 29 = .ok (.ireturn, 1) := by decide +kernel
theorem dX12_judge_30 : decode cX12_judge 30 = .ok (.iconst 0, 1) := by decide +kernel
theorem dX12_judge_31 : decode cX12_judge 31 = .ok (.istore_n 2, 1) := by decide +kernel
theorem dX12_judge_32 : decode cX12_judge 32 = .ok (.iload_n 2, 1) := by decide +kernel
theorem dX12_judge_33 : decode cX12_judge 33 = .ok (.aload_n 0, 1) := by decide +kernel
theorem dX12_judge_34 : decode cX12_judge 34 = .ok (.getfield 7, 3) := by decide +kernel
theorem dX12_judge_37 : decode cX12_judge 37 = .ok (.iconst 3, 1) := by decide +kernel
theorem dX12_judge_38 : decode cX12_judge 38 = .ok (.iaload, 1) := by decide +kernel
theorem dX12_judge_39 : decode cX12_judge 39 = .ok (.if_icmp .ge 39, 3) := by decide +kernel
theorem dX12_judge_42 : decode cX12_judge 42 = .ok (.iload_n 2, 1) := by decide +kernel
theorem dX12_judge_43 : decode cX12_judge 43 = .ok (.aload_n 0, 1) := by decide +kernel
theorem dX12_judge_44 : decode cX12_judge 44 = .ok (.getfield 38, 3) := by decide +kernel
theorem dX12_judge_47 : decode cX12_judge 47 = .ok (.iload_n 1, 1) := by decide +kernel
theorem dX12_judge_48 : decode cX12_judge 48 = .ok (.iaload, 1) := by decide +kernel
theorem dX12_judge_49 : decode cX12_judge 49 = .ok (.if_icmp .ge 29, 3) := by decide +kernel
theorem dX12_judge_52 : decode cX12_judge 52 = .ok (.aload_n 0, 1) := by decide +kernel
theorem dX12_judge_53 : decode cX12_judge 53 = .ok (.getfield 41, 3) := by decide +kernel
theorem dX12_judge_56 : decode cX12_judge 56 = .ok (.bipush 40, 2) := by decide +kernel
theorem dX12_judge_58 : decode cX12_judge 58 = .ok (.iload_n 1, 1) := by decide +kernel
theorem dX12_judge_59 : decode cX12_judge 59 = .ok (.imul, 1) := by decide +kernel
theorem dX12_judge_60 : decode cX12_judge 60 = .ok (.iload_n 2, 1) := by decide +kernel
theorem dX12_judge_61 : decode cX12_judge 61 = .ok (.iadd, 1) := by decide +kernel
theorem dX12_judge_62 : decode cX12_judge 62 = .ok (.iaload, 1) := by decide +kernel
theorem dX12_judge_63 : decode cX12_judge 63 = .ok (.aload_n 0, 1) := by decide +kernel
theorem dX12_judge_64 : decode cX12_judge 64 = .ok (.iload_n 2, 1) := by decide +kernel
theorem dX12_judge_65 : decode cX12_judge 65 = .ok (.iconst 4, 1) := by decide +kernel
theorem dX12_judge_66 : decode cX12_judge 66 = .ok (.invokevirtual 69, 3) := by decide +kernel
theorem dX12_judge_69 : decode cX12_judge 69 = .ok (.if_icmp .ne 9, 3) := by decide +kernel
theorem dX12_judge_72 : decode cX12_judge 72 = .ok (.iinc 2 1, 3) := by decide +kernel
theorem dX12_judge_75 : decode cX12_judge 75 = .ok (.goto (-43), 3) := by decide +kernel
theorem dX12_judge_78 : decode cX12_judge 78 = .ok (.iload_n 2, 1) := by decide +kernel
theorem dX12_judge_79 : decode cX12_judge 79 = .ok (.aload_n 0, 1) := by decide +kernel
theorem dX12_judge_80 : decode cX12_judge 80 = .ok (.getfield 7, 3) := by decide +kernel
theorem dX12_judge_83 : decode cX12_judge 83 = .ok (.iconst 3, 1) := by decide +kernel
theorem dX12_judge_84 : decode cX12_judge 84 = .ok (.iaload, 1) := by decide +kernel
theorem dX12_judge_85 : decode cX12_judge 85 = .ok (.if_icmp .ne 17, 3) := by decide +kernel
theorem dX12_judge_88 : decode cX12_judge 88 = .ok (.iload_n 2, 1) := by decide +kernel
theorem dX12_judge_89 : decode cX12_judge 89 = .ok (.aload_n 0, 1) := by decide +kernel
theorem dX12_judge_90 : decode cX12_judge 90 = .ok (.getfield 38, 3) := by decide +kernel
theorem dX12_judge_93 : decode cX12_judge 93 = .ok (.iload_n 1, 1) := by decide +kernel
theorem dX12_judge_94 : decode cX12_judge 94 = .ok (.iaload, 1) := by decide +kernel
theorem dX12_judge_95 : decode cX12_judge 95 = .ok (.if_icmp .ne 7, 3) := by decide +kernel
theorem dX12_judge_98 : decode cX12_judge 98 = .ok (.iconst (-1), 1) := by decide +kernel
theorem dX12_judge_99 : decode cX12_judge 99 = .ok (.goto 4, 3) := by decide +kernel
theorem dX12_judge_102 : decode cX12_judge 102 = .ok (.iload_n 2, 1) := by decide +kernel
theorem dX12_judge_103 : decode cX12_judge 103 = .ok (.ireturn, 1) := by decide +kernel
set_option maxHeartbeats 2000000 in
set_option maxRecDepth 20000 in
theorem c_judge {l : Launch} {D : va_G} {cI cG cW : ClassId} {o : Nat} {q : Nat → Nat} {V row kept tried bf fd pk bo so sh mv tr : Nat → Int32} {s : Int32} {nc np nw d nt nq : Nat} (hR : RKx row nc np nw d nt nq) (hSh : ∀ s, s < 4 → (bo s = nI 0 ∨ bo s = nI 8 ∨ bo s = nI 16 ∨ bo s = nI 32) ∧ ∃ n, n ≤ 40 ∧ so s = nI n) : Ci l yX12_judge cX12_judge 3 (some .int) 3 D (tyL cI cG cW) (wR cI o q) [.ref o, .int s] (sR V row kept tried bf fd pk bo so sh mv tr) (fun r τ => r = (sp_judge V row kept tried bf fd pk bo so sh mv tr s).1 ∧ EQ τ (sp_judge V row kept tried bf fd pk bo so sh mv tr s).2) := by
  refine Ci.of (by decide) (Nat.le_of_ble_eq_true rfl) ?_
  intro p_ e_ s_ m_ b_ M_ c_ A_ C
  replace C : Cx _ _ _ _ _ _ _ _ RX12 _ _ _ _ := C
  refine j_L [0, 1] [(0, .ref o), (1, .int s)] rfl ?_
  obtain ⟨hI, hW, ⟨e0, hd⟩, ⟨e4, ht⟩, ⟨e5, hq⟩, hB⟩ := id hR
  obtain ⟨⟨e2, hc2, hc10⟩, ⟨e3, hn6⟩, ⟨e8, hw8⟩, hP, hE, hLo, hT0, hT1⟩ := id hI
  have hIc := hI
  refine j_iload_n C 1 dX12_judge_0 rfl ?_
  refine j_callS (As := [.int s]) (rest := []) C vw12_isSheet (c_isSheet) rfl (Nat.le_of_ble_eq_true rfl) dX12_judge_1 (by decide) ?_
  rintro _ _ ⟨rfl, rfl⟩
  refine j_if_ne C 14 dX12_judge_4 (by decide) (fun c4 => ?_) (fun c4 => ?_)
  · replace c4 := bI_t c4
    obtain ⟨sn, gsn, hsn, rfl⟩ := inn_lit (a := 0) (b := 3) c4 (by omega)
    obtain ⟨hbo, zn, hzn, es⟩ := hSh sn (by omega)
    refine j_aload_n C 0 dX12_judge_14 rfl ?_
    refine rg C (v := .ref (q 21)) 21 (by decide) kf12_35 rfl dX12_judge_15 ?_
    refine j_iload_n C 1 dX12_judge_18 rfl ?_
    refine rl_bo C sn rfl (by omega) dX12_judge_19 ?_
    refine j_if_ne C 30 dX12_judge_20 (by decide) (fun c20 => ?_) (fun c20 => ?_)
    · skip
      refine j_iconst C (v := (nI 0)) dX12_judge_30 (by decide) ?_
      refine j_istore_n C [(2, .int (nI 0)), (0, .ref o), (1, .int (nI sn))] dX12_judge_31 (by decide) rfl ?_
      refine j_L [1, 2, 0] [(0, .ref o), (1, .int (nI sn)), (2, .int (nI 0))] rfl ?_
      refine j_loop (X := Nat) (fun (i : Nat) => i ≤ np ∧ ∀ j, j < i → (j < tN (row 3) ∧ j < tN (so sn) ∧ sh (40 * sn + j) = row (30 + 6 * j + 4))) (fun (i : Nat) => np - i) (fun (i : Nat) => (sR V row kept tried bf fd pk bo so sh mv tr)) (fun (i : Nat) => [(0, .ref o), (1, .int (nI sn)), (2, .int (nI i))]) (0) (⟨Nat.zero_le _, fun j h => absurd h (Nat.not_lt_zero _)⟩) rfl rfl ?_
      rintro i ⟨hi, hpr⟩ ih
      try dsimp only at ih ⊢
      refine j_iload_n C 2 dX12_judge_32 rfl ?_
      refine j_aload_n C 0 dX12_judge_33 rfl ?_
      refine rg C (v := .ref (q 0)) 0 (by decide) kf12_7 rfl dX12_judge_34 ?_
      refine j_iconst C (v := (nI 3)) dX12_judge_37 (by decide) ?_
      refine rl_row C 3 rfl (by omega) dX12_judge_38 ?_
      refine j_v (nI np) e3 ?_
      refine j_icmp_ge C 78 dX12_judge_39 (by decide) (fun c39 => ?_) (fun c39 => ?_)
      · rw [nI_leI (by omega) (by omega)] at c39
        refine j_iload_n C 2 dX12_judge_78 rfl ?_
        refine j_aload_n C 0 dX12_judge_79 rfl ?_
        refine rg C (v := .ref (q 0)) 0 (by decide) kf12_7 rfl dX12_judge_80 ?_
        refine j_iconst C (v := (nI 3)) dX12_judge_83 (by decide) ?_
        refine rl_row C 3 rfl (by omega) dX12_judge_84 ?_
        refine j_v (nI np) e3 ?_
        refine j_icmp_ne C 102 dX12_judge_85 (by decide) (fun c85 => ?_) (fun c85 => ?_)
        · rw [nI_eq (by omega) (by omega)] at c85
          refine j_iload_n C 2 dX12_judge_102 rfl ?_
          refine j_iret C dX12_judge_103 ?_
          unfold sp_judge
          rw [if_pos c4, tN_nI (n := sn) (by omega)]
          rw [if_neg c20]
          have hls := lsF_at (P := judP row so sh sn) (f := 7) (k := 0) (i := i) (Nat.zero_le _) (by omega) (fun j _ hj h => h (hpr j hj)) (Or.inl (fun h => by have := h.1; rw [e3, tN_nI (by omega)] at this; omega))
          rw [hls, e3, es, tN_nI (by omega), tN_nI (by omega)]
          rw [if_neg (by omega)]
          exact ⟨rfl, EQ.rf⟩
        · rw [nI_eq (by omega) (by omega)] at c85
          refine j_iload_n C 2 dX12_judge_88 rfl ?_
          refine j_aload_n C 0 dX12_judge_89 rfl ?_
          refine rg C (v := .ref (q 22)) 22 (by decide) kf12_38 rfl dX12_judge_90 ?_
          refine j_iload_n C 1 dX12_judge_93 rfl ?_
          refine rl_so C sn rfl (by omega) dX12_judge_94 ?_
          refine j_v (nI zn) es ?_
          refine j_icmp_ne C 102 dX12_judge_95 (by decide) (fun c95 => ?_) (fun c95 => ?_)
          · rw [nI_eq (by omega) (by omega)] at c95
            refine j_iload_n C 2 dX12_judge_102 rfl ?_
            refine j_iret C dX12_judge_103 ?_
            unfold sp_judge
            rw [if_pos c4, tN_nI (n := sn) (by omega)]
            rw [if_neg c20]
            have hls := lsF_at (P := judP row so sh sn) (f := 7) (k := 0) (i := i) (Nat.zero_le _) (by omega) (fun j _ hj h => h (hpr j hj)) (Or.inl (fun h => by have := h.1; rw [e3, tN_nI (by omega)] at this; omega))
            rw [hls, e3, es, tN_nI (by omega), tN_nI (by omega)]
            rw [if_neg (by omega)]
            exact ⟨rfl, EQ.rf⟩
          · rw [nI_eq (by omega) (by omega)] at c95
            refine j_iconst C (v := (-1)) dX12_judge_98 (by decide) ?_
            refine j_goto C 103 dX12_judge_99 (by decide) ?_
            refine j_iret C dX12_judge_103 ?_
            unfold sp_judge
            rw [if_pos c4, tN_nI (n := sn) (by omega)]
            rw [if_neg c20]
            have hls := lsF_at (P := judP row so sh sn) (f := 7) (k := 0) (i := i) (Nat.zero_le _) (by omega) (fun j _ hj h => h (hpr j hj)) (Or.inl (fun h => by have := h.1; rw [e3, tN_nI (by omega)] at this; omega))
            rw [hls, e3, es, tN_nI (by omega), tN_nI (by omega)]
            rw [if_pos ⟨by omega, by omega⟩]
            exact ⟨rfl, EQ.rf⟩
      · rw [nI_leI (by omega) (by omega)] at c39
        refine j_iload_n C 2 dX12_judge_42 rfl ?_
        refine j_aload_n C 0 dX12_judge_43 rfl ?_
        refine rg C (v := .ref (q 22)) 22 (by decide) kf12_38 rfl dX12_judge_44 ?_
        refine j_iload_n C 1 dX12_judge_47 rfl ?_
        refine rl_so C sn rfl (by omega) dX12_judge_48 ?_
        refine j_v (nI zn) es ?_
        refine j_icmp_ge C 78 dX12_judge_49 (by decide) (fun c49 => ?_) (fun c49 => ?_)
        · rw [nI_leI (by omega) (by omega)] at c49
          refine j_iload_n C 2 dX12_judge_78 rfl ?_
          refine j_aload_n C 0 dX12_judge_79 rfl ?_
          refine rg C (v := .ref (q 0)) 0 (by decide) kf12_7 rfl dX12_judge_80 ?_
          refine j_iconst C (v := (nI 3)) dX12_judge_83 (by decide) ?_
          refine rl_row C 3 rfl (by omega) dX12_judge_84 ?_
          refine j_v (nI np) e3 ?_
          refine j_icmp_ne C 102 dX12_judge_85 (by decide) (fun c85 => ?_) (fun c85 => ?_)
          · rw [nI_eq (by omega) (by omega)] at c85
            refine j_iload_n C 2 dX12_judge_102 rfl ?_
            refine j_iret C dX12_judge_103 ?_
            unfold sp_judge
            rw [if_pos c4, tN_nI (n := sn) (by omega)]
            rw [if_neg c20]
            have hls := lsF_at (P := judP row so sh sn) (f := 7) (k := 0) (i := i) (Nat.zero_le _) (by omega) (fun j _ hj h => h (hpr j hj)) (Or.inl (fun h => by have := h.2.1; rw [es, tN_nI (by omega)] at this; omega))
            rw [hls, e3, es, tN_nI (by omega), tN_nI (by omega)]
            rw [if_neg (by omega)]
            exact ⟨rfl, EQ.rf⟩
          · rw [nI_eq (by omega) (by omega)] at c85
            refine j_iload_n C 2 dX12_judge_88 rfl ?_
            refine j_aload_n C 0 dX12_judge_89 rfl ?_
            refine rg C (v := .ref (q 22)) 22 (by decide) kf12_38 rfl dX12_judge_90 ?_
            refine j_iload_n C 1 dX12_judge_93 rfl ?_
            refine rl_so C sn rfl (by omega) dX12_judge_94 ?_
            refine j_v (nI zn) es ?_
            refine j_icmp_ne C 102 dX12_judge_95 (by decide) (fun c95 => ?_) (fun c95 => ?_)
            · rw [nI_eq (by omega) (by omega)] at c95
              refine j_iload_n C 2 dX12_judge_102 rfl ?_
              refine j_iret C dX12_judge_103 ?_
              unfold sp_judge
              rw [if_pos c4, tN_nI (n := sn) (by omega)]
              rw [if_neg c20]
              have hls := lsF_at (P := judP row so sh sn) (f := 7) (k := 0) (i := i) (Nat.zero_le _) (by omega) (fun j _ hj h => h (hpr j hj)) (Or.inl (fun h => by have := h.2.1; rw [es, tN_nI (by omega)] at this; omega))
              rw [hls, e3, es, tN_nI (by omega), tN_nI (by omega)]
              rw [if_neg (by omega)]
              exact ⟨rfl, EQ.rf⟩
            · rw [nI_eq (by omega) (by omega)] at c95
              refine j_iconst C (v := (-1)) dX12_judge_98 (by decide) ?_
              refine j_goto C 103 dX12_judge_99 (by decide) ?_
              refine j_iret C dX12_judge_103 ?_
              unfold sp_judge
              rw [if_pos c4, tN_nI (n := sn) (by omega)]
              rw [if_neg c20]
              have hls := lsF_at (P := judP row so sh sn) (f := 7) (k := 0) (i := i) (Nat.zero_le _) (by omega) (fun j _ hj h => h (hpr j hj)) (Or.inl (fun h => by have := h.2.1; rw [es, tN_nI (by omega)] at this; omega))
              rw [hls, e3, es, tN_nI (by omega), tN_nI (by omega)]
              rw [if_pos ⟨by omega, by omega⟩]
              exact ⟨rfl, EQ.rf⟩
        · rw [nI_leI (by omega) (by omega)] at c49
          refine j_aload_n C 0 dX12_judge_52 rfl ?_
          refine rg C (v := .ref (q 23)) 23 (by decide) kf12_41 rfl dX12_judge_53 ?_
          refine j_bipush C (v := (nI 40)) dX12_judge_56 (by decide) ?_
          refine j_iload_n C 1 dX12_judge_58 rfl ?_
          refine j_imulN C dX12_judge_59 ?_
          refine j_iload_n C 2 dX12_judge_60 rfl ?_
          refine j_iaddN C dX12_judge_61 ?_
          refine rl_sh C (40 * sn + i) rfl (by omega) dX12_judge_62 ?_
          refine j_aload_n C 0 dX12_judge_63 rfl ?_
          refine j_iload_n C 2 dX12_judge_64 rfl ?_
          refine j_iconst C (v := (nI 4)) dX12_judge_65 (by decide) ?_
          refine j_callV (As := [.int (nI i), .int (nI 4)]) (rest := [.int (sh (40 * sn + i))]) C vw12_its (c_its i 4 (by omega)) rRcv rfl (Nat.le_of_ble_eq_true rfl) dX12_judge_66 (by decide) ?_
          rintro _ _ ⟨rfl, rfl⟩
          refine j_icmp_ne C 78 dX12_judge_69 (by decide) (fun c69 => ?_) (fun c69 => ?_)
          · skip
            refine j_iload_n C 2 dX12_judge_78 rfl ?_
            refine j_aload_n C 0 dX12_judge_79 rfl ?_
            refine rg C (v := .ref (q 0)) 0 (by decide) kf12_7 rfl dX12_judge_80 ?_
            refine j_iconst C (v := (nI 3)) dX12_judge_83 (by decide) ?_
            refine rl_row C 3 rfl (by omega) dX12_judge_84 ?_
            refine j_v (nI np) e3 ?_
            refine j_icmp_ne C 102 dX12_judge_85 (by decide) (fun c85 => ?_) (fun c85 => ?_)
            · rw [nI_eq (by omega) (by omega)] at c85
              refine j_iload_n C 2 dX12_judge_102 rfl ?_
              refine j_iret C dX12_judge_103 ?_
              unfold sp_judge
              rw [if_pos c4, tN_nI (n := sn) (by omega)]
              rw [if_neg c20]
              have hls := lsF_at (P := judP row so sh sn) (f := 7) (k := 0) (i := i) (Nat.zero_le _) (by omega) (fun j _ hj h => h (hpr j hj)) (Or.inl (fun h => c69 h.2.2))
              rw [hls, e3, es, tN_nI (by omega), tN_nI (by omega)]
              rw [if_neg (by omega)]
              exact ⟨rfl, EQ.rf⟩
            · rw [nI_eq (by omega) (by omega)] at c85
              refine j_iload_n C 2 dX12_judge_88 rfl ?_
              refine j_aload_n C 0 dX12_judge_89 rfl ?_
              refine rg C (v := .ref (q 22)) 22 (by decide) kf12_38 rfl dX12_judge_90 ?_
              refine j_iload_n C 1 dX12_judge_93 rfl ?_
              refine rl_so C sn rfl (by omega) dX12_judge_94 ?_
              refine j_v (nI zn) es ?_
              refine j_icmp_ne C 102 dX12_judge_95 (by decide) (fun c95 => ?_) (fun c95 => ?_)
              · rw [nI_eq (by omega) (by omega)] at c95
                refine j_iload_n C 2 dX12_judge_102 rfl ?_
                refine j_iret C dX12_judge_103 ?_
                unfold sp_judge
                rw [if_pos c4, tN_nI (n := sn) (by omega)]
                rw [if_neg c20]
                have hls := lsF_at (P := judP row so sh sn) (f := 7) (k := 0) (i := i) (Nat.zero_le _) (by omega) (fun j _ hj h => h (hpr j hj)) (Or.inl (fun h => c69 h.2.2))
                rw [hls, e3, es, tN_nI (by omega), tN_nI (by omega)]
                rw [if_neg (by omega)]
                exact ⟨rfl, EQ.rf⟩
              · rw [nI_eq (by omega) (by omega)] at c95
                refine j_iconst C (v := (-1)) dX12_judge_98 (by decide) ?_
                refine j_goto C 103 dX12_judge_99 (by decide) ?_
                refine j_iret C dX12_judge_103 ?_
                unfold sp_judge
                rw [if_pos c4, tN_nI (n := sn) (by omega)]
                rw [if_neg c20]
                have hls := lsF_at (P := judP row so sh sn) (f := 7) (k := 0) (i := i) (Nat.zero_le _) (by omega) (fun j _ hj h => h (hpr j hj)) (Or.inl (fun h => c69 h.2.2))
                rw [hls, e3, es, tN_nI (by omega), tN_nI (by omega)]
                rw [if_pos ⟨by omega, by omega⟩]
                exact ⟨rfl, EQ.rf⟩
          · skip
            refine j_iinc C (v := (nI (i + 1))) 2 [(2, .int (nI (i + 1))), (0, .ref o), (1, .int (nI sn))] dX12_judge_72 rfl (nI_1 _) (by decide) rfl ?_
            refine j_goto C 32 dX12_judge_75 (by decide) ?_
            refine j_L [1, 2, 0] [(0, .ref o), (1, .int (nI sn)), (2, .int (nI (i + 1)))] rfl ?_
            refine ih (i + 1) ⟨by omega, fun j hj => ?_⟩ (by omega)
            by_cases ej : j = i
            · subst ej; exact ⟨by rw [e3, tN_nI (by omega)]; omega, by rw [es, tN_nI (by omega)]; omega, c69⟩
            · exact hpr j (by omega)
    · skip
      refine j_aload_n C 0 dX12_judge_23 rfl ?_
      refine j_ldc C (-1000000002) dX12_judge_24 kc12_213 ?_
      refine j_callV (As := [.int (-1000000002)]) (rest := []) C vw12_errs (c_errs 2 (by decide) (by decide)) rRcv rfl (Nat.le_of_ble_eq_true rfl) dX12_judge_26 (by decide) ?_
      rintro _ _ ⟨rfl, rfl⟩
      refine j_iret C dX12_judge_29 ?_
      unfold sp_judge
      rw [if_pos c4, tN_nI (n := sn) (by omega)]
      rw [if_pos c20]
      exact ⟨rfl, EQ.rf⟩
  · replace c4 := bI_f c4
    refine j_aload_n C 0 dX12_judge_7 rfl ?_
    refine j_ldc C (-1000000001) dX12_judge_8 kc12_55 ?_
    refine j_callV (As := [.int (-1000000001)]) (rest := []) C vw12_errs (c_errs 1 (by decide) (by decide)) rRcv rfl (Nat.le_of_ble_eq_true rfl) dX12_judge_10 (by decide) ?_
    rintro _ _ ⟨rfl, rfl⟩
    refine j_iret C dX12_judge_13 ?_
    unfold sp_judge
    rw [if_neg c4]
    exact ⟨rfl, EQ.rf⟩
theorem dX12_image_0 : decode cX12_image 0 = .ok (.aload_n 0, 1) := by decide +kernel
theorem dX12_image_1 : decode cX12_image 1 = .ok (.aload_n 0, 1) := by decide +kernel
theorem dX12_image_2 : decode cX12_image 2 = .ok (.getfield 7, 3) := by decide +kernel
theorem dX12_image_5 : decode cX12_image 5 = .ok (.aload_n 0, 1) := by decide +kernel
theorem dX12_image_6 : decode cX12_image 6 = .ok (.getfield 13, 3) := by decide +kernel
theorem dX12_image_9 : decode cX12_image 9 = .ok (.invokevirtual 171, 3) := by decide +kernel
theorem dX12_image_12 : decode cX12_image 12 = .ok (.aload_n 0, 1) := by decide +kernel
theorem dX12_image_13 : decode cX12_image 13 = .ok (.iconst 1, 1) := by decide +kernel
theorem dX12_image_14 : decode cX12_image 14 = .ok (.putfield 256, 3) := by decide +kernel
theorem dX12_image_17 : decode cX12_image 17 = .ok (.aload_n 0, 1) := by decide +kernel
theorem dX12_image_18 : decode cX12_image 18 = .ok (.dup, 1) := by decide +kernel
theorem dX12_image_19 : decode cX12_image 19 = .ok (.getfield 259, 3) := by decide +kernel
theorem dX12_image_22 : decode cX12_image 22 = .ok (.iconst 1, 1) := by decide +kernel
theorem dX12_image_23 : decode cX12_image 23 = .ok (.iadd, 1) := by decide +kernel
theorem dX12_image_24 : decode cX12_image 24 = .ok (.putfield 259, 3) := by decide +kernel
theorem dX12_image_27 : decode cX12_image 27 = .ok (.aload_n 0, 1) := by decide +kernel
theorem dX12_image_28 : decode cX12_image 28 = .ok (.getfield 259, 3) := by decide +kernel
theorem dX12_image_31 : decode cX12_image 31 = .ok (.ireturn, 1) := by decide +kernel
set_option maxHeartbeats 2000000 in
set_option maxRecDepth 20000 in
theorem c_image {l : Launch} {D : va_G} {cI cG cW : ClassId} {o : Nat} {q : Nat → Nat} {V row kept tried bf fd pk bo so sh mv tr : Nat → Int32} {nc np nw d nt nq : Nat} (hR : RKx row nc np nw d nt nq) : Ci l yX12_image cX12_image 1 (some .int) 3 D (tyL cI cG cW) (wR cI o q) [.ref o] (sR V row kept tried bf fd pk bo so sh mv tr) (fun r τ => r = (sp_image V row kept tried bf fd pk bo so sh mv tr ).1 ∧ EQ τ (sp_image V row kept tried bf fd pk bo so sh mv tr ).2) := by
  refine Ci.of (by decide) (Nat.le_of_ble_eq_true rfl) ?_
  intro p_ e_ s_ m_ b_ M_ c_ A_ C
  replace C : Cx _ _ _ _ _ _ _ _ RX12 _ _ _ _ := C
  refine j_L [0] [(0, .ref o)] rfl ?_
  obtain ⟨hI, hW, ⟨e0, hd⟩, ⟨e4, ht⟩, ⟨e5, hq⟩, hB⟩ := id hR
  obtain ⟨⟨e2, hc2, hc10⟩, ⟨e3, hn6⟩, ⟨e8, hw8⟩, hP, hE, hLo, hT0, hT1⟩ := id hI
  have hIc := hI
  refine j_aload_n C 0 dX12_image_0 rfl ?_
  refine j_aload_n C 0 dX12_image_1 rfl ?_
  refine rg C (v := .ref (q 0)) 0 (by decide) kf12_7 rfl dX12_image_2 ?_
  refine j_aload_n C 0 dX12_image_5 rfl ?_
  refine rg C (v := .ref (q 1)) 1 (by decide) kf12_13 rfl dX12_image_6 ?_
  refine j_callVv (As := [.ref (q 0), .ref (q 1)]) (rest := []) C vw12_moveAll (c_moveAll_row_kept) rRcv rfl (Nat.le_of_ble_eq_true rfl) dX12_image_9 (by decide) ?_
  rintro _ rfl
  refine j_aload_n C 0 dX12_image_12 rfl ?_
  refine j_iconst C (v := (nI 1)) dX12_image_13 (by decide) ?_
  refine rp_4 C (by decide) kf12_256 dX12_image_14 ?_
  refine j_aload_n C 0 dX12_image_17 rfl ?_
  refine j_dup C dX12_image_18 rfl ?_
  refine rg C (v := .int ((upd V 4 (nI 1)) 5)) 5 (by decide) kf12_259 rfl dX12_image_19 ?_
  refine j_iconst C (v := (nI 1)) dX12_image_22 (by decide) ?_
  refine j_iadd C dX12_image_23 ?_
  refine rp_5 C kf12_259 dX12_image_24 ?_
  refine j_aload_n C 0 dX12_image_27 rfl ?_
  refine rg C (v := .int (((upd V 4 (nI 1)) 5) + (nI 1))) 5 (by decide) kf12_259 rfl dX12_image_28 ?_
  refine j_iret C dX12_image_31 ?_
  unfold sp_image
  exact ⟨rfl, EQ.rf⟩
theorem dX12_restore_0 : decode cX12_restore 0 = .ok (.aload_n 0, 1) := by decide +kernel
theorem dX12_restore_1 : decode cX12_restore 1 = .ok (.getfield 256, 3) := by decide +kernel
theorem dX12_restore_4 : decode cX12_restore 4 = .ok (.ifCond .ne 10, 3) := by decide +kernel
theorem dX12_restore_7 : decode cX12_restore 7 = .ok (.aload_n 0, 1) := by decide +kernel
theorem dX12_restore_8 : decode cX12_restore 8 = .ok (.ldc 213, 2) := by decide +kernel
theorem dX12_restore_10 : decode cX12_restore 10 = .ok (.invokevirtual 56, 3) := by decide +kernel
theorem dX12_restore_13 : decode cX12_restore 13 = .ok (.ireturn, 1) := by decide +kernel
theorem dX12_restore_14 : decode cX12_restore 14 = .ok (.aload_n 0, 1) := by decide +kernel
theorem dX12_restore_15 : decode cX12_restore 15 = .ok (.aload_n 0, 1) := by decide +kernel
theorem dX12_restore_16 : decode cX12_restore 16 = .ok (.getfield 13, 3) := by decide +kernel
theorem dX12_restore_19 : decode cX12_restore 19 = .ok (.aload_n 0, 1) := by decide +kernel
theorem dX12_restore_20 : decode cX12_restore 20 = .ok (.getfield 7, 3) := by decide +kernel
theorem dX12_restore_23 : decode cX12_restore 23 = .ok (.invokevirtual 171, 3) := by decide +kernel
theorem dX12_restore_26 : decode cX12_restore 26 = .ok (.aload_n 0, 1) := by decide +kernel
theorem dX12_restore_27 : decode cX12_restore 27 = .ok (.getfield 7, 3) := by decide +kernel
theorem dX12_restore_30 : decode cX12_restore 30 = .ok (.iconst 0, 1) := by decide +kernel
theorem dX12_restore_31 : decode cX12_restore 31 = .ok (.iaload, 1) := by decide +kernel
theorem dX12_restore_32 : decode cX12_restore 32 = .ok (.ireturn, 1) := by decide +kernel
set_option maxHeartbeats 2000000 in
set_option maxRecDepth 20000 in
theorem c_restore {l : Launch} {D : va_G} {cI cG cW : ClassId} {o : Nat} {q : Nat → Nat} {V row kept tried bf fd pk bo so sh mv tr : Nat → Int32} {nc np nw d nt nq : Nat} (hR : RKx row nc np nw d nt nq) : Ci l yX12_restore cX12_restore 1 (some .int) 3 D (tyL cI cG cW) (wR cI o q) [.ref o] (sR V row kept tried bf fd pk bo so sh mv tr) (fun r τ => r = (sp_restore V row kept tried bf fd pk bo so sh mv tr ).1 ∧ EQ τ (sp_restore V row kept tried bf fd pk bo so sh mv tr ).2) := by
  refine Ci.of (by decide) (Nat.le_of_ble_eq_true rfl) ?_
  intro p_ e_ s_ m_ b_ M_ c_ A_ C
  replace C : Cx _ _ _ _ _ _ _ _ RX12 _ _ _ _ := C
  refine j_L [0] [(0, .ref o)] rfl ?_
  obtain ⟨hI, hW, ⟨e0, hd⟩, ⟨e4, ht⟩, ⟨e5, hq⟩, hB⟩ := id hR
  obtain ⟨⟨e2, hc2, hc10⟩, ⟨e3, hn6⟩, ⟨e8, hw8⟩, hP, hE, hLo, hT0, hT1⟩ := id hI
  have hIc := hI
  refine j_aload_n C 0 dX12_restore_0 rfl ?_
  refine rg C (v := .int (V 4)) 4 (by decide) kf12_256 rfl dX12_restore_1 ?_
  refine j_if_ne C 14 dX12_restore_4 (by decide) (fun c4 => ?_) (fun c4 => ?_)
  · skip
    refine j_aload_n C 0 dX12_restore_14 rfl ?_
    refine j_aload_n C 0 dX12_restore_15 rfl ?_
    refine rg C (v := .ref (q 1)) 1 (by decide) kf12_13 rfl dX12_restore_16 ?_
    refine j_aload_n C 0 dX12_restore_19 rfl ?_
    refine rg C (v := .ref (q 0)) 0 (by decide) kf12_7 rfl dX12_restore_20 ?_
    refine j_callVv (As := [.ref (q 1), .ref (q 0)]) (rest := []) C vw12_moveAll (c_moveAll_kept_row) rRcv rfl (Nat.le_of_ble_eq_true rfl) dX12_restore_23 (by decide) ?_
    rintro _ rfl
    refine j_aload_n C 0 dX12_restore_26 rfl ?_
    refine rg C (v := .ref (q 0)) 0 (by decide) kf12_7 rfl dX12_restore_27 ?_
    refine j_iconst C (v := (nI 0)) dX12_restore_30 (by decide) ?_
    refine rl_row C 0 rfl (by omega) dX12_restore_31 ?_
    refine j_iret C dX12_restore_32 ?_
    unfold sp_restore
    rw [if_neg c4]
    exact ⟨rfl, EQ.rf⟩
  · skip
    refine j_aload_n C 0 dX12_restore_7 rfl ?_
    refine j_ldc C (-1000000002) dX12_restore_8 kc12_213 ?_
    refine j_callV (As := [.int (-1000000002)]) (rest := []) C vw12_errs (c_errs 2 (by decide) (by decide)) rRcv rfl (Nat.le_of_ble_eq_true rfl) dX12_restore_10 (by decide) ?_
    rintro _ _ ⟨rfl, rfl⟩
    refine j_iret C dX12_restore_13 ?_
    unfold sp_restore
    rw [if_pos c4]
    exact ⟨rfl, EQ.rf⟩
theorem dX12_tell_0 : decode cX12_tell 0 = .ok (.aload_n 0, 1) := by decide +kernel
theorem dX12_tell_1 : decode cX12_tell 1 = .ok (.getfield 7, 3) := by decide +kernel
theorem dX12_tell_4 : decode cX12_tell 4 = .ok (.iconst 5, 1) := by decide +kernel
theorem dX12_tell_5 : decode cX12_tell 5 = .ok (.iaload, 1) := by decide +kernel
theorem dX12_tell_6 : decode cX12_tell 6 = .ok (.bipush 20, 2) := by decide +kernel
theorem dX12_tell_8 : decode cX12_tell 8 = .ok (.if_icmp .ne 10, 3) := by decide +kernel
theorem dX12_tell_11 : decode cX12_tell 11 = .ok (.aload_n 0, 1) := by decide +kernel
theorem dX12_tell_12 : decode cX12_tell 12 = .ok (.ldc 75, 2) := by decide +kernel
theorem dX12_tell_14 : decode cX12_tell 14 = .ok (.invokevirtual 56, 3) := by decide +kernel
theorem dX12_tell_17 : decode cX12_tell 17 = .ok (.ireturn, 1) := by decide +kernel
theorem dX12_tell_18 : decode cX12_tell 18 = .ok (.aload_n 0, 1) := by decide +kernel
theorem dX12_tell_19 : decode cX12_tell 19 = .ok (.getfield 7, 3) := by decide +kernel
theorem dX12_tell_22 : decode cX12_tell 22 = .ok (.sipush 140, 3) := by decide +kernel
theorem dX12_tell_25 : decode cX12_tell 25 = .ok (.aload_n 0, 1) := by decide +kernel
theorem dX12_tell_26 : decode cX12_tell 26 = .ok (.getfield 7, 3) := by decide +kernel
theorem dX12_tell_29 : decode cX12_tell 29 = .ok (.iconst 5, 1) := by decide +kernel
theorem dX12_tell_30 : decode cX12_tell 30 = .ok (.iaload, 1) := by decide +kernel
theorem dX12_tell_31 : decode cX12_tell 31 = .ok (.iadd, 1) := by decide +kernel
theorem dX12_tell_32 : decode cX12_tell 32 = .ok (.iload_n 1, 1) := by decide +kernel
theorem dX12_tell_33 : decode cX12_tell 33 = .ok (.iastore, 1) := by decide +kernel
theorem dX12_tell_34 : decode cX12_tell 34 = .ok (.aload_n 0, 1) := by decide +kernel
theorem dX12_tell_35 : decode cX12_tell 35 = .ok (.getfield 7, 3) := by decide +kernel
theorem dX12_tell_38 : decode cX12_tell 38 = .ok (.iconst 5, 1) := by decide +kernel
theorem dX12_tell_39 : decode cX12_tell 39 = .ok (.dup2, 1) := by decide +kernel
theorem dX12_tell_40 : decode cX12_tell 40 = .ok (.iaload, 1) := by decide +kernel
theorem dX12_tell_41 : decode cX12_tell 41 = .ok (.iconst 1, 1) := by decide +kernel
theorem dX12_tell_42 : decode cX12_tell 42 = .ok (.iadd, 1) := by decide +kernel
theorem dX12_tell_43 : decode cX12_tell 43 = .ok (.iastore, 1) := by decide +kernel
theorem dX12_tell_44 : decode cX12_tell 44 = .ok (.aload_n 0, 1) := by decide +kernel
theorem dX12_tell_45 : decode cX12_tell 45 = .ok (.getfield 7, 3) := by decide +kernel
theorem dX12_tell_48 : decode cX12_tell 48 = .ok (.iconst 5, 1) := by decide +kernel
theorem dX12_tell_49 : decode cX12_tell 49 = .ok (.iaload, 1) := by decide +kernel
theorem dX12_tell_50 : decode cX12_tell 50 = .ok (.ireturn, 1) := by decide +kernel
set_option maxHeartbeats 2000000 in
set_option maxRecDepth 20000 in
theorem c_tell {l : Launch} {D : va_G} {cI cG cW : ClassId} {o : Nat} {q : Nat → Nat} {V row kept tried bf fd pk bo so sh mv tr : Nat → Int32} {v : Int32} {nc np nw d nt nq : Nat} (hR : RKx row nc np nw d nt nq) : Ci l yX12_tell cX12_tell 2 (some .int) 3 D (tyL cI cG cW) (wR cI o q) [.ref o, .int v] (sR V row kept tried bf fd pk bo so sh mv tr) (fun r τ => r = (sp_tell V row kept tried bf fd pk bo so sh mv tr v).1 ∧ EQ τ (sp_tell V row kept tried bf fd pk bo so sh mv tr v).2) := by
  refine Ci.of (by decide) (Nat.le_of_ble_eq_true rfl) ?_
  intro p_ e_ s_ m_ b_ M_ c_ A_ C
  replace C : Cx _ _ _ _ _ _ _ _ RX12 _ _ _ _ := C
  refine j_L [0, 1] [(0, .ref o), (1, .int v)] rfl ?_
  obtain ⟨hI, hW, ⟨e0, hd⟩, ⟨e4, ht⟩, ⟨e5, hq⟩, hB⟩ := id hR
  obtain ⟨⟨e2, hc2, hc10⟩, ⟨e3, hn6⟩, ⟨e8, hw8⟩, hP, hE, hLo, hT0, hT1⟩ := id hI
  have hIc := hI
  refine j_aload_n C 0 dX12_tell_0 rfl ?_
  refine rg C (v := .ref (q 0)) 0 (by decide) kf12_7 rfl dX12_tell_1 ?_
  refine j_iconst C (v := (nI 5)) dX12_tell_4 (by decide) ?_
  refine rl_row C 5 rfl (by omega) dX12_tell_5 ?_
  refine j_bipush C (v := (nI 20)) dX12_tell_6 (by decide) ?_
  refine j_icmp_ne C 18 dX12_tell_8 (by decide) (fun c8 => ?_) (fun c8 => ?_)
  · skip
    refine j_aload_n C 0 dX12_tell_18 rfl ?_
    refine rg C (v := .ref (q 0)) 0 (by decide) kf12_7 rfl dX12_tell_19 ?_
    refine j_sipush C (v := (nI 140)) dX12_tell_22 (by decide) ?_
    refine j_aload_n C 0 dX12_tell_25 rfl ?_
    refine rg C (v := .ref (q 0)) 0 (by decide) kf12_7 rfl dX12_tell_26 ?_
    refine j_iconst C (v := (nI 5)) dX12_tell_29 (by decide) ?_
    refine rl_row C 5 rfl (by omega) dX12_tell_30 ?_
    refine j_v (nI nq) e5 ?_
    refine j_iaddN C dX12_tell_31 ?_
    refine j_iload_n C 1 dX12_tell_32 rfl ?_
    refine rs_row C (140 + nq) rfl (by omega) dX12_tell_33 ?_
    refine j_aload_n C 0 dX12_tell_34 rfl ?_
    refine rg C (v := .ref (q 0)) 0 (by decide) kf12_7 rfl dX12_tell_35 ?_
    refine j_iconst C (v := (nI 5)) dX12_tell_38 (by decide) ?_
    refine j_dup2 C dX12_tell_39 rfl rfl ?_
    refine rl_row C 5 rfl (by omega) dX12_tell_40 ?_
    refine j_v (nI nq) (by rw [pk_un (by omega)]; exact e5) ?_
    refine j_iconst C (v := (nI 1)) dX12_tell_41 (by decide) ?_
    refine j_iaddN C dX12_tell_42 ?_
    refine rs_row C 5 rfl (by omega) dX12_tell_43 ?_
    refine j_aload_n C 0 dX12_tell_44 rfl ?_
    refine rg C (v := .ref (q 0)) 0 (by decide) kf12_7 rfl dX12_tell_45 ?_
    refine j_iconst C (v := (nI 5)) dX12_tell_48 (by decide) ?_
    refine rl_row C 5 rfl (by omega) dX12_tell_49 ?_
    refine j_v (nI (nq + 1)) (by rw [pk_us]) ?_
    refine j_iret C dX12_tell_50 ?_
    unfold sp_tell
    rw [if_neg c8, e5, tN_nI (by omega), nI_add]
    exact ⟨rfl, EQ.rf⟩
  · skip
    refine j_aload_n C 0 dX12_tell_11 rfl ?_
    refine j_ldc C (-1000000004) dX12_tell_12 kc12_75 ?_
    refine j_callV (As := [.int (-1000000004)]) (rest := []) C vw12_errs (c_errs 4 (by decide) (by decide)) rRcv rfl (Nat.le_of_ble_eq_true rfl) dX12_tell_14 (by decide) ?_
    rintro _ _ ⟨rfl, rfl⟩
    refine j_iret C dX12_tell_17 ?_
    unfold sp_tell
    rw [if_pos c8]
    exact ⟨rfl, EQ.rf⟩
theorem dX12_told_0 : decode cX12_told 0 = .ok (.iload_n 1, 1) := by decide +kernel
theorem dX12_told_1 : decode cX12_told 1 = .ok (.iconst 1, 1) := by decide +kernel
theorem dX12_told_2 : decode cX12_told 2 = .ok (.iconst 5, 1) := by decide +kernel
theorem dX12_told_3 : decode cX12_told 3 = .ok (.invokestatic 51, 3) := by decide +kernel
theorem dX12_told_6 : decode cX12_told 6 = .ok (.ifCond .eq 12, 3) := by decide +kernel
theorem dX12_told_9 : decode cX12_told 9 = .ok (.aload_n 0, 1) := by decide +kernel
theorem dX12_told_10 : decode cX12_told 10 = .ok (.getfield 22, 3) := by decide +kernel
theorem dX12_told_13 : decode cX12_told 13 = .ok (.iload_n 1, 1) := by decide +kernel
theorem dX12_told_14 : decode cX12_told 14 = .ok (.iaload, 1) := by decide +kernel
theorem dX12_told_15 : decode cX12_told 15 = .ok (.goto 9, 3) := by decide +kernel
theorem dX12_told_18 : decode cX12_told 18 = .ok (.aload_n 0, 1) := by decide +kernel
theorem dX12_told_19 : decode cX12_told 19 = .ok (.ldc 55, 2) := by decide +kernel
theorem dX12_told_21 : decode cX12_told 21 = .ok (.invokevirtual 56, 3) := by decide +kernel
theorem dX12_told_24 : decode cX12_told 24 = .ok (.ireturn, 1) := by decide +kernel
set_option maxHeartbeats 2000000 in
set_option maxRecDepth 20000 in
theorem c_told {l : Launch} {D : va_G} {cI cG cW : ClassId} {o : Nat} {q : Nat → Nat} {V row kept tried bf fd pk bo so sh mv tr : Nat → Int32} {k : Int32} {nc np nw d nt nq : Nat} (hR : RKx row nc np nw d nt nq) : Ci l yX12_told cX12_told 2 (some .int) 3 D (tyL cI cG cW) (wR cI o q) [.ref o, .int k] (sR V row kept tried bf fd pk bo so sh mv tr) (fun r τ => r = (sp_told V row kept tried bf fd pk bo so sh mv tr k).1 ∧ EQ τ (sp_told V row kept tried bf fd pk bo so sh mv tr k).2) := by
  refine Ci.of (by decide) (Nat.le_of_ble_eq_true rfl) ?_
  intro p_ e_ s_ m_ b_ M_ c_ A_ C
  replace C : Cx _ _ _ _ _ _ _ _ RX12 _ _ _ _ := C
  refine j_L [0, 1] [(0, .ref o), (1, .int k)] rfl ?_
  obtain ⟨hI, hW, ⟨e0, hd⟩, ⟨e4, ht⟩, ⟨e5, hq⟩, hB⟩ := id hR
  obtain ⟨⟨e2, hc2, hc10⟩, ⟨e3, hn6⟩, ⟨e8, hw8⟩, hP, hE, hLo, hT0, hT1⟩ := id hI
  have hIc := hI
  refine j_iload_n C 1 dX12_told_0 rfl ?_
  refine j_iconst C (v := (nI 1)) dX12_told_1 (by decide) ?_
  refine j_iconst C (v := (nI 5)) dX12_told_2 (by decide) ?_
  refine j_callS (As := [.int k, .int (nI 1), .int (nI 5)]) (rest := []) C vw12_in (c_in) rfl (Nat.le_of_ble_eq_true rfl) dX12_told_3 (by decide) ?_
  rintro _ _ ⟨rfl, rfl⟩
  refine j_if_eq C 18 dX12_told_6 (by decide) (fun c6 => ?_) (fun c6 => ?_)
  · replace c6 := bI_f c6
    refine j_aload_n C 0 dX12_told_18 rfl ?_
    refine j_ldc C (-1000000001) dX12_told_19 kc12_55 ?_
    refine j_callV (As := [.int (-1000000001)]) (rest := []) C vw12_errs (c_errs 1 (by decide) (by decide)) rRcv rfl (Nat.le_of_ble_eq_true rfl) dX12_told_21 (by decide) ?_
    rintro _ _ ⟨rfl, rfl⟩
    refine j_iret C dX12_told_24 ?_
    unfold sp_told
    rw [if_neg (fun h => c6 h)]
    exact ⟨rfl, EQ.rf⟩
  · replace c6 := bI_t c6
    obtain ⟨kn, gkn, hkn, rfl⟩ := inn_lit c6 (by omega)
    refine j_aload_n C 0 dX12_told_9 rfl ?_
    refine rg C (v := .ref (q 6)) 6 (by decide) kf12_22 rfl dX12_told_10 ?_
    refine j_iload_n C 1 dX12_told_13 rfl ?_
    refine rl_fd C kn rfl (by omega) dX12_told_14 ?_
    refine j_goto C 24 dX12_told_15 (by decide) ?_
    refine j_iret C dX12_told_24 ?_
    unfold sp_told
    rw [if_pos c6]
    rw [tN_nI (by omega)]
    exact ⟨rfl, EQ.rf⟩

/-! The reference: upright, adds, odds, starves. -/
theorem dX12_upright_0 : decode cX12_upright 0 = .ok (.iload_n 1, 1) := by decide +kernel
theorem dX12_upright_1 : decode cX12_upright 1 = .ok (.iconst 0, 1) := by decide +kernel
theorem dX12_upright_2 : decode cX12_upright 2 = .ok (.iconst 1, 1) := by decide +kernel
theorem dX12_upright_3 : decode cX12_upright 3 = .ok (.invokestatic 51, 3) := by decide +kernel
theorem dX12_upright_6 : decode cX12_upright 6 = .ok (.ifCond .ne 10, 3) := by decide +kernel
theorem dX12_upright_9 : decode cX12_upright 9 = .ok (.aload_n 0, 1) := by decide +kernel
theorem dX12_upright_10 : decode cX12_upright 10 = .ok (.ldc 55, 2) := by decide +kernel
theorem dX12_upright_12 : decode cX12_upright 12 = .ok (.invokevirtual 56, 3) := by decide +kernel
theorem dX12_upright_15 : decode cX12_upright 15 = .ok (.ireturn, 1) := by decide +kernel
theorem dX12_upright_16 : decode cX12_upright 16 = .ok (.aload_n 0, 1) := by decide +kernel
theorem dX12_upright_17 : decode cX12_upright 17 = .ok (.aload_n 0, 1) := by decide +kernel
theorem dX12_upright_18 : decode cX12_upright 18 = .ok (.getfield 7, 3) := by decide +kernel
theorem dX12_upright_21 : decode cX12_upright 21 = .ok (.aload_n 0, 1) := by decide +kernel
theorem dX12_upright_22 : decode cX12_upright 22 = .ok (.getfield 16, 3) := by decide +kernel
theorem dX12_upright_25 : decode cX12_upright 25 = .ok (.invokevirtual 171, 3) := by decide +kernel
theorem dX12_upright_28 : decode cX12_upright 28 = .ok (.iconst 0, 1) := by decide +kernel
theorem dX12_upright_29 : decode cX12_upright 29 = .ok (.istore_n 2, 1) := by decide +kernel
theorem dX12_upright_30 : decode cX12_upright 30 = .ok (.iload_n 2, 1) := by decide +kernel
theorem dX12_upright_31 : decode cX12_upright 31 = .ok (.bipush 60, 2) := by decide +kernel
theorem dX12_upright_33 : decode cX12_upright 33 = .ok (.if_icmp .gt 20, 3) := by decide +kernel
theorem dX12_upright_36 : decode cX12_upright 36 = .ok (.aload_n 0, 1) := by decide +kernel
theorem dX12_upright_37 : decode cX12_upright 37 = .ok (.invokevirtual 210, 3) := by decide +kernel
theorem dX12_upright_40 : decode cX12_upright 40 = .ok (.ifCond .ne 13, 3) := by decide +kernel
theorem dX12_upright_43 : decode cX12_upright 43 = .ok (.aload_n 0, 1) := by decide +kernel
theorem dX12_upright_44 : decode cX12_upright 44 = .ok (.invokevirtual 197, 3) := by decide +kernel
theorem dX12_upright_47 : decode cX12_upright 47 = .ok (.iinc 2 1, 3) := by decide +kernel
theorem dX12_upright_50 : decode cX12_upright 50 = .ok (.goto (-20), 3) := by decide +kernel
theorem dX12_upright_53 : decode cX12_upright 53 = .ok (.aload_n 0, 1) := by decide +kernel
theorem dX12_upright_54 : decode cX12_upright 54 = .ok (.invokevirtual 210, 3) := by decide +kernel
theorem dX12_upright_57 : decode cX12_upright 57 = .ok (.istore_n 3, 1) := by decide +kernel
theorem dX12_upright_58 : decode cX12_upright 58 = .ok (.aload_n 0, 1) := by decide +kernel
theorem dX12_upright_59 : decode cX12_upright 59 = .ok (.aload_n 0, 1) := by decide +kernel
theorem dX12_upright_60 : decode cX12_upright 60 = .ok (.getfield 16, 3) := by decide +kernel
theorem dX12_upright_63 : decode cX12_upright 63 = .ok (.aload_n 0, 1) := by decide +kernel
theorem dX12_upright_64 : decode cX12_upright 64 = .ok (.getfield 7, 3) := by decide +kernel
theorem dX12_upright_67 : decode cX12_upright 67 = .ok (.invokevirtual 171, 3) := by decide +kernel
theorem dX12_upright_70 : decode cX12_upright 70 = .ok (.iload_n 2, 1) := by decide +kernel
theorem dX12_upright_71 : decode cX12_upright 71 = .ok (.bipush 60, 2) := by decide +kernel
theorem dX12_upright_73 : decode cX12_upright 73 = .ok (.if_icmp .le 10, 3) := by decide +kernel
theorem dX12_upright_76 : decode cX12_upright 76 = .ok (.aload_n 0, 1) := by decide +kernel
theorem dX12_upright_77 : decode cX12_upright 77 = .ok (.ldc 213, 2) := by decide +kernel
theorem dX12_upright_79 : decode cX12_upright 79 = .ok (.invokevirtual 56, 3) := by decide +kernel
theorem dX12_upright_82 : decode cX12_upright 82 = .ok (.ireturn, 1) := by decide +kernel
theorem dX12_upright_83 : decode cX12_upright 83 = .ok (.iconst 0, 1) := by decide +kernel
theorem dX12_upright_84 : decode cX12_upright 84 = .ok (.istore 4, 2) := by decide +kernel
theorem dX12_upright_86 : decode cX12_upright 86 = .ok (.iload_n 3, 1) := by decide +kernel
theorem dX12_upright_87 : decode cX12_upright 87 = .ok (.iload 4, 2) := by decide +kernel
theorem dX12_upright_89 : decode cX12_upright 89 = .ok (.ishr, 1) := by decide +kernel
theorem dX12_upright_90 : decode cX12_upright 90 = .ok (.iconst 1, 1) := by decide +kernel
theorem dX12_upright_91 : decode cX12_upright 91 = .ok (.iand, 1) := by decide +kernel
theorem dX12_upright_92 : decode cX12_upright 92 = .ok (.ifCond .ne 9, 3) := by decide +kernel
theorem dX12_upright_95 : decode cX12_upright 95 = .ok (.iinc 4 1, 3) := by decide +kernel
theorem dX12_upright_98 : decode cX12_upright 98 = .ok (.goto (-12), 3) := by decide +kernel
theorem dX12_upright_101 : decode cX12_upright 101 = .ok (.iload_n 1, 1) := by decide +kernel
theorem dX12_upright_102 : decode cX12_upright 102 = .ok (.ifCond .ne 7, 3) := by decide +kernel
theorem dX12_upright_105 : decode cX12_upright 105 = .ok (.iload_n 2, 1) := by decide +kernel
theorem dX12_upright_106 : decode cX12_upright 106 = .ok (.goto 5, 3) := by decide +kernel
theorem dX12_upright_109 : decode cX12_upright 109 = .ok (.iload 4, 2) := by decide +kernel
theorem dX12_upright_111 : decode cX12_upright 111 = .ok (.ireturn, 1) := by decide +kernel
set_option maxHeartbeats 2000000 in
set_option maxRecDepth 20000 in
theorem c_upright {l : Launch} {D : va_G} {cI cG cW : ClassId} {o : Nat} {q : Nat → Nat} {V row kept tried bf fd pk bo so sh mv tr : Nat → Int32} {what : Int32} {nc np nw d nt nq : Nat} (hR : RKx row nc np nw d nt nq) : Ci l yX12_upright cX12_upright 5 (some .int) 90 D (tyL cI cG cW) (wR cI o q) [.ref o, .int what] (sR V row kept tried bf fd pk bo so sh mv tr) (fun r τ => r = (sp_upright V row kept tried bf fd pk bo so sh mv tr what).1 ∧ EQ τ (sp_upright V row kept tried bf fd pk bo so sh mv tr what).2) := by
  refine Ci.of (by decide) (Nat.le_of_ble_eq_true rfl) ?_
  intro p_ e_ s_ m_ b_ M_ c_ A_ C
  replace C : Cx _ _ _ _ _ _ _ _ RX12 _ _ _ _ := C
  refine j_L [0, 1] [(0, .ref o), (1, .int what)] rfl ?_
  obtain ⟨hI, hW, ⟨e0, hd⟩, ⟨e4, ht⟩, ⟨e5, hq⟩, hB⟩ := id hR
  obtain ⟨⟨e2, hc2, hc10⟩, ⟨e3, hn6⟩, ⟨e8, hw8⟩, hP, hE, hLo, hT0, hT1⟩ := id hI
  have hIc := hI
  refine j_iload_n C 1 dX12_upright_0 rfl ?_
  refine j_iconst C (v := (nI 0)) dX12_upright_1 (by decide) ?_
  refine j_iconst C (v := (nI 1)) dX12_upright_2 (by decide) ?_
  refine j_callS (As := [.int what, .int (nI 0), .int (nI 1)]) (rest := []) C vw12_in (c_in) rfl (Nat.le_of_ble_eq_true rfl) dX12_upright_3 (by decide) ?_
  rintro _ _ ⟨rfl, rfl⟩
  refine j_if_ne C 16 dX12_upright_6 (by decide) (fun c6 => ?_) (fun c6 => ?_)
  · replace c6 := bI_t c6
    refine j_aload_n C 0 dX12_upright_16 rfl ?_
    refine j_aload_n C 0 dX12_upright_17 rfl ?_
    refine rg C (v := .ref (q 0)) 0 (by decide) kf12_7 rfl dX12_upright_18 ?_
    refine j_aload_n C 0 dX12_upright_21 rfl ?_
    refine rg C (v := .ref (q 2)) 2 (by decide) kf12_16 rfl dX12_upright_22 ?_
    refine j_callVv (As := [.ref (q 0), .ref (q 2)]) (rest := []) C vw12_moveAll (c_moveAll_row_tried) rRcv rfl (Nat.le_of_ble_eq_true rfl) dX12_upright_25 (by decide) ?_
    rintro _ rfl
    refine j_iconst C (v := (nI 0)) dX12_upright_28 (by decide) ?_
    refine j_istore_n C [(2, .int (nI 0)), (0, .ref o), (1, .int what)] dX12_upright_29 (by decide) rfl ?_
    refine j_L [1, 2, 0] [(0, .ref o), (1, .int what), (2, .int (nI 0))] rfl ?_
    refine j_loop (X := Nat × (Nat → Int32) × (Nat → Int32)) (fun (z : Nat × (Nat → Int32) × (Nat → Int32)) => match z with | (i, V1, pk1) => i ≤ 61 ∧ VE V1 V ∧ ∀ j, j < i → ∀ p, p < np → ¬ row (30 + 6 * p + 5) < dawnsF np (wv V row nw) row j (30 + 6 * p + 5)) (fun (z : Nat × (Nat → Int32) × (Nat → Int32)) => match z with | (i, V1, pk1) => 61 - i) (fun (z : Nat × (Nat → Int32) × (Nat → Int32)) => match z with | (i, V1, pk1) => (sR V1 (dawnsF np (wv V row nw) row i) kept row bf fd pk1 bo so sh mv tr)) (fun (z : Nat × (Nat → Int32) × (Nat → Int32)) => match z with | (i, V1, pk1) => [(0, .ref o), (1, .int what), (2, .int (nI i))]) (0, V, pk) (⟨Nat.zero_le _, VE.rf, fun j h => absurd h (Nat.not_lt_zero _)⟩) rfl rfl ?_
    rintro ⟨i, V1, pk1⟩ ⟨hi, hV, hno⟩ ih
    try dsimp only at ih ⊢
    obtain ⟨hIc, hFc⟩ := dawns_IF (wv V row nw) hI i
    have hwv := wv_eq nw hV hFc
    refine j_iload_n C 2 dX12_upright_30 rfl ?_
    refine j_bipush C (v := (nI 60)) dX12_upright_31 (by decide) ?_
    refine j_icmp_gt C 53 dX12_upright_33 (by decide) (fun c33 => ?_) (fun c33 => ?_)
    · rw [nI_ltI (by omega) (by omega)] at c33
      refine j_aload_n C 0 dX12_upright_53 rfl ?_
      refine j_callV (As := []) (rest := []) C vw12_hungrier (c_hungrier hIc.2.1.1 hIc.2.1.2) rRcv rfl (Nat.le_of_ble_eq_true rfl) dX12_upright_54 (by decide) ?_
      rintro _ _ ⟨rfl, rfl⟩
      refine j_istore_n C [(3, .int (hunF (dawnsF np (wv V row nw) row i) row np)), (0, .ref o), (1, .int what), (2, .int (nI i))] dX12_upright_57 (by decide) rfl ?_
      refine j_aload_n C 1 dX12_upright_58 rfl ?_
      refine j_aload_n C 1 dX12_upright_59 rfl ?_
      refine rg C (v := .ref (q 2)) 2 (by decide) kf12_16 rfl dX12_upright_60 ?_
      refine j_aload_n C 1 dX12_upright_63 rfl ?_
      refine rg C (v := .ref (q 0)) 0 (by decide) kf12_7 rfl dX12_upright_64 ?_
      refine j_callVv (As := [.ref (q 2), .ref (q 0)]) (rest := []) C vw12_moveAll (c_moveAll_tried_row) rRcv rfl (Nat.le_of_ble_eq_true rfl) dX12_upright_67 (by decide) ?_
      rintro _ rfl
      refine j_iload_n C 3 dX12_upright_70 rfl ?_
      refine j_bipush C (v := (nI 60)) dX12_upright_71 (by decide) ?_
      refine j_icmp_le C 83 dX12_upright_73 (by decide) (fun c73 => ?_) (fun c73 => ?_)
      · rw [nI_leI (by omega) (by omega)] at c73
        exfalso; omega
      · rw [nI_leI (by omega) (by omega)] at c73
        refine j_aload_n C 1 dX12_upright_76 rfl ?_
        refine j_ldc C (-1000000002) dX12_upright_77 kc12_213 ?_
        refine j_callV (As := [.int (-1000000002)]) (rest := []) C vw12_errs (c_errs 2 (by decide) (by decide)) rRcv rfl (Nat.le_of_ble_eq_true rfl) dX12_upright_79 (by decide) ?_
        rintro _ _ ⟨rfl, rfl⟩
        refine j_iret C dX12_upright_82 ?_
        unfold sp_upright
        rw [if_pos c6]
        have hls : lsF (uprQ V row) 61 0 = i := lsF_at (P := uprQ V row) (Nat.zero_le _) (by omega) (fun j _ hj => by unfold uprQ; rw [e3, tN_nI (n := np) (by omega)]; exact fun h => h (fun p hp g => hno j hj p hp ((hg_eq e3 e8 hn6 hw8).mp g))) (Or.inr (by omega))
        rw [hls]
        rw [if_neg (by omega)]
        exact ⟨rfl, EQ.ve hV⟩
    · rw [nI_ltI (by omega) (by omega)] at c33
      refine j_aload_n C 0 dX12_upright_36 rfl ?_
      refine j_callV (As := []) (rest := []) C vw12_hungrier (c_hungrier hIc.2.1.1 hIc.2.1.2) rRcv rfl (Nat.le_of_ble_eq_true rfl) dX12_upright_37 (by decide) ?_
      rintro _ _ ⟨rfl, rfl⟩
      refine j_if_ne C 53 dX12_upright_40 (by decide) (fun c40 => ?_) (fun c40 => ?_)
      · skip
        refine j_aload_n C 0 dX12_upright_53 rfl ?_
        refine j_callV (As := []) (rest := []) C vw12_hungrier (c_hungrier hIc.2.1.1 hIc.2.1.2) rRcv rfl (Nat.le_of_ble_eq_true rfl) dX12_upright_54 (by decide) ?_
        rintro _ _ ⟨rfl, rfl⟩
        refine j_istore_n C [(3, .int (hunF (dawnsF np (wv V row nw) row i) row np)), (0, .ref o), (1, .int what), (2, .int (nI i))] dX12_upright_57 (by decide) rfl ?_
        refine j_aload_n C 1 dX12_upright_58 rfl ?_
        refine j_aload_n C 1 dX12_upright_59 rfl ?_
        refine rg C (v := .ref (q 2)) 2 (by decide) kf12_16 rfl dX12_upright_60 ?_
        refine j_aload_n C 1 dX12_upright_63 rfl ?_
        refine rg C (v := .ref (q 0)) 0 (by decide) kf12_7 rfl dX12_upright_64 ?_
        refine j_callVv (As := [.ref (q 2), .ref (q 0)]) (rest := []) C vw12_moveAll (c_moveAll_tried_row) rRcv rfl (Nat.le_of_ble_eq_true rfl) dX12_upright_67 (by decide) ?_
        rintro _ rfl
        refine j_iload_n C 3 dX12_upright_70 rfl ?_
        refine j_bipush C (v := (nI 60)) dX12_upright_71 (by decide) ?_
        refine j_icmp_le C 83 dX12_upright_73 (by decide) (fun c73 => ?_) (fun c73 => ?_)
        · rw [nI_leI (by omega) (by omega)] at c73
          refine j_iconst C (v := (nI 0)) dX12_upright_83 (by decide) ?_
          refine j_istore C [(4, .int (nI 0)), (3, .int (hunF (dawnsF np (wv V row nw) row i) row np)), (0, .ref o), (1, .int what), (2, .int (nI i))] dX12_upright_84 (by decide) rfl ?_
          refine j_L [2, 3, 4, 1, 0] [(0, .ref o), (1, .int what), (2, .int (nI i)), (3, .int (hunF (dawnsF np (wv V row nw) row i) row np)), (4, .int (nI 0))] rfl ?_
          refine j_loop (X := Nat) (fun (y : Nat) => y ≤ np ∧ ∀ j, j < y → ¬ row (30 + 6 * j + 5) < dawnsF np (wv V row nw) row i (30 + 6 * j + 5)) (fun (y : Nat) => np - y) (fun (y : Nat) => (sR V1 row kept row bf fd pk1 bo so sh mv tr)) (fun (y : Nat) => [(0, .ref o), (1, .int what), (2, .int (nI i)), (3, .int (hunF (dawnsF np (wv V row nw) row i) row np)), (4, .int (nI y))]) (0) (⟨Nat.zero_le _, fun j h => absurd h (Nat.not_lt_zero _)⟩) rfl rfl ?_
          rintro y ⟨hy, hny⟩ ih
          try dsimp only at ih ⊢
          have hyl : y < np := by
            rcases Nat.lt_or_ge y np with g | g
            · exact g
            · exact absurd ((hun_0 hn6).mpr (fun p hp => hny p (by omega))) c40
          refine j_iload_n C 3 dX12_upright_86 rfl ?_
          refine j_iload C 4 dX12_upright_87 rfl ?_
          refine j_ishr C dX12_upright_89 ?_
          refine j_iconst C (v := (nI 1)) dX12_upright_90 (by decide) ?_
          refine j_iand C dX12_upright_91 ?_
          refine j_v (bI (row (30 + 6 * y + 5) < dawnsF np (wv V row nw) row i (30 + 6 * y + 5))) (hun_bit hn6 hyl) ?_
          refine j_if_ne C 101 dX12_upright_92 (by decide) (fun c92 => ?_) (fun c92 => ?_)
          · replace c92 := bI_t c92
            refine j_iload_n C 1 dX12_upright_101 rfl ?_
            refine j_if_ne C 109 dX12_upright_102 (by decide) (fun c102 => ?_) (fun c102 => ?_)
            · skip
              refine j_iload C 4 dX12_upright_109 rfl ?_
              refine j_iret C dX12_upright_111 ?_
              unfold sp_upright
              rw [if_pos c6]
              have hls : lsF (uprQ V row) 61 0 = i := lsF_at (P := uprQ V row) (Nat.zero_le _) (by omega) (fun j _ hj => by unfold uprQ; rw [e3, tN_nI (n := np) (by omega)]; exact fun h => h (fun p hp g => hno j hj p hp ((hg_eq e3 e8 hn6 hw8).mp g))) (Or.inl (by unfold uprQ; rw [e3, tN_nI (n := np) (by omega)]; exact fun h => c40 ((hun_0 hn6).mpr (fun p hp g => h p hp ((hg_eq e3 e8 hn6 hw8).mpr g)))))
              rw [hls]
              rw [if_pos (by omega)]
              rw [if_neg c102]
              have hlp : lsF (hgP V row i) 6 0 = y := lsF_at (P := hgP V row i) (Nat.zero_le _) (by omega) (fun j _ hj g => hny j hj ((hg_eq e3 e8 hn6 hw8).mp g)) (Or.inl ((hg_eq e3 e8 hn6 hw8).mpr c92))
              rw [hlp]
              exact ⟨rfl, EQ.ve hV⟩
            · skip
              refine j_iload_n C 2 dX12_upright_105 rfl ?_
              refine j_goto C 111 dX12_upright_106 (by decide) ?_
              refine j_iret C dX12_upright_111 ?_
              unfold sp_upright
              rw [if_pos c6]
              have hls : lsF (uprQ V row) 61 0 = i := lsF_at (P := uprQ V row) (Nat.zero_le _) (by omega) (fun j _ hj => by unfold uprQ; rw [e3, tN_nI (n := np) (by omega)]; exact fun h => h (fun p hp g => hno j hj p hp ((hg_eq e3 e8 hn6 hw8).mp g))) (Or.inl (by unfold uprQ; rw [e3, tN_nI (n := np) (by omega)]; exact fun h => c40 ((hun_0 hn6).mpr (fun p hp g => h p hp ((hg_eq e3 e8 hn6 hw8).mpr g)))))
              rw [hls]
              rw [if_pos (by omega)]
              rw [if_pos c102]
              exact ⟨rfl, EQ.ve hV⟩
          · replace c92 := bI_f c92
            refine j_iinc C (v := (nI (y + 1))) 4 [(4, .int (nI (y + 1))), (0, .ref o), (1, .int what), (2, .int (nI i)), (3, .int (hunF (dawnsF np (wv V row nw) row i) row np))] dX12_upright_95 rfl (nI_1 _) (by decide) rfl ?_
            refine j_goto C 86 dX12_upright_98 (by decide) ?_
            refine j_L [1, 2, 3, 4, 0] [(0, .ref o), (1, .int what), (2, .int (nI i)), (3, .int (hunF (dawnsF np (wv V row nw) row i) row np)), (4, .int (nI (y + 1)))] rfl ?_
            refine ih (y + 1) ⟨by omega, fun j hj => ?_⟩ (by omega)
            by_cases ej : j = y
            · subst ej; exact c92
            · exact hny j (by omega)
        · rw [nI_leI (by omega) (by omega)] at c73
          refine j_aload_n C 1 dX12_upright_76 rfl ?_
          refine j_ldc C (-1000000002) dX12_upright_77 kc12_213 ?_
          refine j_callV (As := [.int (-1000000002)]) (rest := []) C vw12_errs (c_errs 2 (by decide) (by decide)) rRcv rfl (Nat.le_of_ble_eq_true rfl) dX12_upright_79 (by decide) ?_
          rintro _ _ ⟨rfl, rfl⟩
          refine j_iret C dX12_upright_82 ?_
          unfold sp_upright
          rw [if_pos c6]
          have hls : lsF (uprQ V row) 61 0 = i := lsF_at (P := uprQ V row) (Nat.zero_le _) (by omega) (fun j _ hj => by unfold uprQ; rw [e3, tN_nI (n := np) (by omega)]; exact fun h => h (fun p hp g => hno j hj p hp ((hg_eq e3 e8 hn6 hw8).mp g))) (Or.inl (by unfold uprQ; rw [e3, tN_nI (n := np) (by omega)]; exact fun h => c40 ((hun_0 hn6).mpr (fun p hp g => h p hp ((hg_eq e3 e8 hn6 hw8).mpr g)))))
          rw [hls]
          rw [if_neg (by omega)]
          exact ⟨rfl, EQ.ve hV⟩
      · skip
        refine j_aload_n C 0 dX12_upright_43 rfl ?_
        refine j_callVv (As := []) (rest := []) C vw12_oneDawn (c_oneDawn hIc) rRcv rfl (Nat.le_of_ble_eq_true rfl) dX12_upright_44 (by decide) ?_
        rintro _ ⟨Vx1, pkx2, hVx1, hpkx2, rfl⟩
        refine j_iinc C (v := (nI (i + 1))) 2 [(2, .int (nI (i + 1))), (0, .ref o), (1, .int what)] dX12_upright_47 rfl (nI_1 _) (by decide) rfl ?_
        refine j_goto C 30 dX12_upright_50 (by decide) ?_
        refine j_L [1, 2, 0] [(0, .ref o), (1, .int what), (2, .int (nI (i + 1)))] rfl ?_
        rw [hwv]
        refine ih (i + 1, Vx1, pkx2) ⟨by dsimp only; omega, hVx1.tr hV, fun j hj => ?_⟩ (by dsimp only; omega)
        dsimp only at hj
        by_cases ej : j = i
        · subst ej; exact (hun_0 hn6).mp c40
        · exact hno j (by omega)
  · replace c6 := bI_f c6
    refine j_aload_n C 0 dX12_upright_9 rfl ?_
    refine j_ldc C (-1000000001) dX12_upright_10 kc12_55 ?_
    refine j_callV (As := [.int (-1000000001)]) (rest := []) C vw12_errs (c_errs 1 (by decide) (by decide)) rRcv rfl (Nat.le_of_ble_eq_true rfl) dX12_upright_12 (by decide) ?_
    rintro _ _ ⟨rfl, rfl⟩
    refine j_iret C dX12_upright_15 ?_
    unfold sp_upright
    rw [if_neg c6]
    exact ⟨rfl, EQ.rf⟩
theorem dX12_adds_0 : decode cX12_adds 0 = .ok (.aload_n 0, 1) := by decide +kernel
theorem dX12_adds_1 : decode cX12_adds 1 = .ok (.iload_n 1, 1) := by decide +kernel
theorem dX12_adds_2 : decode cX12_adds 2 = .ok (.invokevirtual 80, 3) := by decide +kernel
theorem dX12_adds_5 : decode cX12_adds 5 = .ok (.ifCond .eq 13, 3) := by decide +kernel
theorem dX12_adds_8 : decode cX12_adds 8 = .ok (.iload_n 2, 1) := by decide +kernel
theorem dX12_adds_9 : decode cX12_adds 9 = .ok (.iconst 0, 1) := by decide +kernel
theorem dX12_adds_10 : decode cX12_adds 10 = .ok (.bipush 60, 2) := by decide +kernel
theorem dX12_adds_12 : decode cX12_adds 12 = .ok (.invokestatic 51, 3) := by decide +kernel
theorem dX12_adds_15 : decode cX12_adds 15 = .ok (.ifCond .ne 10, 3) := by decide +kernel
theorem dX12_adds_18 : decode cX12_adds 18 = .ok (.aload_n 0, 1) := by decide +kernel
theorem dX12_adds_19 : decode cX12_adds 19 = .ok (.ldc 55, 2) := by decide +kernel
theorem dX12_adds_21 : decode cX12_adds 21 = .ok (.invokevirtual 56, 3) := by decide +kernel
theorem dX12_adds_24 : decode cX12_adds 24 = .ok (.ireturn, 1) := by decide +kernel
theorem dX12_adds_25 : decode cX12_adds 25 = .ok (.aload_n 0, 1) := by decide +kernel
theorem dX12_adds_26 : decode cX12_adds 26 = .ok (.iload_n 1, 1) := by decide +kernel
theorem dX12_adds_27 : decode cX12_adds 27 = .ok (.putfield 25, 3) := by decide +kernel
theorem dX12_adds_30 : decode cX12_adds 30 = .ok (.aload_n 0, 1) := by decide +kernel
theorem dX12_adds_31 : decode cX12_adds 31 = .ok (.iconst 0, 1) := by decide +kernel
theorem dX12_adds_32 : decode cX12_adds 32 = .ok (.putfield 178, 3) := by decide +kernel
theorem dX12_adds_35 : decode cX12_adds 35 = .ok (.aload_n 0, 1) := by decide +kernel
theorem dX12_adds_36 : decode cX12_adds 36 = .ok (.getfield 178, 3) := by decide +kernel
theorem dX12_adds_39 : decode cX12_adds 39 = .ok (.bipush 40, 2) := by decide +kernel
theorem dX12_adds_41 : decode cX12_adds 41 = .ok (.if_icmp .gt 29, 3) := by decide +kernel
theorem dX12_adds_44 : decode cX12_adds 44 = .ok (.aload_n 0, 1) := by decide +kernel
theorem dX12_adds_45 : decode cX12_adds 45 = .ok (.iload_n 2, 1) := by decide +kernel
theorem dX12_adds_46 : decode cX12_adds 46 = .ok (.invokevirtual 214, 3) := by decide +kernel
theorem dX12_adds_49 : decode cX12_adds 49 = .ok (.iload_n 1, 1) := by decide +kernel
theorem dX12_adds_50 : decode cX12_adds 50 = .ok (.ishr, 1) := by decide +kernel
theorem dX12_adds_51 : decode cX12_adds 51 = .ok (.iconst 1, 1) := by decide +kernel
theorem dX12_adds_52 : decode cX12_adds 52 = .ok (.iand, 1) := by decide +kernel
theorem dX12_adds_53 : decode cX12_adds 53 = .ok (.iconst 1, 1) := by decide +kernel
theorem dX12_adds_54 : decode cX12_adds 54 = .ok (.if_icmp .ne 16, 3) := by decide +kernel
theorem dX12_adds_57 : decode cX12_adds 57 = .ok (.aload_n 0, 1) := by decide +kernel
theorem dX12_adds_58 : decode cX12_adds 58 = .ok (.dup, 1) := by decide +kernel
theorem dX12_adds_59 : decode cX12_adds 59 = .ok (.getfield 178, 3) := by decide +kernel
theorem dX12_adds_62 : decode cX12_adds 62 = .ok (.iconst 1, 1) := by decide +kernel
theorem dX12_adds_63 : decode cX12_adds 63 = .ok (.iadd, 1) := by decide +kernel
theorem dX12_adds_64 : decode cX12_adds 64 = .ok (.putfield 178, 3) := by decide +kernel
theorem dX12_adds_67 : decode cX12_adds 67 = .ok (.goto (-32), 3) := by decide +kernel
theorem dX12_adds_70 : decode cX12_adds 70 = .ok (.aload_n 0, 1) := by decide +kernel
theorem dX12_adds_71 : decode cX12_adds 71 = .ok (.iconst (-1), 1) := by decide +kernel
theorem dX12_adds_72 : decode cX12_adds 72 = .ok (.putfield 25, 3) := by decide +kernel
theorem dX12_adds_75 : decode cX12_adds 75 = .ok (.aload_n 0, 1) := by decide +kernel
theorem dX12_adds_76 : decode cX12_adds 76 = .ok (.getfield 178, 3) := by decide +kernel
theorem dX12_adds_79 : decode cX12_adds 79 = .ok (.bipush 40, 2) := by decide +kernel
theorem dX12_adds_81 : decode cX12_adds 81 = .ok (.if_icmp .le 12, 3) := by decide +kernel
theorem dX12_adds_84 : decode cX12_adds 84 = .ok (.aload_n 0, 1) := by decide +kernel
theorem dX12_adds_85 : decode cX12_adds 85 = .ok (.ldc 213, 2) := by decide +kernel
theorem dX12_adds_87 : decode cX12_adds 87 = .ok (.invokevirtual 56, 3) := by decide +kernel
theorem dX12_adds_90 : decode cX12_adds 90 = .ok (.goto 7, 3) := by decide +kernel
theorem dX12_adds_93 : decode cX12_adds 93 = .ok (.aload_n 0, 1) := by decide +kernel
theorem dX12_adds_94 : decode cX12_adds 94 = .ok (.getfield 178, 3) := by decide +kernel
theorem dX12_adds_97 : decode cX12_adds 97 = .ok (.ireturn, 1) := by decide +kernel
set_option maxHeartbeats 2000000 in
set_option maxRecDepth 20000 in
theorem c_adds {l : Launch} {D : va_G} {cI cG cW : ClassId} {o : Nat} {q : Nat → Nat} {V row kept tried bf fd pk bo so sh mv tr : Nat → Int32} {p n : Int32} {nc np nw d nt nq : Nat} (hR : RKx row nc np nw d nt nq) (hV15 : V 15 = 0) (hV16 : V 16 = -1) (hV18 : V 18 = -1) : Ci l yX12_adds cX12_adds 3 (some .int) 90 D (tyL cI cG cW) (wR cI o q) [.ref o, .int p, .int n] (sR V row kept tried bf fd pk bo so sh mv tr) (fun r τ => r = (sp_adds V row kept tried bf fd pk bo so sh mv tr p n).1 ∧ EQ τ (sp_adds V row kept tried bf fd pk bo so sh mv tr p n).2) := by
  refine Ci.of (by decide) (Nat.le_of_ble_eq_true rfl) ?_
  intro p_ e_ s_ m_ b_ M_ c_ A_ C
  replace C : Cx _ _ _ _ _ _ _ _ RX12 _ _ _ _ := C
  refine j_L [0, 1, 2] [(0, .ref o), (1, .int p), (2, .int n)] rfl ?_
  obtain ⟨hI, hW, ⟨e0, hd⟩, ⟨e4, ht⟩, ⟨e5, hq⟩, hB⟩ := id hR
  obtain ⟨⟨e2, hc2, hc10⟩, ⟨e3, hn6⟩, ⟨e8, hw8⟩, hP, hE, hLo, hT0, hT1⟩ := id hI
  have hIc := hI
  refine j_aload_n C 0 dX12_adds_0 rfl ?_
  refine j_iload_n C 1 dX12_adds_1 rfl ?_
  refine j_callV (As := [.int p]) (rest := []) C vw12_isPerson (c_isPerson) rRcv rfl (Nat.le_of_ble_eq_true rfl) dX12_adds_2 (by decide) ?_
  rintro _ _ ⟨rfl, rfl⟩
  refine j_if_eq C 18 dX12_adds_5 (by decide) (fun c5 => ?_) (fun c5 => ?_)
  · replace c5 := bI_f c5
    refine j_aload_n C 0 dX12_adds_18 rfl ?_
    refine j_ldc C (-1000000001) dX12_adds_19 kc12_55 ?_
    refine j_callV (As := [.int (-1000000001)]) (rest := []) C vw12_errs (c_errs 1 (by decide) (by decide)) rRcv rfl (Nat.le_of_ble_eq_true rfl) dX12_adds_21 (by decide) ?_
    rintro _ _ ⟨rfl, rfl⟩
    refine j_iret C dX12_adds_24 ?_
    unfold sp_adds
    rw [if_neg (fun h => c5 h.1)]
    exact ⟨rfl, EQ.rf⟩
  · replace c5 := bI_t c5
    obtain ⟨pn, hpn, rfl⟩ := inn_row c5 e3 (by omega)
    refine j_iload_n C 2 dX12_adds_8 rfl ?_
    refine j_iconst C (v := (nI 0)) dX12_adds_9 (by decide) ?_
    refine j_bipush C (v := (nI 60)) dX12_adds_10 (by decide) ?_
    refine j_callS (As := [.int n, .int (nI 0), .int (nI 60)]) (rest := []) C vw12_in (c_in) rfl (Nat.le_of_ble_eq_true rfl) dX12_adds_12 (by decide) ?_
    rintro _ _ ⟨rfl, rfl⟩
    refine j_if_ne C 25 dX12_adds_15 (by decide) (fun c15 => ?_) (fun c15 => ?_)
    · replace c15 := bI_t c15
      obtain ⟨nn, gnn, hnn, rfl⟩ := inn_lit c15 (by omega)
      refine j_aload_n C 0 dX12_adds_25 rfl ?_
      refine j_iload_n C 1 dX12_adds_26 rfl ?_
      refine rp_16 C kf12_25 dX12_adds_27 ?_
      refine j_aload_n C 0 dX12_adds_30 rfl ?_
      refine j_iconst C (v := (nI 0)) dX12_adds_31 (by decide) ?_
      refine rp_17 C kf12_178 dX12_adds_32 ?_
      refine j_L [0, 1, 2] [(0, .ref o), (1, .int (nI pn)), (2, .int (nI nn))] rfl ?_
      refine j_loop (X := Nat × (Nat → Int32) × (Nat → Int32) × (Nat → Int32)) (fun (z : Nat × (Nat → Int32) × (Nat → Int32) × (Nat → Int32)) => match z with | (i, V1, t1, pk1) => i ≤ 41 ∧ VE V1 (addV V pn i) ∧ ∀ j, j < i → row (30 + 6 * pn + 5) < dawnsF np (wv (addV V pn j) row nw) row nn (30 + 6 * pn + 5)) (fun (z : Nat × (Nat → Int32) × (Nat → Int32) × (Nat → Int32)) => match z with | (i, V1, t1, pk1) => 41 - i) (fun (z : Nat × (Nat → Int32) × (Nat → Int32) × (Nat → Int32)) => match z with | (i, V1, t1, pk1) => (sR V1 row kept t1 bf fd pk1 bo so sh mv tr)) (fun (z : Nat × (Nat → Int32) × (Nat → Int32) × (Nat → Int32)) => match z with | (i, V1, t1, pk1) => [(0, .ref o), (1, .int (nI pn)), (2, .int (nI nn))]) (0, upd (upd V 16 (nI pn)) 17 (nI 0), tried, pk) (⟨Nat.zero_le _, VE.rf, fun j h => absurd h (Nat.not_lt_zero _)⟩) rfl rfl ?_
      rintro ⟨i, V1, t1, pk1⟩ ⟨hi, hV, hno⟩ ih
      try dsimp only at ih ⊢
      have hwv := wv_eq nw hV (FR.rf (r := row))
      have hb17 : V1 17 = nI i := (hV 17 (by omega)).trans pk_us
      refine j_aload_n C 0 dX12_adds_35 rfl ?_
      refine rg C (v := .int (V1 17)) 17 (by decide) kf12_178 rfl dX12_adds_36 ?_
      refine j_v (nI i) hb17 ?_
      refine j_bipush C (v := (nI 40)) dX12_adds_39 (by decide) ?_
      refine j_icmp_gt C 70 dX12_adds_41 (by decide) (fun c41 => ?_) (fun c41 => ?_)
      · rw [nI_ltI (by omega) (by omega)] at c41
        refine j_aload_n C 0 dX12_adds_70 rfl ?_
        refine j_iconst C (v := (-1)) dX12_adds_71 (by decide) ?_
        refine rp_16 C kf12_25 dX12_adds_72 ?_
        refine j_aload_n C 0 dX12_adds_75 rfl ?_
        refine rg C (v := .int ((upd V1 16 (-1)) 17)) 17 (by decide) kf12_178 rfl dX12_adds_76 ?_
        refine j_v (nI i) (by rw [pk_un (by omega)]; exact hb17) ?_
        refine j_bipush C (v := (nI 40)) dX12_adds_79 (by decide) ?_
        refine j_icmp_le C 93 dX12_adds_81 (by decide) (fun c81 => ?_) (fun c81 => ?_)
        · rw [nI_leI (by omega) (by omega)] at c81
          refine j_aload_n C 0 dX12_adds_93 rfl ?_
          refine rg C (v := .int ((upd V1 16 (-1)) 17)) 17 (by decide) kf12_178 rfl dX12_adds_94 ?_
          refine j_v (nI i) (by rw [pk_un (by omega)]; exact hb17) ?_
          refine j_iret C dX12_adds_97 ?_
          unfold sp_adds
          rw [if_pos ⟨c5, c15⟩, tN_nI (n := pn) (by omega), tN_nI (n := nn) (by omega)]
          have hls : lsF (addP V row pn nn) 41 0 = i := lsF_at (P := addP V row pn nn) (Nat.zero_le _) (by omega) (fun j _ hj h => h ((hg_eq e3 e8 hn6 hw8).mpr (hno j hj))) (Or.inr (by omega))
          rw [hls]
          have hq : VE V1 (addV V pn i) := hV
          have hE : EQ (sR (upd V1 16 (-1)) row kept t1 bf fd pk1 bo so sh mv tr) (sR V row kept tried bf fd pk bo so sh mv tr) := EQ.of6 (by rw [pk_un (by omega), hq 4 (by omega)]; rfl) (by rw [pk_un (by omega), hq 5 (by omega)]; rfl) (by rw [pk_un (by omega), hq 15 (by omega)]; rfl) (by rw [pk_us, hV16]) (by rw [pk_un (by omega), hq 18 (by omega)]; rfl) (by rw [pk_un (by omega), hq 26 (by omega)]; rfl)
          rw [if_pos (by omega)]
          exact ⟨rfl, hE⟩
        · rw [nI_leI (by omega) (by omega)] at c81
          refine j_aload_n C 0 dX12_adds_84 rfl ?_
          refine j_ldc C (-1000000002) dX12_adds_85 kc12_213 ?_
          refine j_callV (As := [.int (-1000000002)]) (rest := []) C vw12_errs (c_errs 2 (by decide) (by decide)) rRcv rfl (Nat.le_of_ble_eq_true rfl) dX12_adds_87 (by decide) ?_
          rintro _ _ ⟨rfl, rfl⟩
          refine j_goto C 97 dX12_adds_90 (by decide) ?_
          refine j_iret C dX12_adds_97 ?_
          unfold sp_adds
          rw [if_pos ⟨c5, c15⟩, tN_nI (n := pn) (by omega), tN_nI (n := nn) (by omega)]
          have hls : lsF (addP V row pn nn) 41 0 = i := lsF_at (P := addP V row pn nn) (Nat.zero_le _) (by omega) (fun j _ hj h => h ((hg_eq e3 e8 hn6 hw8).mpr (hno j hj))) (Or.inr (by omega))
          rw [hls]
          have hq : VE V1 (addV V pn i) := hV
          have hE : EQ (sR (upd V1 16 (-1)) row kept t1 bf (ue fd 2) pk1 bo so sh mv tr) (sR V row kept tried bf (ue fd 2) pk bo so sh mv tr) := EQ.of6 (by rw [pk_un (by omega), hq 4 (by omega)]; rfl) (by rw [pk_un (by omega), hq 5 (by omega)]; rfl) (by rw [pk_un (by omega), hq 15 (by omega)]; rfl) (by rw [pk_us, hV16]) (by rw [pk_un (by omega), hq 18 (by omega)]; rfl) (by rw [pk_un (by omega), hq 26 (by omega)]; rfl)
          rw [if_neg (by omega)]
          exact ⟨rfl, hE⟩
      · rw [nI_ltI (by omega) (by omega)] at c41
        refine j_aload_n C 0 dX12_adds_44 rfl ?_
        refine j_iload_n C 2 dX12_adds_45 rfl ?_
        refine j_callV (As := [.int (nI nn)]) (rest := []) C vw12_starving (c_starving nn (by omega) hI) rRcv rfl (Nat.le_of_ble_eq_true rfl) dX12_adds_46 (by decide) ?_
        rintro _ _ ⟨Vx1, pkx2, hVx1, rfl, rfl⟩
        refine j_iload_n C 1 dX12_adds_49 rfl ?_
        refine j_ishr C dX12_adds_50 ?_
        refine j_iconst C (v := (nI 1)) dX12_adds_51 (by decide) ?_
        refine j_iand C dX12_adds_52 ?_
        rw [hwv]
        refine j_v (bI (row (30 + 6 * pn + 5) < dawnsF np (wv (addV V pn i) row nw) row nn (30 + 6 * pn + 5))) (hun_bit hn6 hpn) ?_
        refine j_iconst C (v := (nI 1)) dX12_adds_53 (by decide) ?_
        refine j_icmp_ne C 70 dX12_adds_54 (by decide) (fun c54 => ?_) (fun c54 => ?_)
        · replace c54 := bI_n1 c54
          refine j_aload_n C 0 dX12_adds_70 rfl ?_
          refine j_iconst C (v := (-1)) dX12_adds_71 (by decide) ?_
          refine rp_16 C kf12_25 dX12_adds_72 ?_
          refine j_aload_n C 0 dX12_adds_75 rfl ?_
          refine rg C (v := .int ((upd Vx1 16 (-1)) 17)) 17 (by decide) kf12_178 rfl dX12_adds_76 ?_
          refine j_v (nI i) (by rw [pk_un (by omega), hVx1 17 (by omega)]; exact hb17) ?_
          refine j_bipush C (v := (nI 40)) dX12_adds_79 (by decide) ?_
          refine j_icmp_le C 93 dX12_adds_81 (by decide) (fun c81 => ?_) (fun c81 => ?_)
          · rw [nI_leI (by omega) (by omega)] at c81
            refine j_aload_n C 0 dX12_adds_93 rfl ?_
            refine rg C (v := .int ((upd Vx1 16 (-1)) 17)) 17 (by decide) kf12_178 rfl dX12_adds_94 ?_
            refine j_v (nI i) (by rw [pk_un (by omega), hVx1 17 (by omega)]; exact hb17) ?_
            refine j_iret C dX12_adds_97 ?_
            unfold sp_adds
            rw [if_pos ⟨c5, c15⟩, tN_nI (n := pn) (by omega), tN_nI (n := nn) (by omega)]
            have hls : lsF (addP V row pn nn) 41 0 = i := lsF_at (P := addP V row pn nn) (Nat.zero_le _) (by omega) (fun j _ hj h => h ((hg_eq e3 e8 hn6 hw8).mpr (hno j hj))) (Or.inl (fun g => c54 ((hg_eq e3 e8 hn6 hw8).mp g)))
            rw [hls]
            have hq : VE Vx1 (addV V pn i) := hVx1.tr hV
            have hE : EQ (sR (upd Vx1 16 (-1)) row kept row bf fd pkx2 bo so sh mv tr) (sR V row kept tried bf fd pk bo so sh mv tr) := EQ.of6 (by rw [pk_un (by omega), hq 4 (by omega)]; rfl) (by rw [pk_un (by omega), hq 5 (by omega)]; rfl) (by rw [pk_un (by omega), hq 15 (by omega)]; rfl) (by rw [pk_us, hV16]) (by rw [pk_un (by omega), hq 18 (by omega)]; rfl) (by rw [pk_un (by omega), hq 26 (by omega)]; rfl)
            rw [if_pos (by omega)]
            exact ⟨rfl, hE⟩
          · rw [nI_leI (by omega) (by omega)] at c81
            refine j_aload_n C 0 dX12_adds_84 rfl ?_
            refine j_ldc C (-1000000002) dX12_adds_85 kc12_213 ?_
            refine j_callV (As := [.int (-1000000002)]) (rest := []) C vw12_errs (c_errs 2 (by decide) (by decide)) rRcv rfl (Nat.le_of_ble_eq_true rfl) dX12_adds_87 (by decide) ?_
            rintro _ _ ⟨rfl, rfl⟩
            refine j_goto C 97 dX12_adds_90 (by decide) ?_
            refine j_iret C dX12_adds_97 ?_
            unfold sp_adds
            rw [if_pos ⟨c5, c15⟩, tN_nI (n := pn) (by omega), tN_nI (n := nn) (by omega)]
            have hls : lsF (addP V row pn nn) 41 0 = i := lsF_at (P := addP V row pn nn) (Nat.zero_le _) (by omega) (fun j _ hj h => h ((hg_eq e3 e8 hn6 hw8).mpr (hno j hj))) (Or.inl (fun g => c54 ((hg_eq e3 e8 hn6 hw8).mp g)))
            rw [hls]
            have hq : VE Vx1 (addV V pn i) := hVx1.tr hV
            have hE : EQ (sR (upd Vx1 16 (-1)) row kept row bf (ue fd 2) pkx2 bo so sh mv tr) (sR V row kept tried bf (ue fd 2) pk bo so sh mv tr) := EQ.of6 (by rw [pk_un (by omega), hq 4 (by omega)]; rfl) (by rw [pk_un (by omega), hq 5 (by omega)]; rfl) (by rw [pk_un (by omega), hq 15 (by omega)]; rfl) (by rw [pk_us, hV16]) (by rw [pk_un (by omega), hq 18 (by omega)]; rfl) (by rw [pk_un (by omega), hq 26 (by omega)]; rfl)
            rw [if_neg (by omega)]
            exact ⟨rfl, hE⟩
        · replace c54 := bI_e1 c54
          refine j_aload_n C 0 dX12_adds_57 rfl ?_
          refine j_dup C dX12_adds_58 rfl ?_
          refine rg C (v := .int (Vx1 17)) 17 (by decide) kf12_178 rfl dX12_adds_59 ?_
          refine j_v (nI i) (by rw [hVx1 17 (by omega)]; exact hb17) ?_
          refine j_iconst C (v := (nI 1)) dX12_adds_62 (by decide) ?_
          refine j_iaddN C dX12_adds_63 ?_
          refine rp_17 C kf12_178 dX12_adds_64 ?_
          refine j_goto C 35 dX12_adds_67 (by decide) ?_
          refine j_L [0, 1, 2] [(0, .ref o), (1, .int (nI pn)), (2, .int (nI nn))] rfl ?_
          refine ih (i + 1, upd Vx1 17 (nI (i + 1)), row, pkx2) ⟨by dsimp only; omega, (hVx1.tr hV).ov, fun j hj => ?_⟩ (by dsimp only; omega)
          dsimp only at hj
          by_cases ej : j = i
          · subst ej; exact c54
          · exact hno j (by omega)
    · replace c15 := bI_f c15
      refine j_aload_n C 0 dX12_adds_18 rfl ?_
      refine j_ldc C (-1000000001) dX12_adds_19 kc12_55 ?_
      refine j_callV (As := [.int (-1000000001)]) (rest := []) C vw12_errs (c_errs 1 (by decide) (by decide)) rRcv rfl (Nat.le_of_ble_eq_true rfl) dX12_adds_21 (by decide) ?_
      rintro _ _ ⟨rfl, rfl⟩
      refine j_iret C dX12_adds_24 ?_
      unfold sp_adds
      rw [if_neg (fun h => c15 h.2)]
      exact ⟨rfl, EQ.rf⟩

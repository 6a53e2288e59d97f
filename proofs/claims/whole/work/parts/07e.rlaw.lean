/-! The reference's reader: all levels; a law's worth. -/
theorem pc_all {l : Launch} {D : va_G} {cI cG cW : ClassId} {o : Nat} {q : Nat → Nat} {row kept tried bf fd pk bo so sh mv tr : Nat → Int32} {u n : Nat} {a b c : Int32} (hu : u ≤ 1) (hn : n ≤ 50) (f : Nat) : PC l D cI cG cW o q row kept tried bf fd pk bo so sh mv tr u n a b c yX12_factor cX12_factor 3 5 f ∧ PC l D cI cG cW o q row kept tried bf fd pk bo so sh mv tr u n a b c yX12_product cX12_product 4 4 f ∧ PC l D cI cG cW o q row kept tried bf fd pk bo so sh mv tr u n a b c yX12_sum cX12_sum 4 3 f ∧ PC l D cI cG cW o q row kept tried bf fd pk bo so sh mv tr u n a b c yX12_compared cX12_compared 5 2 f ∧ PC l D cI cG cW o q row kept tried bf fd pk bo so sh mv tr u n a b c yX12_both cX12_both 3 1 f ∧ PC l D cI cG cW o q row kept tried bf fd pk bo so sh mv tr u n a b c yX12_whole cX12_whole 3 0 f := by
  induction f using Nat.strongRecOn with
  | _ f ih =>
    exact ⟨c_factor hu hn f (fun f' h => (ih f' h).1) (fun f' h => (ih f' h).2.2.2.2.2), c_product hu hn f (fun f' h => (ih f' h).1), c_sum hu hn f (fun f' h => (ih f' h).2.1), c_compared hu hn f (fun f' h => (ih f' h).2.2.1), c_both hu hn f (fun f' h => (ih f' h).2.2.2.1), c_whole hu hn f (fun f' h => (ih f' h).2.2.2.2.1)⟩
theorem readF_eq (b : Nat → Int32) (n u : Nat) : readF b n u = prs b n u 1000 0 false 0 0 [] := rfl
theorem Pst_0 (V : Nat → Int32) (u n : Nat) (a b c : Int32) : Pst (upd (upd (upd (upd (upd (upd (upd (upd V 7 (nI u)) 8 (nI 0)) 9 (nI n)) 10 (nI 0)) 14 (nI 1)) 11 a) 12 b) 13 c) u n 0 0 a b c true := ⟨rfl, rfl, rfl, rfl, rfl, rfl, rfl, by rw [pk_un (by omega), pk_un (by omega), pk_un (by omega), pk_us]; decide⟩
theorem VE_8 (V : Nat → Int32) (u n : Nat) (a b c : Int32) : VE (upd (upd (upd (upd (upd (upd (upd (upd V 7 (nI u)) 8 (nI 0)) 9 (nI n)) 10 (nI 0)) 14 (nI 1)) 11 a) 12 b) 13 c) V := ((((((((VE.rf (V := V)).s2 7 (nI u) (by omega)).s2 8 (nI 0) (by omega)).s2 9 (nI n) (by omega)).s2 10 (nI 0) (by omega)).s2 14 (nI 1) (by omega)).s2 11 a (by omega)).s2 12 b (by omega)).s2 13 c (by omega)

theorem dX12_walks_0 : decode cX12_walks 0 = .ok (.aload_n 0, 1) := by decide +kernel
theorem dX12_walks_1 : decode cX12_walks 1 = .ok (.iload_n 1, 1) := by decide +kernel
theorem dX12_walks_2 : decode cX12_walks 2 = .ok (.putfield 102, 3) := by decide +kernel
theorem dX12_walks_5 : decode cX12_walks 5 = .ok (.aload_n 0, 1) := by decide +kernel
theorem dX12_walks_6 : decode cX12_walks 6 = .ok (.iconst 0, 1) := by decide +kernel
theorem dX12_walks_7 : decode cX12_walks 7 = .ok (.putfield 109, 3) := by decide +kernel
theorem dX12_walks_10 : decode cX12_walks 10 = .ok (.aload_n 0, 1) := by decide +kernel
theorem dX12_walks_11 : decode cX12_walks 11 = .ok (.aload_n 0, 1) := by decide +kernel
theorem dX12_walks_12 : decode cX12_walks 12 = .ok (.getfield 7, 3) := by decide +kernel
theorem dX12_walks_15 : decode cX12_walks 15 = .ok (.bipush 6, 2) := by decide +kernel
theorem dX12_walks_17 : decode cX12_walks 17 = .ok (.iload_n 1, 1) := by decide +kernel
theorem dX12_walks_18 : decode cX12_walks 18 = .ok (.iadd, 1) := by decide +kernel
theorem dX12_walks_19 : decode cX12_walks 19 = .ok (.iaload, 1) := by decide +kernel
theorem dX12_walks_20 : decode cX12_walks 20 = .ok (.putfield 99, 3) := by decide +kernel
theorem dX12_walks_23 : decode cX12_walks 23 = .ok (.aload_n 0, 1) := by decide +kernel
theorem dX12_walks_24 : decode cX12_walks 24 = .ok (.iconst 0, 1) := by decide +kernel
theorem dX12_walks_25 : decode cX12_walks 25 = .ok (.putfield 137, 3) := by decide +kernel
theorem dX12_walks_28 : decode cX12_walks 28 = .ok (.aload_n 0, 1) := by decide +kernel
theorem dX12_walks_29 : decode cX12_walks 29 = .ok (.iconst 1, 1) := by decide +kernel
theorem dX12_walks_30 : decode cX12_walks 30 = .ok (.putfield 105, 3) := by decide +kernel
theorem dX12_walks_33 : decode cX12_walks 33 = .ok (.aload_n 0, 1) := by decide +kernel
theorem dX12_walks_34 : decode cX12_walks 34 = .ok (.iload_n 2, 1) := by decide +kernel
theorem dX12_walks_35 : decode cX12_walks 35 = .ok (.putfield 122, 3) := by decide +kernel
theorem dX12_walks_38 : decode cX12_walks 38 = .ok (.aload_n 0, 1) := by decide +kernel
theorem dX12_walks_39 : decode cX12_walks 39 = .ok (.iload_n 3, 1) := by decide +kernel
theorem dX12_walks_40 : decode cX12_walks 40 = .ok (.putfield 125, 3) := by decide +kernel
theorem dX12_walks_43 : decode cX12_walks 43 = .ok (.aload_n 0, 1) := by decide +kernel
theorem dX12_walks_44 : decode cX12_walks 44 = .ok (.iload 4, 2) := by decide +kernel
theorem dX12_walks_46 : decode cX12_walks 46 = .ok (.putfield 128, 3) := by decide +kernel
theorem dX12_walks_49 : decode cX12_walks 49 = .ok (.aload_n 0, 1) := by decide +kernel
theorem dX12_walks_50 : decode cX12_walks 50 = .ok (.invokevirtual 143, 3) := by decide +kernel
theorem dX12_walks_53 : decode cX12_walks 53 = .ok (.istore 5, 2) := by decide +kernel
theorem dX12_walks_55 : decode cX12_walks 55 = .ok (.aload_n 0, 1) := by decide +kernel
theorem dX12_walks_56 : decode cX12_walks 56 = .ok (.aload_n 0, 1) := by decide +kernel
theorem dX12_walks_57 : decode cX12_walks 57 = .ok (.getfield 105, 3) := by decide +kernel
theorem dX12_walks_60 : decode cX12_walks 60 = .ok (.ifCond .eq 18, 3) := by decide +kernel
theorem dX12_walks_63 : decode cX12_walks 63 = .ok (.aload_n 0, 1) := by decide +kernel
theorem dX12_walks_64 : decode cX12_walks 64 = .ok (.getfield 109, 3) := by decide +kernel
theorem dX12_walks_67 : decode cX12_walks 67 = .ok (.aload_n 0, 1) := by decide +kernel
theorem dX12_walks_68 : decode cX12_walks 68 = .ok (.getfield 99, 3) := by decide +kernel
theorem dX12_walks_71 : decode cX12_walks 71 = .ok (.if_icmp .ne 7, 3) := by decide +kernel
theorem dX12_walks_74 : decode cX12_walks 74 = .ok (.iconst 1, 1) := by decide +kernel
theorem dX12_walks_75 : decode cX12_walks 75 = .ok (.goto 4, 3) := by decide +kernel
theorem dX12_walks_78 : decode cX12_walks 78 = .ok (.iconst 0, 1) := by decide +kernel
theorem dX12_walks_79 : decode cX12_walks 79 = .ok (.putfield 105, 3) := by decide +kernel
theorem dX12_walks_82 : decode cX12_walks 82 = .ok (.iload 5, 2) := by decide +kernel
theorem dX12_walks_84 : decode cX12_walks 84 = .ok (.ireturn, 1) := by decide +kernel
set_option maxHeartbeats 2000000 in
set_option maxRecDepth 20000 in
theorem c_walks {l : Launch} {D : va_G} {cI cG cW : ClassId} {o : Nat} {q : Nat → Nat} {V row kept tried bf fd pk bo so sh mv tr : Nat → Int32} (u : Nat) {a b c : Int32} (hu : u ≤ 1) {n : Nat} (hn : n ≤ 50) (e6 : row (6 + u) = nI n) : Ci l yX12_walks cX12_walks 6 (some .int) 50 D (tyL cI cG cW) (wR cI o q) [.ref o, .int (nI u), .int a, .int b, .int c] (sR V row kept tried bf fd pk bo so sh mv tr) (fun r τ => ∃ V1, VE V1 V ∧ V1 8 = nI (readF (txF row u) n u).2.1 ∧ V1 14 = bI ((readF (txF row u) n u).1 = true ∧ (readF (txF row u) n u).2.1 = n) ∧ ((readF (txF row u) n u).1 = true → Seg a b c (readF (txF row u) n u).2.2 r) ∧ τ = sR V1 row kept tried bf fd pk bo so sh mv tr) := by
  refine Ci.of (by decide) (Nat.le_of_ble_eq_true rfl) ?_
  intro p_ e_ s_ m_ b_ M_ c_ A_ C
  replace C : Cx _ _ _ _ _ _ _ _ RX12 _ _ _ _ := C
  refine j_L [0, 1, 2, 3, 4] [(0, .ref o), (1, .int (nI u)), (2, .int a), (3, .int b), (4, .int c)] rfl ?_
  refine j_aload_n C 0 dX12_walks_0 rfl ?_
  refine j_iload_n C 1 dX12_walks_1 rfl ?_
  refine rp_7 C kf12_102 dX12_walks_2 ?_
  refine j_aload_n C 0 dX12_walks_5 rfl ?_
  refine j_iconst C (v := (nI 0)) dX12_walks_6 (by decide) ?_
  refine rp_8 C kf12_109 dX12_walks_7 ?_
  refine j_aload_n C 0 dX12_walks_10 rfl ?_
  refine j_aload_n C 0 dX12_walks_11 rfl ?_
  refine rg C (v := .ref (q 0)) 0 (by decide) kf12_7 rfl dX12_walks_12 ?_
  refine j_bipush C (v := (nI 6)) dX12_walks_15 (by decide) ?_
  refine j_iload_n C 1 dX12_walks_17 rfl ?_
  refine j_iaddN C dX12_walks_18 ?_
  refine rl_row C (6 + u) rfl (by omega) dX12_walks_19 ?_
  refine j_v (nI n) e6 ?_
  refine rp_9 C kf12_99 dX12_walks_20 ?_
  refine j_aload_n C 0 dX12_walks_23 rfl ?_
  refine j_iconst C (v := (nI 0)) dX12_walks_24 (by decide) ?_
  refine rp_10 C kf12_137 dX12_walks_25 ?_
  refine j_aload_n C 0 dX12_walks_28 rfl ?_
  refine j_iconst C (v := (nI 1)) dX12_walks_29 (by decide) ?_
  refine rp_14 C (by decide) kf12_105 dX12_walks_30 ?_
  refine j_aload_n C 0 dX12_walks_33 rfl ?_
  refine j_iload_n C 2 dX12_walks_34 rfl ?_
  refine rp_11 C kf12_122 dX12_walks_35 ?_
  refine j_aload_n C 0 dX12_walks_38 rfl ?_
  refine j_iload_n C 3 dX12_walks_39 rfl ?_
  refine rp_12 C kf12_125 dX12_walks_40 ?_
  refine j_aload_n C 0 dX12_walks_43 rfl ?_
  refine j_iload C 4 dX12_walks_44 rfl ?_
  refine rp_13 C kf12_128 dX12_walks_46 ?_
  have hp0 := Pst_0 V u n a b c
  have ve0 := VE_8 V u n a b c
  refine j_aload_n C 0 dX12_walks_49 rfl ?_
  refine j_callV (As := []) (rest := []) C vw12_whole ((pc_all hu hn 1000).2.2.2.2.2 (upd (upd (upd (upd (upd (upd (upd (upd V 7 (nI u)) 8 (nI 0)) 9 (nI n)) 10 (nI 0)) 14 (nI 1)) 11 a) 12 b) 13 c) 0 0 [] hp0 (by omega) (by omega) (by omega)) rRcv rfl (Nat.le_of_ble_eq_true rfl) dX12_walks_50 (by decide) ?_
  rintro r1 _ ⟨W1, hW1, hP1, hS1, rfl⟩
  obtain ⟨res1, hr1⟩ : ∃ x, x = prs (txF row u) n u 1000 0 false 0 0 ([]) := ⟨_, rfl⟩
  rw [← hr1] at hP1 hS1
  have hpr1 := prs_pr (b := txF row u) (n := n) (u := u) 1000 0 false 0 0 ([]) (by omega) (fun h => by cases h) (by omega)
  rw [← hr1] at hpr1
  have ve1 := hW1.tr ve0
  refine j_istore C [(5, .int r1), (0, .ref o), (1, .int (nI u)), (2, .int a), (3, .int b), (4, .int c)] dX12_walks_53 (by decide) rfl ?_
  refine j_aload_n C 1 dX12_walks_55 rfl ?_
  refine j_aload_n C 1 dX12_walks_56 rfl ?_
  refine rg C (v := .int (W1 14)) 14 (by decide) kf12_105 rfl dX12_walks_57 ?_
  refine j_v (bI (res1.1 = true)) hP1.2.2.2.2.2.2.2 ?_
  refine j_if_eq C 78 dX12_walks_60 (by decide) (fun c60 => ?_) (fun c60 => ?_)
  · replace c60 := bI_f c60
    refine j_iconst C (v := (nI 0)) dX12_walks_78 (by decide) ?_
    refine rp_14 C (by decide) kf12_105 dX12_walks_79 ?_
    refine j_iload C 0 dX12_walks_82 rfl ?_
    refine j_iret C dX12_walks_84 ?_
    refine ⟨_, VE.s2 ve1 14 _ (by omega), ?_, ?_, fun h => ?_, rfl⟩
    · rw [pk_un (by omega), hP1.2.1, hr1, readF_eq]
    · rw [pk_us]
      rw [readF_eq, ← hr1]
      exact bI0 (fun h => c60 h.1)
    · rw [readF_eq, ← hr1] at h ⊢
      obtain ⟨seg, hc, hs⟩ := hS1 h
      rw [hc]; exact hs
  · replace c60 := bI_t c60
    refine j_aload_n C 1 dX12_walks_63 rfl ?_
    refine rg C (v := .int (W1 8)) 8 (by decide) kf12_109 rfl dX12_walks_64 ?_
    refine j_v (nI res1.2.1) hP1.2.1 ?_
    refine j_aload_n C 1 dX12_walks_67 rfl ?_
    refine rg C (v := .int (W1 9)) 9 (by decide) kf12_99 rfl dX12_walks_68 ?_
    refine j_v (nI n) hP1.2.2.1 ?_
    refine j_icmp_ne C 78 dX12_walks_71 (by decide) (fun c71 => ?_) (fun c71 => ?_)
    · rw [nI_eq (by omega) (by omega)] at c71
      refine j_iconst C (v := (nI 0)) dX12_walks_78 (by decide) ?_
      refine rp_14 C (by decide) kf12_105 dX12_walks_79 ?_
      refine j_iload C 0 dX12_walks_82 rfl ?_
      refine j_iret C dX12_walks_84 ?_
      refine ⟨_, VE.s2 ve1 14 _ (by omega), ?_, ?_, fun h => ?_, rfl⟩
      · rw [pk_un (by omega), hP1.2.1, hr1, readF_eq]
      · rw [pk_us]
        rw [readF_eq, ← hr1]
        exact bI0 (fun h => c71 h.2)
      · rw [readF_eq, ← hr1] at h ⊢
        obtain ⟨seg, hc, hs⟩ := hS1 h
        rw [hc]; exact hs
    · rw [nI_eq (by omega) (by omega)] at c71
      refine j_iconst C (v := (nI 1)) dX12_walks_74 (by decide) ?_
      refine j_goto C 79 dX12_walks_75 (by decide) ?_
      refine rp_14 C (by decide) kf12_105 dX12_walks_79 ?_
      refine j_iload C 0 dX12_walks_82 rfl ?_
      refine j_iret C dX12_walks_84 ?_
      refine ⟨_, VE.s2 ve1 14 _ (by omega), ?_, ?_, fun h => ?_, rfl⟩
      · rw [pk_un (by omega), hP1.2.1, hr1, readF_eq]
      · rw [pk_us]
        rw [readF_eq, ← hr1]
        exact bI1 ⟨c60, c71⟩
      · rw [readF_eq, ← hr1] at h ⊢
        obtain ⟨seg, hc, hs⟩ := hS1 h
        rw [hc]; exact hs
theorem dX12_lawOf_0 : decode cX12_lawOf 0 = .ok (.iload_n 1, 1) := by decide +kernel
theorem dX12_lawOf_1 : decode cX12_lawOf 1 = .ok (.ifCond .ne 8, 3) := by decide +kernel
theorem dX12_lawOf_4 : decode cX12_lawOf 4 = .ok (.bipush 9, 2) := by decide +kernel
theorem dX12_lawOf_6 : decode cX12_lawOf 6 = .ok (.goto 5, 3) := by decide +kernel
theorem dX12_lawOf_9 : decode cX12_lawOf 9 = .ok (.bipush 99, 2) := by decide +kernel
theorem dX12_lawOf_11 : decode cX12_lawOf 11 = .ok (.istore 5, 2) := by decide +kernel
theorem dX12_lawOf_13 : decode cX12_lawOf 13 = .ok (.aload_n 0, 1) := by decide +kernel
theorem dX12_lawOf_14 : decode cX12_lawOf 14 = .ok (.getfield 7, 3) := by decide +kernel
theorem dX12_lawOf_17 : decode cX12_lawOf 17 = .ok (.bipush 6, 2) := by decide +kernel
theorem dX12_lawOf_19 : decode cX12_lawOf 19 = .ok (.iload_n 1, 1) := by decide +kernel
theorem dX12_lawOf_20 : decode cX12_lawOf 20 = .ok (.iadd, 1) := by decide +kernel
theorem dX12_lawOf_21 : decode cX12_lawOf 21 = .ok (.iaload, 1) := by decide +kernel
theorem dX12_lawOf_22 : decode cX12_lawOf 22 = .ok (.ifCond .lt 19, 3) := by decide +kernel
theorem dX12_lawOf_25 : decode cX12_lawOf 25 = .ok (.aload_n 0, 1) := by decide +kernel
theorem dX12_lawOf_26 : decode cX12_lawOf 26 = .ok (.iload_n 1, 1) := by decide +kernel
theorem dX12_lawOf_27 : decode cX12_lawOf 27 = .ok (.iload_n 2, 1) := by decide +kernel
theorem dX12_lawOf_28 : decode cX12_lawOf 28 = .ok (.iload_n 3, 1) := by decide +kernel
theorem dX12_lawOf_29 : decode cX12_lawOf 29 = .ok (.iload 4, 2) := by decide +kernel
theorem dX12_lawOf_31 : decode cX12_lawOf 31 = .ok (.invokevirtual 158, 3) := by decide +kernel
theorem dX12_lawOf_34 : decode cX12_lawOf 34 = .ok (.iconst 0, 1) := by decide +kernel
theorem dX12_lawOf_35 : decode cX12_lawOf 35 = .ok (.iload 5, 2) := by decide +kernel
theorem dX12_lawOf_37 : decode cX12_lawOf 37 = .ok (.invokestatic 162, 3) := by decide +kernel
theorem dX12_lawOf_40 : decode cX12_lawOf 40 = .ok (.ireturn, 1) := by decide +kernel
theorem dX12_lawOf_41 : decode cX12_lawOf 41 = .ok (.iload_n 1, 1) := by decide +kernel
theorem dX12_lawOf_42 : decode cX12_lawOf 42 = .ok (.ifCond .ne 9, 3) := by decide +kernel
theorem dX12_lawOf_45 : decode cX12_lawOf 45 = .ok (.iload_n 2, 1) := by decide +kernel
theorem dX12_lawOf_46 : decode cX12_lawOf 46 = .ok (.iconst 2, 1) := by decide +kernel
theorem dX12_lawOf_47 : decode cX12_lawOf 47 = .ok (.idiv, 1) := by decide +kernel
theorem dX12_lawOf_48 : decode cX12_lawOf 48 = .ok (.goto 6, 3) := by decide +kernel
theorem dX12_lawOf_51 : decode cX12_lawOf 51 = .ok (.iload_n 2, 1) := by decide +kernel
theorem dX12_lawOf_52 : decode cX12_lawOf 52 = .ok (.iconst 1, 1) := by decide +kernel
theorem dX12_lawOf_53 : decode cX12_lawOf 53 = .ok (.iadd, 1) := by decide +kernel
theorem dX12_lawOf_54 : decode cX12_lawOf 54 = .ok (.iconst 0, 1) := by decide +kernel
theorem dX12_lawOf_55 : decode cX12_lawOf 55 = .ok (.iload 5, 2) := by decide +kernel
theorem dX12_lawOf_57 : decode cX12_lawOf 57 = .ok (.invokestatic 162, 3) := by decide +kernel
theorem dX12_lawOf_60 : decode cX12_lawOf 60 = .ok (.ireturn, 1) := by decide +kernel
set_option maxHeartbeats 2000000 in
set_option maxRecDepth 20000 in
theorem c_lawOf {l : Launch} {D : va_G} {cI cG cW : ClassId} {o : Nat} {q : Nat → Nat} {V row kept tried bf fd pk bo so sh mv tr : Nat → Int32} (u : Nat) {a b c : Int32} (hu : u ≤ 1) (hT : txtOK row u) : Ci l yX12_lawOf cX12_lawOf 6 (some .int) 80 D (tyL cI cG cW) (wR cI o q) [.ref o, .int (nI u), .int a, .int b, .int c] (sR V row kept tried bf fd pk bo so sh mv tr) (fun r τ => ∃ V1, VE V1 V ∧ r = lawF row u a b c ∧ τ = sR V1 row kept tried bf fd pk bo so sh mv tr) := by
  refine Ci.of (by decide) (Nat.le_of_ble_eq_true rfl) ?_
  intro p_ e_ s_ m_ b_ M_ c_ A_ C
  replace C : Cx _ _ _ _ _ _ _ _ RX12 _ _ _ _ := C
  refine j_L [0, 1, 2, 3, 4] [(0, .ref o), (1, .int (nI u)), (2, .int a), (3, .int b), (4, .int c)] rfl ?_
  rcases (show u = 0 ∨ u = 1 by omega) with rfl | rfl
  · refine j_iload_n C 1 dX12_lawOf_0 rfl ?_
    refine j_if_ne C 9 dX12_lawOf_1 (by decide) (fun c1 => ?_) (fun c1 => ?_)
    · rw [show (0 : Int32) = nI 0 from rfl, nI_eq (by omega) (by omega)] at c1
      exfalso; omega
    · rw [show (0 : Int32) = nI 0 from rfl, nI_eq (by omega) (by omega)] at c1
      refine j_bipush C (v := (nI 9)) dX12_lawOf_4 (by decide) ?_
      refine j_goto C 11 dX12_lawOf_6 (by decide) ?_
      refine j_istore C [(5, .int (nI 9)), (0, .ref o), (1, .int (nI 0)), (2, .int a), (3, .int b), (4, .int c)] dX12_lawOf_11 (by decide) rfl ?_
      refine j_aload_n C 1 dX12_lawOf_13 rfl ?_
      refine rg C (v := .ref (q 0)) 0 (by decide) kf12_7 rfl dX12_lawOf_14 ?_
      refine j_bipush C (v := (nI 6)) dX12_lawOf_17 (by decide) ?_
      refine j_iload_n C 2 dX12_lawOf_19 rfl ?_
      refine j_iaddN C dX12_lawOf_20 ?_
      refine rl_row C (6 + 0) rfl (by omega) dX12_lawOf_21 ?_
      refine j_if_lt C 41 dX12_lawOf_22 (by decide) (fun c22 => ?_) (fun c22 => ?_)
      · skip
        refine j_iload_n C 2 dX12_lawOf_41 rfl ?_
        refine j_if_ne C 51 dX12_lawOf_42 (by decide) (fun c42 => ?_) (fun c42 => ?_)
        · rw [show (0 : Int32) = nI 0 from rfl, nI_eq (by omega) (by omega)] at c42
          exact absurd c1 c42
        · rw [show (0 : Int32) = nI 0 from rfl, nI_eq (by omega) (by omega)] at c42
          refine j_iload_n C 3 dX12_lawOf_45 rfl ?_
          refine j_iconst C (v := (nI 2)) dX12_lawOf_46 (by decide) ?_
          refine j_idiv C dX12_lawOf_47 (by decide) ?_
          refine j_goto C 54 dX12_lawOf_48 (by decide) ?_
          refine j_iconst C (v := (nI 0)) dX12_lawOf_54 (by decide) ?_
          refine j_iload C 0 dX12_lawOf_55 rfl ?_
          refine j_callS (As := [.int (a / (nI 2)), .int (nI 0), .int (nI 9)]) (rest := []) C vw12_held (c_held) rfl (Nat.le_of_ble_eq_true rfl) dX12_lawOf_57 (by decide) ?_
          rintro _ _ ⟨rfl, rfl⟩
          refine j_iret C dX12_lawOf_60 ?_
          refine ⟨V, VE.rf, ?_, rfl⟩
          unfold lawF
          rw [if_neg (c := 0 ≤ row (6 + 0)) (ltn c22)]
          rfl
      · skip
        obtain ⟨n, hn, en, hgo, hat⟩ : ∃ n : Nat, n ≤ 50 ∧ row (6 + 0) = nI n ∧ (readF (txF row 0) n 0).1 = true ∧ (readF (txF row 0) n 0).2.1 = n := by
          rcases hT with h | h
          · exact absurd (by rw [h]; decide) c22
          · exact h
        refine j_aload_n C 1 dX12_lawOf_25 rfl ?_
        refine j_iload_n C 2 dX12_lawOf_26 rfl ?_
        refine j_iload_n C 3 dX12_lawOf_27 rfl ?_
        refine j_iload_n C 4 dX12_lawOf_28 rfl ?_
        refine j_iload C 5 dX12_lawOf_29 rfl ?_
        refine j_callV (As := [.int (nI 0), .int a, .int b, .int c]) (rest := []) C vw12_walks (c_walks 0 (by omega) hn en) rRcv rfl (Nat.le_of_ble_eq_true rfl) dX12_lawOf_31 (by decide) ?_
        rintro r0 _ ⟨V1, hV1, -, -, hsg, rfl⟩
        refine j_iconst C (v := (nI 0)) dX12_lawOf_34 (by decide) ?_
        refine j_iload C 0 dX12_lawOf_35 rfl ?_
        refine j_callS (As := [.int r0, .int (nI 0), .int (nI 9)]) (rest := []) C vw12_held (c_held) rfl (Nat.le_of_ble_eq_true rfl) dX12_lawOf_37 (by decide) ?_
        rintro _ _ ⟨rfl, rfl⟩
        refine j_iret C dX12_lawOf_40 ?_
        refine ⟨V1, hV1, ?_, rfl⟩
        unfold lawF
        rw [if_pos (c := 0 ≤ row (6 + 0)) (nlt c22), en, tN_nI (by omega), hsg hgo []]
        rfl
  · refine j_iload_n C 1 dX12_lawOf_0 rfl ?_
    refine j_if_ne C 9 dX12_lawOf_1 (by decide) (fun c1 => ?_) (fun c1 => ?_)
    · rw [show (0 : Int32) = nI 0 from rfl, nI_eq (by omega) (by omega)] at c1
      refine j_bipush C (v := (nI 99)) dX12_lawOf_9 (by decide) ?_
      refine j_istore C [(5, .int (nI 99)), (0, .ref o), (1, .int (nI 1)), (2, .int a), (3, .int b), (4, .int c)] dX12_lawOf_11 (by decide) rfl ?_
      refine j_aload_n C 1 dX12_lawOf_13 rfl ?_
      refine rg C (v := .ref (q 0)) 0 (by decide) kf12_7 rfl dX12_lawOf_14 ?_
      refine j_bipush C (v := (nI 6)) dX12_lawOf_17 (by decide) ?_
      refine j_iload_n C 2 dX12_lawOf_19 rfl ?_
      refine j_iaddN C dX12_lawOf_20 ?_
      refine rl_row C (6 + 1) rfl (by omega) dX12_lawOf_21 ?_
      refine j_if_lt C 41 dX12_lawOf_22 (by decide) (fun c22 => ?_) (fun c22 => ?_)
      · skip
        refine j_iload_n C 2 dX12_lawOf_41 rfl ?_
        refine j_if_ne C 51 dX12_lawOf_42 (by decide) (fun c42 => ?_) (fun c42 => ?_)
        · rw [show (0 : Int32) = nI 0 from rfl, nI_eq (by omega) (by omega)] at c42
          refine j_iload_n C 3 dX12_lawOf_51 rfl ?_
          refine j_iconst C (v := (nI 1)) dX12_lawOf_52 (by decide) ?_
          refine j_iadd C dX12_lawOf_53 ?_
          refine j_iconst C (v := (nI 0)) dX12_lawOf_54 (by decide) ?_
          refine j_iload C 0 dX12_lawOf_55 rfl ?_
          refine j_callS (As := [.int (a + (nI 1)), .int (nI 0), .int (nI 99)]) (rest := []) C vw12_held (c_held) rfl (Nat.le_of_ble_eq_true rfl) dX12_lawOf_57 (by decide) ?_
          rintro _ _ ⟨rfl, rfl⟩
          refine j_iret C dX12_lawOf_60 ?_
          refine ⟨V, VE.rf, ?_, rfl⟩
          unfold lawF
          rw [if_neg (c := 0 ≤ row (6 + 1)) (ltn c22)]
          rfl
        · rw [show (0 : Int32) = nI 0 from rfl, nI_eq (by omega) (by omega)] at c42
          exact absurd c42 c1
      · skip
        obtain ⟨n, hn, en, hgo, hat⟩ : ∃ n : Nat, n ≤ 50 ∧ row (6 + 1) = nI n ∧ (readF (txF row 1) n 1).1 = true ∧ (readF (txF row 1) n 1).2.1 = n := by
          rcases hT with h | h
          · exact absurd (by rw [h]; decide) c22
          · exact h
        refine j_aload_n C 1 dX12_lawOf_25 rfl ?_
        refine j_iload_n C 2 dX12_lawOf_26 rfl ?_
        refine j_iload_n C 3 dX12_lawOf_27 rfl ?_
        refine j_iload_n C 4 dX12_lawOf_28 rfl ?_
        refine j_iload C 5 dX12_lawOf_29 rfl ?_
        refine j_callV (As := [.int (nI 1), .int a, .int b, .int c]) (rest := []) C vw12_walks (c_walks 1 (by omega) hn en) rRcv rfl (Nat.le_of_ble_eq_true rfl) dX12_lawOf_31 (by decide) ?_
        rintro r0 _ ⟨V1, hV1, -, -, hsg, rfl⟩
        refine j_iconst C (v := (nI 0)) dX12_lawOf_34 (by decide) ?_
        refine j_iload C 0 dX12_lawOf_35 rfl ?_
        refine j_callS (As := [.int r0, .int (nI 0), .int (nI 99)]) (rest := []) C vw12_held (c_held) rfl (Nat.le_of_ble_eq_true rfl) dX12_lawOf_37 (by decide) ?_
        rintro _ _ ⟨rfl, rfl⟩
        refine j_iret C dX12_lawOf_40 ?_
        refine ⟨V1, hV1, ?_, rfl⟩
        unfold lawF
        rw [if_pos (c := 0 ≤ row (6 + 1)) (nlt c22), en, tN_nI (by omega), hsg hgo []]
        rfl
    · rw [show (0 : Int32) = nI 0 from rfl, nI_eq (by omega) (by omega)] at c1
      exfalso; omega

/-! The class's public calls: cells, people, wrongs. -/
theorem CF.setL {S : Nat → Int32} {X : Nat → Nat → Int32} {f : Nat} {row w : Nat → Int32} {nc np : Nat} (h : CF S X f row w nc np) (hc10 : nc ≤ 10) (a : Nat) (ha : a < nc) (e : Int32) : CF S (va_up X (37 + 10 * f) (upd (X (37 + 10 * f)) a e)) f (upd row (20 + a) e) w nc np := by
  refine ⟨?_, ?_, ?_, fun c hc => ?_, fun c hc => ?_, fun j hj p hp => ?_, fun p hp => ?_⟩
  · rw [pk_un (by omega)]; exact h.cells
  · rw [pk_un (by omega)]; exact h.dawn
  · rw [pk_un (by omega)]; exact h.people
  · rw [va_n (by omega), pk_un (by omega)]; exact h.ears c hc
  · rw [va_s]
    by_cases ec : c = a
    · subst ec; rw [pk_us, pk_us]
    · rw [pk_un ec, pk_un (by omega)]; exact h.low c hc
  · rw [va_n (by omega), pk_un (by omega)]; exact h.per j hj p hp
  · rw [va_n (by omega)]; exact h.weighs p hp
theorem CK.row {S : Nat → Int32} {X X' : Nat → Nat → Int32} {u : Nat} {row row' : Nat → Int32} {nw nt nq : Nat} (h : CK S X u row nw nt nq) (hX : ∀ k, (66 + 3 * u ≤ k ∧ k < 69 + 3 * u) ∨ (72 + 2 * u ≤ k ∧ k ≤ 73 + 2 * u) → X' k = X k) (hr : ∀ k, k = 1 ∨ k = 4 ∨ k = 5 ∨ k = 8 ∨ 66 ≤ k → row' k = row k) : CK S X' u row' nw nt nq := by
  refine ⟨?_, ?_, fun j hj i hi => ?_, ?_, fun i hi => ?_, ?_, fun i hi => ?_⟩
  · rw [hr 8 (by omega)]; exact h.wrongs
  · rw [hr 1 (by omega)]; exact h.z
  · rw [hX _ (by omega), hr _ (by omega)]; exact h.wr j hj i hi
  · rw [hr 4 (by omega)]; exact h.tsz
  · rw [hX _ (by omega), hr _ (by omega)]; exact h.tape i hi
  · rw [hr 5 (by omega)]; exact h.qsz
  · rw [hX _ (by omega), hr _ (by omega)]; exact h.wait i hi

theorem dX11_lay_0 : decode cX11_lay 0 = .ok (.aload_n 0, 1) := by decide +kernel
theorem dX11_lay_1 : decode cX11_lay 1 = .ok (.iload_n 1, 1) := by decide +kernel
theorem dX11_lay_2 : decode cX11_lay 2 = .ok (.invokevirtual 106, 3) := by decide +kernel
theorem dX11_lay_5 : decode cX11_lay 5 = .ok (.ifCond .eq 32, 3) := by decide +kernel
theorem dX11_lay_8 : decode cX11_lay 8 = .ok (.iload_n 2, 1) := by decide +kernel
theorem dX11_lay_9 : decode cX11_lay 9 = .ok (.iconst 0, 1) := by decide +kernel
theorem dX11_lay_10 : decode cX11_lay 10 = .ok (.iconst 1, 1) := by decide +kernel
theorem dX11_lay_11 : decode cX11_lay 11 = .ok (.invokestatic 86, 3) := by decide +kernel
theorem dX11_lay_14 : decode cX11_lay 14 = .ok (.ifCond .eq 23, 3) := by decide +kernel
theorem dX11_lay_17 : decode cX11_lay 17 = .ok (.iload_n 3, 1) := by decide +kernel
theorem dX11_lay_18 : decode cX11_lay 18 = .ok (.iconst 0, 1) := by decide +kernel
theorem dX11_lay_19 : decode cX11_lay 19 = .ok (.iload_n 2, 1) := by decide +kernel
theorem dX11_lay_20 : decode cX11_lay 20 = .ok (.ifCond .ne 9, 3) := by decide +kernel
theorem dX11_lay_23 : decode cX11_lay 23 = .ok (.sipush 999, 3) := by decide +kernel
theorem dX11_lay_26 : decode cX11_lay 26 = .ok (.goto 5, 3) := by decide +kernel
theorem dX11_lay_29 : decode cX11_lay 29 = .ok (.bipush 9, 2) := by decide +kernel
theorem dX11_lay_31 : decode cX11_lay 31 = .ok (.invokestatic 86, 3) := by decide +kernel
theorem dX11_lay_34 : decode cX11_lay 34 = .ok (.ifCond .ne 9, 3) := by decide +kernel
theorem dX11_lay_37 : decode cX11_lay 37 = .ok (.aload_n 0, 1) := by decide +kernel
theorem dX11_lay_38 : decode cX11_lay 38 = .ok (.iconst 1, 1) := by decide +kernel
theorem dX11_lay_39 : decode cX11_lay 39 = .ok (.invokevirtual 90, 3) := by decide +kernel
theorem dX11_lay_42 : decode cX11_lay 42 = .ok (.ireturn, 1) := by decide +kernel
theorem dX11_lay_43 : decode cX11_lay 43 = .ok (.iload_n 2, 1) := by decide +kernel
theorem dX11_lay_44 : decode cX11_lay 44 = .ok (.ifCond .ne 16, 3) := by decide +kernel
theorem dX11_lay_47 : decode cX11_lay 47 = .ok (.aload_n 0, 1) := by decide +kernel
theorem dX11_lay_48 : decode cX11_lay 48 = .ok (.getfield 75, 3) := by decide +kernel
theorem dX11_lay_51 : decode cX11_lay 51 = .ok (.getfield 94, 3) := by decide +kernel
theorem dX11_lay_54 : decode cX11_lay 54 = .ok (.getfield 110, 3) := by decide +kernel
theorem dX11_lay_57 : decode cX11_lay 57 = .ok (.goto 13, 3) := by decide +kernel
theorem dX11_lay_60 : decode cX11_lay 60 = .ok (.aload_n 0, 1) := by decide +kernel
theorem dX11_lay_61 : decode cX11_lay 61 = .ok (.getfield 75, 3) := by decide +kernel
theorem dX11_lay_64 : decode cX11_lay 64 = .ok (.getfield 94, 3) := by decide +kernel
theorem dX11_lay_67 : decode cX11_lay 67 = .ok (.getfield 113, 3) := by decide +kernel
theorem dX11_lay_70 : decode cX11_lay 70 = .ok (.astore 4, 2) := by decide +kernel
theorem dX11_lay_72 : decode cX11_lay 72 = .ok (.aload 4, 2) := by decide +kernel
theorem dX11_lay_74 : decode cX11_lay 74 = .ok (.iload_n 1, 1) := by decide +kernel
theorem dX11_lay_75 : decode cX11_lay 75 = .ok (.iaload, 1) := by decide +kernel
theorem dX11_lay_76 : decode cX11_lay 76 = .ok (.istore 5, 2) := by decide +kernel
theorem dX11_lay_78 : decode cX11_lay 78 = .ok (.aload 4, 2) := by decide +kernel
theorem dX11_lay_80 : decode cX11_lay 80 = .ok (.iload_n 1, 1) := by decide +kernel
theorem dX11_lay_81 : decode cX11_lay 81 = .ok (.iload_n 3, 1) := by decide +kernel
theorem dX11_lay_82 : decode cX11_lay 82 = .ok (.iastore, 1) := by decide +kernel
theorem dX11_lay_83 : decode cX11_lay 83 = .ok (.iload 5, 2) := by decide +kernel
theorem dX11_lay_85 : decode cX11_lay 85 = .ok (.ireturn, 1) := by decide +kernel
set_option maxHeartbeats 2000000 in
set_option maxRecDepth 20000 in
theorem k_lay {l : Launch} {D : va_G} {cI cG cW : ClassId} {q : Nat → Nat} {S : Nat → Int32} {X : Nat → Nat → Int32} {P : Nat → Nat} {c what v : Int32} {V row kept tried bf fd pk bo so sh mv tr : Nat → Int32} {nc np nw d nt nq : Nat} (hR : RKx row nc np nw d nt nq) (hC : CR (S, X, P) (sR V row kept tried bf fd pk bo so sh mv tr)) : Ci l yX11_lay cX11_lay 6 (some .int) 3 D (tyL cI cG cW) (wC cI cG cW q) [.ref (q 0), .int c, .int what, .int v] (S, X, P) (fun r τ => r = (sp_lay V row kept tried bf fd pk bo so sh mv tr c what v).1 ∧ CR τ (sp_lay V row kept tried bf fd pk bo so sh mv tr c what v).2) := by
  refine Ci.of (by decide) (Nat.le_of_ble_eq_true rfl) ?_
  intro p_ e_ s_ m_ b_ M_ c_ A_ C
  replace C : Cx _ _ _ _ _ _ _ _ RX11 _ _ _ _ := C
  refine j_L [0, 1, 2, 3] [(0, .ref (q 0)), (1, .int c), (2, .int what), (3, .int v)] rfl ?_
  obtain ⟨hI, hW, ⟨e0, hd⟩, ⟨e4, ht⟩, ⟨e5, hq⟩, hB⟩ := id hR
  obtain ⟨⟨e2, hc2, hc10⟩, ⟨e3, hn6⟩, ⟨e8, hw8⟩, hP, hE, hLo, hT0, hT1⟩ := id hI
  have hIc := hI
  have hF : CF S X 0 row (X 44) nc np := by have h := hC.fld; rw [e2, e3, tN_nI (by omega), tN_nI (by omega)] at h; exact h
  have hK : CK S X 0 row nw nt nq := by have h := hC.kp; rw [e8, e4, e5, tN_nI (by omega), tN_nI (by omega), tN_nI (by omega)] at h; exact h
  have hS1 : S 1 = row 8 := hK.wrongs
  have hS5 : S 5 = row 2 := hF.cells
  have hS7 : S 7 = row 3 := hF.people
  refine j_aload_n C 0 dX11_lay_0 rfl ?_
  refine j_iload_n C 1 dX11_lay_1 rfl ?_
  refine j_callV (As := [.int c]) (rest := []) C vw11_106 (h_isCell) ⟨0, 11, _, _, rfl, rfl, rfl⟩ rfl (Nat.le_of_ble_eq_true rfl) dX11_lay_2 (by decide) ?_
  rintro _ _ ⟨rfl, rfl⟩
  refine j_v (bI (inn c 0 (row 2 - 1))) (by rw [hS5]) ?_
  refine j_if_eq C 37 dX11_lay_5 (by decide) (fun c5 => ?_) (fun c5 => ?_)
  · replace c5 := bI_f c5
    refine j_aload_n C 0 dX11_lay_37 rfl ?_
    refine j_iconst C (v := (nI 1)) dX11_lay_38 (by decide) ?_
    refine j_callV (As := [.int (nI 1)]) (rest := []) C vw11_90 (h_error 1 (by decide)) ⟨0, 11, _, _, rfl, rfl, rfl⟩ rfl (Nat.le_of_ble_eq_true rfl) dX11_lay_39 (by decide) ?_
    rintro _ _ ⟨rfl, rfl⟩
    refine j_iret C dX11_lay_42 ?_
    unfold sp_lay
    rw [if_neg (fun h => c5 h.1)]
    exact ⟨show (-1000000000 : Int32) - nI 1 = -1000000001 from by decide, hC.er 1⟩
  · replace c5 := bI_t c5
    obtain ⟨cn, hcn, rfl⟩ := inn_row c5 e2 (by omega)
    refine j_iload_n C 2 dX11_lay_8 rfl ?_
    refine j_iconst C (v := (nI 0)) dX11_lay_9 (by decide) ?_
    refine j_iconst C (v := (nI 1)) dX11_lay_10 (by decide) ?_
    refine j_callS (As := [.int what, .int (nI 0), .int (nI 1)]) (rest := []) C sw11_86 (h_within) rfl (Nat.le_of_ble_eq_true rfl) dX11_lay_11 (by decide) ?_
    rintro _ _ ⟨rfl, rfl⟩
    refine j_if_eq C 37 dX11_lay_14 (by decide) (fun c14 => ?_) (fun c14 => ?_)
    · replace c14 := bI_f c14
      refine j_aload_n C 0 dX11_lay_37 rfl ?_
      refine j_iconst C (v := (nI 1)) dX11_lay_38 (by decide) ?_
      refine j_callV (As := [.int (nI 1)]) (rest := []) C vw11_90 (h_error 1 (by decide)) ⟨0, 11, _, _, rfl, rfl, rfl⟩ rfl (Nat.le_of_ble_eq_true rfl) dX11_lay_39 (by decide) ?_
      rintro _ _ ⟨rfl, rfl⟩
      refine j_iret C dX11_lay_42 ?_
      unfold sp_lay
      rw [if_neg (fun h => c14 h.2.1)]
      exact ⟨show (-1000000000 : Int32) - nI 1 = -1000000001 from by decide, hC.er 1⟩
    · replace c14 := bI_t c14
      refine j_iload_n C 3 dX11_lay_17 rfl ?_
      refine j_iconst C (v := (nI 0)) dX11_lay_18 (by decide) ?_
      refine j_iload_n C 2 dX11_lay_19 rfl ?_
      refine j_if_ne C 29 dX11_lay_20 (by decide) (fun c20 => ?_) (fun c20 => ?_)
      · skip
        refine j_bipush C (v := (nI 9)) dX11_lay_29 (by decide) ?_
        refine j_callS (As := [.int v, .int (nI 0), .int (nI 9)]) (rest := []) C sw11_86 (h_within) rfl (Nat.le_of_ble_eq_true rfl) dX11_lay_31 (by decide) ?_
        rintro _ _ ⟨rfl, rfl⟩
        refine j_if_ne C 43 dX11_lay_34 (by decide) (fun c34 => ?_) (fun c34 => ?_)
        · replace c34 := bI_t c34
          refine j_iload_n C 2 dX11_lay_43 rfl ?_
          refine j_if_ne C 60 dX11_lay_44 (by decide) (fun c44 => ?_) (fun c44 => ?_)
          · skip
            refine j_aload_n C 0 dX11_lay_60 rfl ?_
            refine j_get C (v := .ref (q 1)) 0 1 rfl rfl inlC11 (by decide) kf11_75 rfl dX11_lay_61 ?_
            refine j_getN C (v := .ref (q 3)) 1 0 rfl rfl inlC3 (by decide) kf11_94 rfl dX11_lay_64 ?_
            refine j_getN C (v := .ref (q 37)) 3 2 rfl rfl inlC1 (by decide) kf11_113 rfl dX11_lay_67 ?_
            refine j_astore C [(4, .ref (q 37)), (0, .ref (q 0)), (1, .int (nI cn)), (2, .int what), (3, .int v)] dX11_lay_70 (by decide) rfl ?_
            refine j_aload C 0 dX11_lay_72 rfl ?_
            refine j_iload_n C 2 dX11_lay_74 rfl ?_
            refine j_ialdN C 37 0 rfl rfl cn rfl (by omega) (by decide) dX11_lay_75 ?_
            refine j_v (row (20 + cn)) (hF.low cn (by omega)) ?_
            refine j_istore C [(5, .int (row (20 + cn))), (4, .ref (q 37)), (0, .ref (q 0)), (1, .int (nI cn)), (2, .int what), (3, .int v)] dX11_lay_76 (by decide) rfl ?_
            refine j_aload C 1 dX11_lay_78 rfl ?_
            refine j_iload_n C 3 dX11_lay_80 rfl ?_
            refine j_iload_n C 5 dX11_lay_81 rfl ?_
            refine j_iastN C 37 0 rfl rfl cn rfl (by omega) (by decide) dX11_lay_82 (S, va_up X 37 (upd (X 37) cn v), P) rfl ?_
            refine j_iload C 0 dX11_lay_83 rfl ?_
            refine j_iret C dX11_lay_85 ?_
            unfold sp_lay
            rw [if_neg (c := what = 0) c20, if_neg (c := what = 0) c20]
            rw [if_pos ⟨c5, c14, c34⟩, tN_nI (n := cn) (by omega)]
            exact ⟨rfl, hC.nowx (fun k hk => rfl) (fun k hk => va_n (by omega)) ((pk_un (by omega)).trans e2) ((pk_un (by omega)).trans e3) ((pk_un (by omega)).trans e8) ((pk_un (by omega)).trans e4) ((pk_un (by omega)).trans e5) ⟨hc10, hn6, hw8, ht, hq⟩ (hF.setL hc10 cn hcn v) (hK.row (fun k hk => va_n (by omega)) (fun k hk => pk_un (by omega))) (hC.l0.st (by omega) rfl (va_n (by omega)) (fun k hk => pk_un (by omega))) (hC.l1.st (by omega) rfl (va_n (by omega)) (fun k hk => pk_un (by omega)))⟩
          · skip
            exact absurd c44 c20
        · replace c34 := bI_f c34
          refine j_aload_n C 0 dX11_lay_37 rfl ?_
          refine j_iconst C (v := (nI 1)) dX11_lay_38 (by decide) ?_
          refine j_callV (As := [.int (nI 1)]) (rest := []) C vw11_90 (h_error 1 (by decide)) ⟨0, 11, _, _, rfl, rfl, rfl⟩ rfl (Nat.le_of_ble_eq_true rfl) dX11_lay_39 (by decide) ?_
          rintro _ _ ⟨rfl, rfl⟩
          refine j_iret C dX11_lay_42 ?_
          unfold sp_lay
          rw [if_neg (c := what = 0) c20, if_neg (c := what = 0) c20]
          rw [if_neg (fun h => c34 h.2.2)]
          exact ⟨show (-1000000000 : Int32) - nI 1 = -1000000001 from by decide, hC.er 1⟩
      · skip
        refine j_sipush C (v := (nI 999)) dX11_lay_23 (by decide) ?_
        refine j_goto C 31 dX11_lay_26 (by decide) ?_
        refine j_callS (As := [.int v, .int (nI 0), .int (nI 999)]) (rest := []) C sw11_86 (h_within) rfl (Nat.le_of_ble_eq_true rfl) dX11_lay_31 (by decide) ?_
        rintro _ _ ⟨rfl, rfl⟩
        refine j_if_ne C 43 dX11_lay_34 (by decide) (fun c34 => ?_) (fun c34 => ?_)
        · replace c34 := bI_t c34
          refine j_iload_n C 2 dX11_lay_43 rfl ?_
          refine j_if_ne C 60 dX11_lay_44 (by decide) (fun c44 => ?_) (fun c44 => ?_)
          · skip
            exact absurd c20 c44
          · skip
            refine j_aload_n C 0 dX11_lay_47 rfl ?_
            refine j_get C (v := .ref (q 1)) 0 1 rfl rfl inlC11 (by decide) kf11_75 rfl dX11_lay_48 ?_
            refine j_getN C (v := .ref (q 3)) 1 0 rfl rfl inlC3 (by decide) kf11_94 rfl dX11_lay_51 ?_
            refine j_getN C (v := .ref (q 36)) 3 1 rfl rfl inlC1 (by decide) kf11_110 rfl dX11_lay_54 ?_
            refine j_goto C 70 dX11_lay_57 (by decide) ?_
            refine j_astore C [(4, .ref (q 36)), (0, .ref (q 0)), (1, .int (nI cn)), (2, .int what), (3, .int v)] dX11_lay_70 (by decide) rfl ?_
            refine j_aload C 0 dX11_lay_72 rfl ?_
            refine j_iload_n C 2 dX11_lay_74 rfl ?_
            refine j_ialdN C 36 0 rfl rfl cn rfl (by omega) (by decide) dX11_lay_75 ?_
            refine j_v (row (10 + cn)) (hF.ears cn (by omega)) ?_
            refine j_istore C [(5, .int (row (10 + cn))), (4, .ref (q 36)), (0, .ref (q 0)), (1, .int (nI cn)), (2, .int what), (3, .int v)] dX11_lay_76 (by decide) rfl ?_
            refine j_aload C 1 dX11_lay_78 rfl ?_
            refine j_iload_n C 3 dX11_lay_80 rfl ?_
            refine j_iload_n C 5 dX11_lay_81 rfl ?_
            refine j_iastN C 36 0 rfl rfl cn rfl (by omega) (by decide) dX11_lay_82 (S, va_up X 36 (upd (X 36) cn v), P) rfl ?_
            refine j_iload C 0 dX11_lay_83 rfl ?_
            refine j_iret C dX11_lay_85 ?_
            unfold sp_lay
            rw [if_pos (c := what = 0) c20, if_pos (c := what = 0) c20]
            rw [if_pos ⟨c5, c14, c34⟩, tN_nI (n := cn) (by omega)]
            exact ⟨rfl, hC.nowx (fun k hk => rfl) (fun k hk => va_n (by omega)) ((pk_un (by omega)).trans e2) ((pk_un (by omega)).trans e3) ((pk_un (by omega)).trans e8) ((pk_un (by omega)).trans e4) ((pk_un (by omega)).trans e5) ⟨hc10, hn6, hw8, ht, hq⟩ (hF.setE hc10 cn hcn v) (hK.row (fun k hk => va_n (by omega)) (fun k hk => pk_un (by omega))) (hC.l0.st (by omega) rfl (va_n (by omega)) (fun k hk => pk_un (by omega))) (hC.l1.st (by omega) rfl (va_n (by omega)) (fun k hk => pk_un (by omega)))⟩
        · replace c34 := bI_f c34
          refine j_aload_n C 0 dX11_lay_37 rfl ?_
          refine j_iconst C (v := (nI 1)) dX11_lay_38 (by decide) ?_
          refine j_callV (As := [.int (nI 1)]) (rest := []) C vw11_90 (h_error 1 (by decide)) ⟨0, 11, _, _, rfl, rfl, rfl⟩ rfl (Nat.le_of_ble_eq_true rfl) dX11_lay_39 (by decide) ?_
          rintro _ _ ⟨rfl, rfl⟩
          refine j_iret C dX11_lay_42 ?_
          unfold sp_lay
          rw [if_pos (c := what = 0) c20, if_pos (c := what = 0) c20]
          rw [if_neg (fun h => c34 h.2.2)]
          exact ⟨show (-1000000000 : Int32) - nI 1 = -1000000001 from by decide, hC.er 1⟩
theorem upd_cm (g : Nat → Int32) {i j : Nat} {x y : Int32} (h : ¬ i = j) : upd (upd g i x) j y = upd (upd g j y) i x := by
  funext k
  by_cases e : k = j
  · subst e; rw [pk_us, pk_un (fun g => h g.symm), pk_us]
  · rw [pk_un e]
    by_cases e2 : k = i
    · subst e2; rw [pk_us, pk_us]
    · rw [pk_un e2, pk_un e2, pk_un e]
theorem dX11_become_0 : decode cX11_become 0 = .ok (.aload_n 0, 1) := by decide +kernel
theorem dX11_become_1 : decode cX11_become 1 = .ok (.iload_n 1, 1) := by decide +kernel
theorem dX11_become_2 : decode cX11_become 2 = .ok (.invokevirtual 123, 3) := by decide +kernel
theorem dX11_become_5 : decode cX11_become 5 = .ok (.ifCond .eq 13, 3) := by decide +kernel
theorem dX11_become_8 : decode cX11_become 8 = .ok (.iload_n 2, 1) := by decide +kernel
theorem dX11_become_9 : decode cX11_become 9 = .ok (.iconst 0, 1) := by decide +kernel
theorem dX11_become_10 : decode cX11_become 10 = .ok (.bipush 69, 2) := by decide +kernel
theorem dX11_become_12 : decode cX11_become 12 = .ok (.invokestatic 86, 3) := by decide +kernel
theorem dX11_become_15 : decode cX11_become 15 = .ok (.ifCond .ne 9, 3) := by decide +kernel
theorem dX11_become_18 : decode cX11_become 18 = .ok (.aload_n 0, 1) := by decide +kernel
theorem dX11_become_19 : decode cX11_become 19 = .ok (.iconst 1, 1) := by decide +kernel
theorem dX11_become_20 : decode cX11_become 20 = .ok (.invokevirtual 90, 3) := by decide +kernel
theorem dX11_become_23 : decode cX11_become 23 = .ok (.ireturn, 1) := by decide +kernel
theorem dX11_become_24 : decode cX11_become 24 = .ok (.aload_n 0, 1) := by decide +kernel
theorem dX11_become_25 : decode cX11_become 25 = .ok (.getfield 75, 3) := by decide +kernel
theorem dX11_become_28 : decode cX11_become 28 = .ok (.getfield 94, 3) := by decide +kernel
theorem dX11_become_31 : decode cX11_become 31 = .ok (.getfield 130, 3) := by decide +kernel
theorem dX11_become_34 : decode cX11_become 34 = .ok (.iload_n 1, 1) := by decide +kernel
theorem dX11_become_35 : decode cX11_become 35 = .ok (.iaload, 1) := by decide +kernel
theorem dX11_become_36 : decode cX11_become 36 = .ok (.istore_n 3, 1) := by decide +kernel
theorem dX11_become_37 : decode cX11_become 37 = .ok (.aload_n 0, 1) := by decide +kernel
theorem dX11_become_38 : decode cX11_become 38 = .ok (.getfield 75, 3) := by decide +kernel
theorem dX11_become_41 : decode cX11_become 41 = .ok (.getfield 94, 3) := by decide +kernel
theorem dX11_become_44 : decode cX11_become 44 = .ok (.getfield 130, 3) := by decide +kernel
theorem dX11_become_47 : decode cX11_become 47 = .ok (.iload_n 1, 1) := by decide +kernel
theorem dX11_become_48 : decode cX11_become 48 = .ok (.iload_n 2, 1) := by decide +kernel
theorem dX11_become_49 : decode cX11_become 49 = .ok (.bipush 10, 2) := by decide +kernel
theorem dX11_become_51 : decode cX11_become 51 = .ok (.idiv, 1) := by decide +kernel
theorem dX11_become_52 : decode cX11_become 52 = .ok (.iastore, 1) := by decide +kernel
theorem dX11_become_53 : decode cX11_become 53 = .ok (.aload_n 0, 1) := by decide +kernel
theorem dX11_become_54 : decode cX11_become 54 = .ok (.getfield 75, 3) := by decide +kernel
theorem dX11_become_57 : decode cX11_become 57 = .ok (.getfield 94, 3) := by decide +kernel
theorem dX11_become_60 : decode cX11_become 60 = .ok (.getfield 133, 3) := by decide +kernel
theorem dX11_become_63 : decode cX11_become 63 = .ok (.iload_n 1, 1) := by decide +kernel
theorem dX11_become_64 : decode cX11_become 64 = .ok (.iload_n 2, 1) := by decide +kernel
theorem dX11_become_65 : decode cX11_become 65 = .ok (.bipush 10, 2) := by decide +kernel
theorem dX11_become_67 : decode cX11_become 67 = .ok (.irem, 1) := by decide +kernel
theorem dX11_become_68 : decode cX11_become 68 = .ok (.iastore, 1) := by decide +kernel
theorem dX11_become_69 : decode cX11_become 69 = .ok (.iload_n 3, 1) := by decide +kernel
theorem dX11_become_70 : decode cX11_become 70 = .ok (.ireturn, 1) := by decide +kernel
set_option maxHeartbeats 2000000 in
set_option maxRecDepth 20000 in
theorem k_become {l : Launch} {D : va_G} {cI cG cW : ClassId} {q : Nat → Nat} {S : Nat → Int32} {X : Nat → Nat → Int32} {P : Nat → Nat} {p km : Int32} {V row kept tried bf fd pk bo so sh mv tr : Nat → Int32} {nc np nw d nt nq : Nat} (hR : RKx row nc np nw d nt nq) (hC : CR (S, X, P) (sR V row kept tried bf fd pk bo so sh mv tr)) : Ci l yX11_become cX11_become 4 (some .int) 3 D (tyL cI cG cW) (wC cI cG cW q) [.ref (q 0), .int p, .int km] (S, X, P) (fun r τ => r = (sp_become V row kept tried bf fd pk bo so sh mv tr p km).1 ∧ CR τ (sp_become V row kept tried bf fd pk bo so sh mv tr p km).2) := by
  refine Ci.of (by decide) (Nat.le_of_ble_eq_true rfl) ?_
  intro p_ e_ s_ m_ b_ M_ c_ A_ C
  replace C : Cx _ _ _ _ _ _ _ _ RX11 _ _ _ _ := C
  refine j_L [0, 1, 2] [(0, .ref (q 0)), (1, .int p), (2, .int km)] rfl ?_
  obtain ⟨hI, hW, ⟨e0, hd⟩, ⟨e4, ht⟩, ⟨e5, hq⟩, hB⟩ := id hR
  obtain ⟨⟨e2, hc2, hc10⟩, ⟨e3, hn6⟩, ⟨e8, hw8⟩, hP, hE, hLo, hT0, hT1⟩ := id hI
  have hIc := hI
  have hF : CF S X 0 row (X 44) nc np := by have h := hC.fld; rw [e2, e3, tN_nI (by omega), tN_nI (by omega)] at h; exact h
  have hK : CK S X 0 row nw nt nq := by have h := hC.kp; rw [e8, e4, e5, tN_nI (by omega), tN_nI (by omega), tN_nI (by omega)] at h; exact h
  have hS1 : S 1 = row 8 := hK.wrongs
  have hS5 : S 5 = row 2 := hF.cells
  have hS7 : S 7 = row 3 := hF.people
  refine j_aload_n C 0 dX11_become_0 rfl ?_
  refine j_iload_n C 1 dX11_become_1 rfl ?_
  refine j_callV (As := [.int p]) (rest := []) C vw11_123 (h_isPerson) ⟨0, 11, _, _, rfl, rfl, rfl⟩ rfl (Nat.le_of_ble_eq_true rfl) dX11_become_2 (by decide) ?_
  rintro _ _ ⟨rfl, rfl⟩
  refine j_v (bI (inn p 0 (row 3 - 1))) (by rw [hS7]) ?_
  refine j_if_eq C 18 dX11_become_5 (by decide) (fun c5 => ?_) (fun c5 => ?_)
  · replace c5 := bI_f c5
    refine j_aload_n C 0 dX11_become_18 rfl ?_
    refine j_iconst C (v := (nI 1)) dX11_become_19 (by decide) ?_
    refine j_callV (As := [.int (nI 1)]) (rest := []) C vw11_90 (h_error 1 (by decide)) ⟨0, 11, _, _, rfl, rfl, rfl⟩ rfl (Nat.le_of_ble_eq_true rfl) dX11_become_20 (by decide) ?_
    rintro _ _ ⟨rfl, rfl⟩
    refine j_iret C dX11_become_23 ?_
    unfold sp_become
    rw [if_neg (fun h => c5 h.1)]
    exact ⟨show (-1000000000 : Int32) - nI 1 = -1000000001 from by decide, hC.er 1⟩
  · replace c5 := bI_t c5
    obtain ⟨pn, hpn, rfl⟩ := inn_row c5 e3 (by omega)
    refine j_iload_n C 2 dX11_become_8 rfl ?_
    refine j_iconst C (v := (nI 0)) dX11_become_9 (by decide) ?_
    refine j_bipush C (v := (nI 69)) dX11_become_10 (by decide) ?_
    refine j_callS (As := [.int km, .int (nI 0), .int (nI 69)]) (rest := []) C sw11_86 (h_within) rfl (Nat.le_of_ble_eq_true rfl) dX11_become_12 (by decide) ?_
    rintro _ _ ⟨rfl, rfl⟩
    refine j_if_ne C 24 dX11_become_15 (by decide) (fun c15 => ?_) (fun c15 => ?_)
    · replace c15 := bI_t c15
      refine j_aload_n C 0 dX11_become_24 rfl ?_
      refine j_get C (v := .ref (q 1)) 0 1 rfl rfl inlC11 (by decide) kf11_75 rfl dX11_become_25 ?_
      refine j_getN C (v := .ref (q 3)) 1 0 rfl rfl inlC3 (by decide) kf11_94 rfl dX11_become_28 ?_
      refine j_getN C (v := .ref (q 38)) 3 5 rfl rfl inlC1 (by decide) kf11_130 rfl dX11_become_31 ?_
      refine j_iload_n C 1 dX11_become_34 rfl ?_
      refine j_ialdN C 38 0 rfl rfl pn rfl (by omega) (by decide) dX11_become_35 ?_
      refine j_v (row (30 + 6 * pn + 0)) (hF.per 0 (by omega) pn (by omega)) ?_
      refine j_istore_n C [(3, .int (row (30 + 6 * pn + 0))), (0, .ref (q 0)), (1, .int (nI pn)), (2, .int km)] dX11_become_36 (by decide) rfl ?_
      refine j_aload_n C 1 dX11_become_37 rfl ?_
      refine j_get C (v := .ref (q 1)) 0 1 rfl rfl inlC11 (by decide) kf11_75 rfl dX11_become_38 ?_
      refine j_getN C (v := .ref (q 3)) 1 0 rfl rfl inlC3 (by decide) kf11_94 rfl dX11_become_41 ?_
      refine j_getN C (v := .ref (q 38)) 3 5 rfl rfl inlC1 (by decide) kf11_130 rfl dX11_become_44 ?_
      refine j_iload_n C 2 dX11_become_47 rfl ?_
      refine j_iload_n C 3 dX11_become_48 rfl ?_
      refine j_bipush C (v := (nI 10)) dX11_become_49 (by decide) ?_
      refine j_idiv C dX11_become_51 (by decide) ?_
      refine j_iastN C 38 0 rfl rfl pn rfl (by omega) (by decide) dX11_become_52 (S, va_up X 38 (upd (X 38) pn (km / (nI 10))), P) rfl ?_
      refine j_aload_n C 1 dX11_become_53 rfl ?_
      refine j_get C (v := .ref (q 1)) 0 1 rfl rfl inlC11 (by decide) kf11_75 rfl dX11_become_54 ?_
      refine j_getN C (v := .ref (q 3)) 1 0 rfl rfl inlC3 (by decide) kf11_94 rfl dX11_become_57 ?_
      refine j_getN C (v := .ref (q 39)) 3 6 rfl rfl inlC1 (by decide) kf11_133 rfl dX11_become_60 ?_
      refine j_iload_n C 2 dX11_become_63 rfl ?_
      refine j_iload_n C 3 dX11_become_64 rfl ?_
      refine j_bipush C (v := (nI 10)) dX11_become_65 (by decide) ?_
      refine j_irem C dX11_become_67 (by decide) ?_
      refine j_iastN C 39 0 rfl rfl pn rfl (by omega) (by decide) dX11_become_68 (S, va_up (va_up X 38 (upd (X 38) pn (km / (nI 10)))) 39 (upd (X 39) pn (km - km / (nI 10) * (nI 10))), P) rfl ?_
      refine j_iload_n C 0 dX11_become_69 rfl ?_
      refine j_iret C dX11_become_70 ?_
      unfold sp_become
      rw [if_pos ⟨c5, c15⟩, tN_nI (n := pn) (by omega)]
      rw [upd_cm _ (by omega)]
      exact ⟨rfl, hC.nowx (fun k hk => rfl) (fun k hk => (va_n (by omega)).trans (va_n (by omega))) ((pk_un (by omega)).trans ((pk_un (by omega)).trans e2)) ((pk_un (by omega)).trans ((pk_un (by omega)).trans e3)) ((pk_un (by omega)).trans ((pk_un (by omega)).trans e8)) ((pk_un (by omega)).trans ((pk_un (by omega)).trans e4)) ((pk_un (by omega)).trans ((pk_un (by omega)).trans e5)) ⟨hc10, hn6, hw8, ht, hq⟩ ((hF.setP hc10 0 (by omega) pn _).setP hc10 1 (by omega) pn _) (hK.row (fun k hk => (va_n (by omega)).trans (va_n (by omega))) (fun k hk => (pk_un (by omega)).trans (pk_un (by omega)))) (hC.l0.st (by omega) rfl ((va_n (by omega)).trans (va_n (by omega))) (fun k hk => (pk_un (by omega)).trans (pk_un (by omega)))) (hC.l1.st (by omega) rfl ((va_n (by omega)).trans (va_n (by omega))) (fun k hk => (pk_un (by omega)).trans (pk_un (by omega))))⟩
    · replace c15 := bI_f c15
      refine j_aload_n C 0 dX11_become_18 rfl ?_
      refine j_iconst C (v := (nI 1)) dX11_become_19 (by decide) ?_
      refine j_callV (As := [.int (nI 1)]) (rest := []) C vw11_90 (h_error 1 (by decide)) ⟨0, 11, _, _, rfl, rfl, rfl⟩ rfl (Nat.le_of_ble_eq_true rfl) dX11_become_20 (by decide) ?_
      rintro _ _ ⟨rfl, rfl⟩
      refine j_iret C dX11_become_23 ?_
      unfold sp_become
      rw [if_neg (fun h => c15 h.2)]
      exact ⟨show (-1000000000 : Int32) - nI 1 = -1000000001 from by decide, hC.er 1⟩
theorem dX11_told_0 : decode cX11_told 0 = .ok (.iload_n 1, 1) := by decide +kernel
theorem dX11_told_1 : decode cX11_told 1 = .ok (.iconst 1, 1) := by decide +kernel
theorem dX11_told_2 : decode cX11_told 2 = .ok (.iconst 5, 1) := by decide +kernel
theorem dX11_told_3 : decode cX11_told 3 = .ok (.invokestatic 86, 3) := by decide +kernel
theorem dX11_told_6 : decode cX11_told 6 = .ok (.ifCond .eq 12, 3) := by decide +kernel
theorem dX11_told_9 : decode cX11_told 9 = .ok (.aload_n 0, 1) := by decide +kernel
theorem dX11_told_10 : decode cX11_told 10 = .ok (.getfield 33, 3) := by decide +kernel
theorem dX11_told_13 : decode cX11_told 13 = .ok (.iload_n 1, 1) := by decide +kernel
theorem dX11_told_14 : decode cX11_told 14 = .ok (.iaload, 1) := by decide +kernel
theorem dX11_told_15 : decode cX11_told 15 = .ok (.goto 8, 3) := by decide +kernel
theorem dX11_told_18 : decode cX11_told 18 = .ok (.aload_n 0, 1) := by decide +kernel
theorem dX11_told_19 : decode cX11_told 19 = .ok (.iconst 1, 1) := by decide +kernel
theorem dX11_told_20 : decode cX11_told 20 = .ok (.invokevirtual 90, 3) := by decide +kernel
theorem dX11_told_23 : decode cX11_told 23 = .ok (.ireturn, 1) := by decide +kernel
set_option maxHeartbeats 2000000 in
set_option maxRecDepth 20000 in
theorem k_told {l : Launch} {D : va_G} {cI cG cW : ClassId} {q : Nat → Nat} {S : Nat → Int32} {X : Nat → Nat → Int32} {P : Nat → Nat} {k : Int32} {V row kept tried bf fd pk bo so sh mv tr : Nat → Int32} {nc np nw d nt nq : Nat} (hR : RKx row nc np nw d nt nq) (hC : CR (S, X, P) (sR V row kept tried bf fd pk bo so sh mv tr)) : Ci l yX11_told cX11_told 2 (some .int) 3 D (tyL cI cG cW) (wC cI cG cW q) [.ref (q 0), .int k] (S, X, P) (fun r τ => r = (sp_told V row kept tried bf fd pk bo so sh mv tr k).1 ∧ CR τ (sp_told V row kept tried bf fd pk bo so sh mv tr k).2) := by
  refine Ci.of (by decide) (Nat.le_of_ble_eq_true rfl) ?_
  intro p_ e_ s_ m_ b_ M_ c_ A_ C
  replace C : Cx _ _ _ _ _ _ _ _ RX11 _ _ _ _ := C
  refine j_L [0, 1] [(0, .ref (q 0)), (1, .int k)] rfl ?_
  obtain ⟨hI, hW, ⟨e0, hd⟩, ⟨e4, ht⟩, ⟨e5, hq⟩, hB⟩ := id hR
  obtain ⟨⟨e2, hc2, hc10⟩, ⟨e3, hn6⟩, ⟨e8, hw8⟩, hP, hE, hLo, hT0, hT1⟩ := id hI
  have hIc := hI
  have hF : CF S X 0 row (X 44) nc np := by have h := hC.fld; rw [e2, e3, tN_nI (by omega), tN_nI (by omega)] at h; exact h
  have hK : CK S X 0 row nw nt nq := by have h := hC.kp; rw [e8, e4, e5, tN_nI (by omega), tN_nI (by omega), tN_nI (by omega)] at h; exact h
  have hS1 : S 1 = row 8 := hK.wrongs
  have hS5 : S 5 = row 2 := hF.cells
  have hS7 : S 7 = row 3 := hF.people
  refine j_iload_n C 1 dX11_told_0 rfl ?_
  refine j_iconst C (v := (nI 1)) dX11_told_1 (by decide) ?_
  refine j_iconst C (v := (nI 5)) dX11_told_2 (by decide) ?_
  refine j_callS (As := [.int k, .int (nI 1), .int (nI 5)]) (rest := []) C sw11_86 (h_within) rfl (Nat.le_of_ble_eq_true rfl) dX11_told_3 (by decide) ?_
  rintro _ _ ⟨rfl, rfl⟩
  refine j_if_eq C 18 dX11_told_6 (by decide) (fun c6 => ?_) (fun c6 => ?_)
  · replace c6 := bI_f c6
    refine j_aload_n C 0 dX11_told_18 rfl ?_
    refine j_iconst C (v := (nI 1)) dX11_told_19 (by decide) ?_
    refine j_callV (As := [.int (nI 1)]) (rest := []) C vw11_90 (h_error 1 (by decide)) ⟨0, 11, _, _, rfl, rfl, rfl⟩ rfl (Nat.le_of_ble_eq_true rfl) dX11_told_20 (by decide) ?_
    rintro _ _ ⟨rfl, rfl⟩
    refine j_iret C dX11_told_23 ?_
    unfold sp_told
    rw [if_neg c6]
    exact ⟨show (-1000000000 : Int32) - nI 1 = -1000000001 from by decide, hC.er 1⟩
  · replace c6 := bI_t c6
    obtain ⟨kn, gkn, hkn, rfl⟩ := inn_lit c6 (by omega)
    refine j_aload_n C 0 dX11_told_9 rfl ?_
    refine j_get C (v := .ref (q 35)) 0 8 rfl rfl inlC11 (by decide) kf11_33 rfl dX11_told_10 ?_
    refine j_iload_n C 1 dX11_told_13 rfl ?_
    refine j_ialdN C 35 0 rfl rfl kn rfl (by omega) (by decide) dX11_told_14 ?_
    refine j_v (fd kn) (hC.err kn (by omega)) ?_
    refine j_goto C 23 dX11_told_15 (by decide) ?_
    refine j_iret C dX11_told_23 ?_
    unfold sp_told
    rw [if_pos c6, tN_nI (n := kn) (by omega)]
    exact ⟨rfl, hC⟩
theorem dX11_ofCell_0 : decode cX11_ofCell 0 = .ok (.aload_n 0, 1) := by decide +kernel
theorem dX11_ofCell_1 : decode cX11_ofCell 1 = .ok (.iload_n 1, 1) := by decide +kernel
theorem dX11_ofCell_2 : decode cX11_ofCell 2 = .ok (.invokevirtual 106, 3) := by decide +kernel
theorem dX11_ofCell_5 : decode cX11_ofCell 5 = .ok (.ifCond .eq 12, 3) := by decide +kernel
theorem dX11_ofCell_8 : decode cX11_ofCell 8 = .ok (.iload_n 2, 1) := by decide +kernel
theorem dX11_ofCell_9 : decode cX11_ofCell 9 = .ok (.iconst 0, 1) := by decide +kernel
theorem dX11_ofCell_10 : decode cX11_ofCell 10 = .ok (.iconst 2, 1) := by decide +kernel
theorem dX11_ofCell_11 : decode cX11_ofCell 11 = .ok (.invokestatic 86, 3) := by decide +kernel
theorem dX11_ofCell_14 : decode cX11_ofCell 14 = .ok (.ifCond .ne 9, 3) := by decide +kernel
theorem dX11_ofCell_17 : decode cX11_ofCell 17 = .ok (.aload_n 0, 1) := by decide +kernel
theorem dX11_ofCell_18 : decode cX11_ofCell 18 = .ok (.iconst 1, 1) := by decide +kernel
theorem dX11_ofCell_19 : decode cX11_ofCell 19 = .ok (.invokevirtual 90, 3) := by decide +kernel
theorem dX11_ofCell_22 : decode cX11_ofCell 22 = .ok (.ireturn, 1) := by decide +kernel
theorem dX11_ofCell_23 : decode cX11_ofCell 23 = .ok (.iload_n 2, 1) := by decide +kernel
theorem dX11_ofCell_24 : decode cX11_ofCell 24 = .ok (.lookupswitch 54 #[(0, 28), (1, 41)], 28) := by decide +kernel
theorem dX11_ofCell_52 : decode cX11_ofCell 52 = .ok (.aload_n 0, 1) := by decide +kernel
theorem dX11_ofCell_53 : decode cX11_ofCell 53 = .ok (.getfield 75, 3) := by decide +kernel
theorem dX11_ofCell_56 : decode cX11_ofCell 56 = .ok (.getfield 94, 3) := by decide +kernel
theorem dX11_ofCell_59 : decode cX11_ofCell 59 = .ok (.getfield 110, 3) := by decide +kernel
theorem dX11_ofCell_62 : decode cX11_ofCell 62 = .ok (.iload_n 1, 1) := by decide +kernel
theorem dX11_ofCell_63 : decode cX11_ofCell 63 = .ok (.iaload, 1) := by decide +kernel
theorem dX11_ofCell_64 : decode cX11_ofCell 64 = .ok (.ireturn, 1) := by decide +kernel
theorem dX11_ofCell_65 : decode cX11_ofCell 65 = .ok (.aload_n 0, 1) := by decide +kernel
theorem dX11_ofCell_66 : decode cX11_ofCell 66 = .ok (.getfield 75, 3) := by decide +kernel
theorem dX11_ofCell_69 : decode cX11_ofCell 69 = .ok (.getfield 94, 3) := by decide +kernel
theorem dX11_ofCell_72 : decode cX11_ofCell 72 = .ok (.getfield 113, 3) := by decide +kernel
theorem dX11_ofCell_75 : decode cX11_ofCell 75 = .ok (.iload_n 1, 1) := by decide +kernel
theorem dX11_ofCell_76 : decode cX11_ofCell 76 = .ok (.iaload, 1) := by decide +kernel
theorem dX11_ofCell_77 : decode cX11_ofCell 77 = .ok (.ireturn, 1) := by decide +kernel
theorem dX11_ofCell_78 : decode cX11_ofCell 78 = .ok (.aload_n 0, 1) := by decide +kernel
theorem dX11_ofCell_79 : decode cX11_ofCell 79 = .ok (.getfield 75, 3) := by decide +kernel
theorem dX11_ofCell_82 : decode cX11_ofCell 82 = .ok (.getfield 94, 3) := by decide +kernel
theorem dX11_ofCell_85 : decode cX11_ofCell 85 = .ok (.iload_n 1, 1) := by decide +kernel
theorem dX11_ofCell_86 : decode cX11_ofCell 86 = .ok (.invokevirtual 116, 3) := by decide +kernel
theorem dX11_ofCell_89 : decode cX11_ofCell 89 = .ok (.ireturn, 1) := by decide +kernel
set_option maxHeartbeats 2000000 in
set_option maxRecDepth 20000 in
theorem k_ofCell {l : Launch} {D : va_G} {cI cG cW : ClassId} {q : Nat → Nat} {S : Nat → Int32} {X : Nat → Nat → Int32} {P : Nat → Nat} {c what : Int32} {V row kept tried bf fd pk bo so sh mv tr : Nat → Int32} {nc np nw d nt nq : Nat} (hR : RKx row nc np nw d nt nq) (hC : CR (S, X, P) (sR V row kept tried bf fd pk bo so sh mv tr)) : Ci l yX11_ofCell cX11_ofCell 3 (some .int) 3 D (tyL cI cG cW) (wC cI cG cW q) [.ref (q 0), .int c, .int what] (S, X, P) (fun r τ => r = (sp_ofCell V row kept tried bf fd pk bo so sh mv tr c what).1 ∧ CR τ (sp_ofCell V row kept tried bf fd pk bo so sh mv tr c what).2) := by
  refine Ci.of (by decide) (Nat.le_of_ble_eq_true rfl) ?_
  intro p_ e_ s_ m_ b_ M_ c_ A_ C
  replace C : Cx _ _ _ _ _ _ _ _ RX11 _ _ _ _ := C
  refine j_L [0, 1, 2] [(0, .ref (q 0)), (1, .int c), (2, .int what)] rfl ?_
  obtain ⟨hI, hW, ⟨e0, hd⟩, ⟨e4, ht⟩, ⟨e5, hq⟩, hB⟩ := id hR
  obtain ⟨⟨e2, hc2, hc10⟩, ⟨e3, hn6⟩, ⟨e8, hw8⟩, hP, hE, hLo, hT0, hT1⟩ := id hI
  have hIc := hI
  have hF : CF S X 0 row (X 44) nc np := by have h := hC.fld; rw [e2, e3, tN_nI (by omega), tN_nI (by omega)] at h; exact h
  have hK : CK S X 0 row nw nt nq := by have h := hC.kp; rw [e8, e4, e5, tN_nI (by omega), tN_nI (by omega), tN_nI (by omega)] at h; exact h
  have hS1 : S 1 = row 8 := hK.wrongs
  have hS5 : S 5 = row 2 := hF.cells
  have hS7 : S 7 = row 3 := hF.people
  refine j_aload_n C 0 dX11_ofCell_0 rfl ?_
  refine j_iload_n C 1 dX11_ofCell_1 rfl ?_
  refine j_callV (As := [.int c]) (rest := []) C vw11_106 (h_isCell) ⟨0, 11, _, _, rfl, rfl, rfl⟩ rfl (Nat.le_of_ble_eq_true rfl) dX11_ofCell_2 (by decide) ?_
  rintro _ _ ⟨rfl, rfl⟩
  refine j_v (bI (inn c 0 (row 2 - 1))) (by rw [hS5]) ?_
  refine j_if_eq C 17 dX11_ofCell_5 (by decide) (fun c5 => ?_) (fun c5 => ?_)
  · replace c5 := bI_f c5
    refine j_aload_n C 0 dX11_ofCell_17 rfl ?_
    refine j_iconst C (v := (nI 1)) dX11_ofCell_18 (by decide) ?_
    refine j_callV (As := [.int (nI 1)]) (rest := []) C vw11_90 (h_error 1 (by decide)) ⟨0, 11, _, _, rfl, rfl, rfl⟩ rfl (Nat.le_of_ble_eq_true rfl) dX11_ofCell_19 (by decide) ?_
    rintro _ _ ⟨rfl, rfl⟩
    refine j_iret C dX11_ofCell_22 ?_
    unfold sp_ofCell
    rw [if_neg (fun h => c5 h.1)]
    exact ⟨show (-1000000000 : Int32) - nI 1 = -1000000001 from by decide, hC.er 1⟩
  · replace c5 := bI_t c5
    obtain ⟨cn, hcn, rfl⟩ := inn_row c5 e2 (by omega)
    refine j_iload_n C 2 dX11_ofCell_8 rfl ?_
    refine j_iconst C (v := (nI 0)) dX11_ofCell_9 (by decide) ?_
    refine j_iconst C (v := (nI 2)) dX11_ofCell_10 (by decide) ?_
    refine j_callS (As := [.int what, .int (nI 0), .int (nI 2)]) (rest := []) C sw11_86 (h_within) rfl (Nat.le_of_ble_eq_true rfl) dX11_ofCell_11 (by decide) ?_
    rintro _ _ ⟨rfl, rfl⟩
    refine j_if_ne C 23 dX11_ofCell_14 (by decide) (fun c14 => ?_) (fun c14 => ?_)
    · replace c14 := bI_t c14
      obtain ⟨wn, gwn, hwn, rfl⟩ := inn_lit c14 (by omega)
      refine j_iload_n C 2 dX11_ofCell_23 rfl ?_
      rcases (show wn = 0 ∨ wn = 1 ∨ wn = 2 by omega) with rfl | rfl | rfl
      · refine j_lookup C (off := 28) 52 dX11_ofCell_24 (by decide) (by decide) (by decide) ?_
        refine j_aload_n C 0 dX11_ofCell_52 rfl ?_
        refine j_get C (v := .ref (q 1)) 0 1 rfl rfl inlC11 (by decide) kf11_75 rfl dX11_ofCell_53 ?_
        refine j_getN C (v := .ref (q 3)) 1 0 rfl rfl inlC3 (by decide) kf11_94 rfl dX11_ofCell_56 ?_
        refine j_getN C (v := .ref (q 36)) 3 1 rfl rfl inlC1 (by decide) kf11_110 rfl dX11_ofCell_59 ?_
        refine j_iload_n C 1 dX11_ofCell_62 rfl ?_
        refine j_ialdN C 36 0 rfl rfl cn rfl (by omega) (by decide) dX11_ofCell_63 ?_
        refine j_v (row (10 + cn)) (hF.ears cn (by omega)) ?_
        refine j_iret C dX11_ofCell_64 ?_
        unfold sp_ofCell
        rw [if_pos ⟨c5, c14⟩, tN_nI (n := cn) (by omega)]
        rw [if_pos (by decide)]
        exact ⟨rfl, hC⟩
      · refine j_lookup C (off := 41) 65 dX11_ofCell_24 (by decide) (by decide) (by decide) ?_
        refine j_aload_n C 0 dX11_ofCell_65 rfl ?_
        refine j_get C (v := .ref (q 1)) 0 1 rfl rfl inlC11 (by decide) kf11_75 rfl dX11_ofCell_66 ?_
        refine j_getN C (v := .ref (q 3)) 1 0 rfl rfl inlC3 (by decide) kf11_94 rfl dX11_ofCell_69 ?_
        refine j_getN C (v := .ref (q 37)) 3 2 rfl rfl inlC1 (by decide) kf11_113 rfl dX11_ofCell_72 ?_
        refine j_iload_n C 1 dX11_ofCell_75 rfl ?_
        refine j_ialdN C 37 0 rfl rfl cn rfl (by omega) (by decide) dX11_ofCell_76 ?_
        refine j_v (row (20 + cn)) (hF.low cn (by omega)) ?_
        refine j_iret C dX11_ofCell_77 ?_
        unfold sp_ofCell
        rw [if_pos ⟨c5, c14⟩, tN_nI (n := cn) (by omega)]
        rw [if_neg (by decide), if_pos (by decide)]
        exact ⟨rfl, hC⟩
      · refine j_lookup C (off := 54) 78 dX11_ofCell_24 (by decide) (by decide) (by decide) ?_
        refine j_aload_n C 0 dX11_ofCell_78 rfl ?_
        refine j_get C (v := .ref (q 1)) 0 1 rfl rfl inlC11 (by decide) kf11_75 rfl dX11_ofCell_79 ?_
        refine j_getN C (v := .ref (q 3)) 1 0 rfl rfl inlC3 (by decide) kf11_94 rfl dX11_ofCell_82 ?_
        refine j_iload_n C 1 dX11_ofCell_85 rfl ?_
        refine j_callVN (As := [.int (nI cn)]) (rest := []) C vn11_116 (h_who_0 hF e3 hn6) ⟨3, 1, _, _, rfl, rfl, rfl⟩ rfl (Nat.le_of_ble_eq_true rfl) dX11_ofCell_86 (by decide) ?_
        rintro _ _ ⟨rfl, rfl⟩
        refine j_iret C dX11_ofCell_89 ?_
        unfold sp_ofCell
        rw [if_pos ⟨c5, c14⟩, tN_nI (n := cn) (by omega), e3, tN_nI (n := np) (by omega)]
        rw [if_neg (by decide), if_neg (by decide)]
        exact ⟨rfl, hC⟩
    · replace c14 := bI_f c14
      refine j_aload_n C 0 dX11_ofCell_17 rfl ?_
      refine j_iconst C (v := (nI 1)) dX11_ofCell_18 (by decide) ?_
      refine j_callV (As := [.int (nI 1)]) (rest := []) C vw11_90 (h_error 1 (by decide)) ⟨0, 11, _, _, rfl, rfl, rfl⟩ rfl (Nat.le_of_ble_eq_true rfl) dX11_ofCell_19 (by decide) ?_
      rintro _ _ ⟨rfl, rfl⟩
      refine j_iret C dX11_ofCell_22 ?_
      unfold sp_ofCell
      rw [if_neg (fun h => c14 h.2)]
      exact ⟨show (-1000000000 : Int32) - nI 1 = -1000000001 from by decide, hC.er 1⟩
theorem CK.addW {S : Nat → Int32} {X : Nat → Nat → Int32} {row : Nat → Int32} {nw nt nq : Nat} (h : CK S X 0 row nw nt nq) (hw : nw < 8) (b t w : Int32) : CK (upd S 1 (nI (nw + 1))) (va_up (va_up (va_up X 66 (upd (X 66) nw b)) 67 (upd (X 67) nw t)) 68 (upd (X 68) nw w)) 0 (upd (upd (upd (upd row (66 + 3 * nw) b) (66 + 3 * nw + 1) t) (66 + 3 * nw + 2) w) 8 (nI (nw + 1))) (nw + 1) nt nq := by
  refine ⟨?_, ?_, fun j hj i hi => ?_, ?_, fun i hi => ?_, ?_, fun i hi => ?_⟩
  · rw [pk_us, pk_us]
  · rw [pk_un (by omega), pk_un (by omega), pk_un (by omega), pk_un (by omega), pk_un (by omega)]; exact h.z
  · rw [pk_un (by omega)]
    by_cases e : i = nw
    · subst e
      rcases (show j = 0 ∨ j = 1 ∨ j = 2 by omega) with rfl | rfl | rfl
      · rw [pk_un (by omega), pk_un (by omega)]; show upd (X 66) i b i = upd row (66 + 3 * i) b (66 + 3 * i); rw [pk_us, pk_us]
      · rw [pk_un (by omega), pk_us]; exact pk_us
      · rw [pk_us]; exact pk_us
    · rw [pk_un (by omega), pk_un (by omega), pk_un (by omega)]
      rcases (show j = 0 ∨ j = 1 ∨ j = 2 by omega) with rfl | rfl | rfl
      · exact (pk_un e).trans (h.wr 0 (by omega) i (by omega))
      · exact (pk_un e).trans (h.wr 1 (by omega) i (by omega))
      · exact (pk_un e).trans (h.wr 2 (by omega) i (by omega))
  · rw [pk_un (by omega), pk_un (by omega), pk_un (by omega), pk_un (by omega), pk_un (by omega)]; exact h.tsz
  · rw [va_n (by omega), va_n (by omega), va_n (by omega), pk_un (by omega), pk_un (by omega), pk_un (by omega), pk_un (by omega)]; exact h.tape i hi
  · rw [pk_un (by omega), pk_un (by omega), pk_un (by omega), pk_un (by omega), pk_un (by omega)]; exact h.qsz
  · rw [va_n (by omega), va_n (by omega), va_n (by omega), pk_un (by omega), pk_un (by omega), pk_un (by omega), pk_un (by omega)]; exact h.wait i hi

theorem dX11_wrong_0 : decode cX11_wrong 0 = .ok (.aload_n 0, 1) := by decide +kernel
theorem dX11_wrong_1 : decode cX11_wrong 1 = .ok (.iload_n 1, 1) := by decide +kernel
theorem dX11_wrong_2 : decode cX11_wrong 2 = .ok (.invokevirtual 123, 3) := by decide +kernel
theorem dX11_wrong_5 : decode cX11_wrong 5 = .ok (.ifCond .eq 26, 3) := by decide +kernel
theorem dX11_wrong_8 : decode cX11_wrong 8 = .ok (.aload_n 0, 1) := by decide +kernel
theorem dX11_wrong_9 : decode cX11_wrong 9 = .ok (.iload_n 2, 1) := by decide +kernel
theorem dX11_wrong_10 : decode cX11_wrong 10 = .ok (.invokevirtual 123, 3) := by decide +kernel
theorem dX11_wrong_13 : decode cX11_wrong 13 = .ok (.ifCond .eq 18, 3) := by decide +kernel
theorem dX11_wrong_16 : decode cX11_wrong 16 = .ok (.iload_n 1, 1) := by decide +kernel
theorem dX11_wrong_17 : decode cX11_wrong 17 = .ok (.iload_n 2, 1) := by decide +kernel
theorem dX11_wrong_18 : decode cX11_wrong 18 = .ok (.if_icmp .eq 13, 3) := by decide +kernel
theorem dX11_wrong_21 : decode cX11_wrong 21 = .ok (.iload_n 3, 1) := by decide +kernel
theorem dX11_wrong_22 : decode cX11_wrong 22 = .ok (.iconst 1, 1) := by decide +kernel
theorem dX11_wrong_23 : decode cX11_wrong 23 = .ok (.bipush 20, 2) := by decide +kernel
theorem dX11_wrong_25 : decode cX11_wrong 25 = .ok (.invokestatic 86, 3) := by decide +kernel
theorem dX11_wrong_28 : decode cX11_wrong 28 = .ok (.ifCond .ne 9, 3) := by decide +kernel
theorem dX11_wrong_31 : decode cX11_wrong 31 = .ok (.aload_n 0, 1) := by decide +kernel
theorem dX11_wrong_32 : decode cX11_wrong 32 = .ok (.iconst 1, 1) := by decide +kernel
theorem dX11_wrong_33 : decode cX11_wrong 33 = .ok (.invokevirtual 90, 3) := by decide +kernel
theorem dX11_wrong_36 : decode cX11_wrong 36 = .ok (.ireturn, 1) := by decide +kernel
theorem dX11_wrong_37 : decode cX11_wrong 37 = .ok (.aload_n 0, 1) := by decide +kernel
theorem dX11_wrong_38 : decode cX11_wrong 38 = .ok (.getfield 75, 3) := by decide +kernel
theorem dX11_wrong_41 : decode cX11_wrong 41 = .ok (.getfield 164, 3) := by decide +kernel
theorem dX11_wrong_44 : decode cX11_wrong 44 = .ok (.bipush 8, 2) := by decide +kernel
theorem dX11_wrong_46 : decode cX11_wrong 46 = .ok (.if_icmp .lt 9, 3) := by decide +kernel
theorem dX11_wrong_49 : decode cX11_wrong 49 = .ok (.aload_n 0, 1) := by decide +kernel
theorem dX11_wrong_50 : decode cX11_wrong 50 = .ok (.iconst 4, 1) := by decide +kernel
theorem dX11_wrong_51 : decode cX11_wrong 51 = .ok (.invokevirtual 90, 3) := by decide +kernel
theorem dX11_wrong_54 : decode cX11_wrong 54 = .ok (.ireturn, 1) := by decide +kernel
theorem dX11_wrong_55 : decode cX11_wrong 55 = .ok (.aload_n 0, 1) := by decide +kernel
theorem dX11_wrong_56 : decode cX11_wrong 56 = .ok (.getfield 75, 3) := by decide +kernel
theorem dX11_wrong_59 : decode cX11_wrong 59 = .ok (.iload_n 1, 1) := by decide +kernel
theorem dX11_wrong_60 : decode cX11_wrong 60 = .ok (.iload_n 2, 1) := by decide +kernel
theorem dX11_wrong_61 : decode cX11_wrong 61 = .ok (.iload_n 3, 1) := by decide +kernel
theorem dX11_wrong_62 : decode cX11_wrong 62 = .ok (.invokevirtual 167, 3) := by decide +kernel
theorem dX11_wrong_65 : decode cX11_wrong 65 = .ok (.ireturn, 1) := by decide +kernel
set_option maxHeartbeats 2000000 in
set_option maxRecDepth 20000 in
theorem k_wrong {l : Launch} {D : va_G} {cI cG cW : ClassId} {q : Nat → Nat} {S : Nat → Int32} {X : Nat → Nat → Int32} {P : Nat → Nat} {b t w : Int32} {V row kept tried bf fd pk bo so sh mv tr : Nat → Int32} {nc np nw d nt nq : Nat} (hR : RKx row nc np nw d nt nq) (hC : CR (S, X, P) (sR V row kept tried bf fd pk bo so sh mv tr)) : Ci l yX11_wrong cX11_wrong 4 (some .int) 3 D (tyL cI cG cW) (wC cI cG cW q) [.ref (q 0), .int b, .int t, .int w] (S, X, P) (fun r τ => r = (sp_wrong V row kept tried bf fd pk bo so sh mv tr b t w).1 ∧ CR τ (sp_wrong V row kept tried bf fd pk bo so sh mv tr b t w).2) := by
  refine Ci.of (by decide) (Nat.le_of_ble_eq_true rfl) ?_
  intro p_ e_ s_ m_ b_ M_ c_ A_ C
  replace C : Cx _ _ _ _ _ _ _ _ RX11 _ _ _ _ := C
  refine j_L [0, 1, 2, 3] [(0, .ref (q 0)), (1, .int b), (2, .int t), (3, .int w)] rfl ?_
  obtain ⟨hI, hW, ⟨e0, hd⟩, ⟨e4, ht⟩, ⟨e5, hq⟩, hB⟩ := id hR
  obtain ⟨⟨e2, hc2, hc10⟩, ⟨e3, hn6⟩, ⟨e8, hw8⟩, hP, hE, hLo, hT0, hT1⟩ := id hI
  have hIc := hI
  have hF : CF S X 0 row (X 44) nc np := by have h := hC.fld; rw [e2, e3, tN_nI (by omega), tN_nI (by omega)] at h; exact h
  have hK : CK S X 0 row nw nt nq := by have h := hC.kp; rw [e8, e4, e5, tN_nI (by omega), tN_nI (by omega), tN_nI (by omega)] at h; exact h
  have hS1 : S 1 = row 8 := hK.wrongs
  have hS5 : S 5 = row 2 := hF.cells
  have hS7 : S 7 = row 3 := hF.people
  refine j_aload_n C 0 dX11_wrong_0 rfl ?_
  refine j_iload_n C 1 dX11_wrong_1 rfl ?_
  refine j_callV (As := [.int b]) (rest := []) C vw11_123 (h_isPerson) ⟨0, 11, _, _, rfl, rfl, rfl⟩ rfl (Nat.le_of_ble_eq_true rfl) dX11_wrong_2 (by decide) ?_
  rintro _ _ ⟨rfl, rfl⟩
  refine j_v (bI (inn b 0 (row 3 - 1))) (by rw [hS7]) ?_
  refine j_if_eq C 31 dX11_wrong_5 (by decide) (fun c5 => ?_) (fun c5 => ?_)
  · replace c5 := bI_f c5
    refine j_aload_n C 0 dX11_wrong_31 rfl ?_
    refine j_iconst C (v := (nI 1)) dX11_wrong_32 (by decide) ?_
    refine j_callV (As := [.int (nI 1)]) (rest := []) C vw11_90 (h_error 1 (by decide)) ⟨0, 11, _, _, rfl, rfl, rfl⟩ rfl (Nat.le_of_ble_eq_true rfl) dX11_wrong_33 (by decide) ?_
    rintro _ _ ⟨rfl, rfl⟩
    refine j_iret C dX11_wrong_36 ?_
    unfold sp_wrong
    rw [if_neg (fun h => c5 h.1)]
    exact ⟨show (-1000000000 : Int32) - nI 1 = -1000000001 from by decide, hC.er 1⟩
  · replace c5 := bI_t c5
    refine j_aload_n C 0 dX11_wrong_8 rfl ?_
    refine j_iload_n C 2 dX11_wrong_9 rfl ?_
    refine j_callV (As := [.int t]) (rest := []) C vw11_123 (h_isPerson) ⟨0, 11, _, _, rfl, rfl, rfl⟩ rfl (Nat.le_of_ble_eq_true rfl) dX11_wrong_10 (by decide) ?_
    rintro _ _ ⟨rfl, rfl⟩
    refine j_v (bI (inn t 0 (row 3 - 1))) (by rw [hS7]) ?_
    refine j_if_eq C 31 dX11_wrong_13 (by decide) (fun c13 => ?_) (fun c13 => ?_)
    · replace c13 := bI_f c13
      refine j_aload_n C 0 dX11_wrong_31 rfl ?_
      refine j_iconst C (v := (nI 1)) dX11_wrong_32 (by decide) ?_
      refine j_callV (As := [.int (nI 1)]) (rest := []) C vw11_90 (h_error 1 (by decide)) ⟨0, 11, _, _, rfl, rfl, rfl⟩ rfl (Nat.le_of_ble_eq_true rfl) dX11_wrong_33 (by decide) ?_
      rintro _ _ ⟨rfl, rfl⟩
      refine j_iret C dX11_wrong_36 ?_
      unfold sp_wrong
      rw [if_neg (fun h => c13 h.2.1)]
      exact ⟨show (-1000000000 : Int32) - nI 1 = -1000000001 from by decide, hC.er 1⟩
    · replace c13 := bI_t c13
      refine j_iload_n C 1 dX11_wrong_16 rfl ?_
      refine j_iload_n C 2 dX11_wrong_17 rfl ?_
      refine j_icmp_eq C 31 dX11_wrong_18 (by decide) (fun c18 => ?_) (fun c18 => ?_)
      · skip
        refine j_aload_n C 0 dX11_wrong_31 rfl ?_
        refine j_iconst C (v := (nI 1)) dX11_wrong_32 (by decide) ?_
        refine j_callV (As := [.int (nI 1)]) (rest := []) C vw11_90 (h_error 1 (by decide)) ⟨0, 11, _, _, rfl, rfl, rfl⟩ rfl (Nat.le_of_ble_eq_true rfl) dX11_wrong_33 (by decide) ?_
        rintro _ _ ⟨rfl, rfl⟩
        refine j_iret C dX11_wrong_36 ?_
        unfold sp_wrong
        rw [if_neg (fun h => h.2.2.1 c18)]
        exact ⟨show (-1000000000 : Int32) - nI 1 = -1000000001 from by decide, hC.er 1⟩
      · skip
        refine j_iload_n C 3 dX11_wrong_21 rfl ?_
        refine j_iconst C (v := (nI 1)) dX11_wrong_22 (by decide) ?_
        refine j_bipush C (v := (nI 20)) dX11_wrong_23 (by decide) ?_
        refine j_callS (As := [.int w, .int (nI 1), .int (nI 20)]) (rest := []) C sw11_86 (h_within) rfl (Nat.le_of_ble_eq_true rfl) dX11_wrong_25 (by decide) ?_
        rintro _ _ ⟨rfl, rfl⟩
        refine j_if_ne C 37 dX11_wrong_28 (by decide) (fun c28 => ?_) (fun c28 => ?_)
        · replace c28 := bI_t c28
          refine j_aload_n C 0 dX11_wrong_37 rfl ?_
          refine j_get C (v := .ref (q 1)) 0 1 rfl rfl inlC11 (by decide) kf11_75 rfl dX11_wrong_38 ?_
          refine j_getN C (v := .int (S 1)) 1 1 rfl rfl inlC3 (by decide) kf11_164 rfl dX11_wrong_41 ?_
          refine j_v (nI nw) (hS1.trans e8) ?_
          refine j_bipush C (v := (nI 8)) dX11_wrong_44 (by decide) ?_
          refine j_icmp_lt C 55 dX11_wrong_46 (by decide) (fun c46 => ?_) (fun c46 => ?_)
          · rw [nI_ltI (by omega) (by omega)] at c46
            refine j_aload_n C 0 dX11_wrong_55 rfl ?_
            refine j_get C (v := .ref (q 1)) 0 1 rfl rfl inlC11 (by decide) kf11_75 rfl dX11_wrong_56 ?_
            refine j_iload_n C 1 dX11_wrong_59 rfl ?_
            refine j_iload_n C 2 dX11_wrong_60 rfl ?_
            refine j_iload_n C 3 dX11_wrong_61 rfl ?_
            refine j_callVN (As := [.int b, .int t, .int w]) (rest := []) C vn11_167 (h_addWrong (hS1.trans e8) (by omega)) ⟨1, 3, _, _, rfl, rfl, rfl⟩ rfl (Nat.le_of_ble_eq_true rfl) dX11_wrong_62 (by decide) ?_
            rintro _ _ ⟨rfl, rfl⟩
            refine j_iret C dX11_wrong_65 ?_
            unfold sp_wrong
            rw [if_pos ⟨c5, c13, c18, c28⟩]
            rw [if_neg (by rw [e8, nI_eq (by omega) (by omega)]; omega), e8, tN_nI (by omega), nI_add]
            exact ⟨rfl, hC.nowx (fun k hk => pk_un (by omega)) (fun k hk => ((va_n (by omega)).trans ((va_n (by omega)).trans (va_n (by omega))))) ((pk_un (by omega)).trans ((pk_un (by omega)).trans ((pk_un (by omega)).trans ((pk_un (by omega)).trans e2)))) ((pk_un (by omega)).trans ((pk_un (by omega)).trans ((pk_un (by omega)).trans ((pk_un (by omega)).trans e3)))) pk_us ((pk_un (by omega)).trans ((pk_un (by omega)).trans ((pk_un (by omega)).trans ((pk_un (by omega)).trans e4)))) ((pk_un (by omega)).trans ((pk_un (by omega)).trans ((pk_un (by omega)).trans ((pk_un (by omega)).trans e5)))) ⟨hc10, hn6, by omega, ht, hq⟩ (hF.cg (fun k _ _ => pk_un (by omega)) (fun k _ _ => ((va_n (by omega)).trans ((va_n (by omega)).trans (va_n (by omega))))) (fun _ _ => rfl) (fun k hk => ((pk_un (by omega)).trans ((pk_un (by omega)).trans ((pk_un (by omega)).trans ((pk_un (by omega)).trans rfl))))) hc10 hn6) (hK.addW (by omega) b t w) (hC.l0.st (by omega) (pk_un (by omega)) ((va_n (by omega)).trans ((va_n (by omega)).trans (va_n (by omega)))) (fun k hk => ((pk_un (by omega)).trans ((pk_un (by omega)).trans ((pk_un (by omega)).trans ((pk_un (by omega)).trans rfl)))))) (hC.l1.st (by omega) (pk_un (by omega)) ((va_n (by omega)).trans ((va_n (by omega)).trans (va_n (by omega)))) (fun k hk => ((pk_un (by omega)).trans ((pk_un (by omega)).trans ((pk_un (by omega)).trans ((pk_un (by omega)).trans rfl))))))⟩
          · rw [nI_ltI (by omega) (by omega)] at c46
            refine j_aload_n C 0 dX11_wrong_49 rfl ?_
            refine j_iconst C (v := (nI 4)) dX11_wrong_50 (by decide) ?_
            refine j_callV (As := [.int (nI 4)]) (rest := []) C vw11_90 (h_error 4 (by decide)) ⟨0, 11, _, _, rfl, rfl, rfl⟩ rfl (Nat.le_of_ble_eq_true rfl) dX11_wrong_51 (by decide) ?_
            rintro _ _ ⟨rfl, rfl⟩
            refine j_iret C dX11_wrong_54 ?_
            unfold sp_wrong
            rw [if_pos ⟨c5, c13, c18, c28⟩]
            rw [if_pos (by rw [e8]; congr 1; omega)]
            exact ⟨show (-1000000000 : Int32) - nI 4 = -1000000004 from by decide, hC.er 4⟩
        · replace c28 := bI_f c28
          refine j_aload_n C 0 dX11_wrong_31 rfl ?_
          refine j_iconst C (v := (nI 1)) dX11_wrong_32 (by decide) ?_
          refine j_callV (As := [.int (nI 1)]) (rest := []) C vw11_90 (h_error 1 (by decide)) ⟨0, 11, _, _, rfl, rfl, rfl⟩ rfl (Nat.le_of_ble_eq_true rfl) dX11_wrong_33 (by decide) ?_
          rintro _ _ ⟨rfl, rfl⟩
          refine j_iret C dX11_wrong_36 ?_
          unfold sp_wrong
          rw [if_neg (fun h => c28 h.2.2.2)]
          exact ⟨show (-1000000000 : Int32) - nI 1 = -1000000001 from by decide, hC.er 1⟩

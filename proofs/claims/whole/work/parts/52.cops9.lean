/-! The class's public calls: ofPerson, change, count, shares. -/
theorem CR.w4 {S : Nat → Int32} {X Y : Nat → Nat → Int32} {P P' : Nat → Nat} {V row kept tried bf fd pk bo so sh mv tr : Nat → Int32} {nc np nw d nt nq : Nat} (hC : CR (S, X, P) (sR V row kept tried bf fd pk bo so sh mv tr)) (hR : RKx row nc np nw d nt nq) {w : Nat → Int32} (hG : CF S Y 0 row w nc np) (hX : FrX 0 Y X) : CR (S, Y, P') (sR V row kept tried bf fd pk bo so sh mv tr) :=
  hC.dn hR hG (by have := hC.kp.z; exact this) (fun _ _ _ => rfl) hX (fun _ _ => rfl)
theorem nN {x : Int32} {b : Nat} (hb : b < 2 ^ 31) (h : ¬ inn x (nI 0) (nI b)) : x.toInt < 0 ∨ (b : Int) < x.toInt := by
  have h1 := nI_toInt (n := 0) (by omega)
  have h2 := nI_toInt hb
  by_cases g : x.toInt < 0
  · exact Or.inl g
  · by_cases k : (b : Int) < x.toInt
    · exact Or.inr k
    · exact absurd ⟨by rw [Int32.le_iff_toInt_le]; omega, by rw [Int32.le_iff_toInt_le]; omega⟩ h

theorem dX11_ofPerson_0 : decode cX11_ofPerson 0 = .ok (.aload_n 0, 1) := by decide +kernel
theorem dX11_ofPerson_1 : decode cX11_ofPerson 1 = .ok (.iload_n 1, 1) := by decide +kernel
theorem dX11_ofPerson_2 : decode cX11_ofPerson 2 = .ok (.invokevirtual 123, 3) := by decide +kernel
theorem dX11_ofPerson_5 : decode cX11_ofPerson 5 = .ok (.ifCond .eq 13, 3) := by decide +kernel
theorem dX11_ofPerson_8 : decode cX11_ofPerson 8 = .ok (.iload_n 2, 1) := by decide +kernel
theorem dX11_ofPerson_9 : decode cX11_ofPerson 9 = .ok (.iconst 0, 1) := by decide +kernel
theorem dX11_ofPerson_10 : decode cX11_ofPerson 10 = .ok (.bipush 8, 2) := by decide +kernel
theorem dX11_ofPerson_12 : decode cX11_ofPerson 12 = .ok (.invokestatic 86, 3) := by decide +kernel
theorem dX11_ofPerson_15 : decode cX11_ofPerson 15 = .ok (.ifCond .ne 9, 3) := by decide +kernel
theorem dX11_ofPerson_18 : decode cX11_ofPerson 18 = .ok (.aload_n 0, 1) := by decide +kernel
theorem dX11_ofPerson_19 : decode cX11_ofPerson 19 = .ok (.iconst 1, 1) := by decide +kernel
theorem dX11_ofPerson_20 : decode cX11_ofPerson 20 = .ok (.invokevirtual 90, 3) := by decide +kernel
theorem dX11_ofPerson_23 : decode cX11_ofPerson 23 = .ok (.ireturn, 1) := by decide +kernel
theorem dX11_ofPerson_24 : decode cX11_ofPerson 24 = .ok (.aload_n 0, 1) := by decide +kernel
theorem dX11_ofPerson_25 : decode cX11_ofPerson 25 = .ok (.getfield 75, 3) := by decide +kernel
theorem dX11_ofPerson_28 : decode cX11_ofPerson 28 = .ok (.getfield 94, 3) := by decide +kernel
theorem dX11_ofPerson_31 : decode cX11_ofPerson 31 = .ok (.astore_n 3, 1) := by decide +kernel
theorem dX11_ofPerson_32 : decode cX11_ofPerson 32 = .ok (.aload_n 0, 1) := by decide +kernel
theorem dX11_ofPerson_33 : decode cX11_ofPerson 33 = .ok (.getfield 75, 3) := by decide +kernel
theorem dX11_ofPerson_36 : decode cX11_ofPerson 36 = .ok (.aload_n 3, 1) := by decide +kernel
theorem dX11_ofPerson_37 : decode cX11_ofPerson 37 = .ok (.iconst 0, 1) := by decide +kernel
theorem dX11_ofPerson_38 : decode cX11_ofPerson 38 = .ok (.invokevirtual 126, 3) := by decide +kernel
theorem dX11_ofPerson_41 : decode cX11_ofPerson 41 = .ok (.iload_n 2, 1) := by decide +kernel
theorem dX11_ofPerson_42 : decode cX11_ofPerson 42 = .ok (.tableswitch 101 0 7 #[46, 53, 60, 67, 74, 81, 88, 95], 46) := by decide +kernel
theorem dX11_ofPerson_88 : decode cX11_ofPerson 88 = .ok (.aload_n 3, 1) := by decide +kernel
theorem dX11_ofPerson_89 : decode cX11_ofPerson 89 = .ok (.getfield 130, 3) := by decide +kernel
theorem dX11_ofPerson_92 : decode cX11_ofPerson 92 = .ok (.iload_n 1, 1) := by decide +kernel
theorem dX11_ofPerson_93 : decode cX11_ofPerson 93 = .ok (.iaload, 1) := by decide +kernel
theorem dX11_ofPerson_94 : decode cX11_ofPerson 94 = .ok (.ireturn, 1) := by decide +kernel
theorem dX11_ofPerson_95 : decode cX11_ofPerson 95 = .ok (.aload_n 3, 1) := by decide +kernel
theorem dX11_ofPerson_96 : decode cX11_ofPerson 96 = .ok (.getfield 133, 3) := by decide +kernel
theorem dX11_ofPerson_99 : decode cX11_ofPerson 99 = .ok (.iload_n 1, 1) := by decide +kernel
theorem dX11_ofPerson_100 : decode cX11_ofPerson 100 = .ok (.iaload, 1) := by decide +kernel
theorem dX11_ofPerson_101 : decode cX11_ofPerson 101 = .ok (.ireturn, 1) := by decide +kernel
theorem dX11_ofPerson_102 : decode cX11_ofPerson 102 = .ok (.aload_n 3, 1) := by decide +kernel
theorem dX11_ofPerson_103 : decode cX11_ofPerson 103 = .ok (.getfield 136, 3) := by decide +kernel
theorem dX11_ofPerson_106 : decode cX11_ofPerson 106 = .ok (.iload_n 1, 1) := by decide +kernel
theorem dX11_ofPerson_107 : decode cX11_ofPerson 107 = .ok (.iaload, 1) := by decide +kernel
theorem dX11_ofPerson_108 : decode cX11_ofPerson 108 = .ok (.ireturn, 1) := by decide +kernel
theorem dX11_ofPerson_109 : decode cX11_ofPerson 109 = .ok (.aload_n 3, 1) := by decide +kernel
theorem dX11_ofPerson_110 : decode cX11_ofPerson 110 = .ok (.getfield 139, 3) := by decide +kernel
theorem dX11_ofPerson_113 : decode cX11_ofPerson 113 = .ok (.iload_n 1, 1) := by decide +kernel
theorem dX11_ofPerson_114 : decode cX11_ofPerson 114 = .ok (.iaload, 1) := by decide +kernel
theorem dX11_ofPerson_115 : decode cX11_ofPerson 115 = .ok (.ireturn, 1) := by decide +kernel
theorem dX11_ofPerson_116 : decode cX11_ofPerson 116 = .ok (.aload_n 3, 1) := by decide +kernel
theorem dX11_ofPerson_117 : decode cX11_ofPerson 117 = .ok (.getfield 142, 3) := by decide +kernel
theorem dX11_ofPerson_120 : decode cX11_ofPerson 120 = .ok (.iload_n 1, 1) := by decide +kernel
theorem dX11_ofPerson_121 : decode cX11_ofPerson 121 = .ok (.iaload, 1) := by decide +kernel
theorem dX11_ofPerson_122 : decode cX11_ofPerson 122 = .ok (.ireturn, 1) := by decide +kernel
theorem dX11_ofPerson_123 : decode cX11_ofPerson 123 = .ok (.aload_n 3, 1) := by decide +kernel
theorem dX11_ofPerson_124 : decode cX11_ofPerson 124 = .ok (.getfield 145, 3) := by decide +kernel
theorem dX11_ofPerson_127 : decode cX11_ofPerson 127 = .ok (.iload_n 1, 1) := by decide +kernel
theorem dX11_ofPerson_128 : decode cX11_ofPerson 128 = .ok (.iaload, 1) := by decide +kernel
theorem dX11_ofPerson_129 : decode cX11_ofPerson 129 = .ok (.ireturn, 1) := by decide +kernel
theorem dX11_ofPerson_130 : decode cX11_ofPerson 130 = .ok (.aload_n 3, 1) := by decide +kernel
theorem dX11_ofPerson_131 : decode cX11_ofPerson 131 = .ok (.getfield 148, 3) := by decide +kernel
theorem dX11_ofPerson_134 : decode cX11_ofPerson 134 = .ok (.iload_n 1, 1) := by decide +kernel
theorem dX11_ofPerson_135 : decode cX11_ofPerson 135 = .ok (.iaload, 1) := by decide +kernel
theorem dX11_ofPerson_136 : decode cX11_ofPerson 136 = .ok (.ireturn, 1) := by decide +kernel
theorem dX11_ofPerson_137 : decode cX11_ofPerson 137 = .ok (.aload_n 3, 1) := by decide +kernel
theorem dX11_ofPerson_138 : decode cX11_ofPerson 138 = .ok (.iload_n 1, 1) := by decide +kernel
theorem dX11_ofPerson_139 : decode cX11_ofPerson 139 = .ok (.invokevirtual 151, 3) := by decide +kernel
theorem dX11_ofPerson_142 : decode cX11_ofPerson 142 = .ok (.ireturn, 1) := by decide +kernel
theorem dX11_ofPerson_143 : decode cX11_ofPerson 143 = .ok (.aload_n 3, 1) := by decide +kernel
theorem dX11_ofPerson_144 : decode cX11_ofPerson 144 = .ok (.iload_n 1, 1) := by decide +kernel
theorem dX11_ofPerson_145 : decode cX11_ofPerson 145 = .ok (.invokevirtual 154, 3) := by decide +kernel
theorem dX11_ofPerson_148 : decode cX11_ofPerson 148 = .ok (.ireturn, 1) := by decide +kernel
set_option maxHeartbeats 2000000 in
set_option maxRecDepth 20000 in
theorem k_ofPerson {l : Launch} {D : va_G} {cI cG cW : ClassId} {q : Nat → Nat} {S : Nat → Int32} {X : Nat → Nat → Int32} {P : Nat → Nat} {p what : Int32} {V row kept tried bf fd pk bo so sh mv tr : Nat → Int32} {nc np nw d nt nq : Nat} (hR : RKx row nc np nw d nt nq) (hC : CR (S, X, P) (sR V row kept tried bf fd pk bo so sh mv tr)) (hV15 : V 15 = 0) (hV16 : V 16 = -1) (hV18 : V 18 = -1) : Ci l yX11_ofPerson cX11_ofPerson 4 (some .int) 9 D (tyL cI cG cW) (wC cI cG cW q) [.ref (q 0), .int p, .int what] (S, X, P) (fun r τ => r = (sp_ofPerson V row kept tried bf fd pk bo so sh mv tr p what).1 ∧ CR τ (sp_ofPerson V row kept tried bf fd pk bo so sh mv tr p what).2) := by
  refine Ci.of (by decide) (Nat.le_of_ble_eq_true rfl) ?_
  intro p_ e_ s_ m_ b_ M_ c_ A_ C
  replace C : Cx _ _ _ _ _ _ _ _ RX11 _ _ _ _ := C
  refine j_L [0, 1, 2] [(0, .ref (q 0)), (1, .int p), (2, .int what)] rfl ?_
  obtain ⟨hI, hW, ⟨e0, hd⟩, ⟨e4, ht⟩, ⟨e5, hq⟩, hB⟩ := id hR
  obtain ⟨⟨e2, hc2, hc10⟩, ⟨e3, hn6⟩, ⟨e8, hw8⟩, hP, hE, hLo, hT0, hT1⟩ := id hI
  have hIc := hI
  have hF : CF S X 0 row (X 44) nc np := by have h := hC.fld; rw [e2, e3, tN_nI (by omega), tN_nI (by omega)] at h; exact h
  have hK : CK S X 0 row nw nt nq := by have h := hC.kp; rw [e8, e4, e5, tN_nI (by omega), tN_nI (by omega), tN_nI (by omega)] at h; exact h
  have hS1 : S 1 = row 8 := hK.wrongs
  have hS5 : S 5 = row 2 := hF.cells
  have hS7 : S 7 = row 3 := hF.people
  refine j_aload_n C 0 dX11_ofPerson_0 rfl ?_
  refine j_iload_n C 1 dX11_ofPerson_1 rfl ?_
  refine j_callV (As := [.int p]) (rest := []) C vw11_123 (h_isPerson) ⟨0, 11, _, _, rfl, rfl, rfl⟩ rfl (Nat.le_of_ble_eq_true rfl) dX11_ofPerson_2 (by decide) ?_
  rintro _ _ ⟨rfl, rfl⟩
  refine j_v (bI (inn p 0 (row 3 - 1))) (by rw [hS7]) ?_
  refine j_if_eq C 18 dX11_ofPerson_5 (by decide) (fun c5 => ?_) (fun c5 => ?_)
  · replace c5 := bI_f c5
    refine j_aload_n C 0 dX11_ofPerson_18 rfl ?_
    refine j_iconst C (v := (nI 1)) dX11_ofPerson_19 (by decide) ?_
    refine j_callV (As := [.int (nI 1)]) (rest := []) C vw11_90 (h_error 1 (by decide)) ⟨0, 11, _, _, rfl, rfl, rfl⟩ rfl (Nat.le_of_ble_eq_true rfl) dX11_ofPerson_20 (by decide) ?_
    rintro _ _ ⟨rfl, rfl⟩
    refine j_iret C dX11_ofPerson_23 ?_
    unfold sp_ofPerson
    rw [if_neg (fun h => c5 h.1)]
    exact ⟨show (-1000000000 : Int32) - nI 1 = -1000000001 from by decide, hC.er 1⟩
  · replace c5 := bI_t c5
    obtain ⟨pn, hpn, rfl⟩ := inn_row c5 e3 (by omega)
    refine j_iload_n C 2 dX11_ofPerson_8 rfl ?_
    refine j_iconst C (v := (nI 0)) dX11_ofPerson_9 (by decide) ?_
    refine j_bipush C (v := (nI 8)) dX11_ofPerson_10 (by decide) ?_
    refine j_callS (As := [.int what, .int (nI 0), .int (nI 8)]) (rest := []) C sw11_86 (h_within) rfl (Nat.le_of_ble_eq_true rfl) dX11_ofPerson_12 (by decide) ?_
    rintro _ _ ⟨rfl, rfl⟩
    refine j_if_ne C 24 dX11_ofPerson_15 (by decide) (fun c15 => ?_) (fun c15 => ?_)
    · replace c15 := bI_t c15
      obtain ⟨wn, gwn, hwn, rfl⟩ := inn_lit c15 (by omega)
      obtain ⟨⟨k, hk, ek⟩, -⟩ := hP pn hpn
      refine j_aload_n C 0 dX11_ofPerson_24 rfl ?_
      refine j_get C (v := .ref (q 1)) 0 1 rfl rfl inlC11 (by decide) kf11_75 rfl dX11_ofPerson_25 ?_
      refine j_getN C (v := .ref (q 3)) 1 0 rfl rfl inlC3 (by decide) kf11_94 rfl dX11_ofPerson_28 ?_
      refine j_astore_n C [(3, .ref (q 3)), (0, .ref (q 0)), (1, .int (nI pn)), (2, .int (nI wn))] dX11_ofPerson_31 (by decide) rfl ?_
      refine j_aload_n C 1 dX11_ofPerson_32 rfl ?_
      refine j_get C (v := .ref (q 1)) 0 1 rfl rfl inlC11 (by decide) kf11_75 rfl dX11_ofPerson_33 ?_
      refine j_aload_n C 0 dX11_ofPerson_36 rfl ?_
      refine j_iconst C (v := (nI 0)) dX11_ofPerson_37 (by decide) ?_
      refine j_callVNv (As := [.ref (q 3), .int (nI 0)]) (rest := []) C vn11_126 (h_weigh_0 hF hI hK hW 0 (by omega)) ⟨1, 3, _, _, rfl, rfl, rfl⟩ rfl (Nat.le_of_ble_eq_true rfl) dX11_ofPerson_38 (by decide) ?_
      rintro _ ⟨g, rfl, hg⟩
      have hG0 : CF S (va_up X 44 g) 0 row (wv V row nw) nc np := hF.setW (fun p hp => (hg p hp).trans (wt_wv (nw := nw) hV15 hV16 hV18 hn6 p hp))
      refine j_iload_n C 3 dX11_ofPerson_41 rfl ?_
      rcases (show wn = 0 ∨ wn = 1 ∨ wn = 2 ∨ wn = 3 ∨ wn = 4 ∨ wn = 5 ∨ wn = 6 ∨ wn = 7 ∨ wn = 8 by omega) with rfl | rfl | rfl | rfl | rfl | rfl | rfl | rfl | rfl
      · refine j_tblIn C (off := 46) 88 dX11_ofPerson_42 (by decide) (by decide) (by decide) (by decide) ?_
        refine j_aload_n C 0 dX11_ofPerson_88 rfl ?_
        refine j_getN C (v := .ref (q 38)) 3 5 rfl rfl inlC1 (by decide) kf11_130 rfl dX11_ofPerson_89 ?_
        refine j_iload_n C 2 dX11_ofPerson_92 rfl ?_
        refine j_ialdN C 38 0 rfl rfl pn rfl (by omega) (by decide) dX11_ofPerson_93 ?_
        refine j_v (row (30 + 6 * pn + 0)) (hF.per 0 (by omega) pn (by omega)) ?_
        refine j_iret C dX11_ofPerson_94 ?_
        unfold sp_ofPerson
        rw [if_pos ⟨c5, c15⟩, tN_nI (n := pn) (by omega), tN_nI (n := 0) (by decide)]
        unfold ofPF
        rw [e8, e3, tN_nI (n := nw) (by omega), tN_nI (n := np) (by omega)]
        exact ⟨rfl, hC.w4 hR hG0 (FrX.rf.up (by omega))⟩
      · refine j_tblIn C (off := 53) 95 dX11_ofPerson_42 (by decide) (by decide) (by decide) (by decide) ?_
        refine j_aload_n C 0 dX11_ofPerson_95 rfl ?_
        refine j_getN C (v := .ref (q 39)) 3 6 rfl rfl inlC1 (by decide) kf11_133 rfl dX11_ofPerson_96 ?_
        refine j_iload_n C 2 dX11_ofPerson_99 rfl ?_
        refine j_ialdN C 39 0 rfl rfl pn rfl (by omega) (by decide) dX11_ofPerson_100 ?_
        refine j_v (row (30 + 6 * pn + 1)) (hF.per 1 (by omega) pn (by omega)) ?_
        refine j_iret C dX11_ofPerson_101 ?_
        unfold sp_ofPerson
        rw [if_pos ⟨c5, c15⟩, tN_nI (n := pn) (by omega), tN_nI (n := 1) (by decide)]
        unfold ofPF
        rw [e8, e3, tN_nI (n := nw) (by omega), tN_nI (n := np) (by omega)]
        exact ⟨rfl, hC.w4 hR hG0 (FrX.rf.up (by omega))⟩
      · refine j_tblIn C (off := 60) 102 dX11_ofPerson_42 (by decide) (by decide) (by decide) (by decide) ?_
        refine j_aload_n C 0 dX11_ofPerson_102 rfl ?_
        refine j_getN C (v := .ref (q 40)) 3 7 rfl rfl inlC1 (by decide) kf11_136 rfl dX11_ofPerson_103 ?_
        refine j_iload_n C 2 dX11_ofPerson_106 rfl ?_
        refine j_ialdN C 40 0 rfl rfl pn rfl (by omega) (by decide) dX11_ofPerson_107 ?_
        refine j_v (row (30 + 6 * pn + 2)) (hF.per 2 (by omega) pn (by omega)) ?_
        refine j_iret C dX11_ofPerson_108 ?_
        unfold sp_ofPerson
        rw [if_pos ⟨c5, c15⟩, tN_nI (n := pn) (by omega), tN_nI (n := 2) (by decide)]
        unfold ofPF
        rw [e8, e3, tN_nI (n := nw) (by omega), tN_nI (n := np) (by omega)]
        exact ⟨rfl, hC.w4 hR hG0 (FrX.rf.up (by omega))⟩
      · refine j_tblIn C (off := 67) 109 dX11_ofPerson_42 (by decide) (by decide) (by decide) (by decide) ?_
        refine j_aload_n C 0 dX11_ofPerson_109 rfl ?_
        refine j_getN C (v := .ref (q 41)) 3 8 rfl rfl inlC1 (by decide) kf11_139 rfl dX11_ofPerson_110 ?_
        refine j_iload_n C 2 dX11_ofPerson_113 rfl ?_
        refine j_ialdN C 41 0 rfl rfl pn rfl (by omega) (by decide) dX11_ofPerson_114 ?_
        refine j_v (row (30 + 6 * pn + 3)) (hF.per 3 (by omega) pn (by omega)) ?_
        refine j_iret C dX11_ofPerson_115 ?_
        unfold sp_ofPerson
        rw [if_pos ⟨c5, c15⟩, tN_nI (n := pn) (by omega), tN_nI (n := 3) (by decide)]
        unfold ofPF
        rw [e8, e3, tN_nI (n := nw) (by omega), tN_nI (n := np) (by omega)]
        exact ⟨rfl, hC.w4 hR hG0 (FrX.rf.up (by omega))⟩
      · refine j_tblIn C (off := 74) 116 dX11_ofPerson_42 (by decide) (by decide) (by decide) (by decide) ?_
        refine j_aload_n C 0 dX11_ofPerson_116 rfl ?_
        refine j_getN C (v := .ref (q 42)) 3 9 rfl rfl inlC1 (by decide) kf11_142 rfl dX11_ofPerson_117 ?_
        refine j_iload_n C 2 dX11_ofPerson_120 rfl ?_
        refine j_ialdN C 42 0 rfl rfl pn rfl (by omega) (by decide) dX11_ofPerson_121 ?_
        refine j_v (row (30 + 6 * pn + 4)) (hF.per 4 (by omega) pn (by omega)) ?_
        refine j_iret C dX11_ofPerson_122 ?_
        unfold sp_ofPerson
        rw [if_pos ⟨c5, c15⟩, tN_nI (n := pn) (by omega), tN_nI (n := 4) (by decide)]
        unfold ofPF
        rw [e8, e3, tN_nI (n := nw) (by omega), tN_nI (n := np) (by omega)]
        exact ⟨rfl, hC.w4 hR hG0 (FrX.rf.up (by omega))⟩
      · refine j_tblIn C (off := 81) 123 dX11_ofPerson_42 (by decide) (by decide) (by decide) (by decide) ?_
        refine j_aload_n C 0 dX11_ofPerson_123 rfl ?_
        refine j_getN C (v := .ref (q 43)) 3 10 rfl rfl inlC1 (by decide) kf11_145 rfl dX11_ofPerson_124 ?_
        refine j_iload_n C 2 dX11_ofPerson_127 rfl ?_
        refine j_ialdN C 43 0 rfl rfl pn rfl (by omega) (by decide) dX11_ofPerson_128 ?_
        refine j_v (row (30 + 6 * pn + 5)) (hF.per 5 (by omega) pn (by omega)) ?_
        refine j_iret C dX11_ofPerson_129 ?_
        unfold sp_ofPerson
        rw [if_pos ⟨c5, c15⟩, tN_nI (n := pn) (by omega), tN_nI (n := 5) (by decide)]
        unfold ofPF
        rw [e8, e3, tN_nI (n := nw) (by omega), tN_nI (n := np) (by omega)]
        exact ⟨rfl, hC.w4 hR hG0 (FrX.rf.up (by omega))⟩
      · refine j_tblIn C (off := 88) 130 dX11_ofPerson_42 (by decide) (by decide) (by decide) (by decide) ?_
        refine j_aload_n C 0 dX11_ofPerson_130 rfl ?_
        refine j_getN C (v := .ref (q 44)) 3 11 rfl rfl inlC1 (by decide) kf11_148 rfl dX11_ofPerson_131 ?_
        refine j_iload_n C 2 dX11_ofPerson_134 rfl ?_
        refine j_ialdN C 44 0 rfl rfl pn rfl (by omega) (by decide) dX11_ofPerson_135 ?_
        refine j_v (wv V row nw pn) (hG0.weighs pn hpn) ?_
        refine j_iret C dX11_ofPerson_136 ?_
        unfold sp_ofPerson
        rw [if_pos ⟨c5, c15⟩, tN_nI (n := pn) (by omega), tN_nI (n := 6) (by decide)]
        unfold ofPF
        rw [e8, e3, tN_nI (n := nw) (by omega), tN_nI (n := np) (by omega)]
        exact ⟨rfl, hC.w4 hR hG0 (FrX.rf.up (by omega))⟩
      · refine j_tblIn C (off := 95) 137 dX11_ofPerson_42 (by decide) (by decide) (by decide) (by decide) ?_
        refine j_aload_n C 0 dX11_ofPerson_137 rfl ?_
        refine j_iload_n C 2 dX11_ofPerson_138 rfl ?_
        refine j_callVN (As := [.int (nI pn)]) (rest := []) C vn11_151 (h_bendsOf_0 hG0 e3 hn6 pn hpn hk ek (hC.l0.oth (by omega))) ⟨3, 1, _, _, rfl, rfl, rfl⟩ rfl (Nat.le_of_ble_eq_true rfl) dX11_ofPerson_139 (by decide) ?_
        rintro _ _ ⟨rfl, g86, rfl⟩
        refine j_iret C dX11_ofPerson_142 ?_
        unfold sp_ofPerson
        rw [if_pos ⟨c5, c15⟩, tN_nI (n := pn) (by omega), tN_nI (n := 7) (by decide)]
        unfold ofPF
        rw [e8, e3, tN_nI (n := nw) (by omega), tN_nI (n := np) (by omega)]
        exact ⟨rfl, hC.w4 hR (hG0.oth (by omega)) ((FrX.rf.up (by omega)).up (by omega))⟩
      · refine j_tblOut C 143 dX11_ofPerson_42 (by decide) (by decide) ?_
        refine j_aload_n C 0 dX11_ofPerson_143 rfl ?_
        refine j_iload_n C 2 dX11_ofPerson_144 rfl ?_
        refine j_callVN (As := [.int (nI pn)]) (rest := []) C vn11_154 (h_eatsOf_0 hG0 hn6 pn hpn hk ek) ⟨3, 1, _, _, rfl, rfl, rfl⟩ rfl (Nat.le_of_ble_eq_true rfl) dX11_ofPerson_145 (by decide) ?_
        rintro _ _ ⟨rfl, rfl⟩
        refine j_iret C dX11_ofPerson_148 ?_
        unfold sp_ofPerson
        rw [if_pos ⟨c5, c15⟩, tN_nI (n := pn) (by omega), tN_nI (n := 8) (by decide)]
        unfold ofPF
        rw [e8, e3, tN_nI (n := nw) (by omega), tN_nI (n := np) (by omega)]
        exact ⟨rfl, hC.w4 hR hG0 (FrX.rf.up (by omega))⟩
    · replace c15 := bI_f c15
      refine j_aload_n C 0 dX11_ofPerson_18 rfl ?_
      refine j_iconst C (v := (nI 1)) dX11_ofPerson_19 (by decide) ?_
      refine j_callV (As := [.int (nI 1)]) (rest := []) C vw11_90 (h_error 1 (by decide)) ⟨0, 11, _, _, rfl, rfl, rfl⟩ rfl (Nat.le_of_ble_eq_true rfl) dX11_ofPerson_20 (by decide) ?_
      rintro _ _ ⟨rfl, rfl⟩
      refine j_iret C dX11_ofPerson_23 ?_
      unfold sp_ofPerson
      rw [if_neg (fun h => c15 h.2)]
      exact ⟨show (-1000000000 : Int32) - nI 1 = -1000000001 from by decide, hC.er 1⟩
theorem dX11_change_0 : decode cX11_change 0 = .ok (.aload_n 0, 1) := by decide +kernel
theorem dX11_change_1 : decode cX11_change 1 = .ok (.iload_n 1, 1) := by decide +kernel
theorem dX11_change_2 : decode cX11_change 2 = .ok (.invokevirtual 123, 3) := by decide +kernel
theorem dX11_change_5 : decode cX11_change 5 = .ok (.ifCond .ne 9, 3) := by decide +kernel
theorem dX11_change_8 : decode cX11_change 8 = .ok (.aload_n 0, 1) := by decide +kernel
theorem dX11_change_9 : decode cX11_change 9 = .ok (.iconst 1, 1) := by decide +kernel
theorem dX11_change_10 : decode cX11_change 10 = .ok (.invokevirtual 90, 3) := by decide +kernel
theorem dX11_change_13 : decode cX11_change 13 = .ok (.ireturn, 1) := by decide +kernel
theorem dX11_change_14 : decode cX11_change 14 = .ok (.iload_n 2, 1) := by decide +kernel
theorem dX11_change_15 : decode cX11_change 15 = .ok (.tableswitch 95 0 2 #[25, 47, 70], 25) := by decide +kernel
theorem dX11_change_40 : decode cX11_change 40 = .ok (.aload_n 0, 1) := by decide +kernel
theorem dX11_change_41 : decode cX11_change 41 = .ok (.getfield 75, 3) := by decide +kernel
theorem dX11_change_44 : decode cX11_change 44 = .ok (.getfield 94, 3) := by decide +kernel
theorem dX11_change_47 : decode cX11_change 47 = .ok (.getfield 136, 3) := by decide +kernel
theorem dX11_change_50 : decode cX11_change 50 = .ok (.astore 4, 2) := by decide +kernel
theorem dX11_change_52 : decode cX11_change 52 = .ok (.aload_n 0, 1) := by decide +kernel
theorem dX11_change_53 : decode cX11_change 53 = .ok (.iload_n 3, 1) := by decide +kernel
theorem dX11_change_54 : decode cX11_change 54 = .ok (.invokevirtual 106, 3) := by decide +kernel
theorem dX11_change_57 : decode cX11_change 57 = .ok (.istore 5, 2) := by decide +kernel
theorem dX11_change_59 : decode cX11_change 59 = .ok (.goto 57, 3) := by decide +kernel
theorem dX11_change_62 : decode cX11_change 62 = .ok (.aload_n 0, 1) := by decide +kernel
theorem dX11_change_63 : decode cX11_change 63 = .ok (.getfield 75, 3) := by decide +kernel
theorem dX11_change_66 : decode cX11_change 66 = .ok (.getfield 94, 3) := by decide +kernel
theorem dX11_change_69 : decode cX11_change 69 = .ok (.getfield 139, 3) := by decide +kernel
theorem dX11_change_72 : decode cX11_change 72 = .ok (.astore 4, 2) := by decide +kernel
theorem dX11_change_74 : decode cX11_change 74 = .ok (.iload_n 3, 1) := by decide +kernel
theorem dX11_change_75 : decode cX11_change 75 = .ok (.iconst (-1), 1) := by decide +kernel
theorem dX11_change_76 : decode cX11_change 76 = .ok (.iconst 1, 1) := by decide +kernel
theorem dX11_change_77 : decode cX11_change 77 = .ok (.invokestatic 86, 3) := by decide +kernel
theorem dX11_change_80 : decode cX11_change 80 = .ok (.istore 5, 2) := by decide +kernel
theorem dX11_change_82 : decode cX11_change 82 = .ok (.goto 34, 3) := by decide +kernel
theorem dX11_change_85 : decode cX11_change 85 = .ok (.aload_n 0, 1) := by decide +kernel
theorem dX11_change_86 : decode cX11_change 86 = .ok (.getfield 75, 3) := by decide +kernel
theorem dX11_change_89 : decode cX11_change 89 = .ok (.getfield 94, 3) := by decide +kernel
theorem dX11_change_92 : decode cX11_change 92 = .ok (.getfield 142, 3) := by decide +kernel
theorem dX11_change_95 : decode cX11_change 95 = .ok (.astore 4, 2) := by decide +kernel
theorem dX11_change_97 : decode cX11_change 97 = .ok (.iload_n 3, 1) := by decide +kernel
theorem dX11_change_98 : decode cX11_change 98 = .ok (.iconst 0, 1) := by decide +kernel
theorem dX11_change_99 : decode cX11_change 99 = .ok (.sipush 9999, 3) := by decide +kernel
theorem dX11_change_102 : decode cX11_change 102 = .ok (.invokestatic 86, 3) := by decide +kernel
theorem dX11_change_105 : decode cX11_change 105 = .ok (.istore 5, 2) := by decide +kernel
theorem dX11_change_107 : decode cX11_change 107 = .ok (.goto 9, 3) := by decide +kernel
theorem dX11_change_110 : decode cX11_change 110 = .ok (.aload_n 0, 1) := by decide +kernel
theorem dX11_change_111 : decode cX11_change 111 = .ok (.iconst 1, 1) := by decide +kernel
theorem dX11_change_112 : decode cX11_change 112 = .ok (.invokevirtual 90, 3) := by decide +kernel
theorem dX11_change_115 : decode cX11_change 115 = .ok (.ireturn, 1) := by decide +kernel
theorem dX11_change_116 : decode cX11_change 116 = .ok (.iload 5, 2) := by decide +kernel
theorem dX11_change_118 : decode cX11_change 118 = .ok (.ifCond .ne 9, 3) := by decide +kernel
theorem dX11_change_121 : decode cX11_change 121 = .ok (.aload_n 0, 1) := by decide +kernel
theorem dX11_change_122 : decode cX11_change 122 = .ok (.iconst 1, 1) := by decide +kernel
theorem dX11_change_123 : decode cX11_change 123 = .ok (.invokevirtual 90, 3) := by decide +kernel
theorem dX11_change_126 : decode cX11_change 126 = .ok (.ireturn, 1) := by decide +kernel
theorem dX11_change_127 : decode cX11_change 127 = .ok (.aload 4, 2) := by decide +kernel
theorem dX11_change_129 : decode cX11_change 129 = .ok (.iload_n 1, 1) := by decide +kernel
theorem dX11_change_130 : decode cX11_change 130 = .ok (.iaload, 1) := by decide +kernel
theorem dX11_change_131 : decode cX11_change 131 = .ok (.istore 6, 2) := by decide +kernel
theorem dX11_change_133 : decode cX11_change 133 = .ok (.aload 4, 2) := by decide +kernel
theorem dX11_change_135 : decode cX11_change 135 = .ok (.iload_n 1, 1) := by decide +kernel
theorem dX11_change_136 : decode cX11_change 136 = .ok (.iload_n 3, 1) := by decide +kernel
theorem dX11_change_137 : decode cX11_change 137 = .ok (.iastore, 1) := by decide +kernel
theorem dX11_change_138 : decode cX11_change 138 = .ok (.iload 6, 2) := by decide +kernel
theorem dX11_change_140 : decode cX11_change 140 = .ok (.ireturn, 1) := by decide +kernel
set_option maxHeartbeats 2000000 in
set_option maxRecDepth 20000 in
theorem k_change {l : Launch} {D : va_G} {cI cG cW : ClassId} {q : Nat → Nat} {S : Nat → Int32} {X : Nat → Nat → Int32} {P : Nat → Nat} {p what v : Int32} {V row kept tried bf fd pk bo so sh mv tr : Nat → Int32} {nc np nw d nt nq : Nat} (hR : RKx row nc np nw d nt nq) (hC : CR (S, X, P) (sR V row kept tried bf fd pk bo so sh mv tr)) : Ci l yX11_change cX11_change 7 (some .int) 3 D (tyL cI cG cW) (wC cI cG cW q) [.ref (q 0), .int p, .int what, .int v] (S, X, P) (fun r τ => r = (sp_change V row kept tried bf fd pk bo so sh mv tr p what v).1 ∧ CR τ (sp_change V row kept tried bf fd pk bo so sh mv tr p what v).2) := by
  refine Ci.of (by decide) (Nat.le_of_ble_eq_true rfl) ?_
  intro p_ e_ s_ m_ b_ M_ c_ A_ C
  replace C : Cx _ _ _ _ _ _ _ _ RX11 _ _ _ _ := C
  refine j_L [0, 1, 2, 3] [(0, .ref (q 0)), (1, .int p), (2, .int what), (3, .int v)] rfl ?_
  obtain ⟨hI, hW, ⟨e0, hd⟩, ⟨e4, ht⟩, ⟨e5, hq⟩, hB⟩ := id hR
  obtain ⟨⟨e2, hc2, hc10⟩, ⟨e3, hn6⟩, ⟨e8, hw8⟩, hP, hE, hLo, hT0, hT1⟩ := id hI
  have hIc := hI
  have hF : CF S X 0 row (X 44) nc np := by have h := hC.fld; rw [e2, e3, tN_nI (by omega), tN_nI (by omega)] at h; exact h
  have hK : CK S X 0 row nw nt nq := by have h := hC.kp; rw [e8, e4, e5, tN_nI (by omega), tN_nI (by omega), tN_nI (by omega)] at h; exact h
  have hS1 : S 1 = row 8 := hK.wrongs
  have hS5 : S 5 = row 2 := hF.cells
  have hS7 : S 7 = row 3 := hF.people
  refine j_aload_n C 0 dX11_change_0 rfl ?_
  refine j_iload_n C 1 dX11_change_1 rfl ?_
  refine j_callV (As := [.int p]) (rest := []) C vw11_123 (h_isPerson) ⟨0, 11, _, _, rfl, rfl, rfl⟩ rfl (Nat.le_of_ble_eq_true rfl) dX11_change_2 (by decide) ?_
  rintro _ _ ⟨rfl, rfl⟩
  refine j_v (bI (inn p 0 (row 3 - 1))) (by rw [hS7]) ?_
  refine j_if_ne C 14 dX11_change_5 (by decide) (fun c5 => ?_) (fun c5 => ?_)
  · replace c5 := bI_t c5
    obtain ⟨pn, hpn, rfl⟩ := inn_row c5 e3 (by omega)
    by_cases hw_ : inn what (nI 0) (nI 2)
    · obtain ⟨wn, gwn, hwn, rfl⟩ := inn_lit hw_ (by omega)
      refine j_iload_n C 2 dX11_change_14 rfl ?_
      rcases (show wn = 0 ∨ wn = 1 ∨ wn = 2 by omega) with rfl | rfl | rfl
      · refine j_tblIn C (off := 25) 40 dX11_change_15 (by decide) (by decide) (by decide) (by decide) ?_
        refine j_aload_n C 0 dX11_change_40 rfl ?_
        refine j_get C (v := .ref (q 1)) 0 1 rfl rfl inlC11 (by decide) kf11_75 rfl dX11_change_41 ?_
        refine j_getN C (v := .ref (q 3)) 1 0 rfl rfl inlC3 (by decide) kf11_94 rfl dX11_change_44 ?_
        refine j_getN C (v := .ref (q 40)) 3 7 rfl rfl inlC1 (by decide) kf11_136 rfl dX11_change_47 ?_
        refine j_astore C [(4, .ref (q 40)), (0, .ref (q 0)), (1, .int (nI pn)), (2, .int (nI 0)), (3, .int v)] dX11_change_50 (by decide) rfl ?_
        refine j_aload_n C 1 dX11_change_52 rfl ?_
        refine j_iload_n C 4 dX11_change_53 rfl ?_
        refine j_callV (As := [.int v]) (rest := []) C vw11_106 (h_isCell) ⟨0, 11, _, _, rfl, rfl, rfl⟩ rfl (Nat.le_of_ble_eq_true rfl) dX11_change_54 (by decide) ?_
        rintro _ _ ⟨rfl, rfl⟩
        refine j_v (bI (inn v 0 (row 2 - 1))) (by rw [hS5]) ?_
        refine j_istore C [(5, .int (bI (inn v 0 (row 2 - 1)))), (4, .ref (q 40)), (0, .ref (q 0)), (1, .int (nI pn)), (2, .int (nI 0)), (3, .int v)] dX11_change_57 (by decide) rfl ?_
        refine j_goto C 116 dX11_change_59 (by decide) ?_
        refine j_iload C 0 dX11_change_116 rfl ?_
        refine j_if_ne C 127 dX11_change_118 (by decide) (fun c118 => ?_) (fun c118 => ?_)
        · replace c118 := bI_t c118
          refine j_aload C 1 dX11_change_127 rfl ?_
          refine j_iload_n C 3 dX11_change_129 rfl ?_
          refine j_ialdN C 40 0 rfl rfl pn rfl (by omega) (by decide) dX11_change_130 ?_
          refine j_v (row (30 + 6 * pn + 2)) (hF.per 2 (by omega) pn (by omega)) ?_
          refine j_istore C [(6, .int (row (30 + 6 * pn + 2))), (5, .int (bI (inn v 0 (row 2 - 1)))), (4, .ref (q 40)), (0, .ref (q 0)), (1, .int (nI pn)), (2, .int (nI 0)), (3, .int v)] dX11_change_131 (by decide) rfl ?_
          refine j_aload C 2 dX11_change_133 rfl ?_
          refine j_iload_n C 4 dX11_change_135 rfl ?_
          refine j_iload_n C 6 dX11_change_136 rfl ?_
          refine j_iastN C 40 0 rfl rfl pn rfl (by omega) (by decide) dX11_change_137 (S, va_up X 40 (upd (X 40) pn v), P) rfl ?_
          refine j_iload C 0 dX11_change_138 rfl ?_
          refine j_iret C dX11_change_140 ?_
          unfold sp_change
          rw [if_pos ⟨c5, Or.inl ⟨rfl, c118⟩⟩, tN_nI (n := pn) (by omega), tN_nI (n := 0) (by decide)]
          exact ⟨rfl, hC.nowx (fun k hk => rfl) (fun k hk => va_n (by omega)) ((pk_un (by omega)).trans e2) ((pk_un (by omega)).trans e3) ((pk_un (by omega)).trans e8) ((pk_un (by omega)).trans e4) ((pk_un (by omega)).trans e5) ⟨hc10, hn6, hw8, ht, hq⟩ (hF.setP hc10 2 (by omega) pn v) (hK.row (fun k hk => va_n (by omega)) (fun k hk => pk_un (by omega))) (hC.l0.st (by omega) rfl (va_n (by omega)) (fun k hk => pk_un (by omega))) (hC.l1.st (by omega) rfl (va_n (by omega)) (fun k hk => pk_un (by omega)))⟩
        · replace c118 := bI_f c118
          refine j_aload_n C 2 dX11_change_121 rfl ?_
          refine j_iconst C (v := (nI 1)) dX11_change_122 (by decide) ?_
          refine j_callV (As := [.int (nI 1)]) (rest := []) C vw11_90 (h_error 1 (by decide)) ⟨0, 11, _, _, rfl, rfl, rfl⟩ rfl (Nat.le_of_ble_eq_true rfl) dX11_change_123 (by decide) ?_
          rintro _ _ ⟨rfl, rfl⟩
          refine j_iret C dX11_change_126 ?_
          unfold sp_change
          rw [if_neg (fun h => h.2.elim (fun g => c118 g.2) (fun g => g.elim (fun g => absurd g.1 (by decide)) (fun g => absurd g.1 (by decide))))]
          exact ⟨show (-1000000000 : Int32) - nI 1 = -1000000001 from by decide, hC.er 1⟩
      · refine j_tblIn C (off := 47) 62 dX11_change_15 (by decide) (by decide) (by decide) (by decide) ?_
        refine j_aload_n C 0 dX11_change_62 rfl ?_
        refine j_get C (v := .ref (q 1)) 0 1 rfl rfl inlC11 (by decide) kf11_75 rfl dX11_change_63 ?_
        refine j_getN C (v := .ref (q 3)) 1 0 rfl rfl inlC3 (by decide) kf11_94 rfl dX11_change_66 ?_
        refine j_getN C (v := .ref (q 41)) 3 8 rfl rfl inlC1 (by decide) kf11_139 rfl dX11_change_69 ?_
        refine j_astore C [(4, .ref (q 41)), (0, .ref (q 0)), (1, .int (nI pn)), (2, .int (nI 1)), (3, .int v)] dX11_change_72 (by decide) rfl ?_
        refine j_iload_n C 4 dX11_change_74 rfl ?_
        refine j_iconst C (v := (-1)) dX11_change_75 (by decide) ?_
        refine j_iconst C (v := (nI 1)) dX11_change_76 (by decide) ?_
        refine j_callS (As := [.int v, .int (-1), .int (nI 1)]) (rest := []) C sw11_86 (h_within) rfl (Nat.le_of_ble_eq_true rfl) dX11_change_77 (by decide) ?_
        rintro _ _ ⟨rfl, rfl⟩
        refine j_istore C [(5, .int (bI (inn v (-1) (nI 1)))), (4, .ref (q 41)), (0, .ref (q 0)), (1, .int (nI pn)), (2, .int (nI 1)), (3, .int v)] dX11_change_80 (by decide) rfl ?_
        refine j_goto C 116 dX11_change_82 (by decide) ?_
        refine j_iload C 0 dX11_change_116 rfl ?_
        refine j_if_ne C 127 dX11_change_118 (by decide) (fun c118 => ?_) (fun c118 => ?_)
        · replace c118 := bI_t c118
          refine j_aload C 1 dX11_change_127 rfl ?_
          refine j_iload_n C 3 dX11_change_129 rfl ?_
          refine j_ialdN C 41 0 rfl rfl pn rfl (by omega) (by decide) dX11_change_130 ?_
          refine j_v (row (30 + 6 * pn + 3)) (hF.per 3 (by omega) pn (by omega)) ?_
          refine j_istore C [(6, .int (row (30 + 6 * pn + 3))), (5, .int (bI (inn v (-1) (nI 1)))), (4, .ref (q 41)), (0, .ref (q 0)), (1, .int (nI pn)), (2, .int (nI 1)), (3, .int v)] dX11_change_131 (by decide) rfl ?_
          refine j_aload C 2 dX11_change_133 rfl ?_
          refine j_iload_n C 4 dX11_change_135 rfl ?_
          refine j_iload_n C 6 dX11_change_136 rfl ?_
          refine j_iastN C 41 0 rfl rfl pn rfl (by omega) (by decide) dX11_change_137 (S, va_up X 41 (upd (X 41) pn v), P) rfl ?_
          refine j_iload C 0 dX11_change_138 rfl ?_
          refine j_iret C dX11_change_140 ?_
          unfold sp_change
          rw [if_pos ⟨c5, Or.inr (Or.inl ⟨rfl, c118⟩)⟩, tN_nI (n := pn) (by omega), tN_nI (n := 1) (by decide)]
          exact ⟨rfl, hC.nowx (fun k hk => rfl) (fun k hk => va_n (by omega)) ((pk_un (by omega)).trans e2) ((pk_un (by omega)).trans e3) ((pk_un (by omega)).trans e8) ((pk_un (by omega)).trans e4) ((pk_un (by omega)).trans e5) ⟨hc10, hn6, hw8, ht, hq⟩ (hF.setP hc10 3 (by omega) pn v) (hK.row (fun k hk => va_n (by omega)) (fun k hk => pk_un (by omega))) (hC.l0.st (by omega) rfl (va_n (by omega)) (fun k hk => pk_un (by omega))) (hC.l1.st (by omega) rfl (va_n (by omega)) (fun k hk => pk_un (by omega)))⟩
        · replace c118 := bI_f c118
          refine j_aload_n C 2 dX11_change_121 rfl ?_
          refine j_iconst C (v := (nI 1)) dX11_change_122 (by decide) ?_
          refine j_callV (As := [.int (nI 1)]) (rest := []) C vw11_90 (h_error 1 (by decide)) ⟨0, 11, _, _, rfl, rfl, rfl⟩ rfl (Nat.le_of_ble_eq_true rfl) dX11_change_123 (by decide) ?_
          rintro _ _ ⟨rfl, rfl⟩
          refine j_iret C dX11_change_126 ?_
          unfold sp_change
          rw [if_neg (fun h => h.2.elim (fun g => absurd g.1 (by decide)) (fun g => g.elim (fun g => c118 g.2) (fun g => absurd g.1 (by decide))))]
          exact ⟨show (-1000000000 : Int32) - nI 1 = -1000000001 from by decide, hC.er 1⟩
      · refine j_tblIn C (off := 70) 85 dX11_change_15 (by decide) (by decide) (by decide) (by decide) ?_
        refine j_aload_n C 0 dX11_change_85 rfl ?_
        refine j_get C (v := .ref (q 1)) 0 1 rfl rfl inlC11 (by decide) kf11_75 rfl dX11_change_86 ?_
        refine j_getN C (v := .ref (q 3)) 1 0 rfl rfl inlC3 (by decide) kf11_94 rfl dX11_change_89 ?_
        refine j_getN C (v := .ref (q 42)) 3 9 rfl rfl inlC1 (by decide) kf11_142 rfl dX11_change_92 ?_
        refine j_astore C [(4, .ref (q 42)), (0, .ref (q 0)), (1, .int (nI pn)), (2, .int (nI 2)), (3, .int v)] dX11_change_95 (by decide) rfl ?_
        refine j_iload_n C 4 dX11_change_97 rfl ?_
        refine j_iconst C (v := (nI 0)) dX11_change_98 (by decide) ?_
        refine j_sipush C (v := (nI 9999)) dX11_change_99 (by decide) ?_
        refine j_callS (As := [.int v, .int (nI 0), .int (nI 9999)]) (rest := []) C sw11_86 (h_within) rfl (Nat.le_of_ble_eq_true rfl) dX11_change_102 (by decide) ?_
        rintro _ _ ⟨rfl, rfl⟩
        refine j_istore C [(5, .int (bI (inn v (nI 0) (nI 9999)))), (4, .ref (q 42)), (0, .ref (q 0)), (1, .int (nI pn)), (2, .int (nI 2)), (3, .int v)] dX11_change_105 (by decide) rfl ?_
        refine j_goto C 116 dX11_change_107 (by decide) ?_
        refine j_iload C 0 dX11_change_116 rfl ?_
        refine j_if_ne C 127 dX11_change_118 (by decide) (fun c118 => ?_) (fun c118 => ?_)
        · replace c118 := bI_t c118
          refine j_aload C 1 dX11_change_127 rfl ?_
          refine j_iload_n C 3 dX11_change_129 rfl ?_
          refine j_ialdN C 42 0 rfl rfl pn rfl (by omega) (by decide) dX11_change_130 ?_
          refine j_v (row (30 + 6 * pn + 4)) (hF.per 4 (by omega) pn (by omega)) ?_
          refine j_istore C [(6, .int (row (30 + 6 * pn + 4))), (5, .int (bI (inn v (nI 0) (nI 9999)))), (4, .ref (q 42)), (0, .ref (q 0)), (1, .int (nI pn)), (2, .int (nI 2)), (3, .int v)] dX11_change_131 (by decide) rfl ?_
          refine j_aload C 2 dX11_change_133 rfl ?_
          refine j_iload_n C 4 dX11_change_135 rfl ?_
          refine j_iload_n C 6 dX11_change_136 rfl ?_
          refine j_iastN C 42 0 rfl rfl pn rfl (by omega) (by decide) dX11_change_137 (S, va_up X 42 (upd (X 42) pn v), P) rfl ?_
          refine j_iload C 0 dX11_change_138 rfl ?_
          refine j_iret C dX11_change_140 ?_
          unfold sp_change
          rw [if_pos ⟨c5, Or.inr (Or.inr ⟨rfl, c118⟩)⟩, tN_nI (n := pn) (by omega), tN_nI (n := 2) (by decide)]
          exact ⟨rfl, hC.nowx (fun k hk => rfl) (fun k hk => va_n (by omega)) ((pk_un (by omega)).trans e2) ((pk_un (by omega)).trans e3) ((pk_un (by omega)).trans e8) ((pk_un (by omega)).trans e4) ((pk_un (by omega)).trans e5) ⟨hc10, hn6, hw8, ht, hq⟩ (hF.setP hc10 4 (by omega) pn v) (hK.row (fun k hk => va_n (by omega)) (fun k hk => pk_un (by omega))) (hC.l0.st (by omega) rfl (va_n (by omega)) (fun k hk => pk_un (by omega))) (hC.l1.st (by omega) rfl (va_n (by omega)) (fun k hk => pk_un (by omega)))⟩
        · replace c118 := bI_f c118
          refine j_aload_n C 2 dX11_change_121 rfl ?_
          refine j_iconst C (v := (nI 1)) dX11_change_122 (by decide) ?_
          refine j_callV (As := [.int (nI 1)]) (rest := []) C vw11_90 (h_error 1 (by decide)) ⟨0, 11, _, _, rfl, rfl, rfl⟩ rfl (Nat.le_of_ble_eq_true rfl) dX11_change_123 (by decide) ?_
          rintro _ _ ⟨rfl, rfl⟩
          refine j_iret C dX11_change_126 ?_
          unfold sp_change
          rw [if_neg (fun h => h.2.elim (fun g => absurd g.1 (by decide)) (fun g => g.elim (fun g => absurd g.1 (by decide)) (fun g => c118 g.2)))]
          exact ⟨show (-1000000000 : Int32) - nI 1 = -1000000001 from by decide, hC.er 1⟩
    · refine j_iload_n C 2 dX11_change_14 rfl ?_
      refine j_tblOut C 110 dX11_change_15 (nN (b := 2) (by decide) hw_) (by decide) ?_
      refine j_aload_n C 0 dX11_change_110 rfl ?_
      refine j_iconst C (v := (nI 1)) dX11_change_111 (by decide) ?_
      refine j_callV (As := [.int (nI 1)]) (rest := []) C vw11_90 (h_error 1 (by decide)) ⟨0, 11, _, _, rfl, rfl, rfl⟩ rfl (Nat.le_of_ble_eq_true rfl) dX11_change_112 (by decide) ?_
      rintro _ _ ⟨rfl, rfl⟩
      refine j_iret C dX11_change_115 ?_
      unfold sp_change
      rw [if_neg (fun h => hw_ (h.2.elim (fun g => by rw [g.1]; decide) (fun g => g.elim (fun g => by rw [g.1]; decide) (fun g => by rw [g.1]; decide))))]
      exact ⟨show (-1000000000 : Int32) - nI 1 = -1000000001 from by decide, hC.er 1⟩
  · replace c5 := bI_f c5
    refine j_aload_n C 0 dX11_change_8 rfl ?_
    refine j_iconst C (v := (nI 1)) dX11_change_9 (by decide) ?_
    refine j_callV (As := [.int (nI 1)]) (rest := []) C vw11_90 (h_error 1 (by decide)) ⟨0, 11, _, _, rfl, rfl, rfl⟩ rfl (Nat.le_of_ble_eq_true rfl) dX11_change_10 (by decide) ?_
    rintro _ _ ⟨rfl, rfl⟩
    refine j_iret C dX11_change_13 ?_
    unfold sp_change
    rw [if_neg (fun h => c5 h.1)]
    exact ⟨show (-1000000000 : Int32) - nI 1 = -1000000001 from by decide, hC.er 1⟩
set_option maxHeartbeats 2000000 in
set_option maxRecDepth 20000 in
theorem h_sumE {l : Launch} {D : va_G} {cI cG cW : ClassId} {q : Nat → Nat} {S : Nat → Int32} {X : Nat → Nat → Int32} {P : Nat → Nat} {row w : Nat → Int32} {nc np : Nat} (hF : CF S X 0 row w nc np) (hb : nc ≤ 10) : Ci l yX11_sumOf cX11_sumOf 4 (some .int) 0 D (tyL cI cG cW) (wC cI cG cW q) [.ref (q 36), .int (nI nc)] (S, X, P) (fun r τ => r = earF row nc ∧ τ = (S, X, P)) := by
  refine Ci.of (by decide) (Nat.le_of_ble_eq_true rfl) ?_
  intro p_ e_ s_ m_ b_ M_ c_ A_ C
  replace C : Cx _ _ _ _ _ _ _ _ RX11 _ _ _ _ := C
  refine j_L [0, 1] [(0, .ref (q 36)), (1, .int (nI nc))] rfl ?_
  refine j_iconst C (v := (nI 0)) dX11_sumOf_0 (by decide) ?_
  refine j_istore_n C [(2, .int (nI 0)), (0, .ref (q 36)), (1, .int (nI nc))] dX11_sumOf_1 (by decide) rfl ?_
  refine j_iconst C (v := (nI 0)) dX11_sumOf_2 (by decide) ?_
  refine j_istore_n C [(3, .int (nI 0)), (2, .int (nI 0)), (0, .ref (q 36)), (1, .int (nI nc))] dX11_sumOf_3 (by decide) rfl ?_
  refine j_L [2, 3, 1, 0] [(0, .ref (q 36)), (1, .int (nI nc)), (2, .int (nI 0)), (3, .int (nI 0))] rfl ?_
  refine j_loop (X := Nat × Int32) (fun (z : Nat × Int32) => match z with | (i, s) => i ≤ nc ∧ s = earF row i) (fun (z : Nat × Int32) => match z with | (i, s) => nc - i) (fun (z : Nat × Int32) => match z with | (i, s) => (S, X, P)) (fun (z : Nat × Int32) => match z with | (i, s) => [(0, .ref (q 36)), (1, .int (nI nc)), (2, .int s), (3, .int (nI i))]) (0, 0) (⟨Nat.zero_le _, rfl⟩) rfl rfl ?_
  rintro ⟨i, s⟩ ⟨hi, hs⟩ ih
  try dsimp only at ih ⊢
  refine j_iload_n C 3 dX11_sumOf_4 rfl ?_
  refine j_iload_n C 1 dX11_sumOf_5 rfl ?_
  refine j_icmp_ge C 27 dX11_sumOf_6 (by decide) (fun c6 => ?_) (fun c6 => ?_)
  · rw [nI_leI (by omega) (by omega)] at c6
    refine j_iload_n C 2 dX11_sumOf_27 rfl ?_
    refine j_iret C dX11_sumOf_28 ?_
    obtain rfl : i = nc := by omega
    exact ⟨hs, rfl⟩
  · rw [nI_leI (by omega) (by omega)] at c6
    refine j_iload_n C 3 dX11_sumOf_9 rfl ?_
    refine j_aload_n C 0 dX11_sumOf_10 rfl ?_
    refine j_alen C 36 0 (nI 10) rfl rfl rfl dX11_sumOf_11 ?_
    refine j_icmp_ge C 27 dX11_sumOf_12 (by decide) (fun c12 => ?_) (fun c12 => ?_)
    · rw [nI_leI (by omega) (by omega)] at c12
      exfalso; omega
    · rw [nI_leI (by omega) (by omega)] at c12
      refine j_iload_n C 2 dX11_sumOf_15 rfl ?_
      refine j_aload_n C 0 dX11_sumOf_16 rfl ?_
      refine j_iload_n C 3 dX11_sumOf_17 rfl ?_
      refine j_ialdN C 36 0 rfl rfl i rfl (by omega) (by decide) dX11_sumOf_18 ?_
      refine j_v (row (10 + i)) (hF.ears i (by omega)) ?_
      refine j_iadd C dX11_sumOf_19 ?_
      refine j_istore_n C [(2, .int (s + (row (10 + i)))), (0, .ref (q 36)), (1, .int (nI nc)), (3, .int (nI i))] dX11_sumOf_20 (by decide) rfl ?_
      refine j_iinc C (v := (nI (i + 1))) 3 [(3, .int (nI (i + 1))), (2, .int (s + (row (10 + i)))), (0, .ref (q 36)), (1, .int (nI nc))] dX11_sumOf_21 rfl (nI_1 _) (by decide) rfl ?_
      refine j_goto C 4 dX11_sumOf_24 (by decide) ?_
      refine j_L [2, 3, 1, 0] [(0, .ref (q 36)), (1, .int (nI nc)), (2, .int (s + (row (10 + i)))), (3, .int (nI (i + 1)))] rfl ?_
      exact ih (i + 1, s + (row (10 + i))) (⟨by dsimp only; omega, by dsimp only; rw [earF, ← hs]⟩) (by dsimp only; omega)
set_option maxHeartbeats 2000000 in
set_option maxRecDepth 20000 in
theorem h_sumH {l : Launch} {D : va_G} {cI cG cW : ClassId} {q : Nat → Nat} {S : Nat → Int32} {X : Nat → Nat → Int32} {P : Nat → Nat} {row w : Nat → Int32} {nc np : Nat} (hF : CF S X 0 row w nc np) (hb : np ≤ 6) : Ci l yX11_sumOf cX11_sumOf 4 (some .int) 0 D (tyL cI cG cW) (wC cI cG cW q) [.ref (q 43), .int (nI np)] (S, X, P) (fun r τ => r = sumF row 5 np ∧ τ = (S, X, P)) := by
  refine Ci.of (by decide) (Nat.le_of_ble_eq_true rfl) ?_
  intro p_ e_ s_ m_ b_ M_ c_ A_ C
  replace C : Cx _ _ _ _ _ _ _ _ RX11 _ _ _ _ := C
  refine j_L [0, 1] [(0, .ref (q 43)), (1, .int (nI np))] rfl ?_
  refine j_iconst C (v := (nI 0)) dX11_sumOf_0 (by decide) ?_
  refine j_istore_n C [(2, .int (nI 0)), (0, .ref (q 43)), (1, .int (nI np))] dX11_sumOf_1 (by decide) rfl ?_
  refine j_iconst C (v := (nI 0)) dX11_sumOf_2 (by decide) ?_
  refine j_istore_n C [(3, .int (nI 0)), (2, .int (nI 0)), (0, .ref (q 43)), (1, .int (nI np))] dX11_sumOf_3 (by decide) rfl ?_
  refine j_L [2, 3, 1, 0] [(0, .ref (q 43)), (1, .int (nI np)), (2, .int (nI 0)), (3, .int (nI 0))] rfl ?_
  refine j_loop (X := Nat × Int32) (fun (z : Nat × Int32) => match z with | (i, s) => i ≤ np ∧ s = sumF row 5 i) (fun (z : Nat × Int32) => match z with | (i, s) => np - i) (fun (z : Nat × Int32) => match z with | (i, s) => (S, X, P)) (fun (z : Nat × Int32) => match z with | (i, s) => [(0, .ref (q 43)), (1, .int (nI np)), (2, .int s), (3, .int (nI i))]) (0, 0) (⟨Nat.zero_le _, rfl⟩) rfl rfl ?_
  rintro ⟨i, s⟩ ⟨hi, hs⟩ ih
  try dsimp only at ih ⊢
  refine j_iload_n C 3 dX11_sumOf_4 rfl ?_
  refine j_iload_n C 1 dX11_sumOf_5 rfl ?_
  refine j_icmp_ge C 27 dX11_sumOf_6 (by decide) (fun c6 => ?_) (fun c6 => ?_)
  · rw [nI_leI (by omega) (by omega)] at c6
    refine j_iload_n C 2 dX11_sumOf_27 rfl ?_
    refine j_iret C dX11_sumOf_28 ?_
    obtain rfl : i = np := by omega
    exact ⟨hs, rfl⟩
  · rw [nI_leI (by omega) (by omega)] at c6
    refine j_iload_n C 3 dX11_sumOf_9 rfl ?_
    refine j_aload_n C 0 dX11_sumOf_10 rfl ?_
    refine j_alen C 43 0 (nI 6) rfl rfl rfl dX11_sumOf_11 ?_
    refine j_icmp_ge C 27 dX11_sumOf_12 (by decide) (fun c12 => ?_) (fun c12 => ?_)
    · rw [nI_leI (by omega) (by omega)] at c12
      exfalso; omega
    · rw [nI_leI (by omega) (by omega)] at c12
      refine j_iload_n C 2 dX11_sumOf_15 rfl ?_
      refine j_aload_n C 0 dX11_sumOf_16 rfl ?_
      refine j_iload_n C 3 dX11_sumOf_17 rfl ?_
      refine j_ialdN C 43 0 rfl rfl i rfl (by omega) (by decide) dX11_sumOf_18 ?_
      refine j_v (row (30 + 6 * i + 5)) (hF.per 5 (by omega) i (by omega)) ?_
      refine j_iadd C dX11_sumOf_19 ?_
      refine j_istore_n C [(2, .int (s + (row (30 + 6 * i + 5)))), (0, .ref (q 43)), (1, .int (nI np)), (3, .int (nI i))] dX11_sumOf_20 (by decide) rfl ?_
      refine j_iinc C (v := (nI (i + 1))) 3 [(3, .int (nI (i + 1))), (2, .int (s + (row (30 + 6 * i + 5)))), (0, .ref (q 43)), (1, .int (nI np))] dX11_sumOf_21 rfl (nI_1 _) (by decide) rfl ?_
      refine j_goto C 4 dX11_sumOf_24 (by decide) ?_
      refine j_L [2, 3, 1, 0] [(0, .ref (q 43)), (1, .int (nI np)), (2, .int (s + (row (30 + 6 * i + 5)))), (3, .int (nI (i + 1)))] rfl ?_
      exact ih (i + 1, s + (row (30 + 6 * i + 5))) (⟨by dsimp only; omega, by dsimp only; rw [sumF, ← hs]⟩) (by dsimp only; omega)
theorem dX11_count_0 : decode cX11_count 0 = .ok (.iload_n 1, 1) := by decide +kernel
theorem dX11_count_1 : decode cX11_count 1 = .ok (.tableswitch 197 0 10 #[59, 70, 81, 89, 100, 124, 135, 159, 170, 181, 189], 59) := by decide +kernel
theorem dX11_count_60 : decode cX11_count 60 = .ok (.aload_n 0, 1) := by decide +kernel
theorem dX11_count_61 : decode cX11_count 61 = .ok (.getfield 75, 3) := by decide +kernel
theorem dX11_count_64 : decode cX11_count 64 = .ok (.getfield 94, 3) := by decide +kernel
theorem dX11_count_67 : decode cX11_count 67 = .ok (.getfield 100, 3) := by decide +kernel
theorem dX11_count_70 : decode cX11_count 70 = .ok (.ireturn, 1) := by decide +kernel
theorem dX11_count_71 : decode cX11_count 71 = .ok (.aload_n 0, 1) := by decide +kernel
theorem dX11_count_72 : decode cX11_count 72 = .ok (.getfield 75, 3) := by decide +kernel
theorem dX11_count_75 : decode cX11_count 75 = .ok (.getfield 94, 3) := by decide +kernel
theorem dX11_count_78 : decode cX11_count 78 = .ok (.getfield 97, 3) := by decide +kernel
theorem dX11_count_81 : decode cX11_count 81 = .ok (.ireturn, 1) := by decide +kernel
theorem dX11_count_82 : decode cX11_count 82 = .ok (.aload_n 0, 1) := by decide +kernel
theorem dX11_count_83 : decode cX11_count 83 = .ok (.getfield 75, 3) := by decide +kernel
theorem dX11_count_86 : decode cX11_count 86 = .ok (.getfield 164, 3) := by decide +kernel
theorem dX11_count_89 : decode cX11_count 89 = .ok (.ireturn, 1) := by decide +kernel
theorem dX11_count_90 : decode cX11_count 90 = .ok (.aload_n 0, 1) := by decide +kernel
theorem dX11_count_91 : decode cX11_count 91 = .ok (.getfield 75, 3) := by decide +kernel
theorem dX11_count_94 : decode cX11_count 94 = .ok (.getfield 94, 3) := by decide +kernel
theorem dX11_count_97 : decode cX11_count 97 = .ok (.getfield 212, 3) := by decide +kernel
theorem dX11_count_100 : decode cX11_count 100 = .ok (.ireturn, 1) := by decide +kernel
theorem dX11_count_101 : decode cX11_count 101 = .ok (.aload_n 0, 1) := by decide +kernel
theorem dX11_count_102 : decode cX11_count 102 = .ok (.getfield 75, 3) := by decide +kernel
theorem dX11_count_105 : decode cX11_count 105 = .ok (.getfield 94, 3) := by decide +kernel
theorem dX11_count_108 : decode cX11_count 108 = .ok (.getfield 110, 3) := by decide +kernel
theorem dX11_count_111 : decode cX11_count 111 = .ok (.aload_n 0, 1) := by decide +kernel
theorem dX11_count_112 : decode cX11_count 112 = .ok (.getfield 75, 3) := by decide +kernel
theorem dX11_count_115 : decode cX11_count 115 = .ok (.getfield 94, 3) := by decide +kernel
theorem dX11_count_118 : decode cX11_count 118 = .ok (.getfield 100, 3) := by decide +kernel
theorem dX11_count_121 : decode cX11_count 121 = .ok (.invokestatic 305, 3) := by decide +kernel
theorem dX11_count_124 : decode cX11_count 124 = .ok (.ireturn, 1) := by decide +kernel
theorem dX11_count_125 : decode cX11_count 125 = .ok (.aload_n 0, 1) := by decide +kernel
theorem dX11_count_126 : decode cX11_count 126 = .ok (.getfield 75, 3) := by decide +kernel
theorem dX11_count_129 : decode cX11_count 129 = .ok (.getfield 94, 3) := by decide +kernel
theorem dX11_count_132 : decode cX11_count 132 = .ok (.invokevirtual 218, 3) := by decide +kernel
theorem dX11_count_135 : decode cX11_count 135 = .ok (.ireturn, 1) := by decide +kernel
theorem dX11_count_136 : decode cX11_count 136 = .ok (.aload_n 0, 1) := by decide +kernel
theorem dX11_count_137 : decode cX11_count 137 = .ok (.getfield 75, 3) := by decide +kernel
theorem dX11_count_140 : decode cX11_count 140 = .ok (.getfield 94, 3) := by decide +kernel
theorem dX11_count_143 : decode cX11_count 143 = .ok (.getfield 145, 3) := by decide +kernel
theorem dX11_count_146 : decode cX11_count 146 = .ok (.aload_n 0, 1) := by decide +kernel
theorem dX11_count_147 : decode cX11_count 147 = .ok (.getfield 75, 3) := by decide +kernel
theorem dX11_count_150 : decode cX11_count 150 = .ok (.getfield 94, 3) := by decide +kernel
theorem dX11_count_153 : decode cX11_count 153 = .ok (.getfield 97, 3) := by decide +kernel
theorem dX11_count_156 : decode cX11_count 156 = .ok (.invokestatic 305, 3) := by decide +kernel
theorem dX11_count_159 : decode cX11_count 159 = .ok (.ireturn, 1) := by decide +kernel
theorem dX11_count_160 : decode cX11_count 160 = .ok (.aload_n 0, 1) := by decide +kernel
theorem dX11_count_161 : decode cX11_count 161 = .ok (.getfield 75, 3) := by decide +kernel
theorem dX11_count_164 : decode cX11_count 164 = .ok (.getfield 185, 3) := by decide +kernel
theorem dX11_count_167 : decode cX11_count 167 = .ok (.getfield 188, 3) := by decide +kernel
theorem dX11_count_170 : decode cX11_count 170 = .ok (.ireturn, 1) := by decide +kernel
theorem dX11_count_171 : decode cX11_count 171 = .ok (.aload_n 0, 1) := by decide +kernel
theorem dX11_count_172 : decode cX11_count 172 = .ok (.getfield 75, 3) := by decide +kernel
theorem dX11_count_175 : decode cX11_count 175 = .ok (.getfield 302, 3) := by decide +kernel
theorem dX11_count_178 : decode cX11_count 178 = .ok (.getfield 188, 3) := by decide +kernel
theorem dX11_count_181 : decode cX11_count 181 = .ok (.ireturn, 1) := by decide +kernel
theorem dX11_count_182 : decode cX11_count 182 = .ok (.aload_n 0, 1) := by decide +kernel
theorem dX11_count_183 : decode cX11_count 183 = .ok (.getfield 21, 3) := by decide +kernel
theorem dX11_count_186 : decode cX11_count 186 = .ok (.getfield 188, 3) := by decide +kernel
theorem dX11_count_189 : decode cX11_count 189 = .ok (.ireturn, 1) := by decide +kernel
theorem dX11_count_190 : decode cX11_count 190 = .ok (.aload_n 0, 1) := by decide +kernel
theorem dX11_count_191 : decode cX11_count 191 = .ok (.getfield 75, 3) := by decide +kernel
theorem dX11_count_194 : decode cX11_count 194 = .ok (.getfield 262, 3) := by decide +kernel
theorem dX11_count_197 : decode cX11_count 197 = .ok (.ireturn, 1) := by decide +kernel
theorem dX11_count_198 : decode cX11_count 198 = .ok (.aload_n 0, 1) := by decide +kernel
theorem dX11_count_199 : decode cX11_count 199 = .ok (.iconst 1, 1) := by decide +kernel
theorem dX11_count_200 : decode cX11_count 200 = .ok (.invokevirtual 90, 3) := by decide +kernel
theorem dX11_count_203 : decode cX11_count 203 = .ok (.ireturn, 1) := by decide +kernel
set_option maxHeartbeats 2000000 in
set_option maxRecDepth 20000 in
theorem k_count {l : Launch} {D : va_G} {cI cG cW : ClassId} {q : Nat → Nat} {S : Nat → Int32} {X : Nat → Nat → Int32} {P : Nat → Nat} {what : Int32} {V row kept tried bf fd pk bo so sh mv tr : Nat → Int32} {nc np nw d nt nq : Nat} (hR : RKx row nc np nw d nt nq) (hC : CR (S, X, P) (sR V row kept tried bf fd pk bo so sh mv tr)) : Ci l yX11_count cX11_count 2 (some .int) 3 D (tyL cI cG cW) (wC cI cG cW q) [.ref (q 0), .int what] (S, X, P) (fun r τ => r = (sp_count V row kept tried bf fd pk bo so sh mv tr what).1 ∧ CR τ (sp_count V row kept tried bf fd pk bo so sh mv tr what).2) := by
  refine Ci.of (by decide) (Nat.le_of_ble_eq_true rfl) ?_
  intro p_ e_ s_ m_ b_ M_ c_ A_ C
  replace C : Cx _ _ _ _ _ _ _ _ RX11 _ _ _ _ := C
  refine j_L [0, 1] [(0, .ref (q 0)), (1, .int what)] rfl ?_
  obtain ⟨hI, hW, ⟨e0, hd⟩, ⟨e4, ht⟩, ⟨e5, hq⟩, hB⟩ := id hR
  obtain ⟨⟨e2, hc2, hc10⟩, ⟨e3, hn6⟩, ⟨e8, hw8⟩, hP, hE, hLo, hT0, hT1⟩ := id hI
  have hIc := hI
  have hF : CF S X 0 row (X 44) nc np := by have h := hC.fld; rw [e2, e3, tN_nI (by omega), tN_nI (by omega)] at h; exact h
  have hK : CK S X 0 row nw nt nq := by have h := hC.kp; rw [e8, e4, e5, tN_nI (by omega), tN_nI (by omega), tN_nI (by omega)] at h; exact h
  have hS1 : S 1 = row 8 := hK.wrongs
  have hS5 : S 5 = row 2 := hF.cells
  have hS7 : S 7 = row 3 := hF.people
  by_cases hw_ : inn what (nI 0) (nI 10)
  · obtain ⟨wn, gwn, hwn, rfl⟩ := inn_lit hw_ (by omega)
    refine j_iload_n C 1 dX11_count_0 rfl ?_
    rcases (show wn = 0 ∨ wn = 1 ∨ wn = 2 ∨ wn = 3 ∨ wn = 4 ∨ wn = 5 ∨ wn = 6 ∨ wn = 7 ∨ wn = 8 ∨ wn = 9 ∨ wn = 10 by omega) with rfl | rfl | rfl | rfl | rfl | rfl | rfl | rfl | rfl | rfl | rfl
    · refine j_tblIn C (off := 59) 60 dX11_count_1 (by decide) (by decide) (by decide) (by decide) ?_
      refine j_aload_n C 0 dX11_count_60 rfl ?_
      refine j_get C (v := .ref (q 1)) 0 1 rfl rfl inlC11 (by decide) kf11_75 rfl dX11_count_61 ?_
      refine j_getN C (v := .ref (q 3)) 1 0 rfl rfl inlC3 (by decide) kf11_94 rfl dX11_count_64 ?_
      refine j_getN C (v := .int (S 5)) 3 0 rfl rfl inlC1 (by decide) kf11_100 rfl dX11_count_67 ?_
      refine j_iret C dX11_count_70 ?_
      unfold sp_count
      rw [if_pos hw_, tN_nI (n := 0) (by decide)]
      exact ⟨hS5, hC⟩
    · refine j_tblIn C (off := 70) 71 dX11_count_1 (by decide) (by decide) (by decide) (by decide) ?_
      refine j_aload_n C 0 dX11_count_71 rfl ?_
      refine j_get C (v := .ref (q 1)) 0 1 rfl rfl inlC11 (by decide) kf11_75 rfl dX11_count_72 ?_
      refine j_getN C (v := .ref (q 3)) 1 0 rfl rfl inlC3 (by decide) kf11_94 rfl dX11_count_75 ?_
      refine j_getN C (v := .int (S 7)) 3 4 rfl rfl inlC1 (by decide) kf11_97 rfl dX11_count_78 ?_
      refine j_iret C dX11_count_81 ?_
      unfold sp_count
      rw [if_pos hw_, tN_nI (n := 1) (by decide)]
      exact ⟨hS7, hC⟩
    · refine j_tblIn C (off := 81) 82 dX11_count_1 (by decide) (by decide) (by decide) (by decide) ?_
      refine j_aload_n C 0 dX11_count_82 rfl ?_
      refine j_get C (v := .ref (q 1)) 0 1 rfl rfl inlC11 (by decide) kf11_75 rfl dX11_count_83 ?_
      refine j_getN C (v := .int (S 1)) 1 1 rfl rfl inlC3 (by decide) kf11_164 rfl dX11_count_86 ?_
      refine j_iret C dX11_count_89 ?_
      unfold sp_count
      rw [if_pos hw_, tN_nI (n := 2) (by decide)]
      exact ⟨hS1, hC⟩
    · refine j_tblIn C (off := 89) 90 dX11_count_1 (by decide) (by decide) (by decide) (by decide) ?_
      refine j_aload_n C 0 dX11_count_90 rfl ?_
      refine j_get C (v := .ref (q 1)) 0 1 rfl rfl inlC11 (by decide) kf11_75 rfl dX11_count_91 ?_
      refine j_getN C (v := .ref (q 3)) 1 0 rfl rfl inlC3 (by decide) kf11_94 rfl dX11_count_94 ?_
      refine j_getN C (v := .int (S 6)) 3 3 rfl rfl inlC1 (by decide) kf11_212 rfl dX11_count_97 ?_
      refine j_iret C dX11_count_100 ?_
      unfold sp_count
      rw [if_pos hw_, tN_nI (n := 3) (by decide)]
      exact ⟨hF.dawn, hC⟩
    · refine j_tblIn C (off := 100) 101 dX11_count_1 (by decide) (by decide) (by decide) (by decide) ?_
      refine j_aload_n C 0 dX11_count_101 rfl ?_
      refine j_get C (v := .ref (q 1)) 0 1 rfl rfl inlC11 (by decide) kf11_75 rfl dX11_count_102 ?_
      refine j_getN C (v := .ref (q 3)) 1 0 rfl rfl inlC3 (by decide) kf11_94 rfl dX11_count_105 ?_
      refine j_getN C (v := .ref (q 36)) 3 1 rfl rfl inlC1 (by decide) kf11_110 rfl dX11_count_108 ?_
      refine j_aload_n C 0 dX11_count_111 rfl ?_
      refine j_get C (v := .ref (q 1)) 0 1 rfl rfl inlC11 (by decide) kf11_75 rfl dX11_count_112 ?_
      refine j_getN C (v := .ref (q 3)) 1 0 rfl rfl inlC3 (by decide) kf11_94 rfl dX11_count_115 ?_
      refine j_getN C (v := .int (S 5)) 3 0 rfl rfl inlC1 (by decide) kf11_100 rfl dX11_count_118 ?_
      refine j_v (nI nc) (hS5.trans e2) ?_
      refine j_callS (As := [.ref (q 36), .int (nI nc)]) (rest := []) C sw11_305 (h_sumE hF hc10) rfl (Nat.le_of_ble_eq_true rfl) dX11_count_121 (by decide) ?_
      rintro _ _ ⟨rfl, rfl⟩
      refine j_iret C dX11_count_124 ?_
      unfold sp_count
      rw [if_pos hw_, tN_nI (n := 4) (by decide)]
      rw [cnt_4 e2 hc10]
      exact ⟨rfl, hC⟩
    · refine j_tblIn C (off := 124) 125 dX11_count_1 (by decide) (by decide) (by decide) (by decide) ?_
      refine j_aload_n C 0 dX11_count_125 rfl ?_
      refine j_get C (v := .ref (q 1)) 0 1 rfl rfl inlC11 (by decide) kf11_75 rfl dX11_count_126 ?_
      refine j_getN C (v := .ref (q 3)) 1 0 rfl rfl inlC3 (by decide) kf11_94 rfl dX11_count_129 ?_
      refine j_callVN (As := []) (rest := []) C vn11_218 (h_allBags_0 hF e3 hn6) ⟨3, 1, _, _, rfl, rfl, rfl⟩ rfl (Nat.le_of_ble_eq_true rfl) dX11_count_132 (by decide) ?_
      rintro _ _ ⟨rfl, rfl⟩
      refine j_iret C dX11_count_135 ?_
      unfold sp_count
      rw [if_pos hw_, tN_nI (n := 5) (by decide)]
      rw [cnt_5 e3 hn6]
      exact ⟨rfl, hC⟩
    · refine j_tblIn C (off := 135) 136 dX11_count_1 (by decide) (by decide) (by decide) (by decide) ?_
      refine j_aload_n C 0 dX11_count_136 rfl ?_
      refine j_get C (v := .ref (q 1)) 0 1 rfl rfl inlC11 (by decide) kf11_75 rfl dX11_count_137 ?_
      refine j_getN C (v := .ref (q 3)) 1 0 rfl rfl inlC3 (by decide) kf11_94 rfl dX11_count_140 ?_
      refine j_getN C (v := .ref (q 43)) 3 10 rfl rfl inlC1 (by decide) kf11_145 rfl dX11_count_143 ?_
      refine j_aload_n C 0 dX11_count_146 rfl ?_
      refine j_get C (v := .ref (q 1)) 0 1 rfl rfl inlC11 (by decide) kf11_75 rfl dX11_count_147 ?_
      refine j_getN C (v := .ref (q 3)) 1 0 rfl rfl inlC3 (by decide) kf11_94 rfl dX11_count_150 ?_
      refine j_getN C (v := .int (S 7)) 3 4 rfl rfl inlC1 (by decide) kf11_97 rfl dX11_count_153 ?_
      refine j_v (nI np) (hS7.trans e3) ?_
      refine j_callS (As := [.ref (q 43), .int (nI np)]) (rest := []) C sw11_305 (h_sumH hF hn6) rfl (Nat.le_of_ble_eq_true rfl) dX11_count_156 (by decide) ?_
      rintro _ _ ⟨rfl, rfl⟩
      refine j_iret C dX11_count_159 ?_
      unfold sp_count
      rw [if_pos hw_, tN_nI (n := 6) (by decide)]
      rw [cnt_6 e3 hn6]
      exact ⟨rfl, hC⟩
    · refine j_tblIn C (off := 159) 160 dX11_count_1 (by decide) (by decide) (by decide) (by decide) ?_
      refine j_aload_n C 0 dX11_count_160 rfl ?_
      refine j_get C (v := .ref (q 1)) 0 1 rfl rfl inlC11 (by decide) kf11_75 rfl dX11_count_161 ?_
      refine j_getN C (v := .ref (q 11)) 1 5 rfl rfl inlC3 (by decide) kf11_185 rfl dX11_count_164 ?_
      refine j_getN C (v := .int (S 19)) 11 1 rfl rfl inlC8 (by decide) kf11_188 rfl dX11_count_167 ?_
      refine j_iret C dX11_count_170 ?_
      unfold sp_count
      rw [if_pos hw_, tN_nI (n := 7) (by decide)]
      exact ⟨hK.tsz, hC⟩
    · refine j_tblIn C (off := 170) 171 dX11_count_1 (by decide) (by decide) (by decide) (by decide) ?_
      refine j_aload_n C 0 dX11_count_171 rfl ?_
      refine j_get C (v := .ref (q 1)) 0 1 rfl rfl inlC11 (by decide) kf11_75 rfl dX11_count_172 ?_
      refine j_getN C (v := .ref (q 12)) 1 6 rfl rfl inlC3 (by decide) kf11_302 rfl dX11_count_175 ?_
      refine j_getN C (v := .int (S 20)) 12 1 rfl rfl inlC8 (by decide) kf11_188 rfl dX11_count_178 ?_
      refine j_iret C dX11_count_181 ?_
      unfold sp_count
      rw [if_pos hw_, tN_nI (n := 8) (by decide)]
      exact ⟨hK.qsz, hC⟩
    · refine j_tblIn C (off := 181) 182 dX11_count_1 (by decide) (by decide) (by decide) (by decide) ?_
      refine j_aload_n C 0 dX11_count_182 rfl ?_
      refine j_get C (v := .ref (q 20)) 0 5 rfl rfl inlC11 (by decide) kf11_21 rfl dX11_count_183 ?_
      refine j_getN C (v := .int (S 28)) 20 1 rfl rfl inlC8 (by decide) kf11_188 rfl dX11_count_186 ?_
      refine j_iret C dX11_count_189 ?_
      unfold sp_count
      rw [if_pos hw_, tN_nI (n := 9) (by decide)]
      exact ⟨hC.bsz, hC⟩
    · refine j_tblIn C (off := 189) 190 dX11_count_1 (by decide) (by decide) (by decide) (by decide) ?_
      refine j_aload_n C 0 dX11_count_190 rfl ?_
      refine j_get C (v := .ref (q 1)) 0 1 rfl rfl inlC11 (by decide) kf11_75 rfl dX11_count_191 ?_
      refine j_getN C (v := .int (S 2)) 1 7 rfl rfl inlC3 (by decide) kf11_262 rfl dX11_count_194 ?_
      refine j_iret C dX11_count_197 ?_
      unfold sp_count
      rw [if_pos hw_, tN_nI (n := 10) (by decide)]
      exact ⟨hK.z, hC⟩
  · refine j_iload_n C 1 dX11_count_0 rfl ?_
    refine j_tblOut C 198 dX11_count_1 (nN (b := 10) (by decide) hw_) (by decide) ?_
    refine j_aload_n C 0 dX11_count_198 rfl ?_
    refine j_iconst C (v := (nI 1)) dX11_count_199 (by decide) ?_
    refine j_callV (As := [.int (nI 1)]) (rest := []) C vw11_90 (h_error 1 (by decide)) ⟨0, 11, _, _, rfl, rfl, rfl⟩ rfl (Nat.le_of_ble_eq_true rfl) dX11_count_200 (by decide) ?_
    rintro _ _ ⟨rfl, rfl⟩
    refine j_iret C dX11_count_203 ?_
    unfold sp_count
    rw [if_neg hw_]
    exact ⟨show (-1000000000 : Int32) - nI 1 = -1000000001 from by decide, hC.er 1⟩
theorem dX11_shares_0 : decode cX11_shares 0 = .ok (.iload_n 1, 1) := by decide +kernel
theorem dX11_shares_1 : decode cX11_shares 1 = .ok (.iconst 1, 1) := by decide +kernel
theorem dX11_shares_2 : decode cX11_shares 2 = .ok (.bipush 30, 2) := by decide +kernel
theorem dX11_shares_4 : decode cX11_shares 4 = .ok (.invokestatic 86, 3) := by decide +kernel
theorem dX11_shares_7 : decode cX11_shares 7 = .ok (.ifCond .eq 23, 3) := by decide +kernel
theorem dX11_shares_10 : decode cX11_shares 10 = .ok (.iload_n 2, 1) := by decide +kernel
theorem dX11_shares_11 : decode cX11_shares 11 = .ok (.iconst (-1), 1) := by decide +kernel
theorem dX11_shares_12 : decode cX11_shares 12 = .ok (.aload_n 0, 1) := by decide +kernel
theorem dX11_shares_13 : decode cX11_shares 13 = .ok (.getfield 75, 3) := by decide +kernel
theorem dX11_shares_16 : decode cX11_shares 16 = .ok (.getfield 94, 3) := by decide +kernel
theorem dX11_shares_19 : decode cX11_shares 19 = .ok (.getfield 97, 3) := by decide +kernel
theorem dX11_shares_22 : decode cX11_shares 22 = .ok (.iconst 1, 1) := by decide +kernel
theorem dX11_shares_23 : decode cX11_shares 23 = .ok (.isub, 1) := by decide +kernel
theorem dX11_shares_24 : decode cX11_shares 24 = .ok (.invokestatic 86, 3) := by decide +kernel
theorem dX11_shares_27 : decode cX11_shares 27 = .ok (.ifCond .ne 9, 3) := by decide +kernel
theorem dX11_shares_30 : decode cX11_shares 30 = .ok (.aload_n 0, 1) := by decide +kernel
theorem dX11_shares_31 : decode cX11_shares 31 = .ok (.iconst 1, 1) := by decide +kernel
theorem dX11_shares_32 : decode cX11_shares 32 = .ok (.invokevirtual 90, 3) := by decide +kernel
theorem dX11_shares_35 : decode cX11_shares 35 = .ok (.ireturn, 1) := by decide +kernel
theorem dX11_shares_36 : decode cX11_shares 36 = .ok (.aload_n 0, 1) := by decide +kernel
theorem dX11_shares_37 : decode cX11_shares 37 = .ok (.getfield 75, 3) := by decide +kernel
theorem dX11_shares_40 : decode cX11_shares 40 = .ok (.getfield 94, 3) := by decide +kernel
theorem dX11_shares_43 : decode cX11_shares 43 = .ok (.invokevirtual 218, 3) := by decide +kernel
theorem dX11_shares_46 : decode cX11_shares 46 = .ok (.istore_n 3, 1) := by decide +kernel
theorem dX11_shares_47 : decode cX11_shares 47 = .ok (.iconst 0, 1) := by decide +kernel
theorem dX11_shares_48 : decode cX11_shares 48 = .ok (.istore 4, 2) := by decide +kernel
theorem dX11_shares_50 : decode cX11_shares 50 = .ok (.iload 4, 2) := by decide +kernel
theorem dX11_shares_52 : decode cX11_shares 52 = .ok (.aload_n 0, 1) := by decide +kernel
theorem dX11_shares_53 : decode cX11_shares 53 = .ok (.getfield 75, 3) := by decide +kernel
theorem dX11_shares_56 : decode cX11_shares 56 = .ok (.getfield 94, 3) := by decide +kernel
theorem dX11_shares_59 : decode cX11_shares 59 = .ok (.getfield 97, 3) := by decide +kernel
theorem dX11_shares_62 : decode cX11_shares 62 = .ok (.if_icmp .ge 43, 3) := by decide +kernel
theorem dX11_shares_65 : decode cX11_shares 65 = .ok (.iload_n 3, 1) := by decide +kernel
theorem dX11_shares_66 : decode cX11_shares 66 = .ok (.iload_n 1, 1) := by decide +kernel
theorem dX11_shares_67 : decode cX11_shares 67 = .ok (.aload_n 0, 1) := by decide +kernel
theorem dX11_shares_68 : decode cX11_shares 68 = .ok (.getfield 75, 3) := by decide +kernel
theorem dX11_shares_71 : decode cX11_shares 71 = .ok (.getfield 94, 3) := by decide +kernel
theorem dX11_shares_74 : decode cX11_shares 74 = .ok (.iload 4, 2) := by decide +kernel
theorem dX11_shares_76 : decode cX11_shares 76 = .ok (.invokevirtual 154, 3) := by decide +kernel
theorem dX11_shares_79 : decode cX11_shares 79 = .ok (.imul, 1) := by decide +kernel
theorem dX11_shares_80 : decode cX11_shares 80 = .ok (.invokestatic 253, 3) := by decide +kernel
theorem dX11_shares_83 : decode cX11_shares 83 = .ok (.istore 5, 2) := by decide +kernel
theorem dX11_shares_85 : decode cX11_shares 85 = .ok (.iload 4, 2) := by decide +kernel
theorem dX11_shares_87 : decode cX11_shares 87 = .ok (.iload_n 2, 1) := by decide +kernel
theorem dX11_shares_88 : decode cX11_shares 88 = .ok (.if_icmp .ne 6, 3) := by decide +kernel
theorem dX11_shares_91 : decode cX11_shares 91 = .ok (.iload 5, 2) := by decide +kernel
theorem dX11_shares_93 : decode cX11_shares 93 = .ok (.ireturn, 1) := by decide +kernel
theorem dX11_shares_94 : decode cX11_shares 94 = .ok (.iload_n 3, 1) := by decide +kernel
theorem dX11_shares_95 : decode cX11_shares 95 = .ok (.iload 5, 2) := by decide +kernel
theorem dX11_shares_97 : decode cX11_shares 97 = .ok (.isub, 1) := by decide +kernel
theorem dX11_shares_98 : decode cX11_shares 98 = .ok (.istore_n 3, 1) := by decide +kernel
theorem dX11_shares_99 : decode cX11_shares 99 = .ok (.iinc 4 1, 3) := by decide +kernel
theorem dX11_shares_102 : decode cX11_shares 102 = .ok (.goto (-52), 3) := by decide +kernel
theorem dX11_shares_105 : decode cX11_shares 105 = .ok (.iload_n 3, 1) := by decide +kernel
theorem dX11_shares_106 : decode cX11_shares 106 = .ok (.ireturn, 1) := by decide +kernel
set_option maxHeartbeats 2000000 in
set_option maxRecDepth 20000 in
theorem k_shares {l : Launch} {D : va_G} {cI cG cW : ClassId} {q : Nat → Nat} {S : Nat → Int32} {X : Nat → Nat → Int32} {P : Nat → Nat} {n what : Int32} {V row kept tried bf fd pk bo so sh mv tr : Nat → Int32} {nc np nw d nt nq : Nat} (hR : RKx row nc np nw d nt nq) (hC : CR (S, X, P) (sR V row kept tried bf fd pk bo so sh mv tr)) : Ci l yX11_shares cX11_shares 6 (some .int) 9 D (tyL cI cG cW) (wC cI cG cW q) [.ref (q 0), .int n, .int what] (S, X, P) (fun r τ => r = (sp_shares V row kept tried bf fd pk bo so sh mv tr n what).1 ∧ CR τ (sp_shares V row kept tried bf fd pk bo so sh mv tr n what).2) := by
  refine Ci.of (by decide) (Nat.le_of_ble_eq_true rfl) ?_
  intro p_ e_ s_ m_ b_ M_ c_ A_ C
  replace C : Cx _ _ _ _ _ _ _ _ RX11 _ _ _ _ := C
  refine j_L [0, 1, 2] [(0, .ref (q 0)), (1, .int n), (2, .int what)] rfl ?_
  obtain ⟨hI, hW, ⟨e0, hd⟩, ⟨e4, ht⟩, ⟨e5, hq⟩, hB⟩ := id hR
  obtain ⟨⟨e2, hc2, hc10⟩, ⟨e3, hn6⟩, ⟨e8, hw8⟩, hP, hE, hLo, hT0, hT1⟩ := id hI
  have hIc := hI
  have hF : CF S X 0 row (X 44) nc np := by have h := hC.fld; rw [e2, e3, tN_nI (by omega), tN_nI (by omega)] at h; exact h
  have hK : CK S X 0 row nw nt nq := by have h := hC.kp; rw [e8, e4, e5, tN_nI (by omega), tN_nI (by omega), tN_nI (by omega)] at h; exact h
  have hS1 : S 1 = row 8 := hK.wrongs
  have hS5 : S 5 = row 2 := hF.cells
  have hS7 : S 7 = row 3 := hF.people
  refine j_iload_n C 1 dX11_shares_0 rfl ?_
  refine j_iconst C (v := (nI 1)) dX11_shares_1 (by decide) ?_
  refine j_bipush C (v := (nI 30)) dX11_shares_2 (by decide) ?_
  refine j_callS (As := [.int n, .int (nI 1), .int (nI 30)]) (rest := []) C sw11_86 (h_within) rfl (Nat.le_of_ble_eq_true rfl) dX11_shares_4 (by decide) ?_
  rintro _ _ ⟨rfl, rfl⟩
  refine j_if_eq C 30 dX11_shares_7 (by decide) (fun c7 => ?_) (fun c7 => ?_)
  · replace c7 := bI_f c7
    refine j_aload_n C 0 dX11_shares_30 rfl ?_
    refine j_iconst C (v := (nI 1)) dX11_shares_31 (by decide) ?_
    refine j_callV (As := [.int (nI 1)]) (rest := []) C vw11_90 (h_error 1 (by decide)) ⟨0, 11, _, _, rfl, rfl, rfl⟩ rfl (Nat.le_of_ble_eq_true rfl) dX11_shares_32 (by decide) ?_
    rintro _ _ ⟨rfl, rfl⟩
    refine j_iret C dX11_shares_35 ?_
    unfold sp_shares
    rw [if_neg (fun h => c7 h.1)]
    exact ⟨show (-1000000000 : Int32) - nI 1 = -1000000001 from by decide, hC.er 1⟩
  · replace c7 := bI_t c7
    obtain ⟨nn, gnn, hnn, rfl⟩ := inn_lit c7 (by omega)
    refine j_iload_n C 2 dX11_shares_10 rfl ?_
    refine j_iconst C (v := (-1)) dX11_shares_11 (by decide) ?_
    refine j_aload_n C 0 dX11_shares_12 rfl ?_
    refine j_get C (v := .ref (q 1)) 0 1 rfl rfl inlC11 (by decide) kf11_75 rfl dX11_shares_13 ?_
    refine j_getN C (v := .ref (q 3)) 1 0 rfl rfl inlC3 (by decide) kf11_94 rfl dX11_shares_16 ?_
    refine j_getN C (v := .int (S 7)) 3 4 rfl rfl inlC1 (by decide) kf11_97 rfl dX11_shares_19 ?_
    refine j_v (nI np) (hS7.trans e3) ?_
    refine j_iconst C (v := (nI 1)) dX11_shares_22 (by decide) ?_
    refine j_isub C dX11_shares_23 ?_
    refine j_callS (As := [.int what, .int (-1), .int ((nI np) - (nI 1))]) (rest := []) C sw11_86 (h_within) rfl (Nat.le_of_ble_eq_true rfl) dX11_shares_24 (by decide) ?_
    rintro _ _ ⟨rfl, rfl⟩
    refine j_if_ne C 36 dX11_shares_27 (by decide) (fun c27 => ?_) (fun c27 => ?_)
    · replace c27 := bI_t c27
      refine j_aload_n C 0 dX11_shares_36 rfl ?_
      refine j_get C (v := .ref (q 1)) 0 1 rfl rfl inlC11 (by decide) kf11_75 rfl dX11_shares_37 ?_
      refine j_getN C (v := .ref (q 3)) 1 0 rfl rfl inlC3 (by decide) kf11_94 rfl dX11_shares_40 ?_
      refine j_callVN (As := []) (rest := []) C vn11_218 (h_allBags_0 hF e3 hn6) ⟨3, 1, _, _, rfl, rfl, rfl⟩ rfl (Nat.le_of_ble_eq_true rfl) dX11_shares_43 (by decide) ?_
      rintro _ _ ⟨rfl, rfl⟩
      refine j_istore_n C [(3, .int (sumF row 4 np)), (0, .ref (q 0)), (1, .int (nI nn)), (2, .int what)] dX11_shares_46 (by decide) rfl ?_
      refine j_iconst C (v := (nI 0)) dX11_shares_47 (by decide) ?_
      refine j_istore C [(4, .int (nI 0)), (3, .int (sumF row 4 np)), (0, .ref (q 0)), (1, .int (nI nn)), (2, .int what)] dX11_shares_48 (by decide) rfl ?_
      refine j_L [2, 3, 4, 1, 0] [(0, .ref (q 0)), (1, .int (nI nn)), (2, .int what), (3, .int (sumF row 4 np)), (4, .int (nI 0))] rfl ?_
      refine j_loop (X := Nat × Int32) (fun (z : Nat × Int32) => match z with | (i, s) => i ≤ np ∧ s = shrF row (nI nn) i ∧ ∀ m, m < i → ¬ nI m = what) (fun (z : Nat × Int32) => match z with | (i, s) => np - i) (fun (z : Nat × Int32) => match z with | (i, s) => (S, X, P)) (fun (z : Nat × Int32) => match z with | (i, s) => [(0, .ref (q 0)), (1, .int (nI nn)), (2, .int what), (3, .int s), (4, .int (nI i))]) (0, sumF row 4 np) (⟨Nat.zero_le _, (shr_0 e3 hn6).symm, fun m h => absurd h (Nat.not_lt_zero _)⟩) rfl rfl ?_
      rintro ⟨i, s⟩ ⟨hi, hs, hu⟩ ih
      try dsimp only at ih ⊢
      refine j_iload C 4 dX11_shares_50 rfl ?_
      refine j_aload_n C 0 dX11_shares_52 rfl ?_
      refine j_get C (v := .ref (q 1)) 0 1 rfl rfl inlC11 (by decide) kf11_75 rfl dX11_shares_53 ?_
      refine j_getN C (v := .ref (q 3)) 1 0 rfl rfl inlC3 (by decide) kf11_94 rfl dX11_shares_56 ?_
      refine j_getN C (v := .int (S 7)) 3 4 rfl rfl inlC1 (by decide) kf11_97 rfl dX11_shares_59 ?_
      refine j_v (nI np) (hS7.trans e3) ?_
      refine j_icmp_ge C 105 dX11_shares_62 (by decide) (fun c62 => ?_) (fun c62 => ?_)
      · rw [nI_leI (by omega) (by omega)] at c62
        refine j_iload_n C 3 dX11_shares_105 rfl ?_
        refine j_iret C dX11_shares_106 ?_
        unfold sp_shares
        rw [e3, if_pos (c := inn (nI nn) (nI 1) (nI 30) ∧ inn what (-1) (nI np - nI 1)) ⟨c7, c27⟩]
        have h0 : ¬ 0 ≤ what := fun h => by
          obtain ⟨j, hj, ej⟩ := inn_row (x := what) (r := nI np) (n := np) ⟨h, c27.2⟩ rfl (by omega)
          exact hu j (by omega) ej.symm
        rw [if_neg h0, tN_nI (n := np) (by omega), show np = i by omega]
        exact ⟨hs, hC⟩
      · rw [nI_leI (by omega) (by omega)] at c62
        obtain ⟨⟨k, hk, ek⟩, -⟩ := hP i (by omega)
        refine j_iload_n C 3 dX11_shares_65 rfl ?_
        refine j_iload_n C 1 dX11_shares_66 rfl ?_
        refine j_aload_n C 0 dX11_shares_67 rfl ?_
        refine j_get C (v := .ref (q 1)) 0 1 rfl rfl inlC11 (by decide) kf11_75 rfl dX11_shares_68 ?_
        refine j_getN C (v := .ref (q 3)) 1 0 rfl rfl inlC3 (by decide) kf11_94 rfl dX11_shares_71 ?_
        refine j_iload C 4 dX11_shares_74 rfl ?_
        refine j_callVN (As := [.int (nI i)]) (rest := [.int (nI nn), .int s]) C vn11_154 (h_eatsOf_0 hF hn6 i (by omega) hk ek) ⟨3, 1, _, _, rfl, rfl, rfl⟩ rfl (Nat.le_of_ble_eq_true rfl) dX11_shares_76 (by decide) ?_
        rintro _ _ ⟨rfl, rfl⟩
        refine j_imul C dX11_shares_79 ?_
        refine j_mmin (rest := []) C mn11_253 (by decide) (Nat.le_of_ble_eq_true rfl) dX11_shares_80 ?_
        refine j_istore C [(5, .int (if ((nI nn) * (eatF row i)) < s then ((nI nn) * (eatF row i)) else s)), (0, .ref (q 0)), (1, .int (nI nn)), (2, .int what), (3, .int s), (4, .int (nI i))] dX11_shares_83 (by decide) rfl ?_
        refine j_iload C 5 dX11_shares_85 rfl ?_
        refine j_iload_n C 3 dX11_shares_87 rfl ?_
        refine j_icmp_ne C 94 dX11_shares_88 (by decide) (fun c88 => ?_) (fun c88 => ?_)
        · skip
          refine j_iload_n C 4 dX11_shares_94 rfl ?_
          refine j_iload C 0 dX11_shares_95 rfl ?_
          refine j_isub C dX11_shares_97 ?_
          refine j_istore_n C [(3, .int (s - (if ((nI nn) * (eatF row i)) < s then ((nI nn) * (eatF row i)) else s))), (5, .int (if ((nI nn) * (eatF row i)) < s then ((nI nn) * (eatF row i)) else s)), (0, .ref (q 0)), (1, .int (nI nn)), (2, .int what), (4, .int (nI i))] dX11_shares_98 (by decide) rfl ?_
          refine j_iinc C (v := (nI (i + 1))) 5 [(4, .int (nI (i + 1))), (3, .int (s - (if ((nI nn) * (eatF row i)) < s then ((nI nn) * (eatF row i)) else s))), (5, .int (if ((nI nn) * (eatF row i)) < s then ((nI nn) * (eatF row i)) else s)), (0, .ref (q 0)), (1, .int (nI nn)), (2, .int what)] dX11_shares_99 rfl (nI_1 _) (by decide) rfl ?_
          refine j_goto C 50 dX11_shares_102 (by decide) ?_
          refine j_L [3, 4, 5, 1, 0] [(0, .ref (q 0)), (1, .int (nI nn)), (2, .int what), (3, .int (s - (if ((nI nn) * (eatF row i)) < s then ((nI nn) * (eatF row i)) else s))), (4, .int (nI (i + 1)))] rfl ?_
          exact ih (i + 1, s - (if ((nI nn) * (eatF row i)) < s then ((nI nn) * (eatF row i)) else s)) (⟨by dsimp only; omega, by dsimp only; rw [hs]; rfl, fun m hm => by
      dsimp only at hm
      by_cases e : m = i
      · subst e; exact c88
      · exact hu m (by omega)⟩) (by dsimp only; omega)
        · skip
          refine j_iload C 0 dX11_shares_91 rfl ?_
          refine j_iret C dX11_shares_93 ?_
          unfold sp_shares
          rw [e3, if_pos (c := inn (nI nn) (nI 1) (nI 30) ∧ inn what (-1) (nI np - nI 1)) ⟨c7, c27⟩]
          rw [← c88, if_pos (c := 0 ≤ nI i) (by rw [show (0 : Int32) = nI 0 from rfl, nI_leI (by omega) (by omega)]; omega), tN_nI (n := i) (by omega)]
          exact ⟨by rw [hs]; rfl, hC⟩
    · replace c27 := bI_f c27
      refine j_aload_n C 0 dX11_shares_30 rfl ?_
      refine j_iconst C (v := (nI 1)) dX11_shares_31 (by decide) ?_
      refine j_callV (As := [.int (nI 1)]) (rest := []) C vw11_90 (h_error 1 (by decide)) ⟨0, 11, _, _, rfl, rfl, rfl⟩ rfl (Nat.le_of_ble_eq_true rfl) dX11_shares_32 (by decide) ?_
      rintro _ _ ⟨rfl, rfl⟩
      refine j_iret C dX11_shares_35 ?_
      unfold sp_shares
      rw [e3, if_neg (fun h => c27 h.2)]
      exact ⟨show (-1000000000 : Int32) - nI 1 = -1000000001 from by decide, hC.er 1⟩

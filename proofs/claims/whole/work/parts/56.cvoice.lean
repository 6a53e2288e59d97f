/-! The class's public calls: voice. -/
theorem trW_eq (l : List Int32) : ∀ (t : Nat) (f g : Nat → Int32), (∀ k, k < t → f k = g k) → ∀ k, k < t + l.length → trW f t l k = trW g t l k := by
  induction l with
  | nil => intro t f g h k hk; exact h k hk
  | cons b l ih =>
    intro t f g h k hk
    refine ih (t + 1) (upd f t b) (upd g t b) (fun j hj => ?_) k (by simp only [List.length_cons] at hk; omega)
    by_cases e : j = t
    · subst e; rw [pk_us, pk_us]
    · rw [pk_un e, pk_un e]; exact h j (by omega)
theorem CR.voc {S : Nat → Int32} {X : Nat → Nat → Int32} {P : Nat → Nat} {V row kept tried bf fd pk bo so sh mv tr : Nat → Int32} (h : CR (S, X, P) (sR V row kept tried bf fd pk bo so sh mv tr)) (l : List Int32) (hl : l.length ≤ 40) : CR (upd S 28 (nI l.length), va_up X 81 (trW (X 81) 0 l), P) (sR (upd V 26 (nI l.length)) row kept tried bf fd pk bo so sh mv (trW tr 0 l)) := by
  have q : ∀ k, ¬ k = 81 → va_up X 81 (trW (X 81) 0 l) k = X k := fun k a => va_n a
  have u : ∀ k, ¬ k = 28 → upd S 28 (nI l.length) k = S k := fun k a => pk_un a
  have v5 : upd V 26 (nI l.length) 5 = V 5 := pk_un (by omega)
  refine ⟨CF.st (f := 0) h.fld (fun k _ _ => u k (by omega)) (fun k _ _ => q k (by omega)), h.kp.st (fun k _ => u k (by omega)) (fun k _ => q k (by omega)), h.l0.st (by omega) (u (23 + 0) (by omega)) (q (76 + 0) (by omega)) (fun _ _ => rfl), h.l1.st (by omega) (u (23 + 1) (by omega)) (q (76 + 1) (by omega)) (fun _ _ => rfl), fun g => ?_, ?_, fun j hj => ?_, ?_, fun j hj => ?_, fun a ha => ?_, fun a ha => ?_, fun a ha j hj => ?_⟩
  · have g2 : 0 < V 5 := by
      have g3 : 0 < upd V 26 (nI l.length) 5 := g
      rw [v5] at g3; exact g3
    obtain ⟨a, b', c, d⟩ := h.img g2
    exact ⟨CF.st (f := 1) a (fun k _ _ => u k (by omega)) (fun k _ _ => q k (by omega)), b'.st (fun k _ => u k (by omega)) (fun k _ => q k (by omega)), c.st (by omega) (u (23 + 2) (by omega)) (q (76 + 2) (by omega)) (fun _ _ => rfl), d.st (by omega) (u (23 + 3) (by omega)) (q (76 + 3) (by omega)) (fun _ _ => rfl)⟩
  · exact ((u 0 (by omega)).trans h.ims).trans v5.symm
  · exact (congrFun (q 35 (by omega)) j).trans (h.err j hj)
  · show upd S 28 (nI l.length) 28 = upd V 26 (nI l.length) 26
    rw [pk_us, pk_us]
  · have hj2 : j < l.length := by
      have g : j < tN (upd V 26 (nI l.length) 26) := hj
      rw [pk_us, tN_nI (by omega)] at g; exact g
    show va_up X 81 (trW (X 81) 0 l) 81 j = trW tr 0 l j
    exact (congrFun va_s j).trans (trW_eq l 0 (X 81) tr (fun k hk => absurd hk (Nat.not_lt_zero _)) j (by omega))
  · exact (congrFun (q 34 (by omega)) a).trans (h.shb a ha)
  · exact (u (29 + a) (by omega)).trans (h.shs a ha)
  · exact (congrFun (q (82 + a) (by omega)) j).trans (h.shi a ha j hj)

theorem dX11_voice_0 : decode cX11_voice 0 = .ok (.aload_n 0, 1) := by decide +kernel
theorem dX11_voice_1 : decode cX11_voice 1 = .ok (.iload_n 1, 1) := by decide +kernel
theorem dX11_voice_2 : decode cX11_voice 2 = .ok (.invokevirtual 123, 3) := by decide +kernel
theorem dX11_voice_5 : decode cX11_voice 5 = .ok (.ifCond .eq 12, 3) := by decide +kernel
theorem dX11_voice_8 : decode cX11_voice 8 = .ok (.iload_n 2, 1) := by decide +kernel
theorem dX11_voice_9 : decode cX11_voice 9 = .ok (.iconst 0, 1) := by decide +kernel
theorem dX11_voice_10 : decode cX11_voice 10 = .ok (.iconst 3, 1) := by decide +kernel
theorem dX11_voice_11 : decode cX11_voice 11 = .ok (.invokestatic 86, 3) := by decide +kernel
theorem dX11_voice_14 : decode cX11_voice 14 = .ok (.ifCond .ne 9, 3) := by decide +kernel
theorem dX11_voice_17 : decode cX11_voice 17 = .ok (.aload_n 0, 1) := by decide +kernel
theorem dX11_voice_18 : decode cX11_voice 18 = .ok (.iconst 1, 1) := by decide +kernel
theorem dX11_voice_19 : decode cX11_voice 19 = .ok (.invokevirtual 90, 3) := by decide +kernel
theorem dX11_voice_22 : decode cX11_voice 22 = .ok (.ireturn, 1) := by decide +kernel
theorem dX11_voice_23 : decode cX11_voice 23 = .ok (.aload_n 0, 1) := by decide +kernel
theorem dX11_voice_24 : decode cX11_voice 24 = .ok (.getfield 21, 3) := by decide +kernel
theorem dX11_voice_27 : decode cX11_voice 27 = .ok (.iconst 0, 1) := by decide +kernel
theorem dX11_voice_28 : decode cX11_voice 28 = .ok (.putfield 188, 3) := by decide +kernel
theorem dX11_voice_31 : decode cX11_voice 31 = .ok (.aload_n 0, 1) := by decide +kernel
theorem dX11_voice_32 : decode cX11_voice 32 = .ok (.getfield 61, 3) := by decide +kernel
theorem dX11_voice_35 : decode cX11_voice 35 = .ok (.aload_n 0, 1) := by decide +kernel
theorem dX11_voice_36 : decode cX11_voice 36 = .ok (.getfield 75, 3) := by decide +kernel
theorem dX11_voice_39 : decode cX11_voice 39 = .ok (.getfield 94, 3) := by decide +kernel
theorem dX11_voice_42 : decode cX11_voice 42 = .ok (.getfield 130, 3) := by decide +kernel
theorem dX11_voice_45 : decode cX11_voice 45 = .ok (.iload_n 1, 1) := by decide +kernel
theorem dX11_voice_46 : decode cX11_voice 46 = .ok (.iaload, 1) := by decide +kernel
theorem dX11_voice_47 : decode cX11_voice 47 = .ok (.aaload, 1) := by decide +kernel
theorem dX11_voice_48 : decode cX11_voice 48 = .ok (.astore 4, 2) := by decide +kernel
theorem dX11_voice_50 : decode cX11_voice 50 = .ok (.aload_n 0, 1) := by decide +kernel
theorem dX11_voice_51 : decode cX11_voice 51 = .ok (.getfield 75, 3) := by decide +kernel
theorem dX11_voice_54 : decode cX11_voice 54 = .ok (.getfield 94, 3) := by decide +kernel
theorem dX11_voice_57 : decode cX11_voice 57 = .ok (.getfield 133, 3) := by decide +kernel
theorem dX11_voice_60 : decode cX11_voice 60 = .ok (.iload_n 1, 1) := by decide +kernel
theorem dX11_voice_61 : decode cX11_voice 61 = .ok (.iaload, 1) := by decide +kernel
theorem dX11_voice_62 : decode cX11_voice 62 = .ok (.istore 5, 2) := by decide +kernel
theorem dX11_voice_64 : decode cX11_voice 64 = .ok (.iload_n 2, 1) := by decide +kernel
theorem dX11_voice_65 : decode cX11_voice 65 = .ok (.tableswitch 69 0 2 #[27, 41, 55], 27) := by decide +kernel
theorem dX11_voice_92 : decode cX11_voice 92 = .ok (.aload 4, 2) := by decide +kernel
theorem dX11_voice_94 : decode cX11_voice 94 = .ok (.aload_n 0, 1) := by decide +kernel
theorem dX11_voice_95 : decode cX11_voice 95 = .ok (.getfield 21, 3) := by decide +kernel
theorem dX11_voice_98 : decode cX11_voice 98 = .ok (.iload_n 1, 1) := by decide +kernel
theorem dX11_voice_99 : decode cX11_voice 99 = .ok (.iload 5, 2) := by decide +kernel
theorem dX11_voice_101 : decode cX11_voice 101 = .ok (.iload_n 3, 1) := by decide +kernel
theorem dX11_voice_102 : decode cX11_voice 102 = .ok (.invokevirtual 265, 3) := by decide +kernel
theorem dX11_voice_105 : decode cX11_voice 105 = .ok (.ireturn, 1) := by decide +kernel
theorem dX11_voice_106 : decode cX11_voice 106 = .ok (.aload 4, 2) := by decide +kernel
theorem dX11_voice_108 : decode cX11_voice 108 = .ok (.aload_n 0, 1) := by decide +kernel
theorem dX11_voice_109 : decode cX11_voice 109 = .ok (.getfield 21, 3) := by decide +kernel
theorem dX11_voice_112 : decode cX11_voice 112 = .ok (.iload_n 1, 1) := by decide +kernel
theorem dX11_voice_113 : decode cX11_voice 113 = .ok (.iload 5, 2) := by decide +kernel
theorem dX11_voice_115 : decode cX11_voice 115 = .ok (.iload_n 3, 1) := by decide +kernel
theorem dX11_voice_116 : decode cX11_voice 116 = .ok (.invokevirtual 269, 3) := by decide +kernel
theorem dX11_voice_119 : decode cX11_voice 119 = .ok (.ireturn, 1) := by decide +kernel
theorem dX11_voice_120 : decode cX11_voice 120 = .ok (.aload 4, 2) := by decide +kernel
theorem dX11_voice_122 : decode cX11_voice 122 = .ok (.aload_n 0, 1) := by decide +kernel
theorem dX11_voice_123 : decode cX11_voice 123 = .ok (.getfield 21, 3) := by decide +kernel
theorem dX11_voice_126 : decode cX11_voice 126 = .ok (.iload_n 1, 1) := by decide +kernel
theorem dX11_voice_127 : decode cX11_voice 127 = .ok (.iload 5, 2) := by decide +kernel
theorem dX11_voice_129 : decode cX11_voice 129 = .ok (.iload_n 3, 1) := by decide +kernel
theorem dX11_voice_130 : decode cX11_voice 130 = .ok (.invokevirtual 272, 3) := by decide +kernel
theorem dX11_voice_133 : decode cX11_voice 133 = .ok (.ireturn, 1) := by decide +kernel
theorem dX11_voice_134 : decode cX11_voice 134 = .ok (.aload 4, 2) := by decide +kernel
theorem dX11_voice_136 : decode cX11_voice 136 = .ok (.aload_n 0, 1) := by decide +kernel
theorem dX11_voice_137 : decode cX11_voice 137 = .ok (.getfield 21, 3) := by decide +kernel
theorem dX11_voice_140 : decode cX11_voice 140 = .ok (.iload_n 1, 1) := by decide +kernel
theorem dX11_voice_141 : decode cX11_voice 141 = .ok (.iload 5, 2) := by decide +kernel
theorem dX11_voice_143 : decode cX11_voice 143 = .ok (.iload_n 3, 1) := by decide +kernel
theorem dX11_voice_144 : decode cX11_voice 144 = .ok (.invokevirtual 275, 3) := by decide +kernel
theorem dX11_voice_147 : decode cX11_voice 147 = .ok (.ireturn, 1) := by decide +kernel
set_option maxHeartbeats 2000000 in
set_option maxRecDepth 20000 in
theorem k_voice {l : Launch} {D : va_G} {cI cG cW : ClassId} {q : Nat → Nat} {S : Nat → Int32} {X : Nat → Nat → Int32} {P : Nat → Nat} {p act x : Int32} {V row kept tried bf fd pk bo so sh mv tr : Nat → Int32} {nc np nw d nt nq : Nat} (hR : RKx row nc np nw d nt nq) (hC : CR (S, X, P) (sR V row kept tried bf fd pk bo so sh mv tr)) : Ci l yX11_voice cX11_voice 6 (some .int) 10 D (tyL cI cG cW) (wC cI cG cW q) [.ref (q 0), .int p, .int act, .int x] (S, X, P) (fun r τ => r = (sp_voice V row kept tried bf fd pk bo so sh mv tr p act x).1 ∧ CR τ (sp_voice V row kept tried bf fd pk bo so sh mv tr p act x).2) := by
  refine Ci.of (by decide) (Nat.le_of_ble_eq_true rfl) ?_
  intro p_ e_ s_ m_ b_ M_ c_ A_ C
  replace C : Cx _ _ _ _ _ _ _ _ RX11 _ _ _ _ := C
  refine j_L [0, 1, 2, 3] [(0, .ref (q 0)), (1, .int p), (2, .int act), (3, .int x)] rfl ?_
  obtain ⟨hI, hW, ⟨e0, hd⟩, ⟨e4, ht⟩, ⟨e5, hq⟩, hB⟩ := id hR
  obtain ⟨⟨e2, hc2, hc10⟩, ⟨e3, hn6⟩, ⟨e8, hw8⟩, hP, hE, hLo, hT0, hT1⟩ := id hI
  have hIc := hI
  have hF : CF S X 0 row (X 44) nc np := by have h := hC.fld; rw [e2, e3, tN_nI (by omega), tN_nI (by omega)] at h; exact h
  have hK : CK S X 0 row nw nt nq := by have h := hC.kp; rw [e8, e4, e5, tN_nI (by omega), tN_nI (by omega), tN_nI (by omega)] at h; exact h
  have hS1 : S 1 = row 8 := hK.wrongs
  have hS5 : S 5 = row 2 := hF.cells
  have hS7 : S 7 = row 3 := hF.people
  refine j_aload_n C 0 dX11_voice_0 rfl ?_
  refine j_iload_n C 1 dX11_voice_1 rfl ?_
  refine j_callV (As := [.int p]) (rest := []) C vw11_123 (h_isPerson) ⟨0, 11, _, _, rfl, rfl, rfl⟩ rfl (Nat.le_of_ble_eq_true rfl) dX11_voice_2 (by decide) ?_
  rintro _ _ ⟨rfl, rfl⟩
  refine j_v (bI (inn p 0 (row 3 - 1))) (by rw [hS7]) ?_
  refine j_if_eq C 17 dX11_voice_5 (by decide) (fun c5 => ?_) (fun c5 => ?_)
  · replace c5 := bI_f c5
    refine j_aload_n C 0 dX11_voice_17 rfl ?_
    refine j_iconst C (v := (nI 1)) dX11_voice_18 (by decide) ?_
    refine j_callV (As := [.int (nI 1)]) (rest := []) C vw11_90 (h_error 1 (by decide)) ⟨0, 11, _, _, rfl, rfl, rfl⟩ rfl (Nat.le_of_ble_eq_true rfl) dX11_voice_19 (by decide) ?_
    rintro _ _ ⟨rfl, rfl⟩
    refine j_iret C dX11_voice_22 ?_
    unfold sp_voice
    rw [if_neg (fun h => c5 h.1)]
    exact ⟨show (-1000000000 : Int32) - nI 1 = -1000000001 from by decide, hC.er 1⟩
  · replace c5 := bI_t c5
    obtain ⟨pn, hpn, rfl⟩ := inn_row c5 e3 (by omega)
    refine j_iload_n C 2 dX11_voice_8 rfl ?_
    refine j_iconst C (v := (nI 0)) dX11_voice_9 (by decide) ?_
    refine j_iconst C (v := (nI 3)) dX11_voice_10 (by decide) ?_
    refine j_callS (As := [.int act, .int (nI 0), .int (nI 3)]) (rest := []) C sw11_86 (h_within) rfl (Nat.le_of_ble_eq_true rfl) dX11_voice_11 (by decide) ?_
    rintro _ _ ⟨rfl, rfl⟩
    refine j_if_ne C 23 dX11_voice_14 (by decide) (fun c14 => ?_) (fun c14 => ?_)
    · replace c14 := bI_t c14
      obtain ⟨an, gan, han, rfl⟩ := inn_lit c14 (by omega)
      obtain ⟨⟨k, hk, ek⟩, -⟩ := hP pn hpn
      rcases (show k = 0 ∨ k = 1 ∨ k = 2 ∨ k = 3 ∨ k = 4 ∨ k = 5 ∨ k = 6 by omega) with rfl | rfl | rfl | rfl | rfl | rfl | rfl
      · refine j_aload_n C 0 dX11_voice_23 rfl ?_
        refine j_get C (v := .ref (q 20)) 0 5 rfl rfl inlC11 (by decide) kf11_21 rfl dX11_voice_24 ?_
        refine j_iconst C (v := (nI 0)) dX11_voice_27 (by decide) ?_
        refine j_putN C 20 1 rfl rfl inlC8 tyX8 tyX8_ok nmX8 (by decide) kf11_188 rfl (ty := .int) (by decide +kernel) rfl rfl (Nat.le_of_ble_eq_true rfl) dX11_voice_28 (upd S 28 (nI 0), X, P) rfl ?_
        refine j_aload_n C 0 dX11_voice_31 rfl ?_
        refine j_get C (v := .ref (q 32)) 0 0 rfl rfl inlC11 (by decide) kf11_61 rfl dX11_voice_32 ?_
        refine j_aload_n C 0 dX11_voice_35 rfl ?_
        refine j_get C (v := .ref (q 1)) 0 1 rfl rfl inlC11 (by decide) kf11_75 rfl dX11_voice_36 ?_
        refine j_getN C (v := .ref (q 3)) 1 0 rfl rfl inlC3 (by decide) kf11_94 rfl dX11_voice_39 ?_
        refine j_getN C (v := .ref (q 38)) 3 5 rfl rfl inlC1 (by decide) kf11_130 rfl dX11_voice_42 ?_
        refine j_iload_n C 1 dX11_voice_45 rfl ?_
        refine j_ialdN C 38 0 rfl rfl pn rfl (by omega) (by decide) dX11_voice_46 ?_
        refine j_v (nI 0) ((hF.per 0 (by omega) pn (by omega)).trans ek) ?_
        refine j_aaldN C 32 1 rfl rfl 0 rfl (by decide) (by decide) rfl dX11_voice_47 ?_
        refine j_astore C [(4, .ref (q 25)), (0, .ref (q 0)), (1, .int (nI pn)), (2, .int (nI an)), (3, .int x)] dX11_voice_48 (by decide) rfl ?_
        refine j_aload_n C 1 dX11_voice_50 rfl ?_
        refine j_get C (v := .ref (q 1)) 0 1 rfl rfl inlC11 (by decide) kf11_75 rfl dX11_voice_51 ?_
        refine j_getN C (v := .ref (q 3)) 1 0 rfl rfl inlC3 (by decide) kf11_94 rfl dX11_voice_54 ?_
        refine j_getN C (v := .ref (q 39)) 3 6 rfl rfl inlC1 (by decide) kf11_133 rfl dX11_voice_57 ?_
        refine j_iload_n C 2 dX11_voice_60 rfl ?_
        refine j_ialdN C 39 0 rfl rfl pn rfl (by omega) (by decide) dX11_voice_61 ?_
        refine j_v (row (30 + 6 * pn + 1)) (hF.per 1 (by omega) pn (by omega)) ?_
        refine j_istore C [(5, .int (row (30 + 6 * pn + 1))), (4, .ref (q 25)), (0, .ref (q 0)), (1, .int (nI pn)), (2, .int (nI an)), (3, .int x)] dX11_voice_62 (by decide) rfl ?_
        refine j_iload_n C 4 dX11_voice_64 rfl ?_
        rcases (show an = 0 ∨ an = 1 ∨ an = 2 ∨ an = 3 by omega) with rfl | rfl | rfl | rfl
        · refine j_tblIn C (off := 27) 92 dX11_voice_65 (by decide) (by decide) (by decide) (by decide) ?_
          refine j_aload C 1 dX11_voice_92 rfl ?_
          refine j_aload_n C 2 dX11_voice_94 rfl ?_
          refine j_get C (v := .ref (q 20)) 0 5 rfl rfl inlC11 (by decide) kf11_21 rfl dX11_voice_95 ?_
          refine j_iload_n C 3 dX11_voice_98 rfl ?_
          refine j_iload C 0 dX11_voice_99 rfl ?_
          refine j_iload_n C 5 dX11_voice_101 rfl ?_
          refine j_callU (As := [.ref (q 20), .int (nI pn), .int (row (30 + 6 * pn + 1)), .int x]) (rest := []) C uw11_265_2 (h_X2_bows_25 (S := upd S 28 (nI 0)) (X := X) 0 (by omega) pk_us) ⟨25, 2, _, _, rfl, rfl, rfl⟩ rfl (Nat.le_of_ble_eq_true rfl) dX11_voice_102 (by decide) ?_
          rintro _ _ ⟨rfl, rfl⟩
          refine j_wC (κ' := (upd S 28 (nI (0 + 1)), va_up X 81 (trW (X 81) 0 ([nI 10])), P)) rfl ?_
          refine j_iret C dX11_voice_105 ?_
          unfold sp_voice
          rw [if_pos ⟨c5, c14⟩, tN_nI (n := pn) (by omega), ek, tN_nI (n := 0) (by decide)]
          exact ⟨rfl, hC.voc ([nI 10]) (by decide)⟩
        · refine j_tblIn C (off := 41) 106 dX11_voice_65 (by decide) (by decide) (by decide) (by decide) ?_
          refine j_aload C 1 dX11_voice_106 rfl ?_
          refine j_aload_n C 2 dX11_voice_108 rfl ?_
          refine j_get C (v := .ref (q 20)) 0 5 rfl rfl inlC11 (by decide) kf11_21 rfl dX11_voice_109 ?_
          refine j_iload_n C 3 dX11_voice_112 rfl ?_
          refine j_iload C 0 dX11_voice_113 rfl ?_
          refine j_iload_n C 5 dX11_voice_115 rfl ?_
          refine j_callU (As := [.ref (q 20), .int (nI pn), .int (row (30 + 6 * pn + 1)), .int x]) (rest := []) C uw11_269_2 (h_X2_picks_25 (S := upd S 28 (nI 0)) (X := X) 0 (by omega) pk_us) ⟨25, 2, _, _, rfl, rfl, rfl⟩ rfl (Nat.le_of_ble_eq_true rfl) dX11_voice_116 (by decide) ?_
          rintro _ _ ⟨rfl, rfl⟩
          refine j_wC (κ' := (upd S 28 (nI (0 + 2)), va_up X 81 (trW (X 81) 0 (nI 11 :: vBt 0)), P)) rfl ?_
          refine j_iret C dX11_voice_119 ?_
          unfold sp_voice
          rw [if_pos ⟨c5, c14⟩, tN_nI (n := pn) (by omega), ek, tN_nI (n := 0) (by decide), tN_nI (n := 1) (by decide)]
          exact ⟨rfl, hC.voc (nI 11 :: vBt 0) (by decide)⟩
        · refine j_tblIn C (off := 55) 120 dX11_voice_65 (by decide) (by decide) (by decide) (by decide) ?_
          refine j_aload C 1 dX11_voice_120 rfl ?_
          refine j_aload_n C 2 dX11_voice_122 rfl ?_
          refine j_get C (v := .ref (q 20)) 0 5 rfl rfl inlC11 (by decide) kf11_21 rfl dX11_voice_123 ?_
          refine j_iload_n C 3 dX11_voice_126 rfl ?_
          refine j_iload C 0 dX11_voice_127 rfl ?_
          refine j_iload_n C 5 dX11_voice_129 rfl ?_
          refine j_callU (As := [.ref (q 20), .int (nI pn), .int (row (30 + 6 * pn + 1)), .int x]) (rest := []) C uw11_272_2 (h_X2_sighs_25 (S := upd S 28 (nI 0)) (X := X) 0 (by omega) pk_us) ⟨25, 2, _, _, rfl, rfl, rfl⟩ rfl (Nat.le_of_ble_eq_true rfl) dX11_voice_130 (by decide) ?_
          rintro _ _ ⟨rfl, rfl⟩
          refine j_wC (κ' := (upd S 28 (nI (0 + 1)), va_up X 81 (trW (X 81) 0 ([nI 12])), P)) rfl ?_
          refine j_iret C dX11_voice_133 ?_
          unfold sp_voice
          rw [if_pos ⟨c5, c14⟩, tN_nI (n := pn) (by omega), ek, tN_nI (n := 0) (by decide), tN_nI (n := 2) (by decide)]
          exact ⟨rfl, hC.voc ([nI 12]) (by decide)⟩
        · refine j_tblOut C 134 dX11_voice_65 (by decide) (by decide) ?_
          refine j_aload C 1 dX11_voice_134 rfl ?_
          refine j_aload_n C 2 dX11_voice_136 rfl ?_
          refine j_get C (v := .ref (q 20)) 0 5 rfl rfl inlC11 (by decide) kf11_21 rfl dX11_voice_137 ?_
          refine j_iload_n C 3 dX11_voice_140 rfl ?_
          refine j_iload C 0 dX11_voice_141 rfl ?_
          refine j_iload_n C 5 dX11_voice_143 rfl ?_
          refine j_callU (As := [.ref (q 20), .int (nI pn), .int (row (30 + 6 * pn + 1)), .int x]) (rest := []) C uw11_275_2 (h_X2_stands_25 (S := upd S 28 (nI 0)) (X := X) 0 (by omega) pk_us) ⟨25, 2, _, _, rfl, rfl, rfl⟩ rfl (Nat.le_of_ble_eq_true rfl) dX11_voice_144 (by decide) ?_
          rintro _ _ ⟨rfl, rfl⟩
          refine j_wC (κ' := (upd S 28 (nI (0 + 4)), va_up X 81 (trW (X 81) 0 (nI 13 :: (vPt 0 0 ++ vSt 0))), P)) rfl ?_
          refine j_iret C dX11_voice_147 ?_
          unfold sp_voice
          rw [if_pos ⟨c5, c14⟩, tN_nI (n := pn) (by omega), ek, tN_nI (n := 0) (by decide), tN_nI (n := 3) (by decide)]
          exact ⟨rfl, hC.voc (nI 13 :: (vPt 0 0 ++ vSt 0)) (by decide)⟩
      · refine j_aload_n C 0 dX11_voice_23 rfl ?_
        refine j_get C (v := .ref (q 20)) 0 5 rfl rfl inlC11 (by decide) kf11_21 rfl dX11_voice_24 ?_
        refine j_iconst C (v := (nI 0)) dX11_voice_27 (by decide) ?_
        refine j_putN C 20 1 rfl rfl inlC8 tyX8 tyX8_ok nmX8 (by decide) kf11_188 rfl (ty := .int) (by decide +kernel) rfl rfl (Nat.le_of_ble_eq_true rfl) dX11_voice_28 (upd S 28 (nI 0), X, P) rfl ?_
        refine j_aload_n C 0 dX11_voice_31 rfl ?_
        refine j_get C (v := .ref (q 32)) 0 0 rfl rfl inlC11 (by decide) kf11_61 rfl dX11_voice_32 ?_
        refine j_aload_n C 0 dX11_voice_35 rfl ?_
        refine j_get C (v := .ref (q 1)) 0 1 rfl rfl inlC11 (by decide) kf11_75 rfl dX11_voice_36 ?_
        refine j_getN C (v := .ref (q 3)) 1 0 rfl rfl inlC3 (by decide) kf11_94 rfl dX11_voice_39 ?_
        refine j_getN C (v := .ref (q 38)) 3 5 rfl rfl inlC1 (by decide) kf11_130 rfl dX11_voice_42 ?_
        refine j_iload_n C 1 dX11_voice_45 rfl ?_
        refine j_ialdN C 38 0 rfl rfl pn rfl (by omega) (by decide) dX11_voice_46 ?_
        refine j_v (nI 1) ((hF.per 0 (by omega) pn (by omega)).trans ek) ?_
        refine j_aaldN C 32 1 rfl rfl 1 rfl (by decide) (by decide) rfl dX11_voice_47 ?_
        refine j_astore C [(4, .ref (q 26)), (0, .ref (q 0)), (1, .int (nI pn)), (2, .int (nI an)), (3, .int x)] dX11_voice_48 (by decide) rfl ?_
        refine j_aload_n C 1 dX11_voice_50 rfl ?_
        refine j_get C (v := .ref (q 1)) 0 1 rfl rfl inlC11 (by decide) kf11_75 rfl dX11_voice_51 ?_
        refine j_getN C (v := .ref (q 3)) 1 0 rfl rfl inlC3 (by decide) kf11_94 rfl dX11_voice_54 ?_
        refine j_getN C (v := .ref (q 39)) 3 6 rfl rfl inlC1 (by decide) kf11_133 rfl dX11_voice_57 ?_
        refine j_iload_n C 2 dX11_voice_60 rfl ?_
        refine j_ialdN C 39 0 rfl rfl pn rfl (by omega) (by decide) dX11_voice_61 ?_
        refine j_v (row (30 + 6 * pn + 1)) (hF.per 1 (by omega) pn (by omega)) ?_
        refine j_istore C [(5, .int (row (30 + 6 * pn + 1))), (4, .ref (q 26)), (0, .ref (q 0)), (1, .int (nI pn)), (2, .int (nI an)), (3, .int x)] dX11_voice_62 (by decide) rfl ?_
        refine j_iload_n C 4 dX11_voice_64 rfl ?_
        rcases (show an = 0 ∨ an = 1 ∨ an = 2 ∨ an = 3 by omega) with rfl | rfl | rfl | rfl
        · refine j_tblIn C (off := 27) 92 dX11_voice_65 (by decide) (by decide) (by decide) (by decide) ?_
          refine j_aload C 1 dX11_voice_92 rfl ?_
          refine j_aload_n C 2 dX11_voice_94 rfl ?_
          refine j_get C (v := .ref (q 20)) 0 5 rfl rfl inlC11 (by decide) kf11_21 rfl dX11_voice_95 ?_
          refine j_iload_n C 3 dX11_voice_98 rfl ?_
          refine j_iload C 0 dX11_voice_99 rfl ?_
          refine j_iload_n C 5 dX11_voice_101 rfl ?_
          refine j_callU (As := [.ref (q 20), .int (nI pn), .int (row (30 + 6 * pn + 1)), .int x]) (rest := []) C uw11_265_10 (h_X10_bows_26 (S := upd S 28 (nI 0)) (X := X) 0 (by omega) pk_us) ⟨26, 10, _, _, rfl, rfl, rfl⟩ rfl (Nat.le_of_ble_eq_true rfl) dX11_voice_102 (by decide) ?_
          rintro _ _ ⟨rfl, rfl⟩
          refine j_wC (κ' := (upd S 28 (nI (0 + 2)), va_up X 81 (trW (X 81) 0 ([nI 20, nI 10])), P)) rfl ?_
          refine j_iret C dX11_voice_105 ?_
          unfold sp_voice
          rw [if_pos ⟨c5, c14⟩, tN_nI (n := pn) (by omega), ek, tN_nI (n := 1) (by decide), tN_nI (n := 0) (by decide)]
          exact ⟨rfl, hC.voc ([nI 20, nI 10]) (by decide)⟩
        · refine j_tblIn C (off := 41) 106 dX11_voice_65 (by decide) (by decide) (by decide) (by decide) ?_
          refine j_aload C 1 dX11_voice_106 rfl ?_
          refine j_aload_n C 2 dX11_voice_108 rfl ?_
          refine j_get C (v := .ref (q 20)) 0 5 rfl rfl inlC11 (by decide) kf11_21 rfl dX11_voice_109 ?_
          refine j_iload_n C 3 dX11_voice_112 rfl ?_
          refine j_iload C 0 dX11_voice_113 rfl ?_
          refine j_iload_n C 5 dX11_voice_115 rfl ?_
          refine j_callU (As := [.ref (q 20), .int (nI pn), .int (row (30 + 6 * pn + 1)), .int x]) (rest := []) C uw11_269_10 (h_X2_picks_26 (S := upd S 28 (nI 0)) (X := X) 0 (by omega) pk_us) ⟨26, 10, _, _, rfl, rfl, rfl⟩ rfl (Nat.le_of_ble_eq_true rfl) dX11_voice_116 (by decide) ?_
          rintro _ _ ⟨rfl, rfl⟩
          refine j_wC (κ' := (upd S 28 (nI (0 + 3)), va_up X 81 (trW (X 81) 0 (nI 11 :: vBt 1)), P)) rfl ?_
          refine j_iret C dX11_voice_119 ?_
          unfold sp_voice
          rw [if_pos ⟨c5, c14⟩, tN_nI (n := pn) (by omega), ek, tN_nI (n := 1) (by decide)]
          exact ⟨rfl, hC.voc (nI 11 :: vBt 1) (by decide)⟩
        · refine j_tblIn C (off := 55) 120 dX11_voice_65 (by decide) (by decide) (by decide) (by decide) ?_
          refine j_aload C 1 dX11_voice_120 rfl ?_
          refine j_aload_n C 2 dX11_voice_122 rfl ?_
          refine j_get C (v := .ref (q 20)) 0 5 rfl rfl inlC11 (by decide) kf11_21 rfl dX11_voice_123 ?_
          refine j_iload_n C 3 dX11_voice_126 rfl ?_
          refine j_iload C 0 dX11_voice_127 rfl ?_
          refine j_iload_n C 5 dX11_voice_129 rfl ?_
          refine j_callU (As := [.ref (q 20), .int (nI pn), .int (row (30 + 6 * pn + 1)), .int x]) (rest := []) C uw11_272_10 (h_X2_sighs_26 (S := upd S 28 (nI 0)) (X := X) 0 (by omega) pk_us) ⟨26, 10, _, _, rfl, rfl, rfl⟩ rfl (Nat.le_of_ble_eq_true rfl) dX11_voice_130 (by decide) ?_
          rintro _ _ ⟨rfl, rfl⟩
          refine j_wC (κ' := (upd S 28 (nI (0 + 1)), va_up X 81 (trW (X 81) 0 ([nI 12])), P)) rfl ?_
          refine j_iret C dX11_voice_133 ?_
          unfold sp_voice
          rw [if_pos ⟨c5, c14⟩, tN_nI (n := pn) (by omega), ek, tN_nI (n := 1) (by decide), tN_nI (n := 2) (by decide)]
          exact ⟨rfl, hC.voc ([nI 12]) (by decide)⟩
        · refine j_tblOut C 134 dX11_voice_65 (by decide) (by decide) ?_
          refine j_aload C 1 dX11_voice_134 rfl ?_
          refine j_aload_n C 2 dX11_voice_136 rfl ?_
          refine j_get C (v := .ref (q 20)) 0 5 rfl rfl inlC11 (by decide) kf11_21 rfl dX11_voice_137 ?_
          refine j_iload_n C 3 dX11_voice_140 rfl ?_
          refine j_iload C 0 dX11_voice_141 rfl ?_
          refine j_iload_n C 5 dX11_voice_143 rfl ?_
          refine j_callU (As := [.ref (q 20), .int (nI pn), .int (row (30 + 6 * pn + 1)), .int x]) (rest := []) C uw11_275_10 (h_X2_stands_26 (S := upd S 28 (nI 0)) (X := X) 0 (by omega) pk_us) ⟨26, 10, _, _, rfl, rfl, rfl⟩ rfl (Nat.le_of_ble_eq_true rfl) dX11_voice_144 (by decide) ?_
          rintro _ _ ⟨rfl, rfl⟩
          refine j_wC (κ' := (upd S 28 (nI (0 + 5)), va_up X 81 (trW (X 81) 0 (nI 13 :: (vPt 1 1 ++ vSt 1))), P)) rfl ?_
          refine j_iret C dX11_voice_147 ?_
          unfold sp_voice
          rw [if_pos ⟨c5, c14⟩, tN_nI (n := pn) (by omega), ek, tN_nI (n := 1) (by decide), tN_nI (n := 3) (by decide)]
          exact ⟨rfl, hC.voc (nI 13 :: (vPt 1 1 ++ vSt 1)) (by decide)⟩
      · refine j_aload_n C 0 dX11_voice_23 rfl ?_
        refine j_get C (v := .ref (q 20)) 0 5 rfl rfl inlC11 (by decide) kf11_21 rfl dX11_voice_24 ?_
        refine j_iconst C (v := (nI 0)) dX11_voice_27 (by decide) ?_
        refine j_putN C 20 1 rfl rfl inlC8 tyX8 tyX8_ok nmX8 (by decide) kf11_188 rfl (ty := .int) (by decide +kernel) rfl rfl (Nat.le_of_ble_eq_true rfl) dX11_voice_28 (upd S 28 (nI 0), X, P) rfl ?_
        refine j_aload_n C 0 dX11_voice_31 rfl ?_
        refine j_get C (v := .ref (q 32)) 0 0 rfl rfl inlC11 (by decide) kf11_61 rfl dX11_voice_32 ?_
        refine j_aload_n C 0 dX11_voice_35 rfl ?_
        refine j_get C (v := .ref (q 1)) 0 1 rfl rfl inlC11 (by decide) kf11_75 rfl dX11_voice_36 ?_
        refine j_getN C (v := .ref (q 3)) 1 0 rfl rfl inlC3 (by decide) kf11_94 rfl dX11_voice_39 ?_
        refine j_getN C (v := .ref (q 38)) 3 5 rfl rfl inlC1 (by decide) kf11_130 rfl dX11_voice_42 ?_
        refine j_iload_n C 1 dX11_voice_45 rfl ?_
        refine j_ialdN C 38 0 rfl rfl pn rfl (by omega) (by decide) dX11_voice_46 ?_
        refine j_v (nI 2) ((hF.per 0 (by omega) pn (by omega)).trans ek) ?_
        refine j_aaldN C 32 1 rfl rfl 2 rfl (by decide) (by decide) rfl dX11_voice_47 ?_
        refine j_astore C [(4, .ref (q 27)), (0, .ref (q 0)), (1, .int (nI pn)), (2, .int (nI an)), (3, .int x)] dX11_voice_48 (by decide) rfl ?_
        refine j_aload_n C 1 dX11_voice_50 rfl ?_
        refine j_get C (v := .ref (q 1)) 0 1 rfl rfl inlC11 (by decide) kf11_75 rfl dX11_voice_51 ?_
        refine j_getN C (v := .ref (q 3)) 1 0 rfl rfl inlC3 (by decide) kf11_94 rfl dX11_voice_54 ?_
        refine j_getN C (v := .ref (q 39)) 3 6 rfl rfl inlC1 (by decide) kf11_133 rfl dX11_voice_57 ?_
        refine j_iload_n C 2 dX11_voice_60 rfl ?_
        refine j_ialdN C 39 0 rfl rfl pn rfl (by omega) (by decide) dX11_voice_61 ?_
        refine j_v (row (30 + 6 * pn + 1)) (hF.per 1 (by omega) pn (by omega)) ?_
        refine j_istore C [(5, .int (row (30 + 6 * pn + 1))), (4, .ref (q 27)), (0, .ref (q 0)), (1, .int (nI pn)), (2, .int (nI an)), (3, .int x)] dX11_voice_62 (by decide) rfl ?_
        refine j_iload_n C 4 dX11_voice_64 rfl ?_
        rcases (show an = 0 ∨ an = 1 ∨ an = 2 ∨ an = 3 by omega) with rfl | rfl | rfl | rfl
        · refine j_tblIn C (off := 27) 92 dX11_voice_65 (by decide) (by decide) (by decide) (by decide) ?_
          refine j_aload C 1 dX11_voice_92 rfl ?_
          refine j_aload_n C 2 dX11_voice_94 rfl ?_
          refine j_get C (v := .ref (q 20)) 0 5 rfl rfl inlC11 (by decide) kf11_21 rfl dX11_voice_95 ?_
          refine j_iload_n C 3 dX11_voice_98 rfl ?_
          refine j_iload C 0 dX11_voice_99 rfl ?_
          refine j_iload_n C 5 dX11_voice_101 rfl ?_
          refine j_callU (As := [.ref (q 20), .int (nI pn), .int (row (30 + 6 * pn + 1)), .int x]) (rest := []) C uw11_265_0 (h_X2_bows_27 (S := upd S 28 (nI 0)) (X := X) 0 (by omega) pk_us) ⟨27, 0, _, _, rfl, rfl, rfl⟩ rfl (Nat.le_of_ble_eq_true rfl) dX11_voice_102 (by decide) ?_
          rintro _ _ ⟨rfl, rfl⟩
          refine j_wC (κ' := (upd S 28 (nI (0 + 1)), va_up X 81 (trW (X 81) 0 ([nI 10])), P)) rfl ?_
          refine j_iret C dX11_voice_105 ?_
          unfold sp_voice
          rw [if_pos ⟨c5, c14⟩, tN_nI (n := pn) (by omega), ek, tN_nI (n := 2) (by decide), tN_nI (n := 0) (by decide)]
          exact ⟨rfl, hC.voc ([nI 10]) (by decide)⟩
        · refine j_tblIn C (off := 41) 106 dX11_voice_65 (by decide) (by decide) (by decide) (by decide) ?_
          refine j_aload C 1 dX11_voice_106 rfl ?_
          refine j_aload_n C 2 dX11_voice_108 rfl ?_
          refine j_get C (v := .ref (q 20)) 0 5 rfl rfl inlC11 (by decide) kf11_21 rfl dX11_voice_109 ?_
          refine j_iload_n C 3 dX11_voice_112 rfl ?_
          refine j_iload C 0 dX11_voice_113 rfl ?_
          refine j_iload_n C 5 dX11_voice_115 rfl ?_
          refine j_callU (As := [.ref (q 20), .int (nI pn), .int (row (30 + 6 * pn + 1)), .int x]) (rest := []) C uw11_269_0 (h_X0_picks_27 (S := upd S 28 (nI 0)) (X := X) 0 (by omega) pk_us) ⟨27, 0, _, _, rfl, rfl, rfl⟩ rfl (Nat.le_of_ble_eq_true rfl) dX11_voice_116 (by decide) ?_
          rintro _ _ ⟨rfl, rfl⟩
          refine j_wC (κ' := (upd S 28 (nI (0 + 4)), va_up X 81 (trW (X 81) 0 (vPt 2 2)), P)) rfl ?_
          refine j_iret C dX11_voice_119 ?_
          unfold sp_voice
          rw [if_pos ⟨c5, c14⟩, tN_nI (n := pn) (by omega), ek, tN_nI (n := 2) (by decide), tN_nI (n := 1) (by decide)]
          exact ⟨rfl, hC.voc (vPt 2 2) (by decide)⟩
        · refine j_tblIn C (off := 55) 120 dX11_voice_65 (by decide) (by decide) (by decide) (by decide) ?_
          refine j_aload C 1 dX11_voice_120 rfl ?_
          refine j_aload_n C 2 dX11_voice_122 rfl ?_
          refine j_get C (v := .ref (q 20)) 0 5 rfl rfl inlC11 (by decide) kf11_21 rfl dX11_voice_123 ?_
          refine j_iload_n C 3 dX11_voice_126 rfl ?_
          refine j_iload C 0 dX11_voice_127 rfl ?_
          refine j_iload_n C 5 dX11_voice_129 rfl ?_
          refine j_callU (As := [.ref (q 20), .int (nI pn), .int (row (30 + 6 * pn + 1)), .int x]) (rest := []) C uw11_272_0 (h_X2_sighs_27 (S := upd S 28 (nI 0)) (X := X) 0 (by omega) pk_us) ⟨27, 0, _, _, rfl, rfl, rfl⟩ rfl (Nat.le_of_ble_eq_true rfl) dX11_voice_130 (by decide) ?_
          rintro _ _ ⟨rfl, rfl⟩
          refine j_wC (κ' := (upd S 28 (nI (0 + 1)), va_up X 81 (trW (X 81) 0 ([nI 12])), P)) rfl ?_
          refine j_iret C dX11_voice_133 ?_
          unfold sp_voice
          rw [if_pos ⟨c5, c14⟩, tN_nI (n := pn) (by omega), ek, tN_nI (n := 2) (by decide)]
          exact ⟨rfl, hC.voc ([nI 12]) (by decide)⟩
        · refine j_tblOut C 134 dX11_voice_65 (by decide) (by decide) ?_
          refine j_aload C 1 dX11_voice_134 rfl ?_
          refine j_aload_n C 2 dX11_voice_136 rfl ?_
          refine j_get C (v := .ref (q 20)) 0 5 rfl rfl inlC11 (by decide) kf11_21 rfl dX11_voice_137 ?_
          refine j_iload_n C 3 dX11_voice_140 rfl ?_
          refine j_iload C 0 dX11_voice_141 rfl ?_
          refine j_iload_n C 5 dX11_voice_143 rfl ?_
          refine j_callU (As := [.ref (q 20), .int (nI pn), .int (row (30 + 6 * pn + 1)), .int x]) (rest := []) C uw11_275_0 (h_X2_stands_27 (S := upd S 28 (nI 0)) (X := X) 0 (by omega) pk_us) ⟨27, 0, _, _, rfl, rfl, rfl⟩ rfl (Nat.le_of_ble_eq_true rfl) dX11_voice_144 (by decide) ?_
          rintro _ _ ⟨rfl, rfl⟩
          refine j_wC (κ' := (upd S 28 (nI (0 + 6)), va_up X 81 (trW (X 81) 0 (nI 13 :: (vPt 2 2 ++ vSt 2))), P)) rfl ?_
          refine j_iret C dX11_voice_147 ?_
          unfold sp_voice
          rw [if_pos ⟨c5, c14⟩, tN_nI (n := pn) (by omega), ek, tN_nI (n := 2) (by decide), tN_nI (n := 3) (by decide)]
          exact ⟨rfl, hC.voc (nI 13 :: (vPt 2 2 ++ vSt 2)) (by decide)⟩
      · refine j_aload_n C 0 dX11_voice_23 rfl ?_
        refine j_get C (v := .ref (q 20)) 0 5 rfl rfl inlC11 (by decide) kf11_21 rfl dX11_voice_24 ?_
        refine j_iconst C (v := (nI 0)) dX11_voice_27 (by decide) ?_
        refine j_putN C 20 1 rfl rfl inlC8 tyX8 tyX8_ok nmX8 (by decide) kf11_188 rfl (ty := .int) (by decide +kernel) rfl rfl (Nat.le_of_ble_eq_true rfl) dX11_voice_28 (upd S 28 (nI 0), X, P) rfl ?_
        refine j_aload_n C 0 dX11_voice_31 rfl ?_
        refine j_get C (v := .ref (q 32)) 0 0 rfl rfl inlC11 (by decide) kf11_61 rfl dX11_voice_32 ?_
        refine j_aload_n C 0 dX11_voice_35 rfl ?_
        refine j_get C (v := .ref (q 1)) 0 1 rfl rfl inlC11 (by decide) kf11_75 rfl dX11_voice_36 ?_
        refine j_getN C (v := .ref (q 3)) 1 0 rfl rfl inlC3 (by decide) kf11_94 rfl dX11_voice_39 ?_
        refine j_getN C (v := .ref (q 38)) 3 5 rfl rfl inlC1 (by decide) kf11_130 rfl dX11_voice_42 ?_
        refine j_iload_n C 1 dX11_voice_45 rfl ?_
        refine j_ialdN C 38 0 rfl rfl pn rfl (by omega) (by decide) dX11_voice_46 ?_
        refine j_v (nI 3) ((hF.per 0 (by omega) pn (by omega)).trans ek) ?_
        refine j_aaldN C 32 1 rfl rfl 3 rfl (by decide) (by decide) rfl dX11_voice_47 ?_
        refine j_astore C [(4, .ref (q 28)), (0, .ref (q 0)), (1, .int (nI pn)), (2, .int (nI an)), (3, .int x)] dX11_voice_48 (by decide) rfl ?_
        refine j_aload_n C 1 dX11_voice_50 rfl ?_
        refine j_get C (v := .ref (q 1)) 0 1 rfl rfl inlC11 (by decide) kf11_75 rfl dX11_voice_51 ?_
        refine j_getN C (v := .ref (q 3)) 1 0 rfl rfl inlC3 (by decide) kf11_94 rfl dX11_voice_54 ?_
        refine j_getN C (v := .ref (q 39)) 3 6 rfl rfl inlC1 (by decide) kf11_133 rfl dX11_voice_57 ?_
        refine j_iload_n C 2 dX11_voice_60 rfl ?_
        refine j_ialdN C 39 0 rfl rfl pn rfl (by omega) (by decide) dX11_voice_61 ?_
        refine j_v (row (30 + 6 * pn + 1)) (hF.per 1 (by omega) pn (by omega)) ?_
        refine j_istore C [(5, .int (row (30 + 6 * pn + 1))), (4, .ref (q 28)), (0, .ref (q 0)), (1, .int (nI pn)), (2, .int (nI an)), (3, .int x)] dX11_voice_62 (by decide) rfl ?_
        refine j_iload_n C 4 dX11_voice_64 rfl ?_
        rcases (show an = 0 ∨ an = 1 ∨ an = 2 ∨ an = 3 by omega) with rfl | rfl | rfl | rfl
        · refine j_tblIn C (off := 27) 92 dX11_voice_65 (by decide) (by decide) (by decide) (by decide) ?_
          refine j_aload C 1 dX11_voice_92 rfl ?_
          refine j_aload_n C 2 dX11_voice_94 rfl ?_
          refine j_get C (v := .ref (q 20)) 0 5 rfl rfl inlC11 (by decide) kf11_21 rfl dX11_voice_95 ?_
          refine j_iload_n C 3 dX11_voice_98 rfl ?_
          refine j_iload C 0 dX11_voice_99 rfl ?_
          refine j_iload_n C 5 dX11_voice_101 rfl ?_
          refine j_callU (As := [.ref (q 20), .int (nI pn), .int (row (30 + 6 * pn + 1)), .int x]) (rest := []) C uw11_265_9 (h_X2_bows_28 (S := upd S 28 (nI 0)) (X := X) 0 (by omega) pk_us) ⟨28, 9, _, _, rfl, rfl, rfl⟩ rfl (Nat.le_of_ble_eq_true rfl) dX11_voice_102 (by decide) ?_
          rintro _ _ ⟨rfl, rfl⟩
          refine j_wC (κ' := (upd S 28 (nI (0 + 1)), va_up X 81 (trW (X 81) 0 ([nI 10])), P)) rfl ?_
          refine j_iret C dX11_voice_105 ?_
          unfold sp_voice
          rw [if_pos ⟨c5, c14⟩, tN_nI (n := pn) (by omega), ek, tN_nI (n := 3) (by decide), tN_nI (n := 0) (by decide)]
          exact ⟨rfl, hC.voc ([nI 10]) (by decide)⟩
        · refine j_tblIn C (off := 41) 106 dX11_voice_65 (by decide) (by decide) (by decide) (by decide) ?_
          refine j_aload C 1 dX11_voice_106 rfl ?_
          refine j_aload_n C 2 dX11_voice_108 rfl ?_
          refine j_get C (v := .ref (q 20)) 0 5 rfl rfl inlC11 (by decide) kf11_21 rfl dX11_voice_109 ?_
          refine j_iload_n C 3 dX11_voice_112 rfl ?_
          refine j_iload C 0 dX11_voice_113 rfl ?_
          refine j_iload_n C 5 dX11_voice_115 rfl ?_
          refine j_callU (As := [.ref (q 20), .int (nI pn), .int (row (30 + 6 * pn + 1)), .int x]) (rest := []) C uw11_269_9 (h_X2_picks_28 (S := upd S 28 (nI 0)) (X := X) 0 (by omega) pk_us) ⟨28, 9, _, _, rfl, rfl, rfl⟩ rfl (Nat.le_of_ble_eq_true rfl) dX11_voice_116 (by decide) ?_
          rintro _ _ ⟨rfl, rfl⟩
          refine j_wC (κ' := (upd S 28 (nI (0 + 2)), va_up X 81 (trW (X 81) 0 (nI 11 :: vBt 3)), P)) rfl ?_
          refine j_iret C dX11_voice_119 ?_
          unfold sp_voice
          rw [if_pos ⟨c5, c14⟩, tN_nI (n := pn) (by omega), ek, tN_nI (n := 3) (by decide), tN_nI (n := 1) (by decide)]
          exact ⟨rfl, hC.voc (nI 11 :: vBt 3) (by decide)⟩
        · refine j_tblIn C (off := 55) 120 dX11_voice_65 (by decide) (by decide) (by decide) (by decide) ?_
          refine j_aload C 1 dX11_voice_120 rfl ?_
          refine j_aload_n C 2 dX11_voice_122 rfl ?_
          refine j_get C (v := .ref (q 20)) 0 5 rfl rfl inlC11 (by decide) kf11_21 rfl dX11_voice_123 ?_
          refine j_iload_n C 3 dX11_voice_126 rfl ?_
          refine j_iload C 0 dX11_voice_127 rfl ?_
          refine j_iload_n C 5 dX11_voice_129 rfl ?_
          refine j_callU (As := [.ref (q 20), .int (nI pn), .int (row (30 + 6 * pn + 1)), .int x]) (rest := []) C uw11_272_9 (h_X9_sighs_28 (S := upd S 28 (nI 0)) (X := X) 0 (by omega) pk_us) ⟨28, 9, _, _, rfl, rfl, rfl⟩ rfl (Nat.le_of_ble_eq_true rfl) dX11_voice_130 (by decide) ?_
          rintro _ _ ⟨rfl, rfl⟩
          refine j_wC (κ' := (upd S 28 (nI (0 + 2)), va_up X 81 (trW (X 81) 0 ([nI 40, nI 12])), P)) rfl ?_
          refine j_iret C dX11_voice_133 ?_
          unfold sp_voice
          rw [if_pos ⟨c5, c14⟩, tN_nI (n := pn) (by omega), ek, tN_nI (n := 3) (by decide), tN_nI (n := 2) (by decide)]
          exact ⟨rfl, hC.voc ([nI 40, nI 12]) (by decide)⟩
        · refine j_tblOut C 134 dX11_voice_65 (by decide) (by decide) ?_
          refine j_aload C 1 dX11_voice_134 rfl ?_
          refine j_aload_n C 2 dX11_voice_136 rfl ?_
          refine j_get C (v := .ref (q 20)) 0 5 rfl rfl inlC11 (by decide) kf11_21 rfl dX11_voice_137 ?_
          refine j_iload_n C 3 dX11_voice_140 rfl ?_
          refine j_iload C 0 dX11_voice_141 rfl ?_
          refine j_iload_n C 5 dX11_voice_143 rfl ?_
          refine j_callU (As := [.ref (q 20), .int (nI pn), .int (row (30 + 6 * pn + 1)), .int x]) (rest := []) C uw11_275_9 (h_X2_stands_28 (S := upd S 28 (nI 0)) (X := X) 0 (by omega) pk_us) ⟨28, 9, _, _, rfl, rfl, rfl⟩ rfl (Nat.le_of_ble_eq_true rfl) dX11_voice_144 (by decide) ?_
          rintro _ _ ⟨rfl, rfl⟩
          refine j_wC (κ' := (upd S 28 (nI (0 + 5)), va_up X 81 (trW (X 81) 0 (nI 13 :: (vPt 3 3 ++ vSt 3))), P)) rfl ?_
          refine j_iret C dX11_voice_147 ?_
          unfold sp_voice
          rw [if_pos ⟨c5, c14⟩, tN_nI (n := pn) (by omega), ek, tN_nI (n := 3) (by decide)]
          exact ⟨rfl, hC.voc (nI 13 :: (vPt 3 3 ++ vSt 3)) (by decide)⟩
      · refine j_aload_n C 0 dX11_voice_23 rfl ?_
        refine j_get C (v := .ref (q 20)) 0 5 rfl rfl inlC11 (by decide) kf11_21 rfl dX11_voice_24 ?_
        refine j_iconst C (v := (nI 0)) dX11_voice_27 (by decide) ?_
        refine j_putN C 20 1 rfl rfl inlC8 tyX8 tyX8_ok nmX8 (by decide) kf11_188 rfl (ty := .int) (by decide +kernel) rfl rfl (Nat.le_of_ble_eq_true rfl) dX11_voice_28 (upd S 28 (nI 0), X, P) rfl ?_
        refine j_aload_n C 0 dX11_voice_31 rfl ?_
        refine j_get C (v := .ref (q 32)) 0 0 rfl rfl inlC11 (by decide) kf11_61 rfl dX11_voice_32 ?_
        refine j_aload_n C 0 dX11_voice_35 rfl ?_
        refine j_get C (v := .ref (q 1)) 0 1 rfl rfl inlC11 (by decide) kf11_75 rfl dX11_voice_36 ?_
        refine j_getN C (v := .ref (q 3)) 1 0 rfl rfl inlC3 (by decide) kf11_94 rfl dX11_voice_39 ?_
        refine j_getN C (v := .ref (q 38)) 3 5 rfl rfl inlC1 (by decide) kf11_130 rfl dX11_voice_42 ?_
        refine j_iload_n C 1 dX11_voice_45 rfl ?_
        refine j_ialdN C 38 0 rfl rfl pn rfl (by omega) (by decide) dX11_voice_46 ?_
        refine j_v (nI 4) ((hF.per 0 (by omega) pn (by omega)).trans ek) ?_
        refine j_aaldN C 32 1 rfl rfl 4 rfl (by decide) (by decide) rfl dX11_voice_47 ?_
        refine j_astore C [(4, .ref (q 29)), (0, .ref (q 0)), (1, .int (nI pn)), (2, .int (nI an)), (3, .int x)] dX11_voice_48 (by decide) rfl ?_
        refine j_aload_n C 1 dX11_voice_50 rfl ?_
        refine j_get C (v := .ref (q 1)) 0 1 rfl rfl inlC11 (by decide) kf11_75 rfl dX11_voice_51 ?_
        refine j_getN C (v := .ref (q 3)) 1 0 rfl rfl inlC3 (by decide) kf11_94 rfl dX11_voice_54 ?_
        refine j_getN C (v := .ref (q 39)) 3 6 rfl rfl inlC1 (by decide) kf11_133 rfl dX11_voice_57 ?_
        refine j_iload_n C 2 dX11_voice_60 rfl ?_
        refine j_ialdN C 39 0 rfl rfl pn rfl (by omega) (by decide) dX11_voice_61 ?_
        refine j_v (row (30 + 6 * pn + 1)) (hF.per 1 (by omega) pn (by omega)) ?_
        refine j_istore C [(5, .int (row (30 + 6 * pn + 1))), (4, .ref (q 29)), (0, .ref (q 0)), (1, .int (nI pn)), (2, .int (nI an)), (3, .int x)] dX11_voice_62 (by decide) rfl ?_
        refine j_iload_n C 4 dX11_voice_64 rfl ?_
        rcases (show an = 0 ∨ an = 1 ∨ an = 2 ∨ an = 3 by omega) with rfl | rfl | rfl | rfl
        · refine j_tblIn C (off := 27) 92 dX11_voice_65 (by decide) (by decide) (by decide) (by decide) ?_
          refine j_aload C 1 dX11_voice_92 rfl ?_
          refine j_aload_n C 2 dX11_voice_94 rfl ?_
          refine j_get C (v := .ref (q 20)) 0 5 rfl rfl inlC11 (by decide) kf11_21 rfl dX11_voice_95 ?_
          refine j_iload_n C 3 dX11_voice_98 rfl ?_
          refine j_iload C 0 dX11_voice_99 rfl ?_
          refine j_iload_n C 5 dX11_voice_101 rfl ?_
          refine j_callU (As := [.ref (q 20), .int (nI pn), .int (row (30 + 6 * pn + 1)), .int x]) (rest := []) C uw11_265_5 (h_X10_bows_29 (S := upd S 28 (nI 0)) (X := X) 0 (by omega) pk_us) ⟨29, 5, _, _, rfl, rfl, rfl⟩ rfl (Nat.le_of_ble_eq_true rfl) dX11_voice_102 (by decide) ?_
          rintro _ _ ⟨rfl, rfl⟩
          refine j_wC (κ' := (upd S 28 (nI (0 + 2)), va_up X 81 (trW (X 81) 0 ([nI 20, nI 10])), P)) rfl ?_
          refine j_iret C dX11_voice_105 ?_
          unfold sp_voice
          rw [if_pos ⟨c5, c14⟩, tN_nI (n := pn) (by omega), ek, tN_nI (n := 4) (by decide), tN_nI (n := 0) (by decide)]
          exact ⟨rfl, hC.voc ([nI 20, nI 10]) (by decide)⟩
        · refine j_tblIn C (off := 41) 106 dX11_voice_65 (by decide) (by decide) (by decide) (by decide) ?_
          refine j_aload C 1 dX11_voice_106 rfl ?_
          refine j_aload_n C 2 dX11_voice_108 rfl ?_
          refine j_get C (v := .ref (q 20)) 0 5 rfl rfl inlC11 (by decide) kf11_21 rfl dX11_voice_109 ?_
          refine j_iload_n C 3 dX11_voice_112 rfl ?_
          refine j_iload C 0 dX11_voice_113 rfl ?_
          refine j_iload_n C 5 dX11_voice_115 rfl ?_
          refine j_callU (As := [.ref (q 20), .int (nI pn), .int (row (30 + 6 * pn + 1)), .int x]) (rest := []) C uw11_269_5 (h_X2_picks_29 (S := upd S 28 (nI 0)) (X := X) 0 (by omega) pk_us) ⟨29, 5, _, _, rfl, rfl, rfl⟩ rfl (Nat.le_of_ble_eq_true rfl) dX11_voice_116 (by decide) ?_
          rintro _ _ ⟨rfl, rfl⟩
          refine j_wC (κ' := (upd S 28 (nI (0 + 3)), va_up X 81 (trW (X 81) 0 (nI 11 :: vBt 4)), P)) rfl ?_
          refine j_iret C dX11_voice_119 ?_
          unfold sp_voice
          rw [if_pos ⟨c5, c14⟩, tN_nI (n := pn) (by omega), ek, tN_nI (n := 4) (by decide), tN_nI (n := 1) (by decide)]
          exact ⟨rfl, hC.voc (nI 11 :: vBt 4) (by decide)⟩
        · refine j_tblIn C (off := 55) 120 dX11_voice_65 (by decide) (by decide) (by decide) (by decide) ?_
          refine j_aload C 1 dX11_voice_120 rfl ?_
          refine j_aload_n C 2 dX11_voice_122 rfl ?_
          refine j_get C (v := .ref (q 20)) 0 5 rfl rfl inlC11 (by decide) kf11_21 rfl dX11_voice_123 ?_
          refine j_iload_n C 3 dX11_voice_126 rfl ?_
          refine j_iload C 0 dX11_voice_127 rfl ?_
          refine j_iload_n C 5 dX11_voice_129 rfl ?_
          refine j_callU (As := [.ref (q 20), .int (nI pn), .int (row (30 + 6 * pn + 1)), .int x]) (rest := []) C uw11_272_5 (h_X2_sighs_29 (S := upd S 28 (nI 0)) (X := X) 0 (by omega) pk_us) ⟨29, 5, _, _, rfl, rfl, rfl⟩ rfl (Nat.le_of_ble_eq_true rfl) dX11_voice_130 (by decide) ?_
          rintro _ _ ⟨rfl, rfl⟩
          refine j_wC (κ' := (upd S 28 (nI (0 + 1)), va_up X 81 (trW (X 81) 0 ([nI 12])), P)) rfl ?_
          refine j_iret C dX11_voice_133 ?_
          unfold sp_voice
          rw [if_pos ⟨c5, c14⟩, tN_nI (n := pn) (by omega), ek, tN_nI (n := 4) (by decide), tN_nI (n := 2) (by decide)]
          exact ⟨rfl, hC.voc ([nI 12]) (by decide)⟩
        · refine j_tblOut C 134 dX11_voice_65 (by decide) (by decide) ?_
          refine j_aload C 1 dX11_voice_134 rfl ?_
          refine j_aload_n C 2 dX11_voice_136 rfl ?_
          refine j_get C (v := .ref (q 20)) 0 5 rfl rfl inlC11 (by decide) kf11_21 rfl dX11_voice_137 ?_
          refine j_iload_n C 3 dX11_voice_140 rfl ?_
          refine j_iload C 0 dX11_voice_141 rfl ?_
          refine j_iload_n C 5 dX11_voice_143 rfl ?_
          refine j_callU (As := [.ref (q 20), .int (nI pn), .int (row (30 + 6 * pn + 1)), .int x]) (rest := []) C uw11_275_5 (h_X5_stands_29 (S := upd S 28 (nI 0)) (X := X) 0 (by omega) pk_us) ⟨29, 5, _, _, rfl, rfl, rfl⟩ rfl (Nat.le_of_ble_eq_true rfl) dX11_voice_144 (by decide) ?_
          rintro _ _ ⟨rfl, rfl⟩
          refine j_wC (κ' := (upd S 28 (nI (0 + 8)), va_up X 81 (trW (X 81) 0 (vTt 4 4)), P)) rfl ?_
          refine j_iret C dX11_voice_147 ?_
          unfold sp_voice
          rw [if_pos ⟨c5, c14⟩, tN_nI (n := pn) (by omega), ek, tN_nI (n := 4) (by decide), tN_nI (n := 3) (by decide)]
          exact ⟨rfl, hC.voc (vTt 4 4) (by decide)⟩
      · refine j_aload_n C 0 dX11_voice_23 rfl ?_
        refine j_get C (v := .ref (q 20)) 0 5 rfl rfl inlC11 (by decide) kf11_21 rfl dX11_voice_24 ?_
        refine j_iconst C (v := (nI 0)) dX11_voice_27 (by decide) ?_
        refine j_putN C 20 1 rfl rfl inlC8 tyX8 tyX8_ok nmX8 (by decide) kf11_188 rfl (ty := .int) (by decide +kernel) rfl rfl (Nat.le_of_ble_eq_true rfl) dX11_voice_28 (upd S 28 (nI 0), X, P) rfl ?_
        refine j_aload_n C 0 dX11_voice_31 rfl ?_
        refine j_get C (v := .ref (q 32)) 0 0 rfl rfl inlC11 (by decide) kf11_61 rfl dX11_voice_32 ?_
        refine j_aload_n C 0 dX11_voice_35 rfl ?_
        refine j_get C (v := .ref (q 1)) 0 1 rfl rfl inlC11 (by decide) kf11_75 rfl dX11_voice_36 ?_
        refine j_getN C (v := .ref (q 3)) 1 0 rfl rfl inlC3 (by decide) kf11_94 rfl dX11_voice_39 ?_
        refine j_getN C (v := .ref (q 38)) 3 5 rfl rfl inlC1 (by decide) kf11_130 rfl dX11_voice_42 ?_
        refine j_iload_n C 1 dX11_voice_45 rfl ?_
        refine j_ialdN C 38 0 rfl rfl pn rfl (by omega) (by decide) dX11_voice_46 ?_
        refine j_v (nI 5) ((hF.per 0 (by omega) pn (by omega)).trans ek) ?_
        refine j_aaldN C 32 1 rfl rfl 5 rfl (by decide) (by decide) rfl dX11_voice_47 ?_
        refine j_astore C [(4, .ref (q 30)), (0, .ref (q 0)), (1, .int (nI pn)), (2, .int (nI an)), (3, .int x)] dX11_voice_48 (by decide) rfl ?_
        refine j_aload_n C 1 dX11_voice_50 rfl ?_
        refine j_get C (v := .ref (q 1)) 0 1 rfl rfl inlC11 (by decide) kf11_75 rfl dX11_voice_51 ?_
        refine j_getN C (v := .ref (q 3)) 1 0 rfl rfl inlC3 (by decide) kf11_94 rfl dX11_voice_54 ?_
        refine j_getN C (v := .ref (q 39)) 3 6 rfl rfl inlC1 (by decide) kf11_133 rfl dX11_voice_57 ?_
        refine j_iload_n C 2 dX11_voice_60 rfl ?_
        refine j_ialdN C 39 0 rfl rfl pn rfl (by omega) (by decide) dX11_voice_61 ?_
        refine j_v (row (30 + 6 * pn + 1)) (hF.per 1 (by omega) pn (by omega)) ?_
        refine j_istore C [(5, .int (row (30 + 6 * pn + 1))), (4, .ref (q 30)), (0, .ref (q 0)), (1, .int (nI pn)), (2, .int (nI an)), (3, .int x)] dX11_voice_62 (by decide) rfl ?_
        refine j_iload_n C 4 dX11_voice_64 rfl ?_
        rcases (show an = 0 ∨ an = 1 ∨ an = 2 ∨ an = 3 by omega) with rfl | rfl | rfl | rfl
        · refine j_tblIn C (off := 27) 92 dX11_voice_65 (by decide) (by decide) (by decide) (by decide) ?_
          refine j_aload C 1 dX11_voice_92 rfl ?_
          refine j_aload_n C 2 dX11_voice_94 rfl ?_
          refine j_get C (v := .ref (q 20)) 0 5 rfl rfl inlC11 (by decide) kf11_21 rfl dX11_voice_95 ?_
          refine j_iload_n C 3 dX11_voice_98 rfl ?_
          refine j_iload C 0 dX11_voice_99 rfl ?_
          refine j_iload_n C 5 dX11_voice_101 rfl ?_
          refine j_callU (As := [.ref (q 20), .int (nI pn), .int (row (30 + 6 * pn + 1)), .int x]) (rest := []) C uw11_265_6 (h_X2_bows_30 (S := upd S 28 (nI 0)) (X := X) 0 (by omega) pk_us) ⟨30, 6, _, _, rfl, rfl, rfl⟩ rfl (Nat.le_of_ble_eq_true rfl) dX11_voice_102 (by decide) ?_
          rintro _ _ ⟨rfl, rfl⟩
          refine j_wC (κ' := (upd S 28 (nI (0 + 1)), va_up X 81 (trW (X 81) 0 ([nI 10])), P)) rfl ?_
          refine j_iret C dX11_voice_105 ?_
          unfold sp_voice
          rw [if_pos ⟨c5, c14⟩, tN_nI (n := pn) (by omega), ek, tN_nI (n := 5) (by decide), tN_nI (n := 0) (by decide)]
          exact ⟨rfl, hC.voc ([nI 10]) (by decide)⟩
        · refine j_tblIn C (off := 41) 106 dX11_voice_65 (by decide) (by decide) (by decide) (by decide) ?_
          refine j_aload C 1 dX11_voice_106 rfl ?_
          refine j_aload_n C 2 dX11_voice_108 rfl ?_
          refine j_get C (v := .ref (q 20)) 0 5 rfl rfl inlC11 (by decide) kf11_21 rfl dX11_voice_109 ?_
          refine j_iload_n C 3 dX11_voice_112 rfl ?_
          refine j_iload C 0 dX11_voice_113 rfl ?_
          refine j_iload_n C 5 dX11_voice_115 rfl ?_
          refine j_callU (As := [.ref (q 20), .int (nI pn), .int (row (30 + 6 * pn + 1)), .int x]) (rest := []) C uw11_269_6 (h_X6_picks_30 (S := upd S 28 (nI 0)) (X := X) 0 (by omega) pk_us) ⟨30, 6, _, _, rfl, rfl, rfl⟩ rfl (Nat.le_of_ble_eq_true rfl) dX11_voice_116 (by decide) ?_
          rintro _ _ ⟨rfl, rfl⟩
          refine j_wC (κ' := (upd S 28 (nI (0 + 5)), va_up X 81 (trW (X 81) 0 (vPt 5 5)), P)) rfl ?_
          refine j_iret C dX11_voice_119 ?_
          unfold sp_voice
          rw [if_pos ⟨c5, c14⟩, tN_nI (n := pn) (by omega), ek, tN_nI (n := 5) (by decide), tN_nI (n := 1) (by decide)]
          exact ⟨rfl, hC.voc (vPt 5 5) (by decide)⟩
        · refine j_tblIn C (off := 55) 120 dX11_voice_65 (by decide) (by decide) (by decide) (by decide) ?_
          refine j_aload C 1 dX11_voice_120 rfl ?_
          refine j_aload_n C 2 dX11_voice_122 rfl ?_
          refine j_get C (v := .ref (q 20)) 0 5 rfl rfl inlC11 (by decide) kf11_21 rfl dX11_voice_123 ?_
          refine j_iload_n C 3 dX11_voice_126 rfl ?_
          refine j_iload C 0 dX11_voice_127 rfl ?_
          refine j_iload_n C 5 dX11_voice_129 rfl ?_
          refine j_callU (As := [.ref (q 20), .int (nI pn), .int (row (30 + 6 * pn + 1)), .int x]) (rest := []) C uw11_272_6 (h_X2_sighs_30 (S := upd S 28 (nI 0)) (X := X) 0 (by omega) pk_us) ⟨30, 6, _, _, rfl, rfl, rfl⟩ rfl (Nat.le_of_ble_eq_true rfl) dX11_voice_130 (by decide) ?_
          rintro _ _ ⟨rfl, rfl⟩
          refine j_wC (κ' := (upd S 28 (nI (0 + 1)), va_up X 81 (trW (X 81) 0 ([nI 12])), P)) rfl ?_
          refine j_iret C dX11_voice_133 ?_
          unfold sp_voice
          rw [if_pos ⟨c5, c14⟩, tN_nI (n := pn) (by omega), ek, tN_nI (n := 5) (by decide), tN_nI (n := 2) (by decide)]
          exact ⟨rfl, hC.voc ([nI 12]) (by decide)⟩
        · refine j_tblOut C 134 dX11_voice_65 (by decide) (by decide) ?_
          refine j_aload C 1 dX11_voice_134 rfl ?_
          refine j_aload_n C 2 dX11_voice_136 rfl ?_
          refine j_get C (v := .ref (q 20)) 0 5 rfl rfl inlC11 (by decide) kf11_21 rfl dX11_voice_137 ?_
          refine j_iload_n C 3 dX11_voice_140 rfl ?_
          refine j_iload C 0 dX11_voice_141 rfl ?_
          refine j_iload_n C 5 dX11_voice_143 rfl ?_
          refine j_callU (As := [.ref (q 20), .int (nI pn), .int (row (30 + 6 * pn + 1)), .int x]) (rest := []) C uw11_275_6 (h_X2_stands_30 (S := upd S 28 (nI 0)) (X := X) 0 (by omega) pk_us) ⟨30, 6, _, _, rfl, rfl, rfl⟩ rfl (Nat.le_of_ble_eq_true rfl) dX11_voice_144 (by decide) ?_
          rintro _ _ ⟨rfl, rfl⟩
          refine j_wC (κ' := (upd S 28 (nI (0 + 7)), va_up X 81 (trW (X 81) 0 (nI 13 :: (vPt 5 5 ++ vSt 5))), P)) rfl ?_
          refine j_iret C dX11_voice_147 ?_
          unfold sp_voice
          rw [if_pos ⟨c5, c14⟩, tN_nI (n := pn) (by omega), ek, tN_nI (n := 5) (by decide), tN_nI (n := 3) (by decide)]
          exact ⟨rfl, hC.voc (nI 13 :: (vPt 5 5 ++ vSt 5)) (by decide)⟩
      · refine j_aload_n C 0 dX11_voice_23 rfl ?_
        refine j_get C (v := .ref (q 20)) 0 5 rfl rfl inlC11 (by decide) kf11_21 rfl dX11_voice_24 ?_
        refine j_iconst C (v := (nI 0)) dX11_voice_27 (by decide) ?_
        refine j_putN C 20 1 rfl rfl inlC8 tyX8 tyX8_ok nmX8 (by decide) kf11_188 rfl (ty := .int) (by decide +kernel) rfl rfl (Nat.le_of_ble_eq_true rfl) dX11_voice_28 (upd S 28 (nI 0), X, P) rfl ?_
        refine j_aload_n C 0 dX11_voice_31 rfl ?_
        refine j_get C (v := .ref (q 32)) 0 0 rfl rfl inlC11 (by decide) kf11_61 rfl dX11_voice_32 ?_
        refine j_aload_n C 0 dX11_voice_35 rfl ?_
        refine j_get C (v := .ref (q 1)) 0 1 rfl rfl inlC11 (by decide) kf11_75 rfl dX11_voice_36 ?_
        refine j_getN C (v := .ref (q 3)) 1 0 rfl rfl inlC3 (by decide) kf11_94 rfl dX11_voice_39 ?_
        refine j_getN C (v := .ref (q 38)) 3 5 rfl rfl inlC1 (by decide) kf11_130 rfl dX11_voice_42 ?_
        refine j_iload_n C 1 dX11_voice_45 rfl ?_
        refine j_ialdN C 38 0 rfl rfl pn rfl (by omega) (by decide) dX11_voice_46 ?_
        refine j_v (nI 6) ((hF.per 0 (by omega) pn (by omega)).trans ek) ?_
        refine j_aaldN C 32 1 rfl rfl 6 rfl (by decide) (by decide) rfl dX11_voice_47 ?_
        refine j_astore C [(4, .ref (q 31)), (0, .ref (q 0)), (1, .int (nI pn)), (2, .int (nI an)), (3, .int x)] dX11_voice_48 (by decide) rfl ?_
        refine j_aload_n C 1 dX11_voice_50 rfl ?_
        refine j_get C (v := .ref (q 1)) 0 1 rfl rfl inlC11 (by decide) kf11_75 rfl dX11_voice_51 ?_
        refine j_getN C (v := .ref (q 3)) 1 0 rfl rfl inlC3 (by decide) kf11_94 rfl dX11_voice_54 ?_
        refine j_getN C (v := .ref (q 39)) 3 6 rfl rfl inlC1 (by decide) kf11_133 rfl dX11_voice_57 ?_
        refine j_iload_n C 2 dX11_voice_60 rfl ?_
        refine j_ialdN C 39 0 rfl rfl pn rfl (by omega) (by decide) dX11_voice_61 ?_
        refine j_v (row (30 + 6 * pn + 1)) (hF.per 1 (by omega) pn (by omega)) ?_
        refine j_istore C [(5, .int (row (30 + 6 * pn + 1))), (4, .ref (q 31)), (0, .ref (q 0)), (1, .int (nI pn)), (2, .int (nI an)), (3, .int x)] dX11_voice_62 (by decide) rfl ?_
        refine j_iload_n C 4 dX11_voice_64 rfl ?_
        rcases (show an = 0 ∨ an = 1 ∨ an = 2 ∨ an = 3 by omega) with rfl | rfl | rfl | rfl
        · refine j_tblIn C (off := 27) 92 dX11_voice_65 (by decide) (by decide) (by decide) (by decide) ?_
          refine j_aload C 1 dX11_voice_92 rfl ?_
          refine j_aload_n C 2 dX11_voice_94 rfl ?_
          refine j_get C (v := .ref (q 20)) 0 5 rfl rfl inlC11 (by decide) kf11_21 rfl dX11_voice_95 ?_
          refine j_iload_n C 3 dX11_voice_98 rfl ?_
          refine j_iload C 0 dX11_voice_99 rfl ?_
          refine j_iload_n C 5 dX11_voice_101 rfl ?_
          refine j_callU (As := [.ref (q 20), .int (nI pn), .int (row (30 + 6 * pn + 1)), .int x]) (rest := []) C uw11_265_7 (h_X2_bows_31 (S := upd S 28 (nI 0)) (X := X) 0 (by omega) pk_us) ⟨31, 7, _, _, rfl, rfl, rfl⟩ rfl (Nat.le_of_ble_eq_true rfl) dX11_voice_102 (by decide) ?_
          rintro _ _ ⟨rfl, rfl⟩
          refine j_wC (κ' := (upd S 28 (nI (0 + 1)), va_up X 81 (trW (X 81) 0 ([nI 10])), P)) rfl ?_
          refine j_iret C dX11_voice_105 ?_
          unfold sp_voice
          rw [if_pos ⟨c5, c14⟩, tN_nI (n := pn) (by omega), ek, tN_nI (n := 6) (by decide), tN_nI (n := 0) (by decide)]
          exact ⟨rfl, hC.voc ([nI 10]) (by decide)⟩
        · refine j_tblIn C (off := 41) 106 dX11_voice_65 (by decide) (by decide) (by decide) (by decide) ?_
          refine j_aload C 1 dX11_voice_106 rfl ?_
          refine j_aload_n C 2 dX11_voice_108 rfl ?_
          refine j_get C (v := .ref (q 20)) 0 5 rfl rfl inlC11 (by decide) kf11_21 rfl dX11_voice_109 ?_
          refine j_iload_n C 3 dX11_voice_112 rfl ?_
          refine j_iload C 0 dX11_voice_113 rfl ?_
          refine j_iload_n C 5 dX11_voice_115 rfl ?_
          refine j_callU (As := [.ref (q 20), .int (nI pn), .int (row (30 + 6 * pn + 1)), .int x]) (rest := []) C uw11_269_7 (h_X2_picks_31 (S := upd S 28 (nI 0)) (X := X) 0 (by omega) pk_us) ⟨31, 7, _, _, rfl, rfl, rfl⟩ rfl (Nat.le_of_ble_eq_true rfl) dX11_voice_116 (by decide) ?_
          rintro _ _ ⟨rfl, rfl⟩
          refine j_wC (κ' := (upd S 28 (nI (0 + 2)), va_up X 81 (trW (X 81) 0 (nI 11 :: vBt 6)), P)) rfl ?_
          refine j_iret C dX11_voice_119 ?_
          unfold sp_voice
          rw [if_pos ⟨c5, c14⟩, tN_nI (n := pn) (by omega), ek, tN_nI (n := 6) (by decide), tN_nI (n := 1) (by decide)]
          exact ⟨rfl, hC.voc (nI 11 :: vBt 6) (by decide)⟩
        · refine j_tblIn C (off := 55) 120 dX11_voice_65 (by decide) (by decide) (by decide) (by decide) ?_
          refine j_aload C 1 dX11_voice_120 rfl ?_
          refine j_aload_n C 2 dX11_voice_122 rfl ?_
          refine j_get C (v := .ref (q 20)) 0 5 rfl rfl inlC11 (by decide) kf11_21 rfl dX11_voice_123 ?_
          refine j_iload_n C 3 dX11_voice_126 rfl ?_
          refine j_iload C 0 dX11_voice_127 rfl ?_
          refine j_iload_n C 5 dX11_voice_129 rfl ?_
          refine j_callU (As := [.ref (q 20), .int (nI pn), .int (row (30 + 6 * pn + 1)), .int x]) (rest := []) C uw11_272_7 (h_X7_sighs_31 (S := upd S 28 (nI 0)) (X := X) 0 (by omega) pk_us) ⟨31, 7, _, _, rfl, rfl, rfl⟩ rfl (Nat.le_of_ble_eq_true rfl) dX11_voice_130 (by decide) ?_
          rintro _ _ ⟨rfl, rfl⟩
          refine j_wC (κ' := (upd S 28 (nI (0 + 3)), va_up X 81 (trW (X 81) 0 ([nI 70, nI 40, nI 12])), P)) rfl ?_
          refine j_iret C dX11_voice_133 ?_
          unfold sp_voice
          rw [if_pos ⟨c5, c14⟩, tN_nI (n := pn) (by omega), ek, tN_nI (n := 6) (by decide), tN_nI (n := 2) (by decide)]
          exact ⟨rfl, hC.voc ([nI 70, nI 40, nI 12]) (by decide)⟩
        · refine j_tblOut C 134 dX11_voice_65 (by decide) (by decide) ?_
          refine j_aload C 1 dX11_voice_134 rfl ?_
          refine j_aload_n C 2 dX11_voice_136 rfl ?_
          refine j_get C (v := .ref (q 20)) 0 5 rfl rfl inlC11 (by decide) kf11_21 rfl dX11_voice_137 ?_
          refine j_iload_n C 3 dX11_voice_140 rfl ?_
          refine j_iload C 0 dX11_voice_141 rfl ?_
          refine j_iload_n C 5 dX11_voice_143 rfl ?_
          refine j_callU (As := [.ref (q 20), .int (nI pn), .int (row (30 + 6 * pn + 1)), .int x]) (rest := []) C uw11_275_7 (h_X7_stands_31 (S := upd S 28 (nI 0)) (X := X) 0 (by omega) pk_us) ⟨31, 7, _, _, rfl, rfl, rfl⟩ rfl (Nat.le_of_ble_eq_true rfl) dX11_voice_144 (by decide) ?_
          rintro _ _ ⟨rfl, rfl⟩
          refine j_wC (κ' := (upd S 28 (nI (0 + 9)), va_up X 81 (trW (X 81) 0 (vTt 6 6)), P)) rfl ?_
          refine j_iret C dX11_voice_147 ?_
          unfold sp_voice
          rw [if_pos ⟨c5, c14⟩, tN_nI (n := pn) (by omega), ek, tN_nI (n := 6) (by decide), tN_nI (n := 3) (by decide)]
          exact ⟨rfl, hC.voc (vTt 6 6) (by decide)⟩
    · replace c14 := bI_f c14
      refine j_aload_n C 0 dX11_voice_17 rfl ?_
      refine j_iconst C (v := (nI 1)) dX11_voice_18 (by decide) ?_
      refine j_callV (As := [.int (nI 1)]) (rest := []) C vw11_90 (h_error 1 (by decide)) ⟨0, 11, _, _, rfl, rfl, rfl⟩ rfl (Nat.le_of_ble_eq_true rfl) dX11_voice_19 (by decide) ?_
      rintro _ _ ⟨rfl, rfl⟩
      refine j_iret C dX11_voice_22 ?_
      unfold sp_voice
      rw [if_neg (fun h => c14 h.2)]
      exact ⟨show (-1000000000 : Int32) - nI 1 = -1000000001 from by decide, hC.er 1⟩

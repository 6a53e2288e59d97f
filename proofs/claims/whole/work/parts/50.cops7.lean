/-! The class's public calls: dawns, loose, then, upright, adds. -/
theorem CF.wc {S : Nat → Int32} {X : Nat → Nat → Int32} {f : Nat} {row w w' : Nat → Int32} {nc np : Nat} (h : CF S X f row w nc np) (g : ∀ p, p < np → w p = w' p) : CF S X f row w' nc np := ⟨h.cells, h.dawn, h.people, h.ears, h.low, h.per, fun p hp => (h.weighs p hp).trans (g p hp)⟩
theorem CF.slf {S : Nat → Int32} {X : Nat → Nat → Int32} {f : Nat} {row w : Nat → Int32} {nc np : Nat} (h : CF S X f row w nc np) : CF S X f row (X (44 + 10 * f)) nc np := ⟨h.cells, h.dawn, h.people, h.ears, h.low, h.per, fun _ _ => rfl⟩
theorem pks_w {np : Nat} {w w' : Nat → Int32} (h : ∀ p, p < np → w p = w' p) (row : Nat → Int32) (n : Nat) (hn : n ≤ np) : pksF np w row n = pksF np w' row n := by
  induction n with
  | zero => exact (rfl : row = row)
  | succ n ih =>
    show pickF (pksF np w row n) np (w n) n = pickF (pksF np w' row n) np (w' n) n
    rw [ih (by omega), h n (by omega)]
theorem dawn_w {np : Nat} {w w' : Nat → Int32} (h : ∀ p, p < np → w p = w' p) (row : Nat → Int32) : dawnF np w row = dawnF np w' row := by
  unfold dawnF; rw [pks_w h row np (Nat.le_refl _)]
theorem dawns_w {np : Nat} {w w' : Nat → Int32} (h : ∀ p, p < np → w p = w' p) (row : Nat → Int32) (n : Nat) : dawnsF np w row n = dawnsF np w' row n := by
  induction n with
  | zero => exact (rfl : row = row)
  | succ n ih => rw [dawnsF_s, dawnsF_s, ih, dawn_w h]
theorem dw_eq {V row : Nat → Int32} {np nw n : Nat} (e3 : row 3 = nI np) (e8 : row 8 = nI nw) (hn : np ≤ 6) (hw : nw ≤ 8) : dwF V row n = dawnsF np (wv V row nw) row n := by
  show dawnsF (tN (row 3)) (wv V row (tN (row 8))) row n = _
  rw [e3, e8, tN_nI (by omega), tN_nI (by omega)]
theorem wt_wv {V row : Nat → Int32} {nw np : Nat} {s : Int32} (h15 : V 15 = s) (h16 : V 16 = -1) (h18 : V 18 = -1) (hn : np ≤ 6) : ∀ p, p < np → wtF row nw s p = wv V row nw p := fun p hp => by
  rw [wv_wt (by rw [h18]; exact nI_m1 (by omega)) (by rw [h16]; exact nI_m1 (by omega)), h15]
def FrE (T S : Nat → Int32) : Prop := ∀ k, ¬ k = 6 → ¬ k = 2 → T k = S k
def FR1 (r' r : Nat → Int32) : Prop := ∀ k, (2 ≤ k ∧ k < 10) ∨ (20 ≤ k ∧ k < 30) ∨ 66 ≤ k ∨ (∃ p, k = 30 + 6 * p + 0) ∨ (∃ p, k = 30 + 6 * p + 1) → r' k = r k
theorem FR.one {r' r : Nat → Int32} (h : FR r' r) : FR1 r' r := fun k hk => h k (by
  rcases hk with g | g | g | g | g
  · exact Or.inl ⟨by omega, g.2⟩
  · exact Or.inr (Or.inl g)
  · exact Or.inr (Or.inr (Or.inl g))
  · exact Or.inr (Or.inr (Or.inr (Or.inl g)))
  · exact Or.inr (Or.inr (Or.inr (Or.inr g))))
theorem FR1.tr {a b c : Nat → Int32} (h : FR1 a b) (g : FR1 b c) : FR1 a c := fun k hk => (h k hk).trans (g k hk)
theorem CLaw.f0 {S T : Nat → Int32} {X Y : Nat → Nat → Int32} {lam : Nat} {row r : Nat → Int32} {u : Nat} (h : CLaw S X lam row u) (hl : lam ≤ 1) (hu : u ≤ 1) (hE : FrE T S) (hX : FrX 0 Y X) (hR : FR1 r row) : CLaw T Y lam r u :=
  h.st hu (hE _ (by omega) (by omega)) (hX _ (by omega) (by omega) (by omega)) (fun k hk => hR k (by omega))
theorem CR.dn {S T : Nat → Int32} {X Y : Nat → Nat → Int32} {P P' : Nat → Nat} {V row r w kept tried bf fd pk bo so sh mv tr : Nat → Int32} {nc np nw d nt nq : Nat} (hC : CR (S, X, P) (sR V row kept tried bf fd pk bo so sh mv tr)) (hR : RKx row nc np nw d nt nq) (hG : CF T Y 0 r w nc np) (hz : T 2 = r 1) (hE : FrE T S) (hX : FrX 0 Y X) (hr : FR1 r row) : CR (T, Y, P') (sR V r kept tried bf fd pk bo so sh mv tr) := by
  obtain ⟨hI, hW, ⟨e0, hd⟩, ⟨e4, ht⟩, ⟨e5, hq⟩, hB⟩ := id hR
  obtain ⟨⟨e2, hc2, hc10⟩, ⟨e3, hn6⟩, ⟨e8, hw8⟩, -⟩ := id hI
  have hK : CK S X 0 row nw nt nq := by have h := hC.kp; rw [e8, e4, e5, tN_nI (by omega), tN_nI (by omega), tN_nI (by omega)] at h; exact h
  refine hC.nowx (fun k hk => hE k (by omega) (by omega)) (fun k hk => hX k (by omega) (by omega) (by omega)) ((hr 2 (by omega)).trans e2) ((hr 3 (by omega)).trans e3) ((hr 8 (by omega)).trans e8) ((hr 4 (by omega)).trans e4) ((hr 5 (by omega)).trans e5) ⟨hc10, hn6, hw8, ht, hq⟩ hG.slf ?_ (hC.l0.f0 (by omega) (by omega) hE hX hr) (hC.l1.f0 (by omega) (by omega) hE hX hr)
  refine ⟨?_, hz, fun j hj i hi => ?_, ?_, fun i hi => ?_, ?_, fun i hi => ?_⟩
  · rw [hE _ (by omega) (by omega), hr 8 (by omega)]; exact hK.wrongs
  · rw [hX _ (by omega) (by omega) (by omega), hr _ (by omega)]; exact hK.wr j hj i hi
  · rw [hE _ (by omega) (by omega), hr 4 (by omega)]; exact hK.tsz
  · rw [hX _ (by omega) (by omega) (by omega), hr _ (by omega)]; exact hK.tape i hi
  · rw [hE _ (by omega) (by omega), hr 5 (by omega)]; exact hK.qsz
  · rw [hX _ (by omega) (by omega) (by omega), hr _ (by omega)]; exact hK.wait i hi
theorem losG_FR1 (row : Nat → Int32) {np : Nat} (hn : np ≤ 6) : FR1 (losG np row) row := by
  intro k hk
  unfold losG
  by_cases e : np = 0
  · rw [if_pos e]
  · rw [if_neg e]
    obtain ⟨j, hj, ej⟩ := drw_lt row (b := np) (by omega) (by omega)
    rw [ej, tN_nI (by omega), pk_un (by omega)]
    unfold drwF
    rw [pk_un (by omega), pk_un (by omega)]

theorem dX11_dawns_0 : decode cX11_dawns 0 = .ok (.iload_n 1, 1) := by decide +kernel
theorem dX11_dawns_1 : decode cX11_dawns 1 = .ok (.iconst 1, 1) := by decide +kernel
theorem dX11_dawns_2 : decode cX11_dawns 2 = .ok (.bipush 60, 2) := by decide +kernel
theorem dX11_dawns_4 : decode cX11_dawns 4 = .ok (.invokestatic 86, 3) := by decide +kernel
theorem dX11_dawns_7 : decode cX11_dawns 7 = .ok (.ifCond .ne 9, 3) := by decide +kernel
theorem dX11_dawns_10 : decode cX11_dawns 10 = .ok (.aload_n 0, 1) := by decide +kernel
theorem dX11_dawns_11 : decode cX11_dawns 11 = .ok (.iconst 1, 1) := by decide +kernel
theorem dX11_dawns_12 : decode cX11_dawns 12 = .ok (.invokevirtual 90, 3) := by decide +kernel
theorem dX11_dawns_15 : decode cX11_dawns 15 = .ok (.ireturn, 1) := by decide +kernel
theorem dX11_dawns_16 : decode cX11_dawns 16 = .ok (.aload_n 0, 1) := by decide +kernel
theorem dX11_dawns_17 : decode cX11_dawns 17 = .ok (.getfield 75, 3) := by decide +kernel
theorem dX11_dawns_20 : decode cX11_dawns 20 = .ok (.getfield 94, 3) := by decide +kernel
theorem dX11_dawns_23 : decode cX11_dawns 23 = .ok (.getfield 212, 3) := by decide +kernel
theorem dX11_dawns_26 : decode cX11_dawns 26 = .ok (.iload_n 1, 1) := by decide +kernel
theorem dX11_dawns_27 : decode cX11_dawns 27 = .ok (.iadd, 1) := by decide +kernel
theorem dX11_dawns_28 : decode cX11_dawns 28 = .ok (.sipush 9999, 3) := by decide +kernel
theorem dX11_dawns_31 : decode cX11_dawns 31 = .ok (.if_icmp .le 9, 3) := by decide +kernel
theorem dX11_dawns_34 : decode cX11_dawns 34 = .ok (.aload_n 0, 1) := by decide +kernel
theorem dX11_dawns_35 : decode cX11_dawns 35 = .ok (.iconst 3, 1) := by decide +kernel
theorem dX11_dawns_36 : decode cX11_dawns 36 = .ok (.invokevirtual 90, 3) := by decide +kernel
theorem dX11_dawns_39 : decode cX11_dawns 39 = .ok (.ireturn, 1) := by decide +kernel
theorem dX11_dawns_40 : decode cX11_dawns 40 = .ok (.aload_n 0, 1) := by decide +kernel
theorem dX11_dawns_41 : decode cX11_dawns 41 = .ok (.getfield 75, 3) := by decide +kernel
theorem dX11_dawns_44 : decode cX11_dawns 44 = .ok (.aload_n 0, 1) := by decide +kernel
theorem dX11_dawns_45 : decode cX11_dawns 45 = .ok (.getfield 75, 3) := by decide +kernel
theorem dX11_dawns_48 : decode cX11_dawns 48 = .ok (.getfield 94, 3) := by decide +kernel
theorem dX11_dawns_51 : decode cX11_dawns 51 = .ok (.iconst 0, 1) := by decide +kernel
theorem dX11_dawns_52 : decode cX11_dawns 52 = .ok (.invokevirtual 126, 3) := by decide +kernel
theorem dX11_dawns_55 : decode cX11_dawns 55 = .ok (.iconst 0, 1) := by decide +kernel
theorem dX11_dawns_56 : decode cX11_dawns 56 = .ok (.istore_n 2, 1) := by decide +kernel
theorem dX11_dawns_57 : decode cX11_dawns 57 = .ok (.iload_n 2, 1) := by decide +kernel
theorem dX11_dawns_58 : decode cX11_dawns 58 = .ok (.iload_n 1, 1) := by decide +kernel
theorem dX11_dawns_59 : decode cX11_dawns 59 = .ok (.if_icmp .ge 19, 3) := by decide +kernel
theorem dX11_dawns_62 : decode cX11_dawns 62 = .ok (.aload_n 0, 1) := by decide +kernel
theorem dX11_dawns_63 : decode cX11_dawns 63 = .ok (.getfield 75, 3) := by decide +kernel
theorem dX11_dawns_66 : decode cX11_dawns 66 = .ok (.getfield 94, 3) := by decide +kernel
theorem dX11_dawns_69 : decode cX11_dawns 69 = .ok (.invokevirtual 215, 3) := by decide +kernel
theorem dX11_dawns_72 : decode cX11_dawns 72 = .ok (.iinc 2 1, 3) := by decide +kernel
theorem dX11_dawns_75 : decode cX11_dawns 75 = .ok (.goto (-18), 3) := by decide +kernel
theorem dX11_dawns_78 : decode cX11_dawns 78 = .ok (.aload_n 0, 1) := by decide +kernel
theorem dX11_dawns_79 : decode cX11_dawns 79 = .ok (.getfield 75, 3) := by decide +kernel
theorem dX11_dawns_82 : decode cX11_dawns 82 = .ok (.getfield 94, 3) := by decide +kernel
theorem dX11_dawns_85 : decode cX11_dawns 85 = .ok (.invokevirtual 218, 3) := by decide +kernel
theorem dX11_dawns_88 : decode cX11_dawns 88 = .ok (.ireturn, 1) := by decide +kernel
set_option maxHeartbeats 2000000 in
set_option maxRecDepth 20000 in
theorem k_dawns {l : Launch} {D : va_G} {cI cG cW : ClassId} {q : Nat → Nat} {S : Nat → Int32} {X : Nat → Nat → Int32} {P : Nat → Nat} {n : Int32} {V row kept tried bf fd pk bo so sh mv tr : Nat → Int32} {nc np nw d nt nq : Nat} (hR : RKx row nc np nw d nt nq) (hC : CR (S, X, P) (sR V row kept tried bf fd pk bo so sh mv tr)) (hV15 : V 15 = 0) (hV16 : V 16 = -1) (hV18 : V 18 = -1) : Ci l yX11_dawns cX11_dawns 3 (some .int) 9 D (tyL cI cG cW) (wC cI cG cW q) [.ref (q 0), .int n] (S, X, P) (fun r τ => r = (sp_dawns V row kept tried bf fd pk bo so sh mv tr n).1 ∧ CR τ (sp_dawns V row kept tried bf fd pk bo so sh mv tr n).2) := by
  refine Ci.of (by decide) (Nat.le_of_ble_eq_true rfl) ?_
  intro p_ e_ s_ m_ b_ M_ c_ A_ C
  replace C : Cx _ _ _ _ _ _ _ _ RX11 _ _ _ _ := C
  refine j_L [0, 1] [(0, .ref (q 0)), (1, .int n)] rfl ?_
  obtain ⟨hI, hW, ⟨e0, hd⟩, ⟨e4, ht⟩, ⟨e5, hq⟩, hB⟩ := id hR
  obtain ⟨⟨e2, hc2, hc10⟩, ⟨e3, hn6⟩, ⟨e8, hw8⟩, hP, hE, hLo, hT0, hT1⟩ := id hI
  have hIc := hI
  have hF : CF S X 0 row (X 44) nc np := by have h := hC.fld; rw [e2, e3, tN_nI (by omega), tN_nI (by omega)] at h; exact h
  have hK : CK S X 0 row nw nt nq := by have h := hC.kp; rw [e8, e4, e5, tN_nI (by omega), tN_nI (by omega), tN_nI (by omega)] at h; exact h
  have hS1 : S 1 = row 8 := hK.wrongs
  have hS5 : S 5 = row 2 := hF.cells
  have hS7 : S 7 = row 3 := hF.people
  refine j_iload_n C 1 dX11_dawns_0 rfl ?_
  refine j_iconst C (v := (nI 1)) dX11_dawns_1 (by decide) ?_
  refine j_bipush C (v := (nI 60)) dX11_dawns_2 (by decide) ?_
  refine j_callS (As := [.int n, .int (nI 1), .int (nI 60)]) (rest := []) C sw11_86 (h_within) rfl (Nat.le_of_ble_eq_true rfl) dX11_dawns_4 (by decide) ?_
  rintro _ _ ⟨rfl, rfl⟩
  refine j_if_ne C 16 dX11_dawns_7 (by decide) (fun c7 => ?_) (fun c7 => ?_)
  · replace c7 := bI_t c7
    obtain ⟨nn, gnn, hnn, rfl⟩ := inn_lit c7 (by omega)
    refine j_aload_n C 0 dX11_dawns_16 rfl ?_
    refine j_get C (v := .ref (q 1)) 0 1 rfl rfl inlC11 (by decide) kf11_75 rfl dX11_dawns_17 ?_
    refine j_getN C (v := .ref (q 3)) 1 0 rfl rfl inlC3 (by decide) kf11_94 rfl dX11_dawns_20 ?_
    refine j_getN C (v := .int (S 6)) 3 3 rfl rfl inlC1 (by decide) kf11_212 rfl dX11_dawns_23 ?_
    refine j_v (row 0) hF.dawn ?_
    refine j_iload_n C 1 dX11_dawns_26 rfl ?_
    refine j_iadd C dX11_dawns_27 ?_
    refine j_sipush C (v := (nI 9999)) dX11_dawns_28 (by decide) ?_
    refine j_icmp_le C 40 dX11_dawns_31 (by decide) (fun c31 => ?_) (fun c31 => ?_)
    · skip
      refine j_aload_n C 0 dX11_dawns_40 rfl ?_
      refine j_get C (v := .ref (q 1)) 0 1 rfl rfl inlC11 (by decide) kf11_75 rfl dX11_dawns_41 ?_
      refine j_aload_n C 0 dX11_dawns_44 rfl ?_
      refine j_get C (v := .ref (q 1)) 0 1 rfl rfl inlC11 (by decide) kf11_75 rfl dX11_dawns_45 ?_
      refine j_getN C (v := .ref (q 3)) 1 0 rfl rfl inlC3 (by decide) kf11_94 rfl dX11_dawns_48 ?_
      refine j_iconst C (v := (nI 0)) dX11_dawns_51 (by decide) ?_
      refine j_callVNv (As := [.ref (q 3), .int (nI 0)]) (rest := []) C vn11_126 (h_weigh_0 hF hI hK hW 0 (by omega)) ⟨1, 3, _, _, rfl, rfl, rfl⟩ rfl (Nat.le_of_ble_eq_true rfl) dX11_dawns_52 (by decide) ?_
      rintro _ ⟨g, rfl, hg⟩
      have hG0 : CF S (va_up X 44 g) 0 row (wv V row nw) nc np := hF.setW (fun p hp => (hg p hp).trans (wt_wv (nw := nw) hV15 hV16 hV18 hn6 p hp))
      refine j_iconst C (v := (nI 0)) dX11_dawns_55 (by decide) ?_
      refine j_istore_n C [(2, .int (nI 0)), (0, .ref (q 0)), (1, .int (nI nn))] dX11_dawns_56 (by decide) rfl ?_
      refine j_L [1, 2, 0] [(0, .ref (q 0)), (1, .int (nI nn)), (2, .int (nI 0))] rfl ?_
      refine j_loop (X := Nat × (Nat → Int32) × (Nat → Nat → Int32)) (fun (z : Nat × (Nat → Int32) × (Nat → Nat → Int32)) => match z with | (i, T, Y) => i ≤ nn ∧ CF T Y 0 (dawnsF np (wv V row nw) row i) (wv V row nw) nc np ∧ T 2 = dawnsF np (wv V row nw) row i 1 ∧ FrE T S ∧ FrX 0 Y X) (fun (z : Nat × (Nat → Int32) × (Nat → Nat → Int32)) => match z with | (i, T, Y) => nn - i) (fun (z : Nat × (Nat → Int32) × (Nat → Nat → Int32)) => match z with | (i, T, Y) => (T, Y, P)) (fun (z : Nat × (Nat → Int32) × (Nat → Nat → Int32)) => match z with | (i, T, Y) => [(0, .ref (q 0)), (1, .int (nI nn)), (2, .int (nI i))]) (0, S, va_up X 44 g) (⟨Nat.zero_le _, hG0, hK.z, fun _ _ _ => rfl, FrX.rf.up (by omega)⟩) rfl rfl ?_
      rintro ⟨i, T, Y⟩ ⟨hi, hG, hz, hE, hX⟩ ih
      try dsimp only at ih ⊢
      have hIF := dawns_IF (wv V row nw) hI i
      refine j_iload_n C 2 dX11_dawns_57 rfl ?_
      refine j_iload_n C 1 dX11_dawns_58 rfl ?_
      refine j_icmp_ge C 78 dX11_dawns_59 (by decide) (fun c59 => ?_) (fun c59 => ?_)
      · rw [nI_leI (by omega) (by omega)] at c59
        refine j_aload_n C 0 dX11_dawns_78 rfl ?_
        refine j_get C (v := .ref (q 1)) 0 1 rfl rfl inlC11 (by decide) kf11_75 rfl dX11_dawns_79 ?_
        refine j_getN C (v := .ref (q 3)) 1 0 rfl rfl inlC3 (by decide) kf11_94 rfl dX11_dawns_82 ?_
        refine j_callVN (As := []) (rest := []) C vn11_218 (h_allBags_0 hG (hIF.1.2.1.1) hn6) ⟨3, 1, _, _, rfl, rfl, rfl⟩ rfl (Nat.le_of_ble_eq_true rfl) dX11_dawns_85 (by decide) ?_
        rintro _ _ ⟨rfl, rfl⟩
        refine j_iret C dX11_dawns_88 ?_
        unfold sp_dawns
        rw [if_pos c7, if_pos c31, tN_nI (n := nn) (by omega), dw_eq e3 e8 hn6 hw8, e3, tN_nI (n := np) (by omega), show nn = i by omega]
        exact ⟨rfl, hC.dn hR hG hz hE hX hIF.2.one⟩
      · rw [nI_leI (by omega) (by omega)] at c59
        refine j_aload_n C 0 dX11_dawns_62 rfl ?_
        refine j_get C (v := .ref (q 1)) 0 1 rfl rfl inlC11 (by decide) kf11_75 rfl dX11_dawns_63 ?_
        refine j_getN C (v := .ref (q 3)) 1 0 rfl rfl inlC3 (by decide) kf11_94 rfl dX11_dawns_66 ?_
        refine j_callVNv (As := []) (rest := []) C vn11_215 (h_pass_0 hG hIF.1 (hC.l0.f0 (by omega) (by omega) hE hX hIF.2.one) (hC.l1.f0 (by omega) (by omega) hE hX hIF.2.one)) ⟨3, 1, _, _, rfl, rfl, rfl⟩ rfl (Nat.le_of_ble_eq_true rfl) dX11_dawns_69 (by decide) ?_
        rintro _ ⟨T1, Y1, rfl, hG1, hD1, hX1, -⟩
        refine j_iinc C (v := (nI (i + 1))) 2 [(2, .int (nI (i + 1))), (0, .ref (q 0)), (1, .int (nI nn))] dX11_dawns_72 rfl (nI_1 _) (by decide) rfl ?_
        refine j_goto C 57 dX11_dawns_75 (by decide) ?_
        refine j_L [1, 2, 0] [(0, .ref (q 0)), (1, .int (nI nn)), (2, .int (nI (i + 1)))] rfl ?_
        exact ih (i + 1, T1, Y1) (⟨by dsimp only; omega, hG1, by dsimp only; rw [hD1 2 (by omega), hz]; exact ((dawns_IF (wv V row nw) hI (i + 1)).2 1 (by omega)).symm ▸ (hIF.2 1 (by omega)), fun k a b => (hD1 k a).trans (hE k a b), hX1.tr hX⟩) (by dsimp only; omega)
    · skip
      refine j_aload_n C 0 dX11_dawns_34 rfl ?_
      refine j_iconst C (v := (nI 3)) dX11_dawns_35 (by decide) ?_
      refine j_callV (As := [.int (nI 3)]) (rest := []) C vw11_90 (h_error 3 (by decide)) ⟨0, 11, _, _, rfl, rfl, rfl⟩ rfl (Nat.le_of_ble_eq_true rfl) dX11_dawns_36 (by decide) ?_
      rintro _ _ ⟨rfl, rfl⟩
      refine j_iret C dX11_dawns_39 ?_
      unfold sp_dawns
      rw [if_pos c7, if_neg c31]
      exact ⟨show (-1000000000 : Int32) - nI 3 = -1000000003 from by decide, hC.er 3⟩
  · replace c7 := bI_f c7
    refine j_aload_n C 0 dX11_dawns_10 rfl ?_
    refine j_iconst C (v := (nI 1)) dX11_dawns_11 (by decide) ?_
    refine j_callV (As := [.int (nI 1)]) (rest := []) C vw11_90 (h_error 1 (by decide)) ⟨0, 11, _, _, rfl, rfl, rfl⟩ rfl (Nat.le_of_ble_eq_true rfl) dX11_dawns_12 (by decide) ?_
    rintro _ _ ⟨rfl, rfl⟩
    refine j_iret C dX11_dawns_15 ?_
    unfold sp_dawns
    rw [if_neg c7]
    exact ⟨show (-1000000000 : Int32) - nI 1 = -1000000001 from by decide, hC.er 1⟩
theorem dX11_loose_0 : decode cX11_loose 0 = .ok (.iload_n 1, 1) := by decide +kernel
theorem dX11_loose_1 : decode cX11_loose 1 = .ok (.iconst 1, 1) := by decide +kernel
theorem dX11_loose_2 : decode cX11_loose 2 = .ok (.bipush 40, 2) := by decide +kernel
theorem dX11_loose_4 : decode cX11_loose 4 = .ok (.invokestatic 86, 3) := by decide +kernel
theorem dX11_loose_7 : decode cX11_loose 7 = .ok (.ifCond .ne 9, 3) := by decide +kernel
theorem dX11_loose_10 : decode cX11_loose 10 = .ok (.aload_n 0, 1) := by decide +kernel
theorem dX11_loose_11 : decode cX11_loose 11 = .ok (.iconst 1, 1) := by decide +kernel
theorem dX11_loose_12 : decode cX11_loose 12 = .ok (.invokevirtual 90, 3) := by decide +kernel
theorem dX11_loose_15 : decode cX11_loose 15 = .ok (.ireturn, 1) := by decide +kernel
theorem dX11_loose_16 : decode cX11_loose 16 = .ok (.aload_n 0, 1) := by decide +kernel
theorem dX11_loose_17 : decode cX11_loose 17 = .ok (.getfield 75, 3) := by decide +kernel
theorem dX11_loose_20 : decode cX11_loose 20 = .ok (.getfield 94, 3) := by decide +kernel
theorem dX11_loose_23 : decode cX11_loose 23 = .ok (.getfield 212, 3) := by decide +kernel
theorem dX11_loose_26 : decode cX11_loose 26 = .ok (.iload_n 1, 1) := by decide +kernel
theorem dX11_loose_27 : decode cX11_loose 27 = .ok (.iadd, 1) := by decide +kernel
theorem dX11_loose_28 : decode cX11_loose 28 = .ok (.sipush 9999, 3) := by decide +kernel
theorem dX11_loose_31 : decode cX11_loose 31 = .ok (.if_icmp .le 9, 3) := by decide +kernel
theorem dX11_loose_34 : decode cX11_loose 34 = .ok (.aload_n 0, 1) := by decide +kernel
theorem dX11_loose_35 : decode cX11_loose 35 = .ok (.iconst 3, 1) := by decide +kernel
theorem dX11_loose_36 : decode cX11_loose 36 = .ok (.invokevirtual 90, 3) := by decide +kernel
theorem dX11_loose_39 : decode cX11_loose 39 = .ok (.ireturn, 1) := by decide +kernel
theorem dX11_loose_40 : decode cX11_loose 40 = .ok (.aload_n 0, 1) := by decide +kernel
theorem dX11_loose_41 : decode cX11_loose 41 = .ok (.getfield 75, 3) := by decide +kernel
theorem dX11_loose_44 : decode cX11_loose 44 = .ok (.aload_n 0, 1) := by decide +kernel
theorem dX11_loose_45 : decode cX11_loose 45 = .ok (.getfield 75, 3) := by decide +kernel
theorem dX11_loose_48 : decode cX11_loose 48 = .ok (.getfield 94, 3) := by decide +kernel
theorem dX11_loose_51 : decode cX11_loose 51 = .ok (.iconst 0, 1) := by decide +kernel
theorem dX11_loose_52 : decode cX11_loose 52 = .ok (.invokevirtual 126, 3) := by decide +kernel
theorem dX11_loose_55 : decode cX11_loose 55 = .ok (.iconst 0, 1) := by decide +kernel
theorem dX11_loose_56 : decode cX11_loose 56 = .ok (.istore_n 2, 1) := by decide +kernel
theorem dX11_loose_57 : decode cX11_loose 57 = .ok (.iload_n 2, 1) := by decide +kernel
theorem dX11_loose_58 : decode cX11_loose 58 = .ok (.iload_n 1, 1) := by decide +kernel
theorem dX11_loose_59 : decode cX11_loose 59 = .ok (.if_icmp .ge 26, 3) := by decide +kernel
theorem dX11_loose_62 : decode cX11_loose 62 = .ok (.aload_n 0, 1) := by decide +kernel
theorem dX11_loose_63 : decode cX11_loose 63 = .ok (.getfield 75, 3) := by decide +kernel
theorem dX11_loose_66 : decode cX11_loose 66 = .ok (.invokevirtual 222, 3) := by decide +kernel
theorem dX11_loose_69 : decode cX11_loose 69 = .ok (.aload_n 0, 1) := by decide +kernel
theorem dX11_loose_70 : decode cX11_loose 70 = .ok (.getfield 75, 3) := by decide +kernel
theorem dX11_loose_73 : decode cX11_loose 73 = .ok (.getfield 94, 3) := by decide +kernel
theorem dX11_loose_76 : decode cX11_loose 76 = .ok (.invokevirtual 215, 3) := by decide +kernel
theorem dX11_loose_79 : decode cX11_loose 79 = .ok (.iinc 2 1, 3) := by decide +kernel
theorem dX11_loose_82 : decode cX11_loose 82 = .ok (.goto (-25), 3) := by decide +kernel
theorem dX11_loose_85 : decode cX11_loose 85 = .ok (.aload_n 0, 1) := by decide +kernel
theorem dX11_loose_86 : decode cX11_loose 86 = .ok (.getfield 75, 3) := by decide +kernel
theorem dX11_loose_89 : decode cX11_loose 89 = .ok (.getfield 94, 3) := by decide +kernel
theorem dX11_loose_92 : decode cX11_loose 92 = .ok (.invokevirtual 218, 3) := by decide +kernel
theorem dX11_loose_95 : decode cX11_loose 95 = .ok (.ireturn, 1) := by decide +kernel
set_option maxHeartbeats 2000000 in
set_option maxRecDepth 20000 in
theorem k_loose {l : Launch} {D : va_G} {cI cG cW : ClassId} {q : Nat → Nat} {S : Nat → Int32} {X : Nat → Nat → Int32} {P : Nat → Nat} {n : Int32} {V row kept tried bf fd pk bo so sh mv tr : Nat → Int32} {nc np nw d nt nq : Nat} (hR : RKx row nc np nw d nt nq) (hC : CR (S, X, P) (sR V row kept tried bf fd pk bo so sh mv tr)) (hV15 : V 15 = 0) (hV16 : V 16 = -1) (hV18 : V 18 = -1) : Ci l yX11_loose cX11_loose 3 (some .int) 9 D (tyL cI cG cW) (wC cI cG cW q) [.ref (q 0), .int n] (S, X, P) (fun r τ => r = (sp_loose V row kept tried bf fd pk bo so sh mv tr n).1 ∧ CR τ (sp_loose V row kept tried bf fd pk bo so sh mv tr n).2) := by
  refine Ci.of (by decide) (Nat.le_of_ble_eq_true rfl) ?_
  intro p_ e_ s_ m_ b_ M_ c_ A_ C
  replace C : Cx _ _ _ _ _ _ _ _ RX11 _ _ _ _ := C
  refine j_L [0, 1] [(0, .ref (q 0)), (1, .int n)] rfl ?_
  obtain ⟨hI, hW, ⟨e0, hd⟩, ⟨e4, ht⟩, ⟨e5, hq⟩, hB⟩ := id hR
  obtain ⟨⟨e2, hc2, hc10⟩, ⟨e3, hn6⟩, ⟨e8, hw8⟩, hP, hE, hLo, hT0, hT1⟩ := id hI
  have hIc := hI
  have hF : CF S X 0 row (X 44) nc np := by have h := hC.fld; rw [e2, e3, tN_nI (by omega), tN_nI (by omega)] at h; exact h
  have hK : CK S X 0 row nw nt nq := by have h := hC.kp; rw [e8, e4, e5, tN_nI (by omega), tN_nI (by omega), tN_nI (by omega)] at h; exact h
  have hS1 : S 1 = row 8 := hK.wrongs
  have hS5 : S 5 = row 2 := hF.cells
  have hS7 : S 7 = row 3 := hF.people
  refine j_iload_n C 1 dX11_loose_0 rfl ?_
  refine j_iconst C (v := (nI 1)) dX11_loose_1 (by decide) ?_
  refine j_bipush C (v := (nI 40)) dX11_loose_2 (by decide) ?_
  refine j_callS (As := [.int n, .int (nI 1), .int (nI 40)]) (rest := []) C sw11_86 (h_within) rfl (Nat.le_of_ble_eq_true rfl) dX11_loose_4 (by decide) ?_
  rintro _ _ ⟨rfl, rfl⟩
  refine j_if_ne C 16 dX11_loose_7 (by decide) (fun c7 => ?_) (fun c7 => ?_)
  · replace c7 := bI_t c7
    obtain ⟨nn, gnn, hnn, rfl⟩ := inn_lit c7 (by omega)
    refine j_aload_n C 0 dX11_loose_16 rfl ?_
    refine j_get C (v := .ref (q 1)) 0 1 rfl rfl inlC11 (by decide) kf11_75 rfl dX11_loose_17 ?_
    refine j_getN C (v := .ref (q 3)) 1 0 rfl rfl inlC3 (by decide) kf11_94 rfl dX11_loose_20 ?_
    refine j_getN C (v := .int (S 6)) 3 3 rfl rfl inlC1 (by decide) kf11_212 rfl dX11_loose_23 ?_
    refine j_v (row 0) hF.dawn ?_
    refine j_iload_n C 1 dX11_loose_26 rfl ?_
    refine j_iadd C dX11_loose_27 ?_
    refine j_sipush C (v := (nI 9999)) dX11_loose_28 (by decide) ?_
    refine j_icmp_le C 40 dX11_loose_31 (by decide) (fun c31 => ?_) (fun c31 => ?_)
    · skip
      refine j_aload_n C 0 dX11_loose_40 rfl ?_
      refine j_get C (v := .ref (q 1)) 0 1 rfl rfl inlC11 (by decide) kf11_75 rfl dX11_loose_41 ?_
      refine j_aload_n C 0 dX11_loose_44 rfl ?_
      refine j_get C (v := .ref (q 1)) 0 1 rfl rfl inlC11 (by decide) kf11_75 rfl dX11_loose_45 ?_
      refine j_getN C (v := .ref (q 3)) 1 0 rfl rfl inlC3 (by decide) kf11_94 rfl dX11_loose_48 ?_
      refine j_iconst C (v := (nI 0)) dX11_loose_51 (by decide) ?_
      refine j_callVNv (As := [.ref (q 3), .int (nI 0)]) (rest := []) C vn11_126 (h_weigh_0 hF hI hK hW 0 (by omega)) ⟨1, 3, _, _, rfl, rfl, rfl⟩ rfl (Nat.le_of_ble_eq_true rfl) dX11_loose_52 (by decide) ?_
      rintro _ ⟨g, rfl, hg⟩
      have hG0 : CF S (va_up X 44 g) 0 row (wv V row nw) nc np := hF.setW (fun p hp => (hg p hp).trans (wt_wv (nw := nw) hV15 hV16 hV18 hn6 p hp))
      refine j_iconst C (v := (nI 0)) dX11_loose_55 (by decide) ?_
      refine j_istore_n C [(2, .int (nI 0)), (0, .ref (q 0)), (1, .int (nI nn))] dX11_loose_56 (by decide) rfl ?_
      refine j_L [1, 2, 0] [(0, .ref (q 0)), (1, .int (nI nn)), (2, .int (nI 0))] rfl ?_
      refine j_loop (X := Nat × (Nat → Int32) × (Nat → Nat → Int32)) (fun (z : Nat × (Nat → Int32) × (Nat → Nat → Int32)) => match z with | (i, T, Y) => i ≤ nn ∧ CF T Y 0 (itN (fun _ r => losF V np nw r) i row) (wv V row nw) nc np ∧ T 2 = (itN (fun _ r => losF V np nw r) i row) 1 ∧ FrE T S ∧ FrX 0 Y X ∧ FR1 (itN (fun _ r => losF V np nw r) i row) row) (fun (z : Nat × (Nat → Int32) × (Nat → Nat → Int32)) => match z with | (i, T, Y) => nn - i) (fun (z : Nat × (Nat → Int32) × (Nat → Nat → Int32)) => match z with | (i, T, Y) => (T, Y, P)) (fun (z : Nat × (Nat → Int32) × (Nat → Nat → Int32)) => match z with | (i, T, Y) => [(0, .ref (q 0)), (1, .int (nI nn)), (2, .int (nI i))]) (0, S, va_up X 44 g) (⟨Nat.zero_le _, hG0, hK.z, fun _ _ _ => rfl, FrX.rf.up (by omega), fun _ _ => rfl⟩) rfl rfl ?_
      rintro ⟨i, T, Y⟩ ⟨hi, hG, hz, hE, hX, hR0⟩ ih
      try dsimp only at ih ⊢
      have hIF := loss_ok (V := V) hI i
      refine j_iload_n C 2 dX11_loose_57 rfl ?_
      refine j_iload_n C 1 dX11_loose_58 rfl ?_
      refine j_icmp_ge C 85 dX11_loose_59 (by decide) (fun c59 => ?_) (fun c59 => ?_)
      · rw [nI_leI (by omega) (by omega)] at c59
        refine j_aload_n C 0 dX11_loose_85 rfl ?_
        refine j_get C (v := .ref (q 1)) 0 1 rfl rfl inlC11 (by decide) kf11_75 rfl dX11_loose_86 ?_
        refine j_getN C (v := .ref (q 3)) 1 0 rfl rfl inlC3 (by decide) kf11_94 rfl dX11_loose_89 ?_
        refine j_callVN (As := []) (rest := []) C vn11_218 (h_allBags_0 hG (hIF.1.2.1.1) hn6) ⟨3, 1, _, _, rfl, rfl, rfl⟩ rfl (Nat.le_of_ble_eq_true rfl) dX11_loose_92 (by decide) ?_
        rintro _ _ ⟨rfl, rfl⟩
        refine j_iret C dX11_loose_95 ?_
        unfold sp_loose
        rw [if_pos c7, if_pos c31, tN_nI (n := nn) (by omega), e3, e8, tN_nI (n := np) (by omega), tN_nI (n := nw) (by omega), show nn = i by omega]
        exact ⟨rfl, hC.dn hR hG hz hE hX hR0⟩
      · rw [nI_leI (by omega) (by omega)] at c59
        refine j_aload_n C 0 dX11_loose_62 rfl ?_
        refine j_get C (v := .ref (q 1)) 0 1 rfl rfl inlC11 (by decide) kf11_75 rfl dX11_loose_63 ?_
        refine j_callVNv (As := []) (rest := []) C vn11_222 (h_drawWay hG hIF.1 hz) ⟨1, 3, _, _, rfl, rfl, rfl⟩ rfl (Nat.le_of_ble_eq_true rfl) dX11_loose_66 (by decide) ?_
        rintro _ ⟨T0, Y0, rfl, hG0, hz0, hE0, hX0⟩
        have hO := losG_ok (V := V) hIF.1
        have hE2 : FrE T0 S := fun k a b => (hE0 k b).trans (hE k a b)
        have hR1 : FR1 (losG np (itN (fun _ r => losF V np nw r) i row)) row := (losG_FR1 _ hn6).tr hR0
        refine j_aload_n C 0 dX11_loose_69 rfl ?_
        refine j_get C (v := .ref (q 1)) 0 1 rfl rfl inlC11 (by decide) kf11_75 rfl dX11_loose_70 ?_
        refine j_getN C (v := .ref (q 3)) 1 0 rfl rfl inlC3 (by decide) kf11_94 rfl dX11_loose_73 ?_
        refine j_callVNv (As := []) (rest := []) C vn11_215 (h_pass_0 hG0 hO.1 (hC.l0.f0 (by omega) (by omega) hE2 (hX0.tr hX) hR1) (hC.l1.f0 (by omega) (by omega) hE2 (hX0.tr hX) hR1)) ⟨3, 1, _, _, rfl, rfl, rfl⟩ rfl (Nat.le_of_ble_eq_true rfl) dX11_loose_76 (by decide) ?_
        rintro _ ⟨T1, Y1, rfl, hG1, hD1, hX1, -⟩
        refine j_iinc C (v := (nI (i + 1))) 2 [(2, .int (nI (i + 1))), (0, .ref (q 0)), (1, .int (nI nn))] dX11_loose_79 rfl (nI_1 _) (by decide) rfl ?_
        refine j_goto C 57 dX11_loose_82 (by decide) ?_
        refine j_L [1, 2, 0] [(0, .ref (q 0)), (1, .int (nI nn)), (2, .int (nI (i + 1)))] rfl ?_
        have hs : losF V np nw (itN (fun _ r => losF V np nw r) i row) = dawnF np (wv V row nw) (losG np (itN (fun _ r => losF V np nw r) i row)) := by rw [losF_eq, hIF.2]
        have hQ := (dawn_IF (wv V row nw) hO.1).2
        exact ih (i + 1, T1, Y1) (⟨by dsimp only; omega, by show CF T1 Y1 0 (losF V np nw (itN (fun _ r => losF V np nw r) i row)) _ nc np; rw [hs]; exact hG1, by show T1 2 = losF V np nw (itN (fun _ r => losF V np nw r) i row) 1; rw [hs, hD1 2 (by omega), hz0]; exact (hQ 1 (by omega)).symm, fun k a b => (hD1 k a).trans (hE2 k a b), hX1.tr (hX0.tr hX), by show FR1 (losF V np nw (itN (fun _ r => losF V np nw r) i row)) row; rw [hs]; exact hQ.one.tr hR1⟩) (by dsimp only; omega)
    · skip
      refine j_aload_n C 0 dX11_loose_34 rfl ?_
      refine j_iconst C (v := (nI 3)) dX11_loose_35 (by decide) ?_
      refine j_callV (As := [.int (nI 3)]) (rest := []) C vw11_90 (h_error 3 (by decide)) ⟨0, 11, _, _, rfl, rfl, rfl⟩ rfl (Nat.le_of_ble_eq_true rfl) dX11_loose_36 (by decide) ?_
      rintro _ _ ⟨rfl, rfl⟩
      refine j_iret C dX11_loose_39 ?_
      unfold sp_loose
      rw [if_pos c7, if_neg c31]
      exact ⟨show (-1000000000 : Int32) - nI 3 = -1000000003 from by decide, hC.er 3⟩
  · replace c7 := bI_f c7
    refine j_aload_n C 0 dX11_loose_10 rfl ?_
    refine j_iconst C (v := (nI 1)) dX11_loose_11 (by decide) ?_
    refine j_callV (As := [.int (nI 1)]) (rest := []) C vw11_90 (h_error 1 (by decide)) ⟨0, 11, _, _, rfl, rfl, rfl⟩ rfl (Nat.le_of_ble_eq_true rfl) dX11_loose_12 (by decide) ?_
    rintro _ _ ⟨rfl, rfl⟩
    refine j_iret C dX11_loose_15 ?_
    unfold sp_loose
    rw [if_neg c7]
    exact ⟨show (-1000000000 : Int32) - nI 1 = -1000000001 from by decide, hC.er 1⟩

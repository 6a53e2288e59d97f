/-! The class's public calls: forgive. -/
theorem forg_o {row : Nat → Int32} {w n k : Nat} (h : (k < 66 ∧ ¬ k = 8) ∨ 66 + 3 * (n - 1) ≤ k) : forgF row w n k = row k := by
  unfold forgF; rw [if_neg (by omega), if_neg (by omega)]
theorem forg_8 {row : Nat → Int32} {w n : Nat} (e : row 8 = nI n) (h : 1 ≤ n) : forgF row w n 8 = nI (n - 1) := by
  unfold forgF; rw [if_neg (by omega), if_pos rfl, e, pk_sub h]
theorem CK.drop {S : Nat → Int32} {X : Nat → Nat → Int32} {row : Nat → Int32} {nw nt nq w : Nat} (h : CK S X 0 row nw nt nq) (e8 : row 8 = nI nw) (hw : w < nw) (hn : nw ≤ 8) : CK (upd S 1 (nI (nw - 1))) (va_up (va_up (va_up X 66 (shF (X 66) w (nw - 1))) 67 (shF (X 67) w (nw - 1))) 68 (shF (X 68) w (nw - 1))) 0 (forgF row w nw) (nw - 1) nt nq := by
  have key : ∀ j, j < 3 → ∀ i, i < nw - 1 → shF (X (66 + j)) w (nw - 1) i = forgF row w nw (66 + 3 * i + j) := by
    intro j hj i hi
    unfold shF forgF
    by_cases g : w ≤ i
    · rw [if_pos ⟨g, hi⟩, if_pos (by omega), show 66 + 3 * i + j + 3 = 66 + 3 * (i + 1) + j by omega]; exact h.wr j hj (i + 1) (by omega)
    · rw [if_neg (fun h => g h.1), if_neg (by omega), if_neg (by omega)]; exact h.wr j hj i (by omega)
  refine ⟨?_, ?_, fun j hj i hi => ?_, ?_, fun i hi => ?_, ?_, fun i hi => ?_⟩
  · rw [pk_us, forg_8 e8 (by omega)]
  · rw [pk_un (by omega), forg_o (by omega)]; exact h.z
  · rw [← key j hj i hi]
    rcases (show j = 0 ∨ j = 1 ∨ j = 2 by omega) with rfl | rfl | rfl <;> rfl
  · rw [pk_un (by omega), forg_o (by omega)]; exact h.tsz
  · rw [va_n (by omega), va_n (by omega), va_n (by omega), forg_o (by omega)]; exact h.tape i hi
  · rw [pk_un (by omega), forg_o (by omega)]; exact h.qsz
  · rw [va_n (by omega), va_n (by omega), va_n (by omega), forg_o (by omega)]; exact h.wait i hi

theorem dX11_forgive_0 : decode cX11_forgive 0 = .ok (.aload_n 0, 1) := by decide +kernel
theorem dX11_forgive_1 : decode cX11_forgive 1 = .ok (.iload_n 1, 1) := by decide +kernel
theorem dX11_forgive_2 : decode cX11_forgive 2 = .ok (.invokevirtual 170, 3) := by decide +kernel
theorem dX11_forgive_5 : decode cX11_forgive 5 = .ok (.ifCond .ne 9, 3) := by decide +kernel
theorem dX11_forgive_8 : decode cX11_forgive 8 = .ok (.aload_n 0, 1) := by decide +kernel
theorem dX11_forgive_9 : decode cX11_forgive 9 = .ok (.iconst 1, 1) := by decide +kernel
theorem dX11_forgive_10 : decode cX11_forgive 10 = .ok (.invokevirtual 90, 3) := by decide +kernel
theorem dX11_forgive_13 : decode cX11_forgive 13 = .ok (.ireturn, 1) := by decide +kernel
theorem dX11_forgive_14 : decode cX11_forgive 14 = .ok (.aload_n 0, 1) := by decide +kernel
theorem dX11_forgive_15 : decode cX11_forgive 15 = .ok (.getfield 75, 3) := by decide +kernel
theorem dX11_forgive_18 : decode cX11_forgive 18 = .ok (.iload_n 1, 1) := by decide +kernel
theorem dX11_forgive_19 : decode cX11_forgive 19 = .ok (.invokevirtual 182, 3) := by decide +kernel
theorem dX11_forgive_22 : decode cX11_forgive 22 = .ok (.aload_n 0, 1) := by decide +kernel
theorem dX11_forgive_23 : decode cX11_forgive 23 = .ok (.getfield 75, 3) := by decide +kernel
theorem dX11_forgive_26 : decode cX11_forgive 26 = .ok (.getfield 164, 3) := by decide +kernel
theorem dX11_forgive_29 : decode cX11_forgive 29 = .ok (.ireturn, 1) := by decide +kernel
set_option maxHeartbeats 2000000 in
set_option maxRecDepth 20000 in
theorem k_forgive {l : Launch} {D : va_G} {cI cG cW : ClassId} {q : Nat → Nat} {S : Nat → Int32} {X : Nat → Nat → Int32} {P : Nat → Nat} {w : Int32} {V row kept tried bf fd pk bo so sh mv tr : Nat → Int32} {nc np nw d nt nq : Nat} (hR : RKx row nc np nw d nt nq) (hC : CR (S, X, P) (sR V row kept tried bf fd pk bo so sh mv tr)) : Ci l yX11_forgive cX11_forgive 2 (some .int) 3 D (tyL cI cG cW) (wC cI cG cW q) [.ref (q 0), .int w] (S, X, P) (fun r τ => r = (sp_forgive V row kept tried bf fd pk bo so sh mv tr w).1 ∧ CR τ (sp_forgive V row kept tried bf fd pk bo so sh mv tr w).2) := by
  refine Ci.of (by decide) (Nat.le_of_ble_eq_true rfl) ?_
  intro p_ e_ s_ m_ b_ M_ c_ A_ C
  replace C : Cx _ _ _ _ _ _ _ _ RX11 _ _ _ _ := C
  refine j_L [0, 1] [(0, .ref (q 0)), (1, .int w)] rfl ?_
  obtain ⟨hI, hW, ⟨e0, hd⟩, ⟨e4, ht⟩, ⟨e5, hq⟩, hB⟩ := id hR
  obtain ⟨⟨e2, hc2, hc10⟩, ⟨e3, hn6⟩, ⟨e8, hw8⟩, hP, hE, hLo, hT0, hT1⟩ := id hI
  have hIc := hI
  have hF : CF S X 0 row (X 44) nc np := by have h := hC.fld; rw [e2, e3, tN_nI (by omega), tN_nI (by omega)] at h; exact h
  have hK : CK S X 0 row nw nt nq := by have h := hC.kp; rw [e8, e4, e5, tN_nI (by omega), tN_nI (by omega), tN_nI (by omega)] at h; exact h
  have hS1 : S 1 = row 8 := hK.wrongs
  have hS5 : S 5 = row 2 := hF.cells
  have hS7 : S 7 = row 3 := hF.people
  refine j_aload_n C 0 dX11_forgive_0 rfl ?_
  refine j_iload_n C 1 dX11_forgive_1 rfl ?_
  refine j_callV (As := [.int w]) (rest := []) C vw11_170 (h_isWrong) ⟨0, 11, _, _, rfl, rfl, rfl⟩ rfl (Nat.le_of_ble_eq_true rfl) dX11_forgive_2 (by decide) ?_
  rintro _ _ ⟨rfl, rfl⟩
  refine j_v (bI (inn w 0 (row 8 - 1))) (by rw [hS1]) ?_
  refine j_if_ne C 14 dX11_forgive_5 (by decide) (fun c5 => ?_) (fun c5 => ?_)
  · replace c5 := bI_t c5
    obtain ⟨wi, hwi, rfl⟩ := inn_row c5 e8 (by omega)
    refine j_aload_n C 0 dX11_forgive_14 rfl ?_
    refine j_get C (v := .ref (q 1)) 0 1 rfl rfl inlC11 (by decide) kf11_75 rfl dX11_forgive_15 ?_
    refine j_iload_n C 1 dX11_forgive_18 rfl ?_
    refine j_callVNv (As := [.int (nI wi)]) (rest := []) C vn11_182 (h_dropWrong wi (hS1.trans e8) hwi hw8) ⟨1, 3, _, _, rfl, rfl, rfl⟩ rfl (Nat.le_of_ble_eq_true rfl) dX11_forgive_19 (by decide) ?_
    rintro _ rfl
    refine j_aload_n C 0 dX11_forgive_22 rfl ?_
    refine j_get C (v := .ref (q 1)) 0 1 rfl rfl inlC11 (by decide) kf11_75 rfl dX11_forgive_23 ?_
    refine j_getN C (v := .int (nI (nw - 1))) 1 1 rfl rfl inlC3 (by decide) kf11_164 rfl dX11_forgive_26 ?_
    refine j_iret C dX11_forgive_29 ?_
    unfold sp_forgive
    rw [if_pos c5, tN_nI (n := wi) (by omega), e8, tN_nI (n := nw) (by omega), pk_sub (by omega)]
    exact ⟨rfl, hC.nowx (fun k hk => pk_un (by omega)) (fun k hk => ((va_n (by omega)).trans ((va_n (by omega)).trans (va_n (by omega))))) ((forg_o (by omega)).trans e2) ((forg_o (by omega)).trans e3) (forg_8 e8 (by omega)) ((forg_o (by omega)).trans e4) ((forg_o (by omega)).trans e5) ⟨hc10, hn6, by omega, ht, hq⟩ (hF.cg (fun k _ _ => pk_un (by omega)) (fun k _ _ => ((va_n (by omega)).trans ((va_n (by omega)).trans (va_n (by omega))))) (fun _ _ => rfl) (fun k hk => forg_o (by omega)) hc10 hn6) (hK.drop e8 hwi hw8) (hC.l0.st (by omega) (pk_un (by omega)) ((va_n (by omega)).trans ((va_n (by omega)).trans (va_n (by omega)))) (fun k hk => forg_o (by omega))) (hC.l1.st (by omega) (pk_un (by omega)) ((va_n (by omega)).trans ((va_n (by omega)).trans (va_n (by omega)))) (fun k hk => forg_o (by omega)))⟩
  · replace c5 := bI_f c5
    refine j_aload_n C 0 dX11_forgive_8 rfl ?_
    refine j_iconst C (v := (nI 1)) dX11_forgive_9 (by decide) ?_
    refine j_callV (As := [.int (nI 1)]) (rest := []) C vw11_90 (h_error 1 (by decide)) ⟨0, 11, _, _, rfl, rfl, rfl⟩ rfl (Nat.le_of_ble_eq_true rfl) dX11_forgive_10 (by decide) ?_
    rintro _ _ ⟨rfl, rfl⟩
    refine j_iret C dX11_forgive_13 ?_
    unfold sp_forgive
    rw [if_neg c5]
    exact ⟨show (-1000000000 : Int32) - nI 1 = -1000000001 from by decide, hC.er 1⟩
theorem inn_c0 {x r : Int32} {n : Nat} (e : r = nI n) (hn : n < 2 ^ 30) : inn x 0 (r - 1) ↔ ¬ x < 0 ∧ ¬ r ≤ x := by
  subst e
  have h3 := pk_sub_toInt (a := n) (b := 1) hn (by omega)
  have h4 := nI_toInt (n := n) (by omega)
  have h0 : (0 : Int32).toInt = 0 := by decide
  constructor
  · rintro ⟨a, b⟩
    rw [Int32.le_iff_toInt_le] at a b
    rw [show (1 : Int32) = nI 1 from rfl, h3] at b
    rw [Int32.lt_iff_toInt_lt, Int32.le_iff_toInt_le]
    omega
  · rintro ⟨a, b⟩
    rw [Int32.lt_iff_toInt_lt] at a
    rw [Int32.le_iff_toInt_le] at b
    refine ⟨?_, ?_⟩
    · rw [Int32.le_iff_toInt_le]; omega
    · rw [Int32.le_iff_toInt_le, show (1 : Int32) = nI 1 from rfl, h3]; omega
theorem bI_c {p q : Prop} [Decidable p] [Decidable q] (h : p ↔ q) : bI p = bI q := by
  by_cases g : p
  · rw [show bI p = 1 from (bI1 g).symm]; exact bI1 (h.1 g)
  · rw [show bI p = 0 from (bI0 g).symm]; exact bI0 (fun k => g (h.2 k))
theorem dX11_trace_0 : decode cX11_trace 0 = .ok (.aload_n 0, 1) := by decide +kernel
theorem dX11_trace_1 : decode cX11_trace 1 = .ok (.getfield 21, 3) := by decide +kernel
theorem dX11_trace_4 : decode cX11_trace 4 = .ok (.iload_n 1, 1) := by decide +kernel
theorem dX11_trace_5 : decode cX11_trace 5 = .ok (.invokevirtual 278, 3) := by decide +kernel
theorem dX11_trace_8 : decode cX11_trace 8 = .ok (.ifCond .eq 15, 3) := by decide +kernel
theorem dX11_trace_11 : decode cX11_trace 11 = .ok (.aload_n 0, 1) := by decide +kernel
theorem dX11_trace_12 : decode cX11_trace 12 = .ok (.getfield 21, 3) := by decide +kernel
theorem dX11_trace_15 : decode cX11_trace 15 = .ok (.getfield 281, 3) := by decide +kernel
theorem dX11_trace_18 : decode cX11_trace 18 = .ok (.iload_n 1, 1) := by decide +kernel
theorem dX11_trace_19 : decode cX11_trace 19 = .ok (.iaload, 1) := by decide +kernel
theorem dX11_trace_20 : decode cX11_trace 20 = .ok (.goto 8, 3) := by decide +kernel
theorem dX11_trace_23 : decode cX11_trace 23 = .ok (.aload_n 0, 1) := by decide +kernel
theorem dX11_trace_24 : decode cX11_trace 24 = .ok (.iconst 2, 1) := by decide +kernel
theorem dX11_trace_25 : decode cX11_trace 25 = .ok (.invokevirtual 90, 3) := by decide +kernel
theorem dX11_trace_28 : decode cX11_trace 28 = .ok (.ireturn, 1) := by decide +kernel
set_option maxHeartbeats 2000000 in
set_option maxRecDepth 20000 in
theorem k_trace {l : Launch} {D : va_G} {cI cG cW : ClassId} {q : Nat → Nat} {S : Nat → Int32} {X : Nat → Nat → Int32} {P : Nat → Nat} {i : Int32} {V row kept tried bf fd pk bo so sh mv tr : Nat → Int32} {nc np nw d nt nq : Nat} (hR : RKx row nc np nw d nt nq) (hC : CR (S, X, P) (sR V row kept tried bf fd pk bo so sh mv tr)) {tn : Nat} (e26 : V 26 = nI tn) (h26 : tn ≤ 40) : Ci l yX11_trace cX11_trace 2 (some .int) 3 D (tyL cI cG cW) (wC cI cG cW q) [.ref (q 0), .int i] (S, X, P) (fun r τ => r = (sp_trace V row kept tried bf fd pk bo so sh mv tr i).1 ∧ CR τ (sp_trace V row kept tried bf fd pk bo so sh mv tr i).2) := by
  refine Ci.of (by decide) (Nat.le_of_ble_eq_true rfl) ?_
  intro p_ e_ s_ m_ b_ M_ c_ A_ C
  replace C : Cx _ _ _ _ _ _ _ _ RX11 _ _ _ _ := C
  refine j_L [0, 1] [(0, .ref (q 0)), (1, .int i)] rfl ?_
  obtain ⟨hI, hW, ⟨e0, hd⟩, ⟨e4, ht⟩, ⟨e5, hq⟩, hB⟩ := id hR
  obtain ⟨⟨e2, hc2, hc10⟩, ⟨e3, hn6⟩, ⟨e8, hw8⟩, hP, hE, hLo, hT0, hT1⟩ := id hI
  have hIc := hI
  have hF : CF S X 0 row (X 44) nc np := by have h := hC.fld; rw [e2, e3, tN_nI (by omega), tN_nI (by omega)] at h; exact h
  have hK : CK S X 0 row nw nt nq := by have h := hC.kp; rw [e8, e4, e5, tN_nI (by omega), tN_nI (by omega), tN_nI (by omega)] at h; exact h
  have hS1 : S 1 = row 8 := hK.wrongs
  have hS5 : S 5 = row 2 := hF.cells
  have hS7 : S 7 = row 3 := hF.people
  refine j_aload_n C 0 dX11_trace_0 rfl ?_
  refine j_get C (v := .ref (q 20)) 0 5 rfl rfl inlC11 (by decide) kf11_21 rfl dX11_trace_1 ?_
  refine j_iload_n C 1 dX11_trace_4 rfl ?_
  refine j_callVN (As := [.int i]) (rest := []) C vn11_278 (h_has_9) ⟨20, 8, _, _, rfl, rfl, rfl⟩ rfl (Nat.le_of_ble_eq_true rfl) dX11_trace_5 (by decide) ?_
  rintro _ _ ⟨rfl, rfl⟩
  refine j_v (bI (inn i (nI 0) (V 26 - nI 1))) (by rw [show S 28 = V 26 from hC.bsz]; exact bI_c (inn_c0 e26 (by omega)).symm) ?_
  refine j_if_eq C 23 dX11_trace_8 (by decide) (fun c8 => ?_) (fun c8 => ?_)
  · replace c8 := bI_f c8
    refine j_aload_n C 0 dX11_trace_23 rfl ?_
    refine j_iconst C (v := (nI 2)) dX11_trace_24 (by decide) ?_
    refine j_callV (As := [.int (nI 2)]) (rest := []) C vw11_90 (h_error 2 (by decide)) ⟨0, 11, _, _, rfl, rfl, rfl⟩ rfl (Nat.le_of_ble_eq_true rfl) dX11_trace_25 (by decide) ?_
    rintro _ _ ⟨rfl, rfl⟩
    refine j_iret C dX11_trace_28 ?_
    unfold sp_trace
    rw [if_neg c8]
    exact ⟨show (-1000000000 : Int32) - nI 2 = -1000000002 from by decide, hC.er 2⟩
  · replace c8 := bI_t c8
    obtain ⟨xn, hxn, rfl⟩ := inn_row (n := tn) c8 e26 (by omega)
    refine j_aload_n C 0 dX11_trace_11 rfl ?_
    refine j_get C (v := .ref (q 20)) 0 5 rfl rfl inlC11 (by decide) kf11_21 rfl dX11_trace_12 ?_
    refine j_getN C (v := .ref (q 81)) 20 0 rfl rfl inlC8 (by decide) kf11_281 rfl dX11_trace_15 ?_
    refine j_iload_n C 1 dX11_trace_18 rfl ?_
    refine j_ialdN C 81 0 rfl rfl xn rfl (by omega) (by decide) dX11_trace_19 ?_
    refine j_v (tr xn) (hC.bod xn (by rw [e26, tN_nI (by omega)]; exact hxn)) ?_
    refine j_goto C 28 dX11_trace_20 (by decide) ?_
    refine j_iret C dX11_trace_28 ?_
    unfold sp_trace
    rw [if_pos c8, tN_nI (n := xn) (by omega)]
    exact ⟨rfl, hC⟩

/-! The class's public calls: then, upright, adds, starves, odds. -/
theorem upr_iff {V row : Nat → Int32} {np nw n : Nat} (e3 : row 3 = nI np) (e8 : row 8 = nI nw) (hn : np ≤ 6) (hw : nw ≤ 8) : uprQ V row n ↔ ¬ ∀ p, p < np → ¬ row (30 + 6 * p + 5) < dawnsF np (wv V row nw) row n (30 + 6 * p + 5) := by
  show (¬ ∀ p, p < tN (row 3) → ¬ row (30 + 6 * p + 5) < dwF V row n (30 + 6 * p + 5)) ↔ _
  rw [dw_eq e3 e8 hn hw, e3, tN_nI (by omega)]
theorem hg_iff {V row : Nat → Int32} {np nw n p : Nat} (e3 : row 3 = nI np) (e8 : row 8 = nI nw) (hn : np ≤ 6) (hw : nw ≤ 8) : hgP V row n p ↔ row (30 + 6 * p + 5) < dawnsF np (wv V row nw) row n (30 + 6 * p + 5) := by
  show row (30 + 6 * p + 5) < dwF V row n (30 + 6 * p + 5) ↔ _
  rw [dw_eq e3 e8 hn hw]
theorem add_w {V row g : Nat → Int32} {nw np pn b : Nat} (h15 : V 15 = 0) (h16 : V 16 = -1) (h18 : V 18 = -1) (hn : np ≤ 6) (hpn : pn < np) (hg : ∀ p, p < np → g p = wtF row nw (nI 0) p) : ∀ p, p < np → upd g pn (wtF row nw (nI 0) pn + nI b) p = wv (addV V pn b) row nw p := by
  intro p hp
  have a18 : addV V pn b 18 = -1 := by show upd (upd V 16 (nI pn)) 17 (nI b) 18 = _; rw [pk_un (by omega), pk_un (by omega), h18]
  have a15 : addV V pn b 15 = 0 := by show upd (upd V 16 (nI pn)) 17 (nI b) 15 = _; rw [pk_un (by omega), pk_un (by omega), h15]
  have a16 : addV V pn b 16 = nI pn := by show upd (upd V 16 (nI pn)) 17 (nI b) 16 = _; rw [pk_un (by omega), pk_us]
  have a17 : addV V pn b 17 = nI b := pk_us
  by_cases e : p = pn
  · subst e
    rw [pk_us]
    unfold wv wS wtF bdF
    rw [a18, a16, a15, a17, if_neg (nI_m1 (by omega)), if_pos rfl, sumW_s row 0 p (nI b) nw]
    by_cases k : row (30 + 6 * p + 0) = nI 6
    · rw [if_pos k, if_pos k]; exact add_rc _ _ _
    · rw [if_neg k, if_neg k]; exact congrArg (· + nI b) (Int32.add_zero _)
  · rw [pk_un e, hg p hp, wv_wt (V := addV V pn b) (by rw [a18]; exact nI_m1 (by omega)) (by rw [a16, nI_eq (by omega) (by omega)]; exact e), a15]; rfl
theorem db_N (row : Nat → Int32) (c : Int32) (n : Nat) (hn : n ≤ 8) : dbF row c n = nI (setN (fun w => row (66 + 3 * w) = c) n) := by
  induction n with
  | zero => rfl
  | succ n ih =>
    have hl := setN_lt (fun w => row (66 + 3 * w) = c) n
    have h2 : 2 ^ n ≤ 2 ^ 7 := Nat.pow_le_pow_right (by omega) (by omega)
    unfold dbF setN
    rw [ih (by omega)]
    by_cases e : row (66 + 3 * n) = c
    · rw [if_pos e, if_pos e]; exact bit_or n (by omega) _ hl
    · rw [if_neg e, if_neg e]; exact bit_z _ (by omega)
theorem msk_db (row : Nat → Int32) (p n : Nat) : mskF row p n = dbF row (nI p) n := by
  induction n with
  | zero => rfl
  | succ n ih => unfold mskF dbF; rw [ih]
theorem db_nI (row : Nat → Int32) (c : Int32) {n : Nat} (hn : n ≤ 8) : ∃ s, s < 256 ∧ dbF row c n = nI s := by
  have hl := setN_lt (fun w => row (66 + 3 * w) = c) n
  have h2 : 2 ^ n ≤ 2 ^ 8 := Nat.pow_le_pow_right (by omega) (by omega)
  exact ⟨_, by omega, db_N row c n hn⟩
theorem bit_nI (i : Nat) (h : i < 8) : ∃ s, s < 256 ∧ nI 1 <<< (nI i &&& 31) = nI s := by
  have h2 : 2 ^ i ≤ 2 ^ 7 := Nat.pow_le_pow_right (by omega) (by omega)
  exact ⟨2 ^ i, by omega, pow_ok i (by omega)⟩
theorem bit_and : ∀ p, p < 6 → ∀ a, a < 64 → nI a &&& (nI 1 <<< (nI p &&& 31)) = if a / 2 ^ p % 2 = 1 then nI 1 <<< (nI p &&& 31) else nI 0 := by decide +kernel
theorem hun_and {r t : Nat → Int32} {np p : Nat} (hn : np ≤ 6) (hp : p < np) : hunF r t np &&& (nI 1 <<< (nI p &&& 31)) = if t (30 + 6 * p + 5) < r (30 + 6 * p + 5) then nI 1 <<< (nI p &&& 31) else nI 0 := by
  have hl := setN_lt (fun p => t (30 + 6 * p + 5) < r (30 + 6 * p + 5)) np
  have h2 : 2 ^ np ≤ 2 ^ 6 := Nat.pow_le_pow_right (by omega) (by omega)
  rw [hunF_N r t np hn, bit_and p (by omega) _ (by omega), setN_bit _ hp]
  by_cases e : t (30 + 6 * p + 5) < r (30 + 6 * p + 5)
  · rw [if_pos e, if_pos e, if_pos rfl]
  · rw [if_neg e, if_neg e, if_neg (by omega)]

theorem dX11_then_0 : decode cX11_then 0 = .ok (.iload_n 1, 1) := by decide +kernel
theorem dX11_then_1 : decode cX11_then 1 = .ok (.iconst 0, 1) := by decide +kernel
theorem dX11_then_2 : decode cX11_then 2 = .ok (.bipush 60, 2) := by decide +kernel
theorem dX11_then_4 : decode cX11_then 4 = .ok (.invokestatic 86, 3) := by decide +kernel
theorem dX11_then_7 : decode cX11_then 7 = .ok (.ifCond .eq 20, 3) := by decide +kernel
theorem dX11_then_10 : decode cX11_then 10 = .ok (.aload_n 0, 1) := by decide +kernel
theorem dX11_then_11 : decode cX11_then 11 = .ok (.iload_n 2, 1) := by decide +kernel
theorem dX11_then_12 : decode cX11_then 12 = .ok (.invokevirtual 123, 3) := by decide +kernel
theorem dX11_then_15 : decode cX11_then 15 = .ok (.ifCond .eq 12, 3) := by decide +kernel
theorem dX11_then_18 : decode cX11_then 18 = .ok (.iload_n 3, 1) := by decide +kernel
theorem dX11_then_19 : decode cX11_then 19 = .ok (.iconst 0, 1) := by decide +kernel
theorem dX11_then_20 : decode cX11_then 20 = .ok (.iconst 1, 1) := by decide +kernel
theorem dX11_then_21 : decode cX11_then 21 = .ok (.invokestatic 86, 3) := by decide +kernel
theorem dX11_then_24 : decode cX11_then 24 = .ok (.ifCond .ne 9, 3) := by decide +kernel
theorem dX11_then_27 : decode cX11_then 27 = .ok (.aload_n 0, 1) := by decide +kernel
theorem dX11_then_28 : decode cX11_then 28 = .ok (.iconst 1, 1) := by decide +kernel
theorem dX11_then_29 : decode cX11_then 29 = .ok (.invokevirtual 90, 3) := by decide +kernel
theorem dX11_then_32 : decode cX11_then 32 = .ok (.ireturn, 1) := by decide +kernel
theorem dX11_then_33 : decode cX11_then 33 = .ok (.aload_n 0, 1) := by decide +kernel
theorem dX11_then_34 : decode cX11_then 34 = .ok (.iconst 0, 1) := by decide +kernel
theorem dX11_then_35 : decode cX11_then 35 = .ok (.invokevirtual 225, 3) := by decide +kernel
theorem dX11_then_38 : decode cX11_then 38 = .ok (.iconst 0, 1) := by decide +kernel
theorem dX11_then_39 : decode cX11_then 39 = .ok (.istore 4, 2) := by decide +kernel
theorem dX11_then_41 : decode cX11_then 41 = .ok (.iload 4, 2) := by decide +kernel
theorem dX11_then_43 : decode cX11_then 43 = .ok (.iload_n 1, 1) := by decide +kernel
theorem dX11_then_44 : decode cX11_then 44 = .ok (.if_icmp .ge 16, 3) := by decide +kernel
theorem dX11_then_47 : decode cX11_then 47 = .ok (.aload_n 0, 1) := by decide +kernel
theorem dX11_then_48 : decode cX11_then 48 = .ok (.getfield 79, 3) := by decide +kernel
theorem dX11_then_51 : decode cX11_then 51 = .ok (.invokevirtual 215, 3) := by decide +kernel
theorem dX11_then_54 : decode cX11_then 54 = .ok (.iinc 4 1, 3) := by decide +kernel
theorem dX11_then_57 : decode cX11_then 57 = .ok (.goto (-16), 3) := by decide +kernel
theorem dX11_then_60 : decode cX11_then 60 = .ok (.iload_n 3, 1) := by decide +kernel
theorem dX11_then_61 : decode cX11_then 61 = .ok (.ifCond .ne 15, 3) := by decide +kernel
theorem dX11_then_64 : decode cX11_then 64 = .ok (.aload_n 0, 1) := by decide +kernel
theorem dX11_then_65 : decode cX11_then 65 = .ok (.getfield 79, 3) := by decide +kernel
theorem dX11_then_68 : decode cX11_then 68 = .ok (.getfield 142, 3) := by decide +kernel
theorem dX11_then_71 : decode cX11_then 71 = .ok (.iload_n 2, 1) := by decide +kernel
theorem dX11_then_72 : decode cX11_then 72 = .ok (.iaload, 1) := by decide +kernel
theorem dX11_then_73 : decode cX11_then 73 = .ok (.goto 12, 3) := by decide +kernel
theorem dX11_then_76 : decode cX11_then 76 = .ok (.aload_n 0, 1) := by decide +kernel
theorem dX11_then_77 : decode cX11_then 77 = .ok (.getfield 79, 3) := by decide +kernel
theorem dX11_then_80 : decode cX11_then 80 = .ok (.getfield 145, 3) := by decide +kernel
theorem dX11_then_83 : decode cX11_then 83 = .ok (.iload_n 2, 1) := by decide +kernel
theorem dX11_then_84 : decode cX11_then 84 = .ok (.iaload, 1) := by decide +kernel
theorem dX11_then_85 : decode cX11_then 85 = .ok (.ireturn, 1) := by decide +kernel
set_option maxHeartbeats 2000000 in
set_option maxRecDepth 20000 in
theorem k_then {l : Launch} {D : va_G} {cI cG cW : ClassId} {q : Nat → Nat} {S : Nat → Int32} {X : Nat → Nat → Int32} {P : Nat → Nat} {n p what : Int32} {V row kept tried bf fd pk bo so sh mv tr : Nat → Int32} {nc np nw d nt nq : Nat} (hR : RKx row nc np nw d nt nq) (hC : CR (S, X, P) (sR V row kept tried bf fd pk bo so sh mv tr)) (hV15 : V 15 = 0) (hV16 : V 16 = -1) (hV18 : V 18 = -1) : Ci l yX11_then cX11_then 5 (some .int) 9 D (tyL cI cG cW) (wC cI cG cW q) [.ref (q 0), .int n, .int p, .int what] (S, X, P) (fun r τ => r = (sp_then V row kept tried bf fd pk bo so sh mv tr n p what).1 ∧ CR τ (sp_then V row kept tried bf fd pk bo so sh mv tr n p what).2) := by
  refine Ci.of (by decide) (Nat.le_of_ble_eq_true rfl) ?_
  intro p_ e_ s_ m_ b_ M_ c_ A_ C
  replace C : Cx _ _ _ _ _ _ _ _ RX11 _ _ _ _ := C
  refine j_L [0, 1, 2, 3] [(0, .ref (q 0)), (1, .int n), (2, .int p), (3, .int what)] rfl ?_
  obtain ⟨hI, hW, ⟨e0, hd⟩, ⟨e4, ht⟩, ⟨e5, hq⟩, hB⟩ := id hR
  obtain ⟨⟨e2, hc2, hc10⟩, ⟨e3, hn6⟩, ⟨e8, hw8⟩, hP, hE, hLo, hT0, hT1⟩ := id hI
  have hIc := hI
  have hF : CF S X 0 row (X 44) nc np := by have h := hC.fld; rw [e2, e3, tN_nI (by omega), tN_nI (by omega)] at h; exact h
  have hK : CK S X 0 row nw nt nq := by have h := hC.kp; rw [e8, e4, e5, tN_nI (by omega), tN_nI (by omega), tN_nI (by omega)] at h; exact h
  have hS1 : S 1 = row 8 := hK.wrongs
  have hS5 : S 5 = row 2 := hF.cells
  have hS7 : S 7 = row 3 := hF.people
  have hT : FrT S X S X := FrT.rf
  refine j_iload_n C 1 dX11_then_0 rfl ?_
  refine j_iconst C (v := (nI 0)) dX11_then_1 (by decide) ?_
  refine j_bipush C (v := (nI 60)) dX11_then_2 (by decide) ?_
  refine j_callS (As := [.int n, .int (nI 0), .int (nI 60)]) (rest := []) C sw11_86 (h_within) rfl (Nat.le_of_ble_eq_true rfl) dX11_then_4 (by decide) ?_
  rintro _ _ ⟨rfl, rfl⟩
  refine j_if_eq C 27 dX11_then_7 (by decide) (fun c7 => ?_) (fun c7 => ?_)
  · replace c7 := bI_f c7
    refine j_aload_n C 0 dX11_then_27 rfl ?_
    refine j_iconst C (v := (nI 1)) dX11_then_28 (by decide) ?_
    refine j_callV (As := [.int (nI 1)]) (rest := []) C vw11_90 (h_error 1 (by decide)) ⟨0, 11, _, _, rfl, rfl, rfl⟩ rfl (Nat.le_of_ble_eq_true rfl) dX11_then_29 (by decide) ?_
    rintro _ _ ⟨rfl, rfl⟩
    refine j_iret C dX11_then_32 ?_
    unfold sp_then
    rw [if_neg (fun h => c7 h.1)]
    exact ⟨show (-1000000000 : Int32) - nI 1 = -1000000001 from by decide, hC.er 1⟩
  · replace c7 := bI_t c7
    obtain ⟨nn, gnn, hnn, rfl⟩ := inn_lit c7 (by omega)
    refine j_aload_n C 0 dX11_then_10 rfl ?_
    refine j_iload_n C 2 dX11_then_11 rfl ?_
    refine j_callV (As := [.int p]) (rest := []) C vw11_123 (h_isPerson) ⟨0, 11, _, _, rfl, rfl, rfl⟩ rfl (Nat.le_of_ble_eq_true rfl) dX11_then_12 (by decide) ?_
    rintro _ _ ⟨rfl, rfl⟩
    refine j_v (bI (inn p 0 (row 3 - 1))) (by rw [hS7]) ?_
    refine j_if_eq C 27 dX11_then_15 (by decide) (fun c15 => ?_) (fun c15 => ?_)
    · replace c15 := bI_f c15
      refine j_aload_n C 0 dX11_then_27 rfl ?_
      refine j_iconst C (v := (nI 1)) dX11_then_28 (by decide) ?_
      refine j_callV (As := [.int (nI 1)]) (rest := []) C vw11_90 (h_error 1 (by decide)) ⟨0, 11, _, _, rfl, rfl, rfl⟩ rfl (Nat.le_of_ble_eq_true rfl) dX11_then_29 (by decide) ?_
      rintro _ _ ⟨rfl, rfl⟩
      refine j_iret C dX11_then_32 ?_
      unfold sp_then
      rw [if_neg (fun h => c15 h.2.1)]
      exact ⟨show (-1000000000 : Int32) - nI 1 = -1000000001 from by decide, hC.er 1⟩
    · replace c15 := bI_t c15
      obtain ⟨pn, hpn, rfl⟩ := inn_row c15 e3 (by omega)
      refine j_iload_n C 3 dX11_then_18 rfl ?_
      refine j_iconst C (v := (nI 0)) dX11_then_19 (by decide) ?_
      refine j_iconst C (v := (nI 1)) dX11_then_20 (by decide) ?_
      refine j_callS (As := [.int what, .int (nI 0), .int (nI 1)]) (rest := []) C sw11_86 (h_within) rfl (Nat.le_of_ble_eq_true rfl) dX11_then_21 (by decide) ?_
      rintro _ _ ⟨rfl, rfl⟩
      refine j_if_ne C 33 dX11_then_24 (by decide) (fun c24 => ?_) (fun c24 => ?_)
      · replace c24 := bI_t c24
        obtain ⟨wn, gwn, hwn, rfl⟩ := inn_lit c24 (by omega)
        refine j_aload_n C 0 dX11_then_33 rfl ?_
        refine j_iconst C (v := (nI 0)) dX11_then_34 (by decide) ?_
        refine j_callVv (As := [.int (nI 0)]) (rest := []) C vw11_225 (h_imagine (hF.ft hT) hI (hK.ft hT) hW 0 (by omega)) ⟨0, 11, _, _, rfl, rfl, rfl⟩ rfl (Nat.le_of_ble_eq_true rfl) dX11_then_35 (by decide) ?_
        rintro _ ⟨S0, X0, rfl, hF2w, hT0⟩
        have hTT := hT0.tr hT
        have hF2 := hF2w.wc (wt_wv (V := V) (nw := nw) hV15 hV16 hV18 hn6)
        refine j_iconst C (v := (nI 0)) dX11_then_38 (by decide) ?_
        refine j_istore C [(4, .int (nI 0)), (0, .ref (q 0)), (1, .int (nI nn)), (2, .int (nI pn)), (3, .int (nI wn))] dX11_then_39 (by decide) rfl ?_
        refine j_L [1, 2, 3, 4, 0] [(0, .ref (q 0)), (1, .int (nI nn)), (2, .int (nI pn)), (3, .int (nI wn)), (4, .int (nI 0))] rfl ?_
        refine j_loop (X := Nat × (Nat → Int32) × (Nat → Nat → Int32)) (fun (z : Nat × (Nat → Int32) × (Nat → Nat → Int32)) => match z with | (i, T, Y) => i ≤ nn ∧ CF T Y 2 (dawnsF np (wv V row nw) row i) (wv V row nw) nc np ∧ FrT T Y S X) (fun (z : Nat × (Nat → Int32) × (Nat → Nat → Int32)) => match z with | (i, T, Y) => nn - i) (fun (z : Nat × (Nat → Int32) × (Nat → Nat → Int32)) => match z with | (i, T, Y) => (T, Y, P)) (fun (z : Nat × (Nat → Int32) × (Nat → Nat → Int32)) => match z with | (i, T, Y) => [(0, .ref (q 0)), (1, .int (nI nn)), (2, .int (nI pn)), (3, .int (nI wn)), (4, .int (nI i))]) (0, S0, X0) (⟨Nat.zero_le _, hF2, hTT⟩) rfl rfl ?_
        rintro ⟨i, T, Y⟩ ⟨hi, hG, hT⟩ ih
        try dsimp only at ih ⊢
        have hIF := dawns_IF (wv V row nw) hI i
        refine j_iload C 4 dX11_then_41 rfl ?_
        refine j_iload_n C 1 dX11_then_43 rfl ?_
        refine j_icmp_ge C 60 dX11_then_44 (by decide) (fun c44 => ?_) (fun c44 => ?_)
        · rw [nI_leI (by omega) (by omega)] at c44
          refine j_iload_n C 3 dX11_then_60 rfl ?_
          refine j_if_ne C 76 dX11_then_61 (by decide) (fun c61 => ?_) (fun c61 => ?_)
          · rw [show (0 : Int32) = nI 0 from rfl, nI_eq (by omega) (by omega)] at c61
            refine j_aload_n C 0 dX11_then_76 rfl ?_
            refine j_get C (v := .ref (q 5)) 0 3 rfl rfl inlC11 (by decide) kf11_79 rfl dX11_then_77 ?_
            refine j_getN C (v := .ref (q 63)) 5 10 rfl rfl inlC1 (by decide) kf11_145 rfl dX11_then_80 ?_
            refine j_iload_n C 2 dX11_then_83 rfl ?_
            refine j_ialdN C 63 0 rfl rfl pn rfl (by omega) (by decide) dX11_then_84 ?_
            refine j_v (dawnsF np (wv V row nw) row i (30 + 6 * pn + 5)) (hG.per 5 (by omega) pn (by omega)) ?_
            refine j_iret C dX11_then_85 ?_
            unfold sp_then
            rw [if_pos ⟨c7, c15, c24⟩, tN_nI (n := nn) (by omega), tN_nI (n := pn) (by omega), tN_nI (n := wn) (by omega), dw_eq e3 e8 hn6 hw8, show nn = i by omega, show wn = 1 by omega]
            exact ⟨rfl, hC.th hT⟩
          · rw [show (0 : Int32) = nI 0 from rfl, nI_eq (by omega) (by omega)] at c61
            refine j_aload_n C 0 dX11_then_64 rfl ?_
            refine j_get C (v := .ref (q 5)) 0 3 rfl rfl inlC11 (by decide) kf11_79 rfl dX11_then_65 ?_
            refine j_getN C (v := .ref (q 62)) 5 9 rfl rfl inlC1 (by decide) kf11_142 rfl dX11_then_68 ?_
            refine j_iload_n C 2 dX11_then_71 rfl ?_
            refine j_ialdN C 62 0 rfl rfl pn rfl (by omega) (by decide) dX11_then_72 ?_
            refine j_v (dawnsF np (wv V row nw) row i (30 + 6 * pn + 4)) (hG.per 4 (by omega) pn (by omega)) ?_
            refine j_goto C 85 dX11_then_73 (by decide) ?_
            refine j_iret C dX11_then_85 ?_
            unfold sp_then
            rw [if_pos ⟨c7, c15, c24⟩, tN_nI (n := nn) (by omega), tN_nI (n := pn) (by omega), tN_nI (n := wn) (by omega), dw_eq e3 e8 hn6 hw8, show nn = i by omega, show wn = 0 by omega]
            exact ⟨rfl, hC.th hT⟩
        · rw [nI_leI (by omega) (by omega)] at c44
          refine j_aload_n C 0 dX11_then_47 rfl ?_
          refine j_get C (v := .ref (q 5)) 0 3 rfl rfl inlC11 (by decide) kf11_79 rfl dX11_then_48 ?_
          refine j_callVNv (As := []) (rest := []) C vn11_215 (h_pass_2 hG hIF.1 (hC.l0.ft (by omega) (by omega) hT hIF.2) (hC.l1.ft (by omega) (by omega) hT hIF.2)) ⟨5, 1, _, _, rfl, rfl, rfl⟩ rfl (Nat.le_of_ble_eq_true rfl) dX11_then_51 (by decide) ?_
          rintro _ ⟨T1, Y1, rfl, hG1, hD1, hX1, hk1⟩
          refine j_iinc C (v := (nI (i + 1))) 4 [(4, .int (nI (i + 1))), (0, .ref (q 0)), (1, .int (nI nn)), (2, .int (nI pn)), (3, .int (nI wn))] dX11_then_54 rfl (nI_1 _) (by decide) rfl ?_
          refine j_goto C 41 dX11_then_57 (by decide) ?_
          refine j_L [1, 2, 3, 4, 0] [(0, .ref (q 0)), (1, .int (nI nn)), (2, .int (nI pn)), (3, .int (nI wn)), (4, .int (nI (i + 1)))] rfl ?_
          exact ih (i + 1, T1, Y1) (⟨by dsimp only; omega, hG1, (FrT.dn hD1 hX1).tr hT⟩) (by dsimp only; omega)
      · replace c24 := bI_f c24
        refine j_aload_n C 0 dX11_then_27 rfl ?_
        refine j_iconst C (v := (nI 1)) dX11_then_28 (by decide) ?_
        refine j_callV (As := [.int (nI 1)]) (rest := []) C vw11_90 (h_error 1 (by decide)) ⟨0, 11, _, _, rfl, rfl, rfl⟩ rfl (Nat.le_of_ble_eq_true rfl) dX11_then_29 (by decide) ?_
        rintro _ _ ⟨rfl, rfl⟩
        refine j_iret C dX11_then_32 ?_
        unfold sp_then
        rw [if_neg (fun h => c24 h.2.2)]
        exact ⟨show (-1000000000 : Int32) - nI 1 = -1000000001 from by decide, hC.er 1⟩
theorem dX11_upright_0 : decode cX11_upright 0 = .ok (.iload_n 1, 1) := by decide +kernel
theorem dX11_upright_1 : decode cX11_upright 1 = .ok (.iconst 0, 1) := by decide +kernel
theorem dX11_upright_2 : decode cX11_upright 2 = .ok (.iconst 1, 1) := by decide +kernel
theorem dX11_upright_3 : decode cX11_upright 3 = .ok (.invokestatic 86, 3) := by decide +kernel
theorem dX11_upright_6 : decode cX11_upright 6 = .ok (.ifCond .ne 9, 3) := by decide +kernel
theorem dX11_upright_9 : decode cX11_upright 9 = .ok (.aload_n 0, 1) := by decide +kernel
theorem dX11_upright_10 : decode cX11_upright 10 = .ok (.iconst 1, 1) := by decide +kernel
theorem dX11_upright_11 : decode cX11_upright 11 = .ok (.invokevirtual 90, 3) := by decide +kernel
theorem dX11_upright_14 : decode cX11_upright 14 = .ok (.ireturn, 1) := by decide +kernel
theorem dX11_upright_15 : decode cX11_upright 15 = .ok (.aload_n 0, 1) := by decide +kernel
theorem dX11_upright_16 : decode cX11_upright 16 = .ok (.iconst 0, 1) := by decide +kernel
theorem dX11_upright_17 : decode cX11_upright 17 = .ok (.invokevirtual 225, 3) := by decide +kernel
theorem dX11_upright_20 : decode cX11_upright 20 = .ok (.iconst 1, 1) := by decide +kernel
theorem dX11_upright_21 : decode cX11_upright 21 = .ok (.istore_n 2, 1) := by decide +kernel
theorem dX11_upright_22 : decode cX11_upright 22 = .ok (.iload_n 2, 1) := by decide +kernel
theorem dX11_upright_23 : decode cX11_upright 23 = .ok (.bipush 60, 2) := by decide +kernel
theorem dX11_upright_25 : decode cX11_upright 25 = .ok (.if_icmp .gt 45, 3) := by decide +kernel
theorem dX11_upright_28 : decode cX11_upright 28 = .ok (.aload_n 0, 1) := by decide +kernel
theorem dX11_upright_29 : decode cX11_upright 29 = .ok (.getfield 79, 3) := by decide +kernel
theorem dX11_upright_32 : decode cX11_upright 32 = .ok (.invokevirtual 215, 3) := by decide +kernel
theorem dX11_upright_35 : decode cX11_upright 35 = .ok (.aload_n 0, 1) := by decide +kernel
theorem dX11_upright_36 : decode cX11_upright 36 = .ok (.getfield 79, 3) := by decide +kernel
theorem dX11_upright_39 : decode cX11_upright 39 = .ok (.aload_n 0, 1) := by decide +kernel
theorem dX11_upright_40 : decode cX11_upright 40 = .ok (.getfield 75, 3) := by decide +kernel
theorem dX11_upright_43 : decode cX11_upright 43 = .ok (.getfield 94, 3) := by decide +kernel
theorem dX11_upright_46 : decode cX11_upright 46 = .ok (.invokevirtual 228, 3) := by decide +kernel
theorem dX11_upright_49 : decode cX11_upright 49 = .ok (.istore_n 3, 1) := by decide +kernel
theorem dX11_upright_50 : decode cX11_upright 50 = .ok (.iload_n 3, 1) := by decide +kernel
theorem dX11_upright_51 : decode cX11_upright 51 = .ok (.ifCond .lt 13, 3) := by decide +kernel
theorem dX11_upright_54 : decode cX11_upright 54 = .ok (.iload_n 1, 1) := by decide +kernel
theorem dX11_upright_55 : decode cX11_upright 55 = .ok (.ifCond .ne 7, 3) := by decide +kernel
theorem dX11_upright_58 : decode cX11_upright 58 = .ok (.iload_n 2, 1) := by decide +kernel
theorem dX11_upright_59 : decode cX11_upright 59 = .ok (.goto 4, 3) := by decide +kernel
theorem dX11_upright_62 : decode cX11_upright 62 = .ok (.iload_n 3, 1) := by decide +kernel
theorem dX11_upright_63 : decode cX11_upright 63 = .ok (.ireturn, 1) := by decide +kernel
theorem dX11_upright_64 : decode cX11_upright 64 = .ok (.iinc 2 1, 3) := by decide +kernel
theorem dX11_upright_67 : decode cX11_upright 67 = .ok (.goto (-45), 3) := by decide +kernel
theorem dX11_upright_70 : decode cX11_upright 70 = .ok (.aload_n 0, 1) := by decide +kernel
theorem dX11_upright_71 : decode cX11_upright 71 = .ok (.iconst 2, 1) := by decide +kernel
theorem dX11_upright_72 : decode cX11_upright 72 = .ok (.invokevirtual 90, 3) := by decide +kernel
theorem dX11_upright_75 : decode cX11_upright 75 = .ok (.ireturn, 1) := by decide +kernel
set_option maxHeartbeats 2000000 in
set_option maxRecDepth 20000 in
theorem k_upright {l : Launch} {D : va_G} {cI cG cW : ClassId} {q : Nat → Nat} {S : Nat → Int32} {X : Nat → Nat → Int32} {P : Nat → Nat} {what : Int32} {V row kept tried bf fd pk bo so sh mv tr : Nat → Int32} {nc np nw d nt nq : Nat} (hR : RKx row nc np nw d nt nq) (hC : CR (S, X, P) (sR V row kept tried bf fd pk bo so sh mv tr)) (hV15 : V 15 = 0) (hV16 : V 16 = -1) (hV18 : V 18 = -1) : Ci l yX11_upright cX11_upright 4 (some .int) 9 D (tyL cI cG cW) (wC cI cG cW q) [.ref (q 0), .int what] (S, X, P) (fun r τ => r = (sp_upright V row kept tried bf fd pk bo so sh mv tr what).1 ∧ CR τ (sp_upright V row kept tried bf fd pk bo so sh mv tr what).2) := by
  refine Ci.of (by decide) (Nat.le_of_ble_eq_true rfl) ?_
  intro p_ e_ s_ m_ b_ M_ c_ A_ C
  replace C : Cx _ _ _ _ _ _ _ _ RX11 _ _ _ _ := C
  refine j_L [0, 1] [(0, .ref (q 0)), (1, .int what)] rfl ?_
  obtain ⟨hI, hW, ⟨e0, hd⟩, ⟨e4, ht⟩, ⟨e5, hq⟩, hB⟩ := id hR
  obtain ⟨⟨e2, hc2, hc10⟩, ⟨e3, hn6⟩, ⟨e8, hw8⟩, hP, hE, hLo, hT0, hT1⟩ := id hI
  have hIc := hI
  have hF : CF S X 0 row (X 44) nc np := by have h := hC.fld; rw [e2, e3, tN_nI (by omega), tN_nI (by omega)] at h; exact h
  have hK : CK S X 0 row nw nt nq := by have h := hC.kp; rw [e8, e4, e5, tN_nI (by omega), tN_nI (by omega), tN_nI (by omega)] at h; exact h
  have hS1 : S 1 = row 8 := hK.wrongs
  have hS5 : S 5 = row 2 := hF.cells
  have hS7 : S 7 = row 3 := hF.people
  have hT : FrT S X S X := FrT.rf
  refine j_iload_n C 1 dX11_upright_0 rfl ?_
  refine j_iconst C (v := (nI 0)) dX11_upright_1 (by decide) ?_
  refine j_iconst C (v := (nI 1)) dX11_upright_2 (by decide) ?_
  refine j_callS (As := [.int what, .int (nI 0), .int (nI 1)]) (rest := []) C sw11_86 (h_within) rfl (Nat.le_of_ble_eq_true rfl) dX11_upright_3 (by decide) ?_
  rintro _ _ ⟨rfl, rfl⟩
  refine j_if_ne C 15 dX11_upright_6 (by decide) (fun c6 => ?_) (fun c6 => ?_)
  · replace c6 := bI_t c6
    obtain ⟨wn, gwn, hwn, rfl⟩ := inn_lit c6 (by omega)
    refine j_aload_n C 0 dX11_upright_15 rfl ?_
    refine j_iconst C (v := (nI 0)) dX11_upright_16 (by decide) ?_
    refine j_callVv (As := [.int (nI 0)]) (rest := []) C vw11_225 (h_imagine (hF.ft hT) hI (hK.ft hT) hW 0 (by omega)) ⟨0, 11, _, _, rfl, rfl, rfl⟩ rfl (Nat.le_of_ble_eq_true rfl) dX11_upright_17 (by decide) ?_
    rintro _ ⟨S0, X0, rfl, hF2w, hT0⟩
    have hTT := hT0.tr hT
    have hF2 := hF2w.wc (wt_wv (V := V) (nw := nw) hV15 hV16 hV18 hn6)
    refine j_iconst C (v := (nI 1)) dX11_upright_20 (by decide) ?_
    refine j_istore_n C [(2, .int (nI 1)), (0, .ref (q 0)), (1, .int (nI wn))] dX11_upright_21 (by decide) rfl ?_
    refine j_L [1, 2, 0] [(0, .ref (q 0)), (1, .int (nI wn)), (2, .int (nI 1))] rfl ?_
    refine j_loop (X := Nat × (Nat → Int32) × (Nat → Nat → Int32)) (fun (z : Nat × (Nat → Int32) × (Nat → Nat → Int32)) => match z with | (j, T, Y) => j ≤ 60 ∧ CF T Y 2 (dawnsF np (wv V row nw) row j) (wv V row nw) nc np ∧ FrT T Y S X ∧ ∀ m, m ≤ j → ¬ uprQ V row m) (fun (z : Nat × (Nat → Int32) × (Nat → Nat → Int32)) => match z with | (j, T, Y) => 60 - j) (fun (z : Nat × (Nat → Int32) × (Nat → Nat → Int32)) => match z with | (j, T, Y) => (T, Y, P)) (fun (z : Nat × (Nat → Int32) × (Nat → Nat → Int32)) => match z with | (j, T, Y) => [(0, .ref (q 0)), (1, .int (nI wn)), (2, .int (nI (j + 1)))]) (0, S0, X0) (⟨Nat.zero_le _, hF2, hTT, fun m hm => by
      obtain rfl : m = 0 := by omega
      exact fun h => (upr_iff e3 e8 hn6 hw8).1 h (fun p hp => lnl (le_rf _))⟩) rfl rfl ?_
    rintro ⟨j, T, Y⟩ ⟨hi, hG, hT, hu⟩ ih
    try dsimp only at ih ⊢
    have hIF := dawns_IF (wv V row nw) hI j
    refine j_iload_n C 2 dX11_upright_22 rfl ?_
    refine j_bipush C (v := (nI 60)) dX11_upright_23 (by decide) ?_
    refine j_icmp_gt C 70 dX11_upright_25 (by decide) (fun c25 => ?_) (fun c25 => ?_)
    · rw [nI_ltI (by omega) (by omega)] at c25
      refine j_aload_n C 0 dX11_upright_70 rfl ?_
      refine j_iconst C (v := (nI 2)) dX11_upright_71 (by decide) ?_
      refine j_callV (As := [.int (nI 2)]) (rest := []) C vw11_90 (h_error 2 (by decide)) ⟨0, 11, _, _, rfl, rfl, rfl⟩ rfl (Nat.le_of_ble_eq_true rfl) dX11_upright_72 (by decide) ?_
      rintro _ _ ⟨rfl, rfl⟩
      refine j_iret C dX11_upright_75 ?_
      unfold sp_upright
      have hl : lsF (uprQ V row) 61 0 = 61 := lsF_at (Nat.zero_le _) (by omega) (fun m _ hm => hu m (by omega)) (Or.inr rfl)
      rw [if_pos c6, hl, if_neg (by omega)]
      exact ⟨show (-1000000000 : Int32) - nI 2 = -1000000002 from by decide, (hC.th hT).er 2⟩
    · rw [nI_ltI (by omega) (by omega)] at c25
      refine j_aload_n C 0 dX11_upright_28 rfl ?_
      refine j_get C (v := .ref (q 5)) 0 3 rfl rfl inlC11 (by decide) kf11_79 rfl dX11_upright_29 ?_
      refine j_callVNv (As := []) (rest := []) C vn11_215 (h_pass_2 hG hIF.1 (hC.l0.ft (by omega) (by omega) hT hIF.2) (hC.l1.ft (by omega) (by omega) hT hIF.2)) ⟨5, 1, _, _, rfl, rfl, rfl⟩ rfl (Nat.le_of_ble_eq_true rfl) dX11_upright_32 (by decide) ?_
      rintro _ ⟨T1, Y1, rfl, hG1, hD1, hX1, hk1⟩
      have hIF1 := dawns_IF (wv V row nw) hI (j + 1)
      refine j_aload_n C 0 dX11_upright_35 rfl ?_
      refine j_get C (v := .ref (q 5)) 0 3 rfl rfl inlC11 (by decide) kf11_79 rfl dX11_upright_36 ?_
      refine j_aload_n C 0 dX11_upright_39 rfl ?_
      refine j_get C (v := .ref (q 1)) 0 1 rfl rfl inlC11 (by decide) kf11_75 rfl dX11_upright_40 ?_
      refine j_getN C (v := .ref (q 3)) 1 0 rfl rfl inlC3 (by decide) kf11_94 rfl dX11_upright_43 ?_
      refine j_callVN (As := [.ref (q 3)]) (rest := []) C vn11_228 (h_fht (hF.ft ((FrT.dn hD1 hX1).tr hT)) e3 hn6 hG1 (hIF1.1.2.1.1)) ⟨5, 1, _, _, rfl, rfl, rfl⟩ rfl (Nat.le_of_ble_eq_true rfl) dX11_upright_46 (by decide) ?_
      rintro _ _ ⟨hr, rfl⟩
      rcases hr with ⟨z, hz, rfl, hz1, hz2⟩ | ⟨rfl, hr2⟩
      · refine j_istore_n C [(3, .int (nI z)), (0, .ref (q 0)), (1, .int (nI wn)), (2, .int (nI (j + 1)))] dX11_upright_49 (by decide) rfl ?_
        refine j_iload_n C 0 dX11_upright_50 rfl ?_
        refine j_if_lt C 64 dX11_upright_51 (by decide) (fun c51 => ?_) (fun c51 => ?_)
        · rw [show (0 : Int32) = nI 0 from rfl, nI_ltI (by omega) (by omega)] at c51
          exfalso; omega
        · rw [show (0 : Int32) = nI 0 from rfl, nI_ltI (by omega) (by omega)] at c51
          refine j_iload_n C 2 dX11_upright_54 rfl ?_
          refine j_if_ne C 62 dX11_upright_55 (by decide) (fun c55 => ?_) (fun c55 => ?_)
          · rw [show (0 : Int32) = nI 0 from rfl, nI_eq (by omega) (by omega)] at c55
            refine j_iload_n C 0 dX11_upright_62 rfl ?_
            refine j_iret C dX11_upright_63 ?_
            unfold sp_upright
            have hl : lsF (uprQ V row) 61 0 = j + 1 := lsF_at (Nat.zero_le _) (by omega) (fun m _ hm => hu m (by omega)) (Or.inl ((upr_iff e3 e8 hn6 hw8).2 (fun h => h z hz hz1)))
            rw [if_pos c6, hl, if_pos (by omega)]
            have hl2 : lsF (hgP V row (j + 1)) 6 0 = z := lsF_at (Nat.zero_le _) (by omega) (fun m _ hm => fun h => hz2 m hm ((hg_iff e3 e8 hn6 hw8).1 h)) (Or.inl ((hg_iff e3 e8 hn6 hw8).2 hz1))
            rw [if_neg (nI_ne0 (by omega) (by omega)), hl2]
            exact ⟨rfl, hC.th ((FrT.dn hD1 hX1).tr hT)⟩
          · rw [show (0 : Int32) = nI 0 from rfl, nI_eq (by omega) (by omega)] at c55
            refine j_iload_n C 3 dX11_upright_58 rfl ?_
            refine j_goto C 63 dX11_upright_59 (by decide) ?_
            refine j_iret C dX11_upright_63 ?_
            unfold sp_upright
            have hl : lsF (uprQ V row) 61 0 = j + 1 := lsF_at (Nat.zero_le _) (by omega) (fun m _ hm => hu m (by omega)) (Or.inl ((upr_iff e3 e8 hn6 hw8).2 (fun h => h z hz hz1)))
            rw [if_pos c6, hl, if_pos (by omega)]
            rw [if_pos (by rw [show wn = 0 by omega]; rfl)]
            exact ⟨rfl, hC.th ((FrT.dn hD1 hX1).tr hT)⟩
      · refine j_istore_n C [(3, .int (-1)), (0, .ref (q 0)), (1, .int (nI wn)), (2, .int (nI (j + 1)))] dX11_upright_49 (by decide) rfl ?_
        refine j_iload_n C 0 dX11_upright_50 rfl ?_
        refine j_if_lt C 64 dX11_upright_51 (by decide) (fun c51 => ?_) (fun c51 => ?_)
        · skip
          refine j_iinc C (v := (nI (j + 1 + 1))) 3 [(2, .int (nI (j + 1 + 1))), (3, .int (-1)), (0, .ref (q 0)), (1, .int (nI wn))] dX11_upright_64 rfl (nI_1 _) (by decide) rfl ?_
          refine j_goto C 22 dX11_upright_67 (by decide) ?_
          refine j_L [2, 3, 0] [(0, .ref (q 0)), (1, .int (nI wn)), (2, .int (nI (j + 1 + 1)))] rfl ?_
          exact ih (j + 1, T1, Y1) (⟨by dsimp only; omega, hG1, (FrT.dn hD1 hX1).tr hT, fun m hm => by
      dsimp only at hm
      by_cases e : m = j + 1
      · subst e; exact fun h => (upr_iff e3 e8 hn6 hw8).1 h hr2
      · exact hu m (by omega)⟩) (by dsimp only; omega)
        · skip
          exact absurd (by decide) c51
  · replace c6 := bI_f c6
    refine j_aload_n C 0 dX11_upright_9 rfl ?_
    refine j_iconst C (v := (nI 1)) dX11_upright_10 (by decide) ?_
    refine j_callV (As := [.int (nI 1)]) (rest := []) C vw11_90 (h_error 1 (by decide)) ⟨0, 11, _, _, rfl, rfl, rfl⟩ rfl (Nat.le_of_ble_eq_true rfl) dX11_upright_11 (by decide) ?_
    rintro _ _ ⟨rfl, rfl⟩
    refine j_iret C dX11_upright_14 ?_
    unfold sp_upright
    rw [if_neg c6]
    exact ⟨show (-1000000000 : Int32) - nI 1 = -1000000001 from by decide, hC.er 1⟩
theorem dX11_adds_0 : decode cX11_adds 0 = .ok (.aload_n 0, 1) := by decide +kernel
theorem dX11_adds_1 : decode cX11_adds 1 = .ok (.iload_n 1, 1) := by decide +kernel
theorem dX11_adds_2 : decode cX11_adds 2 = .ok (.invokevirtual 123, 3) := by decide +kernel
theorem dX11_adds_5 : decode cX11_adds 5 = .ok (.ifCond .eq 13, 3) := by decide +kernel
theorem dX11_adds_8 : decode cX11_adds 8 = .ok (.iload_n 2, 1) := by decide +kernel
theorem dX11_adds_9 : decode cX11_adds 9 = .ok (.iconst 0, 1) := by decide +kernel
theorem dX11_adds_10 : decode cX11_adds 10 = .ok (.bipush 60, 2) := by decide +kernel
theorem dX11_adds_12 : decode cX11_adds 12 = .ok (.invokestatic 86, 3) := by decide +kernel
theorem dX11_adds_15 : decode cX11_adds 15 = .ok (.ifCond .ne 9, 3) := by decide +kernel
theorem dX11_adds_18 : decode cX11_adds 18 = .ok (.aload_n 0, 1) := by decide +kernel
theorem dX11_adds_19 : decode cX11_adds 19 = .ok (.iconst 1, 1) := by decide +kernel
theorem dX11_adds_20 : decode cX11_adds 20 = .ok (.invokevirtual 90, 3) := by decide +kernel
theorem dX11_adds_23 : decode cX11_adds 23 = .ok (.ireturn, 1) := by decide +kernel
theorem dX11_adds_24 : decode cX11_adds 24 = .ok (.iconst 0, 1) := by decide +kernel
theorem dX11_adds_25 : decode cX11_adds 25 = .ok (.istore_n 3, 1) := by decide +kernel
theorem dX11_adds_26 : decode cX11_adds 26 = .ok (.iload_n 3, 1) := by decide +kernel
theorem dX11_adds_27 : decode cX11_adds 27 = .ok (.bipush 40, 2) := by decide +kernel
theorem dX11_adds_29 : decode cX11_adds 29 = .ok (.if_icmp .gt 38, 3) := by decide +kernel
theorem dX11_adds_32 : decode cX11_adds 32 = .ok (.aload_n 0, 1) := by decide +kernel
theorem dX11_adds_33 : decode cX11_adds 33 = .ok (.iconst 0, 1) := by decide +kernel
theorem dX11_adds_34 : decode cX11_adds 34 = .ok (.invokevirtual 225, 3) := by decide +kernel
theorem dX11_adds_37 : decode cX11_adds 37 = .ok (.aload_n 0, 1) := by decide +kernel
theorem dX11_adds_38 : decode cX11_adds 38 = .ok (.getfield 79, 3) := by decide +kernel
theorem dX11_adds_41 : decode cX11_adds 41 = .ok (.getfield 148, 3) := by decide +kernel
theorem dX11_adds_44 : decode cX11_adds 44 = .ok (.iload_n 1, 1) := by decide +kernel
theorem dX11_adds_45 : decode cX11_adds 45 = .ok (.dup2, 1) := by decide +kernel
theorem dX11_adds_46 : decode cX11_adds 46 = .ok (.iaload, 1) := by decide +kernel
theorem dX11_adds_47 : decode cX11_adds 47 = .ok (.iload_n 3, 1) := by decide +kernel
theorem dX11_adds_48 : decode cX11_adds 48 = .ok (.iadd, 1) := by decide +kernel
theorem dX11_adds_49 : decode cX11_adds 49 = .ok (.iastore, 1) := by decide +kernel
theorem dX11_adds_50 : decode cX11_adds 50 = .ok (.aload_n 0, 1) := by decide +kernel
theorem dX11_adds_51 : decode cX11_adds 51 = .ok (.iload_n 1, 1) := by decide +kernel
theorem dX11_adds_52 : decode cX11_adds 52 = .ok (.iload_n 2, 1) := by decide +kernel
theorem dX11_adds_53 : decode cX11_adds 53 = .ok (.invokevirtual 232, 3) := by decide +kernel
theorem dX11_adds_56 : decode cX11_adds 56 = .ok (.ifCond .eq 5, 3) := by decide +kernel
theorem dX11_adds_59 : decode cX11_adds 59 = .ok (.iload_n 3, 1) := by decide +kernel
theorem dX11_adds_60 : decode cX11_adds 60 = .ok (.ireturn, 1) := by decide +kernel
theorem dX11_adds_61 : decode cX11_adds 61 = .ok (.iinc 3 1, 3) := by decide +kernel
theorem dX11_adds_64 : decode cX11_adds 64 = .ok (.goto (-38), 3) := by decide +kernel
theorem dX11_adds_67 : decode cX11_adds 67 = .ok (.aload_n 0, 1) := by decide +kernel
theorem dX11_adds_68 : decode cX11_adds 68 = .ok (.iconst 2, 1) := by decide +kernel
theorem dX11_adds_69 : decode cX11_adds 69 = .ok (.invokevirtual 90, 3) := by decide +kernel
theorem dX11_adds_72 : decode cX11_adds 72 = .ok (.ireturn, 1) := by decide +kernel
set_option maxHeartbeats 2000000 in
set_option maxRecDepth 20000 in
theorem k_adds {l : Launch} {D : va_G} {cI cG cW : ClassId} {q : Nat → Nat} {S : Nat → Int32} {X : Nat → Nat → Int32} {P : Nat → Nat} {p n : Int32} {V row kept tried bf fd pk bo so sh mv tr : Nat → Int32} {nc np nw d nt nq : Nat} (hR : RKx row nc np nw d nt nq) (hC : CR (S, X, P) (sR V row kept tried bf fd pk bo so sh mv tr)) (hV15 : V 15 = 0) (hV16 : V 16 = -1) (hV18 : V 18 = -1) : Ci l yX11_adds cX11_adds 4 (some .int) 9 D (tyL cI cG cW) (wC cI cG cW q) [.ref (q 0), .int p, .int n] (S, X, P) (fun r τ => r = (sp_adds V row kept tried bf fd pk bo so sh mv tr p n).1 ∧ CR τ (sp_adds V row kept tried bf fd pk bo so sh mv tr p n).2) := by
  refine Ci.of (by decide) (Nat.le_of_ble_eq_true rfl) ?_
  intro p_ e_ s_ m_ b_ M_ c_ A_ C
  replace C : Cx _ _ _ _ _ _ _ _ RX11 _ _ _ _ := C
  refine j_L [0, 1, 2] [(0, .ref (q 0)), (1, .int p), (2, .int n)] rfl ?_
  obtain ⟨hI, hW, ⟨e0, hd⟩, ⟨e4, ht⟩, ⟨e5, hq⟩, hB⟩ := id hR
  obtain ⟨⟨e2, hc2, hc10⟩, ⟨e3, hn6⟩, ⟨e8, hw8⟩, hP, hE, hLo, hT0, hT1⟩ := id hI
  have hIc := hI
  have hF : CF S X 0 row (X 44) nc np := by have h := hC.fld; rw [e2, e3, tN_nI (by omega), tN_nI (by omega)] at h; exact h
  have hK : CK S X 0 row nw nt nq := by have h := hC.kp; rw [e8, e4, e5, tN_nI (by omega), tN_nI (by omega), tN_nI (by omega)] at h; exact h
  have hS1 : S 1 = row 8 := hK.wrongs
  have hS5 : S 5 = row 2 := hF.cells
  have hS7 : S 7 = row 3 := hF.people
  have hT : FrT S X S X := FrT.rf
  refine j_aload_n C 0 dX11_adds_0 rfl ?_
  refine j_iload_n C 1 dX11_adds_1 rfl ?_
  refine j_callV (As := [.int p]) (rest := []) C vw11_123 (h_isPerson) ⟨0, 11, _, _, rfl, rfl, rfl⟩ rfl (Nat.le_of_ble_eq_true rfl) dX11_adds_2 (by decide) ?_
  rintro _ _ ⟨rfl, rfl⟩
  refine j_v (bI (inn p 0 (row 3 - 1))) (by rw [hS7]) ?_
  refine j_if_eq C 18 dX11_adds_5 (by decide) (fun c5 => ?_) (fun c5 => ?_)
  · replace c5 := bI_f c5
    refine j_aload_n C 0 dX11_adds_18 rfl ?_
    refine j_iconst C (v := (nI 1)) dX11_adds_19 (by decide) ?_
    refine j_callV (As := [.int (nI 1)]) (rest := []) C vw11_90 (h_error 1 (by decide)) ⟨0, 11, _, _, rfl, rfl, rfl⟩ rfl (Nat.le_of_ble_eq_true rfl) dX11_adds_20 (by decide) ?_
    rintro _ _ ⟨rfl, rfl⟩
    refine j_iret C dX11_adds_23 ?_
    unfold sp_adds
    rw [if_neg (fun h => c5 h.1)]
    exact ⟨show (-1000000000 : Int32) - nI 1 = -1000000001 from by decide, hC.er 1⟩
  · replace c5 := bI_t c5
    obtain ⟨pn, hpn, rfl⟩ := inn_row c5 e3 (by omega)
    refine j_iload_n C 2 dX11_adds_8 rfl ?_
    refine j_iconst C (v := (nI 0)) dX11_adds_9 (by decide) ?_
    refine j_bipush C (v := (nI 60)) dX11_adds_10 (by decide) ?_
    refine j_callS (As := [.int n, .int (nI 0), .int (nI 60)]) (rest := []) C sw11_86 (h_within) rfl (Nat.le_of_ble_eq_true rfl) dX11_adds_12 (by decide) ?_
    rintro _ _ ⟨rfl, rfl⟩
    refine j_if_ne C 24 dX11_adds_15 (by decide) (fun c15 => ?_) (fun c15 => ?_)
    · replace c15 := bI_t c15
      obtain ⟨nn, gnn, hnn, rfl⟩ := inn_lit c15 (by omega)
      refine j_iconst C (v := (nI 0)) dX11_adds_24 (by decide) ?_
      refine j_istore_n C [(3, .int (nI 0)), (0, .ref (q 0)), (1, .int (nI pn)), (2, .int (nI nn))] dX11_adds_25 (by decide) rfl ?_
      refine j_L [1, 2, 3, 0] [(0, .ref (q 0)), (1, .int (nI pn)), (2, .int (nI nn)), (3, .int (nI 0))] rfl ?_
      refine j_loop (X := Nat × (Nat → Int32) × (Nat → Nat → Int32)) (fun (z : Nat × (Nat → Int32) × (Nat → Nat → Int32)) => match z with | (b, T, Y) => b ≤ 41 ∧ FrT T Y S X ∧ ∀ m, m < b → ¬ addP V row pn nn m) (fun (z : Nat × (Nat → Int32) × (Nat → Nat → Int32)) => match z with | (b, T, Y) => 41 - b) (fun (z : Nat × (Nat → Int32) × (Nat → Nat → Int32)) => match z with | (b, T, Y) => (T, Y, P)) (fun (z : Nat × (Nat → Int32) × (Nat → Nat → Int32)) => match z with | (b, T, Y) => [(0, .ref (q 0)), (1, .int (nI pn)), (2, .int (nI nn)), (3, .int (nI b))]) (0, S, X) (⟨Nat.zero_le _, FrT.rf, fun m h => absurd h (Nat.not_lt_zero _)⟩) rfl rfl ?_
      rintro ⟨b, T, Y⟩ ⟨hi, hT, hu⟩ ih
      try dsimp only at ih ⊢
      refine j_iload_n C 3 dX11_adds_26 rfl ?_
      refine j_bipush C (v := (nI 40)) dX11_adds_27 (by decide) ?_
      refine j_icmp_gt C 67 dX11_adds_29 (by decide) (fun c29 => ?_) (fun c29 => ?_)
      · rw [nI_ltI (by omega) (by omega)] at c29
        refine j_aload_n C 0 dX11_adds_67 rfl ?_
        refine j_iconst C (v := (nI 2)) dX11_adds_68 (by decide) ?_
        refine j_callV (As := [.int (nI 2)]) (rest := []) C vw11_90 (h_error 2 (by decide)) ⟨0, 11, _, _, rfl, rfl, rfl⟩ rfl (Nat.le_of_ble_eq_true rfl) dX11_adds_69 (by decide) ?_
        rintro _ _ ⟨rfl, rfl⟩
        refine j_iret C dX11_adds_72 ?_
        unfold sp_adds
        have hl : lsF (addP V row pn nn) 41 0 = 41 := lsF_at (Nat.zero_le _) (by omega) (fun m _ hm => hu m (by omega)) (Or.inr rfl)
        rw [if_pos ⟨c5, c15⟩, tN_nI (n := pn) (by omega), tN_nI (n := nn) (by omega)]
        rw [hl, if_neg (by omega)]
        exact ⟨show (-1000000000 : Int32) - nI 2 = -1000000002 from by decide, (hC.th hT).er 2⟩
      · rw [nI_ltI (by omega) (by omega)] at c29
        refine j_aload_n C 0 dX11_adds_32 rfl ?_
        refine j_iconst C (v := (nI 0)) dX11_adds_33 (by decide) ?_
        refine j_callVv (As := [.int (nI 0)]) (rest := []) C vw11_225 (h_imagine (hF.ft hT) hI (hK.ft hT) hW 0 (by omega)) ⟨0, 11, _, _, rfl, rfl, rfl⟩ rfl (Nat.le_of_ble_eq_true rfl) dX11_adds_34 (by decide) ?_
        rintro _ ⟨S0, X0, rfl, hF2w, hT0⟩
        have hTT := hT0.tr hT
        refine j_aload_n C 0 dX11_adds_37 rfl ?_
        refine j_get C (v := .ref (q 5)) 0 3 rfl rfl inlC11 (by decide) kf11_79 rfl dX11_adds_38 ?_
        refine j_getN C (v := .ref (q 64)) 5 11 rfl rfl inlC1 (by decide) kf11_148 rfl dX11_adds_41 ?_
        refine j_iload_n C 1 dX11_adds_44 rfl ?_
        refine j_dup2 C dX11_adds_45 rfl rfl ?_
        refine j_ialdN C 64 0 rfl rfl pn rfl (by omega) (by decide) dX11_adds_46 ?_
        refine j_v (wtF row nw (nI 0) pn) (hF2w.weighs pn hpn) ?_
        refine j_iload_n C 3 dX11_adds_47 rfl ?_
        refine j_iadd C dX11_adds_48 ?_
        refine j_iastN C 64 0 rfl rfl pn rfl (by omega) (by decide) dX11_adds_49 (S0, va_up X0 64 (upd (X0 64) pn ((wtF row nw (nI 0) pn) + (nI b))), P) rfl ?_
        refine j_aload_n C 0 dX11_adds_50 rfl ?_
        refine j_iload_n C 1 dX11_adds_51 rfl ?_
        refine j_iload_n C 2 dX11_adds_52 rfl ?_
        refine j_callV (As := [.int (nI pn), .int (nI nn)]) (rest := []) C vw11_232 (h_staysFed (w := (wv (addV V pn b) row nw)) hI ((hF.ft hTT).oth (by omega)) (hF2w.setW (add_w hV15 hV16 hV18 hn6 hpn hF2w.weighs)) ((hC.l0.ft (by omega) (by omega) hTT FR.rf).oth (by omega)) ((hC.l1.ft (by omega) (by omega) hTT FR.rf).oth (by omega)) pn nn hpn (by omega)) ⟨0, 11, _, _, rfl, rfl, rfl⟩ rfl (Nat.le_of_ble_eq_true rfl) dX11_adds_53 (by decide) ?_
        rintro _ _ ⟨T1, Y1, rfl, hT1, rfl⟩
        refine j_if_eq C 61 dX11_adds_56 (by decide) (fun c56 => ?_) (fun c56 => ?_)
        · replace c56 := bI_f c56
          refine j_iinc C (v := (nI (b + 1))) 3 [(3, .int (nI (b + 1))), (0, .ref (q 0)), (1, .int (nI pn)), (2, .int (nI nn))] dX11_adds_61 rfl (nI_1 _) (by decide) rfl ?_
          refine j_goto C 26 dX11_adds_64 (by decide) ?_
          refine j_L [1, 2, 3, 0] [(0, .ref (q 0)), (1, .int (nI pn)), (2, .int (nI nn)), (3, .int (nI (b + 1)))] rfl ?_
          exact ih (b + 1, T1, Y1) (⟨by dsimp only; omega, hT1.tr ((hT0.up (by omega)).tr hT), fun m hm => by
      dsimp only at hm
      by_cases e : m = b
      · subst e; exact fun h => c56 (fun g => h ((hg_iff e3 e8 hn6 hw8).2 g))
      · exact hu m (by omega)⟩) (by dsimp only; omega)
        · replace c56 := bI_t c56
          refine j_iload_n C 3 dX11_adds_59 rfl ?_
          refine j_iret C dX11_adds_60 ?_
          unfold sp_adds
          have hl : lsF (addP V row pn nn) 41 0 = b := lsF_at (Nat.zero_le _) (by omega) (fun m _ hm => hu m hm) (Or.inl (fun g => c56 ((hg_iff e3 e8 hn6 hw8).1 g)))
          rw [if_pos ⟨c5, c15⟩, tN_nI (n := pn) (by omega), tN_nI (n := nn) (by omega)]
          rw [hl, if_pos (by omega)]
          exact ⟨rfl, hC.th (hT1.tr ((hT0.up (by omega)).tr hT))⟩
    · replace c15 := bI_f c15
      refine j_aload_n C 0 dX11_adds_18 rfl ?_
      refine j_iconst C (v := (nI 1)) dX11_adds_19 (by decide) ?_
      refine j_callV (As := [.int (nI 1)]) (rest := []) C vw11_90 (h_error 1 (by decide)) ⟨0, 11, _, _, rfl, rfl, rfl⟩ rfl (Nat.le_of_ble_eq_true rfl) dX11_adds_20 (by decide) ?_
      rintro _ _ ⟨rfl, rfl⟩
      refine j_iret C dX11_adds_23 ?_
      unfold sp_adds
      rw [if_neg (fun h => c15 h.2)]
      exact ⟨show (-1000000000 : Int32) - nI 1 = -1000000001 from by decide, hC.er 1⟩
theorem dX11_starves_0 : decode cX11_starves 0 = .ok (.iload_n 1, 1) := by decide +kernel
theorem dX11_starves_1 : decode cX11_starves 1 = .ok (.iconst 0, 1) := by decide +kernel
theorem dX11_starves_2 : decode cX11_starves 2 = .ok (.bipush 60, 2) := by decide +kernel
theorem dX11_starves_4 : decode cX11_starves 4 = .ok (.invokestatic 86, 3) := by decide +kernel
theorem dX11_starves_7 : decode cX11_starves 7 = .ok (.ifCond .ne 9, 3) := by decide +kernel
theorem dX11_starves_10 : decode cX11_starves 10 = .ok (.aload_n 0, 1) := by decide +kernel
theorem dX11_starves_11 : decode cX11_starves 11 = .ok (.iconst 1, 1) := by decide +kernel
theorem dX11_starves_12 : decode cX11_starves 12 = .ok (.invokevirtual 90, 3) := by decide +kernel
theorem dX11_starves_15 : decode cX11_starves 15 = .ok (.ireturn, 1) := by decide +kernel
theorem dX11_starves_16 : decode cX11_starves 16 = .ok (.iconst 0, 1) := by decide +kernel
theorem dX11_starves_17 : decode cX11_starves 17 = .ok (.istore_n 2, 1) := by decide +kernel
theorem dX11_starves_18 : decode cX11_starves 18 = .ok (.iconst 0, 1) := by decide +kernel
theorem dX11_starves_19 : decode cX11_starves 19 = .ok (.istore_n 3, 1) := by decide +kernel
theorem dX11_starves_20 : decode cX11_starves 20 = .ok (.iload_n 3, 1) := by decide +kernel
theorem dX11_starves_21 : decode cX11_starves 21 = .ok (.aload_n 0, 1) := by decide +kernel
theorem dX11_starves_22 : decode cX11_starves 22 = .ok (.getfield 75, 3) := by decide +kernel
theorem dX11_starves_25 : decode cX11_starves 25 = .ok (.getfield 94, 3) := by decide +kernel
theorem dX11_starves_28 : decode cX11_starves 28 = .ok (.getfield 97, 3) := by decide +kernel
theorem dX11_starves_31 : decode cX11_starves 31 = .ok (.if_icmp .ge 36, 3) := by decide +kernel
theorem dX11_starves_34 : decode cX11_starves 34 = .ok (.aload_n 0, 1) := by decide +kernel
theorem dX11_starves_35 : decode cX11_starves 35 = .ok (.aload_n 0, 1) := by decide +kernel
theorem dX11_starves_36 : decode cX11_starves 36 = .ok (.getfield 75, 3) := by decide +kernel
theorem dX11_starves_39 : decode cX11_starves 39 = .ok (.iload_n 3, 1) := by decide +kernel
theorem dX11_starves_40 : decode cX11_starves 40 = .ok (.invokevirtual 243, 3) := by decide +kernel
theorem dX11_starves_43 : decode cX11_starves 43 = .ok (.invokevirtual 225, 3) := by decide +kernel
theorem dX11_starves_46 : decode cX11_starves 46 = .ok (.aload_n 0, 1) := by decide +kernel
theorem dX11_starves_47 : decode cX11_starves 47 = .ok (.iload_n 3, 1) := by decide +kernel
theorem dX11_starves_48 : decode cX11_starves 48 = .ok (.iload_n 1, 1) := by decide +kernel
theorem dX11_starves_49 : decode cX11_starves 49 = .ok (.invokevirtual 232, 3) := by decide +kernel
theorem dX11_starves_52 : decode cX11_starves 52 = .ok (.ifCond .ne 9, 3) := by decide +kernel
theorem dX11_starves_55 : decode cX11_starves 55 = .ok (.iload_n 2, 1) := by decide +kernel
theorem dX11_starves_56 : decode cX11_starves 56 = .ok (.iconst 1, 1) := by decide +kernel
theorem dX11_starves_57 : decode cX11_starves 57 = .ok (.iload_n 3, 1) := by decide +kernel
theorem dX11_starves_58 : decode cX11_starves 58 = .ok (.ishl, 1) := by decide +kernel
theorem dX11_starves_59 : decode cX11_starves 59 = .ok (.ior, 1) := by decide +kernel
theorem dX11_starves_60 : decode cX11_starves 60 = .ok (.istore_n 2, 1) := by decide +kernel
theorem dX11_starves_61 : decode cX11_starves 61 = .ok (.iinc 3 1, 3) := by decide +kernel
theorem dX11_starves_64 : decode cX11_starves 64 = .ok (.goto (-44), 3) := by decide +kernel
theorem dX11_starves_67 : decode cX11_starves 67 = .ok (.iload_n 2, 1) := by decide +kernel
theorem dX11_starves_68 : decode cX11_starves 68 = .ok (.ireturn, 1) := by decide +kernel
set_option maxHeartbeats 2000000 in
set_option maxRecDepth 20000 in
theorem k_starves {l : Launch} {D : va_G} {cI cG cW : ClassId} {q : Nat → Nat} {S : Nat → Int32} {X : Nat → Nat → Int32} {P : Nat → Nat} {n : Int32} {V row kept tried bf fd pk bo so sh mv tr : Nat → Int32} {nc np nw d nt nq : Nat} (hR : RKx row nc np nw d nt nq) (hC : CR (S, X, P) (sR V row kept tried bf fd pk bo so sh mv tr)) (hV15 : V 15 = 0) (hV16 : V 16 = -1) (hV18 : V 18 = -1) : Ci l yX11_starves cX11_starves 4 (some .int) 9 D (tyL cI cG cW) (wC cI cG cW q) [.ref (q 0), .int n] (S, X, P) (fun r τ => r = (sp_starves V row kept tried bf fd pk bo so sh mv tr n).1 ∧ CR τ (sp_starves V row kept tried bf fd pk bo so sh mv tr n).2) := by
  refine Ci.of (by decide) (Nat.le_of_ble_eq_true rfl) ?_
  intro p_ e_ s_ m_ b_ M_ c_ A_ C
  replace C : Cx _ _ _ _ _ _ _ _ RX11 _ _ _ _ := C
  refine j_L [0, 1] [(0, .ref (q 0)), (1, .int n)] rfl ?_
  obtain ⟨hI, hW, ⟨e0, hd⟩, ⟨e4, ht⟩, ⟨e5, hq⟩, hB⟩ := id hR
  obtain ⟨⟨e2, hc2, hc10⟩, ⟨e3, hn6⟩, ⟨e8, hw8⟩, hP, hE, hLo, hT0, hT1⟩ := id hI
  have hIc := hI
  have hF : CF S X 0 row (X 44) nc np := by have h := hC.fld; rw [e2, e3, tN_nI (by omega), tN_nI (by omega)] at h; exact h
  have hK : CK S X 0 row nw nt nq := by have h := hC.kp; rw [e8, e4, e5, tN_nI (by omega), tN_nI (by omega), tN_nI (by omega)] at h; exact h
  have hS1 : S 1 = row 8 := hK.wrongs
  have hS5 : S 5 = row 2 := hF.cells
  have hS7 : S 7 = row 3 := hF.people
  have hT : FrT S X S X := FrT.rf
  refine j_iload_n C 1 dX11_starves_0 rfl ?_
  refine j_iconst C (v := (nI 0)) dX11_starves_1 (by decide) ?_
  refine j_bipush C (v := (nI 60)) dX11_starves_2 (by decide) ?_
  refine j_callS (As := [.int n, .int (nI 0), .int (nI 60)]) (rest := []) C sw11_86 (h_within) rfl (Nat.le_of_ble_eq_true rfl) dX11_starves_4 (by decide) ?_
  rintro _ _ ⟨rfl, rfl⟩
  refine j_if_ne C 16 dX11_starves_7 (by decide) (fun c7 => ?_) (fun c7 => ?_)
  · replace c7 := bI_t c7
    obtain ⟨nn, gnn, hnn, rfl⟩ := inn_lit c7 (by omega)
    refine j_iconst C (v := (nI 0)) dX11_starves_16 (by decide) ?_
    refine j_istore_n C [(2, .int (nI 0)), (0, .ref (q 0)), (1, .int (nI nn))] dX11_starves_17 (by decide) rfl ?_
    refine j_iconst C (v := (nI 0)) dX11_starves_18 (by decide) ?_
    refine j_istore_n C [(3, .int (nI 0)), (2, .int (nI 0)), (0, .ref (q 0)), (1, .int (nI nn))] dX11_starves_19 (by decide) rfl ?_
    refine j_L [2, 3, 1, 0] [(0, .ref (q 0)), (1, .int (nI nn)), (2, .int (nI 0)), (3, .int (nI 0))] rfl ?_
    refine j_loop (X := Nat × Int32 × (Nat → Int32) × (Nat → Nat → Int32)) (fun (z : Nat × Int32 × (Nat → Int32) × (Nat → Nat → Int32)) => match z with | (i, s, T, Y) => i ≤ np ∧ s = starF V row nn np nw i ∧ FrT T Y S X) (fun (z : Nat × Int32 × (Nat → Int32) × (Nat → Nat → Int32)) => match z with | (i, s, T, Y) => np - i) (fun (z : Nat × Int32 × (Nat → Int32) × (Nat → Nat → Int32)) => match z with | (i, s, T, Y) => (T, Y, P)) (fun (z : Nat × Int32 × (Nat → Int32) × (Nat → Nat → Int32)) => match z with | (i, s, T, Y) => [(0, .ref (q 0)), (1, .int (nI nn)), (2, .int s), (3, .int (nI i))]) (0, nI 0, S, X) (⟨Nat.zero_le _, rfl, FrT.rf⟩) rfl rfl ?_
    rintro ⟨i, s, T, Y⟩ ⟨hi, hs, hT⟩ ih
    try dsimp only at ih ⊢
    refine j_iload_n C 3 dX11_starves_20 rfl ?_
    refine j_aload_n C 0 dX11_starves_21 rfl ?_
    refine j_get C (v := .ref (q 1)) 0 1 rfl rfl inlC11 (by decide) kf11_75 rfl dX11_starves_22 ?_
    refine j_getN C (v := .ref (q 3)) 1 0 rfl rfl inlC3 (by decide) kf11_94 rfl dX11_starves_25 ?_
    refine j_getN C (v := .int (T 7)) 3 4 rfl rfl inlC1 (by decide) kf11_97 rfl dX11_starves_28 ?_
    refine j_v (nI np) ((hT.1 7 (by omega)).trans (hS7.trans e3)) ?_
    refine j_icmp_ge C 67 dX11_starves_31 (by decide) (fun c31 => ?_) (fun c31 => ?_)
    · rw [nI_leI (by omega) (by omega)] at c31
      refine j_iload_n C 2 dX11_starves_67 rfl ?_
      refine j_iret C dX11_starves_68 ?_
      unfold sp_starves
      rw [if_pos c7, tN_nI (n := nn) (by omega), e3, e8, tN_nI (n := np) (by omega), tN_nI (n := nw) (by omega)]
      exact ⟨by rw [hs, show i = np by omega], hC.th hT⟩
    · rw [nI_leI (by omega) (by omega)] at c31
      refine j_aload_n C 0 dX11_starves_34 rfl ?_
      refine j_aload_n C 0 dX11_starves_35 rfl ?_
      refine j_get C (v := .ref (q 1)) 0 1 rfl rfl inlC11 (by decide) kf11_75 rfl dX11_starves_36 ?_
      refine j_iload_n C 3 dX11_starves_39 rfl ?_
      refine j_callVN (As := [.int (nI i)]) (rest := [.ref (q 0)]) C vn11_243 (h_doneBy (hK.ft hT) e8 hw8) ⟨1, 3, _, _, rfl, rfl, rfl⟩ rfl (Nat.le_of_ble_eq_true rfl) dX11_starves_40 (by decide) ?_
      rintro _ _ ⟨rfl, rfl⟩
      obtain ⟨ms, hms, ems⟩ := db_nI row (nI i) hw8
      refine j_v (nI ms) ems ?_
      refine j_callVv (As := [.int (nI ms)]) (rest := []) C vw11_225 (h_imagine (hF.ft hT) hI (hK.ft hT) hW ms (by omega)) ⟨0, 11, _, _, rfl, rfl, rfl⟩ rfl (Nat.le_of_ble_eq_true rfl) dX11_starves_43 (by decide) ?_
      rintro _ ⟨S0, X0, rfl, hF2w, hT0⟩
      have hTT := hT0.tr hT
      have hF2 := hF2w.wc (wt_wv (V := stV V row i nw) (nw := nw) (pk_us.trans ((msk_db row i nw).trans ems)) ((pk_un (by omega)).trans hV16) ((pk_un (by omega)).trans hV18) hn6)
      refine j_aload_n C 0 dX11_starves_46 rfl ?_
      refine j_iload_n C 3 dX11_starves_47 rfl ?_
      refine j_iload_n C 1 dX11_starves_48 rfl ?_
      refine j_callV (As := [.int (nI i), .int (nI nn)]) (rest := []) C vw11_232 (h_staysFed (w := (wv (stV V row i nw) row nw)) hI (hF.ft hTT) hF2 (hC.l0.ft (by omega) (by omega) hTT FR.rf) (hC.l1.ft (by omega) (by omega) hTT FR.rf) i nn (by omega) (by omega)) ⟨0, 11, _, _, rfl, rfl, rfl⟩ rfl (Nat.le_of_ble_eq_true rfl) dX11_starves_49 (by decide) ?_
      rintro _ _ ⟨T1, Y1, rfl, hT1, rfl⟩
      refine j_if_ne C 61 dX11_starves_52 (by decide) (fun c52 => ?_) (fun c52 => ?_)
      · replace c52 := bI_t c52
        refine j_iinc C (v := (nI (i + 1))) 3 [(3, .int (nI (i + 1))), (0, .ref (q 0)), (1, .int (nI nn)), (2, .int s)] dX11_starves_61 rfl (nI_1 _) (by decide) rfl ?_
        refine j_goto C 20 dX11_starves_64 (by decide) ?_
        refine j_L [1, 2, 3, 0] [(0, .ref (q 0)), (1, .int (nI nn)), (2, .int s), (3, .int (nI (i + 1)))] rfl ?_
        exact ih (i + 1, s, T1, Y1) (⟨by dsimp only; omega, by dsimp only; rw [starF, hun_and hn6 (by omega), ← hs, if_neg c52, or_nI0], hT1.tr hTT⟩) (by dsimp only; omega)
      · replace c52 := bI_f c52
        refine j_iload_n C 2 dX11_starves_55 rfl ?_
        refine j_iconst C (v := (nI 1)) dX11_starves_56 (by decide) ?_
        refine j_iload_n C 3 dX11_starves_57 rfl ?_
        refine j_ishl C dX11_starves_58 ?_
        refine j_ior C dX11_starves_59 ?_
        refine j_istore_n C [(2, .int (s ||| ((nI 1) <<< ((nI i) &&& 31)))), (0, .ref (q 0)), (1, .int (nI nn)), (3, .int (nI i))] dX11_starves_60 (by decide) rfl ?_
        refine j_iinc C (v := (nI (i + 1))) 3 [(3, .int (nI (i + 1))), (2, .int (s ||| ((nI 1) <<< ((nI i) &&& 31)))), (0, .ref (q 0)), (1, .int (nI nn))] dX11_starves_61 rfl (nI_1 _) (by decide) rfl ?_
        refine j_goto C 20 dX11_starves_64 (by decide) ?_
        refine j_L [2, 3, 1, 0] [(0, .ref (q 0)), (1, .int (nI nn)), (2, .int (s ||| ((nI 1) <<< ((nI i) &&& 31)))), (3, .int (nI (i + 1)))] rfl ?_
        exact ih (i + 1, s ||| ((nI 1) <<< ((nI i) &&& 31)), T1, Y1) (⟨by dsimp only; omega, by dsimp only; rw [starF, hun_and hn6 (by omega), ← hs, if_pos (Classical.not_not.1 c52)], hT1.tr hTT⟩) (by dsimp only; omega)
  · replace c7 := bI_f c7
    refine j_aload_n C 0 dX11_starves_10 rfl ?_
    refine j_iconst C (v := (nI 1)) dX11_starves_11 (by decide) ?_
    refine j_callV (As := [.int (nI 1)]) (rest := []) C vw11_90 (h_error 1 (by decide)) ⟨0, 11, _, _, rfl, rfl, rfl⟩ rfl (Nat.le_of_ble_eq_true rfl) dX11_starves_12 (by decide) ?_
    rintro _ _ ⟨rfl, rfl⟩
    refine j_iret C dX11_starves_15 ?_
    unfold sp_starves
    rw [if_neg c7]
    exact ⟨show (-1000000000 : Int32) - nI 1 = -1000000001 from by decide, hC.er 1⟩
theorem dX11_odds_0 : decode cX11_odds 0 = .ok (.aload_n 0, 1) := by decide +kernel
theorem dX11_odds_1 : decode cX11_odds 1 = .ok (.iload_n 1, 1) := by decide +kernel
theorem dX11_odds_2 : decode cX11_odds 2 = .ok (.invokevirtual 123, 3) := by decide +kernel
theorem dX11_odds_5 : decode cX11_odds 5 = .ok (.ifCond .eq 22, 3) := by decide +kernel
theorem dX11_odds_8 : decode cX11_odds 8 = .ok (.iload_n 2, 1) := by decide +kernel
theorem dX11_odds_9 : decode cX11_odds 9 = .ok (.iconst 0, 1) := by decide +kernel
theorem dX11_odds_10 : decode cX11_odds 10 = .ok (.bipush 60, 2) := by decide +kernel
theorem dX11_odds_12 : decode cX11_odds 12 = .ok (.invokestatic 86, 3) := by decide +kernel
theorem dX11_odds_15 : decode cX11_odds 15 = .ok (.ifCond .eq 12, 3) := by decide +kernel
theorem dX11_odds_18 : decode cX11_odds 18 = .ok (.iload_n 3, 1) := by decide +kernel
theorem dX11_odds_19 : decode cX11_odds 19 = .ok (.iconst 0, 1) := by decide +kernel
theorem dX11_odds_20 : decode cX11_odds 20 = .ok (.iconst 1, 1) := by decide +kernel
theorem dX11_odds_21 : decode cX11_odds 21 = .ok (.invokestatic 86, 3) := by decide +kernel
theorem dX11_odds_24 : decode cX11_odds 24 = .ok (.ifCond .ne 9, 3) := by decide +kernel
theorem dX11_odds_27 : decode cX11_odds 27 = .ok (.aload_n 0, 1) := by decide +kernel
theorem dX11_odds_28 : decode cX11_odds 28 = .ok (.iconst 1, 1) := by decide +kernel
theorem dX11_odds_29 : decode cX11_odds 29 = .ok (.invokevirtual 90, 3) := by decide +kernel
theorem dX11_odds_32 : decode cX11_odds 32 = .ok (.ireturn, 1) := by decide +kernel
theorem dX11_odds_33 : decode cX11_odds 33 = .ok (.aload_n 0, 1) := by decide +kernel
theorem dX11_odds_34 : decode cX11_odds 34 = .ok (.getfield 75, 3) := by decide +kernel
theorem dX11_odds_37 : decode cX11_odds 37 = .ok (.getfield 164, 3) := by decide +kernel
theorem dX11_odds_40 : decode cX11_odds 40 = .ok (.ifCond .ne 9, 3) := by decide +kernel
theorem dX11_odds_43 : decode cX11_odds 43 = .ok (.aload_n 0, 1) := by decide +kernel
theorem dX11_odds_44 : decode cX11_odds 44 = .ok (.iconst 3, 1) := by decide +kernel
theorem dX11_odds_45 : decode cX11_odds 45 = .ok (.invokevirtual 90, 3) := by decide +kernel
theorem dX11_odds_48 : decode cX11_odds 48 = .ok (.ireturn, 1) := by decide +kernel
theorem dX11_odds_49 : decode cX11_odds 49 = .ok (.iconst 0, 1) := by decide +kernel
theorem dX11_odds_50 : decode cX11_odds 50 = .ok (.istore 4, 2) := by decide +kernel
theorem dX11_odds_52 : decode cX11_odds 52 = .ok (.iconst 0, 1) := by decide +kernel
theorem dX11_odds_53 : decode cX11_odds 53 = .ok (.istore 5, 2) := by decide +kernel
theorem dX11_odds_55 : decode cX11_odds 55 = .ok (.iload 5, 2) := by decide +kernel
theorem dX11_odds_57 : decode cX11_odds 57 = .ok (.aload_n 0, 1) := by decide +kernel
theorem dX11_odds_58 : decode cX11_odds 58 = .ok (.getfield 75, 3) := by decide +kernel
theorem dX11_odds_61 : decode cX11_odds 61 = .ok (.getfield 164, 3) := by decide +kernel
theorem dX11_odds_64 : decode cX11_odds 64 = .ok (.if_icmp .ge 29, 3) := by decide +kernel
theorem dX11_odds_67 : decode cX11_odds 67 = .ok (.aload_n 0, 1) := by decide +kernel
theorem dX11_odds_68 : decode cX11_odds 68 = .ok (.iconst 1, 1) := by decide +kernel
theorem dX11_odds_69 : decode cX11_odds 69 = .ok (.iload 5, 2) := by decide +kernel
theorem dX11_odds_71 : decode cX11_odds 71 = .ok (.ishl, 1) := by decide +kernel
theorem dX11_odds_72 : decode cX11_odds 72 = .ok (.invokevirtual 225, 3) := by decide +kernel
theorem dX11_odds_75 : decode cX11_odds 75 = .ok (.aload_n 0, 1) := by decide +kernel
theorem dX11_odds_76 : decode cX11_odds 76 = .ok (.iload_n 1, 1) := by decide +kernel
theorem dX11_odds_77 : decode cX11_odds 77 = .ok (.iload_n 2, 1) := by decide +kernel
theorem dX11_odds_78 : decode cX11_odds 78 = .ok (.invokevirtual 232, 3) := by decide +kernel
theorem dX11_odds_81 : decode cX11_odds 81 = .ok (.ifCond .eq 6, 3) := by decide +kernel
theorem dX11_odds_84 : decode cX11_odds 84 = .ok (.iinc 4 1, 3) := by decide +kernel
theorem dX11_odds_87 : decode cX11_odds 87 = .ok (.iinc 5 1, 3) := by decide +kernel
theorem dX11_odds_90 : decode cX11_odds 90 = .ok (.goto (-35), 3) := by decide +kernel
theorem dX11_odds_93 : decode cX11_odds 93 = .ok (.iload 4, 2) := by decide +kernel
theorem dX11_odds_95 : decode cX11_odds 95 = .ok (.aload_n 0, 1) := by decide +kernel
theorem dX11_odds_96 : decode cX11_odds 96 = .ok (.getfield 75, 3) := by decide +kernel
theorem dX11_odds_99 : decode cX11_odds 99 = .ok (.getfield 164, 3) := by decide +kernel
theorem dX11_odds_102 : decode cX11_odds 102 = .ok (.invokestatic 259, 3) := by decide +kernel
theorem dX11_odds_105 : decode cX11_odds 105 = .ok (.istore 5, 2) := by decide +kernel
theorem dX11_odds_107 : decode cX11_odds 107 = .ok (.iload 5, 2) := by decide +kernel
theorem dX11_odds_109 : decode cX11_odds 109 = .ok (.ifCond .ne 5, 3) := by decide +kernel
theorem dX11_odds_112 : decode cX11_odds 112 = .ok (.iconst 0, 1) := by decide +kernel
theorem dX11_odds_113 : decode cX11_odds 113 = .ok (.ireturn, 1) := by decide +kernel
theorem dX11_odds_114 : decode cX11_odds 114 = .ok (.iload_n 3, 1) := by decide +kernel
theorem dX11_odds_115 : decode cX11_odds 115 = .ok (.ifCond .ne 8, 3) := by decide +kernel
theorem dX11_odds_118 : decode cX11_odds 118 = .ok (.iload 4, 2) := by decide +kernel
theorem dX11_odds_120 : decode cX11_odds 120 = .ok (.goto 10, 3) := by decide +kernel
theorem dX11_odds_123 : decode cX11_odds 123 = .ok (.aload_n 0, 1) := by decide +kernel
theorem dX11_odds_124 : decode cX11_odds 124 = .ok (.getfield 75, 3) := by decide +kernel
theorem dX11_odds_127 : decode cX11_odds 127 = .ok (.getfield 164, 3) := by decide +kernel
theorem dX11_odds_130 : decode cX11_odds 130 = .ok (.iload 5, 2) := by decide +kernel
theorem dX11_odds_132 : decode cX11_odds 132 = .ok (.idiv, 1) := by decide +kernel
theorem dX11_odds_133 : decode cX11_odds 133 = .ok (.ireturn, 1) := by decide +kernel
set_option maxHeartbeats 2000000 in
set_option maxRecDepth 20000 in
theorem k_odds {l : Launch} {D : va_G} {cI cG cW : ClassId} {q : Nat → Nat} {S : Nat → Int32} {X : Nat → Nat → Int32} {P : Nat → Nat} {p n part : Int32} {V row kept tried bf fd pk bo so sh mv tr : Nat → Int32} {nc np nw d nt nq : Nat} (hR : RKx row nc np nw d nt nq) (hC : CR (S, X, P) (sR V row kept tried bf fd pk bo so sh mv tr)) (hV15 : V 15 = 0) (hV16 : V 16 = -1) (hV18 : V 18 = -1) : Ci l yX11_odds cX11_odds 6 (some .int) 9 D (tyL cI cG cW) (wC cI cG cW q) [.ref (q 0), .int p, .int n, .int part] (S, X, P) (fun r τ => r = (sp_odds V row kept tried bf fd pk bo so sh mv tr p n part).1 ∧ CR τ (sp_odds V row kept tried bf fd pk bo so sh mv tr p n part).2) := by
  refine Ci.of (by decide) (Nat.le_of_ble_eq_true rfl) ?_
  intro p_ e_ s_ m_ b_ M_ c_ A_ C
  replace C : Cx _ _ _ _ _ _ _ _ RX11 _ _ _ _ := C
  refine j_L [0, 1, 2, 3] [(0, .ref (q 0)), (1, .int p), (2, .int n), (3, .int part)] rfl ?_
  obtain ⟨hI, hW, ⟨e0, hd⟩, ⟨e4, ht⟩, ⟨e5, hq⟩, hB⟩ := id hR
  obtain ⟨⟨e2, hc2, hc10⟩, ⟨e3, hn6⟩, ⟨e8, hw8⟩, hP, hE, hLo, hT0, hT1⟩ := id hI
  have hIc := hI
  have hF : CF S X 0 row (X 44) nc np := by have h := hC.fld; rw [e2, e3, tN_nI (by omega), tN_nI (by omega)] at h; exact h
  have hK : CK S X 0 row nw nt nq := by have h := hC.kp; rw [e8, e4, e5, tN_nI (by omega), tN_nI (by omega), tN_nI (by omega)] at h; exact h
  have hS1 : S 1 = row 8 := hK.wrongs
  have hS5 : S 5 = row 2 := hF.cells
  have hS7 : S 7 = row 3 := hF.people
  have hT : FrT S X S X := FrT.rf
  refine j_aload_n C 0 dX11_odds_0 rfl ?_
  refine j_iload_n C 1 dX11_odds_1 rfl ?_
  refine j_callV (As := [.int p]) (rest := []) C vw11_123 (h_isPerson) ⟨0, 11, _, _, rfl, rfl, rfl⟩ rfl (Nat.le_of_ble_eq_true rfl) dX11_odds_2 (by decide) ?_
  rintro _ _ ⟨rfl, rfl⟩
  refine j_v (bI (inn p 0 (row 3 - 1))) (by rw [hS7]) ?_
  refine j_if_eq C 27 dX11_odds_5 (by decide) (fun c5 => ?_) (fun c5 => ?_)
  · replace c5 := bI_f c5
    refine j_aload_n C 0 dX11_odds_27 rfl ?_
    refine j_iconst C (v := (nI 1)) dX11_odds_28 (by decide) ?_
    refine j_callV (As := [.int (nI 1)]) (rest := []) C vw11_90 (h_error 1 (by decide)) ⟨0, 11, _, _, rfl, rfl, rfl⟩ rfl (Nat.le_of_ble_eq_true rfl) dX11_odds_29 (by decide) ?_
    rintro _ _ ⟨rfl, rfl⟩
    refine j_iret C dX11_odds_32 ?_
    unfold sp_odds
    rw [if_neg (fun h => c5 h.1)]
    exact ⟨show (-1000000000 : Int32) - nI 1 = -1000000001 from by decide, hC.er 1⟩
  · replace c5 := bI_t c5
    obtain ⟨pn, hpn, rfl⟩ := inn_row c5 e3 (by omega)
    refine j_iload_n C 2 dX11_odds_8 rfl ?_
    refine j_iconst C (v := (nI 0)) dX11_odds_9 (by decide) ?_
    refine j_bipush C (v := (nI 60)) dX11_odds_10 (by decide) ?_
    refine j_callS (As := [.int n, .int (nI 0), .int (nI 60)]) (rest := []) C sw11_86 (h_within) rfl (Nat.le_of_ble_eq_true rfl) dX11_odds_12 (by decide) ?_
    rintro _ _ ⟨rfl, rfl⟩
    refine j_if_eq C 27 dX11_odds_15 (by decide) (fun c15 => ?_) (fun c15 => ?_)
    · replace c15 := bI_f c15
      refine j_aload_n C 0 dX11_odds_27 rfl ?_
      refine j_iconst C (v := (nI 1)) dX11_odds_28 (by decide) ?_
      refine j_callV (As := [.int (nI 1)]) (rest := []) C vw11_90 (h_error 1 (by decide)) ⟨0, 11, _, _, rfl, rfl, rfl⟩ rfl (Nat.le_of_ble_eq_true rfl) dX11_odds_29 (by decide) ?_
      rintro _ _ ⟨rfl, rfl⟩
      refine j_iret C dX11_odds_32 ?_
      unfold sp_odds
      rw [if_neg (fun h => c15 h.2.1)]
      exact ⟨show (-1000000000 : Int32) - nI 1 = -1000000001 from by decide, hC.er 1⟩
    · replace c15 := bI_t c15
      obtain ⟨nn, gnn, hnn, rfl⟩ := inn_lit c15 (by omega)
      refine j_iload_n C 3 dX11_odds_18 rfl ?_
      refine j_iconst C (v := (nI 0)) dX11_odds_19 (by decide) ?_
      refine j_iconst C (v := (nI 1)) dX11_odds_20 (by decide) ?_
      refine j_callS (As := [.int part, .int (nI 0), .int (nI 1)]) (rest := []) C sw11_86 (h_within) rfl (Nat.le_of_ble_eq_true rfl) dX11_odds_21 (by decide) ?_
      rintro _ _ ⟨rfl, rfl⟩
      refine j_if_ne C 33 dX11_odds_24 (by decide) (fun c24 => ?_) (fun c24 => ?_)
      · replace c24 := bI_t c24
        obtain ⟨wn, gwn, hwn, rfl⟩ := inn_lit c24 (by omega)
        refine j_aload_n C 0 dX11_odds_33 rfl ?_
        refine j_get C (v := .ref (q 1)) 0 1 rfl rfl inlC11 (by decide) kf11_75 rfl dX11_odds_34 ?_
        refine j_getN C (v := .int (S 1)) 1 1 rfl rfl inlC3 (by decide) kf11_164 rfl dX11_odds_37 ?_
        refine j_v (nI nw) ((hT.1 1 (by omega)).trans (hS1.trans e8)) ?_
        refine j_if_ne C 49 dX11_odds_40 (by decide) (fun c40 => ?_) (fun c40 => ?_)
        · rw [show (0 : Int32) = nI 0 from rfl, nI_eq (by omega) (by omega)] at c40
          refine j_iconst C (v := (nI 0)) dX11_odds_49 (by decide) ?_
          refine j_istore C [(4, .int (nI 0)), (0, .ref (q 0)), (1, .int (nI pn)), (2, .int (nI nn)), (3, .int (nI wn))] dX11_odds_50 (by decide) rfl ?_
          refine j_iconst C (v := (nI 0)) dX11_odds_52 (by decide) ?_
          refine j_istore C [(5, .int (nI 0)), (4, .int (nI 0)), (0, .ref (q 0)), (1, .int (nI pn)), (2, .int (nI nn)), (3, .int (nI wn))] dX11_odds_53 (by decide) rfl ?_
          refine j_L [2, 3, 4, 5, 1, 0] [(0, .ref (q 0)), (1, .int (nI pn)), (2, .int (nI nn)), (3, .int (nI wn)), (4, .int (nI 0)), (5, .int (nI 0))] rfl ?_
          refine j_loop (X := Nat × Nat × (Nat → Int32) × (Nat → Nat → Int32)) (fun (z : Nat × Nat × (Nat → Int32) × (Nat → Nat → Int32)) => match z with | (i, g, T, Y) => i ≤ nw ∧ g = oddN V row pn nn i ∧ FrT T Y S X) (fun (z : Nat × Nat × (Nat → Int32) × (Nat → Nat → Int32)) => match z with | (i, g, T, Y) => nw - i) (fun (z : Nat × Nat × (Nat → Int32) × (Nat → Nat → Int32)) => match z with | (i, g, T, Y) => (T, Y, P)) (fun (z : Nat × Nat × (Nat → Int32) × (Nat → Nat → Int32)) => match z with | (i, g, T, Y) => [(0, .ref (q 0)), (1, .int (nI pn)), (2, .int (nI nn)), (3, .int (nI wn)), (4, .int (nI g)), (5, .int (nI i))]) (0, 0, S, X) (⟨Nat.zero_le _, rfl, FrT.rf⟩) rfl rfl ?_
          rintro ⟨i, g, T, Y⟩ ⟨hi, hg, hT⟩ ih
          try dsimp only at ih ⊢
          refine j_iload C 5 dX11_odds_55 rfl ?_
          refine j_aload_n C 0 dX11_odds_57 rfl ?_
          refine j_get C (v := .ref (q 1)) 0 1 rfl rfl inlC11 (by decide) kf11_75 rfl dX11_odds_58 ?_
          refine j_getN C (v := .int (T 1)) 1 1 rfl rfl inlC3 (by decide) kf11_164 rfl dX11_odds_61 ?_
          refine j_v (nI nw) ((hT.1 1 (by omega)).trans (hS1.trans e8)) ?_
          refine j_icmp_ge C 93 dX11_odds_64 (by decide) (fun c64 => ?_) (fun c64 => ?_)
          · rw [nI_leI (by omega) (by omega)] at c64
            have hin : i = nw := by omega
            rw [hin] at hg
            have hgl : g ≤ nw := by rw [hg]; exact oddN_le V row pn nn nw
            have hgp : 0 < Nat.gcd nw g := Nat.gcd_pos_of_pos_left _ (by omega)
            have hgd : Nat.gcd nw g ≤ nw := Nat.le_of_dvd (by omega) (Nat.gcd_dvd_left _ _)
            have hnz : ¬ nI (Nat.gcd nw g) = 0 := nI_ne0 hgp (by omega)
            refine j_iload C 4 dX11_odds_93 rfl ?_
            refine j_aload_n C 0 dX11_odds_95 rfl ?_
            refine j_get C (v := .ref (q 1)) 0 1 rfl rfl inlC11 (by decide) kf11_75 rfl dX11_odds_96 ?_
            refine j_getN C (v := .int (T 1)) 1 1 rfl rfl inlC3 (by decide) kf11_164 rfl dX11_odds_99 ?_
            refine j_v (nI nw) ((hT.1 1 (by omega)).trans (hS1.trans e8)) ?_
            refine j_callS (As := [.int (nI g), .int (nI nw)]) (rest := []) C sw11_259 (h_gshared g nw (by omega) hw8) rfl (Nat.le_of_ble_eq_true rfl) dX11_odds_102 (by decide) ?_
            rintro _ _ ⟨rfl, rfl⟩
            refine j_istore C [(5, .int (nI (Nat.gcd nw g))), (0, .ref (q 0)), (1, .int (nI pn)), (2, .int (nI nn)), (3, .int (nI wn)), (4, .int (nI g))] dX11_odds_105 (by decide) rfl ?_
            refine j_iload C 0 dX11_odds_107 rfl ?_
            refine j_if_ne C 114 dX11_odds_109 (by decide) (fun c109 => ?_) (fun c109 => ?_)
            · rw [show (0 : Int32) = nI 0 from rfl, nI_eq (by omega) (by omega)] at c109
              refine j_iload_n C 4 dX11_odds_114 rfl ?_
              refine j_if_ne C 123 dX11_odds_115 (by decide) (fun c115 => ?_) (fun c115 => ?_)
              · rw [show (0 : Int32) = nI 0 from rfl, nI_eq (by omega) (by omega)] at c115
                refine j_aload_n C 1 dX11_odds_123 rfl ?_
                refine j_get C (v := .ref (q 1)) 0 1 rfl rfl inlC11 (by decide) kf11_75 rfl dX11_odds_124 ?_
                refine j_getN C (v := .int (T 1)) 1 1 rfl rfl inlC3 (by decide) kf11_164 rfl dX11_odds_127 ?_
                refine j_v (nI nw) ((hT.1 1 (by omega)).trans (hS1.trans e8)) ?_
                refine j_iload C 0 dX11_odds_130 rfl ?_
                refine j_idiv C dX11_odds_132 (by assumption) ?_
                refine j_iret C dX11_odds_133 ?_
                unfold sp_odds
                rw [if_pos ⟨c5, c15, c24⟩, e8, tN_nI (n := nw) (by omega)]
                rw [if_neg c40, tN_nI (n := pn) (by omega), tN_nI (n := nn) (by omega), ← hg, if_neg (nI_ne0 (by omega) (by omega)), pk_div (by omega) hgp (by omega)]
                exact ⟨rfl, hC.th hT⟩
              · rw [show (0 : Int32) = nI 0 from rfl, nI_eq (by omega) (by omega)] at c115
                refine j_iload C 5 dX11_odds_118 rfl ?_
                refine j_goto C 130 dX11_odds_120 (by decide) ?_
                refine j_iload C 0 dX11_odds_130 rfl ?_
                refine j_idiv C dX11_odds_132 (by assumption) ?_
                refine j_iret C dX11_odds_133 ?_
                unfold sp_odds
                rw [if_pos ⟨c5, c15, c24⟩, e8, tN_nI (n := nw) (by omega)]
                rw [if_neg c40, tN_nI (n := pn) (by omega), tN_nI (n := nn) (by omega), ← hg, if_pos (by rw [show wn = 0 by omega]; rfl), pk_div (by omega) hgp (by omega)]
                exact ⟨rfl, hC.th hT⟩
            · rw [show (0 : Int32) = nI 0 from rfl, nI_eq (by omega) (by omega)] at c109
              refine j_iconst C (v := (nI 0)) dX11_odds_112 (by decide) ?_
              refine j_iret C dX11_odds_113 ?_
              unfold sp_odds
              exfalso; omega
          · rw [nI_leI (by omega) (by omega)] at c64
            refine j_aload_n C 0 dX11_odds_67 rfl ?_
            refine j_iconst C (v := (nI 1)) dX11_odds_68 (by decide) ?_
            refine j_iload C 5 dX11_odds_69 rfl ?_
            refine j_ishl C dX11_odds_71 ?_
            obtain ⟨ms, hms, ems⟩ := bit_nI i (by omega)
            refine j_v (nI ms) ems ?_
            refine j_callVv (As := [.int (nI ms)]) (rest := []) C vw11_225 (h_imagine (hF.ft hT) hI (hK.ft hT) hW ms (by omega)) ⟨0, 11, _, _, rfl, rfl, rfl⟩ rfl (Nat.le_of_ble_eq_true rfl) dX11_odds_72 (by decide) ?_
            rintro _ ⟨S0, X0, rfl, hF2w, hT0⟩
            have hTT := hT0.tr hT
            have hF2 := hF2w.wc (wt_wv (V := oddV V i) (nw := nw) (pk_us.trans ems) ((pk_un (by omega)).trans hV16) ((pk_un (by omega)).trans hV18) hn6)
            refine j_aload_n C 0 dX11_odds_75 rfl ?_
            refine j_iload_n C 1 dX11_odds_76 rfl ?_
            refine j_iload_n C 2 dX11_odds_77 rfl ?_
            refine j_callV (As := [.int (nI pn), .int (nI nn)]) (rest := []) C vw11_232 (h_staysFed (w := (wv (oddV V i) row nw)) hI (hF.ft hTT) hF2 (hC.l0.ft (by omega) (by omega) hTT FR.rf) (hC.l1.ft (by omega) (by omega) hTT FR.rf) pn nn (by omega) (by omega)) ⟨0, 11, _, _, rfl, rfl, rfl⟩ rfl (Nat.le_of_ble_eq_true rfl) dX11_odds_78 (by decide) ?_
            rintro _ _ ⟨T1, Y1, rfl, hT1, rfl⟩
            refine j_if_eq C 87 dX11_odds_81 (by decide) (fun c81 => ?_) (fun c81 => ?_)
            · replace c81 := bI_f c81
              refine j_iinc C (v := (nI (i + 1))) 5 [(5, .int (nI (i + 1))), (0, .ref (q 0)), (1, .int (nI pn)), (2, .int (nI nn)), (3, .int (nI wn)), (4, .int (nI g))] dX11_odds_87 rfl (nI_1 _) (by decide) rfl ?_
              refine j_goto C 55 dX11_odds_90 (by decide) ?_
              refine j_L [1, 2, 3, 4, 5, 0] [(0, .ref (q 0)), (1, .int (nI pn)), (2, .int (nI nn)), (3, .int (nI wn)), (4, .int (nI g)), (5, .int (nI (i + 1)))] rfl ?_
              exact ih (i + 1, g, T1, Y1) (⟨by dsimp only; omega, by dsimp only; rw [oddN, ← hg, if_pos ((hg_iff e3 e8 hn6 hw8).2 (Classical.not_not.1 c81)), Nat.add_zero], hT1.tr hTT⟩) (by dsimp only; omega)
            · replace c81 := bI_t c81
              refine j_iinc C (v := (nI (g + 1))) 4 [(4, .int (nI (g + 1))), (0, .ref (q 0)), (1, .int (nI pn)), (2, .int (nI nn)), (3, .int (nI wn)), (5, .int (nI i))] dX11_odds_84 rfl (nI_1 _) (by decide) rfl ?_
              refine j_iinc C (v := (nI (i + 1))) 5 [(5, .int (nI (i + 1))), (4, .int (nI (g + 1))), (0, .ref (q 0)), (1, .int (nI pn)), (2, .int (nI nn)), (3, .int (nI wn))] dX11_odds_87 rfl (nI_1 _) (by decide) rfl ?_
              refine j_goto C 55 dX11_odds_90 (by decide) ?_
              refine j_L [2, 3, 4, 5, 1, 0] [(0, .ref (q 0)), (1, .int (nI pn)), (2, .int (nI nn)), (3, .int (nI wn)), (4, .int (nI (g + 1))), (5, .int (nI (i + 1)))] rfl ?_
              exact ih (i + 1, g + 1, T1, Y1) (⟨by dsimp only; omega, by dsimp only; rw [oddN, ← hg, if_neg (fun h => c81 ((hg_iff e3 e8 hn6 hw8).1 h))], hT1.tr hTT⟩) (by dsimp only; omega)
        · rw [show (0 : Int32) = nI 0 from rfl, nI_eq (by omega) (by omega)] at c40
          refine j_aload_n C 0 dX11_odds_43 rfl ?_
          refine j_iconst C (v := (nI 3)) dX11_odds_44 (by decide) ?_
          refine j_callV (As := [.int (nI 3)]) (rest := []) C vw11_90 (h_error 3 (by decide)) ⟨0, 11, _, _, rfl, rfl, rfl⟩ rfl (Nat.le_of_ble_eq_true rfl) dX11_odds_45 (by decide) ?_
          rintro _ _ ⟨rfl, rfl⟩
          refine j_iret C dX11_odds_48 ?_
          unfold sp_odds
          rw [if_pos ⟨c5, c15, c24⟩, e8, tN_nI (n := nw) (by omega)]
          rw [if_pos c40]
          exact ⟨show (-1000000000 : Int32) - nI 3 = -1000000003 from by decide, hC.er 3⟩
      · replace c24 := bI_f c24
        refine j_aload_n C 0 dX11_odds_27 rfl ?_
        refine j_iconst C (v := (nI 1)) dX11_odds_28 (by decide) ?_
        refine j_callV (As := [.int (nI 1)]) (rest := []) C vw11_90 (h_error 1 (by decide)) ⟨0, 11, _, _, rfl, rfl, rfl⟩ rfl (Nat.le_of_ble_eq_true rfl) dX11_odds_29 (by decide) ?_
        rintro _ _ ⟨rfl, rfl⟩
        refine j_iret C dX11_odds_32 ?_
        unfold sp_odds
        rw [if_neg (fun h => c24 h.2.2)]
        exact ⟨show (-1000000000 : Int32) - nI 1 = -1000000001 from by decide, hC.er 1⟩

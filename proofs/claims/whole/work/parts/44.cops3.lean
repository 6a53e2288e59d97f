/-! The class's public calls: field, person, forgive. -/
theorem fill_at (row : Nat → Int32) (n : Nat) (hn : n ≤ 10) (k : Nat) : fillF row n k = if 10 ≤ k ∧ k < 10 + n then nI 20 else if 20 ≤ k ∧ k < 20 + n then nI 1 else row k := by
  unfold fillF
  induction n with
  | zero => unfold itN; rw [if_neg (by omega), if_neg (by omega)]
  | succ n ih =>
    unfold itN
    by_cases e : k = 20 + n
    · subst e; rw [pk_us, if_neg (by omega), if_pos (by omega)]
    · rw [pk_un e]
      by_cases e2 : k = 10 + n
      · subst e2; rw [pk_us, if_pos (by omega)]
      · rw [pk_un e2, ih (by omega)]
        by_cases g : 10 ≤ k ∧ k < 10 + n
        · rw [if_pos g, if_pos (by omega)]
        · rw [if_neg g, if_neg (c := 10 ≤ k ∧ k < 10 + (n + 1)) (by omega)]
          by_cases g2 : 20 ≤ k ∧ k < 20 + n
          · rw [if_pos g2, if_pos (by omega)]
          · rw [if_neg g2, if_neg (c := 20 ≤ k ∧ k < 20 + (n + 1)) (by omega)]
theorem fill_o (row : Nat → Int32) {k : Nat} (h : k < 10 ∨ 30 ≤ k) : fillF row 10 k = row k := by
  rw [fill_at row 10 (by omega), if_neg (by omega), if_neg (by omega)]
theorem CF.fill {S : Nat → Int32} {X : Nat → Nat → Int32} {row w w' : Nat → Int32} {nc np n : Nat} (h : CF S X 0 row w nc np) (h0 : np = 0) (hn : n ≤ 10) : CF (upd S 5 (nI n)) (va_up (va_up X 36 (filF (X 36) (nI 20) n)) 37 (filF (X 37) (nI 1) n)) 0 (upd (fillF row 10) 2 (nI n)) w' n np := by
  refine ⟨?_, ?_, ?_, fun c hc => ?_, fun c hc => ?_, fun j hj p hp => by omega, fun p hp => by omega⟩
  · rw [pk_us, pk_us]
  · rw [pk_un (by omega), pk_un (by omega), fill_o _ (by omega)]; exact h.dawn
  · rw [pk_un (by omega), pk_un (by omega), fill_o _ (by omega)]; exact h.people
  · show filF (X 36) (nI 20) n c = _
    rw [pk_un (by omega), fill_at _ _ (by omega), if_pos (by omega)]; unfold filF; rw [if_pos hc]
  · show filF (X 37) (nI 1) n c = _
    rw [pk_un (by omega), fill_at _ _ (by omega), if_neg (by omega), if_pos (by omega)]; unfold filF; rw [if_pos hc]
theorem CF.person {S : Nat → Int32} {X : Nat → Nat → Int32} {row w w' : Nat → Int32} {nc np : Nat} {k m c : Int32} (h : CF S X 0 row w nc np) (hc10 : nc ≤ 10) (hn : np < 6) (hw : ∀ p, p < np + 1 → X 44 p = w' p) : CF (upd S 7 (nI (np + 1))) (va_up (va_up (va_up (va_up (va_up (va_up X 38 (upd (X 38) np k)) 39 (upd (X 39) np m)) 40 (upd (X 40) np c)) 41 (upd (X 41) np (nI 0))) 42 (upd (X 42) np (nI 0))) 43 (upd (X 43) np (nI 0))) 0 (upd (upd (upd (upd (upd (upd (upd row (30 + 6 * np + 0) k) (30 + 6 * np + 1) m) (30 + 6 * np + 2) c) (30 + 6 * np + 3) (nI 0)) (30 + 6 * np + 4) (nI 0)) (30 + 6 * np + 5) (nI 0)) 3 (nI (np + 1))) w' nc (np + 1) := by
  have ho : ∀ i, (i < 10 ∧ ¬ i = 3) ∨ (10 ≤ i ∧ i < 30) ∨ (30 ≤ i ∧ i < 30 + 6 * np) → (upd (upd (upd (upd (upd (upd (upd row (30 + 6 * np + 0) k) (30 + 6 * np + 1) m) (30 + 6 * np + 2) c) (30 + 6 * np + 3) (nI 0)) (30 + 6 * np + 4) (nI 0)) (30 + 6 * np + 5) (nI 0)) 3 (nI (np + 1))) i = row i := by
    intro i hi
    rw [pk_un (by omega), pk_un (by omega), pk_un (by omega), pk_un (by omega), pk_un (by omega), pk_un (by omega), pk_un (by omega)]
  refine ⟨?_, ?_, ?_, fun c hc => ?_, fun c hc => ?_, fun j hj p hp => ?_, hw⟩
  · rw [pk_un (by omega), ho 2 (by omega)]; exact h.cells
  · rw [pk_un (by omega), ho 0 (by omega)]; exact h.dawn
  · rw [pk_us, pk_us]
  · rw [ho _ (by omega)]; exact h.ears c hc
  · rw [ho _ (by omega)]; exact h.low c hc
  · by_cases e : p = np
    · subst e
      rcases (show j = 0 ∨ j = 1 ∨ j = 2 ∨ j = 3 ∨ j = 4 ∨ j = 5 by omega) with rfl | rfl | rfl | rfl | rfl | rfl
      · rw [pk_un (by omega), pk_un (by omega), pk_un (by omega), pk_un (by omega), pk_un (by omega), pk_un (by omega), pk_us]; exact pk_us
      · rw [pk_un (by omega), pk_un (by omega), pk_un (by omega), pk_un (by omega), pk_un (by omega), pk_us]; exact pk_us
      · rw [pk_un (by omega), pk_un (by omega), pk_un (by omega), pk_un (by omega), pk_us]; exact pk_us
      · rw [pk_un (by omega), pk_un (by omega), pk_un (by omega), pk_us]; exact pk_us
      · rw [pk_un (by omega), pk_un (by omega), pk_us]; exact pk_us
      · rw [pk_un (by omega), pk_us]; exact pk_us
    · rw [ho _ (by omega)]
      rcases (show j = 0 ∨ j = 1 ∨ j = 2 ∨ j = 3 ∨ j = 4 ∨ j = 5 by omega) with rfl | rfl | rfl | rfl | rfl | rfl
      all_goals refine (pk_un e).trans ?_
      · exact h.per 0 (by omega) p (by omega)
      · exact h.per 1 (by omega) p (by omega)
      · exact h.per 2 (by omega) p (by omega)
      · exact h.per 3 (by omega) p (by omega)
      · exact h.per 4 (by omega) p (by omega)
      · exact h.per 5 (by omega) p (by omega)
theorem CK.frm {S S' : Nat → Int32} {X X' : Nat → Nat → Int32} {row row' : Nat → Int32} {nw nt nq : Nat} (h : CK S X 0 row nw nt nq) (hS : ∀ k, k = 1 ∨ k = 2 ∨ k = 19 ∨ k = 20 → S' k = S k) (hX : ∀ k, (66 ≤ k ∧ k < 69) ∨ k = 72 ∨ k = 73 → X' k = X k) (hr : ∀ k, k = 1 ∨ k = 4 ∨ k = 5 ∨ k = 8 ∨ 66 ≤ k → row' k = row k) : CK S' X' 0 row' nw nt nq :=
  (h.st (fun k hk => hS k (by omega)) (fun k _ => rfl) : CK S' X 0 row nw nt nq).row (fun k hk => hX k (by omega)) hr

theorem dX11_field_0 : decode cX11_field 0 = .ok (.iload_n 1, 1) := by decide +kernel
theorem dX11_field_1 : decode cX11_field 1 = .ok (.iconst 2, 1) := by decide +kernel
theorem dX11_field_2 : decode cX11_field 2 = .ok (.bipush 10, 2) := by decide +kernel
theorem dX11_field_4 : decode cX11_field 4 = .ok (.invokestatic 86, 3) := by decide +kernel
theorem dX11_field_7 : decode cX11_field 7 = .ok (.ifCond .ne 9, 3) := by decide +kernel
theorem dX11_field_10 : decode cX11_field 10 = .ok (.aload_n 0, 1) := by decide +kernel
theorem dX11_field_11 : decode cX11_field 11 = .ok (.iconst 1, 1) := by decide +kernel
theorem dX11_field_12 : decode cX11_field 12 = .ok (.invokevirtual 90, 3) := by decide +kernel
theorem dX11_field_15 : decode cX11_field 15 = .ok (.ireturn, 1) := by decide +kernel
theorem dX11_field_16 : decode cX11_field 16 = .ok (.aload_n 0, 1) := by decide +kernel
theorem dX11_field_17 : decode cX11_field 17 = .ok (.getfield 75, 3) := by decide +kernel
theorem dX11_field_20 : decode cX11_field 20 = .ok (.getfield 94, 3) := by decide +kernel
theorem dX11_field_23 : decode cX11_field 23 = .ok (.getfield 97, 3) := by decide +kernel
theorem dX11_field_26 : decode cX11_field 26 = .ok (.ifCond .le 9, 3) := by decide +kernel
theorem dX11_field_29 : decode cX11_field 29 = .ok (.aload_n 0, 1) := by decide +kernel
theorem dX11_field_30 : decode cX11_field 30 = .ok (.iconst 3, 1) := by decide +kernel
theorem dX11_field_31 : decode cX11_field 31 = .ok (.invokevirtual 90, 3) := by decide +kernel
theorem dX11_field_34 : decode cX11_field 34 = .ok (.ireturn, 1) := by decide +kernel
theorem dX11_field_35 : decode cX11_field 35 = .ok (.aload_n 0, 1) := by decide +kernel
theorem dX11_field_36 : decode cX11_field 36 = .ok (.getfield 75, 3) := by decide +kernel
theorem dX11_field_39 : decode cX11_field 39 = .ok (.getfield 94, 3) := by decide +kernel
theorem dX11_field_42 : decode cX11_field 42 = .ok (.getfield 100, 3) := by decide +kernel
theorem dX11_field_45 : decode cX11_field 45 = .ok (.istore_n 2, 1) := by decide +kernel
theorem dX11_field_46 : decode cX11_field 46 = .ok (.aload_n 0, 1) := by decide +kernel
theorem dX11_field_47 : decode cX11_field 47 = .ok (.getfield 75, 3) := by decide +kernel
theorem dX11_field_50 : decode cX11_field 50 = .ok (.getfield 94, 3) := by decide +kernel
theorem dX11_field_53 : decode cX11_field 53 = .ok (.iload_n 1, 1) := by decide +kernel
theorem dX11_field_54 : decode cX11_field 54 = .ok (.invokevirtual 103, 3) := by decide +kernel
theorem dX11_field_57 : decode cX11_field 57 = .ok (.iload_n 2, 1) := by decide +kernel
theorem dX11_field_58 : decode cX11_field 58 = .ok (.ireturn, 1) := by decide +kernel
set_option maxHeartbeats 2000000 in
set_option maxRecDepth 20000 in
theorem k_field {l : Launch} {D : va_G} {cI cG cW : ClassId} {q : Nat → Nat} {S : Nat → Int32} {X : Nat → Nat → Int32} {P : Nat → Nat} {n : Int32} {V row kept tried bf fd pk bo so sh mv tr : Nat → Int32} {nc np nw d nt nq : Nat} (hR : RKx row nc np nw d nt nq) (hC : CR (S, X, P) (sR V row kept tried bf fd pk bo so sh mv tr)) : Ci l yX11_field cX11_field 3 (some .int) 3 D (tyL cI cG cW) (wC cI cG cW q) [.ref (q 0), .int n] (S, X, P) (fun r τ => r = (sp_field V row kept tried bf fd pk bo so sh mv tr n).1 ∧ CR τ (sp_field V row kept tried bf fd pk bo so sh mv tr n).2) := by
  refine Ci.of (by decide) (Nat.le_of_ble_eq_true rfl) ?_
  intro p_ e_ s_ m_ b_ M_ c_ A_ C
  replace C : Cx _ _ _ _ _ _ _ _ RX11 _ _ _ _ := C
  refine j_L [0, 1] [(0, .ref (q 0)), (1, .int n)] rfl ?_
  obtain ⟨hI, hW, ⟨e0, hd⟩, ⟨e4, ht⟩, ⟨e5, hq⟩, hB⟩ := id hR
  obtain ⟨⟨e2, hc2, hc10⟩, ⟨e3, hn6⟩, ⟨e8, hw8⟩, hP, hE, hLo, hT0, hT1⟩ := id hI
  have hIc := hI
  have hF : CF S X 0 row (X 44) nc np := by have h := hC.fld; rw [e2, e3, tN_nI (by omega), tN_nI (by omega)] at h; exact h
  have hK : CK S X 0 row nw nt nq := by have h := hC.kp; rw [e8, e4, e5, tN_nI (by omega), tN_nI (by omega), tN_nI (by omega)] at h; exact h
  have hS1 : S 1 = row 8 := hK.wrongs
  have hS5 : S 5 = row 2 := hF.cells
  have hS7 : S 7 = row 3 := hF.people
  refine j_iload_n C 1 dX11_field_0 rfl ?_
  refine j_iconst C (v := (nI 2)) dX11_field_1 (by decide) ?_
  refine j_bipush C (v := (nI 10)) dX11_field_2 (by decide) ?_
  refine j_callS (As := [.int n, .int (nI 2), .int (nI 10)]) (rest := []) C sw11_86 (h_within) rfl (Nat.le_of_ble_eq_true rfl) dX11_field_4 (by decide) ?_
  rintro _ _ ⟨rfl, rfl⟩
  refine j_if_ne C 16 dX11_field_7 (by decide) (fun c7 => ?_) (fun c7 => ?_)
  · replace c7 := bI_t c7
    obtain ⟨nn, gnn, hnn, rfl⟩ := inn_lit c7 (by omega)
    refine j_aload_n C 0 dX11_field_16 rfl ?_
    refine j_get C (v := .ref (q 1)) 0 1 rfl rfl inlC11 (by decide) kf11_75 rfl dX11_field_17 ?_
    refine j_getN C (v := .ref (q 3)) 1 0 rfl rfl inlC3 (by decide) kf11_94 rfl dX11_field_20 ?_
    refine j_getN C (v := .int (S 7)) 3 4 rfl rfl inlC1 (by decide) kf11_97 rfl dX11_field_23 ?_
    refine j_v (row 3) hS7 ?_
    refine j_if_le C 35 dX11_field_26 (by decide) (fun c26 => ?_) (fun c26 => ?_)
    · skip
      refine j_aload_n C 0 dX11_field_35 rfl ?_
      refine j_get C (v := .ref (q 1)) 0 1 rfl rfl inlC11 (by decide) kf11_75 rfl dX11_field_36 ?_
      refine j_getN C (v := .ref (q 3)) 1 0 rfl rfl inlC3 (by decide) kf11_94 rfl dX11_field_39 ?_
      refine j_getN C (v := .int (S 5)) 3 0 rfl rfl inlC1 (by decide) kf11_100 rfl dX11_field_42 ?_
      refine j_v (row 2) hS5 ?_
      refine j_istore_n C [(2, .int (row 2)), (0, .ref (q 0)), (1, .int (nI nn))] dX11_field_45 (by decide) rfl ?_
      refine j_aload_n C 1 dX11_field_46 rfl ?_
      refine j_get C (v := .ref (q 1)) 0 1 rfl rfl inlC11 (by decide) kf11_75 rfl dX11_field_47 ?_
      refine j_getN C (v := .ref (q 3)) 1 0 rfl rfl inlC3 (by decide) kf11_94 rfl dX11_field_50 ?_
      refine j_iload_n C 2 dX11_field_53 rfl ?_
      refine j_callVNv (As := [.int (nI nn)]) (rest := []) C vn11_103 (h_reap nn (by omega)) ⟨3, 1, _, _, rfl, rfl, rfl⟩ rfl (Nat.le_of_ble_eq_true rfl) dX11_field_54 (by decide) ?_
      rintro _ rfl
      refine j_iload_n C 0 dX11_field_57 rfl ?_
      refine j_iret C dX11_field_58 ?_
      unfold sp_field
      rw [if_pos c7, if_pos c26]
      have h0 : np = 0 := by rw [e3, show (0 : Int32) = nI 0 from rfl, nI_leI (by omega) (by omega)] at c26; omega
      exact ⟨rfl, hC.nowx (fun k hk => pk_un (by omega)) (fun k hk => ((va_n (by omega)).trans (va_n (by omega)))) pk_us ((pk_un (by omega)).trans ((fill_o _ (by omega)).trans e3)) ((pk_un (by omega)).trans ((fill_o _ (by omega)).trans e8)) ((pk_un (by omega)).trans ((fill_o _ (by omega)).trans e4)) ((pk_un (by omega)).trans ((fill_o _ (by omega)).trans e5)) ⟨by omega, hn6, hw8, ht, hq⟩ (hF.fill h0 (by omega)) (hK.frm (fun k hk => pk_un (by omega)) (fun k hk => ((va_n (by omega)).trans (va_n (by omega)))) (fun k hk => ((pk_un (by omega)).trans ((fill_o _ (by omega)).trans rfl)))) (hC.l0.st (by omega) (pk_un (by omega)) ((va_n (by omega)).trans (va_n (by omega))) (fun k hk => ((pk_un (by omega)).trans ((fill_o _ (by omega)).trans rfl)))) (hC.l1.st (by omega) (pk_un (by omega)) ((va_n (by omega)).trans (va_n (by omega))) (fun k hk => ((pk_un (by omega)).trans ((fill_o _ (by omega)).trans rfl))))⟩
    · skip
      refine j_aload_n C 0 dX11_field_29 rfl ?_
      refine j_iconst C (v := (nI 3)) dX11_field_30 (by decide) ?_
      refine j_callV (As := [.int (nI 3)]) (rest := []) C vw11_90 (h_error 3 (by decide)) ⟨0, 11, _, _, rfl, rfl, rfl⟩ rfl (Nat.le_of_ble_eq_true rfl) dX11_field_31 (by decide) ?_
      rintro _ _ ⟨rfl, rfl⟩
      refine j_iret C dX11_field_34 ?_
      unfold sp_field
      rw [if_pos c7, if_neg c26]
      exact ⟨show (-1000000000 : Int32) - nI 3 = -1000000003 from by decide, hC.er 3⟩
  · replace c7 := bI_f c7
    refine j_aload_n C 0 dX11_field_10 rfl ?_
    refine j_iconst C (v := (nI 1)) dX11_field_11 (by decide) ?_
    refine j_callV (As := [.int (nI 1)]) (rest := []) C vw11_90 (h_error 1 (by decide)) ⟨0, 11, _, _, rfl, rfl, rfl⟩ rfl (Nat.le_of_ble_eq_true rfl) dX11_field_12 (by decide) ?_
    rintro _ _ ⟨rfl, rfl⟩
    refine j_iret C dX11_field_15 ?_
    unfold sp_field
    rw [if_neg c7]
    exact ⟨show (-1000000000 : Int32) - nI 1 = -1000000001 from by decide, hC.er 1⟩
theorem dX11_person_0 : decode cX11_person 0 = .ok (.iload_n 1, 1) := by decide +kernel
theorem dX11_person_1 : decode cX11_person 1 = .ok (.iconst 0, 1) := by decide +kernel
theorem dX11_person_2 : decode cX11_person 2 = .ok (.bipush 69, 2) := by decide +kernel
theorem dX11_person_4 : decode cX11_person 4 = .ok (.invokestatic 86, 3) := by decide +kernel
theorem dX11_person_7 : decode cX11_person 7 = .ok (.ifCond .eq 11, 3) := by decide +kernel
theorem dX11_person_10 : decode cX11_person 10 = .ok (.aload_n 0, 1) := by decide +kernel
theorem dX11_person_11 : decode cX11_person 11 = .ok (.iload_n 2, 1) := by decide +kernel
theorem dX11_person_12 : decode cX11_person 12 = .ok (.invokevirtual 106, 3) := by decide +kernel
theorem dX11_person_15 : decode cX11_person 15 = .ok (.ifCond .ne 9, 3) := by decide +kernel
theorem dX11_person_18 : decode cX11_person 18 = .ok (.aload_n 0, 1) := by decide +kernel
theorem dX11_person_19 : decode cX11_person 19 = .ok (.iconst 1, 1) := by decide +kernel
theorem dX11_person_20 : decode cX11_person 20 = .ok (.invokevirtual 90, 3) := by decide +kernel
theorem dX11_person_23 : decode cX11_person 23 = .ok (.ireturn, 1) := by decide +kernel
theorem dX11_person_24 : decode cX11_person 24 = .ok (.aload_n 0, 1) := by decide +kernel
theorem dX11_person_25 : decode cX11_person 25 = .ok (.getfield 75, 3) := by decide +kernel
theorem dX11_person_28 : decode cX11_person 28 = .ok (.getfield 94, 3) := by decide +kernel
theorem dX11_person_31 : decode cX11_person 31 = .ok (.getfield 97, 3) := by decide +kernel
theorem dX11_person_34 : decode cX11_person 34 = .ok (.bipush 6, 2) := by decide +kernel
theorem dX11_person_36 : decode cX11_person 36 = .ok (.if_icmp .lt 9, 3) := by decide +kernel
theorem dX11_person_39 : decode cX11_person 39 = .ok (.aload_n 0, 1) := by decide +kernel
theorem dX11_person_40 : decode cX11_person 40 = .ok (.iconst 4, 1) := by decide +kernel
theorem dX11_person_41 : decode cX11_person 41 = .ok (.invokevirtual 90, 3) := by decide +kernel
theorem dX11_person_44 : decode cX11_person 44 = .ok (.ireturn, 1) := by decide +kernel
theorem dX11_person_45 : decode cX11_person 45 = .ok (.aload_n 0, 1) := by decide +kernel
theorem dX11_person_46 : decode cX11_person 46 = .ok (.getfield 75, 3) := by decide +kernel
theorem dX11_person_49 : decode cX11_person 49 = .ok (.getfield 94, 3) := by decide +kernel
theorem dX11_person_52 : decode cX11_person 52 = .ok (.iload_n 1, 1) := by decide +kernel
theorem dX11_person_53 : decode cX11_person 53 = .ok (.bipush 10, 2) := by decide +kernel
theorem dX11_person_55 : decode cX11_person 55 = .ok (.idiv, 1) := by decide +kernel
theorem dX11_person_56 : decode cX11_person 56 = .ok (.iload_n 1, 1) := by decide +kernel
theorem dX11_person_57 : decode cX11_person 57 = .ok (.bipush 10, 2) := by decide +kernel
theorem dX11_person_59 : decode cX11_person 59 = .ok (.irem, 1) := by decide +kernel
theorem dX11_person_60 : decode cX11_person 60 = .ok (.iload_n 2, 1) := by decide +kernel
theorem dX11_person_61 : decode cX11_person 61 = .ok (.invokevirtual 119, 3) := by decide +kernel
theorem dX11_person_64 : decode cX11_person 64 = .ok (.ireturn, 1) := by decide +kernel
set_option maxHeartbeats 2000000 in
set_option maxRecDepth 20000 in
theorem k_person {l : Launch} {D : va_G} {cI cG cW : ClassId} {q : Nat → Nat} {S : Nat → Int32} {X : Nat → Nat → Int32} {P : Nat → Nat} {km c : Int32} {V row kept tried bf fd pk bo so sh mv tr : Nat → Int32} {nc np nw d nt nq : Nat} (hR : RKx row nc np nw d nt nq) (hC : CR (S, X, P) (sR V row kept tried bf fd pk bo so sh mv tr)) : Ci l yX11_person cX11_person 3 (some .int) 3 D (tyL cI cG cW) (wC cI cG cW q) [.ref (q 0), .int km, .int c] (S, X, P) (fun r τ => r = (sp_person V row kept tried bf fd pk bo so sh mv tr km c).1 ∧ CR τ (sp_person V row kept tried bf fd pk bo so sh mv tr km c).2) := by
  refine Ci.of (by decide) (Nat.le_of_ble_eq_true rfl) ?_
  intro p_ e_ s_ m_ b_ M_ c_ A_ C
  replace C : Cx _ _ _ _ _ _ _ _ RX11 _ _ _ _ := C
  refine j_L [0, 1, 2] [(0, .ref (q 0)), (1, .int km), (2, .int c)] rfl ?_
  obtain ⟨hI, hW, ⟨e0, hd⟩, ⟨e4, ht⟩, ⟨e5, hq⟩, hB⟩ := id hR
  obtain ⟨⟨e2, hc2, hc10⟩, ⟨e3, hn6⟩, ⟨e8, hw8⟩, hP, hE, hLo, hT0, hT1⟩ := id hI
  have hIc := hI
  have hF : CF S X 0 row (X 44) nc np := by have h := hC.fld; rw [e2, e3, tN_nI (by omega), tN_nI (by omega)] at h; exact h
  have hK : CK S X 0 row nw nt nq := by have h := hC.kp; rw [e8, e4, e5, tN_nI (by omega), tN_nI (by omega), tN_nI (by omega)] at h; exact h
  have hS1 : S 1 = row 8 := hK.wrongs
  have hS5 : S 5 = row 2 := hF.cells
  have hS7 : S 7 = row 3 := hF.people
  refine j_iload_n C 1 dX11_person_0 rfl ?_
  refine j_iconst C (v := (nI 0)) dX11_person_1 (by decide) ?_
  refine j_bipush C (v := (nI 69)) dX11_person_2 (by decide) ?_
  refine j_callS (As := [.int km, .int (nI 0), .int (nI 69)]) (rest := []) C sw11_86 (h_within) rfl (Nat.le_of_ble_eq_true rfl) dX11_person_4 (by decide) ?_
  rintro _ _ ⟨rfl, rfl⟩
  refine j_if_eq C 18 dX11_person_7 (by decide) (fun c7 => ?_) (fun c7 => ?_)
  · replace c7 := bI_f c7
    refine j_aload_n C 0 dX11_person_18 rfl ?_
    refine j_iconst C (v := (nI 1)) dX11_person_19 (by decide) ?_
    refine j_callV (As := [.int (nI 1)]) (rest := []) C vw11_90 (h_error 1 (by decide)) ⟨0, 11, _, _, rfl, rfl, rfl⟩ rfl (Nat.le_of_ble_eq_true rfl) dX11_person_20 (by decide) ?_
    rintro _ _ ⟨rfl, rfl⟩
    refine j_iret C dX11_person_23 ?_
    unfold sp_person
    rw [if_neg (fun h => c7 h.1)]
    exact ⟨show (-1000000000 : Int32) - nI 1 = -1000000001 from by decide, hC.er 1⟩
  · replace c7 := bI_t c7
    refine j_aload_n C 0 dX11_person_10 rfl ?_
    refine j_iload_n C 2 dX11_person_11 rfl ?_
    refine j_callV (As := [.int c]) (rest := []) C vw11_106 (h_isCell) ⟨0, 11, _, _, rfl, rfl, rfl⟩ rfl (Nat.le_of_ble_eq_true rfl) dX11_person_12 (by decide) ?_
    rintro _ _ ⟨rfl, rfl⟩
    refine j_v (bI (inn c 0 (row 2 - 1))) (by rw [hS5]) ?_
    refine j_if_ne C 24 dX11_person_15 (by decide) (fun c15 => ?_) (fun c15 => ?_)
    · replace c15 := bI_t c15
      refine j_aload_n C 0 dX11_person_24 rfl ?_
      refine j_get C (v := .ref (q 1)) 0 1 rfl rfl inlC11 (by decide) kf11_75 rfl dX11_person_25 ?_
      refine j_getN C (v := .ref (q 3)) 1 0 rfl rfl inlC3 (by decide) kf11_94 rfl dX11_person_28 ?_
      refine j_getN C (v := .int (S 7)) 3 4 rfl rfl inlC1 (by decide) kf11_97 rfl dX11_person_31 ?_
      refine j_v (nI np) (hS7.trans e3) ?_
      refine j_bipush C (v := (nI 6)) dX11_person_34 (by decide) ?_
      refine j_icmp_lt C 45 dX11_person_36 (by decide) (fun c36 => ?_) (fun c36 => ?_)
      · rw [nI_ltI (by omega) (by omega)] at c36
        refine j_aload_n C 0 dX11_person_45 rfl ?_
        refine j_get C (v := .ref (q 1)) 0 1 rfl rfl inlC11 (by decide) kf11_75 rfl dX11_person_46 ?_
        refine j_getN C (v := .ref (q 3)) 1 0 rfl rfl inlC3 (by decide) kf11_94 rfl dX11_person_49 ?_
        refine j_iload_n C 1 dX11_person_52 rfl ?_
        refine j_bipush C (v := (nI 10)) dX11_person_53 (by decide) ?_
        refine j_idiv C dX11_person_55 (by decide) ?_
        refine j_iload_n C 1 dX11_person_56 rfl ?_
        refine j_bipush C (v := (nI 10)) dX11_person_57 (by decide) ?_
        refine j_irem C dX11_person_59 (by decide) ?_
        refine j_iload_n C 2 dX11_person_60 rfl ?_
        refine j_callVN (As := [.int (km / (nI 10)), .int (km - km / (nI 10) * (nI 10)), .int c]) (rest := []) C vn11_119 (h_welcome (hS7.trans e3) (by omega)) ⟨3, 1, _, _, rfl, rfl, rfl⟩ rfl (Nat.le_of_ble_eq_true rfl) dX11_person_61 (by decide) ?_
        rintro _ _ ⟨rfl, rfl⟩
        refine j_iret C dX11_person_64 ?_
        unfold sp_person
        rw [if_pos ⟨c7, c15⟩, if_neg (by rw [e3, nI_eq (by omega) (by omega)]; omega)]
        unfold persF
        rw [e3, tN_nI (by omega), nI_add]
        exact ⟨rfl, hC.nowx (fun k hk => pk_un (by omega)) (fun k hk => ((va_n (by omega)).trans ((va_n (by omega)).trans ((va_n (by omega)).trans ((va_n (by omega)).trans ((va_n (by omega)).trans ((va_n (by omega)).trans rfl))))))) ((pk_un (by omega)).trans ((pk_un (by omega)).trans ((pk_un (by omega)).trans ((pk_un (by omega)).trans ((pk_un (by omega)).trans ((pk_un (by omega)).trans ((pk_un (by omega)).trans e2))))))) pk_us ((pk_un (by omega)).trans ((pk_un (by omega)).trans ((pk_un (by omega)).trans ((pk_un (by omega)).trans ((pk_un (by omega)).trans ((pk_un (by omega)).trans ((pk_un (by omega)).trans e8))))))) ((pk_un (by omega)).trans ((pk_un (by omega)).trans ((pk_un (by omega)).trans ((pk_un (by omega)).trans ((pk_un (by omega)).trans ((pk_un (by omega)).trans ((pk_un (by omega)).trans e4))))))) ((pk_un (by omega)).trans ((pk_un (by omega)).trans ((pk_un (by omega)).trans ((pk_un (by omega)).trans ((pk_un (by omega)).trans ((pk_un (by omega)).trans ((pk_un (by omega)).trans e5))))))) ⟨hc10, by omega, hw8, ht, hq⟩ (hF.person hc10 (by omega) (fun _ _ => rfl)) (hK.frm (fun k hk => pk_un (by omega)) (fun k hk => ((va_n (by omega)).trans ((va_n (by omega)).trans ((va_n (by omega)).trans ((va_n (by omega)).trans ((va_n (by omega)).trans ((va_n (by omega)).trans rfl))))))) (fun k hk => ((pk_un (by omega)).trans ((pk_un (by omega)).trans ((pk_un (by omega)).trans ((pk_un (by omega)).trans ((pk_un (by omega)).trans ((pk_un (by omega)).trans ((pk_un (by omega)).trans rfl))))))))) (hC.l0.st (by omega) (pk_un (by omega)) ((va_n (by omega)).trans ((va_n (by omega)).trans ((va_n (by omega)).trans ((va_n (by omega)).trans ((va_n (by omega)).trans ((va_n (by omega)).trans rfl)))))) (fun k hk => ((pk_un (by omega)).trans ((pk_un (by omega)).trans ((pk_un (by omega)).trans ((pk_un (by omega)).trans ((pk_un (by omega)).trans ((pk_un (by omega)).trans ((pk_un (by omega)).trans rfl))))))))) (hC.l1.st (by omega) (pk_un (by omega)) ((va_n (by omega)).trans ((va_n (by omega)).trans ((va_n (by omega)).trans ((va_n (by omega)).trans ((va_n (by omega)).trans ((va_n (by omega)).trans rfl)))))) (fun k hk => ((pk_un (by omega)).trans ((pk_un (by omega)).trans ((pk_un (by omega)).trans ((pk_un (by omega)).trans ((pk_un (by omega)).trans ((pk_un (by omega)).trans ((pk_un (by omega)).trans rfl)))))))))⟩
      · rw [nI_ltI (by omega) (by omega)] at c36
        refine j_aload_n C 0 dX11_person_39 rfl ?_
        refine j_iconst C (v := (nI 4)) dX11_person_40 (by decide) ?_
        refine j_callV (As := [.int (nI 4)]) (rest := []) C vw11_90 (h_error 4 (by decide)) ⟨0, 11, _, _, rfl, rfl, rfl⟩ rfl (Nat.le_of_ble_eq_true rfl) dX11_person_41 (by decide) ?_
        rintro _ _ ⟨rfl, rfl⟩
        refine j_iret C dX11_person_44 ?_
        unfold sp_person
        rw [if_pos ⟨c7, c15⟩, if_pos (by rw [e3]; congr 1; omega)]
        exact ⟨show (-1000000000 : Int32) - nI 4 = -1000000004 from by decide, hC.er 4⟩
    · replace c15 := bI_f c15
      refine j_aload_n C 0 dX11_person_18 rfl ?_
      refine j_iconst C (v := (nI 1)) dX11_person_19 (by decide) ?_
      refine j_callV (As := [.int (nI 1)]) (rest := []) C vw11_90 (h_error 1 (by decide)) ⟨0, 11, _, _, rfl, rfl, rfl⟩ rfl (Nat.le_of_ble_eq_true rfl) dX11_person_20 (by decide) ?_
      rintro _ _ ⟨rfl, rfl⟩
      refine j_iret C dX11_person_23 ?_
      unfold sp_person
      rw [if_neg (fun h => c15 h.2)]
      exact ⟨show (-1000000000 : Int32) - nI 1 = -1000000001 from by decide, hC.er 1⟩

/-! The reference's public calls: cells, people, wrongs. -/
theorem fill_2 (row : Nat → Int32) (n : Nat) (hn : n ≤ 10) : fillF row n 2 = row 2 := by
  unfold fillF
  induction n with
  | zero => rfl
  | succ n ih => unfold itN; rw [pk_un (by omega), pk_un (by omega)]; exact ih (by omega)
theorem ofPF_6 {V row : Nat → Int32} {nw p : Nat} (e8 : row 8 = nI nw) (h : nw ≤ 8) : ofPF V row p 6 = wS V row nw p := by unfold ofPF; rw [if_pos rfl, e8, tN_nI (by omega)]
theorem ofPF_7 {V row : Nat → Int32} {np nw p : Nat} (e8 : row 8 = nI nw) (h : nw ≤ 8) (e3 : row 3 = nI np) (g : np ≤ 6) : ofPF V row p 7 = bendF row np (wS V row nw p) p := by unfold ofPF; rw [if_neg (by decide), if_pos rfl, e8, e3, tN_nI (by omega), tN_nI (by omega)]
theorem ofPF_8 {V row : Nat → Int32} {p : Nat} : ofPF V row p 8 = eatF row p := rfl
theorem ofPF_lt {V row : Nat → Int32} {p w : Nat} (h : w < 6) : ofPF V row p w = row (30 + 6 * p + w) := by unfold ofPF; rw [if_neg (by omega), if_neg (by omega), if_neg (by omega)]
def forgG (row : Nat → Int32) (w i m : Nat) : Nat → Int32 := fun k => if 66 + 3 * w ≤ k ∧ k < i then row (k + 3) else if k = 8 then nI m else row k
theorem forgG_0 (row : Nat → Int32) (w m : Nat) : upd row 8 (nI m) = forgG row w (66 + 3 * w) m := by
  funext k
  unfold forgG upd
  rw [if_neg (c := 66 + 3 * w ≤ k ∧ k < 66 + 3 * w) (by omega)]
theorem forgG_s (row : Nat → Int32) {w i m : Nat} (h : 66 + 3 * w ≤ i) : upd (forgG row w i m) i (forgG row w i m (i + 3)) = forgG row w (i + 1) m := by
  funext k
  by_cases e : k = i
  · subst e
    rw [pk_us]
    unfold forgG
    rw [if_neg (by omega), if_neg (by omega), if_pos (by omega)]
  · rw [pk_un e]
    unfold forgG
    by_cases g : 66 + 3 * w ≤ k ∧ k < i
    · rw [if_pos g, if_pos (by omega)]
    · rw [if_neg g, if_neg (c := 66 + 3 * w ≤ k ∧ k < i + 1) (by omega)]
theorem forgG_8 (row : Nat → Int32) (w i m : Nat) : forgG row w i m 8 = nI m := by
  unfold forgG; rw [if_neg (by omega), if_pos rfl]
theorem forgG_F {row : Nat → Int32} {w n : Nat} (e8 : row 8 = nI n) (h : 1 ≤ n) : forgG row w (66 + 3 * (n - 1)) (n - 1) = forgF row w n := by
  unfold forgG forgF
  rw [e8, pk_sub h]
def abF (k : Nat) : Int32 := if k = 0 then -1 else if 3 < k then nI (k - 3) else nI 0

theorem dX12_field_0 : decode cX12_field 0 = .ok (.iload_n 1, 1) := by decide +kernel
theorem dX12_field_1 : decode cX12_field 1 = .ok (.iconst 2, 1) := by decide +kernel
theorem dX12_field_2 : decode cX12_field 2 = .ok (.bipush 10, 2) := by decide +kernel
theorem dX12_field_4 : decode cX12_field 4 = .ok (.invokestatic 51, 3) := by decide +kernel
theorem dX12_field_7 : decode cX12_field 7 = .ok (.ifCond .ne 10, 3) := by decide +kernel
theorem dX12_field_10 : decode cX12_field 10 = .ok (.aload_n 0, 1) := by decide +kernel
theorem dX12_field_11 : decode cX12_field 11 = .ok (.ldc 55, 2) := by decide +kernel
theorem dX12_field_13 : decode cX12_field 13 = .ok (.invokevirtual 56, 3) := by decide +kernel
theorem dX12_field_16 : decode cX12_field 16 = .ok (.ireturn, 1) := by decide +kernel
theorem dX12_field_17 : decode cX12_field 17 = .ok (.aload_n 0, 1) := by decide +kernel
theorem dX12_field_18 : decode cX12_field 18 = .ok (.getfield 7, 3) := by decide +kernel
theorem dX12_field_21 : decode cX12_field 21 = .ok (.iconst 3, 1) := by decide +kernel
theorem dX12_field_22 : decode cX12_field 22 = .ok (.iaload, 1) := by decide +kernel
theorem dX12_field_23 : decode cX12_field 23 = .ok (.ifCond .le 10, 3) := by decide +kernel
theorem dX12_field_26 : decode cX12_field 26 = .ok (.aload_n 0, 1) := by decide +kernel
theorem dX12_field_27 : decode cX12_field 27 = .ok (.ldc 60, 2) := by decide +kernel
theorem dX12_field_29 : decode cX12_field 29 = .ok (.invokevirtual 56, 3) := by decide +kernel
theorem dX12_field_32 : decode cX12_field 32 = .ok (.ireturn, 1) := by decide +kernel
theorem dX12_field_33 : decode cX12_field 33 = .ok (.iconst 0, 1) := by decide +kernel
theorem dX12_field_34 : decode cX12_field 34 = .ok (.istore_n 2, 1) := by decide +kernel
theorem dX12_field_35 : decode cX12_field 35 = .ok (.iload_n 2, 1) := by decide +kernel
theorem dX12_field_36 : decode cX12_field 36 = .ok (.bipush 10, 2) := by decide +kernel
theorem dX12_field_38 : decode cX12_field 38 = .ok (.if_icmp .ge 30, 3) := by decide +kernel
theorem dX12_field_41 : decode cX12_field 41 = .ok (.aload_n 0, 1) := by decide +kernel
theorem dX12_field_42 : decode cX12_field 42 = .ok (.getfield 7, 3) := by decide +kernel
theorem dX12_field_45 : decode cX12_field 45 = .ok (.bipush 10, 2) := by decide +kernel
theorem dX12_field_47 : decode cX12_field 47 = .ok (.iload_n 2, 1) := by decide +kernel
theorem dX12_field_48 : decode cX12_field 48 = .ok (.iadd, 1) := by decide +kernel
theorem dX12_field_49 : decode cX12_field 49 = .ok (.bipush 20, 2) := by decide +kernel
theorem dX12_field_51 : decode cX12_field 51 = .ok (.iastore, 1) := by decide +kernel
theorem dX12_field_52 : decode cX12_field 52 = .ok (.aload_n 0, 1) := by decide +kernel
theorem dX12_field_53 : decode cX12_field 53 = .ok (.getfield 7, 3) := by decide +kernel
theorem dX12_field_56 : decode cX12_field 56 = .ok (.bipush 20, 2) := by decide +kernel
theorem dX12_field_58 : decode cX12_field 58 = .ok (.iload_n 2, 1) := by decide +kernel
theorem dX12_field_59 : decode cX12_field 59 = .ok (.iadd, 1) := by decide +kernel
theorem dX12_field_60 : decode cX12_field 60 = .ok (.iconst 1, 1) := by decide +kernel
theorem dX12_field_61 : decode cX12_field 61 = .ok (.iastore, 1) := by decide +kernel
theorem dX12_field_62 : decode cX12_field 62 = .ok (.iinc 2 1, 3) := by decide +kernel
theorem dX12_field_65 : decode cX12_field 65 = .ok (.goto (-30), 3) := by decide +kernel
theorem dX12_field_68 : decode cX12_field 68 = .ok (.aload_n 0, 1) := by decide +kernel
theorem dX12_field_69 : decode cX12_field 69 = .ok (.iconst 2, 1) := by decide +kernel
theorem dX12_field_70 : decode cX12_field 70 = .ok (.iload_n 1, 1) := by decide +kernel
theorem dX12_field_71 : decode cX12_field 71 = .ok (.invokevirtual 61, 3) := by decide +kernel
theorem dX12_field_74 : decode cX12_field 74 = .ok (.ireturn, 1) := by decide +kernel
set_option maxHeartbeats 2000000 in
set_option maxRecDepth 20000 in
theorem c_field {l : Launch} {D : va_G} {cI cG cW : ClassId} {o : Nat} {q : Nat → Nat} {V row kept tried bf fd pk bo so sh mv tr : Nat → Int32} {n : Int32} {nc np nw d nt nq : Nat} (hR : RKx row nc np nw d nt nq) : Ci l yX12_field cX12_field 3 (some .int) 3 D (tyL cI cG cW) (wR cI o q) [.ref o, .int n] (sR V row kept tried bf fd pk bo so sh mv tr) (fun r τ => r = (sp_field V row kept tried bf fd pk bo so sh mv tr n).1 ∧ EQ τ (sp_field V row kept tried bf fd pk bo so sh mv tr n).2) := by
  refine Ci.of (by decide) (Nat.le_of_ble_eq_true rfl) ?_
  intro p_ e_ s_ m_ b_ M_ c_ A_ C
  replace C : Cx _ _ _ _ _ _ _ _ RX12 _ _ _ _ := C
  refine j_L [0, 1] [(0, .ref o), (1, .int n)] rfl ?_
  obtain ⟨hI, hW, ⟨e0, hd⟩, ⟨e4, ht⟩, ⟨e5, hq⟩, hB⟩ := id hR
  obtain ⟨⟨e2, hc2, hc10⟩, ⟨e3, hn6⟩, ⟨e8, hw8⟩, hP, hE, hLo, hT0, hT1⟩ := id hI
  have hIc := hI
  refine j_iload_n C 1 dX12_field_0 rfl ?_
  refine j_iconst C (v := (nI 2)) dX12_field_1 (by decide) ?_
  refine j_bipush C (v := (nI 10)) dX12_field_2 (by decide) ?_
  refine j_callS (As := [.int n, .int (nI 2), .int (nI 10)]) (rest := []) C vw12_in (c_in) rfl (Nat.le_of_ble_eq_true rfl) dX12_field_4 (by decide) ?_
  rintro _ _ ⟨rfl, rfl⟩
  refine j_if_ne C 17 dX12_field_7 (by decide) (fun c7 => ?_) (fun c7 => ?_)
  · replace c7 := bI_t c7
    refine j_aload_n C 0 dX12_field_17 rfl ?_
    refine rg C (v := .ref (q 0)) 0 (by decide) kf12_7 rfl dX12_field_18 ?_
    refine j_iconst C (v := (nI 3)) dX12_field_21 (by decide) ?_
    refine rl_row C 3 rfl (by omega) dX12_field_22 ?_
    refine j_if_le C 33 dX12_field_23 (by decide) (fun c23 => ?_) (fun c23 => ?_)
    · skip
      refine j_iconst C (v := (nI 0)) dX12_field_33 (by decide) ?_
      refine j_istore_n C [(2, .int (nI 0)), (0, .ref o), (1, .int n)] dX12_field_34 (by decide) rfl ?_
      refine j_L [1, 2, 0] [(0, .ref o), (1, .int n), (2, .int (nI 0))] rfl ?_
      refine j_loop (X := Nat) (fun (i : Nat) => i ≤ 10) (fun (i : Nat) => 10 - i) (fun (i : Nat) => (sR V (fillF row i) kept tried bf fd pk bo so sh mv tr)) (fun (i : Nat) => [(0, .ref o), (1, .int n), (2, .int (nI i))]) (0) (Nat.zero_le _) rfl rfl ?_
      rintro i hi ih
      try dsimp only at ih ⊢
      refine j_iload_n C 2 dX12_field_35 rfl ?_
      refine j_bipush C (v := (nI 10)) dX12_field_36 (by decide) ?_
      refine j_icmp_ge C 68 dX12_field_38 (by decide) (fun c38 => ?_) (fun c38 => ?_)
      · rw [nI_leI (by omega) (by omega)] at c38
        obtain rfl : i = 10 := by omega
        refine j_aload_n C 0 dX12_field_68 rfl ?_
        refine j_iconst C (v := (nI 2)) dX12_field_69 (by decide) ?_
        refine j_iload_n C 1 dX12_field_70 rfl ?_
        refine j_callV (As := [.int (nI 2), .int n]) (rest := []) C vw12_becomes (c_becomes 2 (by omega)) rRcv rfl (Nat.le_of_ble_eq_true rfl) dX12_field_71 (by decide) ?_
        rintro _ _ ⟨rfl, rfl⟩
        refine j_iret C dX12_field_74 ?_
        unfold sp_field
        rw [if_pos c7, if_pos c23]
        exact ⟨fill_2 row 10 (Nat.le_refl _), EQ.rf⟩
      · rw [nI_leI (by omega) (by omega)] at c38
        refine j_aload_n C 0 dX12_field_41 rfl ?_
        refine rg C (v := .ref (q 0)) 0 (by decide) kf12_7 rfl dX12_field_42 ?_
        refine j_bipush C (v := (nI 10)) dX12_field_45 (by decide) ?_
        refine j_iload_n C 2 dX12_field_47 rfl ?_
        refine j_iaddN C dX12_field_48 ?_
        refine j_bipush C (v := (nI 20)) dX12_field_49 (by decide) ?_
        refine rs_row C (10 + i) rfl (by omega) dX12_field_51 ?_
        refine j_aload_n C 0 dX12_field_52 rfl ?_
        refine rg C (v := .ref (q 0)) 0 (by decide) kf12_7 rfl dX12_field_53 ?_
        refine j_bipush C (v := (nI 20)) dX12_field_56 (by decide) ?_
        refine j_iload_n C 2 dX12_field_58 rfl ?_
        refine j_iaddN C dX12_field_59 ?_
        refine j_iconst C (v := (nI 1)) dX12_field_60 (by decide) ?_
        refine rs_row C (20 + i) rfl (by omega) dX12_field_61 ?_
        refine j_iinc C (v := (nI (i + 1))) 2 [(2, .int (nI (i + 1))), (0, .ref o), (1, .int n)] dX12_field_62 rfl (nI_1 _) (by decide) rfl ?_
        refine j_goto C 35 dX12_field_65 (by decide) ?_
        refine j_L [1, 2, 0] [(0, .ref o), (1, .int n), (2, .int (nI (i + 1)))] rfl ?_
        exact ih (i + 1) (by omega) (by omega)
    · skip
      refine j_aload_n C 0 dX12_field_26 rfl ?_
      refine j_ldc C (-1000000003) dX12_field_27 kc12_60 ?_
      refine j_callV (As := [.int (-1000000003)]) (rest := []) C vw12_errs (c_errs 3 (by decide) (by decide)) rRcv rfl (Nat.le_of_ble_eq_true rfl) dX12_field_29 (by decide) ?_
      rintro _ _ ⟨rfl, rfl⟩
      refine j_iret C dX12_field_32 ?_
      unfold sp_field
      rw [if_pos c7, if_neg c23]
      exact ⟨rfl, EQ.rf⟩
  · replace c7 := bI_f c7
    refine j_aload_n C 0 dX12_field_10 rfl ?_
    refine j_ldc C (-1000000001) dX12_field_11 kc12_55 ?_
    refine j_callV (As := [.int (-1000000001)]) (rest := []) C vw12_errs (c_errs 1 (by decide) (by decide)) rRcv rfl (Nat.le_of_ble_eq_true rfl) dX12_field_13 (by decide) ?_
    rintro _ _ ⟨rfl, rfl⟩
    refine j_iret C dX12_field_16 ?_
    unfold sp_field
    rw [if_neg c7]
    exact ⟨rfl, EQ.rf⟩
theorem dX12_lay_0 : decode cX12_lay 0 = .ok (.aload_n 0, 1) := by decide +kernel
theorem dX12_lay_1 : decode cX12_lay 1 = .ok (.iload_n 1, 1) := by decide +kernel
theorem dX12_lay_2 : decode cX12_lay 2 = .ok (.invokevirtual 65, 3) := by decide +kernel
theorem dX12_lay_5 : decode cX12_lay 5 = .ok (.ifCond .eq 32, 3) := by decide +kernel
theorem dX12_lay_8 : decode cX12_lay 8 = .ok (.iload_n 2, 1) := by decide +kernel
theorem dX12_lay_9 : decode cX12_lay 9 = .ok (.iconst 0, 1) := by decide +kernel
theorem dX12_lay_10 : decode cX12_lay 10 = .ok (.iconst 1, 1) := by decide +kernel
theorem dX12_lay_11 : decode cX12_lay 11 = .ok (.invokestatic 51, 3) := by decide +kernel
theorem dX12_lay_14 : decode cX12_lay 14 = .ok (.ifCond .eq 23, 3) := by decide +kernel
theorem dX12_lay_17 : decode cX12_lay 17 = .ok (.iload_n 3, 1) := by decide +kernel
theorem dX12_lay_18 : decode cX12_lay 18 = .ok (.iconst 0, 1) := by decide +kernel
theorem dX12_lay_19 : decode cX12_lay 19 = .ok (.iload_n 2, 1) := by decide +kernel
theorem dX12_lay_20 : decode cX12_lay 20 = .ok (.ifCond .ne 9, 3) := by decide +kernel
theorem dX12_lay_23 : decode cX12_lay 23 = .ok (.sipush 999, 3) := by decide +kernel
theorem dX12_lay_26 : decode cX12_lay 26 = .ok (.goto 5, 3) := by decide +kernel
theorem dX12_lay_29 : decode cX12_lay 29 = .ok (.bipush 9, 2) := by decide +kernel
theorem dX12_lay_31 : decode cX12_lay 31 = .ok (.invokestatic 51, 3) := by decide +kernel
theorem dX12_lay_34 : decode cX12_lay 34 = .ok (.ifCond .ne 10, 3) := by decide +kernel
theorem dX12_lay_37 : decode cX12_lay 37 = .ok (.aload_n 0, 1) := by decide +kernel
theorem dX12_lay_38 : decode cX12_lay 38 = .ok (.ldc 55, 2) := by decide +kernel
theorem dX12_lay_40 : decode cX12_lay 40 = .ok (.invokevirtual 56, 3) := by decide +kernel
theorem dX12_lay_43 : decode cX12_lay 43 = .ok (.ireturn, 1) := by decide +kernel
theorem dX12_lay_44 : decode cX12_lay 44 = .ok (.aload_n 0, 1) := by decide +kernel
theorem dX12_lay_45 : decode cX12_lay 45 = .ok (.iload_n 2, 1) := by decide +kernel
theorem dX12_lay_46 : decode cX12_lay 46 = .ok (.ifCond .ne 10, 3) := by decide +kernel
theorem dX12_lay_49 : decode cX12_lay 49 = .ok (.bipush 10, 2) := by decide +kernel
theorem dX12_lay_51 : decode cX12_lay 51 = .ok (.iload_n 1, 1) := by decide +kernel
theorem dX12_lay_52 : decode cX12_lay 52 = .ok (.iadd, 1) := by decide +kernel
theorem dX12_lay_53 : decode cX12_lay 53 = .ok (.goto 7, 3) := by decide +kernel
theorem dX12_lay_56 : decode cX12_lay 56 = .ok (.bipush 20, 2) := by decide +kernel
theorem dX12_lay_58 : decode cX12_lay 58 = .ok (.iload_n 1, 1) := by decide +kernel
theorem dX12_lay_59 : decode cX12_lay 59 = .ok (.iadd, 1) := by decide +kernel
theorem dX12_lay_60 : decode cX12_lay 60 = .ok (.iload_n 3, 1) := by decide +kernel
theorem dX12_lay_61 : decode cX12_lay 61 = .ok (.invokevirtual 61, 3) := by decide +kernel
theorem dX12_lay_64 : decode cX12_lay 64 = .ok (.ireturn, 1) := by decide +kernel
set_option maxHeartbeats 2000000 in
set_option maxRecDepth 20000 in
theorem c_lay {l : Launch} {D : va_G} {cI cG cW : ClassId} {o : Nat} {q : Nat → Nat} {V row kept tried bf fd pk bo so sh mv tr : Nat → Int32} {c what v : Int32} {nc np nw d nt nq : Nat} (hR : RKx row nc np nw d nt nq) : Ci l yX12_lay cX12_lay 4 (some .int) 3 D (tyL cI cG cW) (wR cI o q) [.ref o, .int c, .int what, .int v] (sR V row kept tried bf fd pk bo so sh mv tr) (fun r τ => r = (sp_lay V row kept tried bf fd pk bo so sh mv tr c what v).1 ∧ EQ τ (sp_lay V row kept tried bf fd pk bo so sh mv tr c what v).2) := by
  refine Ci.of (by decide) (Nat.le_of_ble_eq_true rfl) ?_
  intro p_ e_ s_ m_ b_ M_ c_ A_ C
  replace C : Cx _ _ _ _ _ _ _ _ RX12 _ _ _ _ := C
  refine j_L [0, 1, 2, 3] [(0, .ref o), (1, .int c), (2, .int what), (3, .int v)] rfl ?_
  obtain ⟨hI, hW, ⟨e0, hd⟩, ⟨e4, ht⟩, ⟨e5, hq⟩, hB⟩ := id hR
  obtain ⟨⟨e2, hc2, hc10⟩, ⟨e3, hn6⟩, ⟨e8, hw8⟩, hP, hE, hLo, hT0, hT1⟩ := id hI
  have hIc := hI
  refine j_aload_n C 0 dX12_lay_0 rfl ?_
  refine j_iload_n C 1 dX12_lay_1 rfl ?_
  refine j_callV (As := [.int c]) (rest := []) C vw12_isCell (c_isCell) rRcv rfl (Nat.le_of_ble_eq_true rfl) dX12_lay_2 (by decide) ?_
  rintro _ _ ⟨rfl, rfl⟩
  refine j_if_eq C 37 dX12_lay_5 (by decide) (fun c5 => ?_) (fun c5 => ?_)
  · replace c5 := bI_f c5
    refine j_aload_n C 0 dX12_lay_37 rfl ?_
    refine j_ldc C (-1000000001) dX12_lay_38 kc12_55 ?_
    refine j_callV (As := [.int (-1000000001)]) (rest := []) C vw12_errs (c_errs 1 (by decide) (by decide)) rRcv rfl (Nat.le_of_ble_eq_true rfl) dX12_lay_40 (by decide) ?_
    rintro _ _ ⟨rfl, rfl⟩
    refine j_iret C dX12_lay_43 ?_
    unfold sp_lay
    rw [if_neg (fun h => c5 h.1)]
    exact ⟨rfl, EQ.rf⟩
  · replace c5 := bI_t c5
    obtain ⟨cn, hcn, rfl⟩ := inn_row c5 e2 (by omega)
    refine j_iload_n C 2 dX12_lay_8 rfl ?_
    refine j_iconst C (v := (nI 0)) dX12_lay_9 (by decide) ?_
    refine j_iconst C (v := (nI 1)) dX12_lay_10 (by decide) ?_
    refine j_callS (As := [.int what, .int (nI 0), .int (nI 1)]) (rest := []) C vw12_in (c_in) rfl (Nat.le_of_ble_eq_true rfl) dX12_lay_11 (by decide) ?_
    rintro _ _ ⟨rfl, rfl⟩
    refine j_if_eq C 37 dX12_lay_14 (by decide) (fun c14 => ?_) (fun c14 => ?_)
    · replace c14 := bI_f c14
      refine j_aload_n C 0 dX12_lay_37 rfl ?_
      refine j_ldc C (-1000000001) dX12_lay_38 kc12_55 ?_
      refine j_callV (As := [.int (-1000000001)]) (rest := []) C vw12_errs (c_errs 1 (by decide) (by decide)) rRcv rfl (Nat.le_of_ble_eq_true rfl) dX12_lay_40 (by decide) ?_
      rintro _ _ ⟨rfl, rfl⟩
      refine j_iret C dX12_lay_43 ?_
      unfold sp_lay
      rw [if_neg (fun h => c14 h.2.1)]
      exact ⟨rfl, EQ.rf⟩
    · replace c14 := bI_t c14
      refine j_iload_n C 3 dX12_lay_17 rfl ?_
      refine j_iconst C (v := (nI 0)) dX12_lay_18 (by decide) ?_
      refine j_iload_n C 2 dX12_lay_19 rfl ?_
      refine j_if_ne C 29 dX12_lay_20 (by decide) (fun c20 => ?_) (fun c20 => ?_)
      · skip
        refine j_bipush C (v := (nI 9)) dX12_lay_29 (by decide) ?_
        refine j_callS (As := [.int v, .int (nI 0), .int (nI 9)]) (rest := []) C vw12_in (c_in) rfl (Nat.le_of_ble_eq_true rfl) dX12_lay_31 (by decide) ?_
        rintro _ _ ⟨rfl, rfl⟩
        refine j_if_ne C 44 dX12_lay_34 (by decide) (fun c34 => ?_) (fun c34 => ?_)
        · replace c34 := bI_t c34
          refine j_aload_n C 0 dX12_lay_44 rfl ?_
          refine j_iload_n C 2 dX12_lay_45 rfl ?_
          refine j_if_ne C 56 dX12_lay_46 (by decide) (fun c46 => ?_) (fun c46 => ?_)
          · skip
            refine j_bipush C (v := (nI 20)) dX12_lay_56 (by decide) ?_
            refine j_iload_n C 1 dX12_lay_58 rfl ?_
            refine j_iaddN C dX12_lay_59 ?_
            refine j_iload_n C 3 dX12_lay_60 rfl ?_
            refine j_callV (As := [.int (nI (20 + cn)), .int v]) (rest := []) C vw12_becomes (c_becomes (20 + cn) (by omega)) rRcv rfl (Nat.le_of_ble_eq_true rfl) dX12_lay_61 (by decide) ?_
            rintro _ _ ⟨rfl, rfl⟩
            refine j_iret C dX12_lay_64 ?_
            unfold sp_lay
            rw [if_neg c20, if_neg c20]
            rw [if_pos ⟨c5, c14, c34⟩, tN_nI (by omega)]
            exact ⟨rfl, EQ.rf⟩
          · skip
            exact absurd c46 c20
        · replace c34 := bI_f c34
          refine j_aload_n C 0 dX12_lay_37 rfl ?_
          refine j_ldc C (-1000000001) dX12_lay_38 kc12_55 ?_
          refine j_callV (As := [.int (-1000000001)]) (rest := []) C vw12_errs (c_errs 1 (by decide) (by decide)) rRcv rfl (Nat.le_of_ble_eq_true rfl) dX12_lay_40 (by decide) ?_
          rintro _ _ ⟨rfl, rfl⟩
          refine j_iret C dX12_lay_43 ?_
          unfold sp_lay
          rw [if_neg c20, if_neg c20]
          rw [if_neg (fun h => c34 h.2.2)]
          exact ⟨rfl, EQ.rf⟩
      · skip
        refine j_sipush C (v := (nI 999)) dX12_lay_23 (by decide) ?_
        refine j_goto C 31 dX12_lay_26 (by decide) ?_
        refine j_callS (As := [.int v, .int (nI 0), .int (nI 999)]) (rest := []) C vw12_in (c_in) rfl (Nat.le_of_ble_eq_true rfl) dX12_lay_31 (by decide) ?_
        rintro _ _ ⟨rfl, rfl⟩
        refine j_if_ne C 44 dX12_lay_34 (by decide) (fun c34 => ?_) (fun c34 => ?_)
        · replace c34 := bI_t c34
          refine j_aload_n C 0 dX12_lay_44 rfl ?_
          refine j_iload_n C 2 dX12_lay_45 rfl ?_
          refine j_if_ne C 56 dX12_lay_46 (by decide) (fun c46 => ?_) (fun c46 => ?_)
          · skip
            exact absurd c20 c46
          · skip
            refine j_bipush C (v := (nI 10)) dX12_lay_49 (by decide) ?_
            refine j_iload_n C 1 dX12_lay_51 rfl ?_
            refine j_iaddN C dX12_lay_52 ?_
            refine j_goto C 60 dX12_lay_53 (by decide) ?_
            refine j_iload_n C 3 dX12_lay_60 rfl ?_
            refine j_callV (As := [.int (nI (10 + cn)), .int v]) (rest := []) C vw12_becomes (c_becomes (10 + cn) (by omega)) rRcv rfl (Nat.le_of_ble_eq_true rfl) dX12_lay_61 (by decide) ?_
            rintro _ _ ⟨rfl, rfl⟩
            refine j_iret C dX12_lay_64 ?_
            unfold sp_lay
            rw [if_pos c20, if_pos c20]
            rw [if_pos ⟨c5, c14, c34⟩, tN_nI (by omega)]
            exact ⟨rfl, EQ.rf⟩
        · replace c34 := bI_f c34
          refine j_aload_n C 0 dX12_lay_37 rfl ?_
          refine j_ldc C (-1000000001) dX12_lay_38 kc12_55 ?_
          refine j_callV (As := [.int (-1000000001)]) (rest := []) C vw12_errs (c_errs 1 (by decide) (by decide)) rRcv rfl (Nat.le_of_ble_eq_true rfl) dX12_lay_40 (by decide) ?_
          rintro _ _ ⟨rfl, rfl⟩
          refine j_iret C dX12_lay_43 ?_
          unfold sp_lay
          rw [if_pos c20, if_pos c20]
          rw [if_neg (fun h => c34 h.2.2)]
          exact ⟨rfl, EQ.rf⟩
theorem dX12_ofCell_0 : decode cX12_ofCell 0 = .ok (.aload_n 0, 1) := by decide +kernel
theorem dX12_ofCell_1 : decode cX12_ofCell 1 = .ok (.iload_n 1, 1) := by decide +kernel
theorem dX12_ofCell_2 : decode cX12_ofCell 2 = .ok (.invokevirtual 65, 3) := by decide +kernel
theorem dX12_ofCell_5 : decode cX12_ofCell 5 = .ok (.ifCond .eq 12, 3) := by decide +kernel
theorem dX12_ofCell_8 : decode cX12_ofCell 8 = .ok (.iload_n 2, 1) := by decide +kernel
theorem dX12_ofCell_9 : decode cX12_ofCell 9 = .ok (.iconst 0, 1) := by decide +kernel
theorem dX12_ofCell_10 : decode cX12_ofCell 10 = .ok (.iconst 2, 1) := by decide +kernel
theorem dX12_ofCell_11 : decode cX12_ofCell 11 = .ok (.invokestatic 51, 3) := by decide +kernel
theorem dX12_ofCell_14 : decode cX12_ofCell 14 = .ok (.ifCond .ne 10, 3) := by decide +kernel
theorem dX12_ofCell_17 : decode cX12_ofCell 17 = .ok (.aload_n 0, 1) := by decide +kernel
theorem dX12_ofCell_18 : decode cX12_ofCell 18 = .ok (.ldc 55, 2) := by decide +kernel
theorem dX12_ofCell_20 : decode cX12_ofCell 20 = .ok (.invokevirtual 56, 3) := by decide +kernel
theorem dX12_ofCell_23 : decode cX12_ofCell 23 = .ok (.ireturn, 1) := by decide +kernel
theorem dX12_ofCell_24 : decode cX12_ofCell 24 = .ok (.iload_n 2, 1) := by decide +kernel
theorem dX12_ofCell_25 : decode cX12_ofCell 25 = .ok (.ifCond .ne 15, 3) := by decide +kernel
theorem dX12_ofCell_28 : decode cX12_ofCell 28 = .ok (.aload_n 0, 1) := by decide +kernel
theorem dX12_ofCell_29 : decode cX12_ofCell 29 = .ok (.getfield 7, 3) := by decide +kernel
theorem dX12_ofCell_32 : decode cX12_ofCell 32 = .ok (.bipush 10, 2) := by decide +kernel
theorem dX12_ofCell_34 : decode cX12_ofCell 34 = .ok (.iload_n 1, 1) := by decide +kernel
theorem dX12_ofCell_35 : decode cX12_ofCell 35 = .ok (.iadd, 1) := by decide +kernel
theorem dX12_ofCell_36 : decode cX12_ofCell 36 = .ok (.iaload, 1) := by decide +kernel
theorem dX12_ofCell_37 : decode cX12_ofCell 37 = .ok (.goto 25, 3) := by decide +kernel
theorem dX12_ofCell_40 : decode cX12_ofCell 40 = .ok (.iload_n 2, 1) := by decide +kernel
theorem dX12_ofCell_41 : decode cX12_ofCell 41 = .ok (.iconst 1, 1) := by decide +kernel
theorem dX12_ofCell_42 : decode cX12_ofCell 42 = .ok (.if_icmp .ne 15, 3) := by decide +kernel
theorem dX12_ofCell_45 : decode cX12_ofCell 45 = .ok (.aload_n 0, 1) := by decide +kernel
theorem dX12_ofCell_46 : decode cX12_ofCell 46 = .ok (.getfield 7, 3) := by decide +kernel
theorem dX12_ofCell_49 : decode cX12_ofCell 49 = .ok (.bipush 20, 2) := by decide +kernel
theorem dX12_ofCell_51 : decode cX12_ofCell 51 = .ok (.iload_n 1, 1) := by decide +kernel
theorem dX12_ofCell_52 : decode cX12_ofCell 52 = .ok (.iadd, 1) := by decide +kernel
theorem dX12_ofCell_53 : decode cX12_ofCell 53 = .ok (.iaload, 1) := by decide +kernel
theorem dX12_ofCell_54 : decode cX12_ofCell 54 = .ok (.goto 8, 3) := by decide +kernel
theorem dX12_ofCell_57 : decode cX12_ofCell 57 = .ok (.aload_n 0, 1) := by decide +kernel
theorem dX12_ofCell_58 : decode cX12_ofCell 58 = .ok (.iload_n 1, 1) := by decide +kernel
theorem dX12_ofCell_59 : decode cX12_ofCell 59 = .ok (.invokevirtual 72, 3) := by decide +kernel
theorem dX12_ofCell_62 : decode cX12_ofCell 62 = .ok (.ireturn, 1) := by decide +kernel
set_option maxHeartbeats 2000000 in
set_option maxRecDepth 20000 in
theorem c_ofCell {l : Launch} {D : va_G} {cI cG cW : ClassId} {o : Nat} {q : Nat → Nat} {V row kept tried bf fd pk bo so sh mv tr : Nat → Int32} {c what : Int32} {nc np nw d nt nq : Nat} (hR : RKx row nc np nw d nt nq) : Ci l yX12_ofCell cX12_ofCell 3 (some .int) 3 D (tyL cI cG cW) (wR cI o q) [.ref o, .int c, .int what] (sR V row kept tried bf fd pk bo so sh mv tr) (fun r τ => r = (sp_ofCell V row kept tried bf fd pk bo so sh mv tr c what).1 ∧ EQ τ (sp_ofCell V row kept tried bf fd pk bo so sh mv tr c what).2) := by
  refine Ci.of (by decide) (Nat.le_of_ble_eq_true rfl) ?_
  intro p_ e_ s_ m_ b_ M_ c_ A_ C
  replace C : Cx _ _ _ _ _ _ _ _ RX12 _ _ _ _ := C
  refine j_L [0, 1, 2] [(0, .ref o), (1, .int c), (2, .int what)] rfl ?_
  obtain ⟨hI, hW, ⟨e0, hd⟩, ⟨e4, ht⟩, ⟨e5, hq⟩, hB⟩ := id hR
  obtain ⟨⟨e2, hc2, hc10⟩, ⟨e3, hn6⟩, ⟨e8, hw8⟩, hP, hE, hLo, hT0, hT1⟩ := id hI
  have hIc := hI
  refine j_aload_n C 0 dX12_ofCell_0 rfl ?_
  refine j_iload_n C 1 dX12_ofCell_1 rfl ?_
  refine j_callV (As := [.int c]) (rest := []) C vw12_isCell (c_isCell) rRcv rfl (Nat.le_of_ble_eq_true rfl) dX12_ofCell_2 (by decide) ?_
  rintro _ _ ⟨rfl, rfl⟩
  refine j_if_eq C 17 dX12_ofCell_5 (by decide) (fun c5 => ?_) (fun c5 => ?_)
  · replace c5 := bI_f c5
    refine j_aload_n C 0 dX12_ofCell_17 rfl ?_
    refine j_ldc C (-1000000001) dX12_ofCell_18 kc12_55 ?_
    refine j_callV (As := [.int (-1000000001)]) (rest := []) C vw12_errs (c_errs 1 (by decide) (by decide)) rRcv rfl (Nat.le_of_ble_eq_true rfl) dX12_ofCell_20 (by decide) ?_
    rintro _ _ ⟨rfl, rfl⟩
    refine j_iret C dX12_ofCell_23 ?_
    unfold sp_ofCell
    rw [if_neg (fun h => c5 h.1)]
    exact ⟨rfl, EQ.rf⟩
  · replace c5 := bI_t c5
    obtain ⟨cn, hcn, rfl⟩ := inn_row c5 e2 (by omega)
    refine j_iload_n C 2 dX12_ofCell_8 rfl ?_
    refine j_iconst C (v := (nI 0)) dX12_ofCell_9 (by decide) ?_
    refine j_iconst C (v := (nI 2)) dX12_ofCell_10 (by decide) ?_
    refine j_callS (As := [.int what, .int (nI 0), .int (nI 2)]) (rest := []) C vw12_in (c_in) rfl (Nat.le_of_ble_eq_true rfl) dX12_ofCell_11 (by decide) ?_
    rintro _ _ ⟨rfl, rfl⟩
    refine j_if_ne C 24 dX12_ofCell_14 (by decide) (fun c14 => ?_) (fun c14 => ?_)
    · replace c14 := bI_t c14
      refine j_iload_n C 2 dX12_ofCell_24 rfl ?_
      refine j_if_ne C 40 dX12_ofCell_25 (by decide) (fun c25 => ?_) (fun c25 => ?_)
      · skip
        refine j_iload_n C 2 dX12_ofCell_40 rfl ?_
        refine j_iconst C (v := (nI 1)) dX12_ofCell_41 (by decide) ?_
        refine j_icmp_ne C 57 dX12_ofCell_42 (by decide) (fun c42 => ?_) (fun c42 => ?_)
        · skip
          refine j_aload_n C 0 dX12_ofCell_57 rfl ?_
          refine j_iload_n C 1 dX12_ofCell_58 rfl ?_
          refine j_callV (As := [.int (nI cn)]) (rest := []) C vw12_whoIsAt (c_whoIsAt e3 hn6) rRcv rfl (Nat.le_of_ble_eq_true rfl) dX12_ofCell_59 (by decide) ?_
          rintro _ _ ⟨rfl, rfl⟩
          refine j_iret C dX12_ofCell_62 ?_
          unfold sp_ofCell
          rw [if_pos ⟨c5, c14⟩]
          rw [if_neg c25, if_neg c42, e3]
          rw [tN_nI (by omega)]
          exact ⟨rfl, EQ.rf⟩
        · skip
          refine j_aload_n C 0 dX12_ofCell_45 rfl ?_
          refine rg C (v := .ref (q 0)) 0 (by decide) kf12_7 rfl dX12_ofCell_46 ?_
          refine j_bipush C (v := (nI 20)) dX12_ofCell_49 (by decide) ?_
          refine j_iload_n C 1 dX12_ofCell_51 rfl ?_
          refine j_iaddN C dX12_ofCell_52 ?_
          refine rl_row C (20 + cn) rfl (by omega) dX12_ofCell_53 ?_
          refine j_goto C 62 dX12_ofCell_54 (by decide) ?_
          refine j_iret C dX12_ofCell_62 ?_
          unfold sp_ofCell
          rw [if_pos ⟨c5, c14⟩]
          rw [if_neg c25, if_pos c42]
          rw [tN_nI (by omega)]
          exact ⟨rfl, EQ.rf⟩
      · skip
        refine j_aload_n C 0 dX12_ofCell_28 rfl ?_
        refine rg C (v := .ref (q 0)) 0 (by decide) kf12_7 rfl dX12_ofCell_29 ?_
        refine j_bipush C (v := (nI 10)) dX12_ofCell_32 (by decide) ?_
        refine j_iload_n C 1 dX12_ofCell_34 rfl ?_
        refine j_iaddN C dX12_ofCell_35 ?_
        refine rl_row C (10 + cn) rfl (by omega) dX12_ofCell_36 ?_
        refine j_goto C 62 dX12_ofCell_37 (by decide) ?_
        refine j_iret C dX12_ofCell_62 ?_
        unfold sp_ofCell
        rw [if_pos ⟨c5, c14⟩]
        rw [if_pos c25]
        rw [tN_nI (by omega)]
        exact ⟨rfl, EQ.rf⟩
    · replace c14 := bI_f c14
      refine j_aload_n C 0 dX12_ofCell_17 rfl ?_
      refine j_ldc C (-1000000001) dX12_ofCell_18 kc12_55 ?_
      refine j_callV (As := [.int (-1000000001)]) (rest := []) C vw12_errs (c_errs 1 (by decide) (by decide)) rRcv rfl (Nat.le_of_ble_eq_true rfl) dX12_ofCell_20 (by decide) ?_
      rintro _ _ ⟨rfl, rfl⟩
      refine j_iret C dX12_ofCell_23 ?_
      unfold sp_ofCell
      rw [if_neg (fun h => c14 h.2)]
      exact ⟨rfl, EQ.rf⟩
theorem dX12_person_0 : decode cX12_person 0 = .ok (.iload_n 1, 1) := by decide +kernel
theorem dX12_person_1 : decode cX12_person 1 = .ok (.iconst 0, 1) := by decide +kernel
theorem dX12_person_2 : decode cX12_person 2 = .ok (.bipush 69, 2) := by decide +kernel
theorem dX12_person_4 : decode cX12_person 4 = .ok (.invokestatic 51, 3) := by decide +kernel
theorem dX12_person_7 : decode cX12_person 7 = .ok (.ifCond .eq 11, 3) := by decide +kernel
theorem dX12_person_10 : decode cX12_person 10 = .ok (.aload_n 0, 1) := by decide +kernel
theorem dX12_person_11 : decode cX12_person 11 = .ok (.iload_n 2, 1) := by decide +kernel
theorem dX12_person_12 : decode cX12_person 12 = .ok (.invokevirtual 65, 3) := by decide +kernel
theorem dX12_person_15 : decode cX12_person 15 = .ok (.ifCond .ne 10, 3) := by decide +kernel
theorem dX12_person_18 : decode cX12_person 18 = .ok (.aload_n 0, 1) := by decide +kernel
theorem dX12_person_19 : decode cX12_person 19 = .ok (.ldc 55, 2) := by decide +kernel
theorem dX12_person_21 : decode cX12_person 21 = .ok (.invokevirtual 56, 3) := by decide +kernel
theorem dX12_person_24 : decode cX12_person 24 = .ok (.ireturn, 1) := by decide +kernel
theorem dX12_person_25 : decode cX12_person 25 = .ok (.aload_n 0, 1) := by decide +kernel
theorem dX12_person_26 : decode cX12_person 26 = .ok (.getfield 7, 3) := by decide +kernel
theorem dX12_person_29 : decode cX12_person 29 = .ok (.iconst 3, 1) := by decide +kernel
theorem dX12_person_30 : decode cX12_person 30 = .ok (.iaload, 1) := by decide +kernel
theorem dX12_person_31 : decode cX12_person 31 = .ok (.bipush 6, 2) := by decide +kernel
theorem dX12_person_33 : decode cX12_person 33 = .ok (.if_icmp .ne 10, 3) := by decide +kernel
theorem dX12_person_36 : decode cX12_person 36 = .ok (.aload_n 0, 1) := by decide +kernel
theorem dX12_person_37 : decode cX12_person 37 = .ok (.ldc 75, 2) := by decide +kernel
theorem dX12_person_39 : decode cX12_person 39 = .ok (.invokevirtual 56, 3) := by decide +kernel
theorem dX12_person_42 : decode cX12_person 42 = .ok (.ireturn, 1) := by decide +kernel
theorem dX12_person_43 : decode cX12_person 43 = .ok (.aload_n 0, 1) := by decide +kernel
theorem dX12_person_44 : decode cX12_person 44 = .ok (.getfield 7, 3) := by decide +kernel
theorem dX12_person_47 : decode cX12_person 47 = .ok (.iconst 3, 1) := by decide +kernel
theorem dX12_person_48 : decode cX12_person 48 = .ok (.iaload, 1) := by decide +kernel
theorem dX12_person_49 : decode cX12_person 49 = .ok (.istore_n 3, 1) := by decide +kernel
theorem dX12_person_50 : decode cX12_person 50 = .ok (.aload_n 0, 1) := by decide +kernel
theorem dX12_person_51 : decode cX12_person 51 = .ok (.iload_n 3, 1) := by decide +kernel
theorem dX12_person_52 : decode cX12_person 52 = .ok (.iconst 0, 1) := by decide +kernel
theorem dX12_person_53 : decode cX12_person 53 = .ok (.iload_n 1, 1) := by decide +kernel
theorem dX12_person_54 : decode cX12_person 54 = .ok (.bipush 10, 2) := by decide +kernel
theorem dX12_person_56 : decode cX12_person 56 = .ok (.idiv, 1) := by decide +kernel
theorem dX12_person_57 : decode cX12_person 57 = .ok (.invokevirtual 76, 3) := by decide +kernel
theorem dX12_person_60 : decode cX12_person 60 = .ok (.aload_n 0, 1) := by decide +kernel
theorem dX12_person_61 : decode cX12_person 61 = .ok (.iload_n 3, 1) := by decide +kernel
theorem dX12_person_62 : decode cX12_person 62 = .ok (.iconst 1, 1) := by decide +kernel
theorem dX12_person_63 : decode cX12_person 63 = .ok (.iload_n 1, 1) := by decide +kernel
theorem dX12_person_64 : decode cX12_person 64 = .ok (.bipush 10, 2) := by decide +kernel
theorem dX12_person_66 : decode cX12_person 66 = .ok (.irem, 1) := by decide +kernel
theorem dX12_person_67 : decode cX12_person 67 = .ok (.invokevirtual 76, 3) := by decide +kernel
theorem dX12_person_70 : decode cX12_person 70 = .ok (.aload_n 0, 1) := by decide +kernel
theorem dX12_person_71 : decode cX12_person 71 = .ok (.iload_n 3, 1) := by decide +kernel
theorem dX12_person_72 : decode cX12_person 72 = .ok (.iconst 2, 1) := by decide +kernel
theorem dX12_person_73 : decode cX12_person 73 = .ok (.iload_n 2, 1) := by decide +kernel
theorem dX12_person_74 : decode cX12_person 74 = .ok (.invokevirtual 76, 3) := by decide +kernel
theorem dX12_person_77 : decode cX12_person 77 = .ok (.aload_n 0, 1) := by decide +kernel
theorem dX12_person_78 : decode cX12_person 78 = .ok (.iload_n 3, 1) := by decide +kernel
theorem dX12_person_79 : decode cX12_person 79 = .ok (.iconst 3, 1) := by decide +kernel
theorem dX12_person_80 : decode cX12_person 80 = .ok (.iconst 0, 1) := by decide +kernel
theorem dX12_person_81 : decode cX12_person 81 = .ok (.invokevirtual 76, 3) := by decide +kernel
theorem dX12_person_84 : decode cX12_person 84 = .ok (.aload_n 0, 1) := by decide +kernel
theorem dX12_person_85 : decode cX12_person 85 = .ok (.iload_n 3, 1) := by decide +kernel
theorem dX12_person_86 : decode cX12_person 86 = .ok (.iconst 4, 1) := by decide +kernel
theorem dX12_person_87 : decode cX12_person 87 = .ok (.iconst 0, 1) := by decide +kernel
theorem dX12_person_88 : decode cX12_person 88 = .ok (.invokevirtual 76, 3) := by decide +kernel
theorem dX12_person_91 : decode cX12_person 91 = .ok (.aload_n 0, 1) := by decide +kernel
theorem dX12_person_92 : decode cX12_person 92 = .ok (.iload_n 3, 1) := by decide +kernel
theorem dX12_person_93 : decode cX12_person 93 = .ok (.iconst 5, 1) := by decide +kernel
theorem dX12_person_94 : decode cX12_person 94 = .ok (.iconst 0, 1) := by decide +kernel
theorem dX12_person_95 : decode cX12_person 95 = .ok (.invokevirtual 76, 3) := by decide +kernel
theorem dX12_person_98 : decode cX12_person 98 = .ok (.aload_n 0, 1) := by decide +kernel
theorem dX12_person_99 : decode cX12_person 99 = .ok (.getfield 7, 3) := by decide +kernel
theorem dX12_person_102 : decode cX12_person 102 = .ok (.iconst 3, 1) := by decide +kernel
theorem dX12_person_103 : decode cX12_person 103 = .ok (.dup2, 1) := by decide +kernel
theorem dX12_person_104 : decode cX12_person 104 = .ok (.iaload, 1) := by decide +kernel
theorem dX12_person_105 : decode cX12_person 105 = .ok (.iconst 1, 1) := by decide +kernel
theorem dX12_person_106 : decode cX12_person 106 = .ok (.iadd, 1) := by decide +kernel
theorem dX12_person_107 : decode cX12_person 107 = .ok (.iastore, 1) := by decide +kernel
theorem dX12_person_108 : decode cX12_person 108 = .ok (.iload_n 3, 1) := by decide +kernel
theorem dX12_person_109 : decode cX12_person 109 = .ok (.ireturn, 1) := by decide +kernel
set_option maxHeartbeats 2000000 in
set_option maxRecDepth 20000 in
theorem c_person {l : Launch} {D : va_G} {cI cG cW : ClassId} {o : Nat} {q : Nat → Nat} {V row kept tried bf fd pk bo so sh mv tr : Nat → Int32} {km c : Int32} {nc np nw d nt nq : Nat} (hR : RKx row nc np nw d nt nq) : Ci l yX12_person cX12_person 4 (some .int) 3 D (tyL cI cG cW) (wR cI o q) [.ref o, .int km, .int c] (sR V row kept tried bf fd pk bo so sh mv tr) (fun r τ => r = (sp_person V row kept tried bf fd pk bo so sh mv tr km c).1 ∧ EQ τ (sp_person V row kept tried bf fd pk bo so sh mv tr km c).2) := by
  refine Ci.of (by decide) (Nat.le_of_ble_eq_true rfl) ?_
  intro p_ e_ s_ m_ b_ M_ c_ A_ C
  replace C : Cx _ _ _ _ _ _ _ _ RX12 _ _ _ _ := C
  refine j_L [0, 1, 2] [(0, .ref o), (1, .int km), (2, .int c)] rfl ?_
  obtain ⟨hI, hW, ⟨e0, hd⟩, ⟨e4, ht⟩, ⟨e5, hq⟩, hB⟩ := id hR
  obtain ⟨⟨e2, hc2, hc10⟩, ⟨e3, hn6⟩, ⟨e8, hw8⟩, hP, hE, hLo, hT0, hT1⟩ := id hI
  have hIc := hI
  refine j_iload_n C 1 dX12_person_0 rfl ?_
  refine j_iconst C (v := (nI 0)) dX12_person_1 (by decide) ?_
  refine j_bipush C (v := (nI 69)) dX12_person_2 (by decide) ?_
  refine j_callS (As := [.int km, .int (nI 0), .int (nI 69)]) (rest := []) C vw12_in (c_in) rfl (Nat.le_of_ble_eq_true rfl) dX12_person_4 (by decide) ?_
  rintro _ _ ⟨rfl, rfl⟩
  refine j_if_eq C 18 dX12_person_7 (by decide) (fun c7 => ?_) (fun c7 => ?_)
  · replace c7 := bI_f c7
    refine j_aload_n C 0 dX12_person_18 rfl ?_
    refine j_ldc C (-1000000001) dX12_person_19 kc12_55 ?_
    refine j_callV (As := [.int (-1000000001)]) (rest := []) C vw12_errs (c_errs 1 (by decide) (by decide)) rRcv rfl (Nat.le_of_ble_eq_true rfl) dX12_person_21 (by decide) ?_
    rintro _ _ ⟨rfl, rfl⟩
    refine j_iret C dX12_person_24 ?_
    unfold sp_person
    rw [if_neg (fun h => c7 h.1)]
    exact ⟨rfl, EQ.rf⟩
  · replace c7 := bI_t c7
    refine j_aload_n C 0 dX12_person_10 rfl ?_
    refine j_iload_n C 2 dX12_person_11 rfl ?_
    refine j_callV (As := [.int c]) (rest := []) C vw12_isCell (c_isCell) rRcv rfl (Nat.le_of_ble_eq_true rfl) dX12_person_12 (by decide) ?_
    rintro _ _ ⟨rfl, rfl⟩
    refine j_if_ne C 25 dX12_person_15 (by decide) (fun c15 => ?_) (fun c15 => ?_)
    · replace c15 := bI_t c15
      refine j_aload_n C 0 dX12_person_25 rfl ?_
      refine rg C (v := .ref (q 0)) 0 (by decide) kf12_7 rfl dX12_person_26 ?_
      refine j_iconst C (v := (nI 3)) dX12_person_29 (by decide) ?_
      refine rl_row C 3 rfl (by omega) dX12_person_30 ?_
      refine j_bipush C (v := (nI 6)) dX12_person_31 (by decide) ?_
      refine j_icmp_ne C 43 dX12_person_33 (by decide) (fun c33 => ?_) (fun c33 => ?_)
      · skip
        refine j_aload_n C 0 dX12_person_43 rfl ?_
        refine rg C (v := .ref (q 0)) 0 (by decide) kf12_7 rfl dX12_person_44 ?_
        refine j_iconst C (v := (nI 3)) dX12_person_47 (by decide) ?_
        refine rl_row C 3 rfl (by omega) dX12_person_48 ?_
        refine j_v (nI np) e3 ?_
        refine j_istore_n C [(3, .int (nI np)), (0, .ref o), (1, .int km), (2, .int c)] dX12_person_49 (by decide) rfl ?_
        refine j_aload_n C 1 dX12_person_50 rfl ?_
        refine j_iload_n C 0 dX12_person_51 rfl ?_
        refine j_iconst C (v := (nI 0)) dX12_person_52 (by decide) ?_
        refine j_iload_n C 2 dX12_person_53 rfl ?_
        refine j_bipush C (v := (nI 10)) dX12_person_54 (by decide) ?_
        refine j_idiv C dX12_person_56 (by decide) ?_
        refine j_callVv (As := [.int (nI np), .int (nI 0), .int (km / (nI 10))]) (rest := []) C vw12_gets (c_gets np 0 (by omega)) rRcv rfl (Nat.le_of_ble_eq_true rfl) dX12_person_57 (by decide) ?_
        rintro _ rfl
        refine j_aload_n C 1 dX12_person_60 rfl ?_
        refine j_iload_n C 0 dX12_person_61 rfl ?_
        refine j_iconst C (v := (nI 1)) dX12_person_62 (by decide) ?_
        refine j_iload_n C 2 dX12_person_63 rfl ?_
        refine j_bipush C (v := (nI 10)) dX12_person_64 (by decide) ?_
        refine j_irem C dX12_person_66 (by decide) ?_
        refine j_callVv (As := [.int (nI np), .int (nI 1), .int (km - km / (nI 10) * (nI 10))]) (rest := []) C vw12_gets (c_gets np 1 (by omega)) rRcv rfl (Nat.le_of_ble_eq_true rfl) dX12_person_67 (by decide) ?_
        rintro _ rfl
        refine j_aload_n C 1 dX12_person_70 rfl ?_
        refine j_iload_n C 0 dX12_person_71 rfl ?_
        refine j_iconst C (v := (nI 2)) dX12_person_72 (by decide) ?_
        refine j_iload_n C 3 dX12_person_73 rfl ?_
        refine j_callVv (As := [.int (nI np), .int (nI 2), .int c]) (rest := []) C vw12_gets (c_gets np 2 (by omega)) rRcv rfl (Nat.le_of_ble_eq_true rfl) dX12_person_74 (by decide) ?_
        rintro _ rfl
        refine j_aload_n C 1 dX12_person_77 rfl ?_
        refine j_iload_n C 0 dX12_person_78 rfl ?_
        refine j_iconst C (v := (nI 3)) dX12_person_79 (by decide) ?_
        refine j_iconst C (v := (nI 0)) dX12_person_80 (by decide) ?_
        refine j_callVv (As := [.int (nI np), .int (nI 3), .int (nI 0)]) (rest := []) C vw12_gets (c_gets np 3 (by omega)) rRcv rfl (Nat.le_of_ble_eq_true rfl) dX12_person_81 (by decide) ?_
        rintro _ rfl
        refine j_aload_n C 1 dX12_person_84 rfl ?_
        refine j_iload_n C 0 dX12_person_85 rfl ?_
        refine j_iconst C (v := (nI 4)) dX12_person_86 (by decide) ?_
        refine j_iconst C (v := (nI 0)) dX12_person_87 (by decide) ?_
        refine j_callVv (As := [.int (nI np), .int (nI 4), .int (nI 0)]) (rest := []) C vw12_gets (c_gets np 4 (by omega)) rRcv rfl (Nat.le_of_ble_eq_true rfl) dX12_person_88 (by decide) ?_
        rintro _ rfl
        refine j_aload_n C 1 dX12_person_91 rfl ?_
        refine j_iload_n C 0 dX12_person_92 rfl ?_
        refine j_iconst C (v := (nI 5)) dX12_person_93 (by decide) ?_
        refine j_iconst C (v := (nI 0)) dX12_person_94 (by decide) ?_
        refine j_callVv (As := [.int (nI np), .int (nI 5), .int (nI 0)]) (rest := []) C vw12_gets (c_gets np 5 (by omega)) rRcv rfl (Nat.le_of_ble_eq_true rfl) dX12_person_95 (by decide) ?_
        rintro _ rfl
        refine j_aload_n C 1 dX12_person_98 rfl ?_
        refine rg C (v := .ref (q 0)) 0 (by decide) kf12_7 rfl dX12_person_99 ?_
        refine j_iconst C (v := (nI 3)) dX12_person_102 (by decide) ?_
        refine j_dup2 C dX12_person_103 rfl rfl ?_
        refine rl_row C 3 rfl (by omega) dX12_person_104 ?_
        refine j_v (nI np) (by rw [pk_un (by omega), pk_un (by omega), pk_un (by omega), pk_un (by omega), pk_un (by omega), pk_un (by omega)]; exact e3) ?_
        refine j_iconst C (v := (nI 1)) dX12_person_105 (by decide) ?_
        refine j_iaddN C dX12_person_106 ?_
        refine rs_row C 3 rfl (by omega) dX12_person_107 ?_
        refine j_iload_n C 0 dX12_person_108 rfl ?_
        refine j_iret C dX12_person_109 ?_
        unfold sp_person
        rw [if_pos ⟨c7, c15⟩]
        rw [if_neg c33]
        unfold persF
        rw [e3, tN_nI (by omega), nI_add]
        exact ⟨rfl, EQ.rf⟩
      · skip
        refine j_aload_n C 0 dX12_person_36 rfl ?_
        refine j_ldc C (-1000000004) dX12_person_37 kc12_75 ?_
        refine j_callV (As := [.int (-1000000004)]) (rest := []) C vw12_errs (c_errs 4 (by decide) (by decide)) rRcv rfl (Nat.le_of_ble_eq_true rfl) dX12_person_39 (by decide) ?_
        rintro _ _ ⟨rfl, rfl⟩
        refine j_iret C dX12_person_42 ?_
        unfold sp_person
        rw [if_pos ⟨c7, c15⟩]
        rw [if_pos c33]
        exact ⟨rfl, EQ.rf⟩
    · replace c15 := bI_f c15
      refine j_aload_n C 0 dX12_person_18 rfl ?_
      refine j_ldc C (-1000000001) dX12_person_19 kc12_55 ?_
      refine j_callV (As := [.int (-1000000001)]) (rest := []) C vw12_errs (c_errs 1 (by decide) (by decide)) rRcv rfl (Nat.le_of_ble_eq_true rfl) dX12_person_21 (by decide) ?_
      rintro _ _ ⟨rfl, rfl⟩
      refine j_iret C dX12_person_24 ?_
      unfold sp_person
      rw [if_neg (fun h => c15 h.2)]
      exact ⟨rfl, EQ.rf⟩
theorem dX12_ofPerson_0 : decode cX12_ofPerson 0 = .ok (.aload_n 0, 1) := by decide +kernel
theorem dX12_ofPerson_1 : decode cX12_ofPerson 1 = .ok (.iload_n 1, 1) := by decide +kernel
theorem dX12_ofPerson_2 : decode cX12_ofPerson 2 = .ok (.invokevirtual 80, 3) := by decide +kernel
theorem dX12_ofPerson_5 : decode cX12_ofPerson 5 = .ok (.ifCond .eq 13, 3) := by decide +kernel
theorem dX12_ofPerson_8 : decode cX12_ofPerson 8 = .ok (.iload_n 2, 1) := by decide +kernel
theorem dX12_ofPerson_9 : decode cX12_ofPerson 9 = .ok (.iconst 0, 1) := by decide +kernel
theorem dX12_ofPerson_10 : decode cX12_ofPerson 10 = .ok (.bipush 8, 2) := by decide +kernel
theorem dX12_ofPerson_12 : decode cX12_ofPerson 12 = .ok (.invokestatic 51, 3) := by decide +kernel
theorem dX12_ofPerson_15 : decode cX12_ofPerson 15 = .ok (.ifCond .ne 10, 3) := by decide +kernel
theorem dX12_ofPerson_18 : decode cX12_ofPerson 18 = .ok (.aload_n 0, 1) := by decide +kernel
theorem dX12_ofPerson_19 : decode cX12_ofPerson 19 = .ok (.ldc 55, 2) := by decide +kernel
theorem dX12_ofPerson_21 : decode cX12_ofPerson 21 = .ok (.invokevirtual 56, 3) := by decide +kernel
theorem dX12_ofPerson_24 : decode cX12_ofPerson 24 = .ok (.ireturn, 1) := by decide +kernel
theorem dX12_ofPerson_25 : decode cX12_ofPerson 25 = .ok (.iload_n 2, 1) := by decide +kernel
theorem dX12_ofPerson_26 : decode cX12_ofPerson 26 = .ok (.tableswitch 44 6 8 #[26, 32, 38], 26) := by decide +kernel
theorem dX12_ofPerson_52 : decode cX12_ofPerson 52 = .ok (.aload_n 0, 1) := by decide +kernel
theorem dX12_ofPerson_53 : decode cX12_ofPerson 53 = .ok (.iload_n 1, 1) := by decide +kernel
theorem dX12_ofPerson_54 : decode cX12_ofPerson 54 = .ok (.invokevirtual 83, 3) := by decide +kernel
theorem dX12_ofPerson_57 : decode cX12_ofPerson 57 = .ok (.ireturn, 1) := by decide +kernel
theorem dX12_ofPerson_58 : decode cX12_ofPerson 58 = .ok (.aload_n 0, 1) := by decide +kernel
theorem dX12_ofPerson_59 : decode cX12_ofPerson 59 = .ok (.iload_n 1, 1) := by decide +kernel
theorem dX12_ofPerson_60 : decode cX12_ofPerson 60 = .ok (.invokevirtual 86, 3) := by decide +kernel
theorem dX12_ofPerson_63 : decode cX12_ofPerson 63 = .ok (.ireturn, 1) := by decide +kernel
theorem dX12_ofPerson_64 : decode cX12_ofPerson 64 = .ok (.aload_n 0, 1) := by decide +kernel
theorem dX12_ofPerson_65 : decode cX12_ofPerson 65 = .ok (.iload_n 1, 1) := by decide +kernel
theorem dX12_ofPerson_66 : decode cX12_ofPerson 66 = .ok (.invokevirtual 89, 3) := by decide +kernel
theorem dX12_ofPerson_69 : decode cX12_ofPerson 69 = .ok (.ireturn, 1) := by decide +kernel
theorem dX12_ofPerson_70 : decode cX12_ofPerson 70 = .ok (.aload_n 0, 1) := by decide +kernel
theorem dX12_ofPerson_71 : decode cX12_ofPerson 71 = .ok (.iload_n 1, 1) := by decide +kernel
theorem dX12_ofPerson_72 : decode cX12_ofPerson 72 = .ok (.iload_n 2, 1) := by decide +kernel
theorem dX12_ofPerson_73 : decode cX12_ofPerson 73 = .ok (.invokevirtual 69, 3) := by decide +kernel
theorem dX12_ofPerson_76 : decode cX12_ofPerson 76 = .ok (.ireturn, 1) := by decide +kernel
set_option maxHeartbeats 2000000 in
set_option maxRecDepth 20000 in
theorem c_ofPerson {l : Launch} {D : va_G} {cI cG cW : ClassId} {o : Nat} {q : Nat → Nat} {V row kept tried bf fd pk bo so sh mv tr : Nat → Int32} {p what : Int32} {nc np nw d nt nq : Nat} (hR : RKx row nc np nw d nt nq) : Ci l yX12_ofPerson cX12_ofPerson 3 (some .int) 82 D (tyL cI cG cW) (wR cI o q) [.ref o, .int p, .int what] (sR V row kept tried bf fd pk bo so sh mv tr) (fun r τ => r = (sp_ofPerson V row kept tried bf fd pk bo so sh mv tr p what).1 ∧ EQ τ (sp_ofPerson V row kept tried bf fd pk bo so sh mv tr p what).2) := by
  refine Ci.of (by decide) (Nat.le_of_ble_eq_true rfl) ?_
  intro p_ e_ s_ m_ b_ M_ c_ A_ C
  replace C : Cx _ _ _ _ _ _ _ _ RX12 _ _ _ _ := C
  refine j_L [0, 1, 2] [(0, .ref o), (1, .int p), (2, .int what)] rfl ?_
  obtain ⟨hI, hW, ⟨e0, hd⟩, ⟨e4, ht⟩, ⟨e5, hq⟩, hB⟩ := id hR
  obtain ⟨⟨e2, hc2, hc10⟩, ⟨e3, hn6⟩, ⟨e8, hw8⟩, hP, hE, hLo, hT0, hT1⟩ := id hI
  have hIc := hI
  refine j_aload_n C 0 dX12_ofPerson_0 rfl ?_
  refine j_iload_n C 1 dX12_ofPerson_1 rfl ?_
  refine j_callV (As := [.int p]) (rest := []) C vw12_isPerson (c_isPerson) rRcv rfl (Nat.le_of_ble_eq_true rfl) dX12_ofPerson_2 (by decide) ?_
  rintro _ _ ⟨rfl, rfl⟩
  refine j_if_eq C 18 dX12_ofPerson_5 (by decide) (fun c5 => ?_) (fun c5 => ?_)
  · replace c5 := bI_f c5
    refine j_aload_n C 0 dX12_ofPerson_18 rfl ?_
    refine j_ldc C (-1000000001) dX12_ofPerson_19 kc12_55 ?_
    refine j_callV (As := [.int (-1000000001)]) (rest := []) C vw12_errs (c_errs 1 (by decide) (by decide)) rRcv rfl (Nat.le_of_ble_eq_true rfl) dX12_ofPerson_21 (by decide) ?_
    rintro _ _ ⟨rfl, rfl⟩
    refine j_iret C dX12_ofPerson_24 ?_
    unfold sp_ofPerson
    rw [if_neg (fun h => c5 h.1)]
    exact ⟨rfl, EQ.rf⟩
  · replace c5 := bI_t c5
    obtain ⟨pn, hpn, rfl⟩ := inn_row c5 e3 (by omega)
    refine j_iload_n C 2 dX12_ofPerson_8 rfl ?_
    refine j_iconst C (v := (nI 0)) dX12_ofPerson_9 (by decide) ?_
    refine j_bipush C (v := (nI 8)) dX12_ofPerson_10 (by decide) ?_
    refine j_callS (As := [.int what, .int (nI 0), .int (nI 8)]) (rest := []) C vw12_in (c_in) rfl (Nat.le_of_ble_eq_true rfl) dX12_ofPerson_12 (by decide) ?_
    rintro _ _ ⟨rfl, rfl⟩
    refine j_if_ne C 25 dX12_ofPerson_15 (by decide) (fun c15 => ?_) (fun c15 => ?_)
    · replace c15 := bI_t c15
      obtain ⟨wn, gwn, hwn, rfl⟩ := inn_lit c15 (by omega)
      refine j_iload_n C 2 dX12_ofPerson_25 rfl ?_
      rcases (show wn = 0 ∨ wn = 1 ∨ wn = 2 ∨ wn = 3 ∨ wn = 4 ∨ wn = 5 ∨ wn = 6 ∨ wn = 7 ∨ wn = 8 by omega) with rfl | rfl | rfl | rfl | rfl | rfl | rfl | rfl | rfl
      · refine j_tblOut C 70 dX12_ofPerson_26 (by decide) (by decide) ?_
        refine j_aload_n C 0 dX12_ofPerson_70 rfl ?_
        refine j_iload_n C 1 dX12_ofPerson_71 rfl ?_
        refine j_iload_n C 2 dX12_ofPerson_72 rfl ?_
        refine j_callV (As := [.int (nI pn), .int (nI 0)]) (rest := []) C vw12_its (c_its pn 0 (by omega)) rRcv rfl (Nat.le_of_ble_eq_true rfl) dX12_ofPerson_73 (by decide) ?_
        rintro _ _ ⟨rfl, rfl⟩
        refine j_iret C dX12_ofPerson_76 ?_
        unfold sp_ofPerson
        rw [if_pos ⟨c5, c15⟩, tN_nI (n := pn) (by omega), tN_nI (n := 0) (by decide)]
        exact ⟨(ofPF_lt (V := V) (by decide)).symm, EQ.rf⟩
      · refine j_tblOut C 70 dX12_ofPerson_26 (by decide) (by decide) ?_
        refine j_aload_n C 0 dX12_ofPerson_70 rfl ?_
        refine j_iload_n C 1 dX12_ofPerson_71 rfl ?_
        refine j_iload_n C 2 dX12_ofPerson_72 rfl ?_
        refine j_callV (As := [.int (nI pn), .int (nI 1)]) (rest := []) C vw12_its (c_its pn 1 (by omega)) rRcv rfl (Nat.le_of_ble_eq_true rfl) dX12_ofPerson_73 (by decide) ?_
        rintro _ _ ⟨rfl, rfl⟩
        refine j_iret C dX12_ofPerson_76 ?_
        unfold sp_ofPerson
        rw [if_pos ⟨c5, c15⟩, tN_nI (n := pn) (by omega), tN_nI (n := 1) (by decide)]
        exact ⟨(ofPF_lt (V := V) (by decide)).symm, EQ.rf⟩
      · refine j_tblOut C 70 dX12_ofPerson_26 (by decide) (by decide) ?_
        refine j_aload_n C 0 dX12_ofPerson_70 rfl ?_
        refine j_iload_n C 1 dX12_ofPerson_71 rfl ?_
        refine j_iload_n C 2 dX12_ofPerson_72 rfl ?_
        refine j_callV (As := [.int (nI pn), .int (nI 2)]) (rest := []) C vw12_its (c_its pn 2 (by omega)) rRcv rfl (Nat.le_of_ble_eq_true rfl) dX12_ofPerson_73 (by decide) ?_
        rintro _ _ ⟨rfl, rfl⟩
        refine j_iret C dX12_ofPerson_76 ?_
        unfold sp_ofPerson
        rw [if_pos ⟨c5, c15⟩, tN_nI (n := pn) (by omega), tN_nI (n := 2) (by decide)]
        exact ⟨(ofPF_lt (V := V) (by decide)).symm, EQ.rf⟩
      · refine j_tblOut C 70 dX12_ofPerson_26 (by decide) (by decide) ?_
        refine j_aload_n C 0 dX12_ofPerson_70 rfl ?_
        refine j_iload_n C 1 dX12_ofPerson_71 rfl ?_
        refine j_iload_n C 2 dX12_ofPerson_72 rfl ?_
        refine j_callV (As := [.int (nI pn), .int (nI 3)]) (rest := []) C vw12_its (c_its pn 3 (by omega)) rRcv rfl (Nat.le_of_ble_eq_true rfl) dX12_ofPerson_73 (by decide) ?_
        rintro _ _ ⟨rfl, rfl⟩
        refine j_iret C dX12_ofPerson_76 ?_
        unfold sp_ofPerson
        rw [if_pos ⟨c5, c15⟩, tN_nI (n := pn) (by omega), tN_nI (n := 3) (by decide)]
        exact ⟨(ofPF_lt (V := V) (by decide)).symm, EQ.rf⟩
      · refine j_tblOut C 70 dX12_ofPerson_26 (by decide) (by decide) ?_
        refine j_aload_n C 0 dX12_ofPerson_70 rfl ?_
        refine j_iload_n C 1 dX12_ofPerson_71 rfl ?_
        refine j_iload_n C 2 dX12_ofPerson_72 rfl ?_
        refine j_callV (As := [.int (nI pn), .int (nI 4)]) (rest := []) C vw12_its (c_its pn 4 (by omega)) rRcv rfl (Nat.le_of_ble_eq_true rfl) dX12_ofPerson_73 (by decide) ?_
        rintro _ _ ⟨rfl, rfl⟩
        refine j_iret C dX12_ofPerson_76 ?_
        unfold sp_ofPerson
        rw [if_pos ⟨c5, c15⟩, tN_nI (n := pn) (by omega), tN_nI (n := 4) (by decide)]
        exact ⟨(ofPF_lt (V := V) (by decide)).symm, EQ.rf⟩
      · refine j_tblOut C 70 dX12_ofPerson_26 (by decide) (by decide) ?_
        refine j_aload_n C 0 dX12_ofPerson_70 rfl ?_
        refine j_iload_n C 1 dX12_ofPerson_71 rfl ?_
        refine j_iload_n C 2 dX12_ofPerson_72 rfl ?_
        refine j_callV (As := [.int (nI pn), .int (nI 5)]) (rest := []) C vw12_its (c_its pn 5 (by omega)) rRcv rfl (Nat.le_of_ble_eq_true rfl) dX12_ofPerson_73 (by decide) ?_
        rintro _ _ ⟨rfl, rfl⟩
        refine j_iret C dX12_ofPerson_76 ?_
        unfold sp_ofPerson
        rw [if_pos ⟨c5, c15⟩, tN_nI (n := pn) (by omega), tN_nI (n := 5) (by decide)]
        exact ⟨(ofPF_lt (V := V) (by decide)).symm, EQ.rf⟩
      · refine j_tblIn C (off := 26) 52 dX12_ofPerson_26 (by decide) (by decide) (by decide) (by decide) ?_
        refine j_aload_n C 0 dX12_ofPerson_52 rfl ?_
        refine j_iload_n C 1 dX12_ofPerson_53 rfl ?_
        refine j_callV (As := [.int (nI pn)]) (rest := []) C vw12_weighs (c_weighs (np := np) pn e8 hw8 (by omega)) rRcv rfl (Nat.le_of_ble_eq_true rfl) dX12_ofPerson_54 (by decide) ?_
        rintro _ _ ⟨rfl, rfl⟩
        refine j_iret C dX12_ofPerson_57 ?_
        unfold sp_ofPerson
        rw [if_pos ⟨c5, c15⟩, tN_nI (n := pn) (by omega), tN_nI (n := 6) (by decide)]
        exact ⟨(ofPF_6 e8 hw8).symm, EQ.rf⟩
      · refine j_tblIn C (off := 32) 58 dX12_ofPerson_26 (by decide) (by decide) (by decide) (by decide) ?_
        refine j_aload_n C 0 dX12_ofPerson_58 rfl ?_
        refine j_iload_n C 1 dX12_ofPerson_59 rfl ?_
        refine j_callV (As := [.int (nI pn)]) (rest := []) C vw12_bends (c_bends pn hI (by omega)) rRcv rfl (Nat.le_of_ble_eq_true rfl) dX12_ofPerson_60 (by decide) ?_
        rintro _ _ ⟨Vx1, hVx1, rfl, rfl⟩
        refine j_iret C dX12_ofPerson_63 ?_
        unfold sp_ofPerson
        rw [if_pos ⟨c5, c15⟩, tN_nI (n := pn) (by omega), tN_nI (n := 7) (by decide)]
        exact ⟨(ofPF_7 e8 hw8 e3 hn6).symm, EQ.ve hVx1⟩
      · refine j_tblIn C (off := 38) 64 dX12_ofPerson_26 (by decide) (by decide) (by decide) (by decide) ?_
        obtain ⟨⟨k, hk, ek⟩, -⟩ := hP pn hpn
        refine j_aload_n C 0 dX12_ofPerson_64 rfl ?_
        refine j_iload_n C 1 dX12_ofPerson_65 rfl ?_
        refine j_callV (As := [.int (nI pn)]) (rest := []) C vw12_eats (c_eats pn ek hk (by omega)) rRcv rfl (Nat.le_of_ble_eq_true rfl) dX12_ofPerson_66 (by decide) ?_
        rintro _ _ ⟨rfl, rfl⟩
        refine j_iret C dX12_ofPerson_69 ?_
        unfold sp_ofPerson
        rw [if_pos ⟨c5, c15⟩, tN_nI (n := pn) (by omega), tN_nI (n := 8) (by decide)]
        exact ⟨rfl, EQ.rf⟩
    · replace c15 := bI_f c15
      refine j_aload_n C 0 dX12_ofPerson_18 rfl ?_
      refine j_ldc C (-1000000001) dX12_ofPerson_19 kc12_55 ?_
      refine j_callV (As := [.int (-1000000001)]) (rest := []) C vw12_errs (c_errs 1 (by decide) (by decide)) rRcv rfl (Nat.le_of_ble_eq_true rfl) dX12_ofPerson_21 (by decide) ?_
      rintro _ _ ⟨rfl, rfl⟩
      refine j_iret C dX12_ofPerson_24 ?_
      unfold sp_ofPerson
      rw [if_neg (fun h => c15 h.2)]
      exact ⟨rfl, EQ.rf⟩
theorem dX12_change_0 : decode cX12_change 0 = .ok (.iload_n 2, 1) := by decide +kernel
theorem dX12_change_1 : decode cX12_change 1 = .ok (.ifCond .ne 11, 3) := by decide +kernel
theorem dX12_change_4 : decode cX12_change 4 = .ok (.aload_n 0, 1) := by decide +kernel
theorem dX12_change_5 : decode cX12_change 5 = .ok (.iload_n 3, 1) := by decide +kernel
theorem dX12_change_6 : decode cX12_change 6 = .ok (.invokevirtual 65, 3) := by decide +kernel
theorem dX12_change_9 : decode cX12_change 9 = .ok (.goto 38, 3) := by decide +kernel
theorem dX12_change_12 : decode cX12_change 12 = .ok (.iload_n 2, 1) := by decide +kernel
theorem dX12_change_13 : decode cX12_change 13 = .ok (.iconst 1, 1) := by decide +kernel
theorem dX12_change_14 : decode cX12_change 14 = .ok (.if_icmp .ne 12, 3) := by decide +kernel
theorem dX12_change_17 : decode cX12_change 17 = .ok (.iload_n 3, 1) := by decide +kernel
theorem dX12_change_18 : decode cX12_change 18 = .ok (.iconst (-1), 1) := by decide +kernel
theorem dX12_change_19 : decode cX12_change 19 = .ok (.iconst 1, 1) := by decide +kernel
theorem dX12_change_20 : decode cX12_change 20 = .ok (.invokestatic 51, 3) := by decide +kernel
theorem dX12_change_23 : decode cX12_change 23 = .ok (.goto 24, 3) := by decide +kernel
theorem dX12_change_26 : decode cX12_change 26 = .ok (.iload_n 2, 1) := by decide +kernel
theorem dX12_change_27 : decode cX12_change 27 = .ok (.iconst 2, 1) := by decide +kernel
theorem dX12_change_28 : decode cX12_change 28 = .ok (.if_icmp .ne 18, 3) := by decide +kernel
theorem dX12_change_31 : decode cX12_change 31 = .ok (.iload_n 3, 1) := by decide +kernel
theorem dX12_change_32 : decode cX12_change 32 = .ok (.iconst 0, 1) := by decide +kernel
theorem dX12_change_33 : decode cX12_change 33 = .ok (.sipush 9999, 3) := by decide +kernel
theorem dX12_change_36 : decode cX12_change 36 = .ok (.invokestatic 51, 3) := by decide +kernel
theorem dX12_change_39 : decode cX12_change 39 = .ok (.ifCond .eq 7, 3) := by decide +kernel
theorem dX12_change_42 : decode cX12_change 42 = .ok (.iconst 1, 1) := by decide +kernel
theorem dX12_change_43 : decode cX12_change 43 = .ok (.goto 4, 3) := by decide +kernel
theorem dX12_change_46 : decode cX12_change 46 = .ok (.iconst 0, 1) := by decide +kernel
theorem dX12_change_47 : decode cX12_change 47 = .ok (.istore 4, 2) := by decide +kernel
theorem dX12_change_49 : decode cX12_change 49 = .ok (.aload_n 0, 1) := by decide +kernel
theorem dX12_change_50 : decode cX12_change 50 = .ok (.iload_n 1, 1) := by decide +kernel
theorem dX12_change_51 : decode cX12_change 51 = .ok (.invokevirtual 80, 3) := by decide +kernel
theorem dX12_change_54 : decode cX12_change 54 = .ok (.ifCond .eq 27, 3) := by decide +kernel
theorem dX12_change_57 : decode cX12_change 57 = .ok (.iload 4, 2) := by decide +kernel
theorem dX12_change_59 : decode cX12_change 59 = .ok (.ifCond .eq 22, 3) := by decide +kernel
theorem dX12_change_62 : decode cX12_change 62 = .ok (.aload_n 0, 1) := by decide +kernel
theorem dX12_change_63 : decode cX12_change 63 = .ok (.bipush 30, 2) := by decide +kernel
theorem dX12_change_65 : decode cX12_change 65 = .ok (.bipush 6, 2) := by decide +kernel
theorem dX12_change_67 : decode cX12_change 67 = .ok (.iload_n 1, 1) := by decide +kernel
theorem dX12_change_68 : decode cX12_change 68 = .ok (.imul, 1) := by decide +kernel
theorem dX12_change_69 : decode cX12_change 69 = .ok (.iadd, 1) := by decide +kernel
theorem dX12_change_70 : decode cX12_change 70 = .ok (.iconst 2, 1) := by decide +kernel
theorem dX12_change_71 : decode cX12_change 71 = .ok (.iadd, 1) := by decide +kernel
theorem dX12_change_72 : decode cX12_change 72 = .ok (.iload_n 2, 1) := by decide +kernel
theorem dX12_change_73 : decode cX12_change 73 = .ok (.iadd, 1) := by decide +kernel
theorem dX12_change_74 : decode cX12_change 74 = .ok (.iload_n 3, 1) := by decide +kernel
theorem dX12_change_75 : decode cX12_change 75 = .ok (.invokevirtual 61, 3) := by decide +kernel
theorem dX12_change_78 : decode cX12_change 78 = .ok (.goto 9, 3) := by decide +kernel
theorem dX12_change_81 : decode cX12_change 81 = .ok (.aload_n 0, 1) := by decide +kernel
theorem dX12_change_82 : decode cX12_change 82 = .ok (.ldc 55, 2) := by decide +kernel
theorem dX12_change_84 : decode cX12_change 84 = .ok (.invokevirtual 56, 3) := by decide +kernel
theorem dX12_change_87 : decode cX12_change 87 = .ok (.ireturn, 1) := by decide +kernel
set_option maxHeartbeats 2000000 in
set_option maxRecDepth 20000 in
theorem c_change {l : Launch} {D : va_G} {cI cG cW : ClassId} {o : Nat} {q : Nat → Nat} {V row kept tried bf fd pk bo so sh mv tr : Nat → Int32} {p what v : Int32} {nc np nw d nt nq : Nat} (hR : RKx row nc np nw d nt nq) : Ci l yX12_change cX12_change 5 (some .int) 3 D (tyL cI cG cW) (wR cI o q) [.ref o, .int p, .int what, .int v] (sR V row kept tried bf fd pk bo so sh mv tr) (fun r τ => r = (sp_change V row kept tried bf fd pk bo so sh mv tr p what v).1 ∧ EQ τ (sp_change V row kept tried bf fd pk bo so sh mv tr p what v).2) := by
  refine Ci.of (by decide) (Nat.le_of_ble_eq_true rfl) ?_
  intro p_ e_ s_ m_ b_ M_ c_ A_ C
  replace C : Cx _ _ _ _ _ _ _ _ RX12 _ _ _ _ := C
  refine j_L [0, 1, 2, 3] [(0, .ref o), (1, .int p), (2, .int what), (3, .int v)] rfl ?_
  obtain ⟨hI, hW, ⟨e0, hd⟩, ⟨e4, ht⟩, ⟨e5, hq⟩, hB⟩ := id hR
  obtain ⟨⟨e2, hc2, hc10⟩, ⟨e3, hn6⟩, ⟨e8, hw8⟩, hP, hE, hLo, hT0, hT1⟩ := id hI
  have hIc := hI
  refine j_iload_n C 2 dX12_change_0 rfl ?_
  refine j_if_ne C 12 dX12_change_1 (by decide) (fun c1 => ?_) (fun c1 => ?_)
  · skip
    refine j_iload_n C 2 dX12_change_12 rfl ?_
    refine j_iconst C (v := (nI 1)) dX12_change_13 (by decide) ?_
    refine j_icmp_ne C 26 dX12_change_14 (by decide) (fun c14 => ?_) (fun c14 => ?_)
    · skip
      refine j_iload_n C 2 dX12_change_26 rfl ?_
      refine j_iconst C (v := (nI 2)) dX12_change_27 (by decide) ?_
      refine j_icmp_ne C 46 dX12_change_28 (by decide) (fun c28 => ?_) (fun c28 => ?_)
      · skip
        refine j_iconst C (v := (nI 0)) dX12_change_46 (by decide) ?_
        refine j_istore C [(4, .int (nI 0)), (0, .ref o), (1, .int p), (2, .int what), (3, .int v)] dX12_change_47 (by decide) rfl ?_
        refine j_aload_n C 1 dX12_change_49 rfl ?_
        refine j_iload_n C 2 dX12_change_50 rfl ?_
        refine j_callV (As := [.int p]) (rest := []) C vw12_isPerson (c_isPerson) rRcv rfl (Nat.le_of_ble_eq_true rfl) dX12_change_51 (by decide) ?_
        rintro _ _ ⟨rfl, rfl⟩
        refine j_if_eq C 81 dX12_change_54 (by decide) (fun c54 => ?_) (fun c54 => ?_)
        · replace c54 := bI_f c54
          refine j_aload_n C 1 dX12_change_81 rfl ?_
          refine j_ldc C (-1000000001) dX12_change_82 kc12_55 ?_
          refine j_callV (As := [.int (-1000000001)]) (rest := []) C vw12_errs (c_errs 1 (by decide) (by decide)) rRcv rfl (Nat.le_of_ble_eq_true rfl) dX12_change_84 (by decide) ?_
          rintro _ _ ⟨rfl, rfl⟩
          refine j_iret C dX12_change_87 ?_
          unfold sp_change
          rw [if_neg (fun h => c54 h.1)]
          exact ⟨rfl, EQ.rf⟩
        · replace c54 := bI_t c54
          obtain ⟨pn, hpn, rfl⟩ := inn_row c54 e3 (by omega)
          refine j_iload C 0 dX12_change_57 rfl ?_
          refine j_if_eq C 81 dX12_change_59 (by decide) (fun c59 => ?_) (fun c59 => ?_)
          · rw [show (0 : Int32) = nI 0 from rfl, nI_eq (by omega) (by omega)] at c59
            refine j_aload_n C 1 dX12_change_81 rfl ?_
            refine j_ldc C (-1000000001) dX12_change_82 kc12_55 ?_
            refine j_callV (As := [.int (-1000000001)]) (rest := []) C vw12_errs (c_errs 1 (by decide) (by decide)) rRcv rfl (Nat.le_of_ble_eq_true rfl) dX12_change_84 (by decide) ?_
            rintro _ _ ⟨rfl, rfl⟩
            refine j_iret C dX12_change_87 ?_
            unfold sp_change
            rw [if_neg (fun h => h.2.elim (fun g => c1 g.1) (fun g => g.elim (fun g => c14 g.1) (fun g => c28 g.1)))]
            exact ⟨rfl, EQ.rf⟩
          · rw [show (0 : Int32) = nI 0 from rfl, nI_eq (by omega) (by omega)] at c59
            exfalso; omega
      · skip
        refine j_iload_n C 3 dX12_change_31 rfl ?_
        refine j_iconst C (v := (nI 0)) dX12_change_32 (by decide) ?_
        refine j_sipush C (v := (nI 9999)) dX12_change_33 (by decide) ?_
        refine j_callS (As := [.int v, .int (nI 0), .int (nI 9999)]) (rest := []) C vw12_in (c_in) rfl (Nat.le_of_ble_eq_true rfl) dX12_change_36 (by decide) ?_
        rintro _ _ ⟨rfl, rfl⟩
        refine j_if_eq C 46 dX12_change_39 (by decide) (fun c39 => ?_) (fun c39 => ?_)
        · replace c39 := bI_f c39
          refine j_iconst C (v := (nI 0)) dX12_change_46 (by decide) ?_
          refine j_istore C [(4, .int (nI 0)), (0, .ref o), (1, .int p), (2, .int what), (3, .int v)] dX12_change_47 (by decide) rfl ?_
          refine j_aload_n C 1 dX12_change_49 rfl ?_
          refine j_iload_n C 2 dX12_change_50 rfl ?_
          refine j_callV (As := [.int p]) (rest := []) C vw12_isPerson (c_isPerson) rRcv rfl (Nat.le_of_ble_eq_true rfl) dX12_change_51 (by decide) ?_
          rintro _ _ ⟨rfl, rfl⟩
          refine j_if_eq C 81 dX12_change_54 (by decide) (fun c54 => ?_) (fun c54 => ?_)
          · replace c54 := bI_f c54
            refine j_aload_n C 1 dX12_change_81 rfl ?_
            refine j_ldc C (-1000000001) dX12_change_82 kc12_55 ?_
            refine j_callV (As := [.int (-1000000001)]) (rest := []) C vw12_errs (c_errs 1 (by decide) (by decide)) rRcv rfl (Nat.le_of_ble_eq_true rfl) dX12_change_84 (by decide) ?_
            rintro _ _ ⟨rfl, rfl⟩
            refine j_iret C dX12_change_87 ?_
            unfold sp_change
            rw [if_neg (fun h => c54 h.1)]
            exact ⟨rfl, EQ.rf⟩
          · replace c54 := bI_t c54
            obtain ⟨pn, hpn, rfl⟩ := inn_row c54 e3 (by omega)
            refine j_iload C 0 dX12_change_57 rfl ?_
            refine j_if_eq C 81 dX12_change_59 (by decide) (fun c59 => ?_) (fun c59 => ?_)
            · rw [show (0 : Int32) = nI 0 from rfl, nI_eq (by omega) (by omega)] at c59
              refine j_aload_n C 1 dX12_change_81 rfl ?_
              refine j_ldc C (-1000000001) dX12_change_82 kc12_55 ?_
              refine j_callV (As := [.int (-1000000001)]) (rest := []) C vw12_errs (c_errs 1 (by decide) (by decide)) rRcv rfl (Nat.le_of_ble_eq_true rfl) dX12_change_84 (by decide) ?_
              rintro _ _ ⟨rfl, rfl⟩
              refine j_iret C dX12_change_87 ?_
              unfold sp_change
              rw [if_neg (fun h => h.2.elim (fun g => c1 g.1) (fun g => g.elim (fun g => c14 g.1) (fun g => c39 g.2)))]
              exact ⟨rfl, EQ.rf⟩
            · rw [show (0 : Int32) = nI 0 from rfl, nI_eq (by omega) (by omega)] at c59
              exfalso; omega
        · replace c39 := bI_t c39
          refine j_iconst C (v := (nI 1)) dX12_change_42 (by decide) ?_
          refine j_goto C 47 dX12_change_43 (by decide) ?_
          refine j_istore C [(4, .int (nI 1)), (0, .ref o), (1, .int p), (2, .int what), (3, .int v)] dX12_change_47 (by decide) rfl ?_
          refine j_aload_n C 1 dX12_change_49 rfl ?_
          refine j_iload_n C 2 dX12_change_50 rfl ?_
          refine j_callV (As := [.int p]) (rest := []) C vw12_isPerson (c_isPerson) rRcv rfl (Nat.le_of_ble_eq_true rfl) dX12_change_51 (by decide) ?_
          rintro _ _ ⟨rfl, rfl⟩
          refine j_if_eq C 81 dX12_change_54 (by decide) (fun c54 => ?_) (fun c54 => ?_)
          · replace c54 := bI_f c54
            refine j_aload_n C 1 dX12_change_81 rfl ?_
            refine j_ldc C (-1000000001) dX12_change_82 kc12_55 ?_
            refine j_callV (As := [.int (-1000000001)]) (rest := []) C vw12_errs (c_errs 1 (by decide) (by decide)) rRcv rfl (Nat.le_of_ble_eq_true rfl) dX12_change_84 (by decide) ?_
            rintro _ _ ⟨rfl, rfl⟩
            refine j_iret C dX12_change_87 ?_
            unfold sp_change
            rw [if_neg (fun h => c54 h.1)]
            exact ⟨rfl, EQ.rf⟩
          · replace c54 := bI_t c54
            obtain ⟨pn, hpn, rfl⟩ := inn_row c54 e3 (by omega)
            refine j_iload C 0 dX12_change_57 rfl ?_
            refine j_if_eq C 81 dX12_change_59 (by decide) (fun c59 => ?_) (fun c59 => ?_)
            · rw [show (0 : Int32) = nI 0 from rfl, nI_eq (by omega) (by omega)] at c59
              exfalso; omega
            · rw [show (0 : Int32) = nI 0 from rfl, nI_eq (by omega) (by omega)] at c59
              obtain rfl : what = nI 2 := c28
              refine j_aload_n C 1 dX12_change_62 rfl ?_
              refine j_bipush C (v := (nI 30)) dX12_change_63 (by decide) ?_
              refine j_bipush C (v := (nI 6)) dX12_change_65 (by decide) ?_
              refine j_iload_n C 2 dX12_change_67 rfl ?_
              refine j_imulN C dX12_change_68 ?_
              refine j_iaddN C dX12_change_69 ?_
              refine j_iconst C (v := (nI 2)) dX12_change_70 (by decide) ?_
              refine j_iaddN C dX12_change_71 ?_
              refine j_iload_n C 3 dX12_change_72 rfl ?_
              refine j_iaddN C dX12_change_73 ?_
              refine j_iload_n C 4 dX12_change_74 rfl ?_
              refine j_callV (As := [.int (nI (30 + 6 * pn + 2 + 2)), .int v]) (rest := []) C vw12_becomes (c_becomes (30 + 6 * pn + 2 + 2) (by omega)) rRcv rfl (Nat.le_of_ble_eq_true rfl) dX12_change_75 (by decide) ?_
              rintro _ _ ⟨rfl, rfl⟩
              refine j_goto C 87 dX12_change_78 (by decide) ?_
              refine j_iret C dX12_change_87 ?_
              unfold sp_change
              rw [if_pos ⟨c54, Or.inr (Or.inr ⟨rfl, c39⟩)⟩, tN_nI (n := pn) (by omega), tN_nI (n := 2) (by decide)]
              exact ⟨rfl, EQ.rf⟩
    · skip
      refine j_iload_n C 3 dX12_change_17 rfl ?_
      refine j_iconst C (v := (-1)) dX12_change_18 (by decide) ?_
      refine j_iconst C (v := (nI 1)) dX12_change_19 (by decide) ?_
      refine j_callS (As := [.int v, .int (-1), .int (nI 1)]) (rest := []) C vw12_in (c_in) rfl (Nat.le_of_ble_eq_true rfl) dX12_change_20 (by decide) ?_
      rintro _ _ ⟨rfl, rfl⟩
      refine j_goto C 47 dX12_change_23 (by decide) ?_
      refine j_istore C [(4, .int (bI (inn v (-1) (nI 1)))), (0, .ref o), (1, .int p), (2, .int what), (3, .int v)] dX12_change_47 (by decide) rfl ?_
      refine j_aload_n C 1 dX12_change_49 rfl ?_
      refine j_iload_n C 2 dX12_change_50 rfl ?_
      refine j_callV (As := [.int p]) (rest := []) C vw12_isPerson (c_isPerson) rRcv rfl (Nat.le_of_ble_eq_true rfl) dX12_change_51 (by decide) ?_
      rintro _ _ ⟨rfl, rfl⟩
      refine j_if_eq C 81 dX12_change_54 (by decide) (fun c54 => ?_) (fun c54 => ?_)
      · replace c54 := bI_f c54
        refine j_aload_n C 1 dX12_change_81 rfl ?_
        refine j_ldc C (-1000000001) dX12_change_82 kc12_55 ?_
        refine j_callV (As := [.int (-1000000001)]) (rest := []) C vw12_errs (c_errs 1 (by decide) (by decide)) rRcv rfl (Nat.le_of_ble_eq_true rfl) dX12_change_84 (by decide) ?_
        rintro _ _ ⟨rfl, rfl⟩
        refine j_iret C dX12_change_87 ?_
        unfold sp_change
        rw [if_neg (fun h => c54 h.1)]
        exact ⟨rfl, EQ.rf⟩
      · replace c54 := bI_t c54
        obtain ⟨pn, hpn, rfl⟩ := inn_row c54 e3 (by omega)
        refine j_iload C 0 dX12_change_57 rfl ?_
        refine j_if_eq C 81 dX12_change_59 (by decide) (fun c59 => ?_) (fun c59 => ?_)
        · replace c59 := bI_f c59
          refine j_aload_n C 1 dX12_change_81 rfl ?_
          refine j_ldc C (-1000000001) dX12_change_82 kc12_55 ?_
          refine j_callV (As := [.int (-1000000001)]) (rest := []) C vw12_errs (c_errs 1 (by decide) (by decide)) rRcv rfl (Nat.le_of_ble_eq_true rfl) dX12_change_84 (by decide) ?_
          rintro _ _ ⟨rfl, rfl⟩
          refine j_iret C dX12_change_87 ?_
          unfold sp_change
          rw [if_neg (fun h => h.2.elim (fun g => c1 g.1) (fun g => g.elim (fun g => c59 g.2) (fun g => absurd (c14.symm.trans g.1) (by decide))))]
          exact ⟨rfl, EQ.rf⟩
        · replace c59 := bI_t c59
          obtain rfl : what = nI 1 := c14
          refine j_aload_n C 1 dX12_change_62 rfl ?_
          refine j_bipush C (v := (nI 30)) dX12_change_63 (by decide) ?_
          refine j_bipush C (v := (nI 6)) dX12_change_65 (by decide) ?_
          refine j_iload_n C 2 dX12_change_67 rfl ?_
          refine j_imulN C dX12_change_68 ?_
          refine j_iaddN C dX12_change_69 ?_
          refine j_iconst C (v := (nI 2)) dX12_change_70 (by decide) ?_
          refine j_iaddN C dX12_change_71 ?_
          refine j_iload_n C 3 dX12_change_72 rfl ?_
          refine j_iaddN C dX12_change_73 ?_
          refine j_iload_n C 4 dX12_change_74 rfl ?_
          refine j_callV (As := [.int (nI (30 + 6 * pn + 2 + 1)), .int v]) (rest := []) C vw12_becomes (c_becomes (30 + 6 * pn + 2 + 1) (by omega)) rRcv rfl (Nat.le_of_ble_eq_true rfl) dX12_change_75 (by decide) ?_
          rintro _ _ ⟨rfl, rfl⟩
          refine j_goto C 87 dX12_change_78 (by decide) ?_
          refine j_iret C dX12_change_87 ?_
          unfold sp_change
          rw [if_pos ⟨c54, Or.inr (Or.inl ⟨rfl, c59⟩)⟩, tN_nI (n := pn) (by omega), tN_nI (n := 1) (by decide)]
          exact ⟨rfl, EQ.rf⟩
  · skip
    refine j_aload_n C 0 dX12_change_4 rfl ?_
    refine j_iload_n C 3 dX12_change_5 rfl ?_
    refine j_callV (As := [.int v]) (rest := []) C vw12_isCell (c_isCell) rRcv rfl (Nat.le_of_ble_eq_true rfl) dX12_change_6 (by decide) ?_
    rintro _ _ ⟨rfl, rfl⟩
    refine j_goto C 47 dX12_change_9 (by decide) ?_
    refine j_istore C [(4, .int (bI (inn v 0 (row 2 - 1)))), (0, .ref o), (1, .int p), (2, .int what), (3, .int v)] dX12_change_47 (by decide) rfl ?_
    refine j_aload_n C 1 dX12_change_49 rfl ?_
    refine j_iload_n C 2 dX12_change_50 rfl ?_
    refine j_callV (As := [.int p]) (rest := []) C vw12_isPerson (c_isPerson) rRcv rfl (Nat.le_of_ble_eq_true rfl) dX12_change_51 (by decide) ?_
    rintro _ _ ⟨rfl, rfl⟩
    refine j_if_eq C 81 dX12_change_54 (by decide) (fun c54 => ?_) (fun c54 => ?_)
    · replace c54 := bI_f c54
      refine j_aload_n C 1 dX12_change_81 rfl ?_
      refine j_ldc C (-1000000001) dX12_change_82 kc12_55 ?_
      refine j_callV (As := [.int (-1000000001)]) (rest := []) C vw12_errs (c_errs 1 (by decide) (by decide)) rRcv rfl (Nat.le_of_ble_eq_true rfl) dX12_change_84 (by decide) ?_
      rintro _ _ ⟨rfl, rfl⟩
      refine j_iret C dX12_change_87 ?_
      unfold sp_change
      rw [if_neg (fun h => c54 h.1)]
      exact ⟨rfl, EQ.rf⟩
    · replace c54 := bI_t c54
      obtain ⟨pn, hpn, rfl⟩ := inn_row c54 e3 (by omega)
      refine j_iload C 0 dX12_change_57 rfl ?_
      refine j_if_eq C 81 dX12_change_59 (by decide) (fun c59 => ?_) (fun c59 => ?_)
      · replace c59 := bI_f c59
        refine j_aload_n C 1 dX12_change_81 rfl ?_
        refine j_ldc C (-1000000001) dX12_change_82 kc12_55 ?_
        refine j_callV (As := [.int (-1000000001)]) (rest := []) C vw12_errs (c_errs 1 (by decide) (by decide)) rRcv rfl (Nat.le_of_ble_eq_true rfl) dX12_change_84 (by decide) ?_
        rintro _ _ ⟨rfl, rfl⟩
        refine j_iret C dX12_change_87 ?_
        unfold sp_change
        rw [if_neg (fun h => h.2.elim (fun g => c59 g.2) (fun g => g.elim (fun g => absurd (c1.symm.trans g.1) (by decide)) (fun g => absurd (c1.symm.trans g.1) (by decide))))]
        exact ⟨rfl, EQ.rf⟩
      · replace c59 := bI_t c59
        obtain rfl : what = nI 0 := c1
        refine j_aload_n C 1 dX12_change_62 rfl ?_
        refine j_bipush C (v := (nI 30)) dX12_change_63 (by decide) ?_
        refine j_bipush C (v := (nI 6)) dX12_change_65 (by decide) ?_
        refine j_iload_n C 2 dX12_change_67 rfl ?_
        refine j_imulN C dX12_change_68 ?_
        refine j_iaddN C dX12_change_69 ?_
        refine j_iconst C (v := (nI 2)) dX12_change_70 (by decide) ?_
        refine j_iaddN C dX12_change_71 ?_
        refine j_iload_n C 3 dX12_change_72 rfl ?_
        refine j_iaddN C dX12_change_73 ?_
        refine j_iload_n C 4 dX12_change_74 rfl ?_
        refine j_callV (As := [.int (nI (30 + 6 * pn + 2 + 0)), .int v]) (rest := []) C vw12_becomes (c_becomes (30 + 6 * pn + 2 + 0) (by omega)) rRcv rfl (Nat.le_of_ble_eq_true rfl) dX12_change_75 (by decide) ?_
        rintro _ _ ⟨rfl, rfl⟩
        refine j_goto C 87 dX12_change_78 (by decide) ?_
        refine j_iret C dX12_change_87 ?_
        unfold sp_change
        rw [if_pos ⟨c54, Or.inl ⟨rfl, c59⟩⟩, tN_nI (n := pn) (by omega), tN_nI (n := 0) (by decide)]
        exact ⟨rfl, EQ.rf⟩
theorem dX12_become_0 : decode cX12_become 0 = .ok (.aload_n 0, 1) := by decide +kernel
theorem dX12_become_1 : decode cX12_become 1 = .ok (.iload_n 1, 1) := by decide +kernel
theorem dX12_become_2 : decode cX12_become 2 = .ok (.invokevirtual 80, 3) := by decide +kernel
theorem dX12_become_5 : decode cX12_become 5 = .ok (.ifCond .eq 13, 3) := by decide +kernel
theorem dX12_become_8 : decode cX12_become 8 = .ok (.iload_n 2, 1) := by decide +kernel
theorem dX12_become_9 : decode cX12_become 9 = .ok (.iconst 0, 1) := by decide +kernel
theorem dX12_become_10 : decode cX12_become 10 = .ok (.bipush 69, 2) := by decide +kernel
theorem dX12_become_12 : decode cX12_become 12 = .ok (.invokestatic 51, 3) := by decide +kernel
theorem dX12_become_15 : decode cX12_become 15 = .ok (.ifCond .ne 10, 3) := by decide +kernel
theorem dX12_become_18 : decode cX12_become 18 = .ok (.aload_n 0, 1) := by decide +kernel
theorem dX12_become_19 : decode cX12_become 19 = .ok (.ldc 55, 2) := by decide +kernel
theorem dX12_become_21 : decode cX12_become 21 = .ok (.invokevirtual 56, 3) := by decide +kernel
theorem dX12_become_24 : decode cX12_become 24 = .ok (.ireturn, 1) := by decide +kernel
theorem dX12_become_25 : decode cX12_become 25 = .ok (.aload_n 0, 1) := by decide +kernel
theorem dX12_become_26 : decode cX12_become 26 = .ok (.iload_n 1, 1) := by decide +kernel
theorem dX12_become_27 : decode cX12_become 27 = .ok (.iconst 1, 1) := by decide +kernel
theorem dX12_become_28 : decode cX12_become 28 = .ok (.iload_n 2, 1) := by decide +kernel
theorem dX12_become_29 : decode cX12_become 29 = .ok (.bipush 10, 2) := by decide +kernel
theorem dX12_become_31 : decode cX12_become 31 = .ok (.irem, 1) := by decide +kernel
theorem dX12_become_32 : decode cX12_become 32 = .ok (.invokevirtual 76, 3) := by decide +kernel
theorem dX12_become_35 : decode cX12_become 35 = .ok (.aload_n 0, 1) := by decide +kernel
theorem dX12_become_36 : decode cX12_become 36 = .ok (.bipush 30, 2) := by decide +kernel
theorem dX12_become_38 : decode cX12_become 38 = .ok (.bipush 6, 2) := by decide +kernel
theorem dX12_become_40 : decode cX12_become 40 = .ok (.iload_n 1, 1) := by decide +kernel
theorem dX12_become_41 : decode cX12_become 41 = .ok (.imul, 1) := by decide +kernel
theorem dX12_become_42 : decode cX12_become 42 = .ok (.iadd, 1) := by decide +kernel
theorem dX12_become_43 : decode cX12_become 43 = .ok (.iload_n 2, 1) := by decide +kernel
theorem dX12_become_44 : decode cX12_become 44 = .ok (.bipush 10, 2) := by decide +kernel
theorem dX12_become_46 : decode cX12_become 46 = .ok (.idiv, 1) := by decide +kernel
theorem dX12_become_47 : decode cX12_become 47 = .ok (.invokevirtual 61, 3) := by decide +kernel
theorem dX12_become_50 : decode cX12_become 50 = .ok (.ireturn, 1) := by decide +kernel
set_option maxHeartbeats 2000000 in
set_option maxRecDepth 20000 in
theorem c_become {l : Launch} {D : va_G} {cI cG cW : ClassId} {o : Nat} {q : Nat → Nat} {V row kept tried bf fd pk bo so sh mv tr : Nat → Int32} {p km : Int32} {nc np nw d nt nq : Nat} (hR : RKx row nc np nw d nt nq) : Ci l yX12_become cX12_become 3 (some .int) 3 D (tyL cI cG cW) (wR cI o q) [.ref o, .int p, .int km] (sR V row kept tried bf fd pk bo so sh mv tr) (fun r τ => r = (sp_become V row kept tried bf fd pk bo so sh mv tr p km).1 ∧ EQ τ (sp_become V row kept tried bf fd pk bo so sh mv tr p km).2) := by
  refine Ci.of (by decide) (Nat.le_of_ble_eq_true rfl) ?_
  intro p_ e_ s_ m_ b_ M_ c_ A_ C
  replace C : Cx _ _ _ _ _ _ _ _ RX12 _ _ _ _ := C
  refine j_L [0, 1, 2] [(0, .ref o), (1, .int p), (2, .int km)] rfl ?_
  obtain ⟨hI, hW, ⟨e0, hd⟩, ⟨e4, ht⟩, ⟨e5, hq⟩, hB⟩ := id hR
  obtain ⟨⟨e2, hc2, hc10⟩, ⟨e3, hn6⟩, ⟨e8, hw8⟩, hP, hE, hLo, hT0, hT1⟩ := id hI
  have hIc := hI
  refine j_aload_n C 0 dX12_become_0 rfl ?_
  refine j_iload_n C 1 dX12_become_1 rfl ?_
  refine j_callV (As := [.int p]) (rest := []) C vw12_isPerson (c_isPerson) rRcv rfl (Nat.le_of_ble_eq_true rfl) dX12_become_2 (by decide) ?_
  rintro _ _ ⟨rfl, rfl⟩
  refine j_if_eq C 18 dX12_become_5 (by decide) (fun c5 => ?_) (fun c5 => ?_)
  · replace c5 := bI_f c5
    refine j_aload_n C 0 dX12_become_18 rfl ?_
    refine j_ldc C (-1000000001) dX12_become_19 kc12_55 ?_
    refine j_callV (As := [.int (-1000000001)]) (rest := []) C vw12_errs (c_errs 1 (by decide) (by decide)) rRcv rfl (Nat.le_of_ble_eq_true rfl) dX12_become_21 (by decide) ?_
    rintro _ _ ⟨rfl, rfl⟩
    refine j_iret C dX12_become_24 ?_
    unfold sp_become
    rw [if_neg (fun h => c5 h.1)]
    exact ⟨rfl, EQ.rf⟩
  · replace c5 := bI_t c5
    obtain ⟨pn, hpn, rfl⟩ := inn_row c5 e3 (by omega)
    refine j_iload_n C 2 dX12_become_8 rfl ?_
    refine j_iconst C (v := (nI 0)) dX12_become_9 (by decide) ?_
    refine j_bipush C (v := (nI 69)) dX12_become_10 (by decide) ?_
    refine j_callS (As := [.int km, .int (nI 0), .int (nI 69)]) (rest := []) C vw12_in (c_in) rfl (Nat.le_of_ble_eq_true rfl) dX12_become_12 (by decide) ?_
    rintro _ _ ⟨rfl, rfl⟩
    refine j_if_ne C 25 dX12_become_15 (by decide) (fun c15 => ?_) (fun c15 => ?_)
    · replace c15 := bI_t c15
      refine j_aload_n C 0 dX12_become_25 rfl ?_
      refine j_iload_n C 1 dX12_become_26 rfl ?_
      refine j_iconst C (v := (nI 1)) dX12_become_27 (by decide) ?_
      refine j_iload_n C 2 dX12_become_28 rfl ?_
      refine j_bipush C (v := (nI 10)) dX12_become_29 (by decide) ?_
      refine j_irem C dX12_become_31 (by decide) ?_
      refine j_callVv (As := [.int (nI pn), .int (nI 1), .int (km - km / (nI 10) * (nI 10))]) (rest := []) C vw12_gets (c_gets pn 1 (by omega)) rRcv rfl (Nat.le_of_ble_eq_true rfl) dX12_become_32 (by decide) ?_
      rintro _ rfl
      refine j_aload_n C 0 dX12_become_35 rfl ?_
      refine j_bipush C (v := (nI 30)) dX12_become_36 (by decide) ?_
      refine j_bipush C (v := (nI 6)) dX12_become_38 (by decide) ?_
      refine j_iload_n C 1 dX12_become_40 rfl ?_
      refine j_imulN C dX12_become_41 ?_
      refine j_iaddN C dX12_become_42 ?_
      refine j_iload_n C 2 dX12_become_43 rfl ?_
      refine j_bipush C (v := (nI 10)) dX12_become_44 (by decide) ?_
      refine j_idiv C dX12_become_46 (by decide) ?_
      refine j_callV (As := [.int (nI (30 + 6 * pn)), .int (km / (nI 10))]) (rest := []) C vw12_becomes (c_becomes (30 + 6 * pn) (by omega)) rRcv rfl (Nat.le_of_ble_eq_true rfl) dX12_become_47 (by decide) ?_
      rintro _ _ ⟨rfl, rfl⟩
      refine j_iret C dX12_become_50 ?_
      unfold sp_become
      rw [if_pos ⟨c5, c15⟩]
      rw [tN_nI (by omega)]
      exact ⟨pk_un (by omega), EQ.rf⟩
    · replace c15 := bI_f c15
      refine j_aload_n C 0 dX12_become_18 rfl ?_
      refine j_ldc C (-1000000001) dX12_become_19 kc12_55 ?_
      refine j_callV (As := [.int (-1000000001)]) (rest := []) C vw12_errs (c_errs 1 (by decide) (by decide)) rRcv rfl (Nat.le_of_ble_eq_true rfl) dX12_become_21 (by decide) ?_
      rintro _ _ ⟨rfl, rfl⟩
      refine j_iret C dX12_become_24 ?_
      unfold sp_become
      rw [if_neg (fun h => c15 h.2)]
      exact ⟨rfl, EQ.rf⟩
theorem dX12_wrong_0 : decode cX12_wrong 0 = .ok (.aload_n 0, 1) := by decide +kernel
theorem dX12_wrong_1 : decode cX12_wrong 1 = .ok (.iload_n 1, 1) := by decide +kernel
theorem dX12_wrong_2 : decode cX12_wrong 2 = .ok (.invokevirtual 80, 3) := by decide +kernel
theorem dX12_wrong_5 : decode cX12_wrong 5 = .ok (.ifCond .eq 26, 3) := by decide +kernel
theorem dX12_wrong_8 : decode cX12_wrong 8 = .ok (.aload_n 0, 1) := by decide +kernel
theorem dX12_wrong_9 : decode cX12_wrong 9 = .ok (.iload_n 2, 1) := by decide +kernel
theorem dX12_wrong_10 : decode cX12_wrong 10 = .ok (.invokevirtual 80, 3) := by decide +kernel
theorem dX12_wrong_13 : decode cX12_wrong 13 = .ok (.ifCond .eq 18, 3) := by decide +kernel
theorem dX12_wrong_16 : decode cX12_wrong 16 = .ok (.iload_n 1, 1) := by decide +kernel
theorem dX12_wrong_17 : decode cX12_wrong 17 = .ok (.iload_n 2, 1) := by decide +kernel
theorem dX12_wrong_18 : decode cX12_wrong 18 = .ok (.if_icmp .eq 13, 3) := by decide +kernel
theorem dX12_wrong_21 : decode cX12_wrong 21 = .ok (.iload_n 3, 1) := by decide +kernel
theorem dX12_wrong_22 : decode cX12_wrong 22 = .ok (.iconst 1, 1) := by decide +kernel
theorem dX12_wrong_23 : decode cX12_wrong 23 = .ok (.bipush 20, 2) := by decide +kernel
theorem dX12_wrong_25 : decode cX12_wrong 25 = .ok (.invokestatic 51, 3) := by decide +kernel
theorem dX12_wrong_28 : decode cX12_wrong 28 = .ok (.ifCond .ne 10, 3) := by decide +kernel
theorem dX12_wrong_31 : decode cX12_wrong 31 = .ok (.aload_n 0, 1) := by decide +kernel
theorem dX12_wrong_32 : decode cX12_wrong 32 = .ok (.ldc 55, 2) := by decide +kernel
theorem dX12_wrong_34 : decode cX12_wrong 34 = .ok (.invokevirtual 56, 3) := by decide +kernel
theorem dX12_wrong_37 : decode cX12_wrong 37 = .ok (.ireturn, 1) := by decide +kernel
theorem dX12_wrong_38 : decode cX12_wrong 38 = .ok (.aload_n 0, 1) := by decide +kernel
theorem dX12_wrong_39 : decode cX12_wrong 39 = .ok (.getfield 7, 3) := by decide +kernel
theorem dX12_wrong_42 : decode cX12_wrong 42 = .ok (.bipush 8, 2) := by decide +kernel
theorem dX12_wrong_44 : decode cX12_wrong 44 = .ok (.iaload, 1) := by decide +kernel
theorem dX12_wrong_45 : decode cX12_wrong 45 = .ok (.bipush 8, 2) := by decide +kernel
theorem dX12_wrong_47 : decode cX12_wrong 47 = .ok (.if_icmp .ne 10, 3) := by decide +kernel
theorem dX12_wrong_50 : decode cX12_wrong 50 = .ok (.aload_n 0, 1) := by decide +kernel
theorem dX12_wrong_51 : decode cX12_wrong 51 = .ok (.ldc 75, 2) := by decide +kernel
theorem dX12_wrong_53 : decode cX12_wrong 53 = .ok (.invokevirtual 56, 3) := by decide +kernel
theorem dX12_wrong_56 : decode cX12_wrong 56 = .ok (.ireturn, 1) := by decide +kernel
theorem dX12_wrong_57 : decode cX12_wrong 57 = .ok (.bipush 66, 2) := by decide +kernel
theorem dX12_wrong_59 : decode cX12_wrong 59 = .ok (.iconst 3, 1) := by decide +kernel
theorem dX12_wrong_60 : decode cX12_wrong 60 = .ok (.aload_n 0, 1) := by decide +kernel
theorem dX12_wrong_61 : decode cX12_wrong 61 = .ok (.getfield 7, 3) := by decide +kernel
theorem dX12_wrong_64 : decode cX12_wrong 64 = .ok (.bipush 8, 2) := by decide +kernel
theorem dX12_wrong_66 : decode cX12_wrong 66 = .ok (.iaload, 1) := by decide +kernel
theorem dX12_wrong_67 : decode cX12_wrong 67 = .ok (.imul, 1) := by decide +kernel
theorem dX12_wrong_68 : decode cX12_wrong 68 = .ok (.iadd, 1) := by decide +kernel
theorem dX12_wrong_69 : decode cX12_wrong 69 = .ok (.istore 4, 2) := by decide +kernel
theorem dX12_wrong_71 : decode cX12_wrong 71 = .ok (.aload_n 0, 1) := by decide +kernel
theorem dX12_wrong_72 : decode cX12_wrong 72 = .ok (.getfield 7, 3) := by decide +kernel
theorem dX12_wrong_75 : decode cX12_wrong 75 = .ok (.iload 4, 2) := by decide +kernel
theorem dX12_wrong_77 : decode cX12_wrong 77 = .ok (.iload_n 1, 1) := by decide +kernel
theorem dX12_wrong_78 : decode cX12_wrong 78 = .ok (.iastore, 1) := by decide +kernel
theorem dX12_wrong_79 : decode cX12_wrong 79 = .ok (.aload_n 0, 1) := by decide +kernel
theorem dX12_wrong_80 : decode cX12_wrong 80 = .ok (.getfield 7, 3) := by decide +kernel
theorem dX12_wrong_83 : decode cX12_wrong 83 = .ok (.iload 4, 2) := by decide +kernel
theorem dX12_wrong_85 : decode cX12_wrong 85 = .ok (.iconst 1, 1) := by decide +kernel
theorem dX12_wrong_86 : decode cX12_wrong 86 = .ok (.iadd, 1) := by decide +kernel
theorem dX12_wrong_87 : decode cX12_wrong 87 = .ok (.iload_n 2, 1) := by decide +kernel
theorem dX12_wrong_88 : decode cX12_wrong 88 = .ok (.iastore, 1) := by decide +kernel
theorem dX12_wrong_89 : decode cX12_wrong 89 = .ok (.aload_n 0, 1) := by decide +kernel
theorem dX12_wrong_90 : decode cX12_wrong 90 = .ok (.getfield 7, 3) := by decide +kernel
theorem dX12_wrong_93 : decode cX12_wrong 93 = .ok (.iload 4, 2) := by decide +kernel
theorem dX12_wrong_95 : decode cX12_wrong 95 = .ok (.iconst 2, 1) := by decide +kernel
theorem dX12_wrong_96 : decode cX12_wrong 96 = .ok (.iadd, 1) := by decide +kernel
theorem dX12_wrong_97 : decode cX12_wrong 97 = .ok (.iload_n 3, 1) := by decide +kernel
theorem dX12_wrong_98 : decode cX12_wrong 98 = .ok (.iastore, 1) := by decide +kernel
theorem dX12_wrong_99 : decode cX12_wrong 99 = .ok (.aload_n 0, 1) := by decide +kernel
theorem dX12_wrong_100 : decode cX12_wrong 100 = .ok (.getfield 7, 3) := by decide +kernel
theorem dX12_wrong_103 : decode cX12_wrong 103 = .ok (.bipush 8, 2) := by decide +kernel
theorem dX12_wrong_105 : decode cX12_wrong 105 = .ok (.dup2, 1) := by decide +kernel
theorem dX12_wrong_106 : decode cX12_wrong 106 = .ok (.iaload, 1) := by decide +kernel
theorem dX12_wrong_107 : decode cX12_wrong 107 = .ok (.iconst 1, 1) := by decide +kernel
theorem dX12_wrong_108 : decode cX12_wrong 108 = .ok (.iadd, 1) := by decide +kernel
theorem dX12_wrong_109 : decode cX12_wrong 109 = .ok (.iastore, 1) := by decide +kernel
theorem dX12_wrong_110 : decode cX12_wrong 110 = .ok (.aload_n 0, 1) := by decide +kernel
theorem dX12_wrong_111 : decode cX12_wrong 111 = .ok (.getfield 7, 3) := by decide +kernel
theorem dX12_wrong_114 : decode cX12_wrong 114 = .ok (.bipush 8, 2) := by decide +kernel
theorem dX12_wrong_116 : decode cX12_wrong 116 = .ok (.iaload, 1) := by decide +kernel
theorem dX12_wrong_117 : decode cX12_wrong 117 = .ok (.iconst 1, 1) := by decide +kernel
theorem dX12_wrong_118 : decode cX12_wrong 118 = .ok (.isub, 1) := by decide +kernel
theorem dX12_wrong_119 : decode cX12_wrong 119 = .ok (.ireturn, 1) := by decide +kernel
set_option maxHeartbeats 2000000 in
set_option maxRecDepth 20000 in
theorem c_wrong {l : Launch} {D : va_G} {cI cG cW : ClassId} {o : Nat} {q : Nat → Nat} {V row kept tried bf fd pk bo so sh mv tr : Nat → Int32} {b t w : Int32} {nc np nw d nt nq : Nat} (hR : RKx row nc np nw d nt nq) : Ci l yX12_wrong cX12_wrong 5 (some .int) 3 D (tyL cI cG cW) (wR cI o q) [.ref o, .int b, .int t, .int w] (sR V row kept tried bf fd pk bo so sh mv tr) (fun r τ => r = (sp_wrong V row kept tried bf fd pk bo so sh mv tr b t w).1 ∧ EQ τ (sp_wrong V row kept tried bf fd pk bo so sh mv tr b t w).2) := by
  refine Ci.of (by decide) (Nat.le_of_ble_eq_true rfl) ?_
  intro p_ e_ s_ m_ b_ M_ c_ A_ C
  replace C : Cx _ _ _ _ _ _ _ _ RX12 _ _ _ _ := C
  refine j_L [0, 1, 2, 3] [(0, .ref o), (1, .int b), (2, .int t), (3, .int w)] rfl ?_
  obtain ⟨hI, hW, ⟨e0, hd⟩, ⟨e4, ht⟩, ⟨e5, hq⟩, hB⟩ := id hR
  obtain ⟨⟨e2, hc2, hc10⟩, ⟨e3, hn6⟩, ⟨e8, hw8⟩, hP, hE, hLo, hT0, hT1⟩ := id hI
  have hIc := hI
  refine j_aload_n C 0 dX12_wrong_0 rfl ?_
  refine j_iload_n C 1 dX12_wrong_1 rfl ?_
  refine j_callV (As := [.int b]) (rest := []) C vw12_isPerson (c_isPerson) rRcv rfl (Nat.le_of_ble_eq_true rfl) dX12_wrong_2 (by decide) ?_
  rintro _ _ ⟨rfl, rfl⟩
  refine j_if_eq C 31 dX12_wrong_5 (by decide) (fun c5 => ?_) (fun c5 => ?_)
  · replace c5 := bI_f c5
    refine j_aload_n C 0 dX12_wrong_31 rfl ?_
    refine j_ldc C (-1000000001) dX12_wrong_32 kc12_55 ?_
    refine j_callV (As := [.int (-1000000001)]) (rest := []) C vw12_errs (c_errs 1 (by decide) (by decide)) rRcv rfl (Nat.le_of_ble_eq_true rfl) dX12_wrong_34 (by decide) ?_
    rintro _ _ ⟨rfl, rfl⟩
    refine j_iret C dX12_wrong_37 ?_
    unfold sp_wrong
    rw [if_neg (fun h => c5 h.1)]
    exact ⟨rfl, EQ.rf⟩
  · replace c5 := bI_t c5
    refine j_aload_n C 0 dX12_wrong_8 rfl ?_
    refine j_iload_n C 2 dX12_wrong_9 rfl ?_
    refine j_callV (As := [.int t]) (rest := []) C vw12_isPerson (c_isPerson) rRcv rfl (Nat.le_of_ble_eq_true rfl) dX12_wrong_10 (by decide) ?_
    rintro _ _ ⟨rfl, rfl⟩
    refine j_if_eq C 31 dX12_wrong_13 (by decide) (fun c13 => ?_) (fun c13 => ?_)
    · replace c13 := bI_f c13
      refine j_aload_n C 0 dX12_wrong_31 rfl ?_
      refine j_ldc C (-1000000001) dX12_wrong_32 kc12_55 ?_
      refine j_callV (As := [.int (-1000000001)]) (rest := []) C vw12_errs (c_errs 1 (by decide) (by decide)) rRcv rfl (Nat.le_of_ble_eq_true rfl) dX12_wrong_34 (by decide) ?_
      rintro _ _ ⟨rfl, rfl⟩
      refine j_iret C dX12_wrong_37 ?_
      unfold sp_wrong
      rw [if_neg (fun h => c13 h.2.1)]
      exact ⟨rfl, EQ.rf⟩
    · replace c13 := bI_t c13
      refine j_iload_n C 1 dX12_wrong_16 rfl ?_
      refine j_iload_n C 2 dX12_wrong_17 rfl ?_
      refine j_icmp_eq C 31 dX12_wrong_18 (by decide) (fun c18 => ?_) (fun c18 => ?_)
      · skip
        refine j_aload_n C 0 dX12_wrong_31 rfl ?_
        refine j_ldc C (-1000000001) dX12_wrong_32 kc12_55 ?_
        refine j_callV (As := [.int (-1000000001)]) (rest := []) C vw12_errs (c_errs 1 (by decide) (by decide)) rRcv rfl (Nat.le_of_ble_eq_true rfl) dX12_wrong_34 (by decide) ?_
        rintro _ _ ⟨rfl, rfl⟩
        refine j_iret C dX12_wrong_37 ?_
        unfold sp_wrong
        rw [if_neg (fun h => h.2.2.1 c18)]
        exact ⟨rfl, EQ.rf⟩
      · skip
        refine j_iload_n C 3 dX12_wrong_21 rfl ?_
        refine j_iconst C (v := (nI 1)) dX12_wrong_22 (by decide) ?_
        refine j_bipush C (v := (nI 20)) dX12_wrong_23 (by decide) ?_
        refine j_callS (As := [.int w, .int (nI 1), .int (nI 20)]) (rest := []) C vw12_in (c_in) rfl (Nat.le_of_ble_eq_true rfl) dX12_wrong_25 (by decide) ?_
        rintro _ _ ⟨rfl, rfl⟩
        refine j_if_ne C 38 dX12_wrong_28 (by decide) (fun c28 => ?_) (fun c28 => ?_)
        · replace c28 := bI_t c28
          refine j_aload_n C 0 dX12_wrong_38 rfl ?_
          refine rg C (v := .ref (q 0)) 0 (by decide) kf12_7 rfl dX12_wrong_39 ?_
          refine j_bipush C (v := (nI 8)) dX12_wrong_42 (by decide) ?_
          refine rl_row C 8 rfl (by omega) dX12_wrong_44 ?_
          refine j_bipush C (v := (nI 8)) dX12_wrong_45 (by decide) ?_
          refine j_icmp_ne C 57 dX12_wrong_47 (by decide) (fun c47 => ?_) (fun c47 => ?_)
          · skip
            refine j_bipush C (v := (nI 66)) dX12_wrong_57 (by decide) ?_
            refine j_iconst C (v := (nI 3)) dX12_wrong_59 (by decide) ?_
            refine j_aload_n C 0 dX12_wrong_60 rfl ?_
            refine rg C (v := .ref (q 0)) 0 (by decide) kf12_7 rfl dX12_wrong_61 ?_
            refine j_bipush C (v := (nI 8)) dX12_wrong_64 (by decide) ?_
            refine rl_row C 8 rfl (by omega) dX12_wrong_66 ?_
            refine j_v (nI nw) e8 ?_
            refine j_imulN C dX12_wrong_67 ?_
            refine j_iaddN C dX12_wrong_68 ?_
            refine j_istore C [(4, .int (nI (66 + 3 * nw))), (0, .ref o), (1, .int b), (2, .int t), (3, .int w)] dX12_wrong_69 (by decide) rfl ?_
            refine j_aload_n C 1 dX12_wrong_71 rfl ?_
            refine rg C (v := .ref (q 0)) 0 (by decide) kf12_7 rfl dX12_wrong_72 ?_
            refine j_iload C 0 dX12_wrong_75 rfl ?_
            refine j_iload_n C 2 dX12_wrong_77 rfl ?_
            refine rs_row C (66 + 3 * nw) rfl (by omega) dX12_wrong_78 ?_
            refine j_aload_n C 1 dX12_wrong_79 rfl ?_
            refine rg C (v := .ref (q 0)) 0 (by decide) kf12_7 rfl dX12_wrong_80 ?_
            refine j_iload C 0 dX12_wrong_83 rfl ?_
            refine j_iconst C (v := (nI 1)) dX12_wrong_85 (by decide) ?_
            refine j_iaddN C dX12_wrong_86 ?_
            refine j_iload_n C 3 dX12_wrong_87 rfl ?_
            refine rs_row C (66 + 3 * nw + 1) rfl (by omega) dX12_wrong_88 ?_
            refine j_aload_n C 1 dX12_wrong_89 rfl ?_
            refine rg C (v := .ref (q 0)) 0 (by decide) kf12_7 rfl dX12_wrong_90 ?_
            refine j_iload C 0 dX12_wrong_93 rfl ?_
            refine j_iconst C (v := (nI 2)) dX12_wrong_95 (by decide) ?_
            refine j_iaddN C dX12_wrong_96 ?_
            refine j_iload_n C 4 dX12_wrong_97 rfl ?_
            refine rs_row C (66 + 3 * nw + 2) rfl (by omega) dX12_wrong_98 ?_
            refine j_aload_n C 1 dX12_wrong_99 rfl ?_
            refine rg C (v := .ref (q 0)) 0 (by decide) kf12_7 rfl dX12_wrong_100 ?_
            refine j_bipush C (v := (nI 8)) dX12_wrong_103 (by decide) ?_
            refine j_dup2 C dX12_wrong_105 rfl rfl ?_
            refine rl_row C 8 rfl (by omega) dX12_wrong_106 ?_
            refine j_v (nI nw) (by rw [pk_un (by omega), pk_un (by omega), pk_un (by omega)]; exact e8) ?_
            refine j_iconst C (v := (nI 1)) dX12_wrong_107 (by decide) ?_
            refine j_iaddN C dX12_wrong_108 ?_
            refine rs_row C 8 rfl (by omega) dX12_wrong_109 ?_
            refine j_aload_n C 1 dX12_wrong_110 rfl ?_
            refine rg C (v := .ref (q 0)) 0 (by decide) kf12_7 rfl dX12_wrong_111 ?_
            refine j_bipush C (v := (nI 8)) dX12_wrong_114 (by decide) ?_
            refine rl_row C 8 rfl (by omega) dX12_wrong_116 ?_
            refine j_v (nI (nw + 1)) (by rw [pk_us]) ?_
            refine j_iconst C (v := (nI 1)) dX12_wrong_117 (by decide) ?_
            refine j_isub C dX12_wrong_118 ?_
            refine j_iret C dX12_wrong_119 ?_
            unfold sp_wrong
            rw [if_pos ⟨c5, c13, c18, c28⟩]
            rw [if_neg c47, e8, tN_nI (by omega), nI_add]
            exact ⟨nI_pred _, EQ.rf⟩
          · skip
            refine j_aload_n C 0 dX12_wrong_50 rfl ?_
            refine j_ldc C (-1000000004) dX12_wrong_51 kc12_75 ?_
            refine j_callV (As := [.int (-1000000004)]) (rest := []) C vw12_errs (c_errs 4 (by decide) (by decide)) rRcv rfl (Nat.le_of_ble_eq_true rfl) dX12_wrong_53 (by decide) ?_
            rintro _ _ ⟨rfl, rfl⟩
            refine j_iret C dX12_wrong_56 ?_
            unfold sp_wrong
            rw [if_pos ⟨c5, c13, c18, c28⟩]
            rw [if_pos c47]
            exact ⟨rfl, EQ.rf⟩
        · replace c28 := bI_f c28
          refine j_aload_n C 0 dX12_wrong_31 rfl ?_
          refine j_ldc C (-1000000001) dX12_wrong_32 kc12_55 ?_
          refine j_callV (As := [.int (-1000000001)]) (rest := []) C vw12_errs (c_errs 1 (by decide) (by decide)) rRcv rfl (Nat.le_of_ble_eq_true rfl) dX12_wrong_34 (by decide) ?_
          rintro _ _ ⟨rfl, rfl⟩
          refine j_iret C dX12_wrong_37 ?_
          unfold sp_wrong
          rw [if_neg (fun h => c28 h.2.2.2)]
          exact ⟨rfl, EQ.rf⟩
theorem dX12_ofWrong_0 : decode cX12_ofWrong 0 = .ok (.aload_n 0, 1) := by decide +kernel
theorem dX12_ofWrong_1 : decode cX12_ofWrong 1 = .ok (.iload_n 1, 1) := by decide +kernel
theorem dX12_ofWrong_2 : decode cX12_ofWrong 2 = .ok (.invokevirtual 96, 3) := by decide +kernel
theorem dX12_ofWrong_5 : decode cX12_ofWrong 5 = .ok (.ifCond .eq 28, 3) := by decide +kernel
theorem dX12_ofWrong_8 : decode cX12_ofWrong 8 = .ok (.iload_n 2, 1) := by decide +kernel
theorem dX12_ofWrong_9 : decode cX12_ofWrong 9 = .ok (.iconst 0, 1) := by decide +kernel
theorem dX12_ofWrong_10 : decode cX12_ofWrong 10 = .ok (.iconst 2, 1) := by decide +kernel
theorem dX12_ofWrong_11 : decode cX12_ofWrong 11 = .ok (.invokestatic 51, 3) := by decide +kernel
theorem dX12_ofWrong_14 : decode cX12_ofWrong 14 = .ok (.ifCond .eq 19, 3) := by decide +kernel
theorem dX12_ofWrong_17 : decode cX12_ofWrong 17 = .ok (.aload_n 0, 1) := by decide +kernel
theorem dX12_ofWrong_18 : decode cX12_ofWrong 18 = .ok (.getfield 7, 3) := by decide +kernel
theorem dX12_ofWrong_21 : decode cX12_ofWrong 21 = .ok (.bipush 66, 2) := by decide +kernel
theorem dX12_ofWrong_23 : decode cX12_ofWrong 23 = .ok (.iconst 3, 1) := by decide +kernel
theorem dX12_ofWrong_24 : decode cX12_ofWrong 24 = .ok (.iload_n 1, 1) := by decide +kernel
theorem dX12_ofWrong_25 : decode cX12_ofWrong 25 = .ok (.imul, 1) := by decide +kernel
theorem dX12_ofWrong_26 : decode cX12_ofWrong 26 = .ok (.iadd, 1) := by decide +kernel
theorem dX12_ofWrong_27 : decode cX12_ofWrong 27 = .ok (.iload_n 2, 1) := by decide +kernel
theorem dX12_ofWrong_28 : decode cX12_ofWrong 28 = .ok (.iadd, 1) := by decide +kernel
theorem dX12_ofWrong_29 : decode cX12_ofWrong 29 = .ok (.iaload, 1) := by decide +kernel
theorem dX12_ofWrong_30 : decode cX12_ofWrong 30 = .ok (.goto 9, 3) := by decide +kernel
theorem dX12_ofWrong_33 : decode cX12_ofWrong 33 = .ok (.aload_n 0, 1) := by decide +kernel
theorem dX12_ofWrong_34 : decode cX12_ofWrong 34 = .ok (.ldc 55, 2) := by decide +kernel
theorem dX12_ofWrong_36 : decode cX12_ofWrong 36 = .ok (.invokevirtual 56, 3) := by decide +kernel
theorem dX12_ofWrong_39 : decode cX12_ofWrong 39 = .ok (.ireturn, 1) := by decide +kernel
set_option maxHeartbeats 2000000 in
set_option maxRecDepth 20000 in
theorem c_ofWrong {l : Launch} {D : va_G} {cI cG cW : ClassId} {o : Nat} {q : Nat → Nat} {V row kept tried bf fd pk bo so sh mv tr : Nat → Int32} {w what : Int32} {nc np nw d nt nq : Nat} (hR : RKx row nc np nw d nt nq) : Ci l yX12_ofWrong cX12_ofWrong 3 (some .int) 3 D (tyL cI cG cW) (wR cI o q) [.ref o, .int w, .int what] (sR V row kept tried bf fd pk bo so sh mv tr) (fun r τ => r = (sp_ofWrong V row kept tried bf fd pk bo so sh mv tr w what).1 ∧ EQ τ (sp_ofWrong V row kept tried bf fd pk bo so sh mv tr w what).2) := by
  refine Ci.of (by decide) (Nat.le_of_ble_eq_true rfl) ?_
  intro p_ e_ s_ m_ b_ M_ c_ A_ C
  replace C : Cx _ _ _ _ _ _ _ _ RX12 _ _ _ _ := C
  refine j_L [0, 1, 2] [(0, .ref o), (1, .int w), (2, .int what)] rfl ?_
  obtain ⟨hI, hW, ⟨e0, hd⟩, ⟨e4, ht⟩, ⟨e5, hq⟩, hB⟩ := id hR
  obtain ⟨⟨e2, hc2, hc10⟩, ⟨e3, hn6⟩, ⟨e8, hw8⟩, hP, hE, hLo, hT0, hT1⟩ := id hI
  have hIc := hI
  refine j_aload_n C 0 dX12_ofWrong_0 rfl ?_
  refine j_iload_n C 1 dX12_ofWrong_1 rfl ?_
  refine j_callV (As := [.int w]) (rest := []) C vw12_isWrong (c_isWrong) rRcv rfl (Nat.le_of_ble_eq_true rfl) dX12_ofWrong_2 (by decide) ?_
  rintro _ _ ⟨rfl, rfl⟩
  refine j_if_eq C 33 dX12_ofWrong_5 (by decide) (fun c5 => ?_) (fun c5 => ?_)
  · replace c5 := bI_f c5
    refine j_aload_n C 0 dX12_ofWrong_33 rfl ?_
    refine j_ldc C (-1000000001) dX12_ofWrong_34 kc12_55 ?_
    refine j_callV (As := [.int (-1000000001)]) (rest := []) C vw12_errs (c_errs 1 (by decide) (by decide)) rRcv rfl (Nat.le_of_ble_eq_true rfl) dX12_ofWrong_36 (by decide) ?_
    rintro _ _ ⟨rfl, rfl⟩
    refine j_iret C dX12_ofWrong_39 ?_
    unfold sp_ofWrong
    rw [if_neg (fun h => c5 h.1)]
    exact ⟨rfl, EQ.rf⟩
  · replace c5 := bI_t c5
    obtain ⟨wn, hwn, rfl⟩ := inn_row c5 e8 (by omega)
    refine j_iload_n C 2 dX12_ofWrong_8 rfl ?_
    refine j_iconst C (v := (nI 0)) dX12_ofWrong_9 (by decide) ?_
    refine j_iconst C (v := (nI 2)) dX12_ofWrong_10 (by decide) ?_
    refine j_callS (As := [.int what, .int (nI 0), .int (nI 2)]) (rest := []) C vw12_in (c_in) rfl (Nat.le_of_ble_eq_true rfl) dX12_ofWrong_11 (by decide) ?_
    rintro _ _ ⟨rfl, rfl⟩
    refine j_if_eq C 33 dX12_ofWrong_14 (by decide) (fun c14 => ?_) (fun c14 => ?_)
    · replace c14 := bI_f c14
      refine j_aload_n C 0 dX12_ofWrong_33 rfl ?_
      refine j_ldc C (-1000000001) dX12_ofWrong_34 kc12_55 ?_
      refine j_callV (As := [.int (-1000000001)]) (rest := []) C vw12_errs (c_errs 1 (by decide) (by decide)) rRcv rfl (Nat.le_of_ble_eq_true rfl) dX12_ofWrong_36 (by decide) ?_
      rintro _ _ ⟨rfl, rfl⟩
      refine j_iret C dX12_ofWrong_39 ?_
      unfold sp_ofWrong
      rw [if_neg (fun h => c14 h.2)]
      exact ⟨rfl, EQ.rf⟩
    · replace c14 := bI_t c14
      obtain ⟨xn, gxn, hxn, rfl⟩ := inn_lit c14 (by omega)
      refine j_aload_n C 0 dX12_ofWrong_17 rfl ?_
      refine rg C (v := .ref (q 0)) 0 (by decide) kf12_7 rfl dX12_ofWrong_18 ?_
      refine j_bipush C (v := (nI 66)) dX12_ofWrong_21 (by decide) ?_
      refine j_iconst C (v := (nI 3)) dX12_ofWrong_23 (by decide) ?_
      refine j_iload_n C 1 dX12_ofWrong_24 rfl ?_
      refine j_imulN C dX12_ofWrong_25 ?_
      refine j_iaddN C dX12_ofWrong_26 ?_
      refine j_iload_n C 2 dX12_ofWrong_27 rfl ?_
      refine j_iaddN C dX12_ofWrong_28 ?_
      refine rl_row C (66 + 3 * wn + xn) rfl (by omega) dX12_ofWrong_29 ?_
      refine j_goto C 39 dX12_ofWrong_30 (by decide) ?_
      refine j_iret C dX12_ofWrong_39 ?_
      unfold sp_ofWrong
      rw [if_pos ⟨c5, c14⟩]
      rw [tN_nI (by omega), tN_nI (by omega)]
      exact ⟨rfl, EQ.rf⟩
theorem dX12_forgive_0 : decode cX12_forgive 0 = .ok (.aload_n 0, 1) := by decide +kernel
theorem dX12_forgive_1 : decode cX12_forgive 1 = .ok (.iload_n 1, 1) := by decide +kernel
theorem dX12_forgive_2 : decode cX12_forgive 2 = .ok (.invokevirtual 96, 3) := by decide +kernel
theorem dX12_forgive_5 : decode cX12_forgive 5 = .ok (.ifCond .ne 10, 3) := by decide +kernel
theorem dX12_forgive_8 : decode cX12_forgive 8 = .ok (.aload_n 0, 1) := by decide +kernel
theorem dX12_forgive_9 : decode cX12_forgive 9 = .ok (.ldc 55, 2) := by decide +kernel
theorem dX12_forgive_11 : decode cX12_forgive 11 = .ok (.invokevirtual 56, 3) := by decide +kernel
theorem dX12_forgive_14 : decode cX12_forgive 14 = .ok (.ireturn, 1) := by decide +kernel
theorem dX12_forgive_15 : decode cX12_forgive 15 = .ok (.aload_n 0, 1) := by decide +kernel
theorem dX12_forgive_16 : decode cX12_forgive 16 = .ok (.getfield 7, 3) := by decide +kernel
theorem dX12_forgive_19 : decode cX12_forgive 19 = .ok (.bipush 8, 2) := by decide +kernel
theorem dX12_forgive_21 : decode cX12_forgive 21 = .ok (.dup2, 1) := by decide +kernel
theorem dX12_forgive_22 : decode cX12_forgive 22 = .ok (.iaload, 1) := by decide +kernel
theorem dX12_forgive_23 : decode cX12_forgive 23 = .ok (.iconst 1, 1) := by decide +kernel
theorem dX12_forgive_24 : decode cX12_forgive 24 = .ok (.isub, 1) := by decide +kernel
theorem dX12_forgive_25 : decode cX12_forgive 25 = .ok (.iastore, 1) := by decide +kernel
theorem dX12_forgive_26 : decode cX12_forgive 26 = .ok (.bipush 66, 2) := by decide +kernel
theorem dX12_forgive_28 : decode cX12_forgive 28 = .ok (.iconst 3, 1) := by decide +kernel
theorem dX12_forgive_29 : decode cX12_forgive 29 = .ok (.iload_n 1, 1) := by decide +kernel
theorem dX12_forgive_30 : decode cX12_forgive 30 = .ok (.imul, 1) := by decide +kernel
theorem dX12_forgive_31 : decode cX12_forgive 31 = .ok (.iadd, 1) := by decide +kernel
theorem dX12_forgive_32 : decode cX12_forgive 32 = .ok (.istore_n 2, 1) := by decide +kernel
theorem dX12_forgive_33 : decode cX12_forgive 33 = .ok (.iload_n 2, 1) := by decide +kernel
theorem dX12_forgive_34 : decode cX12_forgive 34 = .ok (.bipush 66, 2) := by decide +kernel
theorem dX12_forgive_36 : decode cX12_forgive 36 = .ok (.iconst 3, 1) := by decide +kernel
theorem dX12_forgive_37 : decode cX12_forgive 37 = .ok (.aload_n 0, 1) := by decide +kernel
theorem dX12_forgive_38 : decode cX12_forgive 38 = .ok (.getfield 7, 3) := by decide +kernel
theorem dX12_forgive_41 : decode cX12_forgive 41 = .ok (.bipush 8, 2) := by decide +kernel
theorem dX12_forgive_43 : decode cX12_forgive 43 = .ok (.iaload, 1) := by decide +kernel
theorem dX12_forgive_44 : decode cX12_forgive 44 = .ok (.imul, 1) := by decide +kernel
theorem dX12_forgive_45 : decode cX12_forgive 45 = .ok (.iadd, 1) := by decide +kernel
theorem dX12_forgive_46 : decode cX12_forgive 46 = .ok (.if_icmp .ge 23, 3) := by decide +kernel
theorem dX12_forgive_49 : decode cX12_forgive 49 = .ok (.aload_n 0, 1) := by decide +kernel
theorem dX12_forgive_50 : decode cX12_forgive 50 = .ok (.getfield 7, 3) := by decide +kernel
theorem dX12_forgive_53 : decode cX12_forgive 53 = .ok (.iload_n 2, 1) := by decide +kernel
theorem dX12_forgive_54 : decode cX12_forgive 54 = .ok (.aload_n 0, 1) := by decide +kernel
theorem dX12_forgive_55 : decode cX12_forgive 55 = .ok (.getfield 7, 3) := by decide +kernel
theorem dX12_forgive_58 : decode cX12_forgive 58 = .ok (.iload_n 2, 1) := by decide +kernel
theorem dX12_forgive_59 : decode cX12_forgive 59 = .ok (.iconst 3, 1) := by decide +kernel
theorem dX12_forgive_60 : decode cX12_forgive 60 = .ok (.iadd, 1) := by decide +kernel
theorem dX12_forgive_61 : decode cX12_forgive 61 = .ok (.iaload, 1) := by decide +kernel
theorem dX12_forgive_62 : decode cX12_forgive 62 = .ok (.iastore, 1) := by decide +kernel
theorem dX12_forgive_63 : decode cX12_forgive 63 = .ok (.iinc 2 1, 3) := by decide +kernel
theorem dX12_forgive_66 : decode cX12_forgive 66 = .ok (.goto (-33), 3) := by decide +kernel
theorem dX12_forgive_69 : decode cX12_forgive 69 = .ok (.aload_n 0, 1) := by decide +kernel
theorem dX12_forgive_70 : decode cX12_forgive 70 = .ok (.getfield 7, 3) := by decide +kernel
theorem dX12_forgive_73 : decode cX12_forgive 73 = .ok (.bipush 8, 2) := by decide +kernel
theorem dX12_forgive_75 : decode cX12_forgive 75 = .ok (.iaload, 1) := by decide +kernel
theorem dX12_forgive_76 : decode cX12_forgive 76 = .ok (.ireturn, 1) := by decide +kernel
set_option maxHeartbeats 2000000 in
set_option maxRecDepth 20000 in
theorem c_forgive {l : Launch} {D : va_G} {cI cG cW : ClassId} {o : Nat} {q : Nat → Nat} {V row kept tried bf fd pk bo so sh mv tr : Nat → Int32} {w : Int32} {nc np nw d nt nq : Nat} (hR : RKx row nc np nw d nt nq) : Ci l yX12_forgive cX12_forgive 3 (some .int) 3 D (tyL cI cG cW) (wR cI o q) [.ref o, .int w] (sR V row kept tried bf fd pk bo so sh mv tr) (fun r τ => r = (sp_forgive V row kept tried bf fd pk bo so sh mv tr w).1 ∧ EQ τ (sp_forgive V row kept tried bf fd pk bo so sh mv tr w).2) := by
  refine Ci.of (by decide) (Nat.le_of_ble_eq_true rfl) ?_
  intro p_ e_ s_ m_ b_ M_ c_ A_ C
  replace C : Cx _ _ _ _ _ _ _ _ RX12 _ _ _ _ := C
  refine j_L [0, 1] [(0, .ref o), (1, .int w)] rfl ?_
  obtain ⟨hI, hW, ⟨e0, hd⟩, ⟨e4, ht⟩, ⟨e5, hq⟩, hB⟩ := id hR
  obtain ⟨⟨e2, hc2, hc10⟩, ⟨e3, hn6⟩, ⟨e8, hw8⟩, hP, hE, hLo, hT0, hT1⟩ := id hI
  have hIc := hI
  refine j_aload_n C 0 dX12_forgive_0 rfl ?_
  refine j_iload_n C 1 dX12_forgive_1 rfl ?_
  refine j_callV (As := [.int w]) (rest := []) C vw12_isWrong (c_isWrong) rRcv rfl (Nat.le_of_ble_eq_true rfl) dX12_forgive_2 (by decide) ?_
  rintro _ _ ⟨rfl, rfl⟩
  refine j_if_ne C 15 dX12_forgive_5 (by decide) (fun c5 => ?_) (fun c5 => ?_)
  · replace c5 := bI_t c5
    obtain ⟨wn, hwn, rfl⟩ := inn_row c5 e8 (by omega)
    refine j_aload_n C 0 dX12_forgive_15 rfl ?_
    refine rg C (v := .ref (q 0)) 0 (by decide) kf12_7 rfl dX12_forgive_16 ?_
    refine j_bipush C (v := (nI 8)) dX12_forgive_19 (by decide) ?_
    refine j_dup2 C dX12_forgive_21 rfl rfl ?_
    refine rl_row C 8 rfl (by omega) dX12_forgive_22 ?_
    refine j_v (nI nw) e8 ?_
    refine j_iconst C (v := (nI 1)) dX12_forgive_23 (by decide) ?_
    refine j_isubN C (by omega) dX12_forgive_24 ?_
    refine rs_row C 8 rfl (by omega) dX12_forgive_25 ?_
    refine j_bipush C (v := (nI 66)) dX12_forgive_26 (by decide) ?_
    refine j_iconst C (v := (nI 3)) dX12_forgive_28 (by decide) ?_
    refine j_iload_n C 1 dX12_forgive_29 rfl ?_
    refine j_imulN C dX12_forgive_30 ?_
    refine j_iaddN C dX12_forgive_31 ?_
    refine j_istore_n C [(2, .int (nI (66 + 3 * wn))), (0, .ref o), (1, .int (nI wn))] dX12_forgive_32 (by decide) rfl ?_
    refine j_L [1, 2, 0] [(0, .ref o), (1, .int (nI wn)), (2, .int (nI (66 + 3 * wn)))] rfl ?_
    refine j_loop (X := Nat) (fun (i : Nat) => 66 + 3 * wn ≤ i ∧ i ≤ 66 + 3 * (nw - 1)) (fun (i : Nat) => 66 + 3 * (nw - 1) - i) (fun (i : Nat) => (sR V (forgG row wn i (nw - 1)) kept tried bf fd pk bo so sh mv tr)) (fun (i : Nat) => [(0, .ref o), (1, .int (nI wn)), (2, .int (nI i))]) (66 + 3 * wn) (⟨Nat.le_refl _, by omega⟩) (by rw [forgG_0 row wn]) rfl ?_
    rintro i hi ih
    try dsimp only at ih ⊢
    refine j_iload_n C 2 dX12_forgive_33 rfl ?_
    refine j_bipush C (v := (nI 66)) dX12_forgive_34 (by decide) ?_
    refine j_iconst C (v := (nI 3)) dX12_forgive_36 (by decide) ?_
    refine j_aload_n C 0 dX12_forgive_37 rfl ?_
    refine rg C (v := .ref (q 0)) 0 (by decide) kf12_7 rfl dX12_forgive_38 ?_
    refine j_bipush C (v := (nI 8)) dX12_forgive_41 (by decide) ?_
    refine rl_row C 8 rfl (by omega) dX12_forgive_43 ?_
    refine j_v (nI (nw - 1)) (forgG_8 _ _ _ _) ?_
    refine j_imulN C dX12_forgive_44 ?_
    refine j_iaddN C dX12_forgive_45 ?_
    refine j_icmp_ge C 69 dX12_forgive_46 (by decide) (fun c46 => ?_) (fun c46 => ?_)
    · rw [nI_leI (by omega) (by omega)] at c46
      obtain rfl : i = 66 + 3 * (nw - 1) := by omega
      refine j_aload_n C 0 dX12_forgive_69 rfl ?_
      refine rg C (v := .ref (q 0)) 0 (by decide) kf12_7 rfl dX12_forgive_70 ?_
      refine j_bipush C (v := (nI 8)) dX12_forgive_73 (by decide) ?_
      refine rl_row C 8 rfl (by omega) dX12_forgive_75 ?_
      refine j_v (nI (nw - 1)) (forgG_8 _ _ _ _) ?_
      refine j_iret C dX12_forgive_76 ?_
      unfold sp_forgive
      rw [if_pos c5]
      rw [e8, tN_nI (by omega), tN_nI (by omega), pk_sub (by omega), ← forgG_F e8 (by omega)]
      exact ⟨rfl, EQ.rf⟩
    · rw [nI_leI (by omega) (by omega)] at c46
      refine j_aload_n C 0 dX12_forgive_49 rfl ?_
      refine rg C (v := .ref (q 0)) 0 (by decide) kf12_7 rfl dX12_forgive_50 ?_
      refine j_iload_n C 2 dX12_forgive_53 rfl ?_
      refine j_aload_n C 0 dX12_forgive_54 rfl ?_
      refine rg C (v := .ref (q 0)) 0 (by decide) kf12_7 rfl dX12_forgive_55 ?_
      refine j_iload_n C 2 dX12_forgive_58 rfl ?_
      refine j_iconst C (v := (nI 3)) dX12_forgive_59 (by decide) ?_
      refine j_iaddN C dX12_forgive_60 ?_
      refine rl_row C (i + 3) rfl (by omega) dX12_forgive_61 ?_
      refine rs_row C i rfl (by omega) dX12_forgive_62 ?_
      refine j_iinc C (v := (nI (i + 1))) 2 [(2, .int (nI (i + 1))), (0, .ref o), (1, .int (nI wn))] dX12_forgive_63 rfl (nI_1 _) (by decide) rfl ?_
      refine j_goto C 33 dX12_forgive_66 (by decide) ?_
      refine j_L [1, 2, 0] [(0, .ref o), (1, .int (nI wn)), (2, .int (nI (i + 1)))] rfl ?_
      rw [forgG_s row hi.1]
      exact ih (i + 1) (by omega) (by omega)
  · replace c5 := bI_f c5
    refine j_aload_n C 0 dX12_forgive_8 rfl ?_
    refine j_ldc C (-1000000001) dX12_forgive_9 kc12_55 ?_
    refine j_callV (As := [.int (-1000000001)]) (rest := []) C vw12_errs (c_errs 1 (by decide) (by decide)) rRcv rfl (Nat.le_of_ble_eq_true rfl) dX12_forgive_11 (by decide) ?_
    rintro _ _ ⟨rfl, rfl⟩
    refine j_iret C dX12_forgive_14 ?_
    unfold sp_forgive
    rw [if_neg (fun h => c5 h)]
    exact ⟨rfl, EQ.rf⟩
theorem dX12_borrow_0 : decode cX12_borrow 0 = .ok (.aload_n 0, 1) := by decide +kernel
theorem dX12_borrow_1 : decode cX12_borrow 1 = .ok (.iload_n 1, 1) := by decide +kernel
theorem dX12_borrow_2 : decode cX12_borrow 2 = .ok (.invokevirtual 96, 3) := by decide +kernel
theorem dX12_borrow_5 : decode cX12_borrow 5 = .ok (.ifCond .eq 28, 3) := by decide +kernel
theorem dX12_borrow_8 : decode cX12_borrow 8 = .ok (.aload_n 0, 1) := by decide +kernel
theorem dX12_borrow_9 : decode cX12_borrow 9 = .ok (.iload_n 2, 1) := by decide +kernel
theorem dX12_borrow_10 : decode cX12_borrow 10 = .ok (.invokevirtual 80, 3) := by decide +kernel
theorem dX12_borrow_13 : decode cX12_borrow 13 = .ok (.ifCond .eq 20, 3) := by decide +kernel
theorem dX12_borrow_16 : decode cX12_borrow 16 = .ok (.aload_n 0, 1) := by decide +kernel
theorem dX12_borrow_17 : decode cX12_borrow 17 = .ok (.getfield 7, 3) := by decide +kernel
theorem dX12_borrow_20 : decode cX12_borrow 20 = .ok (.bipush 66, 2) := by decide +kernel
theorem dX12_borrow_22 : decode cX12_borrow 22 = .ok (.iconst 3, 1) := by decide +kernel
theorem dX12_borrow_23 : decode cX12_borrow 23 = .ok (.iload_n 1, 1) := by decide +kernel
theorem dX12_borrow_24 : decode cX12_borrow 24 = .ok (.imul, 1) := by decide +kernel
theorem dX12_borrow_25 : decode cX12_borrow 25 = .ok (.iadd, 1) := by decide +kernel
theorem dX12_borrow_26 : decode cX12_borrow 26 = .ok (.iconst 1, 1) := by decide +kernel
theorem dX12_borrow_27 : decode cX12_borrow 27 = .ok (.iadd, 1) := by decide +kernel
theorem dX12_borrow_28 : decode cX12_borrow 28 = .ok (.iaload, 1) := by decide +kernel
theorem dX12_borrow_29 : decode cX12_borrow 29 = .ok (.iload_n 2, 1) := by decide +kernel
theorem dX12_borrow_30 : decode cX12_borrow 30 = .ok (.if_icmp .ne 10, 3) := by decide +kernel
theorem dX12_borrow_33 : decode cX12_borrow 33 = .ok (.aload_n 0, 1) := by decide +kernel
theorem dX12_borrow_34 : decode cX12_borrow 34 = .ok (.ldc 55, 2) := by decide +kernel
theorem dX12_borrow_36 : decode cX12_borrow 36 = .ok (.invokevirtual 56, 3) := by decide +kernel
theorem dX12_borrow_39 : decode cX12_borrow 39 = .ok (.ireturn, 1) := by decide +kernel
theorem dX12_borrow_40 : decode cX12_borrow 40 = .ok (.aload_n 0, 1) := by decide +kernel
theorem dX12_borrow_41 : decode cX12_borrow 41 = .ok (.bipush 66, 2) := by decide +kernel
theorem dX12_borrow_43 : decode cX12_borrow 43 = .ok (.iconst 3, 1) := by decide +kernel
theorem dX12_borrow_44 : decode cX12_borrow 44 = .ok (.iload_n 1, 1) := by decide +kernel
theorem dX12_borrow_45 : decode cX12_borrow 45 = .ok (.imul, 1) := by decide +kernel
theorem dX12_borrow_46 : decode cX12_borrow 46 = .ok (.iadd, 1) := by decide +kernel
theorem dX12_borrow_47 : decode cX12_borrow 47 = .ok (.iload_n 2, 1) := by decide +kernel
theorem dX12_borrow_48 : decode cX12_borrow 48 = .ok (.invokevirtual 61, 3) := by decide +kernel
theorem dX12_borrow_51 : decode cX12_borrow 51 = .ok (.ireturn, 1) := by decide +kernel
set_option maxHeartbeats 2000000 in
set_option maxRecDepth 20000 in
theorem c_borrow {l : Launch} {D : va_G} {cI cG cW : ClassId} {o : Nat} {q : Nat → Nat} {V row kept tried bf fd pk bo so sh mv tr : Nat → Int32} {w b : Int32} {nc np nw d nt nq : Nat} (hR : RKx row nc np nw d nt nq) : Ci l yX12_borrow cX12_borrow 3 (some .int) 3 D (tyL cI cG cW) (wR cI o q) [.ref o, .int w, .int b] (sR V row kept tried bf fd pk bo so sh mv tr) (fun r τ => r = (sp_borrow V row kept tried bf fd pk bo so sh mv tr w b).1 ∧ EQ τ (sp_borrow V row kept tried bf fd pk bo so sh mv tr w b).2) := by
  refine Ci.of (by decide) (Nat.le_of_ble_eq_true rfl) ?_
  intro p_ e_ s_ m_ b_ M_ c_ A_ C
  replace C : Cx _ _ _ _ _ _ _ _ RX12 _ _ _ _ := C
  refine j_L [0, 1, 2] [(0, .ref o), (1, .int w), (2, .int b)] rfl ?_
  obtain ⟨hI, hW, ⟨e0, hd⟩, ⟨e4, ht⟩, ⟨e5, hq⟩, hB⟩ := id hR
  obtain ⟨⟨e2, hc2, hc10⟩, ⟨e3, hn6⟩, ⟨e8, hw8⟩, hP, hE, hLo, hT0, hT1⟩ := id hI
  have hIc := hI
  refine j_aload_n C 0 dX12_borrow_0 rfl ?_
  refine j_iload_n C 1 dX12_borrow_1 rfl ?_
  refine j_callV (As := [.int w]) (rest := []) C vw12_isWrong (c_isWrong) rRcv rfl (Nat.le_of_ble_eq_true rfl) dX12_borrow_2 (by decide) ?_
  rintro _ _ ⟨rfl, rfl⟩
  refine j_if_eq C 33 dX12_borrow_5 (by decide) (fun c5 => ?_) (fun c5 => ?_)
  · replace c5 := bI_f c5
    refine j_aload_n C 0 dX12_borrow_33 rfl ?_
    refine j_ldc C (-1000000001) dX12_borrow_34 kc12_55 ?_
    refine j_callV (As := [.int (-1000000001)]) (rest := []) C vw12_errs (c_errs 1 (by decide) (by decide)) rRcv rfl (Nat.le_of_ble_eq_true rfl) dX12_borrow_36 (by decide) ?_
    rintro _ _ ⟨rfl, rfl⟩
    refine j_iret C dX12_borrow_39 ?_
    unfold sp_borrow
    rw [if_neg (fun h => c5 h.1)]
    exact ⟨rfl, EQ.rf⟩
  · replace c5 := bI_t c5
    obtain ⟨wn, hwn, rfl⟩ := inn_row c5 e8 (by omega)
    refine j_aload_n C 0 dX12_borrow_8 rfl ?_
    refine j_iload_n C 2 dX12_borrow_9 rfl ?_
    refine j_callV (As := [.int b]) (rest := []) C vw12_isPerson (c_isPerson) rRcv rfl (Nat.le_of_ble_eq_true rfl) dX12_borrow_10 (by decide) ?_
    rintro _ _ ⟨rfl, rfl⟩
    refine j_if_eq C 33 dX12_borrow_13 (by decide) (fun c13 => ?_) (fun c13 => ?_)
    · replace c13 := bI_f c13
      refine j_aload_n C 0 dX12_borrow_33 rfl ?_
      refine j_ldc C (-1000000001) dX12_borrow_34 kc12_55 ?_
      refine j_callV (As := [.int (-1000000001)]) (rest := []) C vw12_errs (c_errs 1 (by decide) (by decide)) rRcv rfl (Nat.le_of_ble_eq_true rfl) dX12_borrow_36 (by decide) ?_
      rintro _ _ ⟨rfl, rfl⟩
      refine j_iret C dX12_borrow_39 ?_
      unfold sp_borrow
      rw [tN_nI (by omega)]
      rw [if_neg (fun h => c13 h.2.1)]
      exact ⟨rfl, EQ.rf⟩
    · replace c13 := bI_t c13
      refine j_aload_n C 0 dX12_borrow_16 rfl ?_
      refine rg C (v := .ref (q 0)) 0 (by decide) kf12_7 rfl dX12_borrow_17 ?_
      refine j_bipush C (v := (nI 66)) dX12_borrow_20 (by decide) ?_
      refine j_iconst C (v := (nI 3)) dX12_borrow_22 (by decide) ?_
      refine j_iload_n C 1 dX12_borrow_23 rfl ?_
      refine j_imulN C dX12_borrow_24 ?_
      refine j_iaddN C dX12_borrow_25 ?_
      refine j_iconst C (v := (nI 1)) dX12_borrow_26 (by decide) ?_
      refine j_iaddN C dX12_borrow_27 ?_
      refine rl_row C (66 + 3 * wn + 1) rfl (by omega) dX12_borrow_28 ?_
      refine j_iload_n C 2 dX12_borrow_29 rfl ?_
      refine j_icmp_ne C 40 dX12_borrow_30 (by decide) (fun c30 => ?_) (fun c30 => ?_)
      · skip
        refine j_aload_n C 0 dX12_borrow_40 rfl ?_
        refine j_bipush C (v := (nI 66)) dX12_borrow_41 (by decide) ?_
        refine j_iconst C (v := (nI 3)) dX12_borrow_43 (by decide) ?_
        refine j_iload_n C 1 dX12_borrow_44 rfl ?_
        refine j_imulN C dX12_borrow_45 ?_
        refine j_iaddN C dX12_borrow_46 ?_
        refine j_iload_n C 2 dX12_borrow_47 rfl ?_
        refine j_callV (As := [.int (nI (66 + 3 * wn)), .int b]) (rest := []) C vw12_becomes (c_becomes (66 + 3 * wn) (by omega)) rRcv rfl (Nat.le_of_ble_eq_true rfl) dX12_borrow_48 (by decide) ?_
        rintro _ _ ⟨rfl, rfl⟩
        refine j_iret C dX12_borrow_51 ?_
        unfold sp_borrow
        rw [tN_nI (by omega)]
        rw [if_pos ⟨c5, c13, c30⟩]
        exact ⟨rfl, EQ.rf⟩
      · skip
        refine j_aload_n C 0 dX12_borrow_33 rfl ?_
        refine j_ldc C (-1000000001) dX12_borrow_34 kc12_55 ?_
        refine j_callV (As := [.int (-1000000001)]) (rest := []) C vw12_errs (c_errs 1 (by decide) (by decide)) rRcv rfl (Nat.le_of_ble_eq_true rfl) dX12_borrow_36 (by decide) ?_
        rintro _ _ ⟨rfl, rfl⟩
        refine j_iret C dX12_borrow_39 ?_
        unfold sp_borrow
        rw [tN_nI (by omega)]
        rw [if_neg (fun h => h.2.2 c30)]
        exact ⟨rfl, EQ.rf⟩
theorem dX12_above_0 : decode cX12_above 0 = .ok (.iload_n 0, 1) := by decide +kernel
theorem dX12_above_1 : decode cX12_above 1 = .ok (.ifCond .ne 7, 3) := by decide +kernel
theorem dX12_above_4 : decode cX12_above 4 = .ok (.iconst (-1), 1) := by decide +kernel
theorem dX12_above_5 : decode cX12_above 5 = .ok (.goto 15, 3) := by decide +kernel
theorem dX12_above_8 : decode cX12_above 8 = .ok (.iload_n 0, 1) := by decide +kernel
theorem dX12_above_9 : decode cX12_above 9 = .ok (.iconst 3, 1) := by decide +kernel
theorem dX12_above_10 : decode cX12_above 10 = .ok (.if_icmp .le 9, 3) := by decide +kernel
theorem dX12_above_13 : decode cX12_above 13 = .ok (.iload_n 0, 1) := by decide +kernel
theorem dX12_above_14 : decode cX12_above 14 = .ok (.iconst 3, 1) := by decide +kernel
theorem dX12_above_15 : decode cX12_above 15 = .ok (.isub, 1) := by decide +kernel
theorem dX12_above_16 : decode cX12_above 16 = .ok (.goto 4, 3) := by decide +kernel
theorem dX12_above_19 : decode cX12_above 19 = .ok (.iconst 0, 1) := by decide +kernel
theorem dX12_above_20 : decode cX12_above 20 = .ok (.ireturn, 1) := by decide +kernel
set_option maxHeartbeats 2000000 in
set_option maxRecDepth 20000 in
theorem c_above {l : Launch} {D : va_G} {cI cG cW : ClassId} {S : Type} {Wd : S → va_W} {σ : S} (k : Nat) (hk : k ≤ 6) : Ci l yX12_above cX12_above 1 (some .int) 0 D (tyL cI cG cW) Wd [.int (nI k)] σ (fun r τ => r = abF k ∧ τ = σ) := by
  refine Ci.of (by decide) (Nat.le_of_ble_eq_true rfl) ?_
  intro p_ e_ s_ m_ b_ M_ c_ A_ C
  replace C : Cx _ _ _ _ _ _ _ _ RX12 _ _ _ _ := C
  refine j_L [0] [(0, .int (nI k))] rfl ?_
  refine j_iload_n C 0 dX12_above_0 rfl ?_
  refine j_if_ne C 8 dX12_above_1 (by decide) (fun c1 => ?_) (fun c1 => ?_)
  · rw [show (0 : Int32) = nI 0 from rfl, nI_eq (by omega) (by omega)] at c1
    refine j_iload_n C 0 dX12_above_8 rfl ?_
    refine j_iconst C (v := (nI 3)) dX12_above_9 (by decide) ?_
    refine j_icmp_le C 19 dX12_above_10 (by decide) (fun c10 => ?_) (fun c10 => ?_)
    · rw [nI_leI (by omega) (by omega)] at c10
      refine j_iconst C (v := (nI 0)) dX12_above_19 (by decide) ?_
      refine j_iret C dX12_above_20 ?_
      refine ⟨?_, rfl⟩
      unfold abF
      rw [if_neg (by omega), if_neg (by omega)]
    · rw [nI_leI (by omega) (by omega)] at c10
      refine j_iload_n C 0 dX12_above_13 rfl ?_
      refine j_iconst C (v := (nI 3)) dX12_above_14 (by decide) ?_
      refine j_isub C dX12_above_15 ?_
      refine j_goto C 20 dX12_above_16 (by decide) ?_
      refine j_iret C dX12_above_20 ?_
      refine ⟨?_, rfl⟩
      unfold abF
      rw [if_neg (by omega), if_pos (by omega), ← pk_sub (by omega)]
  · rw [show (0 : Int32) = nI 0 from rfl, nI_eq (by omega) (by omega)] at c1
    refine j_iconst C (v := (-1)) dX12_above_4 (by decide) ?_
    refine j_goto C 20 dX12_above_5 (by decide) ?_
    refine j_iret C dX12_above_20 ?_
    refine ⟨?_, rfl⟩
    unfold abF
    rw [if_pos (by omega)]
def sp_as (V row kept tried bf fd pk bo so sh mv tr : Nat → Int32) (p kind : Int32) : Int32 × RS := if inn p 0 (row 3 - 1) ∧ inn kind (nI 0) (nI 6) then (if undF (tN (row (30 + 6 * tN p + 0))) (tN kind) then (row (30 + 6 * tN p + 1), sR V row kept tried bf fd pk bo so sh mv tr) else er V row kept tried bf fd pk bo so sh mv tr (-1000000005) 5) else er V row kept tried bf fd pk bo so sh mv tr (-1000000001) 1
theorem dX12_as_0 : decode cX12_as 0 = .ok (.aload_n 0, 1) := by decide +kernel
theorem dX12_as_1 : decode cX12_as 1 = .ok (.iload_n 1, 1) := by decide +kernel
theorem dX12_as_2 : decode cX12_as 2 = .ok (.invokevirtual 80, 3) := by decide +kernel
theorem dX12_as_5 : decode cX12_as 5 = .ok (.ifCond .eq 13, 3) := by decide +kernel
theorem dX12_as_8 : decode cX12_as 8 = .ok (.iload_n 2, 1) := by decide +kernel
theorem dX12_as_9 : decode cX12_as 9 = .ok (.iconst 0, 1) := by decide +kernel
theorem dX12_as_10 : decode cX12_as 10 = .ok (.bipush 6, 2) := by decide +kernel
theorem dX12_as_12 : decode cX12_as 12 = .ok (.invokestatic 51, 3) := by decide +kernel
theorem dX12_as_15 : decode cX12_as 15 = .ok (.ifCond .ne 10, 3) := by decide +kernel
theorem dX12_as_18 : decode cX12_as 18 = .ok (.aload_n 0, 1) := by decide +kernel
theorem dX12_as_19 : decode cX12_as 19 = .ok (.ldc 55, 2) := by decide +kernel
theorem dX12_as_21 : decode cX12_as 21 = .ok (.invokevirtual 56, 3) := by decide +kernel
theorem dX12_as_24 : decode cX12_as 24 = .ok (.ireturn, 1) := by decide +kernel
theorem dX12_as_25 : decode cX12_as 25 = .ok (.aload_n 0, 1) := by decide +kernel
theorem dX12_as_26 : decode cX12_as 26 = .ok (.iload_n 1, 1) := by decide +kernel
theorem dX12_as_27 : decode cX12_as 27 = .ok (.iconst 0, 1) := by decide +kernel
theorem dX12_as_28 : decode cX12_as 28 = .ok (.invokevirtual 69, 3) := by decide +kernel
theorem dX12_as_31 : decode cX12_as 31 = .ok (.istore_n 3, 1) := by decide +kernel
theorem dX12_as_32 : decode cX12_as 32 = .ok (.iload_n 3, 1) := by decide +kernel
theorem dX12_as_33 : decode cX12_as 33 = .ok (.ifCond .lt 16, 3) := by decide +kernel
theorem dX12_as_36 : decode cX12_as 36 = .ok (.iload_n 3, 1) := by decide +kernel
theorem dX12_as_37 : decode cX12_as 37 = .ok (.iload_n 2, 1) := by decide +kernel
theorem dX12_as_38 : decode cX12_as 38 = .ok (.if_icmp .eq 11, 3) := by decide +kernel
theorem dX12_as_41 : decode cX12_as 41 = .ok (.iload_n 3, 1) := by decide +kernel
theorem dX12_as_42 : decode cX12_as 42 = .ok (.invokestatic 92, 3) := by decide +kernel
theorem dX12_as_45 : decode cX12_as 45 = .ok (.istore_n 3, 1) := by decide +kernel
theorem dX12_as_46 : decode cX12_as 46 = .ok (.goto (-14), 3) := by decide +kernel
theorem dX12_as_49 : decode cX12_as 49 = .ok (.iload_n 3, 1) := by decide +kernel
theorem dX12_as_50 : decode cX12_as 50 = .ok (.ifCond .ge 12, 3) := by decide +kernel
theorem dX12_as_53 : decode cX12_as 53 = .ok (.aload_n 0, 1) := by decide +kernel
theorem dX12_as_54 : decode cX12_as 54 = .ok (.ldc 95, 2) := by decide +kernel
theorem dX12_as_56 : decode cX12_as 56 = .ok (.invokevirtual 56, 3) := by decide +kernel
theorem dX12_as_59 : decode cX12_as 59 = .ok (.goto 9, 3) := by decide +kernel
theorem dX12_as_62 : decode cX12_as 62 = .ok (.aload_n 0, 1) := by decide +kernel
theorem dX12_as_63 : decode cX12_as 63 = .ok (.iload_n 1, 1) := by decide +kernel
theorem dX12_as_64 : decode cX12_as 64 = .ok (.iconst 1, 1) := by decide +kernel
theorem dX12_as_65 : decode cX12_as 65 = .ok (.invokevirtual 69, 3) := by decide +kernel
theorem dX12_as_68 : decode cX12_as 68 = .ok (.ireturn, 1) := by decide +kernel
set_option maxHeartbeats 2000000 in
set_option maxRecDepth 20000 in
theorem c_as {l : Launch} {D : va_G} {cI cG cW : ClassId} {o : Nat} {q : Nat → Nat} {V row kept tried bf fd pk bo so sh mv tr : Nat → Int32} {p kind : Int32} {nc np nw d nt nq : Nat} (hR : RKx row nc np nw d nt nq) : Ci l yX12_as cX12_as 4 (some .int) 3 D (tyL cI cG cW) (wR cI o q) [.ref o, .int p, .int kind] (sR V row kept tried bf fd pk bo so sh mv tr) (fun r τ => r = (sp_as V row kept tried bf fd pk bo so sh mv tr p kind).1 ∧ EQ τ (sp_as V row kept tried bf fd pk bo so sh mv tr p kind).2) := by
  refine Ci.of (by decide) (Nat.le_of_ble_eq_true rfl) ?_
  intro p_ e_ s_ m_ b_ M_ c_ A_ C
  replace C : Cx _ _ _ _ _ _ _ _ RX12 _ _ _ _ := C
  refine j_L [0, 1, 2] [(0, .ref o), (1, .int p), (2, .int kind)] rfl ?_
  obtain ⟨hI, hW, ⟨e0, hd⟩, ⟨e4, ht⟩, ⟨e5, hq⟩, hB⟩ := id hR
  obtain ⟨⟨e2, hc2, hc10⟩, ⟨e3, hn6⟩, ⟨e8, hw8⟩, hP, hE, hLo, hT0, hT1⟩ := id hI
  have hIc := hI
  refine j_aload_n C 0 dX12_as_0 rfl ?_
  refine j_iload_n C 1 dX12_as_1 rfl ?_
  refine j_callV (As := [.int p]) (rest := []) C vw12_isPerson (c_isPerson) rRcv rfl (Nat.le_of_ble_eq_true rfl) dX12_as_2 (by decide) ?_
  rintro _ _ ⟨rfl, rfl⟩
  refine j_if_eq C 18 dX12_as_5 (by decide) (fun c5 => ?_) (fun c5 => ?_)
  · replace c5 := bI_f c5
    refine j_aload_n C 0 dX12_as_18 rfl ?_
    refine j_ldc C (-1000000001) dX12_as_19 kc12_55 ?_
    refine j_callV (As := [.int (-1000000001)]) (rest := []) C vw12_errs (c_errs 1 (by decide) (by decide)) rRcv rfl (Nat.le_of_ble_eq_true rfl) dX12_as_21 (by decide) ?_
    rintro _ _ ⟨rfl, rfl⟩
    refine j_iret C dX12_as_24 ?_
    unfold sp_as
    rw [if_neg (fun h => c5 h.1)]
    exact ⟨rfl, EQ.rf⟩
  · replace c5 := bI_t c5
    obtain ⟨pn, hpn, rfl⟩ := inn_row c5 e3 (by omega)
    refine j_iload_n C 2 dX12_as_8 rfl ?_
    refine j_iconst C (v := (nI 0)) dX12_as_9 (by decide) ?_
    refine j_bipush C (v := (nI 6)) dX12_as_10 (by decide) ?_
    refine j_callS (As := [.int kind, .int (nI 0), .int (nI 6)]) (rest := []) C vw12_in (c_in) rfl (Nat.le_of_ble_eq_true rfl) dX12_as_12 (by decide) ?_
    rintro _ _ ⟨rfl, rfl⟩
    refine j_if_ne C 25 dX12_as_15 (by decide) (fun c15 => ?_) (fun c15 => ?_)
    · replace c15 := bI_t c15
      obtain ⟨kn, gkn, hkn, rfl⟩ := inn_lit c15 (by omega)
      obtain ⟨⟨k, hk, ek⟩, -⟩ := hP pn hpn
      refine j_aload_n C 0 dX12_as_25 rfl ?_
      refine j_iload_n C 1 dX12_as_26 rfl ?_
      refine j_iconst C (v := (nI 0)) dX12_as_27 (by decide) ?_
      refine j_callV (As := [.int (nI pn), .int (nI 0)]) (rest := []) C vw12_its (c_its pn 0 (by omega)) rRcv rfl (Nat.le_of_ble_eq_true rfl) dX12_as_28 (by decide) ?_
      rintro _ _ ⟨rfl, rfl⟩
      refine j_v (nI k) ek ?_
      rcases (show k = 0 ∨ k = 1 ∨ k = 2 ∨ k = 3 ∨ k = 4 ∨ k = 5 ∨ k = 6 by omega) with rfl | rfl | rfl | rfl | rfl | rfl | rfl
      · refine j_istore_n C [(3, .int (nI 0)), (0, .ref o), (1, .int (nI pn)), (2, .int (nI kn))] dX12_as_31 (by decide) rfl ?_
        refine j_iload_n C 0 dX12_as_32 rfl ?_
        refine j_if_lt C 49 dX12_as_33 (by decide) (fun c33 => ?_) (fun c33 => ?_)
        · rw [show (0 : Int32) = nI 0 from rfl, nI_ltI (by omega) (by omega)] at c33
          exfalso; omega
        · rw [show (0 : Int32) = nI 0 from rfl, nI_ltI (by omega) (by omega)] at c33
          refine j_iload_n C 0 dX12_as_36 rfl ?_
          refine j_iload_n C 3 dX12_as_37 rfl ?_
          refine j_icmp_eq C 49 dX12_as_38 (by decide) (fun c38 => ?_) (fun c38 => ?_)
          · rw [nI_eq (by omega) (by omega)] at c38
            refine j_iload_n C 0 dX12_as_49 rfl ?_
            refine j_if_ge C 62 dX12_as_50 (by decide) (fun c50 => ?_) (fun c50 => ?_)
            · rw [show (0 : Int32) = nI 0 from rfl, nI_leI (by omega) (by omega)] at c50
              refine j_aload_n C 1 dX12_as_62 rfl ?_
              refine j_iload_n C 2 dX12_as_63 rfl ?_
              refine j_iconst C (v := (nI 1)) dX12_as_64 (by decide) ?_
              refine j_callV (As := [.int (nI pn), .int (nI 1)]) (rest := []) C vw12_its (c_its pn 1 (by omega)) rRcv rfl (Nat.le_of_ble_eq_true rfl) dX12_as_65 (by decide) ?_
              rintro _ _ ⟨rfl, rfl⟩
              refine j_iret C dX12_as_68 ?_
              unfold sp_as
              rw [if_pos ⟨c5, c15⟩, tN_nI (n := pn) (by omega), ek, tN_nI (by decide), tN_nI (n := kn) (by omega), if_pos (by omega)]
              exact ⟨rfl, EQ.rf⟩
            · rw [show (0 : Int32) = nI 0 from rfl, nI_leI (by omega) (by omega)] at c50
              exfalso; omega
          · rw [nI_eq (by omega) (by omega)] at c38
            refine j_iload_n C 0 dX12_as_41 rfl ?_
            refine j_callS (As := [.int (nI 0)]) (rest := []) C vw12_above (c_above 0 (by decide)) rfl (Nat.le_of_ble_eq_true rfl) dX12_as_42 (by decide) ?_
            rintro _ _ ⟨rfl, rfl⟩
            refine j_v (-1) (by decide) ?_
            refine j_istore_n C [(3, .int (-1)), (0, .ref o), (1, .int (nI pn)), (2, .int (nI kn))] dX12_as_45 (by decide) rfl ?_
            refine j_goto C 32 dX12_as_46 (by decide) ?_
            refine j_iload_n C 0 dX12_as_32 rfl ?_
            refine j_if_lt C 49 dX12_as_33 (by decide) (fun c33 => ?_) (fun c33 => ?_)
            · skip
              refine j_iload_n C 0 dX12_as_49 rfl ?_
              refine j_if_ge C 62 dX12_as_50 (by decide) (fun c50 => ?_) (fun c50 => ?_)
              · skip
                exact absurd c50 (by decide)
              · skip
                refine j_aload_n C 1 dX12_as_53 rfl ?_
                refine j_ldc C (-1000000005) dX12_as_54 kc12_95 ?_
                refine j_callV (As := [.int (-1000000005)]) (rest := []) C vw12_errs (c_errs 5 (by decide) (by decide)) rRcv rfl (Nat.le_of_ble_eq_true rfl) dX12_as_56 (by decide) ?_
                rintro _ _ ⟨rfl, rfl⟩
                refine j_goto C 68 dX12_as_59 (by decide) ?_
                refine j_iret C dX12_as_68 ?_
                unfold sp_as
                rw [if_pos ⟨c5, c15⟩, tN_nI (n := pn) (by omega), ek, tN_nI (by decide), tN_nI (n := kn) (by omega), if_neg (by omega)]
                exact ⟨rfl, EQ.rf⟩
            · skip
              exact absurd (by decide) c33
      · refine j_istore_n C [(3, .int (nI 1)), (0, .ref o), (1, .int (nI pn)), (2, .int (nI kn))] dX12_as_31 (by decide) rfl ?_
        refine j_iload_n C 0 dX12_as_32 rfl ?_
        refine j_if_lt C 49 dX12_as_33 (by decide) (fun c33 => ?_) (fun c33 => ?_)
        · rw [show (0 : Int32) = nI 0 from rfl, nI_ltI (by omega) (by omega)] at c33
          exfalso; omega
        · rw [show (0 : Int32) = nI 0 from rfl, nI_ltI (by omega) (by omega)] at c33
          refine j_iload_n C 0 dX12_as_36 rfl ?_
          refine j_iload_n C 3 dX12_as_37 rfl ?_
          refine j_icmp_eq C 49 dX12_as_38 (by decide) (fun c38 => ?_) (fun c38 => ?_)
          · rw [nI_eq (by omega) (by omega)] at c38
            refine j_iload_n C 0 dX12_as_49 rfl ?_
            refine j_if_ge C 62 dX12_as_50 (by decide) (fun c50 => ?_) (fun c50 => ?_)
            · rw [show (0 : Int32) = nI 0 from rfl, nI_leI (by omega) (by omega)] at c50
              refine j_aload_n C 1 dX12_as_62 rfl ?_
              refine j_iload_n C 2 dX12_as_63 rfl ?_
              refine j_iconst C (v := (nI 1)) dX12_as_64 (by decide) ?_
              refine j_callV (As := [.int (nI pn), .int (nI 1)]) (rest := []) C vw12_its (c_its pn 1 (by omega)) rRcv rfl (Nat.le_of_ble_eq_true rfl) dX12_as_65 (by decide) ?_
              rintro _ _ ⟨rfl, rfl⟩
              refine j_iret C dX12_as_68 ?_
              unfold sp_as
              rw [if_pos ⟨c5, c15⟩, tN_nI (n := pn) (by omega), ek, tN_nI (by decide), tN_nI (n := kn) (by omega), if_pos (by omega)]
              exact ⟨rfl, EQ.rf⟩
            · rw [show (0 : Int32) = nI 0 from rfl, nI_leI (by omega) (by omega)] at c50
              exfalso; omega
          · rw [nI_eq (by omega) (by omega)] at c38
            refine j_iload_n C 0 dX12_as_41 rfl ?_
            refine j_callS (As := [.int (nI 1)]) (rest := []) C vw12_above (c_above 1 (by decide)) rfl (Nat.le_of_ble_eq_true rfl) dX12_as_42 (by decide) ?_
            rintro _ _ ⟨rfl, rfl⟩
            refine j_v (nI 0) (by decide) ?_
            refine j_istore_n C [(3, .int (nI 0)), (0, .ref o), (1, .int (nI pn)), (2, .int (nI kn))] dX12_as_45 (by decide) rfl ?_
            refine j_goto C 32 dX12_as_46 (by decide) ?_
            refine j_iload_n C 0 dX12_as_32 rfl ?_
            refine j_if_lt C 49 dX12_as_33 (by decide) (fun c33 => ?_) (fun c33 => ?_)
            · rw [show (0 : Int32) = nI 0 from rfl, nI_ltI (by omega) (by omega)] at c33
              exfalso; omega
            · rw [show (0 : Int32) = nI 0 from rfl, nI_ltI (by omega) (by omega)] at c33
              refine j_iload_n C 0 dX12_as_36 rfl ?_
              refine j_iload_n C 3 dX12_as_37 rfl ?_
              refine j_icmp_eq C 49 dX12_as_38 (by decide) (fun c38 => ?_) (fun c38 => ?_)
              · rw [nI_eq (by omega) (by omega)] at c38
                refine j_iload_n C 0 dX12_as_49 rfl ?_
                refine j_if_ge C 62 dX12_as_50 (by decide) (fun c50 => ?_) (fun c50 => ?_)
                · rw [show (0 : Int32) = nI 0 from rfl, nI_leI (by omega) (by omega)] at c50
                  refine j_aload_n C 1 dX12_as_62 rfl ?_
                  refine j_iload_n C 2 dX12_as_63 rfl ?_
                  refine j_iconst C (v := (nI 1)) dX12_as_64 (by decide) ?_
                  refine j_callV (As := [.int (nI pn), .int (nI 1)]) (rest := []) C vw12_its (c_its pn 1 (by omega)) rRcv rfl (Nat.le_of_ble_eq_true rfl) dX12_as_65 (by decide) ?_
                  rintro _ _ ⟨rfl, rfl⟩
                  refine j_iret C dX12_as_68 ?_
                  unfold sp_as
                  rw [if_pos ⟨c5, c15⟩, tN_nI (n := pn) (by omega), ek, tN_nI (by decide), tN_nI (n := kn) (by omega), if_pos (by omega)]
                  exact ⟨rfl, EQ.rf⟩
                · rw [show (0 : Int32) = nI 0 from rfl, nI_leI (by omega) (by omega)] at c50
                  exfalso; omega
              · rw [nI_eq (by omega) (by omega)] at c38
                refine j_iload_n C 0 dX12_as_41 rfl ?_
                refine j_callS (As := [.int (nI 0)]) (rest := []) C vw12_above (c_above 0 (by decide)) rfl (Nat.le_of_ble_eq_true rfl) dX12_as_42 (by decide) ?_
                rintro _ _ ⟨rfl, rfl⟩
                refine j_v (-1) (by decide) ?_
                refine j_istore_n C [(3, .int (-1)), (0, .ref o), (1, .int (nI pn)), (2, .int (nI kn))] dX12_as_45 (by decide) rfl ?_
                refine j_goto C 32 dX12_as_46 (by decide) ?_
                refine j_iload_n C 0 dX12_as_32 rfl ?_
                refine j_if_lt C 49 dX12_as_33 (by decide) (fun c33 => ?_) (fun c33 => ?_)
                · skip
                  refine j_iload_n C 0 dX12_as_49 rfl ?_
                  refine j_if_ge C 62 dX12_as_50 (by decide) (fun c50 => ?_) (fun c50 => ?_)
                  · skip
                    exact absurd c50 (by decide)
                  · skip
                    refine j_aload_n C 1 dX12_as_53 rfl ?_
                    refine j_ldc C (-1000000005) dX12_as_54 kc12_95 ?_
                    refine j_callV (As := [.int (-1000000005)]) (rest := []) C vw12_errs (c_errs 5 (by decide) (by decide)) rRcv rfl (Nat.le_of_ble_eq_true rfl) dX12_as_56 (by decide) ?_
                    rintro _ _ ⟨rfl, rfl⟩
                    refine j_goto C 68 dX12_as_59 (by decide) ?_
                    refine j_iret C dX12_as_68 ?_
                    unfold sp_as
                    rw [if_pos ⟨c5, c15⟩, tN_nI (n := pn) (by omega), ek, tN_nI (by decide), tN_nI (n := kn) (by omega), if_neg (by omega)]
                    exact ⟨rfl, EQ.rf⟩
                · skip
                  exact absurd (by decide) c33
      · refine j_istore_n C [(3, .int (nI 2)), (0, .ref o), (1, .int (nI pn)), (2, .int (nI kn))] dX12_as_31 (by decide) rfl ?_
        refine j_iload_n C 0 dX12_as_32 rfl ?_
        refine j_if_lt C 49 dX12_as_33 (by decide) (fun c33 => ?_) (fun c33 => ?_)
        · rw [show (0 : Int32) = nI 0 from rfl, nI_ltI (by omega) (by omega)] at c33
          exfalso; omega
        · rw [show (0 : Int32) = nI 0 from rfl, nI_ltI (by omega) (by omega)] at c33
          refine j_iload_n C 0 dX12_as_36 rfl ?_
          refine j_iload_n C 3 dX12_as_37 rfl ?_
          refine j_icmp_eq C 49 dX12_as_38 (by decide) (fun c38 => ?_) (fun c38 => ?_)
          · rw [nI_eq (by omega) (by omega)] at c38
            refine j_iload_n C 0 dX12_as_49 rfl ?_
            refine j_if_ge C 62 dX12_as_50 (by decide) (fun c50 => ?_) (fun c50 => ?_)
            · rw [show (0 : Int32) = nI 0 from rfl, nI_leI (by omega) (by omega)] at c50
              refine j_aload_n C 1 dX12_as_62 rfl ?_
              refine j_iload_n C 2 dX12_as_63 rfl ?_
              refine j_iconst C (v := (nI 1)) dX12_as_64 (by decide) ?_
              refine j_callV (As := [.int (nI pn), .int (nI 1)]) (rest := []) C vw12_its (c_its pn 1 (by omega)) rRcv rfl (Nat.le_of_ble_eq_true rfl) dX12_as_65 (by decide) ?_
              rintro _ _ ⟨rfl, rfl⟩
              refine j_iret C dX12_as_68 ?_
              unfold sp_as
              rw [if_pos ⟨c5, c15⟩, tN_nI (n := pn) (by omega), ek, tN_nI (by decide), tN_nI (n := kn) (by omega), if_pos (by omega)]
              exact ⟨rfl, EQ.rf⟩
            · rw [show (0 : Int32) = nI 0 from rfl, nI_leI (by omega) (by omega)] at c50
              exfalso; omega
          · rw [nI_eq (by omega) (by omega)] at c38
            refine j_iload_n C 0 dX12_as_41 rfl ?_
            refine j_callS (As := [.int (nI 2)]) (rest := []) C vw12_above (c_above 2 (by decide)) rfl (Nat.le_of_ble_eq_true rfl) dX12_as_42 (by decide) ?_
            rintro _ _ ⟨rfl, rfl⟩
            refine j_v (nI 0) (by decide) ?_
            refine j_istore_n C [(3, .int (nI 0)), (0, .ref o), (1, .int (nI pn)), (2, .int (nI kn))] dX12_as_45 (by decide) rfl ?_
            refine j_goto C 32 dX12_as_46 (by decide) ?_
            refine j_iload_n C 0 dX12_as_32 rfl ?_
            refine j_if_lt C 49 dX12_as_33 (by decide) (fun c33 => ?_) (fun c33 => ?_)
            · rw [show (0 : Int32) = nI 0 from rfl, nI_ltI (by omega) (by omega)] at c33
              exfalso; omega
            · rw [show (0 : Int32) = nI 0 from rfl, nI_ltI (by omega) (by omega)] at c33
              refine j_iload_n C 0 dX12_as_36 rfl ?_
              refine j_iload_n C 3 dX12_as_37 rfl ?_
              refine j_icmp_eq C 49 dX12_as_38 (by decide) (fun c38 => ?_) (fun c38 => ?_)
              · rw [nI_eq (by omega) (by omega)] at c38
                refine j_iload_n C 0 dX12_as_49 rfl ?_
                refine j_if_ge C 62 dX12_as_50 (by decide) (fun c50 => ?_) (fun c50 => ?_)
                · rw [show (0 : Int32) = nI 0 from rfl, nI_leI (by omega) (by omega)] at c50
                  refine j_aload_n C 1 dX12_as_62 rfl ?_
                  refine j_iload_n C 2 dX12_as_63 rfl ?_
                  refine j_iconst C (v := (nI 1)) dX12_as_64 (by decide) ?_
                  refine j_callV (As := [.int (nI pn), .int (nI 1)]) (rest := []) C vw12_its (c_its pn 1 (by omega)) rRcv rfl (Nat.le_of_ble_eq_true rfl) dX12_as_65 (by decide) ?_
                  rintro _ _ ⟨rfl, rfl⟩
                  refine j_iret C dX12_as_68 ?_
                  unfold sp_as
                  rw [if_pos ⟨c5, c15⟩, tN_nI (n := pn) (by omega), ek, tN_nI (by decide), tN_nI (n := kn) (by omega), if_pos (by omega)]
                  exact ⟨rfl, EQ.rf⟩
                · rw [show (0 : Int32) = nI 0 from rfl, nI_leI (by omega) (by omega)] at c50
                  exfalso; omega
              · rw [nI_eq (by omega) (by omega)] at c38
                refine j_iload_n C 0 dX12_as_41 rfl ?_
                refine j_callS (As := [.int (nI 0)]) (rest := []) C vw12_above (c_above 0 (by decide)) rfl (Nat.le_of_ble_eq_true rfl) dX12_as_42 (by decide) ?_
                rintro _ _ ⟨rfl, rfl⟩
                refine j_v (-1) (by decide) ?_
                refine j_istore_n C [(3, .int (-1)), (0, .ref o), (1, .int (nI pn)), (2, .int (nI kn))] dX12_as_45 (by decide) rfl ?_
                refine j_goto C 32 dX12_as_46 (by decide) ?_
                refine j_iload_n C 0 dX12_as_32 rfl ?_
                refine j_if_lt C 49 dX12_as_33 (by decide) (fun c33 => ?_) (fun c33 => ?_)
                · skip
                  refine j_iload_n C 0 dX12_as_49 rfl ?_
                  refine j_if_ge C 62 dX12_as_50 (by decide) (fun c50 => ?_) (fun c50 => ?_)
                  · skip
                    exact absurd c50 (by decide)
                  · skip
                    refine j_aload_n C 1 dX12_as_53 rfl ?_
                    refine j_ldc C (-1000000005) dX12_as_54 kc12_95 ?_
                    refine j_callV (As := [.int (-1000000005)]) (rest := []) C vw12_errs (c_errs 5 (by decide) (by decide)) rRcv rfl (Nat.le_of_ble_eq_true rfl) dX12_as_56 (by decide) ?_
                    rintro _ _ ⟨rfl, rfl⟩
                    refine j_goto C 68 dX12_as_59 (by decide) ?_
                    refine j_iret C dX12_as_68 ?_
                    unfold sp_as
                    rw [if_pos ⟨c5, c15⟩, tN_nI (n := pn) (by omega), ek, tN_nI (by decide), tN_nI (n := kn) (by omega), if_neg (by omega)]
                    exact ⟨rfl, EQ.rf⟩
                · skip
                  exact absurd (by decide) c33
      · refine j_istore_n C [(3, .int (nI 3)), (0, .ref o), (1, .int (nI pn)), (2, .int (nI kn))] dX12_as_31 (by decide) rfl ?_
        refine j_iload_n C 0 dX12_as_32 rfl ?_
        refine j_if_lt C 49 dX12_as_33 (by decide) (fun c33 => ?_) (fun c33 => ?_)
        · rw [show (0 : Int32) = nI 0 from rfl, nI_ltI (by omega) (by omega)] at c33
          exfalso; omega
        · rw [show (0 : Int32) = nI 0 from rfl, nI_ltI (by omega) (by omega)] at c33
          refine j_iload_n C 0 dX12_as_36 rfl ?_
          refine j_iload_n C 3 dX12_as_37 rfl ?_
          refine j_icmp_eq C 49 dX12_as_38 (by decide) (fun c38 => ?_) (fun c38 => ?_)
          · rw [nI_eq (by omega) (by omega)] at c38
            refine j_iload_n C 0 dX12_as_49 rfl ?_
            refine j_if_ge C 62 dX12_as_50 (by decide) (fun c50 => ?_) (fun c50 => ?_)
            · rw [show (0 : Int32) = nI 0 from rfl, nI_leI (by omega) (by omega)] at c50
              refine j_aload_n C 1 dX12_as_62 rfl ?_
              refine j_iload_n C 2 dX12_as_63 rfl ?_
              refine j_iconst C (v := (nI 1)) dX12_as_64 (by decide) ?_
              refine j_callV (As := [.int (nI pn), .int (nI 1)]) (rest := []) C vw12_its (c_its pn 1 (by omega)) rRcv rfl (Nat.le_of_ble_eq_true rfl) dX12_as_65 (by decide) ?_
              rintro _ _ ⟨rfl, rfl⟩
              refine j_iret C dX12_as_68 ?_
              unfold sp_as
              rw [if_pos ⟨c5, c15⟩, tN_nI (n := pn) (by omega), ek, tN_nI (by decide), tN_nI (n := kn) (by omega), if_pos (by omega)]
              exact ⟨rfl, EQ.rf⟩
            · rw [show (0 : Int32) = nI 0 from rfl, nI_leI (by omega) (by omega)] at c50
              exfalso; omega
          · rw [nI_eq (by omega) (by omega)] at c38
            refine j_iload_n C 0 dX12_as_41 rfl ?_
            refine j_callS (As := [.int (nI 3)]) (rest := []) C vw12_above (c_above 3 (by decide)) rfl (Nat.le_of_ble_eq_true rfl) dX12_as_42 (by decide) ?_
            rintro _ _ ⟨rfl, rfl⟩
            refine j_v (nI 0) (by decide) ?_
            refine j_istore_n C [(3, .int (nI 0)), (0, .ref o), (1, .int (nI pn)), (2, .int (nI kn))] dX12_as_45 (by decide) rfl ?_
            refine j_goto C 32 dX12_as_46 (by decide) ?_
            refine j_iload_n C 0 dX12_as_32 rfl ?_
            refine j_if_lt C 49 dX12_as_33 (by decide) (fun c33 => ?_) (fun c33 => ?_)
            · rw [show (0 : Int32) = nI 0 from rfl, nI_ltI (by omega) (by omega)] at c33
              exfalso; omega
            · rw [show (0 : Int32) = nI 0 from rfl, nI_ltI (by omega) (by omega)] at c33
              refine j_iload_n C 0 dX12_as_36 rfl ?_
              refine j_iload_n C 3 dX12_as_37 rfl ?_
              refine j_icmp_eq C 49 dX12_as_38 (by decide) (fun c38 => ?_) (fun c38 => ?_)
              · rw [nI_eq (by omega) (by omega)] at c38
                refine j_iload_n C 0 dX12_as_49 rfl ?_
                refine j_if_ge C 62 dX12_as_50 (by decide) (fun c50 => ?_) (fun c50 => ?_)
                · rw [show (0 : Int32) = nI 0 from rfl, nI_leI (by omega) (by omega)] at c50
                  refine j_aload_n C 1 dX12_as_62 rfl ?_
                  refine j_iload_n C 2 dX12_as_63 rfl ?_
                  refine j_iconst C (v := (nI 1)) dX12_as_64 (by decide) ?_
                  refine j_callV (As := [.int (nI pn), .int (nI 1)]) (rest := []) C vw12_its (c_its pn 1 (by omega)) rRcv rfl (Nat.le_of_ble_eq_true rfl) dX12_as_65 (by decide) ?_
                  rintro _ _ ⟨rfl, rfl⟩
                  refine j_iret C dX12_as_68 ?_
                  unfold sp_as
                  rw [if_pos ⟨c5, c15⟩, tN_nI (n := pn) (by omega), ek, tN_nI (by decide), tN_nI (n := kn) (by omega), if_pos (by omega)]
                  exact ⟨rfl, EQ.rf⟩
                · rw [show (0 : Int32) = nI 0 from rfl, nI_leI (by omega) (by omega)] at c50
                  exfalso; omega
              · rw [nI_eq (by omega) (by omega)] at c38
                refine j_iload_n C 0 dX12_as_41 rfl ?_
                refine j_callS (As := [.int (nI 0)]) (rest := []) C vw12_above (c_above 0 (by decide)) rfl (Nat.le_of_ble_eq_true rfl) dX12_as_42 (by decide) ?_
                rintro _ _ ⟨rfl, rfl⟩
                refine j_v (-1) (by decide) ?_
                refine j_istore_n C [(3, .int (-1)), (0, .ref o), (1, .int (nI pn)), (2, .int (nI kn))] dX12_as_45 (by decide) rfl ?_
                refine j_goto C 32 dX12_as_46 (by decide) ?_
                refine j_iload_n C 0 dX12_as_32 rfl ?_
                refine j_if_lt C 49 dX12_as_33 (by decide) (fun c33 => ?_) (fun c33 => ?_)
                · skip
                  refine j_iload_n C 0 dX12_as_49 rfl ?_
                  refine j_if_ge C 62 dX12_as_50 (by decide) (fun c50 => ?_) (fun c50 => ?_)
                  · skip
                    exact absurd c50 (by decide)
                  · skip
                    refine j_aload_n C 1 dX12_as_53 rfl ?_
                    refine j_ldc C (-1000000005) dX12_as_54 kc12_95 ?_
                    refine j_callV (As := [.int (-1000000005)]) (rest := []) C vw12_errs (c_errs 5 (by decide) (by decide)) rRcv rfl (Nat.le_of_ble_eq_true rfl) dX12_as_56 (by decide) ?_
                    rintro _ _ ⟨rfl, rfl⟩
                    refine j_goto C 68 dX12_as_59 (by decide) ?_
                    refine j_iret C dX12_as_68 ?_
                    unfold sp_as
                    rw [if_pos ⟨c5, c15⟩, tN_nI (n := pn) (by omega), ek, tN_nI (by decide), tN_nI (n := kn) (by omega), if_neg (by omega)]
                    exact ⟨rfl, EQ.rf⟩
                · skip
                  exact absurd (by decide) c33
      · refine j_istore_n C [(3, .int (nI 4)), (0, .ref o), (1, .int (nI pn)), (2, .int (nI kn))] dX12_as_31 (by decide) rfl ?_
        refine j_iload_n C 0 dX12_as_32 rfl ?_
        refine j_if_lt C 49 dX12_as_33 (by decide) (fun c33 => ?_) (fun c33 => ?_)
        · rw [show (0 : Int32) = nI 0 from rfl, nI_ltI (by omega) (by omega)] at c33
          exfalso; omega
        · rw [show (0 : Int32) = nI 0 from rfl, nI_ltI (by omega) (by omega)] at c33
          refine j_iload_n C 0 dX12_as_36 rfl ?_
          refine j_iload_n C 3 dX12_as_37 rfl ?_
          refine j_icmp_eq C 49 dX12_as_38 (by decide) (fun c38 => ?_) (fun c38 => ?_)
          · rw [nI_eq (by omega) (by omega)] at c38
            refine j_iload_n C 0 dX12_as_49 rfl ?_
            refine j_if_ge C 62 dX12_as_50 (by decide) (fun c50 => ?_) (fun c50 => ?_)
            · rw [show (0 : Int32) = nI 0 from rfl, nI_leI (by omega) (by omega)] at c50
              refine j_aload_n C 1 dX12_as_62 rfl ?_
              refine j_iload_n C 2 dX12_as_63 rfl ?_
              refine j_iconst C (v := (nI 1)) dX12_as_64 (by decide) ?_
              refine j_callV (As := [.int (nI pn), .int (nI 1)]) (rest := []) C vw12_its (c_its pn 1 (by omega)) rRcv rfl (Nat.le_of_ble_eq_true rfl) dX12_as_65 (by decide) ?_
              rintro _ _ ⟨rfl, rfl⟩
              refine j_iret C dX12_as_68 ?_
              unfold sp_as
              rw [if_pos ⟨c5, c15⟩, tN_nI (n := pn) (by omega), ek, tN_nI (by decide), tN_nI (n := kn) (by omega), if_pos (by omega)]
              exact ⟨rfl, EQ.rf⟩
            · rw [show (0 : Int32) = nI 0 from rfl, nI_leI (by omega) (by omega)] at c50
              exfalso; omega
          · rw [nI_eq (by omega) (by omega)] at c38
            refine j_iload_n C 0 dX12_as_41 rfl ?_
            refine j_callS (As := [.int (nI 4)]) (rest := []) C vw12_above (c_above 4 (by decide)) rfl (Nat.le_of_ble_eq_true rfl) dX12_as_42 (by decide) ?_
            rintro _ _ ⟨rfl, rfl⟩
            refine j_v (nI 1) (by decide) ?_
            refine j_istore_n C [(3, .int (nI 1)), (0, .ref o), (1, .int (nI pn)), (2, .int (nI kn))] dX12_as_45 (by decide) rfl ?_
            refine j_goto C 32 dX12_as_46 (by decide) ?_
            refine j_iload_n C 0 dX12_as_32 rfl ?_
            refine j_if_lt C 49 dX12_as_33 (by decide) (fun c33 => ?_) (fun c33 => ?_)
            · rw [show (0 : Int32) = nI 0 from rfl, nI_ltI (by omega) (by omega)] at c33
              exfalso; omega
            · rw [show (0 : Int32) = nI 0 from rfl, nI_ltI (by omega) (by omega)] at c33
              refine j_iload_n C 0 dX12_as_36 rfl ?_
              refine j_iload_n C 3 dX12_as_37 rfl ?_
              refine j_icmp_eq C 49 dX12_as_38 (by decide) (fun c38 => ?_) (fun c38 => ?_)
              · rw [nI_eq (by omega) (by omega)] at c38
                refine j_iload_n C 0 dX12_as_49 rfl ?_
                refine j_if_ge C 62 dX12_as_50 (by decide) (fun c50 => ?_) (fun c50 => ?_)
                · rw [show (0 : Int32) = nI 0 from rfl, nI_leI (by omega) (by omega)] at c50
                  refine j_aload_n C 1 dX12_as_62 rfl ?_
                  refine j_iload_n C 2 dX12_as_63 rfl ?_
                  refine j_iconst C (v := (nI 1)) dX12_as_64 (by decide) ?_
                  refine j_callV (As := [.int (nI pn), .int (nI 1)]) (rest := []) C vw12_its (c_its pn 1 (by omega)) rRcv rfl (Nat.le_of_ble_eq_true rfl) dX12_as_65 (by decide) ?_
                  rintro _ _ ⟨rfl, rfl⟩
                  refine j_iret C dX12_as_68 ?_
                  unfold sp_as
                  rw [if_pos ⟨c5, c15⟩, tN_nI (n := pn) (by omega), ek, tN_nI (by decide), tN_nI (n := kn) (by omega), if_pos (by omega)]
                  exact ⟨rfl, EQ.rf⟩
                · rw [show (0 : Int32) = nI 0 from rfl, nI_leI (by omega) (by omega)] at c50
                  exfalso; omega
              · rw [nI_eq (by omega) (by omega)] at c38
                refine j_iload_n C 0 dX12_as_41 rfl ?_
                refine j_callS (As := [.int (nI 1)]) (rest := []) C vw12_above (c_above 1 (by decide)) rfl (Nat.le_of_ble_eq_true rfl) dX12_as_42 (by decide) ?_
                rintro _ _ ⟨rfl, rfl⟩
                refine j_v (nI 0) (by decide) ?_
                refine j_istore_n C [(3, .int (nI 0)), (0, .ref o), (1, .int (nI pn)), (2, .int (nI kn))] dX12_as_45 (by decide) rfl ?_
                refine j_goto C 32 dX12_as_46 (by decide) ?_
                refine j_iload_n C 0 dX12_as_32 rfl ?_
                refine j_if_lt C 49 dX12_as_33 (by decide) (fun c33 => ?_) (fun c33 => ?_)
                · rw [show (0 : Int32) = nI 0 from rfl, nI_ltI (by omega) (by omega)] at c33
                  exfalso; omega
                · rw [show (0 : Int32) = nI 0 from rfl, nI_ltI (by omega) (by omega)] at c33
                  refine j_iload_n C 0 dX12_as_36 rfl ?_
                  refine j_iload_n C 3 dX12_as_37 rfl ?_
                  refine j_icmp_eq C 49 dX12_as_38 (by decide) (fun c38 => ?_) (fun c38 => ?_)
                  · rw [nI_eq (by omega) (by omega)] at c38
                    refine j_iload_n C 0 dX12_as_49 rfl ?_
                    refine j_if_ge C 62 dX12_as_50 (by decide) (fun c50 => ?_) (fun c50 => ?_)
                    · rw [show (0 : Int32) = nI 0 from rfl, nI_leI (by omega) (by omega)] at c50
                      refine j_aload_n C 1 dX12_as_62 rfl ?_
                      refine j_iload_n C 2 dX12_as_63 rfl ?_
                      refine j_iconst C (v := (nI 1)) dX12_as_64 (by decide) ?_
                      refine j_callV (As := [.int (nI pn), .int (nI 1)]) (rest := []) C vw12_its (c_its pn 1 (by omega)) rRcv rfl (Nat.le_of_ble_eq_true rfl) dX12_as_65 (by decide) ?_
                      rintro _ _ ⟨rfl, rfl⟩
                      refine j_iret C dX12_as_68 ?_
                      unfold sp_as
                      rw [if_pos ⟨c5, c15⟩, tN_nI (n := pn) (by omega), ek, tN_nI (by decide), tN_nI (n := kn) (by omega), if_pos (by omega)]
                      exact ⟨rfl, EQ.rf⟩
                    · rw [show (0 : Int32) = nI 0 from rfl, nI_leI (by omega) (by omega)] at c50
                      exfalso; omega
                  · rw [nI_eq (by omega) (by omega)] at c38
                    refine j_iload_n C 0 dX12_as_41 rfl ?_
                    refine j_callS (As := [.int (nI 0)]) (rest := []) C vw12_above (c_above 0 (by decide)) rfl (Nat.le_of_ble_eq_true rfl) dX12_as_42 (by decide) ?_
                    rintro _ _ ⟨rfl, rfl⟩
                    refine j_v (-1) (by decide) ?_
                    refine j_istore_n C [(3, .int (-1)), (0, .ref o), (1, .int (nI pn)), (2, .int (nI kn))] dX12_as_45 (by decide) rfl ?_
                    refine j_goto C 32 dX12_as_46 (by decide) ?_
                    refine j_iload_n C 0 dX12_as_32 rfl ?_
                    refine j_if_lt C 49 dX12_as_33 (by decide) (fun c33 => ?_) (fun c33 => ?_)
                    · skip
                      refine j_iload_n C 0 dX12_as_49 rfl ?_
                      refine j_if_ge C 62 dX12_as_50 (by decide) (fun c50 => ?_) (fun c50 => ?_)
                      · skip
                        exact absurd c50 (by decide)
                      · skip
                        refine j_aload_n C 1 dX12_as_53 rfl ?_
                        refine j_ldc C (-1000000005) dX12_as_54 kc12_95 ?_
                        refine j_callV (As := [.int (-1000000005)]) (rest := []) C vw12_errs (c_errs 5 (by decide) (by decide)) rRcv rfl (Nat.le_of_ble_eq_true rfl) dX12_as_56 (by decide) ?_
                        rintro _ _ ⟨rfl, rfl⟩
                        refine j_goto C 68 dX12_as_59 (by decide) ?_
                        refine j_iret C dX12_as_68 ?_
                        unfold sp_as
                        rw [if_pos ⟨c5, c15⟩, tN_nI (n := pn) (by omega), ek, tN_nI (by decide), tN_nI (n := kn) (by omega), if_neg (by omega)]
                        exact ⟨rfl, EQ.rf⟩
                    · skip
                      exact absurd (by decide) c33
      · refine j_istore_n C [(3, .int (nI 5)), (0, .ref o), (1, .int (nI pn)), (2, .int (nI kn))] dX12_as_31 (by decide) rfl ?_
        refine j_iload_n C 0 dX12_as_32 rfl ?_
        refine j_if_lt C 49 dX12_as_33 (by decide) (fun c33 => ?_) (fun c33 => ?_)
        · rw [show (0 : Int32) = nI 0 from rfl, nI_ltI (by omega) (by omega)] at c33
          exfalso; omega
        · rw [show (0 : Int32) = nI 0 from rfl, nI_ltI (by omega) (by omega)] at c33
          refine j_iload_n C 0 dX12_as_36 rfl ?_
          refine j_iload_n C 3 dX12_as_37 rfl ?_
          refine j_icmp_eq C 49 dX12_as_38 (by decide) (fun c38 => ?_) (fun c38 => ?_)
          · rw [nI_eq (by omega) (by omega)] at c38
            refine j_iload_n C 0 dX12_as_49 rfl ?_
            refine j_if_ge C 62 dX12_as_50 (by decide) (fun c50 => ?_) (fun c50 => ?_)
            · rw [show (0 : Int32) = nI 0 from rfl, nI_leI (by omega) (by omega)] at c50
              refine j_aload_n C 1 dX12_as_62 rfl ?_
              refine j_iload_n C 2 dX12_as_63 rfl ?_
              refine j_iconst C (v := (nI 1)) dX12_as_64 (by decide) ?_
              refine j_callV (As := [.int (nI pn), .int (nI 1)]) (rest := []) C vw12_its (c_its pn 1 (by omega)) rRcv rfl (Nat.le_of_ble_eq_true rfl) dX12_as_65 (by decide) ?_
              rintro _ _ ⟨rfl, rfl⟩
              refine j_iret C dX12_as_68 ?_
              unfold sp_as
              rw [if_pos ⟨c5, c15⟩, tN_nI (n := pn) (by omega), ek, tN_nI (by decide), tN_nI (n := kn) (by omega), if_pos (by omega)]
              exact ⟨rfl, EQ.rf⟩
            · rw [show (0 : Int32) = nI 0 from rfl, nI_leI (by omega) (by omega)] at c50
              exfalso; omega
          · rw [nI_eq (by omega) (by omega)] at c38
            refine j_iload_n C 0 dX12_as_41 rfl ?_
            refine j_callS (As := [.int (nI 5)]) (rest := []) C vw12_above (c_above 5 (by decide)) rfl (Nat.le_of_ble_eq_true rfl) dX12_as_42 (by decide) ?_
            rintro _ _ ⟨rfl, rfl⟩
            refine j_v (nI 2) (by decide) ?_
            refine j_istore_n C [(3, .int (nI 2)), (0, .ref o), (1, .int (nI pn)), (2, .int (nI kn))] dX12_as_45 (by decide) rfl ?_
            refine j_goto C 32 dX12_as_46 (by decide) ?_
            refine j_iload_n C 0 dX12_as_32 rfl ?_
            refine j_if_lt C 49 dX12_as_33 (by decide) (fun c33 => ?_) (fun c33 => ?_)
            · rw [show (0 : Int32) = nI 0 from rfl, nI_ltI (by omega) (by omega)] at c33
              exfalso; omega
            · rw [show (0 : Int32) = nI 0 from rfl, nI_ltI (by omega) (by omega)] at c33
              refine j_iload_n C 0 dX12_as_36 rfl ?_
              refine j_iload_n C 3 dX12_as_37 rfl ?_
              refine j_icmp_eq C 49 dX12_as_38 (by decide) (fun c38 => ?_) (fun c38 => ?_)
              · rw [nI_eq (by omega) (by omega)] at c38
                refine j_iload_n C 0 dX12_as_49 rfl ?_
                refine j_if_ge C 62 dX12_as_50 (by decide) (fun c50 => ?_) (fun c50 => ?_)
                · rw [show (0 : Int32) = nI 0 from rfl, nI_leI (by omega) (by omega)] at c50
                  refine j_aload_n C 1 dX12_as_62 rfl ?_
                  refine j_iload_n C 2 dX12_as_63 rfl ?_
                  refine j_iconst C (v := (nI 1)) dX12_as_64 (by decide) ?_
                  refine j_callV (As := [.int (nI pn), .int (nI 1)]) (rest := []) C vw12_its (c_its pn 1 (by omega)) rRcv rfl (Nat.le_of_ble_eq_true rfl) dX12_as_65 (by decide) ?_
                  rintro _ _ ⟨rfl, rfl⟩
                  refine j_iret C dX12_as_68 ?_
                  unfold sp_as
                  rw [if_pos ⟨c5, c15⟩, tN_nI (n := pn) (by omega), ek, tN_nI (by decide), tN_nI (n := kn) (by omega), if_pos (by omega)]
                  exact ⟨rfl, EQ.rf⟩
                · rw [show (0 : Int32) = nI 0 from rfl, nI_leI (by omega) (by omega)] at c50
                  exfalso; omega
              · rw [nI_eq (by omega) (by omega)] at c38
                refine j_iload_n C 0 dX12_as_41 rfl ?_
                refine j_callS (As := [.int (nI 2)]) (rest := []) C vw12_above (c_above 2 (by decide)) rfl (Nat.le_of_ble_eq_true rfl) dX12_as_42 (by decide) ?_
                rintro _ _ ⟨rfl, rfl⟩
                refine j_v (nI 0) (by decide) ?_
                refine j_istore_n C [(3, .int (nI 0)), (0, .ref o), (1, .int (nI pn)), (2, .int (nI kn))] dX12_as_45 (by decide) rfl ?_
                refine j_goto C 32 dX12_as_46 (by decide) ?_
                refine j_iload_n C 0 dX12_as_32 rfl ?_
                refine j_if_lt C 49 dX12_as_33 (by decide) (fun c33 => ?_) (fun c33 => ?_)
                · rw [show (0 : Int32) = nI 0 from rfl, nI_ltI (by omega) (by omega)] at c33
                  exfalso; omega
                · rw [show (0 : Int32) = nI 0 from rfl, nI_ltI (by omega) (by omega)] at c33
                  refine j_iload_n C 0 dX12_as_36 rfl ?_
                  refine j_iload_n C 3 dX12_as_37 rfl ?_
                  refine j_icmp_eq C 49 dX12_as_38 (by decide) (fun c38 => ?_) (fun c38 => ?_)
                  · rw [nI_eq (by omega) (by omega)] at c38
                    refine j_iload_n C 0 dX12_as_49 rfl ?_
                    refine j_if_ge C 62 dX12_as_50 (by decide) (fun c50 => ?_) (fun c50 => ?_)
                    · rw [show (0 : Int32) = nI 0 from rfl, nI_leI (by omega) (by omega)] at c50
                      refine j_aload_n C 1 dX12_as_62 rfl ?_
                      refine j_iload_n C 2 dX12_as_63 rfl ?_
                      refine j_iconst C (v := (nI 1)) dX12_as_64 (by decide) ?_
                      refine j_callV (As := [.int (nI pn), .int (nI 1)]) (rest := []) C vw12_its (c_its pn 1 (by omega)) rRcv rfl (Nat.le_of_ble_eq_true rfl) dX12_as_65 (by decide) ?_
                      rintro _ _ ⟨rfl, rfl⟩
                      refine j_iret C dX12_as_68 ?_
                      unfold sp_as
                      rw [if_pos ⟨c5, c15⟩, tN_nI (n := pn) (by omega), ek, tN_nI (by decide), tN_nI (n := kn) (by omega), if_pos (by omega)]
                      exact ⟨rfl, EQ.rf⟩
                    · rw [show (0 : Int32) = nI 0 from rfl, nI_leI (by omega) (by omega)] at c50
                      exfalso; omega
                  · rw [nI_eq (by omega) (by omega)] at c38
                    refine j_iload_n C 0 dX12_as_41 rfl ?_
                    refine j_callS (As := [.int (nI 0)]) (rest := []) C vw12_above (c_above 0 (by decide)) rfl (Nat.le_of_ble_eq_true rfl) dX12_as_42 (by decide) ?_
                    rintro _ _ ⟨rfl, rfl⟩
                    refine j_v (-1) (by decide) ?_
                    refine j_istore_n C [(3, .int (-1)), (0, .ref o), (1, .int (nI pn)), (2, .int (nI kn))] dX12_as_45 (by decide) rfl ?_
                    refine j_goto C 32 dX12_as_46 (by decide) ?_
                    refine j_iload_n C 0 dX12_as_32 rfl ?_
                    refine j_if_lt C 49 dX12_as_33 (by decide) (fun c33 => ?_) (fun c33 => ?_)
                    · skip
                      refine j_iload_n C 0 dX12_as_49 rfl ?_
                      refine j_if_ge C 62 dX12_as_50 (by decide) (fun c50 => ?_) (fun c50 => ?_)
                      · skip
                        exact absurd c50 (by decide)
                      · skip
                        refine j_aload_n C 1 dX12_as_53 rfl ?_
                        refine j_ldc C (-1000000005) dX12_as_54 kc12_95 ?_
                        refine j_callV (As := [.int (-1000000005)]) (rest := []) C vw12_errs (c_errs 5 (by decide) (by decide)) rRcv rfl (Nat.le_of_ble_eq_true rfl) dX12_as_56 (by decide) ?_
                        rintro _ _ ⟨rfl, rfl⟩
                        refine j_goto C 68 dX12_as_59 (by decide) ?_
                        refine j_iret C dX12_as_68 ?_
                        unfold sp_as
                        rw [if_pos ⟨c5, c15⟩, tN_nI (n := pn) (by omega), ek, tN_nI (by decide), tN_nI (n := kn) (by omega), if_neg (by omega)]
                        exact ⟨rfl, EQ.rf⟩
                    · skip
                      exact absurd (by decide) c33
      · refine j_istore_n C [(3, .int (nI 6)), (0, .ref o), (1, .int (nI pn)), (2, .int (nI kn))] dX12_as_31 (by decide) rfl ?_
        refine j_iload_n C 0 dX12_as_32 rfl ?_
        refine j_if_lt C 49 dX12_as_33 (by decide) (fun c33 => ?_) (fun c33 => ?_)
        · rw [show (0 : Int32) = nI 0 from rfl, nI_ltI (by omega) (by omega)] at c33
          exfalso; omega
        · rw [show (0 : Int32) = nI 0 from rfl, nI_ltI (by omega) (by omega)] at c33
          refine j_iload_n C 0 dX12_as_36 rfl ?_
          refine j_iload_n C 3 dX12_as_37 rfl ?_
          refine j_icmp_eq C 49 dX12_as_38 (by decide) (fun c38 => ?_) (fun c38 => ?_)
          · rw [nI_eq (by omega) (by omega)] at c38
            refine j_iload_n C 0 dX12_as_49 rfl ?_
            refine j_if_ge C 62 dX12_as_50 (by decide) (fun c50 => ?_) (fun c50 => ?_)
            · rw [show (0 : Int32) = nI 0 from rfl, nI_leI (by omega) (by omega)] at c50
              refine j_aload_n C 1 dX12_as_62 rfl ?_
              refine j_iload_n C 2 dX12_as_63 rfl ?_
              refine j_iconst C (v := (nI 1)) dX12_as_64 (by decide) ?_
              refine j_callV (As := [.int (nI pn), .int (nI 1)]) (rest := []) C vw12_its (c_its pn 1 (by omega)) rRcv rfl (Nat.le_of_ble_eq_true rfl) dX12_as_65 (by decide) ?_
              rintro _ _ ⟨rfl, rfl⟩
              refine j_iret C dX12_as_68 ?_
              unfold sp_as
              rw [if_pos ⟨c5, c15⟩, tN_nI (n := pn) (by omega), ek, tN_nI (by decide), tN_nI (n := kn) (by omega), if_pos (by omega)]
              exact ⟨rfl, EQ.rf⟩
            · rw [show (0 : Int32) = nI 0 from rfl, nI_leI (by omega) (by omega)] at c50
              exfalso; omega
          · rw [nI_eq (by omega) (by omega)] at c38
            refine j_iload_n C 0 dX12_as_41 rfl ?_
            refine j_callS (As := [.int (nI 6)]) (rest := []) C vw12_above (c_above 6 (by decide)) rfl (Nat.le_of_ble_eq_true rfl) dX12_as_42 (by decide) ?_
            rintro _ _ ⟨rfl, rfl⟩
            refine j_v (nI 3) (by decide) ?_
            refine j_istore_n C [(3, .int (nI 3)), (0, .ref o), (1, .int (nI pn)), (2, .int (nI kn))] dX12_as_45 (by decide) rfl ?_
            refine j_goto C 32 dX12_as_46 (by decide) ?_
            refine j_iload_n C 0 dX12_as_32 rfl ?_
            refine j_if_lt C 49 dX12_as_33 (by decide) (fun c33 => ?_) (fun c33 => ?_)
            · rw [show (0 : Int32) = nI 0 from rfl, nI_ltI (by omega) (by omega)] at c33
              exfalso; omega
            · rw [show (0 : Int32) = nI 0 from rfl, nI_ltI (by omega) (by omega)] at c33
              refine j_iload_n C 0 dX12_as_36 rfl ?_
              refine j_iload_n C 3 dX12_as_37 rfl ?_
              refine j_icmp_eq C 49 dX12_as_38 (by decide) (fun c38 => ?_) (fun c38 => ?_)
              · rw [nI_eq (by omega) (by omega)] at c38
                refine j_iload_n C 0 dX12_as_49 rfl ?_
                refine j_if_ge C 62 dX12_as_50 (by decide) (fun c50 => ?_) (fun c50 => ?_)
                · rw [show (0 : Int32) = nI 0 from rfl, nI_leI (by omega) (by omega)] at c50
                  refine j_aload_n C 1 dX12_as_62 rfl ?_
                  refine j_iload_n C 2 dX12_as_63 rfl ?_
                  refine j_iconst C (v := (nI 1)) dX12_as_64 (by decide) ?_
                  refine j_callV (As := [.int (nI pn), .int (nI 1)]) (rest := []) C vw12_its (c_its pn 1 (by omega)) rRcv rfl (Nat.le_of_ble_eq_true rfl) dX12_as_65 (by decide) ?_
                  rintro _ _ ⟨rfl, rfl⟩
                  refine j_iret C dX12_as_68 ?_
                  unfold sp_as
                  rw [if_pos ⟨c5, c15⟩, tN_nI (n := pn) (by omega), ek, tN_nI (by decide), tN_nI (n := kn) (by omega), if_pos (by omega)]
                  exact ⟨rfl, EQ.rf⟩
                · rw [show (0 : Int32) = nI 0 from rfl, nI_leI (by omega) (by omega)] at c50
                  exfalso; omega
              · rw [nI_eq (by omega) (by omega)] at c38
                refine j_iload_n C 0 dX12_as_41 rfl ?_
                refine j_callS (As := [.int (nI 3)]) (rest := []) C vw12_above (c_above 3 (by decide)) rfl (Nat.le_of_ble_eq_true rfl) dX12_as_42 (by decide) ?_
                rintro _ _ ⟨rfl, rfl⟩
                refine j_v (nI 0) (by decide) ?_
                refine j_istore_n C [(3, .int (nI 0)), (0, .ref o), (1, .int (nI pn)), (2, .int (nI kn))] dX12_as_45 (by decide) rfl ?_
                refine j_goto C 32 dX12_as_46 (by decide) ?_
                refine j_iload_n C 0 dX12_as_32 rfl ?_
                refine j_if_lt C 49 dX12_as_33 (by decide) (fun c33 => ?_) (fun c33 => ?_)
                · rw [show (0 : Int32) = nI 0 from rfl, nI_ltI (by omega) (by omega)] at c33
                  exfalso; omega
                · rw [show (0 : Int32) = nI 0 from rfl, nI_ltI (by omega) (by omega)] at c33
                  refine j_iload_n C 0 dX12_as_36 rfl ?_
                  refine j_iload_n C 3 dX12_as_37 rfl ?_
                  refine j_icmp_eq C 49 dX12_as_38 (by decide) (fun c38 => ?_) (fun c38 => ?_)
                  · rw [nI_eq (by omega) (by omega)] at c38
                    refine j_iload_n C 0 dX12_as_49 rfl ?_
                    refine j_if_ge C 62 dX12_as_50 (by decide) (fun c50 => ?_) (fun c50 => ?_)
                    · rw [show (0 : Int32) = nI 0 from rfl, nI_leI (by omega) (by omega)] at c50
                      refine j_aload_n C 1 dX12_as_62 rfl ?_
                      refine j_iload_n C 2 dX12_as_63 rfl ?_
                      refine j_iconst C (v := (nI 1)) dX12_as_64 (by decide) ?_
                      refine j_callV (As := [.int (nI pn), .int (nI 1)]) (rest := []) C vw12_its (c_its pn 1 (by omega)) rRcv rfl (Nat.le_of_ble_eq_true rfl) dX12_as_65 (by decide) ?_
                      rintro _ _ ⟨rfl, rfl⟩
                      refine j_iret C dX12_as_68 ?_
                      unfold sp_as
                      rw [if_pos ⟨c5, c15⟩, tN_nI (n := pn) (by omega), ek, tN_nI (by decide), tN_nI (n := kn) (by omega), if_pos (by omega)]
                      exact ⟨rfl, EQ.rf⟩
                    · rw [show (0 : Int32) = nI 0 from rfl, nI_leI (by omega) (by omega)] at c50
                      exfalso; omega
                  · rw [nI_eq (by omega) (by omega)] at c38
                    refine j_iload_n C 0 dX12_as_41 rfl ?_
                    refine j_callS (As := [.int (nI 0)]) (rest := []) C vw12_above (c_above 0 (by decide)) rfl (Nat.le_of_ble_eq_true rfl) dX12_as_42 (by decide) ?_
                    rintro _ _ ⟨rfl, rfl⟩
                    refine j_v (-1) (by decide) ?_
                    refine j_istore_n C [(3, .int (-1)), (0, .ref o), (1, .int (nI pn)), (2, .int (nI kn))] dX12_as_45 (by decide) rfl ?_
                    refine j_goto C 32 dX12_as_46 (by decide) ?_
                    refine j_iload_n C 0 dX12_as_32 rfl ?_
                    refine j_if_lt C 49 dX12_as_33 (by decide) (fun c33 => ?_) (fun c33 => ?_)
                    · skip
                      refine j_iload_n C 0 dX12_as_49 rfl ?_
                      refine j_if_ge C 62 dX12_as_50 (by decide) (fun c50 => ?_) (fun c50 => ?_)
                      · skip
                        exact absurd c50 (by decide)
                      · skip
                        refine j_aload_n C 1 dX12_as_53 rfl ?_
                        refine j_ldc C (-1000000005) dX12_as_54 kc12_95 ?_
                        refine j_callV (As := [.int (-1000000005)]) (rest := []) C vw12_errs (c_errs 5 (by decide) (by decide)) rRcv rfl (Nat.le_of_ble_eq_true rfl) dX12_as_56 (by decide) ?_
                        rintro _ _ ⟨rfl, rfl⟩
                        refine j_goto C 68 dX12_as_59 (by decide) ?_
                        refine j_iret C dX12_as_68 ?_
                        unfold sp_as
                        rw [if_pos ⟨c5, c15⟩, tN_nI (n := pn) (by omega), ek, tN_nI (by decide), tN_nI (n := kn) (by omega), if_neg (by omega)]
                        exact ⟨rfl, EQ.rf⟩
                    · skip
                      exact absurd (by decide) c33
    · replace c15 := bI_f c15
      refine j_aload_n C 0 dX12_as_18 rfl ?_
      refine j_ldc C (-1000000001) dX12_as_19 kc12_55 ?_
      refine j_callV (As := [.int (-1000000001)]) (rest := []) C vw12_errs (c_errs 1 (by decide) (by decide)) rRcv rfl (Nat.le_of_ble_eq_true rfl) dX12_as_21 (by decide) ?_
      rintro _ _ ⟨rfl, rfl⟩
      refine j_iret C dX12_as_24 ?_
      unfold sp_as
      rw [if_neg (fun h => c15 h.2)]
      exact ⟨rfl, EQ.rf⟩

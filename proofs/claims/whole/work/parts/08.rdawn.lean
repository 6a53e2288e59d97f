/-! The reference's people and dawns. -/
theorem j_eqL {p : Program} {l : Launch} {e : Env} {R : Room} {s : State} {m : MethodId} {args : Array Value} {below : List Frame} {meth : Method} {c : Code} {Q : State → Prop} {nL : Nat} {D : va_G} {A : Nat → Prop} {S : Type} {Wd : S → va_W} {σ : S} {pc : Nat} {L : List (Nat × Value)} {rest : List Value} (L' : List (Nat × Value)) (h : L = L') (kk : JJ p l e R s m args below meth c Q nL D A Wd σ pc L' rest) : JJ p l e R s m args below meth c Q nL D A Wd σ pc L rest := h ▸ kk
theorem lessF_t {v bs : Int32} (h : ¬ bs ≤ 0) (g : ¬ v ≤ 0) : lessF v bs = v - nI 1 := by unfold lessF; rw [if_pos ⟨nle h, nle g⟩]
theorem lessF_f {v bs : Int32} (h : bs ≤ 0) : lessF v bs = v := by unfold lessF; rw [if_neg (fun g => ltn g.1 h)]
theorem lessF_g {v bs : Int32} (h : v ≤ 0) : lessF v bs = v := by unfold lessF; rw [if_neg (fun g => ltn g.2 h)]
theorem bendF_eq {row : Nat → Int32} {np p k : Nat} {w : Int32} (h : row (30 + 6 * p + 0) = nI k) (hk : k ≤ 6) : bendF row np w p = bendK k (lawF row 0 w (row (30 + 6 * p + 1)) (row 0)) (lessF (lawF row 0 w (row (30 + 6 * p + 1)) (row 0)) (besF row p np)) (row (30 + 6 * p + 1)) := by
  unfold bendF; rw [h, tN_nI (by omega)]
theorem eatF_eq {row : Nat → Int32} {p k : Nat} (h : row (30 + 6 * p + 0) = nI k) (hk : k ≤ 6) : eatF row p = eatK k (row (30 + 6 * p + 1)) := by
  unfold eatF; rw [h, tN_nI (by omega)]
theorem wS_VE {V1 V row : Nat → Int32} {nw p : Nat} (h : VE V1 V) : wS V1 row nw p = wS V row nw p := by
  unfold wS; rw [h 18 (by omega), h 19 (by omega), h 15 (by omega), h 16 (by omega), h 17 (by omega)]

theorem dX12_whoIsAt_0 : decode cX12_whoIsAt 0 = .ok (.iconst 0, 1) := by decide +kernel
theorem dX12_whoIsAt_1 : decode cX12_whoIsAt 1 = .ok (.istore_n 2, 1) := by decide +kernel
theorem dX12_whoIsAt_2 : decode cX12_whoIsAt 2 = .ok (.iconst 0, 1) := by decide +kernel
theorem dX12_whoIsAt_3 : decode cX12_whoIsAt 3 = .ok (.istore_n 3, 1) := by decide +kernel
theorem dX12_whoIsAt_4 : decode cX12_whoIsAt 4 = .ok (.iload_n 3, 1) := by decide +kernel
theorem dX12_whoIsAt_5 : decode cX12_whoIsAt 5 = .ok (.aload_n 0, 1) := by decide +kernel
theorem dX12_whoIsAt_6 : decode cX12_whoIsAt 6 = .ok (.getfield 7, 3) := by decide +kernel
theorem dX12_whoIsAt_9 : decode cX12_whoIsAt 9 = .ok (.iconst 3, 1) := by decide +kernel
theorem dX12_whoIsAt_10 : decode cX12_whoIsAt 10 = .ok (.iaload, 1) := by decide +kernel
theorem dX12_whoIsAt_11 : decode cX12_whoIsAt 11 = .ok (.if_icmp .ge 29, 3) := by decide +kernel
theorem dX12_whoIsAt_14 : decode cX12_whoIsAt 14 = .ok (.iload_n 2, 1) := by decide +kernel
theorem dX12_whoIsAt_15 : decode cX12_whoIsAt 15 = .ok (.aload_n 0, 1) := by decide +kernel
theorem dX12_whoIsAt_16 : decode cX12_whoIsAt 16 = .ok (.iload_n 3, 1) := by decide +kernel
theorem dX12_whoIsAt_17 : decode cX12_whoIsAt 17 = .ok (.iconst 2, 1) := by decide +kernel
theorem dX12_whoIsAt_18 : decode cX12_whoIsAt 18 = .ok (.invokevirtual 69, 3) := by decide +kernel
theorem dX12_whoIsAt_21 : decode cX12_whoIsAt 21 = .ok (.iload_n 1, 1) := by decide +kernel
theorem dX12_whoIsAt_22 : decode cX12_whoIsAt 22 = .ok (.if_icmp .ne 9, 3) := by decide +kernel
theorem dX12_whoIsAt_25 : decode cX12_whoIsAt 25 = .ok (.iconst 1, 1) := by decide +kernel
theorem dX12_whoIsAt_26 : decode cX12_whoIsAt 26 = .ok (.iload_n 3, 1) := by decide +kernel
theorem dX12_whoIsAt_27 : decode cX12_whoIsAt 27 = .ok (.ishl, 1) := by decide +kernel
theorem dX12_whoIsAt_28 : decode cX12_whoIsAt 28 = .ok (.goto 4, 3) := by decide +kernel
theorem dX12_whoIsAt_31 : decode cX12_whoIsAt 31 = .ok (.iconst 0, 1) := by decide +kernel
theorem dX12_whoIsAt_32 : decode cX12_whoIsAt 32 = .ok (.ior, 1) := by decide +kernel
theorem dX12_whoIsAt_33 : decode cX12_whoIsAt 33 = .ok (.istore_n 2, 1) := by decide +kernel
theorem dX12_whoIsAt_34 : decode cX12_whoIsAt 34 = .ok (.iinc 3 1, 3) := by decide +kernel
theorem dX12_whoIsAt_37 : decode cX12_whoIsAt 37 = .ok (.goto (-33), 3) := by decide +kernel
theorem dX12_whoIsAt_40 : decode cX12_whoIsAt 40 = .ok (.iload_n 2, 1) := by decide +kernel
theorem dX12_whoIsAt_41 : decode cX12_whoIsAt 41 = .ok (.ireturn, 1) := by decide +kernel
set_option maxHeartbeats 2000000 in
set_option maxRecDepth 20000 in
theorem c_whoIsAt {l : Launch} {D : va_G} {cI cG cW : ClassId} {o : Nat} {q : Nat → Nat} {V row kept tried bf fd pk bo so sh mv tr : Nat → Int32} {c : Int32} {np : Nat} (e3 : row 3 = nI np) (hn6 : np ≤ 6) : Ci l yX12_whoIsAt cX12_whoIsAt 4 (some .int) 1 D (tyL cI cG cW) (wR cI o q) [.ref o, .int c] (sR V row kept tried bf fd pk bo so sh mv tr) (fun r τ => r = whoF row c np ∧ τ = sR V row kept tried bf fd pk bo so sh mv tr) := by
  refine Ci.of (by decide) (Nat.le_of_ble_eq_true rfl) ?_
  intro p_ e_ s_ m_ b_ M_ c_ A_ C
  replace C : Cx _ _ _ _ _ _ _ _ RX12 _ _ _ _ := C
  refine j_L [0, 1] [(0, .ref o), (1, .int c)] rfl ?_
  refine j_iconst C (v := (nI 0)) dX12_whoIsAt_0 (by decide) ?_
  refine j_istore_n C [(2, .int (nI 0)), (0, .ref o), (1, .int c)] dX12_whoIsAt_1 (by decide) rfl ?_
  refine j_iconst C (v := (nI 0)) dX12_whoIsAt_2 (by decide) ?_
  refine j_istore_n C [(3, .int (nI 0)), (2, .int (nI 0)), (0, .ref o), (1, .int c)] dX12_whoIsAt_3 (by decide) rfl ?_
  refine j_L [2, 3, 1, 0] [(0, .ref o), (1, .int c), (2, .int (nI 0)), (3, .int (nI 0))] rfl ?_
  refine j_loop (X := Nat × Int32) (fun (z : Nat × Int32) => match z with | (i, a) => i ≤ np ∧ a = whoF row c i) (fun (z : Nat × Int32) => match z with | (i, a) => np - i) (fun (z : Nat × Int32) => match z with | (i, a) => (sR V row kept tried bf fd pk bo so sh mv tr)) (fun (z : Nat × Int32) => match z with | (i, a) => [(0, .ref o), (1, .int c), (2, .int a), (3, .int (nI i))]) (0, 0) (⟨Nat.zero_le _, rfl⟩) rfl rfl ?_
  rintro ⟨i, a⟩ ⟨hi, ha⟩ ih
  try dsimp only at ih ⊢
  refine j_iload_n C 3 dX12_whoIsAt_4 rfl ?_
  refine j_aload_n C 0 dX12_whoIsAt_5 rfl ?_
  refine rg C (v := .ref (q 0)) 0 (by decide) kf12_7 rfl dX12_whoIsAt_6 ?_
  refine j_iconst C (v := (nI 3)) dX12_whoIsAt_9 (by decide) ?_
  refine rl_row C 3 rfl (by omega) dX12_whoIsAt_10 ?_
  refine j_v (nI np) e3 ?_
  refine j_icmp_ge C 40 dX12_whoIsAt_11 (by decide) (fun c11 => ?_) (fun c11 => ?_)
  · rw [nI_leI (by omega) (by omega)] at c11
    refine j_iload_n C 2 dX12_whoIsAt_40 rfl ?_
    refine j_iret C dX12_whoIsAt_41 ?_
    obtain rfl : i = np := by omega
    exact ⟨ha, rfl⟩
  · rw [nI_leI (by omega) (by omega)] at c11
    refine j_iload_n C 2 dX12_whoIsAt_14 rfl ?_
    refine j_aload_n C 0 dX12_whoIsAt_15 rfl ?_
    refine j_iload_n C 3 dX12_whoIsAt_16 rfl ?_
    refine j_iconst C (v := (nI 2)) dX12_whoIsAt_17 (by decide) ?_
    refine j_callV (As := [.int (nI i), .int (nI 2)]) (rest := [.int a]) C vw12_its (c_its i 2 (by omega)) rRcv rfl (Nat.le_of_ble_eq_true rfl) dX12_whoIsAt_18 (by decide) ?_
    rintro _ _ ⟨rfl, rfl⟩
    refine j_iload_n C 1 dX12_whoIsAt_21 rfl ?_
    refine j_icmp_ne C 31 dX12_whoIsAt_22 (by decide) (fun c22 => ?_) (fun c22 => ?_)
    · skip
      refine j_iconst C (v := (nI 0)) dX12_whoIsAt_31 (by decide) ?_
      refine j_ior C dX12_whoIsAt_32 ?_
      refine j_istore_n C [(2, .int (a ||| (nI 0))), (0, .ref o), (1, .int c), (3, .int (nI i))] dX12_whoIsAt_33 (by decide) rfl ?_
      refine j_iinc C (v := (nI (i + 1))) 3 [(3, .int (nI (i + 1))), (2, .int (a ||| (nI 0))), (0, .ref o), (1, .int c)] dX12_whoIsAt_34 rfl (nI_1 _) (by decide) rfl ?_
      refine j_goto C 4 dX12_whoIsAt_37 (by decide) ?_
      refine j_L [2, 3, 1, 0] [(0, .ref o), (1, .int c), (2, .int (a ||| (nI 0))), (3, .int (nI (i + 1)))] rfl ?_
      exact ih (i + 1, a ||| (nI 0)) (⟨by dsimp only; omega, by dsimp only; rw [whoF, ← ha, if_neg c22]⟩) (by dsimp only; omega)
    · skip
      refine j_iconst C (v := (nI 1)) dX12_whoIsAt_25 (by decide) ?_
      refine j_iload_n C 3 dX12_whoIsAt_26 rfl ?_
      refine j_ishl C dX12_whoIsAt_27 ?_
      refine j_goto C 32 dX12_whoIsAt_28 (by decide) ?_
      refine j_ior C dX12_whoIsAt_32 ?_
      refine j_istore_n C [(2, .int (a ||| ((nI 1) <<< ((nI i) &&& 31)))), (0, .ref o), (1, .int c), (3, .int (nI i))] dX12_whoIsAt_33 (by decide) rfl ?_
      refine j_iinc C (v := (nI (i + 1))) 3 [(3, .int (nI (i + 1))), (2, .int (a ||| ((nI 1) <<< ((nI i) &&& 31)))), (0, .ref o), (1, .int c)] dX12_whoIsAt_34 rfl (nI_1 _) (by decide) rfl ?_
      refine j_goto C 4 dX12_whoIsAt_37 (by decide) ?_
      refine j_L [2, 3, 1, 0] [(0, .ref o), (1, .int c), (2, .int (a ||| ((nI 1) <<< ((nI i) &&& 31)))), (3, .int (nI (i + 1)))] rfl ?_
      exact ih (i + 1, a ||| ((nI 1) <<< ((nI i) &&& 31))) (⟨by dsimp only; omega, by dsimp only; rw [whoF, ← ha, if_pos c22]⟩) (by dsimp only; omega)
theorem dX12_besides_0 : decode cX12_besides 0 = .ok (.iconst (-1), 1) := by decide +kernel
theorem dX12_besides_1 : decode cX12_besides 1 = .ok (.istore_n 2, 1) := by decide +kernel
theorem dX12_besides_2 : decode cX12_besides 2 = .ok (.iconst 0, 1) := by decide +kernel
theorem dX12_besides_3 : decode cX12_besides 3 = .ok (.istore_n 3, 1) := by decide +kernel
theorem dX12_besides_4 : decode cX12_besides 4 = .ok (.iload_n 3, 1) := by decide +kernel
theorem dX12_besides_5 : decode cX12_besides 5 = .ok (.aload_n 0, 1) := by decide +kernel
theorem dX12_besides_6 : decode cX12_besides 6 = .ok (.getfield 7, 3) := by decide +kernel
theorem dX12_besides_9 : decode cX12_besides 9 = .ok (.iconst 3, 1) := by decide +kernel
theorem dX12_besides_10 : decode cX12_besides 10 = .ok (.iaload, 1) := by decide +kernel
theorem dX12_besides_11 : decode cX12_besides 11 = .ok (.if_icmp .ge 32, 3) := by decide +kernel
theorem dX12_besides_14 : decode cX12_besides 14 = .ok (.iload_n 2, 1) := by decide +kernel
theorem dX12_besides_15 : decode cX12_besides 15 = .ok (.aload_n 0, 1) := by decide +kernel
theorem dX12_besides_16 : decode cX12_besides 16 = .ok (.iload_n 3, 1) := by decide +kernel
theorem dX12_besides_17 : decode cX12_besides 17 = .ok (.iconst 2, 1) := by decide +kernel
theorem dX12_besides_18 : decode cX12_besides 18 = .ok (.invokevirtual 69, 3) := by decide +kernel
theorem dX12_besides_21 : decode cX12_besides 21 = .ok (.aload_n 0, 1) := by decide +kernel
theorem dX12_besides_22 : decode cX12_besides 22 = .ok (.iload_n 1, 1) := by decide +kernel
theorem dX12_besides_23 : decode cX12_besides 23 = .ok (.iconst 2, 1) := by decide +kernel
theorem dX12_besides_24 : decode cX12_besides 24 = .ok (.invokevirtual 69, 3) := by decide +kernel
theorem dX12_besides_27 : decode cX12_besides 27 = .ok (.if_icmp .ne 7, 3) := by decide +kernel
theorem dX12_besides_30 : decode cX12_besides 30 = .ok (.iconst 1, 1) := by decide +kernel
theorem dX12_besides_31 : decode cX12_besides 31 = .ok (.goto 4, 3) := by decide +kernel
theorem dX12_besides_34 : decode cX12_besides 34 = .ok (.iconst 0, 1) := by decide +kernel
theorem dX12_besides_35 : decode cX12_besides 35 = .ok (.iadd, 1) := by decide +kernel
theorem dX12_besides_36 : decode cX12_besides 36 = .ok (.istore_n 2, 1) := by decide +kernel
theorem dX12_besides_37 : decode cX12_besides 37 = .ok (.iinc 3 1, 3) := by decide +kernel
theorem dX12_besides_40 : decode cX12_besides 40 = .ok (.goto (-36), 3) := by decide +kernel
theorem dX12_besides_43 : decode cX12_besides 43 = .ok (.iload_n 2, 1) := by decide +kernel
theorem dX12_besides_44 : decode cX12_besides 44 = .ok (.ireturn, 1) := by decide +kernel
set_option maxHeartbeats 2000000 in
set_option maxRecDepth 20000 in
theorem c_besides {l : Launch} {D : va_G} {cI cG cW : ClassId} {o : Nat} {q : Nat → Nat} {V row kept tried bf fd pk bo so sh mv tr : Nat → Int32} (p : Nat) {np : Nat} (e3 : row 3 = nI np) (hn6 : np ≤ 6) (hp : p < np) : Ci l yX12_besides cX12_besides 4 (some .int) 1 D (tyL cI cG cW) (wR cI o q) [.ref o, .int (nI p)] (sR V row kept tried bf fd pk bo so sh mv tr) (fun r τ => r = besF row p np ∧ τ = sR V row kept tried bf fd pk bo so sh mv tr) := by
  refine Ci.of (by decide) (Nat.le_of_ble_eq_true rfl) ?_
  intro p_ e_ s_ m_ b_ M_ c_ A_ C
  replace C : Cx _ _ _ _ _ _ _ _ RX12 _ _ _ _ := C
  refine j_L [0, 1] [(0, .ref o), (1, .int (nI p))] rfl ?_
  refine j_iconst C (v := (-1)) dX12_besides_0 (by decide) ?_
  refine j_istore_n C [(2, .int (-1)), (0, .ref o), (1, .int (nI p))] dX12_besides_1 (by decide) rfl ?_
  refine j_iconst C (v := (nI 0)) dX12_besides_2 (by decide) ?_
  refine j_istore_n C [(3, .int (nI 0)), (2, .int (-1)), (0, .ref o), (1, .int (nI p))] dX12_besides_3 (by decide) rfl ?_
  refine j_L [2, 3, 1, 0] [(0, .ref o), (1, .int (nI p)), (2, .int (-1)), (3, .int (nI 0))] rfl ?_
  refine j_loop (X := Nat × Int32) (fun (z : Nat × Int32) => match z with | (i, a) => i ≤ np ∧ a = besF row p i) (fun (z : Nat × Int32) => match z with | (i, a) => np - i) (fun (z : Nat × Int32) => match z with | (i, a) => (sR V row kept tried bf fd pk bo so sh mv tr)) (fun (z : Nat × Int32) => match z with | (i, a) => [(0, .ref o), (1, .int (nI p)), (2, .int a), (3, .int (nI i))]) (0, (-1)) (⟨Nat.zero_le _, rfl⟩) rfl rfl ?_
  rintro ⟨i, a⟩ ⟨hi, ha⟩ ih
  try dsimp only at ih ⊢
  refine j_iload_n C 3 dX12_besides_4 rfl ?_
  refine j_aload_n C 0 dX12_besides_5 rfl ?_
  refine rg C (v := .ref (q 0)) 0 (by decide) kf12_7 rfl dX12_besides_6 ?_
  refine j_iconst C (v := (nI 3)) dX12_besides_9 (by decide) ?_
  refine rl_row C 3 rfl (by omega) dX12_besides_10 ?_
  refine j_v (nI np) e3 ?_
  refine j_icmp_ge C 43 dX12_besides_11 (by decide) (fun c11 => ?_) (fun c11 => ?_)
  · rw [nI_leI (by omega) (by omega)] at c11
    refine j_iload_n C 2 dX12_besides_43 rfl ?_
    refine j_iret C dX12_besides_44 ?_
    obtain rfl : i = np := by omega
    exact ⟨ha, rfl⟩
  · rw [nI_leI (by omega) (by omega)] at c11
    refine j_iload_n C 2 dX12_besides_14 rfl ?_
    refine j_aload_n C 0 dX12_besides_15 rfl ?_
    refine j_iload_n C 3 dX12_besides_16 rfl ?_
    refine j_iconst C (v := (nI 2)) dX12_besides_17 (by decide) ?_
    refine j_callV (As := [.int (nI i), .int (nI 2)]) (rest := [.int a]) C vw12_its (c_its i 2 (by omega)) rRcv rfl (Nat.le_of_ble_eq_true rfl) dX12_besides_18 (by decide) ?_
    rintro _ _ ⟨rfl, rfl⟩
    refine j_aload_n C 0 dX12_besides_21 rfl ?_
    refine j_iload_n C 1 dX12_besides_22 rfl ?_
    refine j_iconst C (v := (nI 2)) dX12_besides_23 (by decide) ?_
    refine j_callV (As := [.int (nI p), .int (nI 2)]) (rest := [.int (row (30 + 6 * i + 2)), .int a]) C vw12_its (c_its p 2 (by omega)) rRcv rfl (Nat.le_of_ble_eq_true rfl) dX12_besides_24 (by decide) ?_
    rintro _ _ ⟨rfl, rfl⟩
    refine j_icmp_ne C 34 dX12_besides_27 (by decide) (fun c27 => ?_) (fun c27 => ?_)
    · skip
      refine j_iconst C (v := (nI 0)) dX12_besides_34 (by decide) ?_
      refine j_iadd C dX12_besides_35 ?_
      refine j_istore_n C [(2, .int (a + (nI 0))), (0, .ref o), (1, .int (nI p)), (3, .int (nI i))] dX12_besides_36 (by decide) rfl ?_
      refine j_iinc C (v := (nI (i + 1))) 3 [(3, .int (nI (i + 1))), (2, .int (a + (nI 0))), (0, .ref o), (1, .int (nI p))] dX12_besides_37 rfl (nI_1 _) (by decide) rfl ?_
      refine j_goto C 4 dX12_besides_40 (by decide) ?_
      refine j_L [2, 3, 1, 0] [(0, .ref o), (1, .int (nI p)), (2, .int (a + (nI 0))), (3, .int (nI (i + 1)))] rfl ?_
      exact ih (i + 1, a + (nI 0)) (⟨by dsimp only; omega, by dsimp only; rw [besF, ← ha, if_neg c27]⟩) (by dsimp only; omega)
    · skip
      refine j_iconst C (v := (nI 1)) dX12_besides_30 (by decide) ?_
      refine j_goto C 35 dX12_besides_31 (by decide) ?_
      refine j_iadd C dX12_besides_35 ?_
      refine j_istore_n C [(2, .int (a + (nI 1))), (0, .ref o), (1, .int (nI p)), (3, .int (nI i))] dX12_besides_36 (by decide) rfl ?_
      refine j_iinc C (v := (nI (i + 1))) 3 [(3, .int (nI (i + 1))), (2, .int (a + (nI 1))), (0, .ref o), (1, .int (nI p))] dX12_besides_37 rfl (nI_1 _) (by decide) rfl ?_
      refine j_goto C 4 dX12_besides_40 (by decide) ?_
      refine j_L [2, 3, 1, 0] [(0, .ref o), (1, .int (nI p)), (2, .int (a + (nI 1))), (3, .int (nI (i + 1)))] rfl ?_
      exact ih (i + 1, a + (nI 1)) (⟨by dsimp only; omega, by dsimp only; rw [besF, ← ha, if_pos c27]⟩) (by dsimp only; omega)
theorem dX12_sumOf_0 : decode cX12_sumOf 0 = .ok (.iconst 0, 1) := by decide +kernel
theorem dX12_sumOf_1 : decode cX12_sumOf 1 = .ok (.istore_n 2, 1) := by decide +kernel
theorem dX12_sumOf_2 : decode cX12_sumOf 2 = .ok (.iconst 0, 1) := by decide +kernel
theorem dX12_sumOf_3 : decode cX12_sumOf 3 = .ok (.istore_n 3, 1) := by decide +kernel
theorem dX12_sumOf_4 : decode cX12_sumOf 4 = .ok (.iload_n 3, 1) := by decide +kernel
theorem dX12_sumOf_5 : decode cX12_sumOf 5 = .ok (.aload_n 0, 1) := by decide +kernel
theorem dX12_sumOf_6 : decode cX12_sumOf 6 = .ok (.getfield 7, 3) := by decide +kernel
theorem dX12_sumOf_9 : decode cX12_sumOf 9 = .ok (.iconst 3, 1) := by decide +kernel
theorem dX12_sumOf_10 : decode cX12_sumOf 10 = .ok (.iaload, 1) := by decide +kernel
theorem dX12_sumOf_11 : decode cX12_sumOf 11 = .ok (.if_icmp .ge 18, 3) := by decide +kernel
theorem dX12_sumOf_14 : decode cX12_sumOf 14 = .ok (.iload_n 2, 1) := by decide +kernel
theorem dX12_sumOf_15 : decode cX12_sumOf 15 = .ok (.aload_n 0, 1) := by decide +kernel
theorem dX12_sumOf_16 : decode cX12_sumOf 16 = .ok (.iload_n 3, 1) := by decide +kernel
theorem dX12_sumOf_17 : decode cX12_sumOf 17 = .ok (.iload_n 1, 1) := by decide +kernel
theorem dX12_sumOf_18 : decode cX12_sumOf 18 = .ok (.invokevirtual 69, 3) := by decide +kernel
theorem dX12_sumOf_21 : decode cX12_sumOf 21 = .ok (.iadd, 1) := by decide +kernel
theorem dX12_sumOf_22 : decode cX12_sumOf 22 = .ok (.istore_n 2, 1) := by decide +kernel
theorem dX12_sumOf_23 : decode cX12_sumOf 23 = .ok (.iinc 3 1, 3) := by decide +kernel
theorem dX12_sumOf_26 : decode cX12_sumOf 26 = .ok (.goto (-22), 3) := by decide +kernel
theorem dX12_sumOf_29 : decode cX12_sumOf 29 = .ok (.iload_n 2, 1) := by decide +kernel
theorem dX12_sumOf_30 : decode cX12_sumOf 30 = .ok (.ireturn, 1) := by decide +kernel
set_option maxHeartbeats 2000000 in
set_option maxRecDepth 20000 in
theorem c_sumOf {l : Launch} {D : va_G} {cI cG cW : ClassId} {o : Nat} {q : Nat → Nat} {V row kept tried bf fd pk bo so sh mv tr : Nat → Int32} (j : Nat) {np : Nat} (e3 : row 3 = nI np) (hn6 : np ≤ 6) (hj : j < 6) : Ci l yX12_sumOf cX12_sumOf 4 (some .int) 1 D (tyL cI cG cW) (wR cI o q) [.ref o, .int (nI j)] (sR V row kept tried bf fd pk bo so sh mv tr) (fun r τ => r = sumF row j np ∧ τ = sR V row kept tried bf fd pk bo so sh mv tr) := by
  refine Ci.of (by decide) (Nat.le_of_ble_eq_true rfl) ?_
  intro p_ e_ s_ m_ b_ M_ c_ A_ C
  replace C : Cx _ _ _ _ _ _ _ _ RX12 _ _ _ _ := C
  refine j_L [0, 1] [(0, .ref o), (1, .int (nI j))] rfl ?_
  refine j_iconst C (v := (nI 0)) dX12_sumOf_0 (by decide) ?_
  refine j_istore_n C [(2, .int (nI 0)), (0, .ref o), (1, .int (nI j))] dX12_sumOf_1 (by decide) rfl ?_
  refine j_iconst C (v := (nI 0)) dX12_sumOf_2 (by decide) ?_
  refine j_istore_n C [(3, .int (nI 0)), (2, .int (nI 0)), (0, .ref o), (1, .int (nI j))] dX12_sumOf_3 (by decide) rfl ?_
  refine j_L [2, 3, 1, 0] [(0, .ref o), (1, .int (nI j)), (2, .int (nI 0)), (3, .int (nI 0))] rfl ?_
  refine j_loop (X := Nat × Int32) (fun (z : Nat × Int32) => match z with | (i, a) => i ≤ np ∧ a = sumF row j i) (fun (z : Nat × Int32) => match z with | (i, a) => np - i) (fun (z : Nat × Int32) => match z with | (i, a) => (sR V row kept tried bf fd pk bo so sh mv tr)) (fun (z : Nat × Int32) => match z with | (i, a) => [(0, .ref o), (1, .int (nI j)), (2, .int a), (3, .int (nI i))]) (0, 0) (⟨Nat.zero_le _, rfl⟩) rfl rfl ?_
  rintro ⟨i, a⟩ ⟨hi, ha⟩ ih
  try dsimp only at ih ⊢
  refine j_iload_n C 3 dX12_sumOf_4 rfl ?_
  refine j_aload_n C 0 dX12_sumOf_5 rfl ?_
  refine rg C (v := .ref (q 0)) 0 (by decide) kf12_7 rfl dX12_sumOf_6 ?_
  refine j_iconst C (v := (nI 3)) dX12_sumOf_9 (by decide) ?_
  refine rl_row C 3 rfl (by omega) dX12_sumOf_10 ?_
  refine j_v (nI np) e3 ?_
  refine j_icmp_ge C 29 dX12_sumOf_11 (by decide) (fun c11 => ?_) (fun c11 => ?_)
  · rw [nI_leI (by omega) (by omega)] at c11
    refine j_iload_n C 2 dX12_sumOf_29 rfl ?_
    refine j_iret C dX12_sumOf_30 ?_
    obtain rfl : i = np := by omega
    exact ⟨ha, rfl⟩
  · rw [nI_leI (by omega) (by omega)] at c11
    refine j_iload_n C 2 dX12_sumOf_14 rfl ?_
    refine j_aload_n C 0 dX12_sumOf_15 rfl ?_
    refine j_iload_n C 3 dX12_sumOf_16 rfl ?_
    refine j_iload_n C 1 dX12_sumOf_17 rfl ?_
    refine j_callV (As := [.int (nI i), .int (nI j)]) (rest := [.int a]) C vw12_its (c_its i j (by omega)) rRcv rfl (Nat.le_of_ble_eq_true rfl) dX12_sumOf_18 (by decide) ?_
    rintro _ _ ⟨rfl, rfl⟩
    refine j_iadd C dX12_sumOf_21 ?_
    refine j_istore_n C [(2, .int (a + (row (30 + 6 * i + j)))), (0, .ref o), (1, .int (nI j)), (3, .int (nI i))] dX12_sumOf_22 (by decide) rfl ?_
    refine j_iinc C (v := (nI (i + 1))) 3 [(3, .int (nI (i + 1))), (2, .int (a + (row (30 + 6 * i + j)))), (0, .ref o), (1, .int (nI j))] dX12_sumOf_23 rfl (nI_1 _) (by decide) rfl ?_
    refine j_goto C 4 dX12_sumOf_26 (by decide) ?_
    refine j_L [2, 3, 1, 0] [(0, .ref o), (1, .int (nI j)), (2, .int (a + (row (30 + 6 * i + j)))), (3, .int (nI (i + 1)))] rfl ?_
    exact ih (i + 1, a + (row (30 + 6 * i + j))) (⟨by dsimp only; omega, by dsimp only; rw [sumF, ← ha]⟩) (by dsimp only; omega)
theorem dX12_weighs_0 : decode cX12_weighs 0 = .ok (.iload_n 1, 1) := by decide +kernel
theorem dX12_weighs_1 : decode cX12_weighs 1 = .ok (.aload_n 0, 1) := by decide +kernel
theorem dX12_weighs_2 : decode cX12_weighs 2 = .ok (.getfield 29, 3) := by decide +kernel
theorem dX12_weighs_5 : decode cX12_weighs 5 = .ok (.if_icmp .ne 8, 3) := by decide +kernel
theorem dX12_weighs_8 : decode cX12_weighs 8 = .ok (.aload_n 0, 1) := by decide +kernel
theorem dX12_weighs_9 : decode cX12_weighs 9 = .ok (.getfield 175, 3) := by decide +kernel
theorem dX12_weighs_12 : decode cX12_weighs 12 = .ok (.ireturn, 1) := by decide +kernel
theorem dX12_weighs_13 : decode cX12_weighs 13 = .ok (.iload_n 1, 1) := by decide +kernel
theorem dX12_weighs_14 : decode cX12_weighs 14 = .ok (.aload_n 0, 1) := by decide +kernel
theorem dX12_weighs_15 : decode cX12_weighs 15 = .ok (.getfield 25, 3) := by decide +kernel
theorem dX12_weighs_18 : decode cX12_weighs 18 = .ok (.if_icmp .ne 10, 3) := by decide +kernel
theorem dX12_weighs_21 : decode cX12_weighs 21 = .ok (.aload_n 0, 1) := by decide +kernel
theorem dX12_weighs_22 : decode cX12_weighs 22 = .ok (.getfield 178, 3) := by decide +kernel
theorem dX12_weighs_25 : decode cX12_weighs 25 = .ok (.goto 4, 3) := by decide +kernel
theorem dX12_weighs_28 : decode cX12_weighs 28 = .ok (.iconst 0, 1) := by decide +kernel
theorem dX12_weighs_29 : decode cX12_weighs 29 = .ok (.istore_n 2, 1) := by decide +kernel
theorem dX12_weighs_30 : decode cX12_weighs 30 = .ok (.iconst 0, 1) := by decide +kernel
theorem dX12_weighs_31 : decode cX12_weighs 31 = .ok (.istore_n 3, 1) := by decide +kernel
theorem dX12_weighs_32 : decode cX12_weighs 32 = .ok (.iload_n 3, 1) := by decide +kernel
theorem dX12_weighs_33 : decode cX12_weighs 33 = .ok (.aload_n 0, 1) := by decide +kernel
theorem dX12_weighs_34 : decode cX12_weighs 34 = .ok (.getfield 7, 3) := by decide +kernel
theorem dX12_weighs_37 : decode cX12_weighs 37 = .ok (.bipush 8, 2) := by decide +kernel
theorem dX12_weighs_39 : decode cX12_weighs 39 = .ok (.iaload, 1) := by decide +kernel
theorem dX12_weighs_40 : decode cX12_weighs 40 = .ok (.if_icmp .ge 55, 3) := by decide +kernel
theorem dX12_weighs_43 : decode cX12_weighs 43 = .ok (.iload_n 2, 1) := by decide +kernel
theorem dX12_weighs_44 : decode cX12_weighs 44 = .ok (.aload_n 0, 1) := by decide +kernel
theorem dX12_weighs_45 : decode cX12_weighs 45 = .ok (.getfield 7, 3) := by decide +kernel
theorem dX12_weighs_48 : decode cX12_weighs 48 = .ok (.bipush 66, 2) := by decide +kernel
theorem dX12_weighs_50 : decode cX12_weighs 50 = .ok (.iconst 3, 1) := by decide +kernel
theorem dX12_weighs_51 : decode cX12_weighs 51 = .ok (.iload_n 3, 1) := by decide +kernel
theorem dX12_weighs_52 : decode cX12_weighs 52 = .ok (.imul, 1) := by decide +kernel
theorem dX12_weighs_53 : decode cX12_weighs 53 = .ok (.iadd, 1) := by decide +kernel
theorem dX12_weighs_54 : decode cX12_weighs 54 = .ok (.iaload, 1) := by decide +kernel
theorem dX12_weighs_55 : decode cX12_weighs 55 = .ok (.iload_n 1, 1) := by decide +kernel
theorem dX12_weighs_56 : decode cX12_weighs 56 = .ok (.if_icmp .ne 30, 3) := by decide +kernel
theorem dX12_weighs_59 : decode cX12_weighs 59 = .ok (.aload_n 0, 1) := by decide +kernel
theorem dX12_weighs_60 : decode cX12_weighs 60 = .ok (.getfield 181, 3) := by decide +kernel
theorem dX12_weighs_63 : decode cX12_weighs 63 = .ok (.iload_n 3, 1) := by decide +kernel
theorem dX12_weighs_64 : decode cX12_weighs 64 = .ok (.ishr, 1) := by decide +kernel
theorem dX12_weighs_65 : decode cX12_weighs 65 = .ok (.iconst 1, 1) := by decide +kernel
theorem dX12_weighs_66 : decode cX12_weighs 66 = .ok (.iand, 1) := by decide +kernel
theorem dX12_weighs_67 : decode cX12_weighs 67 = .ok (.ifCond .ne 19, 3) := by decide +kernel
theorem dX12_weighs_70 : decode cX12_weighs 70 = .ok (.aload_n 0, 1) := by decide +kernel
theorem dX12_weighs_71 : decode cX12_weighs 71 = .ok (.getfield 7, 3) := by decide +kernel
theorem dX12_weighs_74 : decode cX12_weighs 74 = .ok (.bipush 66, 2) := by decide +kernel
theorem dX12_weighs_76 : decode cX12_weighs 76 = .ok (.iconst 3, 1) := by decide +kernel
theorem dX12_weighs_77 : decode cX12_weighs 77 = .ok (.iload_n 3, 1) := by decide +kernel
theorem dX12_weighs_78 : decode cX12_weighs 78 = .ok (.imul, 1) := by decide +kernel
theorem dX12_weighs_79 : decode cX12_weighs 79 = .ok (.iadd, 1) := by decide +kernel
theorem dX12_weighs_80 : decode cX12_weighs 80 = .ok (.iconst 2, 1) := by decide +kernel
theorem dX12_weighs_81 : decode cX12_weighs 81 = .ok (.iadd, 1) := by decide +kernel
theorem dX12_weighs_82 : decode cX12_weighs 82 = .ok (.iaload, 1) := by decide +kernel
theorem dX12_weighs_83 : decode cX12_weighs 83 = .ok (.goto 4, 3) := by decide +kernel
theorem dX12_weighs_86 : decode cX12_weighs 86 = .ok (.iconst 0, 1) := by decide +kernel
theorem dX12_weighs_87 : decode cX12_weighs 87 = .ok (.iadd, 1) := by decide +kernel
theorem dX12_weighs_88 : decode cX12_weighs 88 = .ok (.istore_n 2, 1) := by decide +kernel
theorem dX12_weighs_89 : decode cX12_weighs 89 = .ok (.iinc 3 1, 3) := by decide +kernel
theorem dX12_weighs_92 : decode cX12_weighs 92 = .ok (.goto (-60), 3) := by decide +kernel
theorem dX12_weighs_95 : decode cX12_weighs 95 = .ok (.aload_n 0, 1) := by decide +kernel
theorem dX12_weighs_96 : decode cX12_weighs 96 = .ok (.iload_n 1, 1) := by decide +kernel
theorem dX12_weighs_97 : decode cX12_weighs 97 = .ok (.iconst 0, 1) := by decide +kernel
theorem dX12_weighs_98 : decode cX12_weighs 98 = .ok (.invokevirtual 69, 3) := by decide +kernel
theorem dX12_weighs_101 : decode cX12_weighs 101 = .ok (.bipush 6, 2) := by decide +kernel
theorem dX12_weighs_103 : decode cX12_weighs 103 = .ok (.if_icmp .ne 14, 3) := by decide +kernel
theorem dX12_weighs_106 : decode cX12_weighs 106 = .ok (.iload_n 2, 1) := by decide +kernel
theorem dX12_weighs_107 : decode cX12_weighs 107 = .ok (.aload_n 0, 1) := by decide +kernel
theorem dX12_weighs_108 : decode cX12_weighs 108 = .ok (.iload_n 1, 1) := by decide +kernel
theorem dX12_weighs_109 : decode cX12_weighs 109 = .ok (.iconst 1, 1) := by decide +kernel
theorem dX12_weighs_110 : decode cX12_weighs 110 = .ok (.invokevirtual 69, 3) := by decide +kernel
theorem dX12_weighs_113 : decode cX12_weighs 113 = .ok (.iadd, 1) := by decide +kernel
theorem dX12_weighs_114 : decode cX12_weighs 114 = .ok (.goto 4, 3) := by decide +kernel
theorem dX12_weighs_117 : decode cX12_weighs 117 = .ok (.iload_n 2, 1) := by decide +kernel
theorem dX12_weighs_118 : decode cX12_weighs 118 = .ok (.ireturn, 1) := by decide +kernel
set_option maxHeartbeats 2000000 in
set_option maxRecDepth 20000 in
theorem c_weighs {l : Launch} {D : va_G} {cI cG cW : ClassId} {o : Nat} {q : Nat → Nat} {V row kept tried bf fd pk bo so sh mv tr : Nat → Int32} (p : Nat) {np nw : Nat} (e8 : row 8 = nI nw) (hw8 : nw ≤ 8) (hp : p < 6) : Ci l yX12_weighs cX12_weighs 4 (some .int) 1 D (tyL cI cG cW) (wR cI o q) [.ref o, .int (nI p)] (sR V row kept tried bf fd pk bo so sh mv tr) (fun r τ => r = wS V row nw p ∧ τ = sR V row kept tried bf fd pk bo so sh mv tr) := by
  refine Ci.of (by decide) (Nat.le_of_ble_eq_true rfl) ?_
  intro p_ e_ s_ m_ b_ M_ c_ A_ C
  replace C : Cx _ _ _ _ _ _ _ _ RX12 _ _ _ _ := C
  refine j_L [0, 1] [(0, .ref o), (1, .int (nI p))] rfl ?_
  refine j_iload_n C 1 dX12_weighs_0 rfl ?_
  refine j_aload_n C 0 dX12_weighs_1 rfl ?_
  refine rg C (v := .int (V 18)) 18 (by decide) kf12_29 rfl dX12_weighs_2 ?_
  refine j_icmp_ne C 13 dX12_weighs_5 (by decide) (fun c5 => ?_) (fun c5 => ?_)
  · skip
    refine j_iload_n C 1 dX12_weighs_13 rfl ?_
    refine j_aload_n C 0 dX12_weighs_14 rfl ?_
    refine rg C (v := .int (V 16)) 16 (by decide) kf12_25 rfl dX12_weighs_15 ?_
    refine j_icmp_ne C 28 dX12_weighs_18 (by decide) (fun c18 => ?_) (fun c18 => ?_)
    · skip
      refine j_iconst C (v := (nI 0)) dX12_weighs_28 (by decide) ?_
      refine j_istore_n C [(2, .int (nI 0)), (0, .ref o), (1, .int (nI p))] dX12_weighs_29 (by decide) rfl ?_
      refine j_iconst C (v := (nI 0)) dX12_weighs_30 (by decide) ?_
      refine j_istore_n C [(3, .int (nI 0)), (2, .int (nI 0)), (0, .ref o), (1, .int (nI p))] dX12_weighs_31 (by decide) rfl ?_
      refine j_L [2, 3, 1, 0] [(0, .ref o), (1, .int (nI p)), (2, .int (nI 0)), (3, .int (nI 0))] rfl ?_
      refine j_loop (X := Nat × Int32) (fun (z : Nat × Int32) => match z with | (i, a) => i ≤ nw ∧ a = sumW row (V 15) p (nI 0) i) (fun (z : Nat × Int32) => match z with | (i, a) => nw - i) (fun (z : Nat × Int32) => match z with | (i, a) => (sR V row kept tried bf fd pk bo so sh mv tr)) (fun (z : Nat × Int32) => match z with | (i, a) => [(0, .ref o), (1, .int (nI p)), (2, .int a), (3, .int (nI i))]) (0, (nI 0)) (⟨Nat.zero_le _, rfl⟩) rfl rfl ?_
      rintro ⟨i, a⟩ ⟨hi, ha⟩ ih
      try dsimp only at ih ⊢
      refine j_iload_n C 3 dX12_weighs_32 rfl ?_
      refine j_aload_n C 0 dX12_weighs_33 rfl ?_
      refine rg C (v := .ref (q 0)) 0 (by decide) kf12_7 rfl dX12_weighs_34 ?_
      refine j_bipush C (v := (nI 8)) dX12_weighs_37 (by decide) ?_
      refine rl_row C 8 rfl (by omega) dX12_weighs_39 ?_
      refine j_v (nI nw) e8 ?_
      refine j_icmp_ge C 95 dX12_weighs_40 (by decide) (fun c40 => ?_) (fun c40 => ?_)
      · rw [nI_leI (by omega) (by omega)] at c40
        refine j_aload_n C 0 dX12_weighs_95 rfl ?_
        refine j_iload_n C 1 dX12_weighs_96 rfl ?_
        refine j_iconst C (v := (nI 0)) dX12_weighs_97 (by decide) ?_
        refine j_callV (As := [.int (nI p), .int (nI 0)]) (rest := []) C vw12_its (c_its p 0 (by omega)) rRcv rfl (Nat.le_of_ble_eq_true rfl) dX12_weighs_98 (by decide) ?_
        rintro _ _ ⟨rfl, rfl⟩
        refine j_bipush C (v := (nI 6)) dX12_weighs_101 (by decide) ?_
        refine j_icmp_ne C 117 dX12_weighs_103 (by decide) (fun c103 => ?_) (fun c103 => ?_)
        · skip
          refine j_iload_n C 2 dX12_weighs_117 rfl ?_
          refine j_iret C dX12_weighs_118 ?_
          obtain rfl : i = nw := by omega
          subst ha
          refine ⟨?_, rfl⟩
          unfold wS
          rw [if_neg c5, if_neg c18, if_neg c103]
        · skip
          refine j_iload_n C 2 dX12_weighs_106 rfl ?_
          refine j_aload_n C 0 dX12_weighs_107 rfl ?_
          refine j_iload_n C 1 dX12_weighs_108 rfl ?_
          refine j_iconst C (v := (nI 1)) dX12_weighs_109 (by decide) ?_
          refine j_callV (As := [.int (nI p), .int (nI 1)]) (rest := [.int a]) C vw12_its (c_its p 1 (by omega)) rRcv rfl (Nat.le_of_ble_eq_true rfl) dX12_weighs_110 (by decide) ?_
          rintro _ _ ⟨rfl, rfl⟩
          refine j_iadd C dX12_weighs_113 ?_
          refine j_goto C 118 dX12_weighs_114 (by decide) ?_
          refine j_iret C dX12_weighs_118 ?_
          obtain rfl : i = nw := by omega
          subst ha
          refine ⟨?_, rfl⟩
          unfold wS
          rw [if_neg c5, if_neg c18, if_pos c103]
      · rw [nI_leI (by omega) (by omega)] at c40
        refine j_iload_n C 2 dX12_weighs_43 rfl ?_
        refine j_aload_n C 0 dX12_weighs_44 rfl ?_
        refine rg C (v := .ref (q 0)) 0 (by decide) kf12_7 rfl dX12_weighs_45 ?_
        refine j_bipush C (v := (nI 66)) dX12_weighs_48 (by decide) ?_
        refine j_iconst C (v := (nI 3)) dX12_weighs_50 (by decide) ?_
        refine j_iload_n C 3 dX12_weighs_51 rfl ?_
        refine j_imulN C dX12_weighs_52 ?_
        refine j_iaddN C dX12_weighs_53 ?_
        refine rl_row C (66 + 3 * i) rfl (by omega) dX12_weighs_54 ?_
        refine j_iload_n C 1 dX12_weighs_55 rfl ?_
        refine j_icmp_ne C 86 dX12_weighs_56 (by decide) (fun c56 => ?_) (fun c56 => ?_)
        · skip
          refine j_iconst C (v := (nI 0)) dX12_weighs_86 (by decide) ?_
          refine j_iadd C dX12_weighs_87 ?_
          refine j_istore_n C [(2, .int (a + (nI 0))), (0, .ref o), (1, .int (nI p)), (3, .int (nI i))] dX12_weighs_88 (by decide) rfl ?_
          refine j_iinc C (v := (nI (i + 1))) 3 [(3, .int (nI (i + 1))), (2, .int (a + (nI 0))), (0, .ref o), (1, .int (nI p))] dX12_weighs_89 rfl (nI_1 _) (by decide) rfl ?_
          refine j_goto C 32 dX12_weighs_92 (by decide) ?_
          refine j_L [2, 3, 1, 0] [(0, .ref o), (1, .int (nI p)), (2, .int (a + (nI 0))), (3, .int (nI (i + 1)))] rfl ?_
          exact ih (i + 1, a + (nI 0)) (⟨by dsimp only; omega, by dsimp only; rw [sumW, ← ha, if_neg (fun h => c56 h.1)]⟩) (by dsimp only; omega)
        · skip
          refine j_aload_n C 0 dX12_weighs_59 rfl ?_
          refine rg C (v := .int (V 15)) 15 (by decide) kf12_181 rfl dX12_weighs_60 ?_
          refine j_iload_n C 3 dX12_weighs_63 rfl ?_
          refine j_ishr C dX12_weighs_64 ?_
          refine j_iconst C (v := (nI 1)) dX12_weighs_65 (by decide) ?_
          refine j_iand C dX12_weighs_66 ?_
          refine j_if_ne C 86 dX12_weighs_67 (by decide) (fun c67 => ?_) (fun c67 => ?_)
          · skip
            refine j_iconst C (v := (nI 0)) dX12_weighs_86 (by decide) ?_
            refine j_iadd C dX12_weighs_87 ?_
            refine j_istore_n C [(2, .int (a + (nI 0))), (0, .ref o), (1, .int (nI p)), (3, .int (nI i))] dX12_weighs_88 (by decide) rfl ?_
            refine j_iinc C (v := (nI (i + 1))) 3 [(3, .int (nI (i + 1))), (2, .int (a + (nI 0))), (0, .ref o), (1, .int (nI p))] dX12_weighs_89 rfl (nI_1 _) (by decide) rfl ?_
            refine j_goto C 32 dX12_weighs_92 (by decide) ?_
            refine j_L [2, 3, 1, 0] [(0, .ref o), (1, .int (nI p)), (2, .int (a + (nI 0))), (3, .int (nI (i + 1)))] rfl ?_
            exact ih (i + 1, a + (nI 0)) (⟨by dsimp only; omega, by dsimp only; rw [sumW, ← ha, if_neg (fun h => c67 h.2)]⟩) (by dsimp only; omega)
          · skip
            refine j_aload_n C 0 dX12_weighs_70 rfl ?_
            refine rg C (v := .ref (q 0)) 0 (by decide) kf12_7 rfl dX12_weighs_71 ?_
            refine j_bipush C (v := (nI 66)) dX12_weighs_74 (by decide) ?_
            refine j_iconst C (v := (nI 3)) dX12_weighs_76 (by decide) ?_
            refine j_iload_n C 3 dX12_weighs_77 rfl ?_
            refine j_imulN C dX12_weighs_78 ?_
            refine j_iaddN C dX12_weighs_79 ?_
            refine j_iconst C (v := (nI 2)) dX12_weighs_80 (by decide) ?_
            refine j_iaddN C dX12_weighs_81 ?_
            refine rl_row C (66 + 3 * i + 2) rfl (by omega) dX12_weighs_82 ?_
            refine j_goto C 87 dX12_weighs_83 (by decide) ?_
            refine j_iadd C dX12_weighs_87 ?_
            refine j_istore_n C [(2, .int (a + (row (66 + 3 * i + 2)))), (0, .ref o), (1, .int (nI p)), (3, .int (nI i))] dX12_weighs_88 (by decide) rfl ?_
            refine j_iinc C (v := (nI (i + 1))) 3 [(3, .int (nI (i + 1))), (2, .int (a + (row (66 + 3 * i + 2)))), (0, .ref o), (1, .int (nI p))] dX12_weighs_89 rfl (nI_1 _) (by decide) rfl ?_
            refine j_goto C 32 dX12_weighs_92 (by decide) ?_
            refine j_L [2, 3, 1, 0] [(0, .ref o), (1, .int (nI p)), (2, .int (a + (row (66 + 3 * i + 2)))), (3, .int (nI (i + 1)))] rfl ?_
            exact ih (i + 1, a + (row (66 + 3 * i + 2))) (⟨by dsimp only; omega, by dsimp only; rw [sumW, ← ha, if_pos ⟨c56, c67⟩]⟩) (by dsimp only; omega)
    · skip
      refine j_aload_n C 0 dX12_weighs_21 rfl ?_
      refine rg C (v := .int (V 17)) 17 (by decide) kf12_178 rfl dX12_weighs_22 ?_
      refine j_goto C 29 dX12_weighs_25 (by decide) ?_
      refine j_istore_n C [(2, .int (V 17)), (0, .ref o), (1, .int (nI p))] dX12_weighs_29 (by decide) rfl ?_
      refine j_iconst C (v := (nI 0)) dX12_weighs_30 (by decide) ?_
      refine j_istore_n C [(3, .int (nI 0)), (2, .int (V 17)), (0, .ref o), (1, .int (nI p))] dX12_weighs_31 (by decide) rfl ?_
      refine j_L [2, 3, 1, 0] [(0, .ref o), (1, .int (nI p)), (2, .int (V 17)), (3, .int (nI 0))] rfl ?_
      refine j_loop (X := Nat × Int32) (fun (z : Nat × Int32) => match z with | (i, a) => i ≤ nw ∧ a = sumW row (V 15) p (V 17) i) (fun (z : Nat × Int32) => match z with | (i, a) => nw - i) (fun (z : Nat × Int32) => match z with | (i, a) => (sR V row kept tried bf fd pk bo so sh mv tr)) (fun (z : Nat × Int32) => match z with | (i, a) => [(0, .ref o), (1, .int (nI p)), (2, .int a), (3, .int (nI i))]) (0, (V 17)) (⟨Nat.zero_le _, rfl⟩) rfl rfl ?_
      rintro ⟨i, a⟩ ⟨hi, ha⟩ ih
      try dsimp only at ih ⊢
      refine j_iload_n C 3 dX12_weighs_32 rfl ?_
      refine j_aload_n C 0 dX12_weighs_33 rfl ?_
      refine rg C (v := .ref (q 0)) 0 (by decide) kf12_7 rfl dX12_weighs_34 ?_
      refine j_bipush C (v := (nI 8)) dX12_weighs_37 (by decide) ?_
      refine rl_row C 8 rfl (by omega) dX12_weighs_39 ?_
      refine j_v (nI nw) e8 ?_
      refine j_icmp_ge C 95 dX12_weighs_40 (by decide) (fun c40 => ?_) (fun c40 => ?_)
      · rw [nI_leI (by omega) (by omega)] at c40
        refine j_aload_n C 0 dX12_weighs_95 rfl ?_
        refine j_iload_n C 1 dX12_weighs_96 rfl ?_
        refine j_iconst C (v := (nI 0)) dX12_weighs_97 (by decide) ?_
        refine j_callV (As := [.int (nI p), .int (nI 0)]) (rest := []) C vw12_its (c_its p 0 (by omega)) rRcv rfl (Nat.le_of_ble_eq_true rfl) dX12_weighs_98 (by decide) ?_
        rintro _ _ ⟨rfl, rfl⟩
        refine j_bipush C (v := (nI 6)) dX12_weighs_101 (by decide) ?_
        refine j_icmp_ne C 117 dX12_weighs_103 (by decide) (fun c103 => ?_) (fun c103 => ?_)
        · skip
          refine j_iload_n C 2 dX12_weighs_117 rfl ?_
          refine j_iret C dX12_weighs_118 ?_
          obtain rfl : i = nw := by omega
          subst ha
          refine ⟨?_, rfl⟩
          unfold wS
          rw [if_neg c5, if_pos c18, if_neg c103]
        · skip
          refine j_iload_n C 2 dX12_weighs_106 rfl ?_
          refine j_aload_n C 0 dX12_weighs_107 rfl ?_
          refine j_iload_n C 1 dX12_weighs_108 rfl ?_
          refine j_iconst C (v := (nI 1)) dX12_weighs_109 (by decide) ?_
          refine j_callV (As := [.int (nI p), .int (nI 1)]) (rest := [.int a]) C vw12_its (c_its p 1 (by omega)) rRcv rfl (Nat.le_of_ble_eq_true rfl) dX12_weighs_110 (by decide) ?_
          rintro _ _ ⟨rfl, rfl⟩
          refine j_iadd C dX12_weighs_113 ?_
          refine j_goto C 118 dX12_weighs_114 (by decide) ?_
          refine j_iret C dX12_weighs_118 ?_
          obtain rfl : i = nw := by omega
          subst ha
          refine ⟨?_, rfl⟩
          unfold wS
          rw [if_neg c5, if_pos c18, if_pos c103]
      · rw [nI_leI (by omega) (by omega)] at c40
        refine j_iload_n C 2 dX12_weighs_43 rfl ?_
        refine j_aload_n C 0 dX12_weighs_44 rfl ?_
        refine rg C (v := .ref (q 0)) 0 (by decide) kf12_7 rfl dX12_weighs_45 ?_
        refine j_bipush C (v := (nI 66)) dX12_weighs_48 (by decide) ?_
        refine j_iconst C (v := (nI 3)) dX12_weighs_50 (by decide) ?_
        refine j_iload_n C 3 dX12_weighs_51 rfl ?_
        refine j_imulN C dX12_weighs_52 ?_
        refine j_iaddN C dX12_weighs_53 ?_
        refine rl_row C (66 + 3 * i) rfl (by omega) dX12_weighs_54 ?_
        refine j_iload_n C 1 dX12_weighs_55 rfl ?_
        refine j_icmp_ne C 86 dX12_weighs_56 (by decide) (fun c56 => ?_) (fun c56 => ?_)
        · skip
          refine j_iconst C (v := (nI 0)) dX12_weighs_86 (by decide) ?_
          refine j_iadd C dX12_weighs_87 ?_
          refine j_istore_n C [(2, .int (a + (nI 0))), (0, .ref o), (1, .int (nI p)), (3, .int (nI i))] dX12_weighs_88 (by decide) rfl ?_
          refine j_iinc C (v := (nI (i + 1))) 3 [(3, .int (nI (i + 1))), (2, .int (a + (nI 0))), (0, .ref o), (1, .int (nI p))] dX12_weighs_89 rfl (nI_1 _) (by decide) rfl ?_
          refine j_goto C 32 dX12_weighs_92 (by decide) ?_
          refine j_L [2, 3, 1, 0] [(0, .ref o), (1, .int (nI p)), (2, .int (a + (nI 0))), (3, .int (nI (i + 1)))] rfl ?_
          exact ih (i + 1, a + (nI 0)) (⟨by dsimp only; omega, by dsimp only; rw [sumW, ← ha, if_neg (fun h => c56 h.1)]⟩) (by dsimp only; omega)
        · skip
          refine j_aload_n C 0 dX12_weighs_59 rfl ?_
          refine rg C (v := .int (V 15)) 15 (by decide) kf12_181 rfl dX12_weighs_60 ?_
          refine j_iload_n C 3 dX12_weighs_63 rfl ?_
          refine j_ishr C dX12_weighs_64 ?_
          refine j_iconst C (v := (nI 1)) dX12_weighs_65 (by decide) ?_
          refine j_iand C dX12_weighs_66 ?_
          refine j_if_ne C 86 dX12_weighs_67 (by decide) (fun c67 => ?_) (fun c67 => ?_)
          · skip
            refine j_iconst C (v := (nI 0)) dX12_weighs_86 (by decide) ?_
            refine j_iadd C dX12_weighs_87 ?_
            refine j_istore_n C [(2, .int (a + (nI 0))), (0, .ref o), (1, .int (nI p)), (3, .int (nI i))] dX12_weighs_88 (by decide) rfl ?_
            refine j_iinc C (v := (nI (i + 1))) 3 [(3, .int (nI (i + 1))), (2, .int (a + (nI 0))), (0, .ref o), (1, .int (nI p))] dX12_weighs_89 rfl (nI_1 _) (by decide) rfl ?_
            refine j_goto C 32 dX12_weighs_92 (by decide) ?_
            refine j_L [2, 3, 1, 0] [(0, .ref o), (1, .int (nI p)), (2, .int (a + (nI 0))), (3, .int (nI (i + 1)))] rfl ?_
            exact ih (i + 1, a + (nI 0)) (⟨by dsimp only; omega, by dsimp only; rw [sumW, ← ha, if_neg (fun h => c67 h.2)]⟩) (by dsimp only; omega)
          · skip
            refine j_aload_n C 0 dX12_weighs_70 rfl ?_
            refine rg C (v := .ref (q 0)) 0 (by decide) kf12_7 rfl dX12_weighs_71 ?_
            refine j_bipush C (v := (nI 66)) dX12_weighs_74 (by decide) ?_
            refine j_iconst C (v := (nI 3)) dX12_weighs_76 (by decide) ?_
            refine j_iload_n C 3 dX12_weighs_77 rfl ?_
            refine j_imulN C dX12_weighs_78 ?_
            refine j_iaddN C dX12_weighs_79 ?_
            refine j_iconst C (v := (nI 2)) dX12_weighs_80 (by decide) ?_
            refine j_iaddN C dX12_weighs_81 ?_
            refine rl_row C (66 + 3 * i + 2) rfl (by omega) dX12_weighs_82 ?_
            refine j_goto C 87 dX12_weighs_83 (by decide) ?_
            refine j_iadd C dX12_weighs_87 ?_
            refine j_istore_n C [(2, .int (a + (row (66 + 3 * i + 2)))), (0, .ref o), (1, .int (nI p)), (3, .int (nI i))] dX12_weighs_88 (by decide) rfl ?_
            refine j_iinc C (v := (nI (i + 1))) 3 [(3, .int (nI (i + 1))), (2, .int (a + (row (66 + 3 * i + 2)))), (0, .ref o), (1, .int (nI p))] dX12_weighs_89 rfl (nI_1 _) (by decide) rfl ?_
            refine j_goto C 32 dX12_weighs_92 (by decide) ?_
            refine j_L [2, 3, 1, 0] [(0, .ref o), (1, .int (nI p)), (2, .int (a + (row (66 + 3 * i + 2)))), (3, .int (nI (i + 1)))] rfl ?_
            exact ih (i + 1, a + (row (66 + 3 * i + 2))) (⟨by dsimp only; omega, by dsimp only; rw [sumW, ← ha, if_pos ⟨c56, c67⟩]⟩) (by dsimp only; omega)
  · skip
    refine j_aload_n C 0 dX12_weighs_8 rfl ?_
    refine rg C (v := .int (V 19)) 19 (by decide) kf12_175 rfl dX12_weighs_9 ?_
    refine j_iret C dX12_weighs_12 ?_
    exact ⟨by unfold wS; rw [if_pos c5], rfl⟩
theorem dX12_eats_0 : decode cX12_eats 0 = .ok (.aload_n 0, 1) := by decide +kernel
theorem dX12_eats_1 : decode cX12_eats 1 = .ok (.iload_n 1, 1) := by decide +kernel
theorem dX12_eats_2 : decode cX12_eats 2 = .ok (.iconst 0, 1) := by decide +kernel
theorem dX12_eats_3 : decode cX12_eats 3 = .ok (.invokevirtual 69, 3) := by decide +kernel
theorem dX12_eats_6 : decode cX12_eats 6 = .ok (.tableswitch 53 1 6 #[38, 53, 53, 38, 40, 42], 38) := by decide +kernel
theorem dX12_eats_44 : decode cX12_eats 44 = .ok (.iconst 1, 1) := by decide +kernel
theorem dX12_eats_45 : decode cX12_eats 45 = .ok (.ireturn, 1) := by decide +kernel
theorem dX12_eats_46 : decode cX12_eats 46 = .ok (.iconst 3, 1) := by decide +kernel
theorem dX12_eats_47 : decode cX12_eats 47 = .ok (.ireturn, 1) := by decide +kernel
theorem dX12_eats_48 : decode cX12_eats 48 = .ok (.iconst 2, 1) := by decide +kernel
theorem dX12_eats_49 : decode cX12_eats 49 = .ok (.aload_n 0, 1) := by decide +kernel
theorem dX12_eats_50 : decode cX12_eats 50 = .ok (.iload_n 1, 1) := by decide +kernel
theorem dX12_eats_51 : decode cX12_eats 51 = .ok (.iconst 1, 1) := by decide +kernel
theorem dX12_eats_52 : decode cX12_eats 52 = .ok (.invokevirtual 69, 3) := by decide +kernel
theorem dX12_eats_55 : decode cX12_eats 55 = .ok (.iconst 2, 1) := by decide +kernel
theorem dX12_eats_56 : decode cX12_eats 56 = .ok (.irem, 1) := by decide +kernel
theorem dX12_eats_57 : decode cX12_eats 57 = .ok (.iadd, 1) := by decide +kernel
theorem dX12_eats_58 : decode cX12_eats 58 = .ok (.ireturn, 1) := by decide +kernel
theorem dX12_eats_59 : decode cX12_eats 59 = .ok (.iconst 2, 1) := by decide +kernel
theorem dX12_eats_60 : decode cX12_eats 60 = .ok (.ireturn, 1) := by decide +kernel
set_option maxHeartbeats 2000000 in
set_option maxRecDepth 20000 in
theorem c_eats {l : Launch} {D : va_G} {cI cG cW : ClassId} {o : Nat} {q : Nat → Nat} {V row kept tried bf fd pk bo so sh mv tr : Nat → Int32} (p : Nat) {k : Nat} (ek : row (30 + 6 * p + 0) = nI k) (hk : k ≤ 6) (hp : p < 6) : Ci l yX12_eats cX12_eats 2 (some .int) 1 D (tyL cI cG cW) (wR cI o q) [.ref o, .int (nI p)] (sR V row kept tried bf fd pk bo so sh mv tr) (fun r τ => r = eatF row p ∧ τ = sR V row kept tried bf fd pk bo so sh mv tr) := by
  refine Ci.of (by decide) (Nat.le_of_ble_eq_true rfl) ?_
  intro p_ e_ s_ m_ b_ M_ c_ A_ C
  replace C : Cx _ _ _ _ _ _ _ _ RX12 _ _ _ _ := C
  refine j_L [0, 1] [(0, .ref o), (1, .int (nI p))] rfl ?_
  refine j_aload_n C 0 dX12_eats_0 rfl ?_
  refine j_iload_n C 1 dX12_eats_1 rfl ?_
  refine j_iconst C (v := (nI 0)) dX12_eats_2 (by decide) ?_
  refine j_callV (As := [.int (nI p), .int (nI 0)]) (rest := []) C vw12_its (c_its p 0 (by omega)) rRcv rfl (Nat.le_of_ble_eq_true rfl) dX12_eats_3 (by decide) ?_
  rintro _ _ ⟨rfl, rfl⟩
  refine j_v (nI k) ek ?_
  rcases (show k = 0 ∨ k = 1 ∨ k = 2 ∨ k = 3 ∨ k = 4 ∨ k = 5 ∨ k = 6 by omega) with rfl | rfl | rfl | rfl | rfl | rfl | rfl
  · refine j_tblOut C 59 dX12_eats_6 (by decide) (by decide) ?_
    refine j_iconst C (v := (nI 2)) dX12_eats_59 (by decide) ?_
    refine j_iret C dX12_eats_60 ?_
    exact ⟨by rw [eatF_eq ek (by decide)]; rfl, rfl⟩
  · refine j_tblIn C (off := 38) 44 dX12_eats_6 (by decide) (by decide) (by decide) (by decide) ?_
    refine j_iconst C (v := (nI 1)) dX12_eats_44 (by decide) ?_
    refine j_iret C dX12_eats_45 ?_
    exact ⟨by rw [eatF_eq ek (by decide)]; rfl, rfl⟩
  · refine j_tblIn C (off := 53) 59 dX12_eats_6 (by decide) (by decide) (by decide) (by decide) ?_
    refine j_iconst C (v := (nI 2)) dX12_eats_59 (by decide) ?_
    refine j_iret C dX12_eats_60 ?_
    exact ⟨by rw [eatF_eq ek (by decide)]; rfl, rfl⟩
  · refine j_tblIn C (off := 53) 59 dX12_eats_6 (by decide) (by decide) (by decide) (by decide) ?_
    refine j_iconst C (v := (nI 2)) dX12_eats_59 (by decide) ?_
    refine j_iret C dX12_eats_60 ?_
    exact ⟨by rw [eatF_eq ek (by decide)]; rfl, rfl⟩
  · refine j_tblIn C (off := 38) 44 dX12_eats_6 (by decide) (by decide) (by decide) (by decide) ?_
    refine j_iconst C (v := (nI 1)) dX12_eats_44 (by decide) ?_
    refine j_iret C dX12_eats_45 ?_
    exact ⟨by rw [eatF_eq ek (by decide)]; rfl, rfl⟩
  · refine j_tblIn C (off := 40) 46 dX12_eats_6 (by decide) (by decide) (by decide) (by decide) ?_
    refine j_iconst C (v := (nI 3)) dX12_eats_46 (by decide) ?_
    refine j_iret C dX12_eats_47 ?_
    exact ⟨by rw [eatF_eq ek (by decide)]; rfl, rfl⟩
  · refine j_tblIn C (off := 42) 48 dX12_eats_6 (by decide) (by decide) (by decide) (by decide) ?_
    refine j_iconst C (v := (nI 2)) dX12_eats_48 (by decide) ?_
    refine j_aload_n C 0 dX12_eats_49 rfl ?_
    refine j_iload_n C 1 dX12_eats_50 rfl ?_
    refine j_iconst C (v := (nI 1)) dX12_eats_51 (by decide) ?_
    refine j_callV (As := [.int (nI p), .int (nI 1)]) (rest := [.int (nI 2)]) C vw12_its (c_its p 1 (by omega)) rRcv rfl (Nat.le_of_ble_eq_true rfl) dX12_eats_52 (by decide) ?_
    rintro _ _ ⟨rfl, rfl⟩
    refine j_iconst C (v := (nI 2)) dX12_eats_55 (by decide) ?_
    refine j_irem C dX12_eats_56 (by decide) ?_
    refine j_iadd C dX12_eats_57 ?_
    refine j_iret C dX12_eats_58 ?_
    exact ⟨by rw [eatF_eq ek (by decide)]; rfl, rfl⟩
theorem dX12_bends_0 : decode cX12_bends 0 = .ok (.aload_n 0, 1) := by decide +kernel
theorem dX12_bends_1 : decode cX12_bends 1 = .ok (.iload_n 1, 1) := by decide +kernel
theorem dX12_bends_2 : decode cX12_bends 2 = .ok (.iconst 1, 1) := by decide +kernel
theorem dX12_bends_3 : decode cX12_bends 3 = .ok (.invokevirtual 69, 3) := by decide +kernel
theorem dX12_bends_6 : decode cX12_bends 6 = .ok (.istore_n 2, 1) := by decide +kernel
theorem dX12_bends_7 : decode cX12_bends 7 = .ok (.aload_n 0, 1) := by decide +kernel
theorem dX12_bends_8 : decode cX12_bends 8 = .ok (.iconst 0, 1) := by decide +kernel
theorem dX12_bends_9 : decode cX12_bends 9 = .ok (.aload_n 0, 1) := by decide +kernel
theorem dX12_bends_10 : decode cX12_bends 10 = .ok (.iload_n 1, 1) := by decide +kernel
theorem dX12_bends_11 : decode cX12_bends 11 = .ok (.invokevirtual 83, 3) := by decide +kernel
theorem dX12_bends_14 : decode cX12_bends 14 = .ok (.iload_n 2, 1) := by decide +kernel
theorem dX12_bends_15 : decode cX12_bends 15 = .ok (.aload_n 0, 1) := by decide +kernel
theorem dX12_bends_16 : decode cX12_bends 16 = .ok (.getfield 7, 3) := by decide +kernel
theorem dX12_bends_19 : decode cX12_bends 19 = .ok (.iconst 0, 1) := by decide +kernel
theorem dX12_bends_20 : decode cX12_bends 20 = .ok (.iaload, 1) := by decide +kernel
theorem dX12_bends_21 : decode cX12_bends 21 = .ok (.invokevirtual 166, 3) := by decide +kernel
theorem dX12_bends_24 : decode cX12_bends 24 = .ok (.istore_n 3, 1) := by decide +kernel
theorem dX12_bends_25 : decode cX12_bends 25 = .ok (.aload_n 0, 1) := by decide +kernel
theorem dX12_bends_26 : decode cX12_bends 26 = .ok (.iload_n 1, 1) := by decide +kernel
theorem dX12_bends_27 : decode cX12_bends 27 = .ok (.invokevirtual 184, 3) := by decide +kernel
theorem dX12_bends_30 : decode cX12_bends 30 = .ok (.ifCond .le 13, 3) := by decide +kernel
theorem dX12_bends_33 : decode cX12_bends 33 = .ok (.iload_n 3, 1) := by decide +kernel
theorem dX12_bends_34 : decode cX12_bends 34 = .ok (.ifCond .le 9, 3) := by decide +kernel
theorem dX12_bends_37 : decode cX12_bends 37 = .ok (.iload_n 3, 1) := by decide +kernel
theorem dX12_bends_38 : decode cX12_bends 38 = .ok (.iconst 1, 1) := by decide +kernel
theorem dX12_bends_39 : decode cX12_bends 39 = .ok (.isub, 1) := by decide +kernel
theorem dX12_bends_40 : decode cX12_bends 40 = .ok (.goto 4, 3) := by decide +kernel
theorem dX12_bends_43 : decode cX12_bends 43 = .ok (.iload_n 3, 1) := by decide +kernel
theorem dX12_bends_44 : decode cX12_bends 44 = .ok (.istore 4, 2) := by decide +kernel
theorem dX12_bends_46 : decode cX12_bends 46 = .ok (.aload_n 0, 1) := by decide +kernel
theorem dX12_bends_47 : decode cX12_bends 47 = .ok (.iload_n 1, 1) := by decide +kernel
theorem dX12_bends_48 : decode cX12_bends 48 = .ok (.iconst 0, 1) := by decide +kernel
theorem dX12_bends_49 : decode cX12_bends 49 = .ok (.invokevirtual 69, 3) := by decide +kernel
theorem dX12_bends_52 : decode cX12_bends 52 = .ok (.tableswitch 60 1 6 #[40, 48, 54, 43, 50, 54], 40) := by decide +kernel
theorem dX12_bends_92 : decode cX12_bends 92 = .ok (.iload 4, 2) := by decide +kernel
theorem dX12_bends_94 : decode cX12_bends 94 = .ok (.ireturn, 1) := by decide +kernel
theorem dX12_bends_95 : decode cX12_bends 95 = .ok (.iload 4, 2) := by decide +kernel
theorem dX12_bends_97 : decode cX12_bends 97 = .ok (.iconst 1, 1) := by decide +kernel
theorem dX12_bends_98 : decode cX12_bends 98 = .ok (.iadd, 1) := by decide +kernel
theorem dX12_bends_99 : decode cX12_bends 99 = .ok (.ireturn, 1) := by decide +kernel
theorem dX12_bends_100 : decode cX12_bends 100 = .ok (.iconst 0, 1) := by decide +kernel
theorem dX12_bends_101 : decode cX12_bends 101 = .ok (.ireturn, 1) := by decide +kernel
theorem dX12_bends_102 : decode cX12_bends 102 = .ok (.iload_n 2, 1) := by decide +kernel
theorem dX12_bends_103 : decode cX12_bends 103 = .ok (.iconst 2, 1) := by decide +kernel
theorem dX12_bends_104 : decode cX12_bends 104 = .ok (.idiv, 1) := by decide +kernel
theorem dX12_bends_105 : decode cX12_bends 105 = .ok (.ireturn, 1) := by decide +kernel
theorem dX12_bends_106 : decode cX12_bends 106 = .ok (.iload_n 3, 1) := by decide +kernel
theorem dX12_bends_107 : decode cX12_bends 107 = .ok (.iload_n 2, 1) := by decide +kernel
theorem dX12_bends_108 : decode cX12_bends 108 = .ok (.iconst 3, 1) := by decide +kernel
theorem dX12_bends_109 : decode cX12_bends 109 = .ok (.irem, 1) := by decide +kernel
theorem dX12_bends_110 : decode cX12_bends 110 = .ok (.iadd, 1) := by decide +kernel
theorem dX12_bends_111 : decode cX12_bends 111 = .ok (.ireturn, 1) := by decide +kernel
theorem dX12_bends_112 : decode cX12_bends 112 = .ok (.iload_n 3, 1) := by decide +kernel
theorem dX12_bends_113 : decode cX12_bends 113 = .ok (.ireturn, 1) := by decide +kernel
set_option maxHeartbeats 2000000 in
set_option maxRecDepth 20000 in
theorem c_bends {l : Launch} {D : va_G} {cI cG cW : ClassId} {o : Nat} {q : Nat → Nat} {V row kept tried bf fd pk bo so sh mv tr : Nat → Int32} (p : Nat) {nc np nw : Nat} (hI : Iv row nc np nw) (hp : p < np) : Ci l yX12_bends cX12_bends 5 (some .int) 81 D (tyL cI cG cW) (wR cI o q) [.ref o, .int (nI p)] (sR V row kept tried bf fd pk bo so sh mv tr) (fun r τ => ∃ V1, VE V1 V ∧ r = bendF row np (wS V row nw p) p ∧ τ = sR V1 row kept tried bf fd pk bo so sh mv tr) := by
  refine Ci.of (by decide) (Nat.le_of_ble_eq_true rfl) ?_
  intro p_ e_ s_ m_ b_ M_ c_ A_ C
  replace C : Cx _ _ _ _ _ _ _ _ RX12 _ _ _ _ := C
  refine j_L [0, 1] [(0, .ref o), (1, .int (nI p))] rfl ?_
  obtain ⟨⟨e2, hc2, hc10⟩, ⟨e3, hn6⟩, ⟨e8, hw8⟩, hP, hE, hLo, hT0, hT1⟩ := id hI
  obtain ⟨⟨k, hk, ek⟩, ⟨mm, hm, em⟩, ⟨a, ha, ea⟩, hway, ⟨b, hb, eb⟩, ⟨h, hh, eh⟩⟩ := hP p hp
  refine j_aload_n C 0 dX12_bends_0 rfl ?_
  refine j_iload_n C 1 dX12_bends_1 rfl ?_
  refine j_iconst C (v := (nI 1)) dX12_bends_2 (by decide) ?_
  refine j_callV (As := [.int (nI p), .int (nI 1)]) (rest := []) C vw12_its (c_its p 1 (by omega)) rRcv rfl (Nat.le_of_ble_eq_true rfl) dX12_bends_3 (by decide) ?_
  rintro _ _ ⟨rfl, rfl⟩
  refine j_istore_n C [(2, .int (row (30 + 6 * p + 1))), (0, .ref o), (1, .int (nI p))] dX12_bends_6 (by decide) rfl ?_
  refine j_aload_n C 1 dX12_bends_7 rfl ?_
  refine j_iconst C (v := (nI 0)) dX12_bends_8 (by decide) ?_
  refine j_aload_n C 1 dX12_bends_9 rfl ?_
  refine j_iload_n C 2 dX12_bends_10 rfl ?_
  refine j_callV (As := [.int (nI p)]) (rest := [.int (nI 0), .ref o]) C vw12_weighs (c_weighs (np := np) p e8 hw8 (by omega)) rRcv rfl (Nat.le_of_ble_eq_true rfl) dX12_bends_11 (by decide) ?_
  rintro _ _ ⟨rfl, rfl⟩
  refine j_iload_n C 0 dX12_bends_14 rfl ?_
  refine j_aload_n C 1 dX12_bends_15 rfl ?_
  refine rg C (v := .ref (q 0)) 0 (by decide) kf12_7 rfl dX12_bends_16 ?_
  refine j_iconst C (v := (nI 0)) dX12_bends_19 (by decide) ?_
  refine rl_row C 0 rfl (by omega) dX12_bends_20 ?_
  refine j_callV (As := [.int (nI 0), .int (wS V row nw p), .int (row (30 + 6 * p + 1)), .int (row 0)]) (rest := []) C vw12_lawOf (c_lawOf 0 (by decide) hT0) rRcv rfl (Nat.le_of_ble_eq_true rfl) dX12_bends_21 (by decide) ?_
  rintro _ _ ⟨Vx1, hVx1, rfl, rfl⟩
  refine j_istore_n C [(3, .int (lawF row 0 (wS V row nw p) (row (30 + 6 * p + 1)) (row 0))), (2, .int (row (30 + 6 * p + 1))), (0, .ref o), (1, .int (nI p))] dX12_bends_24 (by decide) rfl ?_
  refine j_aload_n C 2 dX12_bends_25 rfl ?_
  refine j_iload_n C 3 dX12_bends_26 rfl ?_
  refine j_callV (As := [.int (nI p)]) (rest := []) C vw12_besides (c_besides p e3 hn6 hp) rRcv rfl (Nat.le_of_ble_eq_true rfl) dX12_bends_27 (by decide) ?_
  rintro _ _ ⟨rfl, rfl⟩
  refine j_if_le C 43 dX12_bends_30 (by decide) (fun c30 => ?_) (fun c30 => ?_)
  · skip
    refine j_iload_n C 0 dX12_bends_43 rfl ?_
    refine j_istore C [(4, .int (lawF row 0 (wS V row nw p) (row (30 + 6 * p + 1)) (row 0))), (3, .int (lawF row 0 (wS V row nw p) (row (30 + 6 * p + 1)) (row 0))), (2, .int (row (30 + 6 * p + 1))), (0, .ref o), (1, .int (nI p))] dX12_bends_44 (by decide) rfl ?_
    refine j_eqL [(4, .int (lessF (lawF row 0 (wS V row nw p) (row (30 + 6 * p + 1)) (row 0)) (besF row p np))), (3, .int (lawF row 0 (wS V row nw p) (row (30 + 6 * p + 1)) (row 0))), (2, .int (row (30 + 6 * p + 1))), (0, .ref o), (1, .int (nI p))] (by rw [lessF_f c30]) ?_
    refine j_aload_n C 3 dX12_bends_46 rfl ?_
    refine j_iload_n C 4 dX12_bends_47 rfl ?_
    refine j_iconst C (v := (nI 0)) dX12_bends_48 (by decide) ?_
    refine j_callV (As := [.int (nI p), .int (nI 0)]) (rest := []) C vw12_its (c_its p 0 (by omega)) rRcv rfl (Nat.le_of_ble_eq_true rfl) dX12_bends_49 (by decide) ?_
    rintro _ _ ⟨rfl, rfl⟩
    refine j_v (nI k) ek ?_
    rcases (show k = 0 ∨ k = 1 ∨ k = 2 ∨ k = 3 ∨ k = 4 ∨ k = 5 ∨ k = 6 by omega) with rfl | rfl | rfl | rfl | rfl | rfl | rfl
    · refine j_tblOut C 112 dX12_bends_52 (by decide) (by decide) ?_
      refine j_iload_n C 1 dX12_bends_112 rfl ?_
      refine j_iret C dX12_bends_113 ?_
      exact ⟨_, hVx1, by rw [bendF_eq ek (by decide)]; rfl, rfl⟩
    · refine j_tblIn C (off := 40) 92 dX12_bends_52 (by decide) (by decide) (by decide) (by decide) ?_
      refine j_iload C 0 dX12_bends_92 rfl ?_
      refine j_iret C dX12_bends_94 ?_
      exact ⟨_, hVx1, by rw [bendF_eq ek (by decide)]; rfl, rfl⟩
    · refine j_tblIn C (off := 48) 100 dX12_bends_52 (by decide) (by decide) (by decide) (by decide) ?_
      refine j_iconst C (v := (nI 0)) dX12_bends_100 (by decide) ?_
      refine j_iret C dX12_bends_101 ?_
      exact ⟨_, hVx1, by rw [bendF_eq ek (by decide)]; rfl, rfl⟩
    · refine j_tblIn C (off := 54) 106 dX12_bends_52 (by decide) (by decide) (by decide) (by decide) ?_
      refine j_iload_n C 1 dX12_bends_106 rfl ?_
      refine j_iload_n C 2 dX12_bends_107 rfl ?_
      refine j_iconst C (v := (nI 3)) dX12_bends_108 (by decide) ?_
      refine j_irem C dX12_bends_109 (by decide) ?_
      refine j_iadd C dX12_bends_110 ?_
      refine j_iret C dX12_bends_111 ?_
      exact ⟨_, hVx1, by rw [bendF_eq ek (by decide)]; rfl, rfl⟩
    · refine j_tblIn C (off := 43) 95 dX12_bends_52 (by decide) (by decide) (by decide) (by decide) ?_
      refine j_iload C 0 dX12_bends_95 rfl ?_
      refine j_iconst C (v := (nI 1)) dX12_bends_97 (by decide) ?_
      refine j_iadd C dX12_bends_98 ?_
      refine j_iret C dX12_bends_99 ?_
      exact ⟨_, hVx1, by rw [bendF_eq ek (by decide)]; rfl, rfl⟩
    · refine j_tblIn C (off := 50) 102 dX12_bends_52 (by decide) (by decide) (by decide) (by decide) ?_
      refine j_iload_n C 2 dX12_bends_102 rfl ?_
      refine j_iconst C (v := (nI 2)) dX12_bends_103 (by decide) ?_
      refine j_idiv C dX12_bends_104 (by decide) ?_
      refine j_iret C dX12_bends_105 ?_
      exact ⟨_, hVx1, by rw [bendF_eq ek (by decide)]; rfl, rfl⟩
    · refine j_tblIn C (off := 54) 106 dX12_bends_52 (by decide) (by decide) (by decide) (by decide) ?_
      refine j_iload_n C 1 dX12_bends_106 rfl ?_
      refine j_iload_n C 2 dX12_bends_107 rfl ?_
      refine j_iconst C (v := (nI 3)) dX12_bends_108 (by decide) ?_
      refine j_irem C dX12_bends_109 (by decide) ?_
      refine j_iadd C dX12_bends_110 ?_
      refine j_iret C dX12_bends_111 ?_
      exact ⟨_, hVx1, by rw [bendF_eq ek (by decide)]; rfl, rfl⟩
  · skip
    refine j_iload_n C 0 dX12_bends_33 rfl ?_
    refine j_if_le C 43 dX12_bends_34 (by decide) (fun c34 => ?_) (fun c34 => ?_)
    · skip
      refine j_iload_n C 0 dX12_bends_43 rfl ?_
      refine j_istore C [(4, .int (lawF row 0 (wS V row nw p) (row (30 + 6 * p + 1)) (row 0))), (3, .int (lawF row 0 (wS V row nw p) (row (30 + 6 * p + 1)) (row 0))), (2, .int (row (30 + 6 * p + 1))), (0, .ref o), (1, .int (nI p))] dX12_bends_44 (by decide) rfl ?_
      refine j_eqL [(4, .int (lessF (lawF row 0 (wS V row nw p) (row (30 + 6 * p + 1)) (row 0)) (besF row p np))), (3, .int (lawF row 0 (wS V row nw p) (row (30 + 6 * p + 1)) (row 0))), (2, .int (row (30 + 6 * p + 1))), (0, .ref o), (1, .int (nI p))] (by rw [lessF_g c34]) ?_
      refine j_aload_n C 3 dX12_bends_46 rfl ?_
      refine j_iload_n C 4 dX12_bends_47 rfl ?_
      refine j_iconst C (v := (nI 0)) dX12_bends_48 (by decide) ?_
      refine j_callV (As := [.int (nI p), .int (nI 0)]) (rest := []) C vw12_its (c_its p 0 (by omega)) rRcv rfl (Nat.le_of_ble_eq_true rfl) dX12_bends_49 (by decide) ?_
      rintro _ _ ⟨rfl, rfl⟩
      refine j_v (nI k) ek ?_
      rcases (show k = 0 ∨ k = 1 ∨ k = 2 ∨ k = 3 ∨ k = 4 ∨ k = 5 ∨ k = 6 by omega) with rfl | rfl | rfl | rfl | rfl | rfl | rfl
      · refine j_tblOut C 112 dX12_bends_52 (by decide) (by decide) ?_
        refine j_iload_n C 1 dX12_bends_112 rfl ?_
        refine j_iret C dX12_bends_113 ?_
        exact ⟨_, hVx1, by rw [bendF_eq ek (by decide)]; rfl, rfl⟩
      · refine j_tblIn C (off := 40) 92 dX12_bends_52 (by decide) (by decide) (by decide) (by decide) ?_
        refine j_iload C 0 dX12_bends_92 rfl ?_
        refine j_iret C dX12_bends_94 ?_
        exact ⟨_, hVx1, by rw [bendF_eq ek (by decide)]; rfl, rfl⟩
      · refine j_tblIn C (off := 48) 100 dX12_bends_52 (by decide) (by decide) (by decide) (by decide) ?_
        refine j_iconst C (v := (nI 0)) dX12_bends_100 (by decide) ?_
        refine j_iret C dX12_bends_101 ?_
        exact ⟨_, hVx1, by rw [bendF_eq ek (by decide)]; rfl, rfl⟩
      · refine j_tblIn C (off := 54) 106 dX12_bends_52 (by decide) (by decide) (by decide) (by decide) ?_
        refine j_iload_n C 1 dX12_bends_106 rfl ?_
        refine j_iload_n C 2 dX12_bends_107 rfl ?_
        refine j_iconst C (v := (nI 3)) dX12_bends_108 (by decide) ?_
        refine j_irem C dX12_bends_109 (by decide) ?_
        refine j_iadd C dX12_bends_110 ?_
        refine j_iret C dX12_bends_111 ?_
        exact ⟨_, hVx1, by rw [bendF_eq ek (by decide)]; rfl, rfl⟩
      · refine j_tblIn C (off := 43) 95 dX12_bends_52 (by decide) (by decide) (by decide) (by decide) ?_
        refine j_iload C 0 dX12_bends_95 rfl ?_
        refine j_iconst C (v := (nI 1)) dX12_bends_97 (by decide) ?_
        refine j_iadd C dX12_bends_98 ?_
        refine j_iret C dX12_bends_99 ?_
        exact ⟨_, hVx1, by rw [bendF_eq ek (by decide)]; rfl, rfl⟩
      · refine j_tblIn C (off := 50) 102 dX12_bends_52 (by decide) (by decide) (by decide) (by decide) ?_
        refine j_iload_n C 2 dX12_bends_102 rfl ?_
        refine j_iconst C (v := (nI 2)) dX12_bends_103 (by decide) ?_
        refine j_idiv C dX12_bends_104 (by decide) ?_
        refine j_iret C dX12_bends_105 ?_
        exact ⟨_, hVx1, by rw [bendF_eq ek (by decide)]; rfl, rfl⟩
      · refine j_tblIn C (off := 54) 106 dX12_bends_52 (by decide) (by decide) (by decide) (by decide) ?_
        refine j_iload_n C 1 dX12_bends_106 rfl ?_
        refine j_iload_n C 2 dX12_bends_107 rfl ?_
        refine j_iconst C (v := (nI 3)) dX12_bends_108 (by decide) ?_
        refine j_irem C dX12_bends_109 (by decide) ?_
        refine j_iadd C dX12_bends_110 ?_
        refine j_iret C dX12_bends_111 ?_
        exact ⟨_, hVx1, by rw [bendF_eq ek (by decide)]; rfl, rfl⟩
    · skip
      refine j_iload_n C 0 dX12_bends_37 rfl ?_
      refine j_iconst C (v := (nI 1)) dX12_bends_38 (by decide) ?_
      refine j_isub C dX12_bends_39 ?_
      refine j_goto C 44 dX12_bends_40 (by decide) ?_
      refine j_istore C [(4, .int ((lawF row 0 (wS V row nw p) (row (30 + 6 * p + 1)) (row 0)) - (nI 1))), (3, .int (lawF row 0 (wS V row nw p) (row (30 + 6 * p + 1)) (row 0))), (2, .int (row (30 + 6 * p + 1))), (0, .ref o), (1, .int (nI p))] dX12_bends_44 (by decide) rfl ?_
      refine j_eqL [(4, .int (lessF (lawF row 0 (wS V row nw p) (row (30 + 6 * p + 1)) (row 0)) (besF row p np))), (3, .int (lawF row 0 (wS V row nw p) (row (30 + 6 * p + 1)) (row 0))), (2, .int (row (30 + 6 * p + 1))), (0, .ref o), (1, .int (nI p))] (by rw [lessF_t c30 c34]) ?_
      refine j_aload_n C 3 dX12_bends_46 rfl ?_
      refine j_iload_n C 4 dX12_bends_47 rfl ?_
      refine j_iconst C (v := (nI 0)) dX12_bends_48 (by decide) ?_
      refine j_callV (As := [.int (nI p), .int (nI 0)]) (rest := []) C vw12_its (c_its p 0 (by omega)) rRcv rfl (Nat.le_of_ble_eq_true rfl) dX12_bends_49 (by decide) ?_
      rintro _ _ ⟨rfl, rfl⟩
      refine j_v (nI k) ek ?_
      rcases (show k = 0 ∨ k = 1 ∨ k = 2 ∨ k = 3 ∨ k = 4 ∨ k = 5 ∨ k = 6 by omega) with rfl | rfl | rfl | rfl | rfl | rfl | rfl
      · refine j_tblOut C 112 dX12_bends_52 (by decide) (by decide) ?_
        refine j_iload_n C 1 dX12_bends_112 rfl ?_
        refine j_iret C dX12_bends_113 ?_
        exact ⟨_, hVx1, by rw [bendF_eq ek (by decide)]; rfl, rfl⟩
      · refine j_tblIn C (off := 40) 92 dX12_bends_52 (by decide) (by decide) (by decide) (by decide) ?_
        refine j_iload C 0 dX12_bends_92 rfl ?_
        refine j_iret C dX12_bends_94 ?_
        exact ⟨_, hVx1, by rw [bendF_eq ek (by decide)]; rfl, rfl⟩
      · refine j_tblIn C (off := 48) 100 dX12_bends_52 (by decide) (by decide) (by decide) (by decide) ?_
        refine j_iconst C (v := (nI 0)) dX12_bends_100 (by decide) ?_
        refine j_iret C dX12_bends_101 ?_
        exact ⟨_, hVx1, by rw [bendF_eq ek (by decide)]; rfl, rfl⟩
      · refine j_tblIn C (off := 54) 106 dX12_bends_52 (by decide) (by decide) (by decide) (by decide) ?_
        refine j_iload_n C 1 dX12_bends_106 rfl ?_
        refine j_iload_n C 2 dX12_bends_107 rfl ?_
        refine j_iconst C (v := (nI 3)) dX12_bends_108 (by decide) ?_
        refine j_irem C dX12_bends_109 (by decide) ?_
        refine j_iadd C dX12_bends_110 ?_
        refine j_iret C dX12_bends_111 ?_
        exact ⟨_, hVx1, by rw [bendF_eq ek (by decide)]; rfl, rfl⟩
      · refine j_tblIn C (off := 43) 95 dX12_bends_52 (by decide) (by decide) (by decide) (by decide) ?_
        refine j_iload C 0 dX12_bends_95 rfl ?_
        refine j_iconst C (v := (nI 1)) dX12_bends_97 (by decide) ?_
        refine j_iadd C dX12_bends_98 ?_
        refine j_iret C dX12_bends_99 ?_
        exact ⟨_, hVx1, by rw [bendF_eq ek (by decide)]; rfl, rfl⟩
      · refine j_tblIn C (off := 50) 102 dX12_bends_52 (by decide) (by decide) (by decide) (by decide) ?_
        refine j_iload_n C 2 dX12_bends_102 rfl ?_
        refine j_iconst C (v := (nI 2)) dX12_bends_103 (by decide) ?_
        refine j_idiv C dX12_bends_104 (by decide) ?_
        refine j_iret C dX12_bends_105 ?_
        exact ⟨_, hVx1, by rw [bendF_eq ek (by decide)]; rfl, rfl⟩
      · refine j_tblIn C (off := 54) 106 dX12_bends_52 (by decide) (by decide) (by decide) (by decide) ?_
        refine j_iload_n C 1 dX12_bends_106 rfl ?_
        refine j_iload_n C 2 dX12_bends_107 rfl ?_
        refine j_iconst C (v := (nI 3)) dX12_bends_108 (by decide) ?_
        refine j_irem C dX12_bends_109 (by decide) ?_
        refine j_iadd C dX12_bends_110 ?_
        refine j_iret C dX12_bends_111 ?_
        exact ⟨_, hVx1, by rw [bendF_eq ek (by decide)]; rfl, rfl⟩

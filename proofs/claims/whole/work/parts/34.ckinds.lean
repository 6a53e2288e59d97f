/-! The class's kinds. -/
theorem dX2_bends_0 : decode cX2_bends 0 = .ok (.iload_n 1, 1) := by decide +kernel
theorem dX2_bends_1 : decode cX2_bends 1 = .ok (.ireturn, 1) := by decide +kernel
set_option maxHeartbeats 2000000 in
set_option maxRecDepth 20000 in
theorem h_X2_bends_25 {l : Launch} {D : va_G} {cI cG cW : ClassId} {q : Nat → Nat} {S : Nat → Int32} {X : Nat → Nat → Int32} {P : Nat → Nat} {v m z : Int32} : Ci l yX2_bends cX2_bends 4 (some .int) 2 D (tyL cI cG cW) (wC cI cG cW q) [.ref (q 25), .int v, .int m, .int z] (S, X, P) (fun r τ => r = v ∧ τ = (S, X, P)) := by
  refine Ci.of (by decide) (Nat.le_of_ble_eq_true rfl) ?_
  intro p_ e_ s_ m_ b_ M_ c_ A_ C
  replace C : Cx _ _ _ _ _ _ _ _ RX2 _ _ _ _ := C
  refine j_L [0, 1, 2, 3] [(0, .ref (q 25)), (1, .int v), (2, .int m), (3, .int z)] rfl ?_
  refine j_iload_n C 1 dX2_bends_0 rfl ?_
  refine j_iret C dX2_bends_1 ?_
  exact ⟨rfl, rfl⟩
theorem dX10_bends_0 : decode cX10_bends 0 = .ok (.iload_n 3, 1) := by decide +kernel
theorem dX10_bends_1 : decode cX10_bends 1 = .ok (.ifCond .eq 13, 3) := by decide +kernel
theorem dX10_bends_4 : decode cX10_bends 4 = .ok (.iconst 0, 1) := by decide +kernel
theorem dX10_bends_5 : decode cX10_bends 5 = .ok (.iload_n 1, 1) := by decide +kernel
theorem dX10_bends_6 : decode cX10_bends 6 = .ok (.iconst 1, 1) := by decide +kernel
theorem dX10_bends_7 : decode cX10_bends 7 = .ok (.isub, 1) := by decide +kernel
theorem dX10_bends_8 : decode cX10_bends 8 = .ok (.invokestatic 7, 3) := by decide +kernel
theorem dX10_bends_11 : decode cX10_bends 11 = .ok (.goto 4, 3) := by decide +kernel
theorem dX10_bends_14 : decode cX10_bends 14 = .ok (.iload_n 1, 1) := by decide +kernel
theorem dX10_bends_15 : decode cX10_bends 15 = .ok (.ireturn, 1) := by decide +kernel
set_option maxHeartbeats 2000000 in
set_option maxRecDepth 20000 in
theorem h_X10_bends_26 {l : Launch} {D : va_G} {cI cG cW : ClassId} {q : Nat → Nat} {S : Nat → Int32} {X : Nat → Nat → Int32} {P : Nat → Nat} {v m z : Int32} : Ci l yX10_bends cX10_bends 4 (some .int) 2 D (tyL cI cG cW) (wC cI cG cW q) [.ref (q 26), .int v, .int m, .int z] (S, X, P) (fun r τ => r = (if z = 0 then v else if nI 0 < v - nI 1 then v - nI 1 else nI 0) ∧ τ = (S, X, P)) := by
  refine Ci.of (by decide) (Nat.le_of_ble_eq_true rfl) ?_
  intro p_ e_ s_ m_ b_ M_ c_ A_ C
  replace C : Cx _ _ _ _ _ _ _ _ RX10 _ _ _ _ := C
  refine j_L [0, 1, 2, 3] [(0, .ref (q 26)), (1, .int v), (2, .int m), (3, .int z)] rfl ?_
  refine j_iload_n C 3 dX10_bends_0 rfl ?_
  refine j_if_eq C 14 dX10_bends_1 (by decide) (fun c1 => ?_) (fun c1 => ?_)
  · skip
    refine j_iload_n C 1 dX10_bends_14 rfl ?_
    refine j_iret C dX10_bends_15 ?_
    exact ⟨by rw [if_pos c1], rfl⟩
  · skip
    refine j_iconst C (v := (nI 0)) dX10_bends_4 (by decide) ?_
    refine j_iload_n C 1 dX10_bends_5 rfl ?_
    refine j_iconst C (v := (nI 1)) dX10_bends_6 (by decide) ?_
    refine j_isub C dX10_bends_7 ?_
    refine j_mmax (rest := []) C mx10_7 (by decide) (Nat.le_of_ble_eq_true rfl) dX10_bends_8 ?_
    refine j_goto C 15 dX10_bends_11 (by decide) ?_
    refine j_iret C dX10_bends_15 ?_
    exact ⟨by rw [if_neg c1], rfl⟩
set_option maxHeartbeats 2000000 in
set_option maxRecDepth 20000 in
theorem h_X10_bends_29 {l : Launch} {D : va_G} {cI cG cW : ClassId} {q : Nat → Nat} {S : Nat → Int32} {X : Nat → Nat → Int32} {P : Nat → Nat} {v m z : Int32} : Ci l yX10_bends cX10_bends 4 (some .int) 2 D (tyL cI cG cW) (wC cI cG cW q) [.ref (q 29), .int v, .int m, .int z] (S, X, P) (fun r τ => r = (if z = 0 then v else if nI 0 < v - nI 1 then v - nI 1 else nI 0) ∧ τ = (S, X, P)) := by
  refine Ci.of (by decide) (Nat.le_of_ble_eq_true rfl) ?_
  intro p_ e_ s_ m_ b_ M_ c_ A_ C
  replace C : Cx _ _ _ _ _ _ _ _ RX10 _ _ _ _ := C
  refine j_L [0, 1, 2, 3] [(0, .ref (q 29)), (1, .int v), (2, .int m), (3, .int z)] rfl ?_
  refine j_iload_n C 3 dX10_bends_0 rfl ?_
  refine j_if_eq C 14 dX10_bends_1 (by decide) (fun c1 => ?_) (fun c1 => ?_)
  · skip
    refine j_iload_n C 1 dX10_bends_14 rfl ?_
    refine j_iret C dX10_bends_15 ?_
    exact ⟨by rw [if_pos c1], rfl⟩
  · skip
    refine j_iconst C (v := (nI 0)) dX10_bends_4 (by decide) ?_
    refine j_iload_n C 1 dX10_bends_5 rfl ?_
    refine j_iconst C (v := (nI 1)) dX10_bends_6 (by decide) ?_
    refine j_isub C dX10_bends_7 ?_
    refine j_mmax (rest := []) C mx10_7 (by decide) (Nat.le_of_ble_eq_true rfl) dX10_bends_8 ?_
    refine j_goto C 15 dX10_bends_11 (by decide) ?_
    refine j_iret C dX10_bends_15 ?_
    exact ⟨by rw [if_neg c1], rfl⟩
theorem dX0_bends_0 : decode cX0_bends 0 = .ok (.iconst 0, 1) := by decide +kernel
theorem dX0_bends_1 : decode cX0_bends 1 = .ok (.ireturn, 1) := by decide +kernel
set_option maxHeartbeats 2000000 in
set_option maxRecDepth 20000 in
theorem h_X0_bends_27 {l : Launch} {D : va_G} {cI cG cW : ClassId} {q : Nat → Nat} {S : Nat → Int32} {X : Nat → Nat → Int32} {P : Nat → Nat} {v m z : Int32} : Ci l yX0_bends cX0_bends 4 (some .int) 2 D (tyL cI cG cW) (wC cI cG cW q) [.ref (q 27), .int v, .int m, .int z] (S, X, P) (fun r τ => r = nI 0 ∧ τ = (S, X, P)) := by
  refine Ci.of (by decide) (Nat.le_of_ble_eq_true rfl) ?_
  intro p_ e_ s_ m_ b_ M_ c_ A_ C
  replace C : Cx _ _ _ _ _ _ _ _ RX0 _ _ _ _ := C
  refine j_L [0, 1, 2, 3] [(0, .ref (q 27)), (1, .int v), (2, .int m), (3, .int z)] rfl ?_
  refine j_iconst C (v := (nI 0)) dX0_bends_0 (by decide) ?_
  refine j_iret C dX0_bends_1 ?_
  exact ⟨rfl, rfl⟩
theorem dX9_bends_0 : decode cX9_bends 0 = .ok (.iload_n 1, 1) := by decide +kernel
theorem dX9_bends_1 : decode cX9_bends 1 = .ok (.iload_n 2, 1) := by decide +kernel
theorem dX9_bends_2 : decode cX9_bends 2 = .ok (.iconst 3, 1) := by decide +kernel
theorem dX9_bends_3 : decode cX9_bends 3 = .ok (.irem, 1) := by decide +kernel
theorem dX9_bends_4 : decode cX9_bends 4 = .ok (.iadd, 1) := by decide +kernel
theorem dX9_bends_5 : decode cX9_bends 5 = .ok (.ireturn, 1) := by decide +kernel
set_option maxHeartbeats 2000000 in
set_option maxRecDepth 20000 in
theorem h_X9_bends_28 {l : Launch} {D : va_G} {cI cG cW : ClassId} {q : Nat → Nat} {S : Nat → Int32} {X : Nat → Nat → Int32} {P : Nat → Nat} {v m z : Int32} : Ci l yX9_bends cX9_bends 4 (some .int) 2 D (tyL cI cG cW) (wC cI cG cW q) [.ref (q 28), .int v, .int m, .int z] (S, X, P) (fun r τ => r = v + (m - m / nI 3 * nI 3) ∧ τ = (S, X, P)) := by
  refine Ci.of (by decide) (Nat.le_of_ble_eq_true rfl) ?_
  intro p_ e_ s_ m_ b_ M_ c_ A_ C
  replace C : Cx _ _ _ _ _ _ _ _ RX9 _ _ _ _ := C
  refine j_L [0, 1, 2, 3] [(0, .ref (q 28)), (1, .int v), (2, .int m), (3, .int z)] rfl ?_
  refine j_iload_n C 1 dX9_bends_0 rfl ?_
  refine j_iload_n C 2 dX9_bends_1 rfl ?_
  refine j_iconst C (v := (nI 3)) dX9_bends_2 (by decide) ?_
  refine j_irem C dX9_bends_3 (by decide) ?_
  refine j_iadd C dX9_bends_4 ?_
  refine j_iret C dX9_bends_5 ?_
  exact ⟨rfl, rfl⟩
set_option maxHeartbeats 2000000 in
set_option maxRecDepth 20000 in
theorem h_X9_bends_31 {l : Launch} {D : va_G} {cI cG cW : ClassId} {q : Nat → Nat} {S : Nat → Int32} {X : Nat → Nat → Int32} {P : Nat → Nat} {v m z : Int32} : Ci l yX9_bends cX9_bends 4 (some .int) 2 D (tyL cI cG cW) (wC cI cG cW q) [.ref (q 31), .int v, .int m, .int z] (S, X, P) (fun r τ => r = v + (m - m / nI 3 * nI 3) ∧ τ = (S, X, P)) := by
  refine Ci.of (by decide) (Nat.le_of_ble_eq_true rfl) ?_
  intro p_ e_ s_ m_ b_ M_ c_ A_ C
  replace C : Cx _ _ _ _ _ _ _ _ RX9 _ _ _ _ := C
  refine j_L [0, 1, 2, 3] [(0, .ref (q 31)), (1, .int v), (2, .int m), (3, .int z)] rfl ?_
  refine j_iload_n C 1 dX9_bends_0 rfl ?_
  refine j_iload_n C 2 dX9_bends_1 rfl ?_
  refine j_iconst C (v := (nI 3)) dX9_bends_2 (by decide) ?_
  refine j_irem C dX9_bends_3 (by decide) ?_
  refine j_iadd C dX9_bends_4 ?_
  refine j_iret C dX9_bends_5 ?_
  exact ⟨rfl, rfl⟩
theorem dX5_bends_0 : decode cX5_bends 0 = .ok (.aload_n 0, 1) := by decide +kernel
theorem dX5_bends_1 : decode cX5_bends 1 = .ok (.iload_n 1, 1) := by decide +kernel
theorem dX5_bends_2 : decode cX5_bends 2 = .ok (.iload_n 2, 1) := by decide +kernel
theorem dX5_bends_3 : decode cX5_bends 3 = .ok (.iload_n 3, 1) := by decide +kernel
theorem dX5_bends_4 : decode cX5_bends 4 = .ok (.invokespecial 7, 3) := by decide +kernel
theorem dX5_bends_7 : decode cX5_bends 7 = .ok (.iconst 1, 1) := by decide +kernel
theorem dX5_bends_8 : decode cX5_bends 8 = .ok (.iadd, 1) := by decide +kernel
theorem dX5_bends_9 : decode cX5_bends 9 = .ok (.ireturn, 1) := by decide +kernel
set_option maxHeartbeats 2000000 in
set_option maxRecDepth 20000 in
theorem h_X5_bends_29 {l : Launch} {D : va_G} {cI cG cW : ClassId} {q : Nat → Nat} {S : Nat → Int32} {X : Nat → Nat → Int32} {P : Nat → Nat} {v m z : Int32} : Ci l yX5_bends cX5_bends 4 (some .int) 3 D (tyL cI cG cW) (wC cI cG cW q) [.ref (q 29), .int v, .int m, .int z] (S, X, P) (fun r τ => r = (if z = 0 then v else if nI 0 < v - nI 1 then v - nI 1 else nI 0) + nI 1 ∧ τ = (S, X, P)) := by
  refine Ci.of (by decide) (Nat.le_of_ble_eq_true rfl) ?_
  intro p_ e_ s_ m_ b_ M_ c_ A_ C
  replace C : Cx _ _ _ _ _ _ _ _ RX5 _ _ _ _ := C
  refine j_L [0, 1, 2, 3] [(0, .ref (q 29)), (1, .int v), (2, .int m), (3, .int z)] rfl ?_
  refine j_aload_n C 0 dX5_bends_0 rfl ?_
  refine j_iload_n C 1 dX5_bends_1 rfl ?_
  refine j_iload_n C 2 dX5_bends_2 rfl ?_
  refine j_iload_n C 3 dX5_bends_3 rfl ?_
  refine j_callSU (As := [.int v, .int m, .int z]) (rest := []) C su5_7 (h_X10_bends_29) ⟨29, 5, _, _, rfl, rfl, rfl⟩ rfl (Nat.le_of_ble_eq_true rfl) dX5_bends_4 (by decide) ?_
  rintro _ _ ⟨rfl, rfl⟩
  refine j_iconst C (v := (nI 1)) dX5_bends_7 (by decide) ?_
  refine j_iadd C dX5_bends_8 ?_
  refine j_iret C dX5_bends_9 ?_
  exact ⟨rfl, rfl⟩
theorem dX6_bends_0 : decode cX6_bends 0 = .ok (.iload_n 2, 1) := by decide +kernel
theorem dX6_bends_1 : decode cX6_bends 1 = .ok (.iconst 2, 1) := by decide +kernel
theorem dX6_bends_2 : decode cX6_bends 2 = .ok (.idiv, 1) := by decide +kernel
theorem dX6_bends_3 : decode cX6_bends 3 = .ok (.ireturn, 1) := by decide +kernel
set_option maxHeartbeats 2000000 in
set_option maxRecDepth 20000 in
theorem h_X6_bends_30 {l : Launch} {D : va_G} {cI cG cW : ClassId} {q : Nat → Nat} {S : Nat → Int32} {X : Nat → Nat → Int32} {P : Nat → Nat} {v m z : Int32} : Ci l yX6_bends cX6_bends 4 (some .int) 2 D (tyL cI cG cW) (wC cI cG cW q) [.ref (q 30), .int v, .int m, .int z] (S, X, P) (fun r τ => r = m / nI 2 ∧ τ = (S, X, P)) := by
  refine Ci.of (by decide) (Nat.le_of_ble_eq_true rfl) ?_
  intro p_ e_ s_ m_ b_ M_ c_ A_ C
  replace C : Cx _ _ _ _ _ _ _ _ RX6 _ _ _ _ := C
  refine j_L [0, 1, 2, 3] [(0, .ref (q 30)), (1, .int v), (2, .int m), (3, .int z)] rfl ?_
  refine j_iload_n C 2 dX6_bends_0 rfl ?_
  refine j_iconst C (v := (nI 2)) dX6_bends_1 (by decide) ?_
  refine j_idiv C dX6_bends_2 (by decide) ?_
  refine j_iret C dX6_bends_3 ?_
  exact ⟨rfl, rfl⟩
theorem dX2_eats_0 : decode cX2_eats 0 = .ok (.iconst 2, 1) := by decide +kernel
theorem dX2_eats_1 : decode cX2_eats 1 = .ok (.ireturn, 1) := by decide +kernel
set_option maxHeartbeats 2000000 in
set_option maxRecDepth 20000 in
theorem h_X2_eats_25 {l : Launch} {D : va_G} {cI cG cW : ClassId} {q : Nat → Nat} {S : Nat → Int32} {X : Nat → Nat → Int32} {P : Nat → Nat} {m : Int32} : Ci l yX2_eats cX2_eats 2 (some .int) 1 D (tyL cI cG cW) (wC cI cG cW q) [.ref (q 25), .int m] (S, X, P) (fun r τ => r = nI 2 ∧ τ = (S, X, P)) := by
  refine Ci.of (by decide) (Nat.le_of_ble_eq_true rfl) ?_
  intro p_ e_ s_ m_ b_ M_ c_ A_ C
  replace C : Cx _ _ _ _ _ _ _ _ RX2 _ _ _ _ := C
  refine j_L [0, 1] [(0, .ref (q 25)), (1, .int m)] rfl ?_
  refine j_iconst C (v := (nI 2)) dX2_eats_0 (by decide) ?_
  refine j_iret C dX2_eats_1 ?_
  exact ⟨rfl, rfl⟩
set_option maxHeartbeats 2000000 in
set_option maxRecDepth 20000 in
theorem h_X2_eats_27 {l : Launch} {D : va_G} {cI cG cW : ClassId} {q : Nat → Nat} {S : Nat → Int32} {X : Nat → Nat → Int32} {P : Nat → Nat} {m : Int32} : Ci l yX2_eats cX2_eats 2 (some .int) 1 D (tyL cI cG cW) (wC cI cG cW q) [.ref (q 27), .int m] (S, X, P) (fun r τ => r = nI 2 ∧ τ = (S, X, P)) := by
  refine Ci.of (by decide) (Nat.le_of_ble_eq_true rfl) ?_
  intro p_ e_ s_ m_ b_ M_ c_ A_ C
  replace C : Cx _ _ _ _ _ _ _ _ RX2 _ _ _ _ := C
  refine j_L [0, 1] [(0, .ref (q 27)), (1, .int m)] rfl ?_
  refine j_iconst C (v := (nI 2)) dX2_eats_0 (by decide) ?_
  refine j_iret C dX2_eats_1 ?_
  exact ⟨rfl, rfl⟩
set_option maxHeartbeats 2000000 in
set_option maxRecDepth 20000 in
theorem h_X2_eats_28 {l : Launch} {D : va_G} {cI cG cW : ClassId} {q : Nat → Nat} {S : Nat → Int32} {X : Nat → Nat → Int32} {P : Nat → Nat} {m : Int32} : Ci l yX2_eats cX2_eats 2 (some .int) 1 D (tyL cI cG cW) (wC cI cG cW q) [.ref (q 28), .int m] (S, X, P) (fun r τ => r = nI 2 ∧ τ = (S, X, P)) := by
  refine Ci.of (by decide) (Nat.le_of_ble_eq_true rfl) ?_
  intro p_ e_ s_ m_ b_ M_ c_ A_ C
  replace C : Cx _ _ _ _ _ _ _ _ RX2 _ _ _ _ := C
  refine j_L [0, 1] [(0, .ref (q 28)), (1, .int m)] rfl ?_
  refine j_iconst C (v := (nI 2)) dX2_eats_0 (by decide) ?_
  refine j_iret C dX2_eats_1 ?_
  exact ⟨rfl, rfl⟩
set_option maxHeartbeats 2000000 in
set_option maxRecDepth 20000 in
theorem h_X2_eats_30 {l : Launch} {D : va_G} {cI cG cW : ClassId} {q : Nat → Nat} {S : Nat → Int32} {X : Nat → Nat → Int32} {P : Nat → Nat} {m : Int32} : Ci l yX2_eats cX2_eats 2 (some .int) 1 D (tyL cI cG cW) (wC cI cG cW q) [.ref (q 30), .int m] (S, X, P) (fun r τ => r = nI 2 ∧ τ = (S, X, P)) := by
  refine Ci.of (by decide) (Nat.le_of_ble_eq_true rfl) ?_
  intro p_ e_ s_ m_ b_ M_ c_ A_ C
  replace C : Cx _ _ _ _ _ _ _ _ RX2 _ _ _ _ := C
  refine j_L [0, 1] [(0, .ref (q 30)), (1, .int m)] rfl ?_
  refine j_iconst C (v := (nI 2)) dX2_eats_0 (by decide) ?_
  refine j_iret C dX2_eats_1 ?_
  exact ⟨rfl, rfl⟩
set_option maxHeartbeats 2000000 in
set_option maxRecDepth 20000 in
theorem h_X2_eats_31 {l : Launch} {D : va_G} {cI cG cW : ClassId} {q : Nat → Nat} {S : Nat → Int32} {X : Nat → Nat → Int32} {P : Nat → Nat} {m : Int32} : Ci l yX2_eats cX2_eats 2 (some .int) 1 D (tyL cI cG cW) (wC cI cG cW q) [.ref (q 31), .int m] (S, X, P) (fun r τ => r = nI 2 ∧ τ = (S, X, P)) := by
  refine Ci.of (by decide) (Nat.le_of_ble_eq_true rfl) ?_
  intro p_ e_ s_ m_ b_ M_ c_ A_ C
  replace C : Cx _ _ _ _ _ _ _ _ RX2 _ _ _ _ := C
  refine j_L [0, 1] [(0, .ref (q 31)), (1, .int m)] rfl ?_
  refine j_iconst C (v := (nI 2)) dX2_eats_0 (by decide) ?_
  refine j_iret C dX2_eats_1 ?_
  exact ⟨rfl, rfl⟩
theorem dX10_eats_0 : decode cX10_eats 0 = .ok (.iconst 1, 1) := by decide +kernel
theorem dX10_eats_1 : decode cX10_eats 1 = .ok (.ireturn, 1) := by decide +kernel
set_option maxHeartbeats 2000000 in
set_option maxRecDepth 20000 in
theorem h_X10_eats_26 {l : Launch} {D : va_G} {cI cG cW : ClassId} {q : Nat → Nat} {S : Nat → Int32} {X : Nat → Nat → Int32} {P : Nat → Nat} {m : Int32} : Ci l yX10_eats cX10_eats 2 (some .int) 1 D (tyL cI cG cW) (wC cI cG cW q) [.ref (q 26), .int m] (S, X, P) (fun r τ => r = nI 1 ∧ τ = (S, X, P)) := by
  refine Ci.of (by decide) (Nat.le_of_ble_eq_true rfl) ?_
  intro p_ e_ s_ m_ b_ M_ c_ A_ C
  replace C : Cx _ _ _ _ _ _ _ _ RX10 _ _ _ _ := C
  refine j_L [0, 1] [(0, .ref (q 26)), (1, .int m)] rfl ?_
  refine j_iconst C (v := (nI 1)) dX10_eats_0 (by decide) ?_
  refine j_iret C dX10_eats_1 ?_
  exact ⟨rfl, rfl⟩
set_option maxHeartbeats 2000000 in
set_option maxRecDepth 20000 in
theorem h_X10_eats_29 {l : Launch} {D : va_G} {cI cG cW : ClassId} {q : Nat → Nat} {S : Nat → Int32} {X : Nat → Nat → Int32} {P : Nat → Nat} {m : Int32} : Ci l yX10_eats cX10_eats 2 (some .int) 1 D (tyL cI cG cW) (wC cI cG cW q) [.ref (q 29), .int m] (S, X, P) (fun r τ => r = nI 1 ∧ τ = (S, X, P)) := by
  refine Ci.of (by decide) (Nat.le_of_ble_eq_true rfl) ?_
  intro p_ e_ s_ m_ b_ M_ c_ A_ C
  replace C : Cx _ _ _ _ _ _ _ _ RX10 _ _ _ _ := C
  refine j_L [0, 1] [(0, .ref (q 29)), (1, .int m)] rfl ?_
  refine j_iconst C (v := (nI 1)) dX10_eats_0 (by decide) ?_
  refine j_iret C dX10_eats_1 ?_
  exact ⟨rfl, rfl⟩
theorem dX6_eats_0 : decode cX6_eats 0 = .ok (.aload_n 0, 1) := by decide +kernel
theorem dX6_eats_1 : decode cX6_eats 1 = .ok (.iload_n 1, 1) := by decide +kernel
theorem dX6_eats_2 : decode cX6_eats 2 = .ok (.invokespecial 7, 3) := by decide +kernel
theorem dX6_eats_5 : decode cX6_eats 5 = .ok (.iconst 1, 1) := by decide +kernel
theorem dX6_eats_6 : decode cX6_eats 6 = .ok (.iadd, 1) := by decide +kernel
theorem dX6_eats_7 : decode cX6_eats 7 = .ok (.ireturn, 1) := by decide +kernel
set_option maxHeartbeats 2000000 in
set_option maxRecDepth 20000 in
theorem h_X6_eats_30 {l : Launch} {D : va_G} {cI cG cW : ClassId} {q : Nat → Nat} {S : Nat → Int32} {X : Nat → Nat → Int32} {P : Nat → Nat} {m : Int32} : Ci l yX6_eats cX6_eats 2 (some .int) 2 D (tyL cI cG cW) (wC cI cG cW q) [.ref (q 30), .int m] (S, X, P) (fun r τ => r = nI 3 ∧ τ = (S, X, P)) := by
  refine Ci.of (by decide) (Nat.le_of_ble_eq_true rfl) ?_
  intro p_ e_ s_ m_ b_ M_ c_ A_ C
  replace C : Cx _ _ _ _ _ _ _ _ RX6 _ _ _ _ := C
  refine j_L [0, 1] [(0, .ref (q 30)), (1, .int m)] rfl ?_
  refine j_aload_n C 0 dX6_eats_0 rfl ?_
  refine j_iload_n C 1 dX6_eats_1 rfl ?_
  refine j_callSI (As := [.int m]) (rest := []) C si6_7 (h_X2_eats_30) ⟨30, 6, _, _, rfl, rfl, rfl⟩ rfl (Nat.le_of_ble_eq_true rfl) dX6_eats_2 (by decide) ?_
  rintro _ _ ⟨rfl, rfl⟩
  refine j_iconst C (v := (nI 1)) dX6_eats_5 (by decide) ?_
  refine j_iaddN C dX6_eats_6 ?_
  refine j_iret C dX6_eats_7 ?_
  exact ⟨rfl, rfl⟩
theorem dX7_eats_0 : decode cX7_eats 0 = .ok (.aload_n 0, 1) := by decide +kernel
theorem dX7_eats_1 : decode cX7_eats 1 = .ok (.iload_n 1, 1) := by decide +kernel
theorem dX7_eats_2 : decode cX7_eats 2 = .ok (.invokespecial 7, 3) := by decide +kernel
theorem dX7_eats_5 : decode cX7_eats 5 = .ok (.iload_n 1, 1) := by decide +kernel
theorem dX7_eats_6 : decode cX7_eats 6 = .ok (.iconst 2, 1) := by decide +kernel
theorem dX7_eats_7 : decode cX7_eats 7 = .ok (.irem, 1) := by decide +kernel
theorem dX7_eats_8 : decode cX7_eats 8 = .ok (.iadd, 1) := by decide +kernel
theorem dX7_eats_9 : decode cX7_eats 9 = .ok (.ireturn, 1) := by decide +kernel
set_option maxHeartbeats 2000000 in
set_option maxRecDepth 20000 in
theorem h_X7_eats_31 {l : Launch} {D : va_G} {cI cG cW : ClassId} {q : Nat → Nat} {S : Nat → Int32} {X : Nat → Nat → Int32} {P : Nat → Nat} {m : Int32} : Ci l yX7_eats cX7_eats 2 (some .int) 2 D (tyL cI cG cW) (wC cI cG cW q) [.ref (q 31), .int m] (S, X, P) (fun r τ => r = nI 2 + (m - m / nI 2 * nI 2) ∧ τ = (S, X, P)) := by
  refine Ci.of (by decide) (Nat.le_of_ble_eq_true rfl) ?_
  intro p_ e_ s_ m_ b_ M_ c_ A_ C
  replace C : Cx _ _ _ _ _ _ _ _ RX7 _ _ _ _ := C
  refine j_L [0, 1] [(0, .ref (q 31)), (1, .int m)] rfl ?_
  refine j_aload_n C 0 dX7_eats_0 rfl ?_
  refine j_iload_n C 1 dX7_eats_1 rfl ?_
  refine j_callSI (As := [.int m]) (rest := []) C si7_7 (h_X2_eats_31) ⟨31, 7, _, _, rfl, rfl, rfl⟩ rfl (Nat.le_of_ble_eq_true rfl) dX7_eats_2 (by decide) ?_
  rintro _ _ ⟨rfl, rfl⟩
  refine j_iload_n C 1 dX7_eats_5 rfl ?_
  refine j_iconst C (v := (nI 2)) dX7_eats_6 (by decide) ?_
  refine j_irem C dX7_eats_7 (by decide) ?_
  refine j_iadd C dX7_eats_8 ?_
  refine j_iret C dX7_eats_9 ?_
  exact ⟨rfl, rfl⟩
theorem dX2_burden_0 : decode cX2_burden 0 = .ok (.iconst 0, 1) := by decide +kernel
theorem dX2_burden_1 : decode cX2_burden 1 = .ok (.ireturn, 1) := by decide +kernel
set_option maxHeartbeats 2000000 in
set_option maxRecDepth 20000 in
theorem h_X2_burden_25 {l : Launch} {D : va_G} {cI cG cW : ClassId} {q : Nat → Nat} {S : Nat → Int32} {X : Nat → Nat → Int32} {P : Nat → Nat} {m : Int32} : Ci l yX2_burden cX2_burden 2 (some .int) 1 D (tyL cI cG cW) (wC cI cG cW q) [.ref (q 25), .int m] (S, X, P) (fun r τ => r = nI 0 ∧ τ = (S, X, P)) := by
  refine Ci.of (by decide) (Nat.le_of_ble_eq_true rfl) ?_
  intro p_ e_ s_ m_ b_ M_ c_ A_ C
  replace C : Cx _ _ _ _ _ _ _ _ RX2 _ _ _ _ := C
  refine j_L [0, 1] [(0, .ref (q 25)), (1, .int m)] rfl ?_
  refine j_iconst C (v := (nI 0)) dX2_burden_0 (by decide) ?_
  refine j_iret C dX2_burden_1 ?_
  exact ⟨rfl, rfl⟩
set_option maxHeartbeats 2000000 in
set_option maxRecDepth 20000 in
theorem h_X2_burden_26 {l : Launch} {D : va_G} {cI cG cW : ClassId} {q : Nat → Nat} {S : Nat → Int32} {X : Nat → Nat → Int32} {P : Nat → Nat} {m : Int32} : Ci l yX2_burden cX2_burden 2 (some .int) 1 D (tyL cI cG cW) (wC cI cG cW q) [.ref (q 26), .int m] (S, X, P) (fun r τ => r = nI 0 ∧ τ = (S, X, P)) := by
  refine Ci.of (by decide) (Nat.le_of_ble_eq_true rfl) ?_
  intro p_ e_ s_ m_ b_ M_ c_ A_ C
  replace C : Cx _ _ _ _ _ _ _ _ RX2 _ _ _ _ := C
  refine j_L [0, 1] [(0, .ref (q 26)), (1, .int m)] rfl ?_
  refine j_iconst C (v := (nI 0)) dX2_burden_0 (by decide) ?_
  refine j_iret C dX2_burden_1 ?_
  exact ⟨rfl, rfl⟩
set_option maxHeartbeats 2000000 in
set_option maxRecDepth 20000 in
theorem h_X2_burden_27 {l : Launch} {D : va_G} {cI cG cW : ClassId} {q : Nat → Nat} {S : Nat → Int32} {X : Nat → Nat → Int32} {P : Nat → Nat} {m : Int32} : Ci l yX2_burden cX2_burden 2 (some .int) 1 D (tyL cI cG cW) (wC cI cG cW q) [.ref (q 27), .int m] (S, X, P) (fun r τ => r = nI 0 ∧ τ = (S, X, P)) := by
  refine Ci.of (by decide) (Nat.le_of_ble_eq_true rfl) ?_
  intro p_ e_ s_ m_ b_ M_ c_ A_ C
  replace C : Cx _ _ _ _ _ _ _ _ RX2 _ _ _ _ := C
  refine j_L [0, 1] [(0, .ref (q 27)), (1, .int m)] rfl ?_
  refine j_iconst C (v := (nI 0)) dX2_burden_0 (by decide) ?_
  refine j_iret C dX2_burden_1 ?_
  exact ⟨rfl, rfl⟩
set_option maxHeartbeats 2000000 in
set_option maxRecDepth 20000 in
theorem h_X2_burden_28 {l : Launch} {D : va_G} {cI cG cW : ClassId} {q : Nat → Nat} {S : Nat → Int32} {X : Nat → Nat → Int32} {P : Nat → Nat} {m : Int32} : Ci l yX2_burden cX2_burden 2 (some .int) 1 D (tyL cI cG cW) (wC cI cG cW q) [.ref (q 28), .int m] (S, X, P) (fun r τ => r = nI 0 ∧ τ = (S, X, P)) := by
  refine Ci.of (by decide) (Nat.le_of_ble_eq_true rfl) ?_
  intro p_ e_ s_ m_ b_ M_ c_ A_ C
  replace C : Cx _ _ _ _ _ _ _ _ RX2 _ _ _ _ := C
  refine j_L [0, 1] [(0, .ref (q 28)), (1, .int m)] rfl ?_
  refine j_iconst C (v := (nI 0)) dX2_burden_0 (by decide) ?_
  refine j_iret C dX2_burden_1 ?_
  exact ⟨rfl, rfl⟩
set_option maxHeartbeats 2000000 in
set_option maxRecDepth 20000 in
theorem h_X2_burden_29 {l : Launch} {D : va_G} {cI cG cW : ClassId} {q : Nat → Nat} {S : Nat → Int32} {X : Nat → Nat → Int32} {P : Nat → Nat} {m : Int32} : Ci l yX2_burden cX2_burden 2 (some .int) 1 D (tyL cI cG cW) (wC cI cG cW q) [.ref (q 29), .int m] (S, X, P) (fun r τ => r = nI 0 ∧ τ = (S, X, P)) := by
  refine Ci.of (by decide) (Nat.le_of_ble_eq_true rfl) ?_
  intro p_ e_ s_ m_ b_ M_ c_ A_ C
  replace C : Cx _ _ _ _ _ _ _ _ RX2 _ _ _ _ := C
  refine j_L [0, 1] [(0, .ref (q 29)), (1, .int m)] rfl ?_
  refine j_iconst C (v := (nI 0)) dX2_burden_0 (by decide) ?_
  refine j_iret C dX2_burden_1 ?_
  exact ⟨rfl, rfl⟩
set_option maxHeartbeats 2000000 in
set_option maxRecDepth 20000 in
theorem h_X2_burden_30 {l : Launch} {D : va_G} {cI cG cW : ClassId} {q : Nat → Nat} {S : Nat → Int32} {X : Nat → Nat → Int32} {P : Nat → Nat} {m : Int32} : Ci l yX2_burden cX2_burden 2 (some .int) 1 D (tyL cI cG cW) (wC cI cG cW q) [.ref (q 30), .int m] (S, X, P) (fun r τ => r = nI 0 ∧ τ = (S, X, P)) := by
  refine Ci.of (by decide) (Nat.le_of_ble_eq_true rfl) ?_
  intro p_ e_ s_ m_ b_ M_ c_ A_ C
  replace C : Cx _ _ _ _ _ _ _ _ RX2 _ _ _ _ := C
  refine j_L [0, 1] [(0, .ref (q 30)), (1, .int m)] rfl ?_
  refine j_iconst C (v := (nI 0)) dX2_burden_0 (by decide) ?_
  refine j_iret C dX2_burden_1 ?_
  exact ⟨rfl, rfl⟩
theorem dX7_burden_0 : decode cX7_burden 0 = .ok (.iload_n 1, 1) := by decide +kernel
theorem dX7_burden_1 : decode cX7_burden 1 = .ok (.ireturn, 1) := by decide +kernel
set_option maxHeartbeats 2000000 in
set_option maxRecDepth 20000 in
theorem h_X7_burden_31 {l : Launch} {D : va_G} {cI cG cW : ClassId} {q : Nat → Nat} {S : Nat → Int32} {X : Nat → Nat → Int32} {P : Nat → Nat} {m : Int32} : Ci l yX7_burden cX7_burden 2 (some .int) 1 D (tyL cI cG cW) (wC cI cG cW q) [.ref (q 31), .int m] (S, X, P) (fun r τ => r = m ∧ τ = (S, X, P)) := by
  refine Ci.of (by decide) (Nat.le_of_ble_eq_true rfl) ?_
  intro p_ e_ s_ m_ b_ M_ c_ A_ C
  replace C : Cx _ _ _ _ _ _ _ _ RX7 _ _ _ _ := C
  refine j_L [0, 1] [(0, .ref (q 31)), (1, .int m)] rfl ?_
  refine j_iload_n C 1 dX7_burden_0 rfl ?_
  refine j_iret C dX7_burden_1 ?_
  exact ⟨rfl, rfl⟩
theorem dX2_bows_0 : decode cX2_bows 0 = .ok (.aload_n 1, 1) := by decide +kernel
theorem dX2_bows_1 : decode cX2_bows 1 = .ok (.bipush 10, 2) := by decide +kernel
theorem dX2_bows_3 : decode cX2_bows 3 = .ok (.invokevirtual 7, 3) := by decide +kernel
theorem dX2_bows_6 : decode cX2_bows 6 = .ok (.iload 4, 2) := by decide +kernel
theorem dX2_bows_8 : decode cX2_bows 8 = .ok (.iload_n 2, 1) := by decide +kernel
theorem dX2_bows_9 : decode cX2_bows 9 = .ok (.iadd, 1) := by decide +kernel
theorem dX2_bows_10 : decode cX2_bows 10 = .ok (.ireturn, 1) := by decide +kernel
set_option maxHeartbeats 2000000 in
set_option maxRecDepth 20000 in
theorem h_X2_bows_25 {l : Launch} {D : va_G} {cI cG cW : ClassId} {q : Nat → Nat} {S : Nat → Int32} {X : Nat → Nat → Int32} {P : Nat → Nat} {n m x : Int32} (t : Nat) (ht : t + 1 ≤ 40) (h : S 28 = nI t) : Ci l yX2_bows cX2_bows 5 (some .int) 1 D (tyL cI cG cW) (wC cI cG cW q) [.ref (q 25), .ref (q 20), .int n, .int m, .int x] (S, X, P) (fun r τ => r = (x + n) ∧ τ = (upd S 28 (nI (t + 1)), va_up X 81 (trW (X 81) t ([nI 10])), P)) := by
  refine Ci.of (by decide) (Nat.le_of_ble_eq_true rfl) ?_
  intro p_ e_ s_ m_ b_ M_ c_ A_ C
  replace C : Cx _ _ _ _ _ _ _ _ RX2 _ _ _ _ := C
  refine j_L [0, 1, 2, 3, 4] [(0, .ref (q 25)), (1, .ref (q 20)), (2, .int n), (3, .int m), (4, .int x)] rfl ?_
  refine j_aload_n C 1 dX2_bows_0 rfl ?_
  refine j_bipush C (v := (nI 10)) dX2_bows_1 (by decide) ?_
  refine j_callVNv (As := [.int (nI 10)]) (rest := []) C vn2_7 (h_add_9 (S := S) (X := X) t h (by omega)) ⟨20, 8, _, _, rfl, rfl, rfl⟩ rfl (Nat.le_of_ble_eq_true rfl) dX2_bows_3 (by decide) ?_
  rintro _ rfl
  refine j_wC (κ' := (upd S 28 (nI (t + 1)), va_up X 81 (upd (X 81) t (nI 10)), P)) rfl ?_
  refine j_iload C 4 dX2_bows_6 rfl ?_
  refine j_iload_n C 2 dX2_bows_8 rfl ?_
  refine j_iadd C dX2_bows_9 ?_
  refine j_iret C dX2_bows_10 ?_
  exact ⟨rfl, rfl⟩
set_option maxHeartbeats 2000000 in
set_option maxRecDepth 20000 in
theorem h_X2_bows_26 {l : Launch} {D : va_G} {cI cG cW : ClassId} {q : Nat → Nat} {S : Nat → Int32} {X : Nat → Nat → Int32} {P : Nat → Nat} {n m x : Int32} (t : Nat) (ht : t + 1 ≤ 40) (h : S 28 = nI t) : Ci l yX2_bows cX2_bows 5 (some .int) 1 D (tyL cI cG cW) (wC cI cG cW q) [.ref (q 26), .ref (q 20), .int n, .int m, .int x] (S, X, P) (fun r τ => r = (x + n) ∧ τ = (upd S 28 (nI (t + 1)), va_up X 81 (trW (X 81) t ([nI 10])), P)) := by
  refine Ci.of (by decide) (Nat.le_of_ble_eq_true rfl) ?_
  intro p_ e_ s_ m_ b_ M_ c_ A_ C
  replace C : Cx _ _ _ _ _ _ _ _ RX2 _ _ _ _ := C
  refine j_L [0, 1, 2, 3, 4] [(0, .ref (q 26)), (1, .ref (q 20)), (2, .int n), (3, .int m), (4, .int x)] rfl ?_
  refine j_aload_n C 1 dX2_bows_0 rfl ?_
  refine j_bipush C (v := (nI 10)) dX2_bows_1 (by decide) ?_
  refine j_callVNv (As := [.int (nI 10)]) (rest := []) C vn2_7 (h_add_9 (S := S) (X := X) t h (by omega)) ⟨20, 8, _, _, rfl, rfl, rfl⟩ rfl (Nat.le_of_ble_eq_true rfl) dX2_bows_3 (by decide) ?_
  rintro _ rfl
  refine j_wC (κ' := (upd S 28 (nI (t + 1)), va_up X 81 (upd (X 81) t (nI 10)), P)) rfl ?_
  refine j_iload C 4 dX2_bows_6 rfl ?_
  refine j_iload_n C 2 dX2_bows_8 rfl ?_
  refine j_iadd C dX2_bows_9 ?_
  refine j_iret C dX2_bows_10 ?_
  exact ⟨rfl, rfl⟩
set_option maxHeartbeats 2000000 in
set_option maxRecDepth 20000 in
theorem h_X2_bows_27 {l : Launch} {D : va_G} {cI cG cW : ClassId} {q : Nat → Nat} {S : Nat → Int32} {X : Nat → Nat → Int32} {P : Nat → Nat} {n m x : Int32} (t : Nat) (ht : t + 1 ≤ 40) (h : S 28 = nI t) : Ci l yX2_bows cX2_bows 5 (some .int) 1 D (tyL cI cG cW) (wC cI cG cW q) [.ref (q 27), .ref (q 20), .int n, .int m, .int x] (S, X, P) (fun r τ => r = (x + n) ∧ τ = (upd S 28 (nI (t + 1)), va_up X 81 (trW (X 81) t ([nI 10])), P)) := by
  refine Ci.of (by decide) (Nat.le_of_ble_eq_true rfl) ?_
  intro p_ e_ s_ m_ b_ M_ c_ A_ C
  replace C : Cx _ _ _ _ _ _ _ _ RX2 _ _ _ _ := C
  refine j_L [0, 1, 2, 3, 4] [(0, .ref (q 27)), (1, .ref (q 20)), (2, .int n), (3, .int m), (4, .int x)] rfl ?_
  refine j_aload_n C 1 dX2_bows_0 rfl ?_
  refine j_bipush C (v := (nI 10)) dX2_bows_1 (by decide) ?_
  refine j_callVNv (As := [.int (nI 10)]) (rest := []) C vn2_7 (h_add_9 (S := S) (X := X) t h (by omega)) ⟨20, 8, _, _, rfl, rfl, rfl⟩ rfl (Nat.le_of_ble_eq_true rfl) dX2_bows_3 (by decide) ?_
  rintro _ rfl
  refine j_wC (κ' := (upd S 28 (nI (t + 1)), va_up X 81 (upd (X 81) t (nI 10)), P)) rfl ?_
  refine j_iload C 4 dX2_bows_6 rfl ?_
  refine j_iload_n C 2 dX2_bows_8 rfl ?_
  refine j_iadd C dX2_bows_9 ?_
  refine j_iret C dX2_bows_10 ?_
  exact ⟨rfl, rfl⟩
set_option maxHeartbeats 2000000 in
set_option maxRecDepth 20000 in
theorem h_X2_bows_28 {l : Launch} {D : va_G} {cI cG cW : ClassId} {q : Nat → Nat} {S : Nat → Int32} {X : Nat → Nat → Int32} {P : Nat → Nat} {n m x : Int32} (t : Nat) (ht : t + 1 ≤ 40) (h : S 28 = nI t) : Ci l yX2_bows cX2_bows 5 (some .int) 1 D (tyL cI cG cW) (wC cI cG cW q) [.ref (q 28), .ref (q 20), .int n, .int m, .int x] (S, X, P) (fun r τ => r = (x + n) ∧ τ = (upd S 28 (nI (t + 1)), va_up X 81 (trW (X 81) t ([nI 10])), P)) := by
  refine Ci.of (by decide) (Nat.le_of_ble_eq_true rfl) ?_
  intro p_ e_ s_ m_ b_ M_ c_ A_ C
  replace C : Cx _ _ _ _ _ _ _ _ RX2 _ _ _ _ := C
  refine j_L [0, 1, 2, 3, 4] [(0, .ref (q 28)), (1, .ref (q 20)), (2, .int n), (3, .int m), (4, .int x)] rfl ?_
  refine j_aload_n C 1 dX2_bows_0 rfl ?_
  refine j_bipush C (v := (nI 10)) dX2_bows_1 (by decide) ?_
  refine j_callVNv (As := [.int (nI 10)]) (rest := []) C vn2_7 (h_add_9 (S := S) (X := X) t h (by omega)) ⟨20, 8, _, _, rfl, rfl, rfl⟩ rfl (Nat.le_of_ble_eq_true rfl) dX2_bows_3 (by decide) ?_
  rintro _ rfl
  refine j_wC (κ' := (upd S 28 (nI (t + 1)), va_up X 81 (upd (X 81) t (nI 10)), P)) rfl ?_
  refine j_iload C 4 dX2_bows_6 rfl ?_
  refine j_iload_n C 2 dX2_bows_8 rfl ?_
  refine j_iadd C dX2_bows_9 ?_
  refine j_iret C dX2_bows_10 ?_
  exact ⟨rfl, rfl⟩
set_option maxHeartbeats 2000000 in
set_option maxRecDepth 20000 in
theorem h_X2_bows_29 {l : Launch} {D : va_G} {cI cG cW : ClassId} {q : Nat → Nat} {S : Nat → Int32} {X : Nat → Nat → Int32} {P : Nat → Nat} {n m x : Int32} (t : Nat) (ht : t + 1 ≤ 40) (h : S 28 = nI t) : Ci l yX2_bows cX2_bows 5 (some .int) 1 D (tyL cI cG cW) (wC cI cG cW q) [.ref (q 29), .ref (q 20), .int n, .int m, .int x] (S, X, P) (fun r τ => r = (x + n) ∧ τ = (upd S 28 (nI (t + 1)), va_up X 81 (trW (X 81) t ([nI 10])), P)) := by
  refine Ci.of (by decide) (Nat.le_of_ble_eq_true rfl) ?_
  intro p_ e_ s_ m_ b_ M_ c_ A_ C
  replace C : Cx _ _ _ _ _ _ _ _ RX2 _ _ _ _ := C
  refine j_L [0, 1, 2, 3, 4] [(0, .ref (q 29)), (1, .ref (q 20)), (2, .int n), (3, .int m), (4, .int x)] rfl ?_
  refine j_aload_n C 1 dX2_bows_0 rfl ?_
  refine j_bipush C (v := (nI 10)) dX2_bows_1 (by decide) ?_
  refine j_callVNv (As := [.int (nI 10)]) (rest := []) C vn2_7 (h_add_9 (S := S) (X := X) t h (by omega)) ⟨20, 8, _, _, rfl, rfl, rfl⟩ rfl (Nat.le_of_ble_eq_true rfl) dX2_bows_3 (by decide) ?_
  rintro _ rfl
  refine j_wC (κ' := (upd S 28 (nI (t + 1)), va_up X 81 (upd (X 81) t (nI 10)), P)) rfl ?_
  refine j_iload C 4 dX2_bows_6 rfl ?_
  refine j_iload_n C 2 dX2_bows_8 rfl ?_
  refine j_iadd C dX2_bows_9 ?_
  refine j_iret C dX2_bows_10 ?_
  exact ⟨rfl, rfl⟩
set_option maxHeartbeats 2000000 in
set_option maxRecDepth 20000 in
theorem h_X2_bows_30 {l : Launch} {D : va_G} {cI cG cW : ClassId} {q : Nat → Nat} {S : Nat → Int32} {X : Nat → Nat → Int32} {P : Nat → Nat} {n m x : Int32} (t : Nat) (ht : t + 1 ≤ 40) (h : S 28 = nI t) : Ci l yX2_bows cX2_bows 5 (some .int) 1 D (tyL cI cG cW) (wC cI cG cW q) [.ref (q 30), .ref (q 20), .int n, .int m, .int x] (S, X, P) (fun r τ => r = (x + n) ∧ τ = (upd S 28 (nI (t + 1)), va_up X 81 (trW (X 81) t ([nI 10])), P)) := by
  refine Ci.of (by decide) (Nat.le_of_ble_eq_true rfl) ?_
  intro p_ e_ s_ m_ b_ M_ c_ A_ C
  replace C : Cx _ _ _ _ _ _ _ _ RX2 _ _ _ _ := C
  refine j_L [0, 1, 2, 3, 4] [(0, .ref (q 30)), (1, .ref (q 20)), (2, .int n), (3, .int m), (4, .int x)] rfl ?_
  refine j_aload_n C 1 dX2_bows_0 rfl ?_
  refine j_bipush C (v := (nI 10)) dX2_bows_1 (by decide) ?_
  refine j_callVNv (As := [.int (nI 10)]) (rest := []) C vn2_7 (h_add_9 (S := S) (X := X) t h (by omega)) ⟨20, 8, _, _, rfl, rfl, rfl⟩ rfl (Nat.le_of_ble_eq_true rfl) dX2_bows_3 (by decide) ?_
  rintro _ rfl
  refine j_wC (κ' := (upd S 28 (nI (t + 1)), va_up X 81 (upd (X 81) t (nI 10)), P)) rfl ?_
  refine j_iload C 4 dX2_bows_6 rfl ?_
  refine j_iload_n C 2 dX2_bows_8 rfl ?_
  refine j_iadd C dX2_bows_9 ?_
  refine j_iret C dX2_bows_10 ?_
  exact ⟨rfl, rfl⟩
set_option maxHeartbeats 2000000 in
set_option maxRecDepth 20000 in
theorem h_X2_bows_31 {l : Launch} {D : va_G} {cI cG cW : ClassId} {q : Nat → Nat} {S : Nat → Int32} {X : Nat → Nat → Int32} {P : Nat → Nat} {n m x : Int32} (t : Nat) (ht : t + 1 ≤ 40) (h : S 28 = nI t) : Ci l yX2_bows cX2_bows 5 (some .int) 1 D (tyL cI cG cW) (wC cI cG cW q) [.ref (q 31), .ref (q 20), .int n, .int m, .int x] (S, X, P) (fun r τ => r = (x + n) ∧ τ = (upd S 28 (nI (t + 1)), va_up X 81 (trW (X 81) t ([nI 10])), P)) := by
  refine Ci.of (by decide) (Nat.le_of_ble_eq_true rfl) ?_
  intro p_ e_ s_ m_ b_ M_ c_ A_ C
  replace C : Cx _ _ _ _ _ _ _ _ RX2 _ _ _ _ := C
  refine j_L [0, 1, 2, 3, 4] [(0, .ref (q 31)), (1, .ref (q 20)), (2, .int n), (3, .int m), (4, .int x)] rfl ?_
  refine j_aload_n C 1 dX2_bows_0 rfl ?_
  refine j_bipush C (v := (nI 10)) dX2_bows_1 (by decide) ?_
  refine j_callVNv (As := [.int (nI 10)]) (rest := []) C vn2_7 (h_add_9 (S := S) (X := X) t h (by omega)) ⟨20, 8, _, _, rfl, rfl, rfl⟩ rfl (Nat.le_of_ble_eq_true rfl) dX2_bows_3 (by decide) ?_
  rintro _ rfl
  refine j_wC (κ' := (upd S 28 (nI (t + 1)), va_up X 81 (upd (X 81) t (nI 10)), P)) rfl ?_
  refine j_iload C 4 dX2_bows_6 rfl ?_
  refine j_iload_n C 2 dX2_bows_8 rfl ?_
  refine j_iadd C dX2_bows_9 ?_
  refine j_iret C dX2_bows_10 ?_
  exact ⟨rfl, rfl⟩
theorem dX10_bows_0 : decode cX10_bows 0 = .ok (.aload_n 1, 1) := by decide +kernel
theorem dX10_bows_1 : decode cX10_bows 1 = .ok (.bipush 20, 2) := by decide +kernel
theorem dX10_bows_3 : decode cX10_bows 3 = .ok (.invokevirtual 13, 3) := by decide +kernel
theorem dX10_bows_6 : decode cX10_bows 6 = .ok (.aload_n 0, 1) := by decide +kernel
theorem dX10_bows_7 : decode cX10_bows 7 = .ok (.aload_n 1, 1) := by decide +kernel
theorem dX10_bows_8 : decode cX10_bows 8 = .ok (.iload_n 2, 1) := by decide +kernel
theorem dX10_bows_9 : decode cX10_bows 9 = .ok (.iload_n 3, 1) := by decide +kernel
theorem dX10_bows_10 : decode cX10_bows 10 = .ok (.iload 4, 2) := by decide +kernel
theorem dX10_bows_12 : decode cX10_bows 12 = .ok (.invokespecial 19, 3) := by decide +kernel
theorem dX10_bows_15 : decode cX10_bows 15 = .ok (.iconst 3, 1) := by decide +kernel
theorem dX10_bows_16 : decode cX10_bows 16 = .ok (.imul, 1) := by decide +kernel
theorem dX10_bows_17 : decode cX10_bows 17 = .ok (.ireturn, 1) := by decide +kernel
set_option maxHeartbeats 2000000 in
set_option maxRecDepth 20000 in
theorem h_X10_bows_26 {l : Launch} {D : va_G} {cI cG cW : ClassId} {q : Nat → Nat} {S : Nat → Int32} {X : Nat → Nat → Int32} {P : Nat → Nat} {n m x : Int32} (t : Nat) (ht : t + 2 ≤ 40) (h : S 28 = nI t) : Ci l yX10_bows cX10_bows 5 (some .int) 2 D (tyL cI cG cW) (wC cI cG cW q) [.ref (q 26), .ref (q 20), .int n, .int m, .int x] (S, X, P) (fun r τ => r = ((x + n) * nI 3) ∧ τ = (upd S 28 (nI (t + 2)), va_up X 81 (trW (X 81) t ([nI 20, nI 10])), P)) := by
  refine Ci.of (by decide) (Nat.le_of_ble_eq_true rfl) ?_
  intro p_ e_ s_ m_ b_ M_ c_ A_ C
  replace C : Cx _ _ _ _ _ _ _ _ RX10 _ _ _ _ := C
  refine j_L [0, 1, 2, 3, 4] [(0, .ref (q 26)), (1, .ref (q 20)), (2, .int n), (3, .int m), (4, .int x)] rfl ?_
  refine j_aload_n C 1 dX10_bows_0 rfl ?_
  refine j_bipush C (v := (nI 20)) dX10_bows_1 (by decide) ?_
  refine j_callVNv (As := [.int (nI 20)]) (rest := []) C vn10_13 (h_add_9 (S := S) (X := X) t h (by omega)) ⟨20, 8, _, _, rfl, rfl, rfl⟩ rfl (Nat.le_of_ble_eq_true rfl) dX10_bows_3 (by decide) ?_
  rintro _ rfl
  refine j_wC (κ' := (upd S 28 (nI (t + 1)), va_up X 81 (upd (X 81) t (nI 20)), P)) rfl ?_
  refine j_aload_n C 0 dX10_bows_6 rfl ?_
  refine j_aload_n C 1 dX10_bows_7 rfl ?_
  refine j_iload_n C 2 dX10_bows_8 rfl ?_
  refine j_iload_n C 3 dX10_bows_9 rfl ?_
  refine j_iload C 4 dX10_bows_10 rfl ?_
  refine j_callSU (As := [.ref (q 20), .int n, .int m, .int x]) (rest := []) C su10_19 (h_X2_bows_26 (S := upd S 28 (nI (t + 1))) (X := va_up X 81 (upd (X 81) t (nI 20))) (t + 1) (by omega) pk_us) ⟨26, 10, _, _, rfl, rfl, rfl⟩ rfl (Nat.le_of_ble_eq_true rfl) dX10_bows_12 (by decide) ?_
  rintro _ _ ⟨rfl, rfl⟩
  refine j_wC (κ' := (upd S 28 (nI (t + 1 + 1)), va_up X 81 (trW (upd (X 81) t (nI 20)) (t + 1) ([nI 10])), P)) rfl ?_
  refine j_iconst C (v := (nI 3)) dX10_bows_15 (by decide) ?_
  refine j_imul C dX10_bows_16 ?_
  refine j_iret C dX10_bows_17 ?_
  exact ⟨rfl, rfl⟩
set_option maxHeartbeats 2000000 in
set_option maxRecDepth 20000 in
theorem h_X10_bows_29 {l : Launch} {D : va_G} {cI cG cW : ClassId} {q : Nat → Nat} {S : Nat → Int32} {X : Nat → Nat → Int32} {P : Nat → Nat} {n m x : Int32} (t : Nat) (ht : t + 2 ≤ 40) (h : S 28 = nI t) : Ci l yX10_bows cX10_bows 5 (some .int) 2 D (tyL cI cG cW) (wC cI cG cW q) [.ref (q 29), .ref (q 20), .int n, .int m, .int x] (S, X, P) (fun r τ => r = ((x + n) * nI 3) ∧ τ = (upd S 28 (nI (t + 2)), va_up X 81 (trW (X 81) t ([nI 20, nI 10])), P)) := by
  refine Ci.of (by decide) (Nat.le_of_ble_eq_true rfl) ?_
  intro p_ e_ s_ m_ b_ M_ c_ A_ C
  replace C : Cx _ _ _ _ _ _ _ _ RX10 _ _ _ _ := C
  refine j_L [0, 1, 2, 3, 4] [(0, .ref (q 29)), (1, .ref (q 20)), (2, .int n), (3, .int m), (4, .int x)] rfl ?_
  refine j_aload_n C 1 dX10_bows_0 rfl ?_
  refine j_bipush C (v := (nI 20)) dX10_bows_1 (by decide) ?_
  refine j_callVNv (As := [.int (nI 20)]) (rest := []) C vn10_13 (h_add_9 (S := S) (X := X) t h (by omega)) ⟨20, 8, _, _, rfl, rfl, rfl⟩ rfl (Nat.le_of_ble_eq_true rfl) dX10_bows_3 (by decide) ?_
  rintro _ rfl
  refine j_wC (κ' := (upd S 28 (nI (t + 1)), va_up X 81 (upd (X 81) t (nI 20)), P)) rfl ?_
  refine j_aload_n C 0 dX10_bows_6 rfl ?_
  refine j_aload_n C 1 dX10_bows_7 rfl ?_
  refine j_iload_n C 2 dX10_bows_8 rfl ?_
  refine j_iload_n C 3 dX10_bows_9 rfl ?_
  refine j_iload C 4 dX10_bows_10 rfl ?_
  refine j_callSU (As := [.ref (q 20), .int n, .int m, .int x]) (rest := []) C su10_19 (h_X2_bows_29 (S := upd S 28 (nI (t + 1))) (X := va_up X 81 (upd (X 81) t (nI 20))) (t + 1) (by omega) pk_us) ⟨29, 5, _, _, rfl, rfl, rfl⟩ rfl (Nat.le_of_ble_eq_true rfl) dX10_bows_12 (by decide) ?_
  rintro _ _ ⟨rfl, rfl⟩
  refine j_wC (κ' := (upd S 28 (nI (t + 1 + 1)), va_up X 81 (trW (upd (X 81) t (nI 20)) (t + 1) ([nI 10])), P)) rfl ?_
  refine j_iconst C (v := (nI 3)) dX10_bows_15 (by decide) ?_
  refine j_imul C dX10_bows_16 ?_
  refine j_iret C dX10_bows_17 ?_
  exact ⟨rfl, rfl⟩
theorem dX2_sighs_0 : decode cX2_sighs 0 = .ok (.aload_n 1, 1) := by decide +kernel
theorem dX2_sighs_1 : decode cX2_sighs 1 = .ok (.bipush 12, 2) := by decide +kernel
theorem dX2_sighs_3 : decode cX2_sighs 3 = .ok (.invokevirtual 7, 3) := by decide +kernel
theorem dX2_sighs_6 : decode cX2_sighs 6 = .ok (.iload 4, 2) := by decide +kernel
theorem dX2_sighs_8 : decode cX2_sighs 8 = .ok (.iload_n 3, 1) := by decide +kernel
theorem dX2_sighs_9 : decode cX2_sighs 9 = .ok (.isub, 1) := by decide +kernel
theorem dX2_sighs_10 : decode cX2_sighs 10 = .ok (.ireturn, 1) := by decide +kernel
set_option maxHeartbeats 2000000 in
set_option maxRecDepth 20000 in
theorem h_X2_sighs_25 {l : Launch} {D : va_G} {cI cG cW : ClassId} {q : Nat → Nat} {S : Nat → Int32} {X : Nat → Nat → Int32} {P : Nat → Nat} {n m x : Int32} (t : Nat) (ht : t + 1 ≤ 40) (h : S 28 = nI t) : Ci l yX2_sighs cX2_sighs 5 (some .int) 1 D (tyL cI cG cW) (wC cI cG cW q) [.ref (q 25), .ref (q 20), .int n, .int m, .int x] (S, X, P) (fun r τ => r = (x - m) ∧ τ = (upd S 28 (nI (t + 1)), va_up X 81 (trW (X 81) t ([nI 12])), P)) := by
  refine Ci.of (by decide) (Nat.le_of_ble_eq_true rfl) ?_
  intro p_ e_ s_ m_ b_ M_ c_ A_ C
  replace C : Cx _ _ _ _ _ _ _ _ RX2 _ _ _ _ := C
  refine j_L [0, 1, 2, 3, 4] [(0, .ref (q 25)), (1, .ref (q 20)), (2, .int n), (3, .int m), (4, .int x)] rfl ?_
  refine j_aload_n C 1 dX2_sighs_0 rfl ?_
  refine j_bipush C (v := (nI 12)) dX2_sighs_1 (by decide) ?_
  refine j_callVNv (As := [.int (nI 12)]) (rest := []) C vn2_7 (h_add_9 (S := S) (X := X) t h (by omega)) ⟨20, 8, _, _, rfl, rfl, rfl⟩ rfl (Nat.le_of_ble_eq_true rfl) dX2_sighs_3 (by decide) ?_
  rintro _ rfl
  refine j_wC (κ' := (upd S 28 (nI (t + 1)), va_up X 81 (upd (X 81) t (nI 12)), P)) rfl ?_
  refine j_iload C 4 dX2_sighs_6 rfl ?_
  refine j_iload_n C 3 dX2_sighs_8 rfl ?_
  refine j_isub C dX2_sighs_9 ?_
  refine j_iret C dX2_sighs_10 ?_
  exact ⟨rfl, rfl⟩
set_option maxHeartbeats 2000000 in
set_option maxRecDepth 20000 in
theorem h_X2_sighs_26 {l : Launch} {D : va_G} {cI cG cW : ClassId} {q : Nat → Nat} {S : Nat → Int32} {X : Nat → Nat → Int32} {P : Nat → Nat} {n m x : Int32} (t : Nat) (ht : t + 1 ≤ 40) (h : S 28 = nI t) : Ci l yX2_sighs cX2_sighs 5 (some .int) 1 D (tyL cI cG cW) (wC cI cG cW q) [.ref (q 26), .ref (q 20), .int n, .int m, .int x] (S, X, P) (fun r τ => r = (x - m) ∧ τ = (upd S 28 (nI (t + 1)), va_up X 81 (trW (X 81) t ([nI 12])), P)) := by
  refine Ci.of (by decide) (Nat.le_of_ble_eq_true rfl) ?_
  intro p_ e_ s_ m_ b_ M_ c_ A_ C
  replace C : Cx _ _ _ _ _ _ _ _ RX2 _ _ _ _ := C
  refine j_L [0, 1, 2, 3, 4] [(0, .ref (q 26)), (1, .ref (q 20)), (2, .int n), (3, .int m), (4, .int x)] rfl ?_
  refine j_aload_n C 1 dX2_sighs_0 rfl ?_
  refine j_bipush C (v := (nI 12)) dX2_sighs_1 (by decide) ?_
  refine j_callVNv (As := [.int (nI 12)]) (rest := []) C vn2_7 (h_add_9 (S := S) (X := X) t h (by omega)) ⟨20, 8, _, _, rfl, rfl, rfl⟩ rfl (Nat.le_of_ble_eq_true rfl) dX2_sighs_3 (by decide) ?_
  rintro _ rfl
  refine j_wC (κ' := (upd S 28 (nI (t + 1)), va_up X 81 (upd (X 81) t (nI 12)), P)) rfl ?_
  refine j_iload C 4 dX2_sighs_6 rfl ?_
  refine j_iload_n C 3 dX2_sighs_8 rfl ?_
  refine j_isub C dX2_sighs_9 ?_
  refine j_iret C dX2_sighs_10 ?_
  exact ⟨rfl, rfl⟩
set_option maxHeartbeats 2000000 in
set_option maxRecDepth 20000 in
theorem h_X2_sighs_27 {l : Launch} {D : va_G} {cI cG cW : ClassId} {q : Nat → Nat} {S : Nat → Int32} {X : Nat → Nat → Int32} {P : Nat → Nat} {n m x : Int32} (t : Nat) (ht : t + 1 ≤ 40) (h : S 28 = nI t) : Ci l yX2_sighs cX2_sighs 5 (some .int) 1 D (tyL cI cG cW) (wC cI cG cW q) [.ref (q 27), .ref (q 20), .int n, .int m, .int x] (S, X, P) (fun r τ => r = (x - m) ∧ τ = (upd S 28 (nI (t + 1)), va_up X 81 (trW (X 81) t ([nI 12])), P)) := by
  refine Ci.of (by decide) (Nat.le_of_ble_eq_true rfl) ?_
  intro p_ e_ s_ m_ b_ M_ c_ A_ C
  replace C : Cx _ _ _ _ _ _ _ _ RX2 _ _ _ _ := C
  refine j_L [0, 1, 2, 3, 4] [(0, .ref (q 27)), (1, .ref (q 20)), (2, .int n), (3, .int m), (4, .int x)] rfl ?_
  refine j_aload_n C 1 dX2_sighs_0 rfl ?_
  refine j_bipush C (v := (nI 12)) dX2_sighs_1 (by decide) ?_
  refine j_callVNv (As := [.int (nI 12)]) (rest := []) C vn2_7 (h_add_9 (S := S) (X := X) t h (by omega)) ⟨20, 8, _, _, rfl, rfl, rfl⟩ rfl (Nat.le_of_ble_eq_true rfl) dX2_sighs_3 (by decide) ?_
  rintro _ rfl
  refine j_wC (κ' := (upd S 28 (nI (t + 1)), va_up X 81 (upd (X 81) t (nI 12)), P)) rfl ?_
  refine j_iload C 4 dX2_sighs_6 rfl ?_
  refine j_iload_n C 3 dX2_sighs_8 rfl ?_
  refine j_isub C dX2_sighs_9 ?_
  refine j_iret C dX2_sighs_10 ?_
  exact ⟨rfl, rfl⟩
set_option maxHeartbeats 2000000 in
set_option maxRecDepth 20000 in
theorem h_X2_sighs_28 {l : Launch} {D : va_G} {cI cG cW : ClassId} {q : Nat → Nat} {S : Nat → Int32} {X : Nat → Nat → Int32} {P : Nat → Nat} {n m x : Int32} (t : Nat) (ht : t + 1 ≤ 40) (h : S 28 = nI t) : Ci l yX2_sighs cX2_sighs 5 (some .int) 1 D (tyL cI cG cW) (wC cI cG cW q) [.ref (q 28), .ref (q 20), .int n, .int m, .int x] (S, X, P) (fun r τ => r = (x - m) ∧ τ = (upd S 28 (nI (t + 1)), va_up X 81 (trW (X 81) t ([nI 12])), P)) := by
  refine Ci.of (by decide) (Nat.le_of_ble_eq_true rfl) ?_
  intro p_ e_ s_ m_ b_ M_ c_ A_ C
  replace C : Cx _ _ _ _ _ _ _ _ RX2 _ _ _ _ := C
  refine j_L [0, 1, 2, 3, 4] [(0, .ref (q 28)), (1, .ref (q 20)), (2, .int n), (3, .int m), (4, .int x)] rfl ?_
  refine j_aload_n C 1 dX2_sighs_0 rfl ?_
  refine j_bipush C (v := (nI 12)) dX2_sighs_1 (by decide) ?_
  refine j_callVNv (As := [.int (nI 12)]) (rest := []) C vn2_7 (h_add_9 (S := S) (X := X) t h (by omega)) ⟨20, 8, _, _, rfl, rfl, rfl⟩ rfl (Nat.le_of_ble_eq_true rfl) dX2_sighs_3 (by decide) ?_
  rintro _ rfl
  refine j_wC (κ' := (upd S 28 (nI (t + 1)), va_up X 81 (upd (X 81) t (nI 12)), P)) rfl ?_
  refine j_iload C 4 dX2_sighs_6 rfl ?_
  refine j_iload_n C 3 dX2_sighs_8 rfl ?_
  refine j_isub C dX2_sighs_9 ?_
  refine j_iret C dX2_sighs_10 ?_
  exact ⟨rfl, rfl⟩
set_option maxHeartbeats 2000000 in
set_option maxRecDepth 20000 in
theorem h_X2_sighs_29 {l : Launch} {D : va_G} {cI cG cW : ClassId} {q : Nat → Nat} {S : Nat → Int32} {X : Nat → Nat → Int32} {P : Nat → Nat} {n m x : Int32} (t : Nat) (ht : t + 1 ≤ 40) (h : S 28 = nI t) : Ci l yX2_sighs cX2_sighs 5 (some .int) 1 D (tyL cI cG cW) (wC cI cG cW q) [.ref (q 29), .ref (q 20), .int n, .int m, .int x] (S, X, P) (fun r τ => r = (x - m) ∧ τ = (upd S 28 (nI (t + 1)), va_up X 81 (trW (X 81) t ([nI 12])), P)) := by
  refine Ci.of (by decide) (Nat.le_of_ble_eq_true rfl) ?_
  intro p_ e_ s_ m_ b_ M_ c_ A_ C
  replace C : Cx _ _ _ _ _ _ _ _ RX2 _ _ _ _ := C
  refine j_L [0, 1, 2, 3, 4] [(0, .ref (q 29)), (1, .ref (q 20)), (2, .int n), (3, .int m), (4, .int x)] rfl ?_
  refine j_aload_n C 1 dX2_sighs_0 rfl ?_
  refine j_bipush C (v := (nI 12)) dX2_sighs_1 (by decide) ?_
  refine j_callVNv (As := [.int (nI 12)]) (rest := []) C vn2_7 (h_add_9 (S := S) (X := X) t h (by omega)) ⟨20, 8, _, _, rfl, rfl, rfl⟩ rfl (Nat.le_of_ble_eq_true rfl) dX2_sighs_3 (by decide) ?_
  rintro _ rfl
  refine j_wC (κ' := (upd S 28 (nI (t + 1)), va_up X 81 (upd (X 81) t (nI 12)), P)) rfl ?_
  refine j_iload C 4 dX2_sighs_6 rfl ?_
  refine j_iload_n C 3 dX2_sighs_8 rfl ?_
  refine j_isub C dX2_sighs_9 ?_
  refine j_iret C dX2_sighs_10 ?_
  exact ⟨rfl, rfl⟩
set_option maxHeartbeats 2000000 in
set_option maxRecDepth 20000 in
theorem h_X2_sighs_30 {l : Launch} {D : va_G} {cI cG cW : ClassId} {q : Nat → Nat} {S : Nat → Int32} {X : Nat → Nat → Int32} {P : Nat → Nat} {n m x : Int32} (t : Nat) (ht : t + 1 ≤ 40) (h : S 28 = nI t) : Ci l yX2_sighs cX2_sighs 5 (some .int) 1 D (tyL cI cG cW) (wC cI cG cW q) [.ref (q 30), .ref (q 20), .int n, .int m, .int x] (S, X, P) (fun r τ => r = (x - m) ∧ τ = (upd S 28 (nI (t + 1)), va_up X 81 (trW (X 81) t ([nI 12])), P)) := by
  refine Ci.of (by decide) (Nat.le_of_ble_eq_true rfl) ?_
  intro p_ e_ s_ m_ b_ M_ c_ A_ C
  replace C : Cx _ _ _ _ _ _ _ _ RX2 _ _ _ _ := C
  refine j_L [0, 1, 2, 3, 4] [(0, .ref (q 30)), (1, .ref (q 20)), (2, .int n), (3, .int m), (4, .int x)] rfl ?_
  refine j_aload_n C 1 dX2_sighs_0 rfl ?_
  refine j_bipush C (v := (nI 12)) dX2_sighs_1 (by decide) ?_
  refine j_callVNv (As := [.int (nI 12)]) (rest := []) C vn2_7 (h_add_9 (S := S) (X := X) t h (by omega)) ⟨20, 8, _, _, rfl, rfl, rfl⟩ rfl (Nat.le_of_ble_eq_true rfl) dX2_sighs_3 (by decide) ?_
  rintro _ rfl
  refine j_wC (κ' := (upd S 28 (nI (t + 1)), va_up X 81 (upd (X 81) t (nI 12)), P)) rfl ?_
  refine j_iload C 4 dX2_sighs_6 rfl ?_
  refine j_iload_n C 3 dX2_sighs_8 rfl ?_
  refine j_isub C dX2_sighs_9 ?_
  refine j_iret C dX2_sighs_10 ?_
  exact ⟨rfl, rfl⟩
set_option maxHeartbeats 2000000 in
set_option maxRecDepth 20000 in
theorem h_X2_sighs_31 {l : Launch} {D : va_G} {cI cG cW : ClassId} {q : Nat → Nat} {S : Nat → Int32} {X : Nat → Nat → Int32} {P : Nat → Nat} {n m x : Int32} (t : Nat) (ht : t + 1 ≤ 40) (h : S 28 = nI t) : Ci l yX2_sighs cX2_sighs 5 (some .int) 1 D (tyL cI cG cW) (wC cI cG cW q) [.ref (q 31), .ref (q 20), .int n, .int m, .int x] (S, X, P) (fun r τ => r = (x - m) ∧ τ = (upd S 28 (nI (t + 1)), va_up X 81 (trW (X 81) t ([nI 12])), P)) := by
  refine Ci.of (by decide) (Nat.le_of_ble_eq_true rfl) ?_
  intro p_ e_ s_ m_ b_ M_ c_ A_ C
  replace C : Cx _ _ _ _ _ _ _ _ RX2 _ _ _ _ := C
  refine j_L [0, 1, 2, 3, 4] [(0, .ref (q 31)), (1, .ref (q 20)), (2, .int n), (3, .int m), (4, .int x)] rfl ?_
  refine j_aload_n C 1 dX2_sighs_0 rfl ?_
  refine j_bipush C (v := (nI 12)) dX2_sighs_1 (by decide) ?_
  refine j_callVNv (As := [.int (nI 12)]) (rest := []) C vn2_7 (h_add_9 (S := S) (X := X) t h (by omega)) ⟨20, 8, _, _, rfl, rfl, rfl⟩ rfl (Nat.le_of_ble_eq_true rfl) dX2_sighs_3 (by decide) ?_
  rintro _ rfl
  refine j_wC (κ' := (upd S 28 (nI (t + 1)), va_up X 81 (upd (X 81) t (nI 12)), P)) rfl ?_
  refine j_iload C 4 dX2_sighs_6 rfl ?_
  refine j_iload_n C 3 dX2_sighs_8 rfl ?_
  refine j_isub C dX2_sighs_9 ?_
  refine j_iret C dX2_sighs_10 ?_
  exact ⟨rfl, rfl⟩
theorem dX9_sighs_0 : decode cX9_sighs 0 = .ok (.aload_n 1, 1) := by decide +kernel
theorem dX9_sighs_1 : decode cX9_sighs 1 = .ok (.bipush 40, 2) := by decide +kernel
theorem dX9_sighs_3 : decode cX9_sighs 3 = .ok (.invokevirtual 7, 3) := by decide +kernel
theorem dX9_sighs_6 : decode cX9_sighs 6 = .ok (.aload_n 0, 1) := by decide +kernel
theorem dX9_sighs_7 : decode cX9_sighs 7 = .ok (.aload_n 1, 1) := by decide +kernel
theorem dX9_sighs_8 : decode cX9_sighs 8 = .ok (.iload_n 2, 1) := by decide +kernel
theorem dX9_sighs_9 : decode cX9_sighs 9 = .ok (.iload_n 3, 1) := by decide +kernel
theorem dX9_sighs_10 : decode cX9_sighs 10 = .ok (.iload 4, 2) := by decide +kernel
theorem dX9_sighs_12 : decode cX9_sighs 12 = .ok (.invokespecial 13, 3) := by decide +kernel
theorem dX9_sighs_15 : decode cX9_sighs 15 = .ok (.ineg, 1) := by decide +kernel
theorem dX9_sighs_16 : decode cX9_sighs 16 = .ok (.ireturn, 1) := by decide +kernel
set_option maxHeartbeats 2000000 in
set_option maxRecDepth 20000 in
theorem h_X9_sighs_28 {l : Launch} {D : va_G} {cI cG cW : ClassId} {q : Nat → Nat} {S : Nat → Int32} {X : Nat → Nat → Int32} {P : Nat → Nat} {n m x : Int32} (t : Nat) (ht : t + 2 ≤ 40) (h : S 28 = nI t) : Ci l yX9_sighs cX9_sighs 5 (some .int) 2 D (tyL cI cG cW) (wC cI cG cW q) [.ref (q 28), .ref (q 20), .int n, .int m, .int x] (S, X, P) (fun r τ => r = (-(x - m)) ∧ τ = (upd S 28 (nI (t + 2)), va_up X 81 (trW (X 81) t ([nI 40, nI 12])), P)) := by
  refine Ci.of (by decide) (Nat.le_of_ble_eq_true rfl) ?_
  intro p_ e_ s_ m_ b_ M_ c_ A_ C
  replace C : Cx _ _ _ _ _ _ _ _ RX9 _ _ _ _ := C
  refine j_L [0, 1, 2, 3, 4] [(0, .ref (q 28)), (1, .ref (q 20)), (2, .int n), (3, .int m), (4, .int x)] rfl ?_
  refine j_aload_n C 1 dX9_sighs_0 rfl ?_
  refine j_bipush C (v := (nI 40)) dX9_sighs_1 (by decide) ?_
  refine j_callVNv (As := [.int (nI 40)]) (rest := []) C vn9_7 (h_add_9 (S := S) (X := X) t h (by omega)) ⟨20, 8, _, _, rfl, rfl, rfl⟩ rfl (Nat.le_of_ble_eq_true rfl) dX9_sighs_3 (by decide) ?_
  rintro _ rfl
  refine j_wC (κ' := (upd S 28 (nI (t + 1)), va_up X 81 (upd (X 81) t (nI 40)), P)) rfl ?_
  refine j_aload_n C 0 dX9_sighs_6 rfl ?_
  refine j_aload_n C 1 dX9_sighs_7 rfl ?_
  refine j_iload_n C 2 dX9_sighs_8 rfl ?_
  refine j_iload_n C 3 dX9_sighs_9 rfl ?_
  refine j_iload C 4 dX9_sighs_10 rfl ?_
  refine j_callSU (As := [.ref (q 20), .int n, .int m, .int x]) (rest := []) C su9_13 (h_X2_sighs_28 (S := upd S 28 (nI (t + 1))) (X := va_up X 81 (upd (X 81) t (nI 40))) (t + 1) (by omega) pk_us) ⟨28, 9, _, _, rfl, rfl, rfl⟩ rfl (Nat.le_of_ble_eq_true rfl) dX9_sighs_12 (by decide) ?_
  rintro _ _ ⟨rfl, rfl⟩
  refine j_wC (κ' := (upd S 28 (nI (t + 1 + 1)), va_up X 81 (trW (upd (X 81) t (nI 40)) (t + 1) ([nI 12])), P)) rfl ?_
  refine j_ineg C dX9_sighs_15 ?_
  refine j_iret C dX9_sighs_16 ?_
  exact ⟨rfl, rfl⟩
set_option maxHeartbeats 2000000 in
set_option maxRecDepth 20000 in
theorem h_X9_sighs_31 {l : Launch} {D : va_G} {cI cG cW : ClassId} {q : Nat → Nat} {S : Nat → Int32} {X : Nat → Nat → Int32} {P : Nat → Nat} {n m x : Int32} (t : Nat) (ht : t + 2 ≤ 40) (h : S 28 = nI t) : Ci l yX9_sighs cX9_sighs 5 (some .int) 2 D (tyL cI cG cW) (wC cI cG cW q) [.ref (q 31), .ref (q 20), .int n, .int m, .int x] (S, X, P) (fun r τ => r = (-(x - m)) ∧ τ = (upd S 28 (nI (t + 2)), va_up X 81 (trW (X 81) t ([nI 40, nI 12])), P)) := by
  refine Ci.of (by decide) (Nat.le_of_ble_eq_true rfl) ?_
  intro p_ e_ s_ m_ b_ M_ c_ A_ C
  replace C : Cx _ _ _ _ _ _ _ _ RX9 _ _ _ _ := C
  refine j_L [0, 1, 2, 3, 4] [(0, .ref (q 31)), (1, .ref (q 20)), (2, .int n), (3, .int m), (4, .int x)] rfl ?_
  refine j_aload_n C 1 dX9_sighs_0 rfl ?_
  refine j_bipush C (v := (nI 40)) dX9_sighs_1 (by decide) ?_
  refine j_callVNv (As := [.int (nI 40)]) (rest := []) C vn9_7 (h_add_9 (S := S) (X := X) t h (by omega)) ⟨20, 8, _, _, rfl, rfl, rfl⟩ rfl (Nat.le_of_ble_eq_true rfl) dX9_sighs_3 (by decide) ?_
  rintro _ rfl
  refine j_wC (κ' := (upd S 28 (nI (t + 1)), va_up X 81 (upd (X 81) t (nI 40)), P)) rfl ?_
  refine j_aload_n C 0 dX9_sighs_6 rfl ?_
  refine j_aload_n C 1 dX9_sighs_7 rfl ?_
  refine j_iload_n C 2 dX9_sighs_8 rfl ?_
  refine j_iload_n C 3 dX9_sighs_9 rfl ?_
  refine j_iload C 4 dX9_sighs_10 rfl ?_
  refine j_callSU (As := [.ref (q 20), .int n, .int m, .int x]) (rest := []) C su9_13 (h_X2_sighs_31 (S := upd S 28 (nI (t + 1))) (X := va_up X 81 (upd (X 81) t (nI 40))) (t + 1) (by omega) pk_us) ⟨31, 7, _, _, rfl, rfl, rfl⟩ rfl (Nat.le_of_ble_eq_true rfl) dX9_sighs_12 (by decide) ?_
  rintro _ _ ⟨rfl, rfl⟩
  refine j_wC (κ' := (upd S 28 (nI (t + 1 + 1)), va_up X 81 (trW (upd (X 81) t (nI 40)) (t + 1) ([nI 12])), P)) rfl ?_
  refine j_ineg C dX9_sighs_15 ?_
  refine j_iret C dX9_sighs_16 ?_
  exact ⟨rfl, rfl⟩
theorem dX7_sighs_0 : decode cX7_sighs 0 = .ok (.aload_n 1, 1) := by decide +kernel
theorem dX7_sighs_1 : decode cX7_sighs 1 = .ok (.bipush 70, 2) := by decide +kernel
theorem dX7_sighs_3 : decode cX7_sighs 3 = .ok (.invokevirtual 11, 3) := by decide +kernel
theorem dX7_sighs_6 : decode cX7_sighs 6 = .ok (.aload_n 0, 1) := by decide +kernel
theorem dX7_sighs_7 : decode cX7_sighs 7 = .ok (.aload_n 1, 1) := by decide +kernel
theorem dX7_sighs_8 : decode cX7_sighs 8 = .ok (.iload_n 2, 1) := by decide +kernel
theorem dX7_sighs_9 : decode cX7_sighs 9 = .ok (.iload_n 3, 1) := by decide +kernel
theorem dX7_sighs_10 : decode cX7_sighs 10 = .ok (.iload 4, 2) := by decide +kernel
theorem dX7_sighs_12 : decode cX7_sighs 12 = .ok (.invokespecial 17, 3) := by decide +kernel
theorem dX7_sighs_15 : decode cX7_sighs 15 = .ok (.iload_n 2, 1) := by decide +kernel
theorem dX7_sighs_16 : decode cX7_sighs 16 = .ok (.ixor, 1) := by decide +kernel
theorem dX7_sighs_17 : decode cX7_sighs 17 = .ok (.ireturn, 1) := by decide +kernel
set_option maxHeartbeats 2000000 in
set_option maxRecDepth 20000 in
theorem h_X7_sighs_31 {l : Launch} {D : va_G} {cI cG cW : ClassId} {q : Nat → Nat} {S : Nat → Int32} {X : Nat → Nat → Int32} {P : Nat → Nat} {n m x : Int32} (t : Nat) (ht : t + 3 ≤ 40) (h : S 28 = nI t) : Ci l yX7_sighs cX7_sighs 5 (some .int) 3 D (tyL cI cG cW) (wC cI cG cW q) [.ref (q 31), .ref (q 20), .int n, .int m, .int x] (S, X, P) (fun r τ => r = (-(x - m) ^^^ n) ∧ τ = (upd S 28 (nI (t + 3)), va_up X 81 (trW (X 81) t ([nI 70, nI 40, nI 12])), P)) := by
  refine Ci.of (by decide) (Nat.le_of_ble_eq_true rfl) ?_
  intro p_ e_ s_ m_ b_ M_ c_ A_ C
  replace C : Cx _ _ _ _ _ _ _ _ RX7 _ _ _ _ := C
  refine j_L [0, 1, 2, 3, 4] [(0, .ref (q 31)), (1, .ref (q 20)), (2, .int n), (3, .int m), (4, .int x)] rfl ?_
  refine j_aload_n C 1 dX7_sighs_0 rfl ?_
  refine j_bipush C (v := (nI 70)) dX7_sighs_1 (by decide) ?_
  refine j_callVNv (As := [.int (nI 70)]) (rest := []) C vn7_11 (h_add_9 (S := S) (X := X) t h (by omega)) ⟨20, 8, _, _, rfl, rfl, rfl⟩ rfl (Nat.le_of_ble_eq_true rfl) dX7_sighs_3 (by decide) ?_
  rintro _ rfl
  refine j_wC (κ' := (upd S 28 (nI (t + 1)), va_up X 81 (upd (X 81) t (nI 70)), P)) rfl ?_
  refine j_aload_n C 0 dX7_sighs_6 rfl ?_
  refine j_aload_n C 1 dX7_sighs_7 rfl ?_
  refine j_iload_n C 2 dX7_sighs_8 rfl ?_
  refine j_iload_n C 3 dX7_sighs_9 rfl ?_
  refine j_iload C 4 dX7_sighs_10 rfl ?_
  refine j_callSU (As := [.ref (q 20), .int n, .int m, .int x]) (rest := []) C su7_17 (h_X9_sighs_31 (S := upd S 28 (nI (t + 1))) (X := va_up X 81 (upd (X 81) t (nI 70))) (t + 1) (by omega) pk_us) ⟨31, 7, _, _, rfl, rfl, rfl⟩ rfl (Nat.le_of_ble_eq_true rfl) dX7_sighs_12 (by decide) ?_
  rintro _ _ ⟨rfl, rfl⟩
  refine j_wC (κ' := (upd S 28 (nI (t + 1 + 2)), va_up X 81 (trW (upd (X 81) t (nI 70)) (t + 1) ([nI 40, nI 12])), P)) rfl ?_
  refine j_iload_n C 2 dX7_sighs_15 rfl ?_
  refine j_ixor C dX7_sighs_16 ?_
  refine j_iret C dX7_sighs_17 ?_
  exact ⟨rfl, rfl⟩
theorem dX2_picks_0 : decode cX2_picks 0 = .ok (.aload_n 1, 1) := by decide +kernel
theorem dX2_picks_1 : decode cX2_picks 1 = .ok (.bipush 11, 2) := by decide +kernel
theorem dX2_picks_3 : decode cX2_picks 3 = .ok (.invokevirtual 7, 3) := by decide +kernel
theorem dX2_picks_6 : decode cX2_picks 6 = .ok (.aload_n 0, 1) := by decide +kernel
theorem dX2_picks_7 : decode cX2_picks 7 = .ok (.aload_n 1, 1) := by decide +kernel
theorem dX2_picks_8 : decode cX2_picks 8 = .ok (.iload_n 2, 1) := by decide +kernel
theorem dX2_picks_9 : decode cX2_picks 9 = .ok (.iload_n 3, 1) := by decide +kernel
theorem dX2_picks_10 : decode cX2_picks 10 = .ok (.iload 4, 2) := by decide +kernel
theorem dX2_picks_12 : decode cX2_picks 12 = .ok (.invokevirtual 13, 3) := by decide +kernel
theorem dX2_picks_15 : decode cX2_picks 15 = .ok (.iconst 2, 1) := by decide +kernel
theorem dX2_picks_16 : decode cX2_picks 16 = .ok (.imul, 1) := by decide +kernel
theorem dX2_picks_17 : decode cX2_picks 17 = .ok (.ireturn, 1) := by decide +kernel
set_option maxHeartbeats 2000000 in
set_option maxRecDepth 20000 in
theorem h_X2_picks_25 {l : Launch} {D : va_G} {cI cG cW : ClassId} {q : Nat → Nat} {S : Nat → Int32} {X : Nat → Nat → Int32} {P : Nat → Nat} {n m x : Int32} (t : Nat) (ht : t + 2 ≤ 40) (h : S 28 = nI t) : Ci l yX2_picks cX2_picks 5 (some .int) 4 D (tyL cI cG cW) (wC cI cG cW q) [.ref (q 25), .ref (q 20), .int n, .int m, .int x] (S, X, P) (fun r τ => r = (vB 0 n x * nI 2) ∧ τ = (upd S 28 (nI (t + 2)), va_up X 81 (trW (X 81) t (nI 11 :: vBt 0)), P)) := by
  refine Ci.of (by decide) (Nat.le_of_ble_eq_true rfl) ?_
  intro p_ e_ s_ m_ b_ M_ c_ A_ C
  replace C : Cx _ _ _ _ _ _ _ _ RX2 _ _ _ _ := C
  refine j_L [0, 1, 2, 3, 4] [(0, .ref (q 25)), (1, .ref (q 20)), (2, .int n), (3, .int m), (4, .int x)] rfl ?_
  refine j_aload_n C 1 dX2_picks_0 rfl ?_
  refine j_bipush C (v := (nI 11)) dX2_picks_1 (by decide) ?_
  refine j_callVNv (As := [.int (nI 11)]) (rest := []) C vn2_7 (h_add_9 (S := S) (X := X) t h (by omega)) ⟨20, 8, _, _, rfl, rfl, rfl⟩ rfl (Nat.le_of_ble_eq_true rfl) dX2_picks_3 (by decide) ?_
  rintro _ rfl
  refine j_wC (κ' := (upd S 28 (nI (t + 1)), va_up X 81 (upd (X 81) t (nI 11)), P)) rfl ?_
  refine j_aload_n C 0 dX2_picks_6 rfl ?_
  refine j_aload_n C 1 dX2_picks_7 rfl ?_
  refine j_iload_n C 2 dX2_picks_8 rfl ?_
  refine j_iload_n C 3 dX2_picks_9 rfl ?_
  refine j_iload C 4 dX2_picks_10 rfl ?_
  refine j_callU (As := [.ref (q 20), .int n, .int m, .int x]) (rest := []) C uw2_13_2 (h_X2_bows_25 (S := upd S 28 (nI (t + 1))) (X := va_up X 81 (upd (X 81) t (nI 11))) (t + 1) (by omega) pk_us) ⟨25, 2, _, _, rfl, rfl, rfl⟩ rfl (Nat.le_of_ble_eq_true rfl) dX2_picks_12 (by decide) ?_
  rintro _ _ ⟨rfl, rfl⟩
  refine j_wC (κ' := (upd S 28 (nI (t + 1 + 1)), va_up X 81 (trW (upd (X 81) t (nI 11)) (t + 1) ([nI 10])), P)) rfl ?_
  refine j_iconst C (v := (nI 2)) dX2_picks_15 (by decide) ?_
  refine j_imul C dX2_picks_16 ?_
  refine j_iret C dX2_picks_17 ?_
  exact ⟨rfl, rfl⟩
set_option maxHeartbeats 2000000 in
set_option maxRecDepth 20000 in
theorem h_X2_picks_26 {l : Launch} {D : va_G} {cI cG cW : ClassId} {q : Nat → Nat} {S : Nat → Int32} {X : Nat → Nat → Int32} {P : Nat → Nat} {n m x : Int32} (t : Nat) (ht : t + 3 ≤ 40) (h : S 28 = nI t) : Ci l yX2_picks cX2_picks 5 (some .int) 4 D (tyL cI cG cW) (wC cI cG cW q) [.ref (q 26), .ref (q 20), .int n, .int m, .int x] (S, X, P) (fun r τ => r = (vB 1 n x * nI 2) ∧ τ = (upd S 28 (nI (t + 3)), va_up X 81 (trW (X 81) t (nI 11 :: vBt 1)), P)) := by
  refine Ci.of (by decide) (Nat.le_of_ble_eq_true rfl) ?_
  intro p_ e_ s_ m_ b_ M_ c_ A_ C
  replace C : Cx _ _ _ _ _ _ _ _ RX2 _ _ _ _ := C
  refine j_L [0, 1, 2, 3, 4] [(0, .ref (q 26)), (1, .ref (q 20)), (2, .int n), (3, .int m), (4, .int x)] rfl ?_
  refine j_aload_n C 1 dX2_picks_0 rfl ?_
  refine j_bipush C (v := (nI 11)) dX2_picks_1 (by decide) ?_
  refine j_callVNv (As := [.int (nI 11)]) (rest := []) C vn2_7 (h_add_9 (S := S) (X := X) t h (by omega)) ⟨20, 8, _, _, rfl, rfl, rfl⟩ rfl (Nat.le_of_ble_eq_true rfl) dX2_picks_3 (by decide) ?_
  rintro _ rfl
  refine j_wC (κ' := (upd S 28 (nI (t + 1)), va_up X 81 (upd (X 81) t (nI 11)), P)) rfl ?_
  refine j_aload_n C 0 dX2_picks_6 rfl ?_
  refine j_aload_n C 1 dX2_picks_7 rfl ?_
  refine j_iload_n C 2 dX2_picks_8 rfl ?_
  refine j_iload_n C 3 dX2_picks_9 rfl ?_
  refine j_iload C 4 dX2_picks_10 rfl ?_
  refine j_callU (As := [.ref (q 20), .int n, .int m, .int x]) (rest := []) C uw2_13_10 (h_X10_bows_26 (S := upd S 28 (nI (t + 1))) (X := va_up X 81 (upd (X 81) t (nI 11))) (t + 1) (by omega) pk_us) ⟨26, 10, _, _, rfl, rfl, rfl⟩ rfl (Nat.le_of_ble_eq_true rfl) dX2_picks_12 (by decide) ?_
  rintro _ _ ⟨rfl, rfl⟩
  refine j_wC (κ' := (upd S 28 (nI (t + 1 + 2)), va_up X 81 (trW (upd (X 81) t (nI 11)) (t + 1) ([nI 20, nI 10])), P)) rfl ?_
  refine j_iconst C (v := (nI 2)) dX2_picks_15 (by decide) ?_
  refine j_imul C dX2_picks_16 ?_
  refine j_iret C dX2_picks_17 ?_
  exact ⟨rfl, rfl⟩
set_option maxHeartbeats 2000000 in
set_option maxRecDepth 20000 in
theorem h_X2_picks_27 {l : Launch} {D : va_G} {cI cG cW : ClassId} {q : Nat → Nat} {S : Nat → Int32} {X : Nat → Nat → Int32} {P : Nat → Nat} {n m x : Int32} (t : Nat) (ht : t + 2 ≤ 40) (h : S 28 = nI t) : Ci l yX2_picks cX2_picks 5 (some .int) 4 D (tyL cI cG cW) (wC cI cG cW q) [.ref (q 27), .ref (q 20), .int n, .int m, .int x] (S, X, P) (fun r τ => r = (vB 2 n x * nI 2) ∧ τ = (upd S 28 (nI (t + 2)), va_up X 81 (trW (X 81) t (nI 11 :: vBt 2)), P)) := by
  refine Ci.of (by decide) (Nat.le_of_ble_eq_true rfl) ?_
  intro p_ e_ s_ m_ b_ M_ c_ A_ C
  replace C : Cx _ _ _ _ _ _ _ _ RX2 _ _ _ _ := C
  refine j_L [0, 1, 2, 3, 4] [(0, .ref (q 27)), (1, .ref (q 20)), (2, .int n), (3, .int m), (4, .int x)] rfl ?_
  refine j_aload_n C 1 dX2_picks_0 rfl ?_
  refine j_bipush C (v := (nI 11)) dX2_picks_1 (by decide) ?_
  refine j_callVNv (As := [.int (nI 11)]) (rest := []) C vn2_7 (h_add_9 (S := S) (X := X) t h (by omega)) ⟨20, 8, _, _, rfl, rfl, rfl⟩ rfl (Nat.le_of_ble_eq_true rfl) dX2_picks_3 (by decide) ?_
  rintro _ rfl
  refine j_wC (κ' := (upd S 28 (nI (t + 1)), va_up X 81 (upd (X 81) t (nI 11)), P)) rfl ?_
  refine j_aload_n C 0 dX2_picks_6 rfl ?_
  refine j_aload_n C 1 dX2_picks_7 rfl ?_
  refine j_iload_n C 2 dX2_picks_8 rfl ?_
  refine j_iload_n C 3 dX2_picks_9 rfl ?_
  refine j_iload C 4 dX2_picks_10 rfl ?_
  refine j_callU (As := [.ref (q 20), .int n, .int m, .int x]) (rest := []) C uw2_13_0 (h_X2_bows_27 (S := upd S 28 (nI (t + 1))) (X := va_up X 81 (upd (X 81) t (nI 11))) (t + 1) (by omega) pk_us) ⟨27, 0, _, _, rfl, rfl, rfl⟩ rfl (Nat.le_of_ble_eq_true rfl) dX2_picks_12 (by decide) ?_
  rintro _ _ ⟨rfl, rfl⟩
  refine j_wC (κ' := (upd S 28 (nI (t + 1 + 1)), va_up X 81 (trW (upd (X 81) t (nI 11)) (t + 1) ([nI 10])), P)) rfl ?_
  refine j_iconst C (v := (nI 2)) dX2_picks_15 (by decide) ?_
  refine j_imul C dX2_picks_16 ?_
  refine j_iret C dX2_picks_17 ?_
  exact ⟨rfl, rfl⟩
set_option maxHeartbeats 2000000 in
set_option maxRecDepth 20000 in
theorem h_X2_picks_28 {l : Launch} {D : va_G} {cI cG cW : ClassId} {q : Nat → Nat} {S : Nat → Int32} {X : Nat → Nat → Int32} {P : Nat → Nat} {n m x : Int32} (t : Nat) (ht : t + 2 ≤ 40) (h : S 28 = nI t) : Ci l yX2_picks cX2_picks 5 (some .int) 4 D (tyL cI cG cW) (wC cI cG cW q) [.ref (q 28), .ref (q 20), .int n, .int m, .int x] (S, X, P) (fun r τ => r = (vB 3 n x * nI 2) ∧ τ = (upd S 28 (nI (t + 2)), va_up X 81 (trW (X 81) t (nI 11 :: vBt 3)), P)) := by
  refine Ci.of (by decide) (Nat.le_of_ble_eq_true rfl) ?_
  intro p_ e_ s_ m_ b_ M_ c_ A_ C
  replace C : Cx _ _ _ _ _ _ _ _ RX2 _ _ _ _ := C
  refine j_L [0, 1, 2, 3, 4] [(0, .ref (q 28)), (1, .ref (q 20)), (2, .int n), (3, .int m), (4, .int x)] rfl ?_
  refine j_aload_n C 1 dX2_picks_0 rfl ?_
  refine j_bipush C (v := (nI 11)) dX2_picks_1 (by decide) ?_
  refine j_callVNv (As := [.int (nI 11)]) (rest := []) C vn2_7 (h_add_9 (S := S) (X := X) t h (by omega)) ⟨20, 8, _, _, rfl, rfl, rfl⟩ rfl (Nat.le_of_ble_eq_true rfl) dX2_picks_3 (by decide) ?_
  rintro _ rfl
  refine j_wC (κ' := (upd S 28 (nI (t + 1)), va_up X 81 (upd (X 81) t (nI 11)), P)) rfl ?_
  refine j_aload_n C 0 dX2_picks_6 rfl ?_
  refine j_aload_n C 1 dX2_picks_7 rfl ?_
  refine j_iload_n C 2 dX2_picks_8 rfl ?_
  refine j_iload_n C 3 dX2_picks_9 rfl ?_
  refine j_iload C 4 dX2_picks_10 rfl ?_
  refine j_callU (As := [.ref (q 20), .int n, .int m, .int x]) (rest := []) C uw2_13_9 (h_X2_bows_28 (S := upd S 28 (nI (t + 1))) (X := va_up X 81 (upd (X 81) t (nI 11))) (t + 1) (by omega) pk_us) ⟨28, 9, _, _, rfl, rfl, rfl⟩ rfl (Nat.le_of_ble_eq_true rfl) dX2_picks_12 (by decide) ?_
  rintro _ _ ⟨rfl, rfl⟩
  refine j_wC (κ' := (upd S 28 (nI (t + 1 + 1)), va_up X 81 (trW (upd (X 81) t (nI 11)) (t + 1) ([nI 10])), P)) rfl ?_
  refine j_iconst C (v := (nI 2)) dX2_picks_15 (by decide) ?_
  refine j_imul C dX2_picks_16 ?_
  refine j_iret C dX2_picks_17 ?_
  exact ⟨rfl, rfl⟩
set_option maxHeartbeats 2000000 in
set_option maxRecDepth 20000 in
theorem h_X2_picks_29 {l : Launch} {D : va_G} {cI cG cW : ClassId} {q : Nat → Nat} {S : Nat → Int32} {X : Nat → Nat → Int32} {P : Nat → Nat} {n m x : Int32} (t : Nat) (ht : t + 3 ≤ 40) (h : S 28 = nI t) : Ci l yX2_picks cX2_picks 5 (some .int) 4 D (tyL cI cG cW) (wC cI cG cW q) [.ref (q 29), .ref (q 20), .int n, .int m, .int x] (S, X, P) (fun r τ => r = (vB 4 n x * nI 2) ∧ τ = (upd S 28 (nI (t + 3)), va_up X 81 (trW (X 81) t (nI 11 :: vBt 4)), P)) := by
  refine Ci.of (by decide) (Nat.le_of_ble_eq_true rfl) ?_
  intro p_ e_ s_ m_ b_ M_ c_ A_ C
  replace C : Cx _ _ _ _ _ _ _ _ RX2 _ _ _ _ := C
  refine j_L [0, 1, 2, 3, 4] [(0, .ref (q 29)), (1, .ref (q 20)), (2, .int n), (3, .int m), (4, .int x)] rfl ?_
  refine j_aload_n C 1 dX2_picks_0 rfl ?_
  refine j_bipush C (v := (nI 11)) dX2_picks_1 (by decide) ?_
  refine j_callVNv (As := [.int (nI 11)]) (rest := []) C vn2_7 (h_add_9 (S := S) (X := X) t h (by omega)) ⟨20, 8, _, _, rfl, rfl, rfl⟩ rfl (Nat.le_of_ble_eq_true rfl) dX2_picks_3 (by decide) ?_
  rintro _ rfl
  refine j_wC (κ' := (upd S 28 (nI (t + 1)), va_up X 81 (upd (X 81) t (nI 11)), P)) rfl ?_
  refine j_aload_n C 0 dX2_picks_6 rfl ?_
  refine j_aload_n C 1 dX2_picks_7 rfl ?_
  refine j_iload_n C 2 dX2_picks_8 rfl ?_
  refine j_iload_n C 3 dX2_picks_9 rfl ?_
  refine j_iload C 4 dX2_picks_10 rfl ?_
  refine j_callU (As := [.ref (q 20), .int n, .int m, .int x]) (rest := []) C uw2_13_5 (h_X10_bows_29 (S := upd S 28 (nI (t + 1))) (X := va_up X 81 (upd (X 81) t (nI 11))) (t + 1) (by omega) pk_us) ⟨29, 5, _, _, rfl, rfl, rfl⟩ rfl (Nat.le_of_ble_eq_true rfl) dX2_picks_12 (by decide) ?_
  rintro _ _ ⟨rfl, rfl⟩
  refine j_wC (κ' := (upd S 28 (nI (t + 1 + 2)), va_up X 81 (trW (upd (X 81) t (nI 11)) (t + 1) ([nI 20, nI 10])), P)) rfl ?_
  refine j_iconst C (v := (nI 2)) dX2_picks_15 (by decide) ?_
  refine j_imul C dX2_picks_16 ?_
  refine j_iret C dX2_picks_17 ?_
  exact ⟨rfl, rfl⟩
set_option maxHeartbeats 2000000 in
set_option maxRecDepth 20000 in
theorem h_X2_picks_30 {l : Launch} {D : va_G} {cI cG cW : ClassId} {q : Nat → Nat} {S : Nat → Int32} {X : Nat → Nat → Int32} {P : Nat → Nat} {n m x : Int32} (t : Nat) (ht : t + 2 ≤ 40) (h : S 28 = nI t) : Ci l yX2_picks cX2_picks 5 (some .int) 4 D (tyL cI cG cW) (wC cI cG cW q) [.ref (q 30), .ref (q 20), .int n, .int m, .int x] (S, X, P) (fun r τ => r = (vB 5 n x * nI 2) ∧ τ = (upd S 28 (nI (t + 2)), va_up X 81 (trW (X 81) t (nI 11 :: vBt 5)), P)) := by
  refine Ci.of (by decide) (Nat.le_of_ble_eq_true rfl) ?_
  intro p_ e_ s_ m_ b_ M_ c_ A_ C
  replace C : Cx _ _ _ _ _ _ _ _ RX2 _ _ _ _ := C
  refine j_L [0, 1, 2, 3, 4] [(0, .ref (q 30)), (1, .ref (q 20)), (2, .int n), (3, .int m), (4, .int x)] rfl ?_
  refine j_aload_n C 1 dX2_picks_0 rfl ?_
  refine j_bipush C (v := (nI 11)) dX2_picks_1 (by decide) ?_
  refine j_callVNv (As := [.int (nI 11)]) (rest := []) C vn2_7 (h_add_9 (S := S) (X := X) t h (by omega)) ⟨20, 8, _, _, rfl, rfl, rfl⟩ rfl (Nat.le_of_ble_eq_true rfl) dX2_picks_3 (by decide) ?_
  rintro _ rfl
  refine j_wC (κ' := (upd S 28 (nI (t + 1)), va_up X 81 (upd (X 81) t (nI 11)), P)) rfl ?_
  refine j_aload_n C 0 dX2_picks_6 rfl ?_
  refine j_aload_n C 1 dX2_picks_7 rfl ?_
  refine j_iload_n C 2 dX2_picks_8 rfl ?_
  refine j_iload_n C 3 dX2_picks_9 rfl ?_
  refine j_iload C 4 dX2_picks_10 rfl ?_
  refine j_callU (As := [.ref (q 20), .int n, .int m, .int x]) (rest := []) C uw2_13_6 (h_X2_bows_30 (S := upd S 28 (nI (t + 1))) (X := va_up X 81 (upd (X 81) t (nI 11))) (t + 1) (by omega) pk_us) ⟨30, 6, _, _, rfl, rfl, rfl⟩ rfl (Nat.le_of_ble_eq_true rfl) dX2_picks_12 (by decide) ?_
  rintro _ _ ⟨rfl, rfl⟩
  refine j_wC (κ' := (upd S 28 (nI (t + 1 + 1)), va_up X 81 (trW (upd (X 81) t (nI 11)) (t + 1) ([nI 10])), P)) rfl ?_
  refine j_iconst C (v := (nI 2)) dX2_picks_15 (by decide) ?_
  refine j_imul C dX2_picks_16 ?_
  refine j_iret C dX2_picks_17 ?_
  exact ⟨rfl, rfl⟩
set_option maxHeartbeats 2000000 in
set_option maxRecDepth 20000 in
theorem h_X2_picks_31 {l : Launch} {D : va_G} {cI cG cW : ClassId} {q : Nat → Nat} {S : Nat → Int32} {X : Nat → Nat → Int32} {P : Nat → Nat} {n m x : Int32} (t : Nat) (ht : t + 2 ≤ 40) (h : S 28 = nI t) : Ci l yX2_picks cX2_picks 5 (some .int) 4 D (tyL cI cG cW) (wC cI cG cW q) [.ref (q 31), .ref (q 20), .int n, .int m, .int x] (S, X, P) (fun r τ => r = (vB 6 n x * nI 2) ∧ τ = (upd S 28 (nI (t + 2)), va_up X 81 (trW (X 81) t (nI 11 :: vBt 6)), P)) := by
  refine Ci.of (by decide) (Nat.le_of_ble_eq_true rfl) ?_
  intro p_ e_ s_ m_ b_ M_ c_ A_ C
  replace C : Cx _ _ _ _ _ _ _ _ RX2 _ _ _ _ := C
  refine j_L [0, 1, 2, 3, 4] [(0, .ref (q 31)), (1, .ref (q 20)), (2, .int n), (3, .int m), (4, .int x)] rfl ?_
  refine j_aload_n C 1 dX2_picks_0 rfl ?_
  refine j_bipush C (v := (nI 11)) dX2_picks_1 (by decide) ?_
  refine j_callVNv (As := [.int (nI 11)]) (rest := []) C vn2_7 (h_add_9 (S := S) (X := X) t h (by omega)) ⟨20, 8, _, _, rfl, rfl, rfl⟩ rfl (Nat.le_of_ble_eq_true rfl) dX2_picks_3 (by decide) ?_
  rintro _ rfl
  refine j_wC (κ' := (upd S 28 (nI (t + 1)), va_up X 81 (upd (X 81) t (nI 11)), P)) rfl ?_
  refine j_aload_n C 0 dX2_picks_6 rfl ?_
  refine j_aload_n C 1 dX2_picks_7 rfl ?_
  refine j_iload_n C 2 dX2_picks_8 rfl ?_
  refine j_iload_n C 3 dX2_picks_9 rfl ?_
  refine j_iload C 4 dX2_picks_10 rfl ?_
  refine j_callU (As := [.ref (q 20), .int n, .int m, .int x]) (rest := []) C uw2_13_7 (h_X2_bows_31 (S := upd S 28 (nI (t + 1))) (X := va_up X 81 (upd (X 81) t (nI 11))) (t + 1) (by omega) pk_us) ⟨31, 7, _, _, rfl, rfl, rfl⟩ rfl (Nat.le_of_ble_eq_true rfl) dX2_picks_12 (by decide) ?_
  rintro _ _ ⟨rfl, rfl⟩
  refine j_wC (κ' := (upd S 28 (nI (t + 1 + 1)), va_up X 81 (trW (upd (X 81) t (nI 11)) (t + 1) ([nI 10])), P)) rfl ?_
  refine j_iconst C (v := (nI 2)) dX2_picks_15 (by decide) ?_
  refine j_imul C dX2_picks_16 ?_
  refine j_iret C dX2_picks_17 ?_
  exact ⟨rfl, rfl⟩
theorem dX0_picks_0 : decode cX0_picks 0 = .ok (.aload_n 1, 1) := by decide +kernel
theorem dX0_picks_1 : decode cX0_picks 1 = .ok (.bipush 30, 2) := by decide +kernel
theorem dX0_picks_3 : decode cX0_picks 3 = .ok (.invokevirtual 7, 3) := by decide +kernel
theorem dX0_picks_6 : decode cX0_picks 6 = .ok (.aload_n 0, 1) := by decide +kernel
theorem dX0_picks_7 : decode cX0_picks 7 = .ok (.aload_n 1, 1) := by decide +kernel
theorem dX0_picks_8 : decode cX0_picks 8 = .ok (.iload_n 2, 1) := by decide +kernel
theorem dX0_picks_9 : decode cX0_picks 9 = .ok (.iload_n 3, 1) := by decide +kernel
theorem dX0_picks_10 : decode cX0_picks 10 = .ok (.iload 4, 2) := by decide +kernel
theorem dX0_picks_12 : decode cX0_picks 12 = .ok (.invokespecial 13, 3) := by decide +kernel
theorem dX0_picks_15 : decode cX0_picks 15 = .ok (.aload_n 0, 1) := by decide +kernel
theorem dX0_picks_16 : decode cX0_picks 16 = .ok (.aload_n 1, 1) := by decide +kernel
theorem dX0_picks_17 : decode cX0_picks 17 = .ok (.iload_n 2, 1) := by decide +kernel
theorem dX0_picks_18 : decode cX0_picks 18 = .ok (.iload_n 3, 1) := by decide +kernel
theorem dX0_picks_19 : decode cX0_picks 19 = .ok (.iconst 1, 1) := by decide +kernel
theorem dX0_picks_20 : decode cX0_picks 20 = .ok (.invokevirtual 17, 3) := by decide +kernel
theorem dX0_picks_23 : decode cX0_picks 23 = .ok (.isub, 1) := by decide +kernel
theorem dX0_picks_24 : decode cX0_picks 24 = .ok (.ireturn, 1) := by decide +kernel
set_option maxHeartbeats 2000000 in
set_option maxRecDepth 20000 in
theorem h_X0_picks_27 {l : Launch} {D : va_G} {cI cG cW : ClassId} {q : Nat → Nat} {S : Nat → Int32} {X : Nat → Nat → Int32} {P : Nat → Nat} {n m x : Int32} (t : Nat) (ht : t + 4 ≤ 40) (h : S 28 = nI t) : Ci l yX0_picks cX0_picks 5 (some .int) 5 D (tyL cI cG cW) (wC cI cG cW q) [.ref (q 27), .ref (q 20), .int n, .int m, .int x] (S, X, P) (fun r τ => r = (vP 2 2 n m x) ∧ τ = (upd S 28 (nI (t + 4)), va_up X 81 (trW (X 81) t (vPt 2 2)), P)) := by
  refine Ci.of (by decide) (Nat.le_of_ble_eq_true rfl) ?_
  intro p_ e_ s_ m_ b_ M_ c_ A_ C
  replace C : Cx _ _ _ _ _ _ _ _ RX0 _ _ _ _ := C
  refine j_L [0, 1, 2, 3, 4] [(0, .ref (q 27)), (1, .ref (q 20)), (2, .int n), (3, .int m), (4, .int x)] rfl ?_
  refine j_aload_n C 1 dX0_picks_0 rfl ?_
  refine j_bipush C (v := (nI 30)) dX0_picks_1 (by decide) ?_
  refine j_callVNv (As := [.int (nI 30)]) (rest := []) C vn0_7 (h_add_9 (S := S) (X := X) t h (by omega)) ⟨20, 8, _, _, rfl, rfl, rfl⟩ rfl (Nat.le_of_ble_eq_true rfl) dX0_picks_3 (by decide) ?_
  rintro _ rfl
  refine j_wC (κ' := (upd S 28 (nI (t + 1)), va_up X 81 (upd (X 81) t (nI 30)), P)) rfl ?_
  refine j_aload_n C 0 dX0_picks_6 rfl ?_
  refine j_aload_n C 1 dX0_picks_7 rfl ?_
  refine j_iload_n C 2 dX0_picks_8 rfl ?_
  refine j_iload_n C 3 dX0_picks_9 rfl ?_
  refine j_iload C 4 dX0_picks_10 rfl ?_
  refine j_callSU (As := [.ref (q 20), .int n, .int m, .int x]) (rest := []) C su0_13 (h_X2_picks_27 (S := upd S 28 (nI (t + 1))) (X := va_up X 81 (upd (X 81) t (nI 30))) (t + 1) (by omega) pk_us) ⟨27, 0, _, _, rfl, rfl, rfl⟩ rfl (Nat.le_of_ble_eq_true rfl) dX0_picks_12 (by decide) ?_
  rintro _ _ ⟨rfl, rfl⟩
  refine j_wC (κ' := (upd S 28 (nI (t + 1 + 2)), va_up X 81 (trW (upd (X 81) t (nI 30)) (t + 1) (nI 11 :: vBt 2)), P)) rfl ?_
  refine j_aload_n C 0 dX0_picks_15 rfl ?_
  refine j_aload_n C 1 dX0_picks_16 rfl ?_
  refine j_iload_n C 2 dX0_picks_17 rfl ?_
  refine j_iload_n C 3 dX0_picks_18 rfl ?_
  refine j_iconst C (v := (nI 1)) dX0_picks_19 (by decide) ?_
  refine j_callU (As := [.ref (q 20), .int n, .int m, .int (nI 1)]) (rest := [.int (vB 2 n x * nI 2)]) C uw0_17_0 (h_X2_sighs_27 (S := upd S 28 (nI (t + 1 + 2))) (X := va_up X 81 (trW (upd (X 81) t (nI 30)) (t + 1) (nI 11 :: vBt 2))) (t + 1 + 2) (by omega) pk_us) ⟨27, 0, _, _, rfl, rfl, rfl⟩ rfl (Nat.le_of_ble_eq_true rfl) dX0_picks_20 (by decide) ?_
  rintro _ _ ⟨rfl, rfl⟩
  refine j_wC (κ' := (upd S 28 (nI (t + 1 + 2 + 1)), va_up X 81 (trW (trW (upd (X 81) t (nI 30)) (t + 1) (nI 11 :: vBt 2)) (t + 1 + 2) ([nI 12])), P)) rfl ?_
  refine j_isub C dX0_picks_23 ?_
  refine j_iret C dX0_picks_24 ?_
  exact ⟨rfl, rfl⟩
set_option maxHeartbeats 2000000 in
set_option maxRecDepth 20000 in
theorem h_X0_picks_30 {l : Launch} {D : va_G} {cI cG cW : ClassId} {q : Nat → Nat} {S : Nat → Int32} {X : Nat → Nat → Int32} {P : Nat → Nat} {n m x : Int32} (t : Nat) (ht : t + 4 ≤ 40) (h : S 28 = nI t) : Ci l yX0_picks cX0_picks 5 (some .int) 5 D (tyL cI cG cW) (wC cI cG cW q) [.ref (q 30), .ref (q 20), .int n, .int m, .int x] (S, X, P) (fun r τ => r = (vP 2 5 n m x) ∧ τ = (upd S 28 (nI (t + 4)), va_up X 81 (trW (X 81) t (vPt 2 5)), P)) := by
  refine Ci.of (by decide) (Nat.le_of_ble_eq_true rfl) ?_
  intro p_ e_ s_ m_ b_ M_ c_ A_ C
  replace C : Cx _ _ _ _ _ _ _ _ RX0 _ _ _ _ := C
  refine j_L [0, 1, 2, 3, 4] [(0, .ref (q 30)), (1, .ref (q 20)), (2, .int n), (3, .int m), (4, .int x)] rfl ?_
  refine j_aload_n C 1 dX0_picks_0 rfl ?_
  refine j_bipush C (v := (nI 30)) dX0_picks_1 (by decide) ?_
  refine j_callVNv (As := [.int (nI 30)]) (rest := []) C vn0_7 (h_add_9 (S := S) (X := X) t h (by omega)) ⟨20, 8, _, _, rfl, rfl, rfl⟩ rfl (Nat.le_of_ble_eq_true rfl) dX0_picks_3 (by decide) ?_
  rintro _ rfl
  refine j_wC (κ' := (upd S 28 (nI (t + 1)), va_up X 81 (upd (X 81) t (nI 30)), P)) rfl ?_
  refine j_aload_n C 0 dX0_picks_6 rfl ?_
  refine j_aload_n C 1 dX0_picks_7 rfl ?_
  refine j_iload_n C 2 dX0_picks_8 rfl ?_
  refine j_iload_n C 3 dX0_picks_9 rfl ?_
  refine j_iload C 4 dX0_picks_10 rfl ?_
  refine j_callSU (As := [.ref (q 20), .int n, .int m, .int x]) (rest := []) C su0_13 (h_X2_picks_30 (S := upd S 28 (nI (t + 1))) (X := va_up X 81 (upd (X 81) t (nI 30))) (t + 1) (by omega) pk_us) ⟨30, 6, _, _, rfl, rfl, rfl⟩ rfl (Nat.le_of_ble_eq_true rfl) dX0_picks_12 (by decide) ?_
  rintro _ _ ⟨rfl, rfl⟩
  refine j_wC (κ' := (upd S 28 (nI (t + 1 + 2)), va_up X 81 (trW (upd (X 81) t (nI 30)) (t + 1) (nI 11 :: vBt 5)), P)) rfl ?_
  refine j_aload_n C 0 dX0_picks_15 rfl ?_
  refine j_aload_n C 1 dX0_picks_16 rfl ?_
  refine j_iload_n C 2 dX0_picks_17 rfl ?_
  refine j_iload_n C 3 dX0_picks_18 rfl ?_
  refine j_iconst C (v := (nI 1)) dX0_picks_19 (by decide) ?_
  refine j_callU (As := [.ref (q 20), .int n, .int m, .int (nI 1)]) (rest := [.int (vB 5 n x * nI 2)]) C uw0_17_6 (h_X2_sighs_30 (S := upd S 28 (nI (t + 1 + 2))) (X := va_up X 81 (trW (upd (X 81) t (nI 30)) (t + 1) (nI 11 :: vBt 5))) (t + 1 + 2) (by omega) pk_us) ⟨30, 6, _, _, rfl, rfl, rfl⟩ rfl (Nat.le_of_ble_eq_true rfl) dX0_picks_20 (by decide) ?_
  rintro _ _ ⟨rfl, rfl⟩
  refine j_wC (κ' := (upd S 28 (nI (t + 1 + 2 + 1)), va_up X 81 (trW (trW (upd (X 81) t (nI 30)) (t + 1) (nI 11 :: vBt 5)) (t + 1 + 2) ([nI 12])), P)) rfl ?_
  refine j_isub C dX0_picks_23 ?_
  refine j_iret C dX0_picks_24 ?_
  exact ⟨rfl, rfl⟩
theorem dX6_picks_0 : decode cX6_picks 0 = .ok (.aload_n 1, 1) := by decide +kernel
theorem dX6_picks_1 : decode cX6_picks 1 = .ok (.bipush 60, 2) := by decide +kernel
theorem dX6_picks_3 : decode cX6_picks 3 = .ok (.invokevirtual 11, 3) := by decide +kernel
theorem dX6_picks_6 : decode cX6_picks 6 = .ok (.aload_n 0, 1) := by decide +kernel
theorem dX6_picks_7 : decode cX6_picks 7 = .ok (.aload_n 1, 1) := by decide +kernel
theorem dX6_picks_8 : decode cX6_picks 8 = .ok (.iload_n 2, 1) := by decide +kernel
theorem dX6_picks_9 : decode cX6_picks 9 = .ok (.iload_n 3, 1) := by decide +kernel
theorem dX6_picks_10 : decode cX6_picks 10 = .ok (.iload 4, 2) := by decide +kernel
theorem dX6_picks_12 : decode cX6_picks 12 = .ok (.iconst 1, 1) := by decide +kernel
theorem dX6_picks_13 : decode cX6_picks 13 = .ok (.iadd, 1) := by decide +kernel
theorem dX6_picks_14 : decode cX6_picks 14 = .ok (.invokespecial 17, 3) := by decide +kernel
theorem dX6_picks_17 : decode cX6_picks 17 = .ok (.ireturn, 1) := by decide +kernel
set_option maxHeartbeats 2000000 in
set_option maxRecDepth 20000 in
theorem h_X6_picks_30 {l : Launch} {D : va_G} {cI cG cW : ClassId} {q : Nat → Nat} {S : Nat → Int32} {X : Nat → Nat → Int32} {P : Nat → Nat} {n m x : Int32} (t : Nat) (ht : t + 5 ≤ 40) (h : S 28 = nI t) : Ci l yX6_picks cX6_picks 5 (some .int) 6 D (tyL cI cG cW) (wC cI cG cW q) [.ref (q 30), .ref (q 20), .int n, .int m, .int x] (S, X, P) (fun r τ => r = (vP 5 5 n m x) ∧ τ = (upd S 28 (nI (t + 5)), va_up X 81 (trW (X 81) t (vPt 5 5)), P)) := by
  refine Ci.of (by decide) (Nat.le_of_ble_eq_true rfl) ?_
  intro p_ e_ s_ m_ b_ M_ c_ A_ C
  replace C : Cx _ _ _ _ _ _ _ _ RX6 _ _ _ _ := C
  refine j_L [0, 1, 2, 3, 4] [(0, .ref (q 30)), (1, .ref (q 20)), (2, .int n), (3, .int m), (4, .int x)] rfl ?_
  refine j_aload_n C 1 dX6_picks_0 rfl ?_
  refine j_bipush C (v := (nI 60)) dX6_picks_1 (by decide) ?_
  refine j_callVNv (As := [.int (nI 60)]) (rest := []) C vn6_11 (h_add_9 (S := S) (X := X) t h (by omega)) ⟨20, 8, _, _, rfl, rfl, rfl⟩ rfl (Nat.le_of_ble_eq_true rfl) dX6_picks_3 (by decide) ?_
  rintro _ rfl
  refine j_wC (κ' := (upd S 28 (nI (t + 1)), va_up X 81 (upd (X 81) t (nI 60)), P)) rfl ?_
  refine j_aload_n C 0 dX6_picks_6 rfl ?_
  refine j_aload_n C 1 dX6_picks_7 rfl ?_
  refine j_iload_n C 2 dX6_picks_8 rfl ?_
  refine j_iload_n C 3 dX6_picks_9 rfl ?_
  refine j_iload C 4 dX6_picks_10 rfl ?_
  refine j_iconst C (v := (nI 1)) dX6_picks_12 (by decide) ?_
  refine j_iadd C dX6_picks_13 ?_
  refine j_callSU (As := [.ref (q 20), .int n, .int m, .int (x + (nI 1))]) (rest := []) C su6_17 (h_X0_picks_30 (S := upd S 28 (nI (t + 1))) (X := va_up X 81 (upd (X 81) t (nI 60))) (t + 1) (by omega) pk_us) ⟨30, 6, _, _, rfl, rfl, rfl⟩ rfl (Nat.le_of_ble_eq_true rfl) dX6_picks_14 (by decide) ?_
  rintro _ _ ⟨rfl, rfl⟩
  refine j_wC (κ' := (upd S 28 (nI (t + 1 + 4)), va_up X 81 (trW (upd (X 81) t (nI 60)) (t + 1) (vPt 2 5)), P)) rfl ?_
  refine j_iret C dX6_picks_17 ?_
  exact ⟨rfl, rfl⟩
theorem dX2_stands_0 : decode cX2_stands 0 = .ok (.aload_n 1, 1) := by decide +kernel
theorem dX2_stands_1 : decode cX2_stands 1 = .ok (.bipush 13, 2) := by decide +kernel
theorem dX2_stands_3 : decode cX2_stands 3 = .ok (.invokevirtual 7, 3) := by decide +kernel
theorem dX2_stands_6 : decode cX2_stands 6 = .ok (.aload_n 0, 1) := by decide +kernel
theorem dX2_stands_7 : decode cX2_stands 7 = .ok (.aload_n 1, 1) := by decide +kernel
theorem dX2_stands_8 : decode cX2_stands 8 = .ok (.iload_n 2, 1) := by decide +kernel
theorem dX2_stands_9 : decode cX2_stands 9 = .ok (.iload_n 3, 1) := by decide +kernel
theorem dX2_stands_10 : decode cX2_stands 10 = .ok (.iload 4, 2) := by decide +kernel
theorem dX2_stands_12 : decode cX2_stands 12 = .ok (.invokevirtual 19, 3) := by decide +kernel
theorem dX2_stands_15 : decode cX2_stands 15 = .ok (.aload_n 0, 1) := by decide +kernel
theorem dX2_stands_16 : decode cX2_stands 16 = .ok (.aload_n 1, 1) := by decide +kernel
theorem dX2_stands_17 : decode cX2_stands 17 = .ok (.iload_n 2, 1) := by decide +kernel
theorem dX2_stands_18 : decode cX2_stands 18 = .ok (.iload_n 3, 1) := by decide +kernel
theorem dX2_stands_19 : decode cX2_stands 19 = .ok (.iload 4, 2) := by decide +kernel
theorem dX2_stands_21 : decode cX2_stands 21 = .ok (.invokevirtual 22, 3) := by decide +kernel
theorem dX2_stands_24 : decode cX2_stands 24 = .ok (.ixor, 1) := by decide +kernel
theorem dX2_stands_25 : decode cX2_stands 25 = .ok (.ireturn, 1) := by decide +kernel
set_option maxHeartbeats 2000000 in
set_option maxRecDepth 20000 in
theorem h_X2_stands_25 {l : Launch} {D : va_G} {cI cG cW : ClassId} {q : Nat → Nat} {S : Nat → Int32} {X : Nat → Nat → Int32} {P : Nat → Nat} {n m x : Int32} (t : Nat) (ht : t + 4 ≤ 40) (h : S 28 = nI t) : Ci l yX2_stands cX2_stands 5 (some .int) 8 D (tyL cI cG cW) (wC cI cG cW q) [.ref (q 25), .ref (q 20), .int n, .int m, .int x] (S, X, P) (fun r τ => r = (vP 0 0 n m x ^^^ vS 0 n m x) ∧ τ = (upd S 28 (nI (t + 4)), va_up X 81 (trW (X 81) t (nI 13 :: (vPt 0 0 ++ vSt 0))), P)) := by
  refine Ci.of (by decide) (Nat.le_of_ble_eq_true rfl) ?_
  intro p_ e_ s_ m_ b_ M_ c_ A_ C
  replace C : Cx _ _ _ _ _ _ _ _ RX2 _ _ _ _ := C
  refine j_L [0, 1, 2, 3, 4] [(0, .ref (q 25)), (1, .ref (q 20)), (2, .int n), (3, .int m), (4, .int x)] rfl ?_
  refine j_aload_n C 1 dX2_stands_0 rfl ?_
  refine j_bipush C (v := (nI 13)) dX2_stands_1 (by decide) ?_
  refine j_callVNv (As := [.int (nI 13)]) (rest := []) C vn2_7 (h_add_9 (S := S) (X := X) t h (by omega)) ⟨20, 8, _, _, rfl, rfl, rfl⟩ rfl (Nat.le_of_ble_eq_true rfl) dX2_stands_3 (by decide) ?_
  rintro _ rfl
  refine j_wC (κ' := (upd S 28 (nI (t + 1)), va_up X 81 (upd (X 81) t (nI 13)), P)) rfl ?_
  refine j_aload_n C 0 dX2_stands_6 rfl ?_
  refine j_aload_n C 1 dX2_stands_7 rfl ?_
  refine j_iload_n C 2 dX2_stands_8 rfl ?_
  refine j_iload_n C 3 dX2_stands_9 rfl ?_
  refine j_iload C 4 dX2_stands_10 rfl ?_
  refine j_callU (As := [.ref (q 20), .int n, .int m, .int x]) (rest := []) C uw2_19_2 (h_X2_picks_25 (S := upd S 28 (nI (t + 1))) (X := va_up X 81 (upd (X 81) t (nI 13))) (t + 1) (by omega) pk_us) ⟨25, 2, _, _, rfl, rfl, rfl⟩ rfl (Nat.le_of_ble_eq_true rfl) dX2_stands_12 (by decide) ?_
  rintro _ _ ⟨rfl, rfl⟩
  refine j_wC (κ' := (upd S 28 (nI (t + 1 + 2)), va_up X 81 (trW (upd (X 81) t (nI 13)) (t + 1) (nI 11 :: vBt 0)), P)) rfl ?_
  refine j_aload_n C 0 dX2_stands_15 rfl ?_
  refine j_aload_n C 1 dX2_stands_16 rfl ?_
  refine j_iload_n C 2 dX2_stands_17 rfl ?_
  refine j_iload_n C 3 dX2_stands_18 rfl ?_
  refine j_iload C 4 dX2_stands_19 rfl ?_
  refine j_callU (As := [.ref (q 20), .int n, .int m, .int x]) (rest := [.int (vB 0 n x * nI 2)]) C uw2_22_2 (h_X2_sighs_25 (S := upd S 28 (nI (t + 1 + 2))) (X := va_up X 81 (trW (upd (X 81) t (nI 13)) (t + 1) (nI 11 :: vBt 0))) (t + 1 + 2) (by omega) pk_us) ⟨25, 2, _, _, rfl, rfl, rfl⟩ rfl (Nat.le_of_ble_eq_true rfl) dX2_stands_21 (by decide) ?_
  rintro _ _ ⟨rfl, rfl⟩
  refine j_wC (κ' := (upd S 28 (nI (t + 1 + 2 + 1)), va_up X 81 (trW (trW (upd (X 81) t (nI 13)) (t + 1) (nI 11 :: vBt 0)) (t + 1 + 2) ([nI 12])), P)) rfl ?_
  refine j_ixor C dX2_stands_24 ?_
  refine j_iret C dX2_stands_25 ?_
  exact ⟨rfl, rfl⟩
set_option maxHeartbeats 2000000 in
set_option maxRecDepth 20000 in
theorem h_X2_stands_26 {l : Launch} {D : va_G} {cI cG cW : ClassId} {q : Nat → Nat} {S : Nat → Int32} {X : Nat → Nat → Int32} {P : Nat → Nat} {n m x : Int32} (t : Nat) (ht : t + 5 ≤ 40) (h : S 28 = nI t) : Ci l yX2_stands cX2_stands 5 (some .int) 8 D (tyL cI cG cW) (wC cI cG cW q) [.ref (q 26), .ref (q 20), .int n, .int m, .int x] (S, X, P) (fun r τ => r = (vP 1 1 n m x ^^^ vS 1 n m x) ∧ τ = (upd S 28 (nI (t + 5)), va_up X 81 (trW (X 81) t (nI 13 :: (vPt 1 1 ++ vSt 1))), P)) := by
  refine Ci.of (by decide) (Nat.le_of_ble_eq_true rfl) ?_
  intro p_ e_ s_ m_ b_ M_ c_ A_ C
  replace C : Cx _ _ _ _ _ _ _ _ RX2 _ _ _ _ := C
  refine j_L [0, 1, 2, 3, 4] [(0, .ref (q 26)), (1, .ref (q 20)), (2, .int n), (3, .int m), (4, .int x)] rfl ?_
  refine j_aload_n C 1 dX2_stands_0 rfl ?_
  refine j_bipush C (v := (nI 13)) dX2_stands_1 (by decide) ?_
  refine j_callVNv (As := [.int (nI 13)]) (rest := []) C vn2_7 (h_add_9 (S := S) (X := X) t h (by omega)) ⟨20, 8, _, _, rfl, rfl, rfl⟩ rfl (Nat.le_of_ble_eq_true rfl) dX2_stands_3 (by decide) ?_
  rintro _ rfl
  refine j_wC (κ' := (upd S 28 (nI (t + 1)), va_up X 81 (upd (X 81) t (nI 13)), P)) rfl ?_
  refine j_aload_n C 0 dX2_stands_6 rfl ?_
  refine j_aload_n C 1 dX2_stands_7 rfl ?_
  refine j_iload_n C 2 dX2_stands_8 rfl ?_
  refine j_iload_n C 3 dX2_stands_9 rfl ?_
  refine j_iload C 4 dX2_stands_10 rfl ?_
  refine j_callU (As := [.ref (q 20), .int n, .int m, .int x]) (rest := []) C uw2_19_10 (h_X2_picks_26 (S := upd S 28 (nI (t + 1))) (X := va_up X 81 (upd (X 81) t (nI 13))) (t + 1) (by omega) pk_us) ⟨26, 10, _, _, rfl, rfl, rfl⟩ rfl (Nat.le_of_ble_eq_true rfl) dX2_stands_12 (by decide) ?_
  rintro _ _ ⟨rfl, rfl⟩
  refine j_wC (κ' := (upd S 28 (nI (t + 1 + 3)), va_up X 81 (trW (upd (X 81) t (nI 13)) (t + 1) (nI 11 :: vBt 1)), P)) rfl ?_
  refine j_aload_n C 0 dX2_stands_15 rfl ?_
  refine j_aload_n C 1 dX2_stands_16 rfl ?_
  refine j_iload_n C 2 dX2_stands_17 rfl ?_
  refine j_iload_n C 3 dX2_stands_18 rfl ?_
  refine j_iload C 4 dX2_stands_19 rfl ?_
  refine j_callU (As := [.ref (q 20), .int n, .int m, .int x]) (rest := [.int (vB 1 n x * nI 2)]) C uw2_22_10 (h_X2_sighs_26 (S := upd S 28 (nI (t + 1 + 3))) (X := va_up X 81 (trW (upd (X 81) t (nI 13)) (t + 1) (nI 11 :: vBt 1))) (t + 1 + 3) (by omega) pk_us) ⟨26, 10, _, _, rfl, rfl, rfl⟩ rfl (Nat.le_of_ble_eq_true rfl) dX2_stands_21 (by decide) ?_
  rintro _ _ ⟨rfl, rfl⟩
  refine j_wC (κ' := (upd S 28 (nI (t + 1 + 3 + 1)), va_up X 81 (trW (trW (upd (X 81) t (nI 13)) (t + 1) (nI 11 :: vBt 1)) (t + 1 + 3) ([nI 12])), P)) rfl ?_
  refine j_ixor C dX2_stands_24 ?_
  refine j_iret C dX2_stands_25 ?_
  exact ⟨rfl, rfl⟩
set_option maxHeartbeats 2000000 in
set_option maxRecDepth 20000 in
theorem h_X2_stands_27 {l : Launch} {D : va_G} {cI cG cW : ClassId} {q : Nat → Nat} {S : Nat → Int32} {X : Nat → Nat → Int32} {P : Nat → Nat} {n m x : Int32} (t : Nat) (ht : t + 6 ≤ 40) (h : S 28 = nI t) : Ci l yX2_stands cX2_stands 5 (some .int) 8 D (tyL cI cG cW) (wC cI cG cW q) [.ref (q 27), .ref (q 20), .int n, .int m, .int x] (S, X, P) (fun r τ => r = (vP 2 2 n m x ^^^ vS 2 n m x) ∧ τ = (upd S 28 (nI (t + 6)), va_up X 81 (trW (X 81) t (nI 13 :: (vPt 2 2 ++ vSt 2))), P)) := by
  refine Ci.of (by decide) (Nat.le_of_ble_eq_true rfl) ?_
  intro p_ e_ s_ m_ b_ M_ c_ A_ C
  replace C : Cx _ _ _ _ _ _ _ _ RX2 _ _ _ _ := C
  refine j_L [0, 1, 2, 3, 4] [(0, .ref (q 27)), (1, .ref (q 20)), (2, .int n), (3, .int m), (4, .int x)] rfl ?_
  refine j_aload_n C 1 dX2_stands_0 rfl ?_
  refine j_bipush C (v := (nI 13)) dX2_stands_1 (by decide) ?_
  refine j_callVNv (As := [.int (nI 13)]) (rest := []) C vn2_7 (h_add_9 (S := S) (X := X) t h (by omega)) ⟨20, 8, _, _, rfl, rfl, rfl⟩ rfl (Nat.le_of_ble_eq_true rfl) dX2_stands_3 (by decide) ?_
  rintro _ rfl
  refine j_wC (κ' := (upd S 28 (nI (t + 1)), va_up X 81 (upd (X 81) t (nI 13)), P)) rfl ?_
  refine j_aload_n C 0 dX2_stands_6 rfl ?_
  refine j_aload_n C 1 dX2_stands_7 rfl ?_
  refine j_iload_n C 2 dX2_stands_8 rfl ?_
  refine j_iload_n C 3 dX2_stands_9 rfl ?_
  refine j_iload C 4 dX2_stands_10 rfl ?_
  refine j_callU (As := [.ref (q 20), .int n, .int m, .int x]) (rest := []) C uw2_19_0 (h_X0_picks_27 (S := upd S 28 (nI (t + 1))) (X := va_up X 81 (upd (X 81) t (nI 13))) (t + 1) (by omega) pk_us) ⟨27, 0, _, _, rfl, rfl, rfl⟩ rfl (Nat.le_of_ble_eq_true rfl) dX2_stands_12 (by decide) ?_
  rintro _ _ ⟨rfl, rfl⟩
  refine j_wC (κ' := (upd S 28 (nI (t + 1 + 4)), va_up X 81 (trW (upd (X 81) t (nI 13)) (t + 1) (vPt 2 2)), P)) rfl ?_
  refine j_aload_n C 0 dX2_stands_15 rfl ?_
  refine j_aload_n C 1 dX2_stands_16 rfl ?_
  refine j_iload_n C 2 dX2_stands_17 rfl ?_
  refine j_iload_n C 3 dX2_stands_18 rfl ?_
  refine j_iload C 4 dX2_stands_19 rfl ?_
  refine j_callU (As := [.ref (q 20), .int n, .int m, .int x]) (rest := [.int (vP 2 2 n m x)]) C uw2_22_0 (h_X2_sighs_27 (S := upd S 28 (nI (t + 1 + 4))) (X := va_up X 81 (trW (upd (X 81) t (nI 13)) (t + 1) (vPt 2 2))) (t + 1 + 4) (by omega) pk_us) ⟨27, 0, _, _, rfl, rfl, rfl⟩ rfl (Nat.le_of_ble_eq_true rfl) dX2_stands_21 (by decide) ?_
  rintro _ _ ⟨rfl, rfl⟩
  refine j_wC (κ' := (upd S 28 (nI (t + 1 + 4 + 1)), va_up X 81 (trW (trW (upd (X 81) t (nI 13)) (t + 1) (vPt 2 2)) (t + 1 + 4) ([nI 12])), P)) rfl ?_
  refine j_ixor C dX2_stands_24 ?_
  refine j_iret C dX2_stands_25 ?_
  exact ⟨rfl, rfl⟩
set_option maxHeartbeats 2000000 in
set_option maxRecDepth 20000 in
theorem h_X2_stands_28 {l : Launch} {D : va_G} {cI cG cW : ClassId} {q : Nat → Nat} {S : Nat → Int32} {X : Nat → Nat → Int32} {P : Nat → Nat} {n m x : Int32} (t : Nat) (ht : t + 5 ≤ 40) (h : S 28 = nI t) : Ci l yX2_stands cX2_stands 5 (some .int) 8 D (tyL cI cG cW) (wC cI cG cW q) [.ref (q 28), .ref (q 20), .int n, .int m, .int x] (S, X, P) (fun r τ => r = (vP 3 3 n m x ^^^ vS 3 n m x) ∧ τ = (upd S 28 (nI (t + 5)), va_up X 81 (trW (X 81) t (nI 13 :: (vPt 3 3 ++ vSt 3))), P)) := by
  refine Ci.of (by decide) (Nat.le_of_ble_eq_true rfl) ?_
  intro p_ e_ s_ m_ b_ M_ c_ A_ C
  replace C : Cx _ _ _ _ _ _ _ _ RX2 _ _ _ _ := C
  refine j_L [0, 1, 2, 3, 4] [(0, .ref (q 28)), (1, .ref (q 20)), (2, .int n), (3, .int m), (4, .int x)] rfl ?_
  refine j_aload_n C 1 dX2_stands_0 rfl ?_
  refine j_bipush C (v := (nI 13)) dX2_stands_1 (by decide) ?_
  refine j_callVNv (As := [.int (nI 13)]) (rest := []) C vn2_7 (h_add_9 (S := S) (X := X) t h (by omega)) ⟨20, 8, _, _, rfl, rfl, rfl⟩ rfl (Nat.le_of_ble_eq_true rfl) dX2_stands_3 (by decide) ?_
  rintro _ rfl
  refine j_wC (κ' := (upd S 28 (nI (t + 1)), va_up X 81 (upd (X 81) t (nI 13)), P)) rfl ?_
  refine j_aload_n C 0 dX2_stands_6 rfl ?_
  refine j_aload_n C 1 dX2_stands_7 rfl ?_
  refine j_iload_n C 2 dX2_stands_8 rfl ?_
  refine j_iload_n C 3 dX2_stands_9 rfl ?_
  refine j_iload C 4 dX2_stands_10 rfl ?_
  refine j_callU (As := [.ref (q 20), .int n, .int m, .int x]) (rest := []) C uw2_19_9 (h_X2_picks_28 (S := upd S 28 (nI (t + 1))) (X := va_up X 81 (upd (X 81) t (nI 13))) (t + 1) (by omega) pk_us) ⟨28, 9, _, _, rfl, rfl, rfl⟩ rfl (Nat.le_of_ble_eq_true rfl) dX2_stands_12 (by decide) ?_
  rintro _ _ ⟨rfl, rfl⟩
  refine j_wC (κ' := (upd S 28 (nI (t + 1 + 2)), va_up X 81 (trW (upd (X 81) t (nI 13)) (t + 1) (nI 11 :: vBt 3)), P)) rfl ?_
  refine j_aload_n C 0 dX2_stands_15 rfl ?_
  refine j_aload_n C 1 dX2_stands_16 rfl ?_
  refine j_iload_n C 2 dX2_stands_17 rfl ?_
  refine j_iload_n C 3 dX2_stands_18 rfl ?_
  refine j_iload C 4 dX2_stands_19 rfl ?_
  refine j_callU (As := [.ref (q 20), .int n, .int m, .int x]) (rest := [.int (vB 3 n x * nI 2)]) C uw2_22_9 (h_X9_sighs_28 (S := upd S 28 (nI (t + 1 + 2))) (X := va_up X 81 (trW (upd (X 81) t (nI 13)) (t + 1) (nI 11 :: vBt 3))) (t + 1 + 2) (by omega) pk_us) ⟨28, 9, _, _, rfl, rfl, rfl⟩ rfl (Nat.le_of_ble_eq_true rfl) dX2_stands_21 (by decide) ?_
  rintro _ _ ⟨rfl, rfl⟩
  refine j_wC (κ' := (upd S 28 (nI (t + 1 + 2 + 2)), va_up X 81 (trW (trW (upd (X 81) t (nI 13)) (t + 1) (nI 11 :: vBt 3)) (t + 1 + 2) ([nI 40, nI 12])), P)) rfl ?_
  refine j_ixor C dX2_stands_24 ?_
  refine j_iret C dX2_stands_25 ?_
  exact ⟨rfl, rfl⟩
set_option maxHeartbeats 2000000 in
set_option maxRecDepth 20000 in
theorem h_X2_stands_29 {l : Launch} {D : va_G} {cI cG cW : ClassId} {q : Nat → Nat} {S : Nat → Int32} {X : Nat → Nat → Int32} {P : Nat → Nat} {n m x : Int32} (t : Nat) (ht : t + 5 ≤ 40) (h : S 28 = nI t) : Ci l yX2_stands cX2_stands 5 (some .int) 8 D (tyL cI cG cW) (wC cI cG cW q) [.ref (q 29), .ref (q 20), .int n, .int m, .int x] (S, X, P) (fun r τ => r = (vP 4 4 n m x ^^^ vS 4 n m x) ∧ τ = (upd S 28 (nI (t + 5)), va_up X 81 (trW (X 81) t (nI 13 :: (vPt 4 4 ++ vSt 4))), P)) := by
  refine Ci.of (by decide) (Nat.le_of_ble_eq_true rfl) ?_
  intro p_ e_ s_ m_ b_ M_ c_ A_ C
  replace C : Cx _ _ _ _ _ _ _ _ RX2 _ _ _ _ := C
  refine j_L [0, 1, 2, 3, 4] [(0, .ref (q 29)), (1, .ref (q 20)), (2, .int n), (3, .int m), (4, .int x)] rfl ?_
  refine j_aload_n C 1 dX2_stands_0 rfl ?_
  refine j_bipush C (v := (nI 13)) dX2_stands_1 (by decide) ?_
  refine j_callVNv (As := [.int (nI 13)]) (rest := []) C vn2_7 (h_add_9 (S := S) (X := X) t h (by omega)) ⟨20, 8, _, _, rfl, rfl, rfl⟩ rfl (Nat.le_of_ble_eq_true rfl) dX2_stands_3 (by decide) ?_
  rintro _ rfl
  refine j_wC (κ' := (upd S 28 (nI (t + 1)), va_up X 81 (upd (X 81) t (nI 13)), P)) rfl ?_
  refine j_aload_n C 0 dX2_stands_6 rfl ?_
  refine j_aload_n C 1 dX2_stands_7 rfl ?_
  refine j_iload_n C 2 dX2_stands_8 rfl ?_
  refine j_iload_n C 3 dX2_stands_9 rfl ?_
  refine j_iload C 4 dX2_stands_10 rfl ?_
  refine j_callU (As := [.ref (q 20), .int n, .int m, .int x]) (rest := []) C uw2_19_5 (h_X2_picks_29 (S := upd S 28 (nI (t + 1))) (X := va_up X 81 (upd (X 81) t (nI 13))) (t + 1) (by omega) pk_us) ⟨29, 5, _, _, rfl, rfl, rfl⟩ rfl (Nat.le_of_ble_eq_true rfl) dX2_stands_12 (by decide) ?_
  rintro _ _ ⟨rfl, rfl⟩
  refine j_wC (κ' := (upd S 28 (nI (t + 1 + 3)), va_up X 81 (trW (upd (X 81) t (nI 13)) (t + 1) (nI 11 :: vBt 4)), P)) rfl ?_
  refine j_aload_n C 0 dX2_stands_15 rfl ?_
  refine j_aload_n C 1 dX2_stands_16 rfl ?_
  refine j_iload_n C 2 dX2_stands_17 rfl ?_
  refine j_iload_n C 3 dX2_stands_18 rfl ?_
  refine j_iload C 4 dX2_stands_19 rfl ?_
  refine j_callU (As := [.ref (q 20), .int n, .int m, .int x]) (rest := [.int (vB 4 n x * nI 2)]) C uw2_22_5 (h_X2_sighs_29 (S := upd S 28 (nI (t + 1 + 3))) (X := va_up X 81 (trW (upd (X 81) t (nI 13)) (t + 1) (nI 11 :: vBt 4))) (t + 1 + 3) (by omega) pk_us) ⟨29, 5, _, _, rfl, rfl, rfl⟩ rfl (Nat.le_of_ble_eq_true rfl) dX2_stands_21 (by decide) ?_
  rintro _ _ ⟨rfl, rfl⟩
  refine j_wC (κ' := (upd S 28 (nI (t + 1 + 3 + 1)), va_up X 81 (trW (trW (upd (X 81) t (nI 13)) (t + 1) (nI 11 :: vBt 4)) (t + 1 + 3) ([nI 12])), P)) rfl ?_
  refine j_ixor C dX2_stands_24 ?_
  refine j_iret C dX2_stands_25 ?_
  exact ⟨rfl, rfl⟩
set_option maxHeartbeats 2000000 in
set_option maxRecDepth 20000 in
theorem h_X2_stands_30 {l : Launch} {D : va_G} {cI cG cW : ClassId} {q : Nat → Nat} {S : Nat → Int32} {X : Nat → Nat → Int32} {P : Nat → Nat} {n m x : Int32} (t : Nat) (ht : t + 7 ≤ 40) (h : S 28 = nI t) : Ci l yX2_stands cX2_stands 5 (some .int) 8 D (tyL cI cG cW) (wC cI cG cW q) [.ref (q 30), .ref (q 20), .int n, .int m, .int x] (S, X, P) (fun r τ => r = (vP 5 5 n m x ^^^ vS 5 n m x) ∧ τ = (upd S 28 (nI (t + 7)), va_up X 81 (trW (X 81) t (nI 13 :: (vPt 5 5 ++ vSt 5))), P)) := by
  refine Ci.of (by decide) (Nat.le_of_ble_eq_true rfl) ?_
  intro p_ e_ s_ m_ b_ M_ c_ A_ C
  replace C : Cx _ _ _ _ _ _ _ _ RX2 _ _ _ _ := C
  refine j_L [0, 1, 2, 3, 4] [(0, .ref (q 30)), (1, .ref (q 20)), (2, .int n), (3, .int m), (4, .int x)] rfl ?_
  refine j_aload_n C 1 dX2_stands_0 rfl ?_
  refine j_bipush C (v := (nI 13)) dX2_stands_1 (by decide) ?_
  refine j_callVNv (As := [.int (nI 13)]) (rest := []) C vn2_7 (h_add_9 (S := S) (X := X) t h (by omega)) ⟨20, 8, _, _, rfl, rfl, rfl⟩ rfl (Nat.le_of_ble_eq_true rfl) dX2_stands_3 (by decide) ?_
  rintro _ rfl
  refine j_wC (κ' := (upd S 28 (nI (t + 1)), va_up X 81 (upd (X 81) t (nI 13)), P)) rfl ?_
  refine j_aload_n C 0 dX2_stands_6 rfl ?_
  refine j_aload_n C 1 dX2_stands_7 rfl ?_
  refine j_iload_n C 2 dX2_stands_8 rfl ?_
  refine j_iload_n C 3 dX2_stands_9 rfl ?_
  refine j_iload C 4 dX2_stands_10 rfl ?_
  refine j_callU (As := [.ref (q 20), .int n, .int m, .int x]) (rest := []) C uw2_19_6 (h_X6_picks_30 (S := upd S 28 (nI (t + 1))) (X := va_up X 81 (upd (X 81) t (nI 13))) (t + 1) (by omega) pk_us) ⟨30, 6, _, _, rfl, rfl, rfl⟩ rfl (Nat.le_of_ble_eq_true rfl) dX2_stands_12 (by decide) ?_
  rintro _ _ ⟨rfl, rfl⟩
  refine j_wC (κ' := (upd S 28 (nI (t + 1 + 5)), va_up X 81 (trW (upd (X 81) t (nI 13)) (t + 1) (vPt 5 5)), P)) rfl ?_
  refine j_aload_n C 0 dX2_stands_15 rfl ?_
  refine j_aload_n C 1 dX2_stands_16 rfl ?_
  refine j_iload_n C 2 dX2_stands_17 rfl ?_
  refine j_iload_n C 3 dX2_stands_18 rfl ?_
  refine j_iload C 4 dX2_stands_19 rfl ?_
  refine j_callU (As := [.ref (q 20), .int n, .int m, .int x]) (rest := [.int (vP 5 5 n m x)]) C uw2_22_6 (h_X2_sighs_30 (S := upd S 28 (nI (t + 1 + 5))) (X := va_up X 81 (trW (upd (X 81) t (nI 13)) (t + 1) (vPt 5 5))) (t + 1 + 5) (by omega) pk_us) ⟨30, 6, _, _, rfl, rfl, rfl⟩ rfl (Nat.le_of_ble_eq_true rfl) dX2_stands_21 (by decide) ?_
  rintro _ _ ⟨rfl, rfl⟩
  refine j_wC (κ' := (upd S 28 (nI (t + 1 + 5 + 1)), va_up X 81 (trW (trW (upd (X 81) t (nI 13)) (t + 1) (vPt 5 5)) (t + 1 + 5) ([nI 12])), P)) rfl ?_
  refine j_ixor C dX2_stands_24 ?_
  refine j_iret C dX2_stands_25 ?_
  exact ⟨rfl, rfl⟩
set_option maxHeartbeats 2000000 in
set_option maxRecDepth 20000 in
theorem h_X2_stands_31 {l : Launch} {D : va_G} {cI cG cW : ClassId} {q : Nat → Nat} {S : Nat → Int32} {X : Nat → Nat → Int32} {P : Nat → Nat} {n m x : Int32} (t : Nat) (ht : t + 6 ≤ 40) (h : S 28 = nI t) : Ci l yX2_stands cX2_stands 5 (some .int) 8 D (tyL cI cG cW) (wC cI cG cW q) [.ref (q 31), .ref (q 20), .int n, .int m, .int x] (S, X, P) (fun r τ => r = (vP 6 6 n m x ^^^ vS 6 n m x) ∧ τ = (upd S 28 (nI (t + 6)), va_up X 81 (trW (X 81) t (nI 13 :: (vPt 6 6 ++ vSt 6))), P)) := by
  refine Ci.of (by decide) (Nat.le_of_ble_eq_true rfl) ?_
  intro p_ e_ s_ m_ b_ M_ c_ A_ C
  replace C : Cx _ _ _ _ _ _ _ _ RX2 _ _ _ _ := C
  refine j_L [0, 1, 2, 3, 4] [(0, .ref (q 31)), (1, .ref (q 20)), (2, .int n), (3, .int m), (4, .int x)] rfl ?_
  refine j_aload_n C 1 dX2_stands_0 rfl ?_
  refine j_bipush C (v := (nI 13)) dX2_stands_1 (by decide) ?_
  refine j_callVNv (As := [.int (nI 13)]) (rest := []) C vn2_7 (h_add_9 (S := S) (X := X) t h (by omega)) ⟨20, 8, _, _, rfl, rfl, rfl⟩ rfl (Nat.le_of_ble_eq_true rfl) dX2_stands_3 (by decide) ?_
  rintro _ rfl
  refine j_wC (κ' := (upd S 28 (nI (t + 1)), va_up X 81 (upd (X 81) t (nI 13)), P)) rfl ?_
  refine j_aload_n C 0 dX2_stands_6 rfl ?_
  refine j_aload_n C 1 dX2_stands_7 rfl ?_
  refine j_iload_n C 2 dX2_stands_8 rfl ?_
  refine j_iload_n C 3 dX2_stands_9 rfl ?_
  refine j_iload C 4 dX2_stands_10 rfl ?_
  refine j_callU (As := [.ref (q 20), .int n, .int m, .int x]) (rest := []) C uw2_19_7 (h_X2_picks_31 (S := upd S 28 (nI (t + 1))) (X := va_up X 81 (upd (X 81) t (nI 13))) (t + 1) (by omega) pk_us) ⟨31, 7, _, _, rfl, rfl, rfl⟩ rfl (Nat.le_of_ble_eq_true rfl) dX2_stands_12 (by decide) ?_
  rintro _ _ ⟨rfl, rfl⟩
  refine j_wC (κ' := (upd S 28 (nI (t + 1 + 2)), va_up X 81 (trW (upd (X 81) t (nI 13)) (t + 1) (nI 11 :: vBt 6)), P)) rfl ?_
  refine j_aload_n C 0 dX2_stands_15 rfl ?_
  refine j_aload_n C 1 dX2_stands_16 rfl ?_
  refine j_iload_n C 2 dX2_stands_17 rfl ?_
  refine j_iload_n C 3 dX2_stands_18 rfl ?_
  refine j_iload C 4 dX2_stands_19 rfl ?_
  refine j_callU (As := [.ref (q 20), .int n, .int m, .int x]) (rest := [.int (vB 6 n x * nI 2)]) C uw2_22_7 (h_X7_sighs_31 (S := upd S 28 (nI (t + 1 + 2))) (X := va_up X 81 (trW (upd (X 81) t (nI 13)) (t + 1) (nI 11 :: vBt 6))) (t + 1 + 2) (by omega) pk_us) ⟨31, 7, _, _, rfl, rfl, rfl⟩ rfl (Nat.le_of_ble_eq_true rfl) dX2_stands_21 (by decide) ?_
  rintro _ _ ⟨rfl, rfl⟩
  refine j_wC (κ' := (upd S 28 (nI (t + 1 + 2 + 3)), va_up X 81 (trW (trW (upd (X 81) t (nI 13)) (t + 1) (nI 11 :: vBt 6)) (t + 1 + 2) ([nI 70, nI 40, nI 12])), P)) rfl ?_
  refine j_ixor C dX2_stands_24 ?_
  refine j_iret C dX2_stands_25 ?_
  exact ⟨rfl, rfl⟩
theorem dX5_stands_0 : decode cX5_stands 0 = .ok (.aload_n 1, 1) := by decide +kernel
theorem dX5_stands_1 : decode cX5_stands 1 = .ok (.bipush 50, 2) := by decide +kernel
theorem dX5_stands_3 : decode cX5_stands 3 = .ok (.invokevirtual 11, 3) := by decide +kernel
theorem dX5_stands_6 : decode cX5_stands 6 = .ok (.aload_n 0, 1) := by decide +kernel
theorem dX5_stands_7 : decode cX5_stands 7 = .ok (.aload_n 1, 1) := by decide +kernel
theorem dX5_stands_8 : decode cX5_stands 8 = .ok (.iload_n 2, 1) := by decide +kernel
theorem dX5_stands_9 : decode cX5_stands 9 = .ok (.iload_n 3, 1) := by decide +kernel
theorem dX5_stands_10 : decode cX5_stands 10 = .ok (.iload 4, 2) := by decide +kernel
theorem dX5_stands_12 : decode cX5_stands 12 = .ok (.invokespecial 17, 3) := by decide +kernel
theorem dX5_stands_15 : decode cX5_stands 15 = .ok (.aload_n 0, 1) := by decide +kernel
theorem dX5_stands_16 : decode cX5_stands 16 = .ok (.aload_n 1, 1) := by decide +kernel
theorem dX5_stands_17 : decode cX5_stands 17 = .ok (.iload_n 2, 1) := by decide +kernel
theorem dX5_stands_18 : decode cX5_stands 18 = .ok (.iload_n 3, 1) := by decide +kernel
theorem dX5_stands_19 : decode cX5_stands 19 = .ok (.iconst 2, 1) := by decide +kernel
theorem dX5_stands_20 : decode cX5_stands 20 = .ok (.invokevirtual 21, 3) := by decide +kernel
theorem dX5_stands_23 : decode cX5_stands 23 = .ok (.isub, 1) := by decide +kernel
theorem dX5_stands_24 : decode cX5_stands 24 = .ok (.ireturn, 1) := by decide +kernel
set_option maxHeartbeats 2000000 in
set_option maxRecDepth 20000 in
theorem h_X5_stands_29 {l : Launch} {D : va_G} {cI cG cW : ClassId} {q : Nat → Nat} {S : Nat → Int32} {X : Nat → Nat → Int32} {P : Nat → Nat} {n m x : Int32} (t : Nat) (ht : t + 8 ≤ 40) (h : S 28 = nI t) : Ci l yX5_stands cX5_stands 5 (some .int) 9 D (tyL cI cG cW) (wC cI cG cW q) [.ref (q 29), .ref (q 20), .int n, .int m, .int x] (S, X, P) (fun r τ => r = (vT 4 4 n m x) ∧ τ = (upd S 28 (nI (t + 8)), va_up X 81 (trW (X 81) t (vTt 4 4)), P)) := by
  refine Ci.of (by decide) (Nat.le_of_ble_eq_true rfl) ?_
  intro p_ e_ s_ m_ b_ M_ c_ A_ C
  replace C : Cx _ _ _ _ _ _ _ _ RX5 _ _ _ _ := C
  refine j_L [0, 1, 2, 3, 4] [(0, .ref (q 29)), (1, .ref (q 20)), (2, .int n), (3, .int m), (4, .int x)] rfl ?_
  refine j_aload_n C 1 dX5_stands_0 rfl ?_
  refine j_bipush C (v := (nI 50)) dX5_stands_1 (by decide) ?_
  refine j_callVNv (As := [.int (nI 50)]) (rest := []) C vn5_11 (h_add_9 (S := S) (X := X) t h (by omega)) ⟨20, 8, _, _, rfl, rfl, rfl⟩ rfl (Nat.le_of_ble_eq_true rfl) dX5_stands_3 (by decide) ?_
  rintro _ rfl
  refine j_wC (κ' := (upd S 28 (nI (t + 1)), va_up X 81 (upd (X 81) t (nI 50)), P)) rfl ?_
  refine j_aload_n C 0 dX5_stands_6 rfl ?_
  refine j_aload_n C 1 dX5_stands_7 rfl ?_
  refine j_iload_n C 2 dX5_stands_8 rfl ?_
  refine j_iload_n C 3 dX5_stands_9 rfl ?_
  refine j_iload C 4 dX5_stands_10 rfl ?_
  refine j_callSI (As := [.ref (q 20), .int n, .int m, .int x]) (rest := []) C si5_17 (h_X2_stands_29 (S := upd S 28 (nI (t + 1))) (X := va_up X 81 (upd (X 81) t (nI 50))) (t + 1) (by omega) pk_us) ⟨29, 5, _, _, rfl, rfl, rfl⟩ rfl (Nat.le_of_ble_eq_true rfl) dX5_stands_12 (by decide) ?_
  rintro _ _ ⟨rfl, rfl⟩
  refine j_wC (κ' := (upd S 28 (nI (t + 1 + 5)), va_up X 81 (trW (upd (X 81) t (nI 50)) (t + 1) (nI 13 :: (vPt 4 4 ++ vSt 4))), P)) rfl ?_
  refine j_aload_n C 0 dX5_stands_15 rfl ?_
  refine j_aload_n C 1 dX5_stands_16 rfl ?_
  refine j_iload_n C 2 dX5_stands_17 rfl ?_
  refine j_iload_n C 3 dX5_stands_18 rfl ?_
  refine j_iconst C (v := (nI 2)) dX5_stands_19 (by decide) ?_
  refine j_callU (As := [.ref (q 20), .int n, .int m, .int (nI 2)]) (rest := [.int (vP 4 4 n m x ^^^ vS 4 n m x)]) C uw5_21_5 (h_X10_bows_29 (S := upd S 28 (nI (t + 1 + 5))) (X := va_up X 81 (trW (upd (X 81) t (nI 50)) (t + 1) (nI 13 :: (vPt 4 4 ++ vSt 4)))) (t + 1 + 5) (by omega) pk_us) ⟨29, 5, _, _, rfl, rfl, rfl⟩ rfl (Nat.le_of_ble_eq_true rfl) dX5_stands_20 (by decide) ?_
  rintro _ _ ⟨rfl, rfl⟩
  refine j_wC (κ' := (upd S 28 (nI (t + 1 + 5 + 2)), va_up X 81 (trW (trW (upd (X 81) t (nI 50)) (t + 1) (nI 13 :: (vPt 4 4 ++ vSt 4))) (t + 1 + 5) ([nI 20, nI 10])), P)) rfl ?_
  refine j_isub C dX5_stands_23 ?_
  refine j_iret C dX5_stands_24 ?_
  exact ⟨rfl, rfl⟩
theorem dX7_stands_0 : decode cX7_stands 0 = .ok (.aload_n 1, 1) := by decide +kernel
theorem dX7_stands_1 : decode cX7_stands 1 = .ok (.bipush 71, 2) := by decide +kernel
theorem dX7_stands_3 : decode cX7_stands 3 = .ok (.invokevirtual 11, 3) := by decide +kernel
theorem dX7_stands_6 : decode cX7_stands 6 = .ok (.aload_n 0, 1) := by decide +kernel
theorem dX7_stands_7 : decode cX7_stands 7 = .ok (.aload_n 1, 1) := by decide +kernel
theorem dX7_stands_8 : decode cX7_stands 8 = .ok (.iload_n 2, 1) := by decide +kernel
theorem dX7_stands_9 : decode cX7_stands 9 = .ok (.iload_n 3, 1) := by decide +kernel
theorem dX7_stands_10 : decode cX7_stands 10 = .ok (.iload 4, 2) := by decide +kernel
theorem dX7_stands_12 : decode cX7_stands 12 = .ok (.invokevirtual 21, 3) := by decide +kernel
theorem dX7_stands_15 : decode cX7_stands 15 = .ok (.aload_n 0, 1) := by decide +kernel
theorem dX7_stands_16 : decode cX7_stands 16 = .ok (.aload_n 1, 1) := by decide +kernel
theorem dX7_stands_17 : decode cX7_stands 17 = .ok (.iload_n 2, 1) := by decide +kernel
theorem dX7_stands_18 : decode cX7_stands 18 = .ok (.iload_n 3, 1) := by decide +kernel
theorem dX7_stands_19 : decode cX7_stands 19 = .ok (.iload 4, 2) := by decide +kernel
theorem dX7_stands_21 : decode cX7_stands 21 = .ok (.invokespecial 26, 3) := by decide +kernel
theorem dX7_stands_24 : decode cX7_stands 24 = .ok (.isub, 1) := by decide +kernel
theorem dX7_stands_25 : decode cX7_stands 25 = .ok (.ireturn, 1) := by decide +kernel
set_option maxHeartbeats 2000000 in
set_option maxRecDepth 20000 in
theorem h_X7_stands_31 {l : Launch} {D : va_G} {cI cG cW : ClassId} {q : Nat → Nat} {S : Nat → Int32} {X : Nat → Nat → Int32} {P : Nat → Nat} {n m x : Int32} (t : Nat) (ht : t + 9 ≤ 40) (h : S 28 = nI t) : Ci l yX7_stands cX7_stands 5 (some .int) 9 D (tyL cI cG cW) (wC cI cG cW q) [.ref (q 31), .ref (q 20), .int n, .int m, .int x] (S, X, P) (fun r τ => r = (vT 6 6 n m x) ∧ τ = (upd S 28 (nI (t + 9)), va_up X 81 (trW (X 81) t (vTt 6 6)), P)) := by
  refine Ci.of (by decide) (Nat.le_of_ble_eq_true rfl) ?_
  intro p_ e_ s_ m_ b_ M_ c_ A_ C
  replace C : Cx _ _ _ _ _ _ _ _ RX7 _ _ _ _ := C
  refine j_L [0, 1, 2, 3, 4] [(0, .ref (q 31)), (1, .ref (q 20)), (2, .int n), (3, .int m), (4, .int x)] rfl ?_
  refine j_aload_n C 1 dX7_stands_0 rfl ?_
  refine j_bipush C (v := (nI 71)) dX7_stands_1 (by decide) ?_
  refine j_callVNv (As := [.int (nI 71)]) (rest := []) C vn7_11 (h_add_9 (S := S) (X := X) t h (by omega)) ⟨20, 8, _, _, rfl, rfl, rfl⟩ rfl (Nat.le_of_ble_eq_true rfl) dX7_stands_3 (by decide) ?_
  rintro _ rfl
  refine j_wC (κ' := (upd S 28 (nI (t + 1)), va_up X 81 (upd (X 81) t (nI 71)), P)) rfl ?_
  refine j_aload_n C 0 dX7_stands_6 rfl ?_
  refine j_aload_n C 1 dX7_stands_7 rfl ?_
  refine j_iload_n C 2 dX7_stands_8 rfl ?_
  refine j_iload_n C 3 dX7_stands_9 rfl ?_
  refine j_iload C 4 dX7_stands_10 rfl ?_
  refine j_callU (As := [.ref (q 20), .int n, .int m, .int x]) (rest := []) C uw7_21_7 (h_X2_picks_31 (S := upd S 28 (nI (t + 1))) (X := va_up X 81 (upd (X 81) t (nI 71))) (t + 1) (by omega) pk_us) ⟨31, 7, _, _, rfl, rfl, rfl⟩ rfl (Nat.le_of_ble_eq_true rfl) dX7_stands_12 (by decide) ?_
  rintro _ _ ⟨rfl, rfl⟩
  refine j_wC (κ' := (upd S 28 (nI (t + 1 + 2)), va_up X 81 (trW (upd (X 81) t (nI 71)) (t + 1) (nI 11 :: vBt 6)), P)) rfl ?_
  refine j_aload_n C 0 dX7_stands_15 rfl ?_
  refine j_aload_n C 1 dX7_stands_16 rfl ?_
  refine j_iload_n C 2 dX7_stands_17 rfl ?_
  refine j_iload_n C 3 dX7_stands_18 rfl ?_
  refine j_iload C 4 dX7_stands_19 rfl ?_
  refine j_callSI (As := [.ref (q 20), .int n, .int m, .int x]) (rest := [.int (vB 6 n x * nI 2)]) C si7_26 (h_X2_stands_31 (S := upd S 28 (nI (t + 1 + 2))) (X := va_up X 81 (trW (upd (X 81) t (nI 71)) (t + 1) (nI 11 :: vBt 6))) (t + 1 + 2) (by omega) pk_us) ⟨31, 7, _, _, rfl, rfl, rfl⟩ rfl (Nat.le_of_ble_eq_true rfl) dX7_stands_21 (by decide) ?_
  rintro _ _ ⟨rfl, rfl⟩
  refine j_wC (κ' := (upd S 28 (nI (t + 1 + 2 + 6)), va_up X 81 (trW (trW (upd (X 81) t (nI 71)) (t + 1) (nI 11 :: vBt 6)) (t + 1 + 2) (nI 13 :: (vPt 6 6 ++ vSt 6))), P)) rfl ?_
  refine j_isub C dX7_stands_24 ?_
  refine j_iret C dX7_stands_25 ?_
  exact ⟨rfl, rfl⟩

/-! The class's rows of numbers (Row). -/
theorem mmin_nI {a b : Nat} (ha : a < 2 ^ 31) (hb : b < 2 ^ 31) : (if nI b < nI a then nI b else nI a) = nI (min a b) := by
  by_cases h : nI b < nI a
  · rw [if_pos h]; rw [nI_ltI hb ha] at h; congr 1; omega
  · rw [if_neg h]; rw [nI_ltI hb ha] at h; congr 1; omega
theorem mmax_nI {a b : Nat} (ha : a < 2 ^ 31) (hb : b < 2 ^ 31) : (if nI a < nI b then nI b else nI a) = nI (max a b) := by
  by_cases h : nI a < nI b
  · rw [if_pos h]; rw [nI_ltI ha hb] at h; congr 1; omega
  · rw [if_neg h]; rw [nI_ltI ha hb] at h; congr 1; omega
/-- zeros below n -/
def zerF (f : Nat → Int32) (n : Nat) : Nat → Int32 := fun k => if k < n then nI 0 else f k
theorem zerF_0 (f : Nat → Int32) : f = zerF f 0 := by funext k; unfold zerF; rw [if_neg (by omega)]
theorem zerF_s (f : Nat → Int32) (i : Nat) : upd (zerF f i) i (nI 0) = zerF f (i + 1) := by
  funext k
  by_cases e : k = i
  · subst e; rw [pk_us]; unfold zerF; rw [if_pos (by omega)]
  · rw [pk_un e]; unfold zerF
    by_cases g : k < i
    · rw [if_pos g, if_pos (by omega)]
    · rw [if_neg g, if_neg (by omega)]
theorem j_wC {p : Program} {l : Launch} {e : Env} {R : Room} {s : State} {m : MethodId} {args : Array Value} {below : List Frame} {meth : Method} {c : Code} {Q : State → Prop} {nL : Nat} {D : va_G} {A : Nat → Prop} {cI cG cW : ClassId} {q : Nat → Nat} {κ κ' : CS} {pc : Nat} {L : List (Nat × Value)} {st : List Value} (h : wC cI cG cW q κ = wC cI cG cW q κ') (kk : JJ p l e R s m args below meth c Q nL D A (wC cI cG cW q) κ' pc L st) : JJ p l e R s m args below meth c Q nL D A (wC cI cG cW q) κ pc L st := by
  intro H locs ls hP hD hS hl
  rw [h] at hP hD
  exact kk H locs ls hP hD hS hl

theorem dX8_has_0 : decode cX8_has 0 = .ok (.iload_n 1, 1) := by decide +kernel
theorem dX8_has_1 : decode cX8_has 1 = .ok (.ifCond .lt 15, 3) := by decide +kernel
theorem dX8_has_4 : decode cX8_has 4 = .ok (.iload_n 1, 1) := by decide +kernel
theorem dX8_has_5 : decode cX8_has 5 = .ok (.aload_n 0, 1) := by decide +kernel
theorem dX8_has_6 : decode cX8_has 6 = .ok (.getfield 7, 3) := by decide +kernel
theorem dX8_has_9 : decode cX8_has 9 = .ok (.if_icmp .ge 7, 3) := by decide +kernel
theorem dX8_has_12 : decode cX8_has 12 = .ok (.iconst 1, 1) := by decide +kernel
theorem dX8_has_13 : decode cX8_has 13 = .ok (.goto 4, 3) := by decide +kernel
theorem dX8_has_16 : decode cX8_has 16 = .ok (.iconst 0, 1) := by decide +kernel
theorem dX8_has_17 : decode cX8_has 17 = .ok (.ireturn, 1) := by decide +kernel
set_option maxHeartbeats 2000000 in
set_option maxRecDepth 20000 in
theorem h_has_0 {l : Launch} {D : va_G} {cI cG cW : ClassId} {q : Nat → Nat} {S : Nat → Int32} {X : Nat → Nat → Int32} {P : Nat → Nat} {i : Int32} : Ci l yX8_has cX8_has 2 (some .boolean) 0 D (tyL cI cG cW) (wC cI cG cW q) [.ref (q 11), .int i] (S, X, P) (fun r τ => r = bI (¬ i < 0 ∧ ¬ S 19 ≤ i) ∧ τ = (S, X, P)) := by
  refine Ci.of (by decide) (Nat.le_of_ble_eq_true rfl) ?_
  intro p_ e_ s_ m_ b_ M_ c_ A_ C
  replace C : Cx _ _ _ _ _ _ _ _ RX8 _ _ _ _ := C
  refine j_L [0, 1] [(0, .ref (q 11)), (1, .int i)] rfl ?_
  refine j_iload_n C 1 dX8_has_0 rfl ?_
  refine j_if_lt C 16 dX8_has_1 (by decide) (fun c1 => ?_) (fun c1 => ?_)
  · skip
    refine j_iconst C (v := (nI 0)) dX8_has_16 (by decide) ?_
    refine j_zret C dX8_has_17 (by decide) ?_
    exact ⟨bI0 (fun h => h.1 c1), rfl⟩
  · skip
    refine j_iload_n C 1 dX8_has_4 rfl ?_
    refine j_aload_n C 0 dX8_has_5 rfl ?_
    refine j_get C (v := .int (S 19)) 11 1 rfl rfl inlC8 (by decide) kf8_7 rfl dX8_has_6 ?_
    refine j_icmp_ge C 16 dX8_has_9 (by decide) (fun c9 => ?_) (fun c9 => ?_)
    · skip
      refine j_iconst C (v := (nI 0)) dX8_has_16 (by decide) ?_
      refine j_zret C dX8_has_17 (by decide) ?_
      exact ⟨bI0 (fun h => h.2 c9), rfl⟩
    · skip
      refine j_iconst C (v := (nI 1)) dX8_has_12 (by decide) ?_
      refine j_goto C 17 dX8_has_13 (by decide) ?_
      refine j_zret C dX8_has_17 (by decide) ?_
      exact ⟨bI1 ⟨c1, c9⟩, rfl⟩
set_option maxHeartbeats 2000000 in
set_option maxRecDepth 20000 in
theorem h_has_9 {l : Launch} {D : va_G} {cI cG cW : ClassId} {q : Nat → Nat} {S : Nat → Int32} {X : Nat → Nat → Int32} {P : Nat → Nat} {i : Int32} : Ci l yX8_has cX8_has 2 (some .boolean) 0 D (tyL cI cG cW) (wC cI cG cW q) [.ref (q 20), .int i] (S, X, P) (fun r τ => r = bI (¬ i < 0 ∧ ¬ S 28 ≤ i) ∧ τ = (S, X, P)) := by
  refine Ci.of (by decide) (Nat.le_of_ble_eq_true rfl) ?_
  intro p_ e_ s_ m_ b_ M_ c_ A_ C
  replace C : Cx _ _ _ _ _ _ _ _ RX8 _ _ _ _ := C
  refine j_L [0, 1] [(0, .ref (q 20)), (1, .int i)] rfl ?_
  refine j_iload_n C 1 dX8_has_0 rfl ?_
  refine j_if_lt C 16 dX8_has_1 (by decide) (fun c1 => ?_) (fun c1 => ?_)
  · skip
    refine j_iconst C (v := (nI 0)) dX8_has_16 (by decide) ?_
    refine j_zret C dX8_has_17 (by decide) ?_
    exact ⟨bI0 (fun h => h.1 c1), rfl⟩
  · skip
    refine j_iload_n C 1 dX8_has_4 rfl ?_
    refine j_aload_n C 0 dX8_has_5 rfl ?_
    refine j_get C (v := .int (S 28)) 20 1 rfl rfl inlC8 (by decide) kf8_7 rfl dX8_has_6 ?_
    refine j_icmp_ge C 16 dX8_has_9 (by decide) (fun c9 => ?_) (fun c9 => ?_)
    · skip
      refine j_iconst C (v := (nI 0)) dX8_has_16 (by decide) ?_
      refine j_zret C dX8_has_17 (by decide) ?_
      exact ⟨bI0 (fun h => h.2 c9), rfl⟩
    · skip
      refine j_iconst C (v := (nI 1)) dX8_has_12 (by decide) ?_
      refine j_goto C 17 dX8_has_13 (by decide) ?_
      refine j_zret C dX8_has_17 (by decide) ?_
      exact ⟨bI1 ⟨c1, c9⟩, rfl⟩
set_option maxHeartbeats 2000000 in
set_option maxRecDepth 20000 in
theorem h_has_10 {l : Launch} {D : va_G} {cI cG cW : ClassId} {q : Nat → Nat} {S : Nat → Int32} {X : Nat → Nat → Int32} {P : Nat → Nat} {i : Int32} : Ci l yX8_has cX8_has 2 (some .boolean) 0 D (tyL cI cG cW) (wC cI cG cW q) [.ref (q 21), .int i] (S, X, P) (fun r τ => r = bI (¬ i < 0 ∧ ¬ S 29 ≤ i) ∧ τ = (S, X, P)) := by
  refine Ci.of (by decide) (Nat.le_of_ble_eq_true rfl) ?_
  intro p_ e_ s_ m_ b_ M_ c_ A_ C
  replace C : Cx _ _ _ _ _ _ _ _ RX8 _ _ _ _ := C
  refine j_L [0, 1] [(0, .ref (q 21)), (1, .int i)] rfl ?_
  refine j_iload_n C 1 dX8_has_0 rfl ?_
  refine j_if_lt C 16 dX8_has_1 (by decide) (fun c1 => ?_) (fun c1 => ?_)
  · skip
    refine j_iconst C (v := (nI 0)) dX8_has_16 (by decide) ?_
    refine j_zret C dX8_has_17 (by decide) ?_
    exact ⟨bI0 (fun h => h.1 c1), rfl⟩
  · skip
    refine j_iload_n C 1 dX8_has_4 rfl ?_
    refine j_aload_n C 0 dX8_has_5 rfl ?_
    refine j_get C (v := .int (S 29)) 21 1 rfl rfl inlC8 (by decide) kf8_7 rfl dX8_has_6 ?_
    refine j_icmp_ge C 16 dX8_has_9 (by decide) (fun c9 => ?_) (fun c9 => ?_)
    · skip
      refine j_iconst C (v := (nI 0)) dX8_has_16 (by decide) ?_
      refine j_zret C dX8_has_17 (by decide) ?_
      exact ⟨bI0 (fun h => h.2 c9), rfl⟩
    · skip
      refine j_iconst C (v := (nI 1)) dX8_has_12 (by decide) ?_
      refine j_goto C 17 dX8_has_13 (by decide) ?_
      refine j_zret C dX8_has_17 (by decide) ?_
      exact ⟨bI1 ⟨c1, c9⟩, rfl⟩
set_option maxHeartbeats 2000000 in
set_option maxRecDepth 20000 in
theorem h_has_11 {l : Launch} {D : va_G} {cI cG cW : ClassId} {q : Nat → Nat} {S : Nat → Int32} {X : Nat → Nat → Int32} {P : Nat → Nat} {i : Int32} : Ci l yX8_has cX8_has 2 (some .boolean) 0 D (tyL cI cG cW) (wC cI cG cW q) [.ref (q 22), .int i] (S, X, P) (fun r τ => r = bI (¬ i < 0 ∧ ¬ S 30 ≤ i) ∧ τ = (S, X, P)) := by
  refine Ci.of (by decide) (Nat.le_of_ble_eq_true rfl) ?_
  intro p_ e_ s_ m_ b_ M_ c_ A_ C
  replace C : Cx _ _ _ _ _ _ _ _ RX8 _ _ _ _ := C
  refine j_L [0, 1] [(0, .ref (q 22)), (1, .int i)] rfl ?_
  refine j_iload_n C 1 dX8_has_0 rfl ?_
  refine j_if_lt C 16 dX8_has_1 (by decide) (fun c1 => ?_) (fun c1 => ?_)
  · skip
    refine j_iconst C (v := (nI 0)) dX8_has_16 (by decide) ?_
    refine j_zret C dX8_has_17 (by decide) ?_
    exact ⟨bI0 (fun h => h.1 c1), rfl⟩
  · skip
    refine j_iload_n C 1 dX8_has_4 rfl ?_
    refine j_aload_n C 0 dX8_has_5 rfl ?_
    refine j_get C (v := .int (S 30)) 22 1 rfl rfl inlC8 (by decide) kf8_7 rfl dX8_has_6 ?_
    refine j_icmp_ge C 16 dX8_has_9 (by decide) (fun c9 => ?_) (fun c9 => ?_)
    · skip
      refine j_iconst C (v := (nI 0)) dX8_has_16 (by decide) ?_
      refine j_zret C dX8_has_17 (by decide) ?_
      exact ⟨bI0 (fun h => h.2 c9), rfl⟩
    · skip
      refine j_iconst C (v := (nI 1)) dX8_has_12 (by decide) ?_
      refine j_goto C 17 dX8_has_13 (by decide) ?_
      refine j_zret C dX8_has_17 (by decide) ?_
      exact ⟨bI1 ⟨c1, c9⟩, rfl⟩
set_option maxHeartbeats 2000000 in
set_option maxRecDepth 20000 in
theorem h_has_12 {l : Launch} {D : va_G} {cI cG cW : ClassId} {q : Nat → Nat} {S : Nat → Int32} {X : Nat → Nat → Int32} {P : Nat → Nat} {i : Int32} : Ci l yX8_has cX8_has 2 (some .boolean) 0 D (tyL cI cG cW) (wC cI cG cW q) [.ref (q 23), .int i] (S, X, P) (fun r τ => r = bI (¬ i < 0 ∧ ¬ S 31 ≤ i) ∧ τ = (S, X, P)) := by
  refine Ci.of (by decide) (Nat.le_of_ble_eq_true rfl) ?_
  intro p_ e_ s_ m_ b_ M_ c_ A_ C
  replace C : Cx _ _ _ _ _ _ _ _ RX8 _ _ _ _ := C
  refine j_L [0, 1] [(0, .ref (q 23)), (1, .int i)] rfl ?_
  refine j_iload_n C 1 dX8_has_0 rfl ?_
  refine j_if_lt C 16 dX8_has_1 (by decide) (fun c1 => ?_) (fun c1 => ?_)
  · skip
    refine j_iconst C (v := (nI 0)) dX8_has_16 (by decide) ?_
    refine j_zret C dX8_has_17 (by decide) ?_
    exact ⟨bI0 (fun h => h.1 c1), rfl⟩
  · skip
    refine j_iload_n C 1 dX8_has_4 rfl ?_
    refine j_aload_n C 0 dX8_has_5 rfl ?_
    refine j_get C (v := .int (S 31)) 23 1 rfl rfl inlC8 (by decide) kf8_7 rfl dX8_has_6 ?_
    refine j_icmp_ge C 16 dX8_has_9 (by decide) (fun c9 => ?_) (fun c9 => ?_)
    · skip
      refine j_iconst C (v := (nI 0)) dX8_has_16 (by decide) ?_
      refine j_zret C dX8_has_17 (by decide) ?_
      exact ⟨bI0 (fun h => h.2 c9), rfl⟩
    · skip
      refine j_iconst C (v := (nI 1)) dX8_has_12 (by decide) ?_
      refine j_goto C 17 dX8_has_13 (by decide) ?_
      refine j_zret C dX8_has_17 (by decide) ?_
      exact ⟨bI1 ⟨c1, c9⟩, rfl⟩
set_option maxHeartbeats 2000000 in
set_option maxRecDepth 20000 in
theorem h_has_13 {l : Launch} {D : va_G} {cI cG cW : ClassId} {q : Nat → Nat} {S : Nat → Int32} {X : Nat → Nat → Int32} {P : Nat → Nat} {i : Int32} : Ci l yX8_has cX8_has 2 (some .boolean) 0 D (tyL cI cG cW) (wC cI cG cW q) [.ref (q 24), .int i] (S, X, P) (fun r τ => r = bI (¬ i < 0 ∧ ¬ S 32 ≤ i) ∧ τ = (S, X, P)) := by
  refine Ci.of (by decide) (Nat.le_of_ble_eq_true rfl) ?_
  intro p_ e_ s_ m_ b_ M_ c_ A_ C
  replace C : Cx _ _ _ _ _ _ _ _ RX8 _ _ _ _ := C
  refine j_L [0, 1] [(0, .ref (q 24)), (1, .int i)] rfl ?_
  refine j_iload_n C 1 dX8_has_0 rfl ?_
  refine j_if_lt C 16 dX8_has_1 (by decide) (fun c1 => ?_) (fun c1 => ?_)
  · skip
    refine j_iconst C (v := (nI 0)) dX8_has_16 (by decide) ?_
    refine j_zret C dX8_has_17 (by decide) ?_
    exact ⟨bI0 (fun h => h.1 c1), rfl⟩
  · skip
    refine j_iload_n C 1 dX8_has_4 rfl ?_
    refine j_aload_n C 0 dX8_has_5 rfl ?_
    refine j_get C (v := .int (S 32)) 24 1 rfl rfl inlC8 (by decide) kf8_7 rfl dX8_has_6 ?_
    refine j_icmp_ge C 16 dX8_has_9 (by decide) (fun c9 => ?_) (fun c9 => ?_)
    · skip
      refine j_iconst C (v := (nI 0)) dX8_has_16 (by decide) ?_
      refine j_zret C dX8_has_17 (by decide) ?_
      exact ⟨bI0 (fun h => h.2 c9), rfl⟩
    · skip
      refine j_iconst C (v := (nI 1)) dX8_has_12 (by decide) ?_
      refine j_goto C 17 dX8_has_13 (by decide) ?_
      refine j_zret C dX8_has_17 (by decide) ?_
      exact ⟨bI1 ⟨c1, c9⟩, rfl⟩
theorem dX8_hasPart_0 : decode cX8_hasPart 0 = .ok (.iload_n 2, 1) := by decide +kernel
theorem dX8_hasPart_1 : decode cX8_hasPart 1 = .ok (.ifCond .lt 29, 3) := by decide +kernel
theorem dX8_hasPart_4 : decode cX8_hasPart 4 = .ok (.iload_n 1, 1) := by decide +kernel
theorem dX8_hasPart_5 : decode cX8_hasPart 5 = .ok (.ifCond .lt 25, 3) := by decide +kernel
theorem dX8_hasPart_8 : decode cX8_hasPart 8 = .ok (.iload_n 1, 1) := by decide +kernel
theorem dX8_hasPart_9 : decode cX8_hasPart 9 = .ok (.aload_n 0, 1) := by decide +kernel
theorem dX8_hasPart_10 : decode cX8_hasPart 10 = .ok (.getfield 7, 3) := by decide +kernel
theorem dX8_hasPart_13 : decode cX8_hasPart 13 = .ok (.if_icmp .gt 17, 3) := by decide +kernel
theorem dX8_hasPart_16 : decode cX8_hasPart 16 = .ok (.iload_n 2, 1) := by decide +kernel
theorem dX8_hasPart_17 : decode cX8_hasPart 17 = .ok (.aload_n 0, 1) := by decide +kernel
theorem dX8_hasPart_18 : decode cX8_hasPart 18 = .ok (.getfield 7, 3) := by decide +kernel
theorem dX8_hasPart_21 : decode cX8_hasPart 21 = .ok (.iload_n 1, 1) := by decide +kernel
theorem dX8_hasPart_22 : decode cX8_hasPart 22 = .ok (.isub, 1) := by decide +kernel
theorem dX8_hasPart_23 : decode cX8_hasPart 23 = .ok (.if_icmp .gt 7, 3) := by decide +kernel
theorem dX8_hasPart_26 : decode cX8_hasPart 26 = .ok (.iconst 1, 1) := by decide +kernel
theorem dX8_hasPart_27 : decode cX8_hasPart 27 = .ok (.goto 4, 3) := by decide +kernel
theorem dX8_hasPart_30 : decode cX8_hasPart 30 = .ok (.iconst 0, 1) := by decide +kernel
theorem dX8_hasPart_31 : decode cX8_hasPart 31 = .ok (.ireturn, 1) := by decide +kernel
set_option maxHeartbeats 2000000 in
set_option maxRecDepth 20000 in
theorem h_hasPart_10 {l : Launch} {D : va_G} {cI cG cW : ClassId} {q : Nat → Nat} {S : Nat → Int32} {X : Nat → Nat → Int32} {P : Nat → Nat} {i n : Int32} : Ci l yX8_hasPart cX8_hasPart 3 (some .boolean) 0 D (tyL cI cG cW) (wC cI cG cW q) [.ref (q 21), .int i, .int n] (S, X, P) (fun r τ => r = bI (¬ n < 0 ∧ ¬ i < 0 ∧ ¬ S 29 < i ∧ ¬ S 29 - i < n) ∧ τ = (S, X, P)) := by
  refine Ci.of (by decide) (Nat.le_of_ble_eq_true rfl) ?_
  intro p_ e_ s_ m_ b_ M_ c_ A_ C
  replace C : Cx _ _ _ _ _ _ _ _ RX8 _ _ _ _ := C
  refine j_L [0, 1, 2] [(0, .ref (q 21)), (1, .int i), (2, .int n)] rfl ?_
  refine j_iload_n C 2 dX8_hasPart_0 rfl ?_
  refine j_if_lt C 30 dX8_hasPart_1 (by decide) (fun c1 => ?_) (fun c1 => ?_)
  · skip
    refine j_iconst C (v := (nI 0)) dX8_hasPart_30 (by decide) ?_
    refine j_zret C dX8_hasPart_31 (by decide) ?_
    exact ⟨bI0 (fun h => h.1 c1), rfl⟩
  · skip
    refine j_iload_n C 1 dX8_hasPart_4 rfl ?_
    refine j_if_lt C 30 dX8_hasPart_5 (by decide) (fun c5 => ?_) (fun c5 => ?_)
    · skip
      refine j_iconst C (v := (nI 0)) dX8_hasPart_30 (by decide) ?_
      refine j_zret C dX8_hasPart_31 (by decide) ?_
      exact ⟨bI0 (fun h => h.2.1 c5), rfl⟩
    · skip
      refine j_iload_n C 1 dX8_hasPart_8 rfl ?_
      refine j_aload_n C 0 dX8_hasPart_9 rfl ?_
      refine j_get C (v := .int (S 29)) 21 1 rfl rfl inlC8 (by decide) kf8_7 rfl dX8_hasPart_10 ?_
      refine j_icmp_gt C 30 dX8_hasPart_13 (by decide) (fun c13 => ?_) (fun c13 => ?_)
      · skip
        refine j_iconst C (v := (nI 0)) dX8_hasPart_30 (by decide) ?_
        refine j_zret C dX8_hasPart_31 (by decide) ?_
        exact ⟨bI0 (fun h => h.2.2.1 c13), rfl⟩
      · skip
        refine j_iload_n C 2 dX8_hasPart_16 rfl ?_
        refine j_aload_n C 0 dX8_hasPart_17 rfl ?_
        refine j_get C (v := .int (S 29)) 21 1 rfl rfl inlC8 (by decide) kf8_7 rfl dX8_hasPart_18 ?_
        refine j_iload_n C 1 dX8_hasPart_21 rfl ?_
        refine j_isub C dX8_hasPart_22 ?_
        refine j_icmp_gt C 30 dX8_hasPart_23 (by decide) (fun c23 => ?_) (fun c23 => ?_)
        · skip
          refine j_iconst C (v := (nI 0)) dX8_hasPart_30 (by decide) ?_
          refine j_zret C dX8_hasPart_31 (by decide) ?_
          exact ⟨bI0 (fun h => h.2.2.2 c23), rfl⟩
        · skip
          refine j_iconst C (v := (nI 1)) dX8_hasPart_26 (by decide) ?_
          refine j_goto C 31 dX8_hasPart_27 (by decide) ?_
          refine j_zret C dX8_hasPart_31 (by decide) ?_
          exact ⟨bI1 ⟨c1, c5, c13, c23⟩, rfl⟩
set_option maxHeartbeats 2000000 in
set_option maxRecDepth 20000 in
theorem h_hasPart_11 {l : Launch} {D : va_G} {cI cG cW : ClassId} {q : Nat → Nat} {S : Nat → Int32} {X : Nat → Nat → Int32} {P : Nat → Nat} {i n : Int32} : Ci l yX8_hasPart cX8_hasPart 3 (some .boolean) 0 D (tyL cI cG cW) (wC cI cG cW q) [.ref (q 22), .int i, .int n] (S, X, P) (fun r τ => r = bI (¬ n < 0 ∧ ¬ i < 0 ∧ ¬ S 30 < i ∧ ¬ S 30 - i < n) ∧ τ = (S, X, P)) := by
  refine Ci.of (by decide) (Nat.le_of_ble_eq_true rfl) ?_
  intro p_ e_ s_ m_ b_ M_ c_ A_ C
  replace C : Cx _ _ _ _ _ _ _ _ RX8 _ _ _ _ := C
  refine j_L [0, 1, 2] [(0, .ref (q 22)), (1, .int i), (2, .int n)] rfl ?_
  refine j_iload_n C 2 dX8_hasPart_0 rfl ?_
  refine j_if_lt C 30 dX8_hasPart_1 (by decide) (fun c1 => ?_) (fun c1 => ?_)
  · skip
    refine j_iconst C (v := (nI 0)) dX8_hasPart_30 (by decide) ?_
    refine j_zret C dX8_hasPart_31 (by decide) ?_
    exact ⟨bI0 (fun h => h.1 c1), rfl⟩
  · skip
    refine j_iload_n C 1 dX8_hasPart_4 rfl ?_
    refine j_if_lt C 30 dX8_hasPart_5 (by decide) (fun c5 => ?_) (fun c5 => ?_)
    · skip
      refine j_iconst C (v := (nI 0)) dX8_hasPart_30 (by decide) ?_
      refine j_zret C dX8_hasPart_31 (by decide) ?_
      exact ⟨bI0 (fun h => h.2.1 c5), rfl⟩
    · skip
      refine j_iload_n C 1 dX8_hasPart_8 rfl ?_
      refine j_aload_n C 0 dX8_hasPart_9 rfl ?_
      refine j_get C (v := .int (S 30)) 22 1 rfl rfl inlC8 (by decide) kf8_7 rfl dX8_hasPart_10 ?_
      refine j_icmp_gt C 30 dX8_hasPart_13 (by decide) (fun c13 => ?_) (fun c13 => ?_)
      · skip
        refine j_iconst C (v := (nI 0)) dX8_hasPart_30 (by decide) ?_
        refine j_zret C dX8_hasPart_31 (by decide) ?_
        exact ⟨bI0 (fun h => h.2.2.1 c13), rfl⟩
      · skip
        refine j_iload_n C 2 dX8_hasPart_16 rfl ?_
        refine j_aload_n C 0 dX8_hasPart_17 rfl ?_
        refine j_get C (v := .int (S 30)) 22 1 rfl rfl inlC8 (by decide) kf8_7 rfl dX8_hasPart_18 ?_
        refine j_iload_n C 1 dX8_hasPart_21 rfl ?_
        refine j_isub C dX8_hasPart_22 ?_
        refine j_icmp_gt C 30 dX8_hasPart_23 (by decide) (fun c23 => ?_) (fun c23 => ?_)
        · skip
          refine j_iconst C (v := (nI 0)) dX8_hasPart_30 (by decide) ?_
          refine j_zret C dX8_hasPart_31 (by decide) ?_
          exact ⟨bI0 (fun h => h.2.2.2 c23), rfl⟩
        · skip
          refine j_iconst C (v := (nI 1)) dX8_hasPart_26 (by decide) ?_
          refine j_goto C 31 dX8_hasPart_27 (by decide) ?_
          refine j_zret C dX8_hasPart_31 (by decide) ?_
          exact ⟨bI1 ⟨c1, c5, c13, c23⟩, rfl⟩
set_option maxHeartbeats 2000000 in
set_option maxRecDepth 20000 in
theorem h_hasPart_12 {l : Launch} {D : va_G} {cI cG cW : ClassId} {q : Nat → Nat} {S : Nat → Int32} {X : Nat → Nat → Int32} {P : Nat → Nat} {i n : Int32} : Ci l yX8_hasPart cX8_hasPart 3 (some .boolean) 0 D (tyL cI cG cW) (wC cI cG cW q) [.ref (q 23), .int i, .int n] (S, X, P) (fun r τ => r = bI (¬ n < 0 ∧ ¬ i < 0 ∧ ¬ S 31 < i ∧ ¬ S 31 - i < n) ∧ τ = (S, X, P)) := by
  refine Ci.of (by decide) (Nat.le_of_ble_eq_true rfl) ?_
  intro p_ e_ s_ m_ b_ M_ c_ A_ C
  replace C : Cx _ _ _ _ _ _ _ _ RX8 _ _ _ _ := C
  refine j_L [0, 1, 2] [(0, .ref (q 23)), (1, .int i), (2, .int n)] rfl ?_
  refine j_iload_n C 2 dX8_hasPart_0 rfl ?_
  refine j_if_lt C 30 dX8_hasPart_1 (by decide) (fun c1 => ?_) (fun c1 => ?_)
  · skip
    refine j_iconst C (v := (nI 0)) dX8_hasPart_30 (by decide) ?_
    refine j_zret C dX8_hasPart_31 (by decide) ?_
    exact ⟨bI0 (fun h => h.1 c1), rfl⟩
  · skip
    refine j_iload_n C 1 dX8_hasPart_4 rfl ?_
    refine j_if_lt C 30 dX8_hasPart_5 (by decide) (fun c5 => ?_) (fun c5 => ?_)
    · skip
      refine j_iconst C (v := (nI 0)) dX8_hasPart_30 (by decide) ?_
      refine j_zret C dX8_hasPart_31 (by decide) ?_
      exact ⟨bI0 (fun h => h.2.1 c5), rfl⟩
    · skip
      refine j_iload_n C 1 dX8_hasPart_8 rfl ?_
      refine j_aload_n C 0 dX8_hasPart_9 rfl ?_
      refine j_get C (v := .int (S 31)) 23 1 rfl rfl inlC8 (by decide) kf8_7 rfl dX8_hasPart_10 ?_
      refine j_icmp_gt C 30 dX8_hasPart_13 (by decide) (fun c13 => ?_) (fun c13 => ?_)
      · skip
        refine j_iconst C (v := (nI 0)) dX8_hasPart_30 (by decide) ?_
        refine j_zret C dX8_hasPart_31 (by decide) ?_
        exact ⟨bI0 (fun h => h.2.2.1 c13), rfl⟩
      · skip
        refine j_iload_n C 2 dX8_hasPart_16 rfl ?_
        refine j_aload_n C 0 dX8_hasPart_17 rfl ?_
        refine j_get C (v := .int (S 31)) 23 1 rfl rfl inlC8 (by decide) kf8_7 rfl dX8_hasPart_18 ?_
        refine j_iload_n C 1 dX8_hasPart_21 rfl ?_
        refine j_isub C dX8_hasPart_22 ?_
        refine j_icmp_gt C 30 dX8_hasPart_23 (by decide) (fun c23 => ?_) (fun c23 => ?_)
        · skip
          refine j_iconst C (v := (nI 0)) dX8_hasPart_30 (by decide) ?_
          refine j_zret C dX8_hasPart_31 (by decide) ?_
          exact ⟨bI0 (fun h => h.2.2.2 c23), rfl⟩
        · skip
          refine j_iconst C (v := (nI 1)) dX8_hasPart_26 (by decide) ?_
          refine j_goto C 31 dX8_hasPart_27 (by decide) ?_
          refine j_zret C dX8_hasPart_31 (by decide) ?_
          exact ⟨bI1 ⟨c1, c5, c13, c23⟩, rfl⟩
set_option maxHeartbeats 2000000 in
set_option maxRecDepth 20000 in
theorem h_hasPart_13 {l : Launch} {D : va_G} {cI cG cW : ClassId} {q : Nat → Nat} {S : Nat → Int32} {X : Nat → Nat → Int32} {P : Nat → Nat} {i n : Int32} : Ci l yX8_hasPart cX8_hasPart 3 (some .boolean) 0 D (tyL cI cG cW) (wC cI cG cW q) [.ref (q 24), .int i, .int n] (S, X, P) (fun r τ => r = bI (¬ n < 0 ∧ ¬ i < 0 ∧ ¬ S 32 < i ∧ ¬ S 32 - i < n) ∧ τ = (S, X, P)) := by
  refine Ci.of (by decide) (Nat.le_of_ble_eq_true rfl) ?_
  intro p_ e_ s_ m_ b_ M_ c_ A_ C
  replace C : Cx _ _ _ _ _ _ _ _ RX8 _ _ _ _ := C
  refine j_L [0, 1, 2] [(0, .ref (q 24)), (1, .int i), (2, .int n)] rfl ?_
  refine j_iload_n C 2 dX8_hasPart_0 rfl ?_
  refine j_if_lt C 30 dX8_hasPart_1 (by decide) (fun c1 => ?_) (fun c1 => ?_)
  · skip
    refine j_iconst C (v := (nI 0)) dX8_hasPart_30 (by decide) ?_
    refine j_zret C dX8_hasPart_31 (by decide) ?_
    exact ⟨bI0 (fun h => h.1 c1), rfl⟩
  · skip
    refine j_iload_n C 1 dX8_hasPart_4 rfl ?_
    refine j_if_lt C 30 dX8_hasPart_5 (by decide) (fun c5 => ?_) (fun c5 => ?_)
    · skip
      refine j_iconst C (v := (nI 0)) dX8_hasPart_30 (by decide) ?_
      refine j_zret C dX8_hasPart_31 (by decide) ?_
      exact ⟨bI0 (fun h => h.2.1 c5), rfl⟩
    · skip
      refine j_iload_n C 1 dX8_hasPart_8 rfl ?_
      refine j_aload_n C 0 dX8_hasPart_9 rfl ?_
      refine j_get C (v := .int (S 32)) 24 1 rfl rfl inlC8 (by decide) kf8_7 rfl dX8_hasPart_10 ?_
      refine j_icmp_gt C 30 dX8_hasPart_13 (by decide) (fun c13 => ?_) (fun c13 => ?_)
      · skip
        refine j_iconst C (v := (nI 0)) dX8_hasPart_30 (by decide) ?_
        refine j_zret C dX8_hasPart_31 (by decide) ?_
        exact ⟨bI0 (fun h => h.2.2.1 c13), rfl⟩
      · skip
        refine j_iload_n C 2 dX8_hasPart_16 rfl ?_
        refine j_aload_n C 0 dX8_hasPart_17 rfl ?_
        refine j_get C (v := .int (S 32)) 24 1 rfl rfl inlC8 (by decide) kf8_7 rfl dX8_hasPart_18 ?_
        refine j_iload_n C 1 dX8_hasPart_21 rfl ?_
        refine j_isub C dX8_hasPart_22 ?_
        refine j_icmp_gt C 30 dX8_hasPart_23 (by decide) (fun c23 => ?_) (fun c23 => ?_)
        · skip
          refine j_iconst C (v := (nI 0)) dX8_hasPart_30 (by decide) ?_
          refine j_zret C dX8_hasPart_31 (by decide) ?_
          exact ⟨bI0 (fun h => h.2.2.2 c23), rfl⟩
        · skip
          refine j_iconst C (v := (nI 1)) dX8_hasPart_26 (by decide) ?_
          refine j_goto C 31 dX8_hasPart_27 (by decide) ?_
          refine j_zret C dX8_hasPart_31 (by decide) ?_
          exact ⟨bI1 ⟨c1, c5, c13, c23⟩, rfl⟩
theorem dX8_add_0 : decode cX8_add 0 = .ok (.aload_n 0, 1) := by decide +kernel
theorem dX8_add_1 : decode cX8_add 1 = .ok (.getfield 7, 3) := by decide +kernel
theorem dX8_add_4 : decode cX8_add 4 = .ok (.aload_n 0, 1) := by decide +kernel
theorem dX8_add_5 : decode cX8_add 5 = .ok (.getfield 19, 3) := by decide +kernel
theorem dX8_add_8 : decode cX8_add 8 = .ok (.arraylength, 1) := by decide +kernel
theorem dX8_add_9 : decode cX8_add 9 = .ok (.if_icmp .ge 23, 3) := by decide +kernel
theorem dX8_add_12 : decode cX8_add 12 = .ok (.aload_n 0, 1) := by decide +kernel
theorem dX8_add_13 : decode cX8_add 13 = .ok (.getfield 19, 3) := by decide +kernel
theorem dX8_add_16 : decode cX8_add 16 = .ok (.aload_n 0, 1) := by decide +kernel
theorem dX8_add_17 : decode cX8_add 17 = .ok (.getfield 7, 3) := by decide +kernel
theorem dX8_add_20 : decode cX8_add 20 = .ok (.iload_n 1, 1) := by decide +kernel
theorem dX8_add_21 : decode cX8_add 21 = .ok (.iastore, 1) := by decide +kernel
theorem dX8_add_22 : decode cX8_add 22 = .ok (.aload_n 0, 1) := by decide +kernel
theorem dX8_add_23 : decode cX8_add 23 = .ok (.dup, 1) := by decide +kernel
theorem dX8_add_24 : decode cX8_add 24 = .ok (.getfield 7, 3) := by decide +kernel
theorem dX8_add_27 : decode cX8_add 27 = .ok (.iconst 1, 1) := by decide +kernel
theorem dX8_add_28 : decode cX8_add 28 = .ok (.iadd, 1) := by decide +kernel
theorem dX8_add_29 : decode cX8_add 29 = .ok (.putfield 7, 3) := by decide +kernel
theorem dX8_add_32 : decode cX8_add 32 = .ok (.return_, 1) := by decide +kernel
set_option maxHeartbeats 2000000 in
set_option maxRecDepth 20000 in
theorem h_add_0 {l : Launch} {D : va_G} {cI cG cW : ClassId} {q : Nat → Nat} {S : Nat → Int32} {X : Nat → Nat → Int32} {P : Nat → Nat} {v : Int32} (t : Nat) (h : S 19 = nI t) (ht : t < 50) : Cv l yX8_add cX8_add 2 none 0 D (tyL cI cG cW) (wC cI cG cW q) [.ref (q 11), .int v] (S, X, P) (fun τ => τ = (upd S 19 (nI (t + 1)), va_up X 72 (upd (X 72) t v), P)) := by
  refine Cv.of (by decide) (Nat.le_of_ble_eq_true rfl) ?_
  intro p_ e_ s_ m_ b_ M_ c_ A_ C
  replace C : Cx _ _ _ _ _ _ _ _ RX8 _ _ _ _ := C
  refine j_L [0, 1] [(0, .ref (q 11)), (1, .int v)] rfl ?_
  refine j_aload_n C 0 dX8_add_0 rfl ?_
  refine j_get C (v := .int (S 19)) 11 1 rfl rfl inlC8 (by decide) kf8_7 rfl dX8_add_1 ?_
  refine j_v (nI t) h ?_
  refine j_aload_n C 0 dX8_add_4 rfl ?_
  refine j_get C (v := .ref (q 72)) 11 0 rfl rfl inlC8 (by decide) kf8_19 rfl dX8_add_5 ?_
  refine j_alen C 72 0 (nI 50) rfl rfl rfl dX8_add_8 ?_
  refine j_icmp_ge C 32 dX8_add_9 (by decide) (fun c9 => ?_) (fun c9 => ?_)
  · rw [nI_leI (by omega) (by omega)] at c9
    exfalso; omega
  · rw [nI_leI (by omega) (by omega)] at c9
    refine j_aload_n C 0 dX8_add_12 rfl ?_
    refine j_get C (v := .ref (q 72)) 11 0 rfl rfl inlC8 (by decide) kf8_19 rfl dX8_add_13 ?_
    refine j_aload_n C 0 dX8_add_16 rfl ?_
    refine j_get C (v := .int (S 19)) 11 1 rfl rfl inlC8 (by decide) kf8_7 rfl dX8_add_17 ?_
    refine j_v (nI t) h ?_
    refine j_iload_n C 1 dX8_add_20 rfl ?_
    refine j_iastN C 72 0 rfl rfl t rfl (by omega) (by decide) dX8_add_21 (S, va_up X 72 (upd (X 72) t v), P) rfl ?_
    refine j_aload_n C 0 dX8_add_22 rfl ?_
    refine j_dup C dX8_add_23 rfl ?_
    refine j_get C (v := .int (S 19)) 11 1 rfl rfl inlC8 (by decide) kf8_7 rfl dX8_add_24 ?_
    refine j_v (nI t) h ?_
    refine j_iconst C (v := (nI 1)) dX8_add_27 (by decide) ?_
    refine j_iaddN C dX8_add_28 ?_
    refine j_put C 11 1 rfl rfl inlC8 tyX8 tyX8_ok nmX8 (by decide) kf8_7 rfl (ty := .int) (by decide +kernel) rfl rfl (Nat.le_of_ble_eq_true rfl) dX8_add_29 (upd S 19 (nI (t + 1)), va_up X 72 (upd (X 72) t v), P) rfl ?_
    refine j_vret C dX8_add_32 ?_
    exact rfl
set_option maxHeartbeats 2000000 in
set_option maxRecDepth 20000 in
theorem h_add_1 {l : Launch} {D : va_G} {cI cG cW : ClassId} {q : Nat → Nat} {S : Nat → Int32} {X : Nat → Nat → Int32} {P : Nat → Nat} {v : Int32} (t : Nat) (h : S 20 = nI t) (ht : t < 20) : Cv l yX8_add cX8_add 2 none 0 D (tyL cI cG cW) (wC cI cG cW q) [.ref (q 12), .int v] (S, X, P) (fun τ => τ = (upd S 20 (nI (t + 1)), va_up X 73 (upd (X 73) t v), P)) := by
  refine Cv.of (by decide) (Nat.le_of_ble_eq_true rfl) ?_
  intro p_ e_ s_ m_ b_ M_ c_ A_ C
  replace C : Cx _ _ _ _ _ _ _ _ RX8 _ _ _ _ := C
  refine j_L [0, 1] [(0, .ref (q 12)), (1, .int v)] rfl ?_
  refine j_aload_n C 0 dX8_add_0 rfl ?_
  refine j_get C (v := .int (S 20)) 12 1 rfl rfl inlC8 (by decide) kf8_7 rfl dX8_add_1 ?_
  refine j_v (nI t) h ?_
  refine j_aload_n C 0 dX8_add_4 rfl ?_
  refine j_get C (v := .ref (q 73)) 12 0 rfl rfl inlC8 (by decide) kf8_19 rfl dX8_add_5 ?_
  refine j_alen C 73 0 (nI 20) rfl rfl rfl dX8_add_8 ?_
  refine j_icmp_ge C 32 dX8_add_9 (by decide) (fun c9 => ?_) (fun c9 => ?_)
  · rw [nI_leI (by omega) (by omega)] at c9
    exfalso; omega
  · rw [nI_leI (by omega) (by omega)] at c9
    refine j_aload_n C 0 dX8_add_12 rfl ?_
    refine j_get C (v := .ref (q 73)) 12 0 rfl rfl inlC8 (by decide) kf8_19 rfl dX8_add_13 ?_
    refine j_aload_n C 0 dX8_add_16 rfl ?_
    refine j_get C (v := .int (S 20)) 12 1 rfl rfl inlC8 (by decide) kf8_7 rfl dX8_add_17 ?_
    refine j_v (nI t) h ?_
    refine j_iload_n C 1 dX8_add_20 rfl ?_
    refine j_iastN C 73 0 rfl rfl t rfl (by omega) (by decide) dX8_add_21 (S, va_up X 73 (upd (X 73) t v), P) rfl ?_
    refine j_aload_n C 0 dX8_add_22 rfl ?_
    refine j_dup C dX8_add_23 rfl ?_
    refine j_get C (v := .int (S 20)) 12 1 rfl rfl inlC8 (by decide) kf8_7 rfl dX8_add_24 ?_
    refine j_v (nI t) h ?_
    refine j_iconst C (v := (nI 1)) dX8_add_27 (by decide) ?_
    refine j_iaddN C dX8_add_28 ?_
    refine j_put C 12 1 rfl rfl inlC8 tyX8 tyX8_ok nmX8 (by decide) kf8_7 rfl (ty := .int) (by decide +kernel) rfl rfl (Nat.le_of_ble_eq_true rfl) dX8_add_29 (upd S 20 (nI (t + 1)), va_up X 73 (upd (X 73) t v), P) rfl ?_
    refine j_vret C dX8_add_32 ?_
    exact rfl
set_option maxHeartbeats 2000000 in
set_option maxRecDepth 20000 in
theorem h_add_8 {l : Launch} {D : va_G} {cI cG cW : ClassId} {q : Nat → Nat} {S : Nat → Int32} {X : Nat → Nat → Int32} {P : Nat → Nat} {v : Int32} (t : Nat) (h : S 27 = nI t) (ht : t < 50) : Cv l yX8_add cX8_add 2 none 0 D (tyL cI cG cW) (wC cI cG cW q) [.ref (q 19), .int v] (S, X, P) (fun τ => τ = (upd S 27 (nI (t + 1)), va_up X 80 (upd (X 80) t v), P)) := by
  refine Cv.of (by decide) (Nat.le_of_ble_eq_true rfl) ?_
  intro p_ e_ s_ m_ b_ M_ c_ A_ C
  replace C : Cx _ _ _ _ _ _ _ _ RX8 _ _ _ _ := C
  refine j_L [0, 1] [(0, .ref (q 19)), (1, .int v)] rfl ?_
  refine j_aload_n C 0 dX8_add_0 rfl ?_
  refine j_get C (v := .int (S 27)) 19 1 rfl rfl inlC8 (by decide) kf8_7 rfl dX8_add_1 ?_
  refine j_v (nI t) h ?_
  refine j_aload_n C 0 dX8_add_4 rfl ?_
  refine j_get C (v := .ref (q 80)) 19 0 rfl rfl inlC8 (by decide) kf8_19 rfl dX8_add_5 ?_
  refine j_alen C 80 0 (nI 50) rfl rfl rfl dX8_add_8 ?_
  refine j_icmp_ge C 32 dX8_add_9 (by decide) (fun c9 => ?_) (fun c9 => ?_)
  · rw [nI_leI (by omega) (by omega)] at c9
    exfalso; omega
  · rw [nI_leI (by omega) (by omega)] at c9
    refine j_aload_n C 0 dX8_add_12 rfl ?_
    refine j_get C (v := .ref (q 80)) 19 0 rfl rfl inlC8 (by decide) kf8_19 rfl dX8_add_13 ?_
    refine j_aload_n C 0 dX8_add_16 rfl ?_
    refine j_get C (v := .int (S 27)) 19 1 rfl rfl inlC8 (by decide) kf8_7 rfl dX8_add_17 ?_
    refine j_v (nI t) h ?_
    refine j_iload_n C 1 dX8_add_20 rfl ?_
    refine j_iastN C 80 0 rfl rfl t rfl (by omega) (by decide) dX8_add_21 (S, va_up X 80 (upd (X 80) t v), P) rfl ?_
    refine j_aload_n C 0 dX8_add_22 rfl ?_
    refine j_dup C dX8_add_23 rfl ?_
    refine j_get C (v := .int (S 27)) 19 1 rfl rfl inlC8 (by decide) kf8_7 rfl dX8_add_24 ?_
    refine j_v (nI t) h ?_
    refine j_iconst C (v := (nI 1)) dX8_add_27 (by decide) ?_
    refine j_iaddN C dX8_add_28 ?_
    refine j_put C 19 1 rfl rfl inlC8 tyX8 tyX8_ok nmX8 (by decide) kf8_7 rfl (ty := .int) (by decide +kernel) rfl rfl (Nat.le_of_ble_eq_true rfl) dX8_add_29 (upd S 27 (nI (t + 1)), va_up X 80 (upd (X 80) t v), P) rfl ?_
    refine j_vret C dX8_add_32 ?_
    exact rfl
set_option maxHeartbeats 2000000 in
set_option maxRecDepth 20000 in
theorem h_add_9 {l : Launch} {D : va_G} {cI cG cW : ClassId} {q : Nat → Nat} {S : Nat → Int32} {X : Nat → Nat → Int32} {P : Nat → Nat} {v : Int32} (t : Nat) (h : S 28 = nI t) (ht : t < 40) : Cv l yX8_add cX8_add 2 none 0 D (tyL cI cG cW) (wC cI cG cW q) [.ref (q 20), .int v] (S, X, P) (fun τ => τ = (upd S 28 (nI (t + 1)), va_up X 81 (upd (X 81) t v), P)) := by
  refine Cv.of (by decide) (Nat.le_of_ble_eq_true rfl) ?_
  intro p_ e_ s_ m_ b_ M_ c_ A_ C
  replace C : Cx _ _ _ _ _ _ _ _ RX8 _ _ _ _ := C
  refine j_L [0, 1] [(0, .ref (q 20)), (1, .int v)] rfl ?_
  refine j_aload_n C 0 dX8_add_0 rfl ?_
  refine j_get C (v := .int (S 28)) 20 1 rfl rfl inlC8 (by decide) kf8_7 rfl dX8_add_1 ?_
  refine j_v (nI t) h ?_
  refine j_aload_n C 0 dX8_add_4 rfl ?_
  refine j_get C (v := .ref (q 81)) 20 0 rfl rfl inlC8 (by decide) kf8_19 rfl dX8_add_5 ?_
  refine j_alen C 81 0 (nI 40) rfl rfl rfl dX8_add_8 ?_
  refine j_icmp_ge C 32 dX8_add_9 (by decide) (fun c9 => ?_) (fun c9 => ?_)
  · rw [nI_leI (by omega) (by omega)] at c9
    exfalso; omega
  · rw [nI_leI (by omega) (by omega)] at c9
    refine j_aload_n C 0 dX8_add_12 rfl ?_
    refine j_get C (v := .ref (q 81)) 20 0 rfl rfl inlC8 (by decide) kf8_19 rfl dX8_add_13 ?_
    refine j_aload_n C 0 dX8_add_16 rfl ?_
    refine j_get C (v := .int (S 28)) 20 1 rfl rfl inlC8 (by decide) kf8_7 rfl dX8_add_17 ?_
    refine j_v (nI t) h ?_
    refine j_iload_n C 1 dX8_add_20 rfl ?_
    refine j_iastN C 81 0 rfl rfl t rfl (by omega) (by decide) dX8_add_21 (S, va_up X 81 (upd (X 81) t v), P) rfl ?_
    refine j_aload_n C 0 dX8_add_22 rfl ?_
    refine j_dup C dX8_add_23 rfl ?_
    refine j_get C (v := .int (S 28)) 20 1 rfl rfl inlC8 (by decide) kf8_7 rfl dX8_add_24 ?_
    refine j_v (nI t) h ?_
    refine j_iconst C (v := (nI 1)) dX8_add_27 (by decide) ?_
    refine j_iaddN C dX8_add_28 ?_
    refine j_put C 20 1 rfl rfl inlC8 tyX8 tyX8_ok nmX8 (by decide) kf8_7 rfl (ty := .int) (by decide +kernel) rfl rfl (Nat.le_of_ble_eq_true rfl) dX8_add_29 (upd S 28 (nI (t + 1)), va_up X 81 (upd (X 81) t v), P) rfl ?_
    refine j_vret C dX8_add_32 ?_
    exact rfl
theorem dX8_zeros_0 : decode cX8_zeros 0 = .ok (.aload_n 0, 1) := by decide +kernel
theorem dX8_zeros_1 : decode cX8_zeros 1 = .ok (.iconst 0, 1) := by decide +kernel
theorem dX8_zeros_2 : decode cX8_zeros 2 = .ok (.iload_n 1, 1) := by decide +kernel
theorem dX8_zeros_3 : decode cX8_zeros 3 = .ok (.aload_n 0, 1) := by decide +kernel
theorem dX8_zeros_4 : decode cX8_zeros 4 = .ok (.getfield 19, 3) := by decide +kernel
theorem dX8_zeros_7 : decode cX8_zeros 7 = .ok (.arraylength, 1) := by decide +kernel
theorem dX8_zeros_8 : decode cX8_zeros 8 = .ok (.invokestatic 23, 3) := by decide +kernel
theorem dX8_zeros_11 : decode cX8_zeros 11 = .ok (.invokestatic 13, 3) := by decide +kernel
theorem dX8_zeros_14 : decode cX8_zeros 14 = .ok (.putfield 7, 3) := by decide +kernel
theorem dX8_zeros_17 : decode cX8_zeros 17 = .ok (.iconst 0, 1) := by decide +kernel
theorem dX8_zeros_18 : decode cX8_zeros 18 = .ok (.istore_n 2, 1) := by decide +kernel
theorem dX8_zeros_19 : decode cX8_zeros 19 = .ok (.iload_n 2, 1) := by decide +kernel
theorem dX8_zeros_20 : decode cX8_zeros 20 = .ok (.aload_n 0, 1) := by decide +kernel
theorem dX8_zeros_21 : decode cX8_zeros 21 = .ok (.getfield 7, 3) := by decide +kernel
theorem dX8_zeros_24 : decode cX8_zeros 24 = .ok (.if_icmp .ge 16, 3) := by decide +kernel
theorem dX8_zeros_27 : decode cX8_zeros 27 = .ok (.aload_n 0, 1) := by decide +kernel
theorem dX8_zeros_28 : decode cX8_zeros 28 = .ok (.getfield 19, 3) := by decide +kernel
theorem dX8_zeros_31 : decode cX8_zeros 31 = .ok (.iload_n 2, 1) := by decide +kernel
theorem dX8_zeros_32 : decode cX8_zeros 32 = .ok (.iconst 0, 1) := by decide +kernel
theorem dX8_zeros_33 : decode cX8_zeros 33 = .ok (.iastore, 1) := by decide +kernel
theorem dX8_zeros_34 : decode cX8_zeros 34 = .ok (.iinc 2 1, 3) := by decide +kernel
theorem dX8_zeros_37 : decode cX8_zeros 37 = .ok (.goto (-18), 3) := by decide +kernel
theorem dX8_zeros_40 : decode cX8_zeros 40 = .ok (.return_, 1) := by decide +kernel
set_option maxHeartbeats 2000000 in
set_option maxRecDepth 20000 in
theorem h_zeros_10 {l : Launch} {D : va_G} {cI cG cW : ClassId} {q : Nat → Nat} {S : Nat → Int32} {X : Nat → Nat → Int32} {P : Nat → Nat} (n : Nat) (hn : n ≤ 40) : Cv l yX8_zeros cX8_zeros 3 none 2 D (tyL cI cG cW) (wC cI cG cW q) [.ref (q 21), .int (nI n)] (S, X, P) (fun τ => τ = (upd S 29 (nI n), va_up X 82 (zerF (X 82) n), P)) := by
  refine Cv.of (by decide) (Nat.le_of_ble_eq_true rfl) ?_
  intro p_ e_ s_ m_ b_ M_ c_ A_ C
  replace C : Cx _ _ _ _ _ _ _ _ RX8 _ _ _ _ := C
  refine j_L [0, 1] [(0, .ref (q 21)), (1, .int (nI n))] rfl ?_
  refine j_aload_n C 0 dX8_zeros_0 rfl ?_
  refine j_iconst C (v := (nI 0)) dX8_zeros_1 (by decide) ?_
  refine j_iload_n C 1 dX8_zeros_2 rfl ?_
  refine j_aload_n C 0 dX8_zeros_3 rfl ?_
  refine j_get C (v := .ref (q 82)) 21 0 rfl rfl inlC8 (by decide) kf8_19 rfl dX8_zeros_4 ?_
  refine j_alen C 82 0 (nI 40) rfl rfl rfl dX8_zeros_7 ?_
  refine j_mmin (rest := [.int (nI 0), .ref (q 21)]) C mn8_23 (by decide) (Nat.le_of_ble_eq_true rfl) dX8_zeros_8 ?_
  refine j_v (nI (min n 40)) (mmin_nI (by omega) (by omega)) ?_
  refine j_mmax (rest := [.ref (q 21)]) C mx8_13 (by decide) (Nat.le_of_ble_eq_true rfl) dX8_zeros_11 ?_
  refine j_v (nI (max 0 (min n 40))) (mmax_nI (by omega) (by omega)) ?_
  refine j_v (nI n) (by congr 1; omega) ?_
  refine j_put C 21 1 rfl rfl inlC8 tyX8 tyX8_ok nmX8 (by decide) kf8_7 rfl (ty := .int) (by decide +kernel) rfl rfl (Nat.le_of_ble_eq_true rfl) dX8_zeros_14 (upd S 29 (nI n), X, P) rfl ?_
  refine j_iconst C (v := (nI 0)) dX8_zeros_17 (by decide) ?_
  refine j_istore_n C [(2, .int (nI 0)), (0, .ref (q 21)), (1, .int (nI n))] dX8_zeros_18 (by decide) rfl ?_
  refine j_wC (κ' := (upd S 29 (nI n), va_up X 82 (X 82), P)) rfl ?_
  refine j_L [1, 2, 0] [(0, .ref (q 21)), (1, .int (nI n)), (2, .int (nI 0))] rfl ?_
  refine j_loop (X := Nat) (fun (i : Nat) => i ≤ n) (fun (i : Nat) => n - i) (fun (i : Nat) => (upd S 29 (nI n), va_up X 82 (zerF (X 82) i), P)) (fun (i : Nat) => [(0, .ref (q 21)), (1, .int (nI n)), (2, .int (nI i))]) (0) (Nat.zero_le _) (by rw [← zerF_0]) rfl ?_
  rintro i hi ih
  try dsimp only at ih ⊢
  refine j_iload_n C 2 dX8_zeros_19 rfl ?_
  refine j_aload_n C 0 dX8_zeros_20 rfl ?_
  refine j_get C (v := .int (nI n)) 21 1 rfl rfl inlC8 (by decide) kf8_7 rfl dX8_zeros_21 ?_
  refine j_icmp_ge C 40 dX8_zeros_24 (by decide) (fun c24 => ?_) (fun c24 => ?_)
  · rw [nI_leI (by omega) (by omega)] at c24
    obtain rfl : n = i := by omega
    refine j_vret C dX8_zeros_40 ?_
    exact rfl
  · rw [nI_leI (by omega) (by omega)] at c24
    refine j_aload_n C 0 dX8_zeros_27 rfl ?_
    refine j_get C (v := .ref (q 82)) 21 0 rfl rfl inlC8 (by decide) kf8_19 rfl dX8_zeros_28 ?_
    refine j_iload_n C 2 dX8_zeros_31 rfl ?_
    refine j_iconst C (v := (nI 0)) dX8_zeros_32 (by decide) ?_
    refine j_iastN C 82 0 rfl rfl i rfl (by omega) (by decide) dX8_zeros_33 (upd S 29 (nI n), va_up X 82 (upd (zerF (X 82) i) i (nI 0)), P) rfl ?_
    refine j_iinc C (v := (nI (i + 1))) 2 [(2, .int (nI (i + 1))), (0, .ref (q 21)), (1, .int (nI n))] dX8_zeros_34 rfl (nI_1 _) (by decide) rfl ?_
    refine j_goto C 19 dX8_zeros_37 (by decide) ?_
    refine j_L [1, 2, 0] [(0, .ref (q 21)), (1, .int (nI n)), (2, .int (nI (i + 1)))] rfl ?_
    rw [zerF_s]
    exact ih (i + 1) (by omega) (by omega)
set_option maxHeartbeats 2000000 in
set_option maxRecDepth 20000 in
theorem h_zeros_11 {l : Launch} {D : va_G} {cI cG cW : ClassId} {q : Nat → Nat} {S : Nat → Int32} {X : Nat → Nat → Int32} {P : Nat → Nat} (n : Nat) (hn : n ≤ 40) : Cv l yX8_zeros cX8_zeros 3 none 2 D (tyL cI cG cW) (wC cI cG cW q) [.ref (q 22), .int (nI n)] (S, X, P) (fun τ => τ = (upd S 30 (nI n), va_up X 83 (zerF (X 83) n), P)) := by
  refine Cv.of (by decide) (Nat.le_of_ble_eq_true rfl) ?_
  intro p_ e_ s_ m_ b_ M_ c_ A_ C
  replace C : Cx _ _ _ _ _ _ _ _ RX8 _ _ _ _ := C
  refine j_L [0, 1] [(0, .ref (q 22)), (1, .int (nI n))] rfl ?_
  refine j_aload_n C 0 dX8_zeros_0 rfl ?_
  refine j_iconst C (v := (nI 0)) dX8_zeros_1 (by decide) ?_
  refine j_iload_n C 1 dX8_zeros_2 rfl ?_
  refine j_aload_n C 0 dX8_zeros_3 rfl ?_
  refine j_get C (v := .ref (q 83)) 22 0 rfl rfl inlC8 (by decide) kf8_19 rfl dX8_zeros_4 ?_
  refine j_alen C 83 0 (nI 40) rfl rfl rfl dX8_zeros_7 ?_
  refine j_mmin (rest := [.int (nI 0), .ref (q 22)]) C mn8_23 (by decide) (Nat.le_of_ble_eq_true rfl) dX8_zeros_8 ?_
  refine j_v (nI (min n 40)) (mmin_nI (by omega) (by omega)) ?_
  refine j_mmax (rest := [.ref (q 22)]) C mx8_13 (by decide) (Nat.le_of_ble_eq_true rfl) dX8_zeros_11 ?_
  refine j_v (nI (max 0 (min n 40))) (mmax_nI (by omega) (by omega)) ?_
  refine j_v (nI n) (by congr 1; omega) ?_
  refine j_put C 22 1 rfl rfl inlC8 tyX8 tyX8_ok nmX8 (by decide) kf8_7 rfl (ty := .int) (by decide +kernel) rfl rfl (Nat.le_of_ble_eq_true rfl) dX8_zeros_14 (upd S 30 (nI n), X, P) rfl ?_
  refine j_iconst C (v := (nI 0)) dX8_zeros_17 (by decide) ?_
  refine j_istore_n C [(2, .int (nI 0)), (0, .ref (q 22)), (1, .int (nI n))] dX8_zeros_18 (by decide) rfl ?_
  refine j_wC (κ' := (upd S 30 (nI n), va_up X 83 (X 83), P)) rfl ?_
  refine j_L [1, 2, 0] [(0, .ref (q 22)), (1, .int (nI n)), (2, .int (nI 0))] rfl ?_
  refine j_loop (X := Nat) (fun (i : Nat) => i ≤ n) (fun (i : Nat) => n - i) (fun (i : Nat) => (upd S 30 (nI n), va_up X 83 (zerF (X 83) i), P)) (fun (i : Nat) => [(0, .ref (q 22)), (1, .int (nI n)), (2, .int (nI i))]) (0) (Nat.zero_le _) (by rw [← zerF_0]) rfl ?_
  rintro i hi ih
  try dsimp only at ih ⊢
  refine j_iload_n C 2 dX8_zeros_19 rfl ?_
  refine j_aload_n C 0 dX8_zeros_20 rfl ?_
  refine j_get C (v := .int (nI n)) 22 1 rfl rfl inlC8 (by decide) kf8_7 rfl dX8_zeros_21 ?_
  refine j_icmp_ge C 40 dX8_zeros_24 (by decide) (fun c24 => ?_) (fun c24 => ?_)
  · rw [nI_leI (by omega) (by omega)] at c24
    obtain rfl : n = i := by omega
    refine j_vret C dX8_zeros_40 ?_
    exact rfl
  · rw [nI_leI (by omega) (by omega)] at c24
    refine j_aload_n C 0 dX8_zeros_27 rfl ?_
    refine j_get C (v := .ref (q 83)) 22 0 rfl rfl inlC8 (by decide) kf8_19 rfl dX8_zeros_28 ?_
    refine j_iload_n C 2 dX8_zeros_31 rfl ?_
    refine j_iconst C (v := (nI 0)) dX8_zeros_32 (by decide) ?_
    refine j_iastN C 83 0 rfl rfl i rfl (by omega) (by decide) dX8_zeros_33 (upd S 30 (nI n), va_up X 83 (upd (zerF (X 83) i) i (nI 0)), P) rfl ?_
    refine j_iinc C (v := (nI (i + 1))) 2 [(2, .int (nI (i + 1))), (0, .ref (q 22)), (1, .int (nI n))] dX8_zeros_34 rfl (nI_1 _) (by decide) rfl ?_
    refine j_goto C 19 dX8_zeros_37 (by decide) ?_
    refine j_L [1, 2, 0] [(0, .ref (q 22)), (1, .int (nI n)), (2, .int (nI (i + 1)))] rfl ?_
    rw [zerF_s]
    exact ih (i + 1) (by omega) (by omega)
set_option maxHeartbeats 2000000 in
set_option maxRecDepth 20000 in
theorem h_zeros_12 {l : Launch} {D : va_G} {cI cG cW : ClassId} {q : Nat → Nat} {S : Nat → Int32} {X : Nat → Nat → Int32} {P : Nat → Nat} (n : Nat) (hn : n ≤ 40) : Cv l yX8_zeros cX8_zeros 3 none 2 D (tyL cI cG cW) (wC cI cG cW q) [.ref (q 23), .int (nI n)] (S, X, P) (fun τ => τ = (upd S 31 (nI n), va_up X 84 (zerF (X 84) n), P)) := by
  refine Cv.of (by decide) (Nat.le_of_ble_eq_true rfl) ?_
  intro p_ e_ s_ m_ b_ M_ c_ A_ C
  replace C : Cx _ _ _ _ _ _ _ _ RX8 _ _ _ _ := C
  refine j_L [0, 1] [(0, .ref (q 23)), (1, .int (nI n))] rfl ?_
  refine j_aload_n C 0 dX8_zeros_0 rfl ?_
  refine j_iconst C (v := (nI 0)) dX8_zeros_1 (by decide) ?_
  refine j_iload_n C 1 dX8_zeros_2 rfl ?_
  refine j_aload_n C 0 dX8_zeros_3 rfl ?_
  refine j_get C (v := .ref (q 84)) 23 0 rfl rfl inlC8 (by decide) kf8_19 rfl dX8_zeros_4 ?_
  refine j_alen C 84 0 (nI 40) rfl rfl rfl dX8_zeros_7 ?_
  refine j_mmin (rest := [.int (nI 0), .ref (q 23)]) C mn8_23 (by decide) (Nat.le_of_ble_eq_true rfl) dX8_zeros_8 ?_
  refine j_v (nI (min n 40)) (mmin_nI (by omega) (by omega)) ?_
  refine j_mmax (rest := [.ref (q 23)]) C mx8_13 (by decide) (Nat.le_of_ble_eq_true rfl) dX8_zeros_11 ?_
  refine j_v (nI (max 0 (min n 40))) (mmax_nI (by omega) (by omega)) ?_
  refine j_v (nI n) (by congr 1; omega) ?_
  refine j_put C 23 1 rfl rfl inlC8 tyX8 tyX8_ok nmX8 (by decide) kf8_7 rfl (ty := .int) (by decide +kernel) rfl rfl (Nat.le_of_ble_eq_true rfl) dX8_zeros_14 (upd S 31 (nI n), X, P) rfl ?_
  refine j_iconst C (v := (nI 0)) dX8_zeros_17 (by decide) ?_
  refine j_istore_n C [(2, .int (nI 0)), (0, .ref (q 23)), (1, .int (nI n))] dX8_zeros_18 (by decide) rfl ?_
  refine j_wC (κ' := (upd S 31 (nI n), va_up X 84 (X 84), P)) rfl ?_
  refine j_L [1, 2, 0] [(0, .ref (q 23)), (1, .int (nI n)), (2, .int (nI 0))] rfl ?_
  refine j_loop (X := Nat) (fun (i : Nat) => i ≤ n) (fun (i : Nat) => n - i) (fun (i : Nat) => (upd S 31 (nI n), va_up X 84 (zerF (X 84) i), P)) (fun (i : Nat) => [(0, .ref (q 23)), (1, .int (nI n)), (2, .int (nI i))]) (0) (Nat.zero_le _) (by rw [← zerF_0]) rfl ?_
  rintro i hi ih
  try dsimp only at ih ⊢
  refine j_iload_n C 2 dX8_zeros_19 rfl ?_
  refine j_aload_n C 0 dX8_zeros_20 rfl ?_
  refine j_get C (v := .int (nI n)) 23 1 rfl rfl inlC8 (by decide) kf8_7 rfl dX8_zeros_21 ?_
  refine j_icmp_ge C 40 dX8_zeros_24 (by decide) (fun c24 => ?_) (fun c24 => ?_)
  · rw [nI_leI (by omega) (by omega)] at c24
    obtain rfl : n = i := by omega
    refine j_vret C dX8_zeros_40 ?_
    exact rfl
  · rw [nI_leI (by omega) (by omega)] at c24
    refine j_aload_n C 0 dX8_zeros_27 rfl ?_
    refine j_get C (v := .ref (q 84)) 23 0 rfl rfl inlC8 (by decide) kf8_19 rfl dX8_zeros_28 ?_
    refine j_iload_n C 2 dX8_zeros_31 rfl ?_
    refine j_iconst C (v := (nI 0)) dX8_zeros_32 (by decide) ?_
    refine j_iastN C 84 0 rfl rfl i rfl (by omega) (by decide) dX8_zeros_33 (upd S 31 (nI n), va_up X 84 (upd (zerF (X 84) i) i (nI 0)), P) rfl ?_
    refine j_iinc C (v := (nI (i + 1))) 2 [(2, .int (nI (i + 1))), (0, .ref (q 23)), (1, .int (nI n))] dX8_zeros_34 rfl (nI_1 _) (by decide) rfl ?_
    refine j_goto C 19 dX8_zeros_37 (by decide) ?_
    refine j_L [1, 2, 0] [(0, .ref (q 23)), (1, .int (nI n)), (2, .int (nI (i + 1)))] rfl ?_
    rw [zerF_s]
    exact ih (i + 1) (by omega) (by omega)
set_option maxHeartbeats 2000000 in
set_option maxRecDepth 20000 in
theorem h_zeros_13 {l : Launch} {D : va_G} {cI cG cW : ClassId} {q : Nat → Nat} {S : Nat → Int32} {X : Nat → Nat → Int32} {P : Nat → Nat} (n : Nat) (hn : n ≤ 40) : Cv l yX8_zeros cX8_zeros 3 none 2 D (tyL cI cG cW) (wC cI cG cW q) [.ref (q 24), .int (nI n)] (S, X, P) (fun τ => τ = (upd S 32 (nI n), va_up X 85 (zerF (X 85) n), P)) := by
  refine Cv.of (by decide) (Nat.le_of_ble_eq_true rfl) ?_
  intro p_ e_ s_ m_ b_ M_ c_ A_ C
  replace C : Cx _ _ _ _ _ _ _ _ RX8 _ _ _ _ := C
  refine j_L [0, 1] [(0, .ref (q 24)), (1, .int (nI n))] rfl ?_
  refine j_aload_n C 0 dX8_zeros_0 rfl ?_
  refine j_iconst C (v := (nI 0)) dX8_zeros_1 (by decide) ?_
  refine j_iload_n C 1 dX8_zeros_2 rfl ?_
  refine j_aload_n C 0 dX8_zeros_3 rfl ?_
  refine j_get C (v := .ref (q 85)) 24 0 rfl rfl inlC8 (by decide) kf8_19 rfl dX8_zeros_4 ?_
  refine j_alen C 85 0 (nI 40) rfl rfl rfl dX8_zeros_7 ?_
  refine j_mmin (rest := [.int (nI 0), .ref (q 24)]) C mn8_23 (by decide) (Nat.le_of_ble_eq_true rfl) dX8_zeros_8 ?_
  refine j_v (nI (min n 40)) (mmin_nI (by omega) (by omega)) ?_
  refine j_mmax (rest := [.ref (q 24)]) C mx8_13 (by decide) (Nat.le_of_ble_eq_true rfl) dX8_zeros_11 ?_
  refine j_v (nI (max 0 (min n 40))) (mmax_nI (by omega) (by omega)) ?_
  refine j_v (nI n) (by congr 1; omega) ?_
  refine j_put C 24 1 rfl rfl inlC8 tyX8 tyX8_ok nmX8 (by decide) kf8_7 rfl (ty := .int) (by decide +kernel) rfl rfl (Nat.le_of_ble_eq_true rfl) dX8_zeros_14 (upd S 32 (nI n), X, P) rfl ?_
  refine j_iconst C (v := (nI 0)) dX8_zeros_17 (by decide) ?_
  refine j_istore_n C [(2, .int (nI 0)), (0, .ref (q 24)), (1, .int (nI n))] dX8_zeros_18 (by decide) rfl ?_
  refine j_wC (κ' := (upd S 32 (nI n), va_up X 85 (X 85), P)) rfl ?_
  refine j_L [1, 2, 0] [(0, .ref (q 24)), (1, .int (nI n)), (2, .int (nI 0))] rfl ?_
  refine j_loop (X := Nat) (fun (i : Nat) => i ≤ n) (fun (i : Nat) => n - i) (fun (i : Nat) => (upd S 32 (nI n), va_up X 85 (zerF (X 85) i), P)) (fun (i : Nat) => [(0, .ref (q 24)), (1, .int (nI n)), (2, .int (nI i))]) (0) (Nat.zero_le _) (by rw [← zerF_0]) rfl ?_
  rintro i hi ih
  try dsimp only at ih ⊢
  refine j_iload_n C 2 dX8_zeros_19 rfl ?_
  refine j_aload_n C 0 dX8_zeros_20 rfl ?_
  refine j_get C (v := .int (nI n)) 24 1 rfl rfl inlC8 (by decide) kf8_7 rfl dX8_zeros_21 ?_
  refine j_icmp_ge C 40 dX8_zeros_24 (by decide) (fun c24 => ?_) (fun c24 => ?_)
  · rw [nI_leI (by omega) (by omega)] at c24
    obtain rfl : n = i := by omega
    refine j_vret C dX8_zeros_40 ?_
    exact rfl
  · rw [nI_leI (by omega) (by omega)] at c24
    refine j_aload_n C 0 dX8_zeros_27 rfl ?_
    refine j_get C (v := .ref (q 85)) 24 0 rfl rfl inlC8 (by decide) kf8_19 rfl dX8_zeros_28 ?_
    refine j_iload_n C 2 dX8_zeros_31 rfl ?_
    refine j_iconst C (v := (nI 0)) dX8_zeros_32 (by decide) ?_
    refine j_iastN C 85 0 rfl rfl i rfl (by omega) (by decide) dX8_zeros_33 (upd S 32 (nI n), va_up X 85 (upd (zerF (X 85) i) i (nI 0)), P) rfl ?_
    refine j_iinc C (v := (nI (i + 1))) 2 [(2, .int (nI (i + 1))), (0, .ref (q 24)), (1, .int (nI n))] dX8_zeros_34 rfl (nI_1 _) (by decide) rfl ?_
    refine j_goto C 19 dX8_zeros_37 (by decide) ?_
    refine j_L [1, 2, 0] [(0, .ref (q 24)), (1, .int (nI n)), (2, .int (nI (i + 1)))] rfl ?_
    rw [zerF_s]
    exact ih (i + 1) (by omega) (by omega)

theorem dX8_copyFrom_0 : decode cX8_copyFrom 0 = .ok (.aload_n 0, 1) := by decide +kernel
theorem dX8_copyFrom_1 : decode cX8_copyFrom 1 = .ok (.aload_n 1, 1) := by decide +kernel
theorem dX8_copyFrom_2 : decode cX8_copyFrom 2 = .ok (.getfield 7, 3) := by decide +kernel
theorem dX8_copyFrom_5 : decode cX8_copyFrom 5 = .ok (.aload_n 0, 1) := by decide +kernel
theorem dX8_copyFrom_6 : decode cX8_copyFrom 6 = .ok (.getfield 19, 3) := by decide +kernel
theorem dX8_copyFrom_9 : decode cX8_copyFrom 9 = .ok (.arraylength, 1) := by decide +kernel
theorem dX8_copyFrom_10 : decode cX8_copyFrom 10 = .ok (.invokestatic 23, 3) := by decide +kernel
theorem dX8_copyFrom_13 : decode cX8_copyFrom 13 = .ok (.putfield 7, 3) := by decide +kernel
theorem dX8_copyFrom_16 : decode cX8_copyFrom 16 = .ok (.aload_n 1, 1) := by decide +kernel
theorem dX8_copyFrom_17 : decode cX8_copyFrom 17 = .ok (.getfield 19, 3) := by decide +kernel
theorem dX8_copyFrom_20 : decode cX8_copyFrom 20 = .ok (.iconst 0, 1) := by decide +kernel
theorem dX8_copyFrom_21 : decode cX8_copyFrom 21 = .ok (.aload_n 0, 1) := by decide +kernel
theorem dX8_copyFrom_22 : decode cX8_copyFrom 22 = .ok (.getfield 19, 3) := by decide +kernel
theorem dX8_copyFrom_25 : decode cX8_copyFrom 25 = .ok (.iconst 0, 1) := by decide +kernel
theorem dX8_copyFrom_26 : decode cX8_copyFrom 26 = .ok (.aload_n 0, 1) := by decide +kernel
theorem dX8_copyFrom_27 : decode cX8_copyFrom 27 = .ok (.getfield 7, 3) := by decide +kernel
theorem dX8_copyFrom_30 : decode cX8_copyFrom 30 = .ok (.invokestatic 26, 3) := by decide +kernel
theorem dX8_copyFrom_33 : decode cX8_copyFrom 33 = .ok (.return_, 1) := by decide +kernel
set_option maxHeartbeats 2000000 in
set_option maxRecDepth 20000 in
theorem h_copy_2_0 {l : Launch} {D : va_G} {cI cG cW : ClassId} {q : Nat → Nat} {S : Nat → Int32} {X : Nat → Nat → Int32} {P : Nat → Nat} (t : Nat) (h : S 19 = nI t) (ht : t ≤ 50) : Cv l yX8_copyFrom cX8_copyFrom 2 none 3 D (tyL cI cG cW) (wC cI cG cW q) [.ref (q 13), .ref (q 11)] (S, X, P) (fun τ => τ = (upd S 21 (nI t), va_up X 74 (va_cpy (X 72) (X 74) 0 0 t), P)) := by
  refine Cv.of (by decide) (Nat.le_of_ble_eq_true rfl) ?_
  intro p_ e_ s_ m_ b_ M_ c_ A_ C
  replace C : Cx _ _ _ _ _ _ _ _ RX8 _ _ _ _ := C
  refine j_L [0, 1] [(0, .ref (q 13)), (1, .ref (q 11))] rfl ?_
  refine j_aload_n C 0 dX8_copyFrom_0 rfl ?_
  refine j_aload_n C 1 dX8_copyFrom_1 rfl ?_
  refine j_get C (v := .int (S 19)) 11 1 rfl rfl inlC8 (by decide) kf8_7 rfl dX8_copyFrom_2 ?_
  refine j_v (nI t) h ?_
  refine j_aload_n C 0 dX8_copyFrom_5 rfl ?_
  refine j_get C (v := .ref (q 74)) 13 0 rfl rfl inlC8 (by decide) kf8_19 rfl dX8_copyFrom_6 ?_
  refine j_alen C 74 0 (nI 50) rfl rfl rfl dX8_copyFrom_9 ?_
  refine j_mmin (rest := [.ref (q 13)]) C mn8_23 (by decide) (Nat.le_of_ble_eq_true rfl) dX8_copyFrom_10 ?_
  refine j_v (nI (min t 50)) (mmin_nI (by omega) (by omega)) ?_
  refine j_v (nI t) (by congr 1; omega) ?_
  refine j_put C 13 1 rfl rfl inlC8 tyX8 tyX8_ok nmX8 (by decide) kf8_7 rfl (ty := .int) (by decide +kernel) rfl rfl (Nat.le_of_ble_eq_true rfl) dX8_copyFrom_13 (upd S 21 (nI t), X, P) rfl ?_
  refine j_aload_n C 1 dX8_copyFrom_16 rfl ?_
  refine j_get C (v := .ref (q 72)) 11 0 rfl rfl inlC8 (by decide) kf8_19 rfl dX8_copyFrom_17 ?_
  refine j_iconst C (v := (nI 0)) dX8_copyFrom_20 (by decide) ?_
  refine j_aload_n C 0 dX8_copyFrom_21 rfl ?_
  refine j_get C (v := .ref (q 74)) 13 0 rfl rfl inlC8 (by decide) kf8_19 rfl dX8_copyFrom_22 ?_
  refine j_iconst C (v := (nI 0)) dX8_copyFrom_25 (by decide) ?_
  refine j_aload_n C 0 dX8_copyFrom_26 rfl ?_
  refine j_get C (v := .int (nI t)) 13 1 rfl rfl inlC8 (by decide) kf8_7 rfl dX8_copyFrom_27 ?_
  refine j_copy (rest := []) C 72 74 0 ac8_26 rfl rfl rfl 0 0 t (by omega) (by omega) (by decide) (by decide) (by decide) (Nat.le_of_ble_eq_true rfl) dX8_copyFrom_30 (upd S 21 (nI t), va_up X 74 (va_cpy (X 72) (X 74) 0 0 t), P) rfl ?_
  refine j_vret C dX8_copyFrom_33 ?_
  exact rfl
set_option maxHeartbeats 2000000 in
set_option maxRecDepth 20000 in
theorem h_copy_3_1 {l : Launch} {D : va_G} {cI cG cW : ClassId} {q : Nat → Nat} {S : Nat → Int32} {X : Nat → Nat → Int32} {P : Nat → Nat} (t : Nat) (h : S 20 = nI t) (ht : t ≤ 20) : Cv l yX8_copyFrom cX8_copyFrom 2 none 3 D (tyL cI cG cW) (wC cI cG cW q) [.ref (q 14), .ref (q 12)] (S, X, P) (fun τ => τ = (upd S 22 (nI t), va_up X 75 (va_cpy (X 73) (X 75) 0 0 t), P)) := by
  refine Cv.of (by decide) (Nat.le_of_ble_eq_true rfl) ?_
  intro p_ e_ s_ m_ b_ M_ c_ A_ C
  replace C : Cx _ _ _ _ _ _ _ _ RX8 _ _ _ _ := C
  refine j_L [0, 1] [(0, .ref (q 14)), (1, .ref (q 12))] rfl ?_
  refine j_aload_n C 0 dX8_copyFrom_0 rfl ?_
  refine j_aload_n C 1 dX8_copyFrom_1 rfl ?_
  refine j_get C (v := .int (S 20)) 12 1 rfl rfl inlC8 (by decide) kf8_7 rfl dX8_copyFrom_2 ?_
  refine j_v (nI t) h ?_
  refine j_aload_n C 0 dX8_copyFrom_5 rfl ?_
  refine j_get C (v := .ref (q 75)) 14 0 rfl rfl inlC8 (by decide) kf8_19 rfl dX8_copyFrom_6 ?_
  refine j_alen C 75 0 (nI 20) rfl rfl rfl dX8_copyFrom_9 ?_
  refine j_mmin (rest := [.ref (q 14)]) C mn8_23 (by decide) (Nat.le_of_ble_eq_true rfl) dX8_copyFrom_10 ?_
  refine j_v (nI (min t 20)) (mmin_nI (by omega) (by omega)) ?_
  refine j_v (nI t) (by congr 1; omega) ?_
  refine j_put C 14 1 rfl rfl inlC8 tyX8 tyX8_ok nmX8 (by decide) kf8_7 rfl (ty := .int) (by decide +kernel) rfl rfl (Nat.le_of_ble_eq_true rfl) dX8_copyFrom_13 (upd S 22 (nI t), X, P) rfl ?_
  refine j_aload_n C 1 dX8_copyFrom_16 rfl ?_
  refine j_get C (v := .ref (q 73)) 12 0 rfl rfl inlC8 (by decide) kf8_19 rfl dX8_copyFrom_17 ?_
  refine j_iconst C (v := (nI 0)) dX8_copyFrom_20 (by decide) ?_
  refine j_aload_n C 0 dX8_copyFrom_21 rfl ?_
  refine j_get C (v := .ref (q 75)) 14 0 rfl rfl inlC8 (by decide) kf8_19 rfl dX8_copyFrom_22 ?_
  refine j_iconst C (v := (nI 0)) dX8_copyFrom_25 (by decide) ?_
  refine j_aload_n C 0 dX8_copyFrom_26 rfl ?_
  refine j_get C (v := .int (nI t)) 14 1 rfl rfl inlC8 (by decide) kf8_7 rfl dX8_copyFrom_27 ?_
  refine j_copy (rest := []) C 73 75 0 ac8_26 rfl rfl rfl 0 0 t (by omega) (by omega) (by decide) (by decide) (by decide) (Nat.le_of_ble_eq_true rfl) dX8_copyFrom_30 (upd S 22 (nI t), va_up X 75 (va_cpy (X 73) (X 75) 0 0 t), P) rfl ?_
  refine j_vret C dX8_copyFrom_33 ?_
  exact rfl
set_option maxHeartbeats 2000000 in
set_option maxRecDepth 20000 in
theorem h_copy_6_4 {l : Launch} {D : va_G} {cI cG cW : ClassId} {q : Nat → Nat} {S : Nat → Int32} {X : Nat → Nat → Int32} {P : Nat → Nat} (t : Nat) (h : S 23 = nI t) (ht : t ≤ 50) : Cv l yX8_copyFrom cX8_copyFrom 2 none 3 D (tyL cI cG cW) (wC cI cG cW q) [.ref (q 17), .ref (q 15)] (S, X, P) (fun τ => τ = (upd S 25 (nI t), va_up X 78 (va_cpy (X 76) (X 78) 0 0 t), P)) := by
  refine Cv.of (by decide) (Nat.le_of_ble_eq_true rfl) ?_
  intro p_ e_ s_ m_ b_ M_ c_ A_ C
  replace C : Cx _ _ _ _ _ _ _ _ RX8 _ _ _ _ := C
  refine j_L [0, 1] [(0, .ref (q 17)), (1, .ref (q 15))] rfl ?_
  refine j_aload_n C 0 dX8_copyFrom_0 rfl ?_
  refine j_aload_n C 1 dX8_copyFrom_1 rfl ?_
  refine j_get C (v := .int (S 23)) 15 1 rfl rfl inlC8 (by decide) kf8_7 rfl dX8_copyFrom_2 ?_
  refine j_v (nI t) h ?_
  refine j_aload_n C 0 dX8_copyFrom_5 rfl ?_
  refine j_get C (v := .ref (q 78)) 17 0 rfl rfl inlC8 (by decide) kf8_19 rfl dX8_copyFrom_6 ?_
  refine j_alen C 78 0 (nI 50) rfl rfl rfl dX8_copyFrom_9 ?_
  refine j_mmin (rest := [.ref (q 17)]) C mn8_23 (by decide) (Nat.le_of_ble_eq_true rfl) dX8_copyFrom_10 ?_
  refine j_v (nI (min t 50)) (mmin_nI (by omega) (by omega)) ?_
  refine j_v (nI t) (by congr 1; omega) ?_
  refine j_put C 17 1 rfl rfl inlC8 tyX8 tyX8_ok nmX8 (by decide) kf8_7 rfl (ty := .int) (by decide +kernel) rfl rfl (Nat.le_of_ble_eq_true rfl) dX8_copyFrom_13 (upd S 25 (nI t), X, P) rfl ?_
  refine j_aload_n C 1 dX8_copyFrom_16 rfl ?_
  refine j_get C (v := .ref (q 76)) 15 0 rfl rfl inlC8 (by decide) kf8_19 rfl dX8_copyFrom_17 ?_
  refine j_iconst C (v := (nI 0)) dX8_copyFrom_20 (by decide) ?_
  refine j_aload_n C 0 dX8_copyFrom_21 rfl ?_
  refine j_get C (v := .ref (q 78)) 17 0 rfl rfl inlC8 (by decide) kf8_19 rfl dX8_copyFrom_22 ?_
  refine j_iconst C (v := (nI 0)) dX8_copyFrom_25 (by decide) ?_
  refine j_aload_n C 0 dX8_copyFrom_26 rfl ?_
  refine j_get C (v := .int (nI t)) 17 1 rfl rfl inlC8 (by decide) kf8_7 rfl dX8_copyFrom_27 ?_
  refine j_copy (rest := []) C 76 78 0 ac8_26 rfl rfl rfl 0 0 t (by omega) (by omega) (by decide) (by decide) (by decide) (Nat.le_of_ble_eq_true rfl) dX8_copyFrom_30 (upd S 25 (nI t), va_up X 78 (va_cpy (X 76) (X 78) 0 0 t), P) rfl ?_
  refine j_vret C dX8_copyFrom_33 ?_
  exact rfl
set_option maxHeartbeats 2000000 in
set_option maxRecDepth 20000 in
theorem h_copy_7_5 {l : Launch} {D : va_G} {cI cG cW : ClassId} {q : Nat → Nat} {S : Nat → Int32} {X : Nat → Nat → Int32} {P : Nat → Nat} (t : Nat) (h : S 24 = nI t) (ht : t ≤ 50) : Cv l yX8_copyFrom cX8_copyFrom 2 none 3 D (tyL cI cG cW) (wC cI cG cW q) [.ref (q 18), .ref (q 16)] (S, X, P) (fun τ => τ = (upd S 26 (nI t), va_up X 79 (va_cpy (X 77) (X 79) 0 0 t), P)) := by
  refine Cv.of (by decide) (Nat.le_of_ble_eq_true rfl) ?_
  intro p_ e_ s_ m_ b_ M_ c_ A_ C
  replace C : Cx _ _ _ _ _ _ _ _ RX8 _ _ _ _ := C
  refine j_L [0, 1] [(0, .ref (q 18)), (1, .ref (q 16))] rfl ?_
  refine j_aload_n C 0 dX8_copyFrom_0 rfl ?_
  refine j_aload_n C 1 dX8_copyFrom_1 rfl ?_
  refine j_get C (v := .int (S 24)) 16 1 rfl rfl inlC8 (by decide) kf8_7 rfl dX8_copyFrom_2 ?_
  refine j_v (nI t) h ?_
  refine j_aload_n C 0 dX8_copyFrom_5 rfl ?_
  refine j_get C (v := .ref (q 79)) 18 0 rfl rfl inlC8 (by decide) kf8_19 rfl dX8_copyFrom_6 ?_
  refine j_alen C 79 0 (nI 50) rfl rfl rfl dX8_copyFrom_9 ?_
  refine j_mmin (rest := [.ref (q 18)]) C mn8_23 (by decide) (Nat.le_of_ble_eq_true rfl) dX8_copyFrom_10 ?_
  refine j_v (nI (min t 50)) (mmin_nI (by omega) (by omega)) ?_
  refine j_v (nI t) (by congr 1; omega) ?_
  refine j_put C 18 1 rfl rfl inlC8 tyX8 tyX8_ok nmX8 (by decide) kf8_7 rfl (ty := .int) (by decide +kernel) rfl rfl (Nat.le_of_ble_eq_true rfl) dX8_copyFrom_13 (upd S 26 (nI t), X, P) rfl ?_
  refine j_aload_n C 1 dX8_copyFrom_16 rfl ?_
  refine j_get C (v := .ref (q 77)) 16 0 rfl rfl inlC8 (by decide) kf8_19 rfl dX8_copyFrom_17 ?_
  refine j_iconst C (v := (nI 0)) dX8_copyFrom_20 (by decide) ?_
  refine j_aload_n C 0 dX8_copyFrom_21 rfl ?_
  refine j_get C (v := .ref (q 79)) 18 0 rfl rfl inlC8 (by decide) kf8_19 rfl dX8_copyFrom_22 ?_
  refine j_iconst C (v := (nI 0)) dX8_copyFrom_25 (by decide) ?_
  refine j_aload_n C 0 dX8_copyFrom_26 rfl ?_
  refine j_get C (v := .int (nI t)) 18 1 rfl rfl inlC8 (by decide) kf8_7 rfl dX8_copyFrom_27 ?_
  refine j_copy (rest := []) C 77 79 0 ac8_26 rfl rfl rfl 0 0 t (by omega) (by omega) (by decide) (by decide) (by decide) (Nat.le_of_ble_eq_true rfl) dX8_copyFrom_30 (upd S 26 (nI t), va_up X 79 (va_cpy (X 77) (X 79) 0 0 t), P) rfl ?_
  refine j_vret C dX8_copyFrom_33 ?_
  exact rfl
set_option maxHeartbeats 2000000 in
set_option maxRecDepth 20000 in
theorem h_copy_0_2 {l : Launch} {D : va_G} {cI cG cW : ClassId} {q : Nat → Nat} {S : Nat → Int32} {X : Nat → Nat → Int32} {P : Nat → Nat} (t : Nat) (h : S 21 = nI t) (ht : t ≤ 50) : Cv l yX8_copyFrom cX8_copyFrom 2 none 3 D (tyL cI cG cW) (wC cI cG cW q) [.ref (q 11), .ref (q 13)] (S, X, P) (fun τ => τ = (upd S 19 (nI t), va_up X 72 (va_cpy (X 74) (X 72) 0 0 t), P)) := by
  refine Cv.of (by decide) (Nat.le_of_ble_eq_true rfl) ?_
  intro p_ e_ s_ m_ b_ M_ c_ A_ C
  replace C : Cx _ _ _ _ _ _ _ _ RX8 _ _ _ _ := C
  refine j_L [0, 1] [(0, .ref (q 11)), (1, .ref (q 13))] rfl ?_
  refine j_aload_n C 0 dX8_copyFrom_0 rfl ?_
  refine j_aload_n C 1 dX8_copyFrom_1 rfl ?_
  refine j_get C (v := .int (S 21)) 13 1 rfl rfl inlC8 (by decide) kf8_7 rfl dX8_copyFrom_2 ?_
  refine j_v (nI t) h ?_
  refine j_aload_n C 0 dX8_copyFrom_5 rfl ?_
  refine j_get C (v := .ref (q 72)) 11 0 rfl rfl inlC8 (by decide) kf8_19 rfl dX8_copyFrom_6 ?_
  refine j_alen C 72 0 (nI 50) rfl rfl rfl dX8_copyFrom_9 ?_
  refine j_mmin (rest := [.ref (q 11)]) C mn8_23 (by decide) (Nat.le_of_ble_eq_true rfl) dX8_copyFrom_10 ?_
  refine j_v (nI (min t 50)) (mmin_nI (by omega) (by omega)) ?_
  refine j_v (nI t) (by congr 1; omega) ?_
  refine j_put C 11 1 rfl rfl inlC8 tyX8 tyX8_ok nmX8 (by decide) kf8_7 rfl (ty := .int) (by decide +kernel) rfl rfl (Nat.le_of_ble_eq_true rfl) dX8_copyFrom_13 (upd S 19 (nI t), X, P) rfl ?_
  refine j_aload_n C 1 dX8_copyFrom_16 rfl ?_
  refine j_get C (v := .ref (q 74)) 13 0 rfl rfl inlC8 (by decide) kf8_19 rfl dX8_copyFrom_17 ?_
  refine j_iconst C (v := (nI 0)) dX8_copyFrom_20 (by decide) ?_
  refine j_aload_n C 0 dX8_copyFrom_21 rfl ?_
  refine j_get C (v := .ref (q 72)) 11 0 rfl rfl inlC8 (by decide) kf8_19 rfl dX8_copyFrom_22 ?_
  refine j_iconst C (v := (nI 0)) dX8_copyFrom_25 (by decide) ?_
  refine j_aload_n C 0 dX8_copyFrom_26 rfl ?_
  refine j_get C (v := .int (nI t)) 11 1 rfl rfl inlC8 (by decide) kf8_7 rfl dX8_copyFrom_27 ?_
  refine j_copy (rest := []) C 74 72 0 ac8_26 rfl rfl rfl 0 0 t (by omega) (by omega) (by decide) (by decide) (by decide) (Nat.le_of_ble_eq_true rfl) dX8_copyFrom_30 (upd S 19 (nI t), va_up X 72 (va_cpy (X 74) (X 72) 0 0 t), P) rfl ?_
  refine j_vret C dX8_copyFrom_33 ?_
  exact rfl
set_option maxHeartbeats 2000000 in
set_option maxRecDepth 20000 in
theorem h_copy_1_3 {l : Launch} {D : va_G} {cI cG cW : ClassId} {q : Nat → Nat} {S : Nat → Int32} {X : Nat → Nat → Int32} {P : Nat → Nat} (t : Nat) (h : S 22 = nI t) (ht : t ≤ 20) : Cv l yX8_copyFrom cX8_copyFrom 2 none 3 D (tyL cI cG cW) (wC cI cG cW q) [.ref (q 12), .ref (q 14)] (S, X, P) (fun τ => τ = (upd S 20 (nI t), va_up X 73 (va_cpy (X 75) (X 73) 0 0 t), P)) := by
  refine Cv.of (by decide) (Nat.le_of_ble_eq_true rfl) ?_
  intro p_ e_ s_ m_ b_ M_ c_ A_ C
  replace C : Cx _ _ _ _ _ _ _ _ RX8 _ _ _ _ := C
  refine j_L [0, 1] [(0, .ref (q 12)), (1, .ref (q 14))] rfl ?_
  refine j_aload_n C 0 dX8_copyFrom_0 rfl ?_
  refine j_aload_n C 1 dX8_copyFrom_1 rfl ?_
  refine j_get C (v := .int (S 22)) 14 1 rfl rfl inlC8 (by decide) kf8_7 rfl dX8_copyFrom_2 ?_
  refine j_v (nI t) h ?_
  refine j_aload_n C 0 dX8_copyFrom_5 rfl ?_
  refine j_get C (v := .ref (q 73)) 12 0 rfl rfl inlC8 (by decide) kf8_19 rfl dX8_copyFrom_6 ?_
  refine j_alen C 73 0 (nI 20) rfl rfl rfl dX8_copyFrom_9 ?_
  refine j_mmin (rest := [.ref (q 12)]) C mn8_23 (by decide) (Nat.le_of_ble_eq_true rfl) dX8_copyFrom_10 ?_
  refine j_v (nI (min t 20)) (mmin_nI (by omega) (by omega)) ?_
  refine j_v (nI t) (by congr 1; omega) ?_
  refine j_put C 12 1 rfl rfl inlC8 tyX8 tyX8_ok nmX8 (by decide) kf8_7 rfl (ty := .int) (by decide +kernel) rfl rfl (Nat.le_of_ble_eq_true rfl) dX8_copyFrom_13 (upd S 20 (nI t), X, P) rfl ?_
  refine j_aload_n C 1 dX8_copyFrom_16 rfl ?_
  refine j_get C (v := .ref (q 75)) 14 0 rfl rfl inlC8 (by decide) kf8_19 rfl dX8_copyFrom_17 ?_
  refine j_iconst C (v := (nI 0)) dX8_copyFrom_20 (by decide) ?_
  refine j_aload_n C 0 dX8_copyFrom_21 rfl ?_
  refine j_get C (v := .ref (q 73)) 12 0 rfl rfl inlC8 (by decide) kf8_19 rfl dX8_copyFrom_22 ?_
  refine j_iconst C (v := (nI 0)) dX8_copyFrom_25 (by decide) ?_
  refine j_aload_n C 0 dX8_copyFrom_26 rfl ?_
  refine j_get C (v := .int (nI t)) 12 1 rfl rfl inlC8 (by decide) kf8_7 rfl dX8_copyFrom_27 ?_
  refine j_copy (rest := []) C 75 73 0 ac8_26 rfl rfl rfl 0 0 t (by omega) (by omega) (by decide) (by decide) (by decide) (Nat.le_of_ble_eq_true rfl) dX8_copyFrom_30 (upd S 20 (nI t), va_up X 73 (va_cpy (X 75) (X 73) 0 0 t), P) rfl ?_
  refine j_vret C dX8_copyFrom_33 ?_
  exact rfl
set_option maxHeartbeats 2000000 in
set_option maxRecDepth 20000 in
theorem h_copy_4_6 {l : Launch} {D : va_G} {cI cG cW : ClassId} {q : Nat → Nat} {S : Nat → Int32} {X : Nat → Nat → Int32} {P : Nat → Nat} (t : Nat) (h : S 25 = nI t) (ht : t ≤ 50) : Cv l yX8_copyFrom cX8_copyFrom 2 none 3 D (tyL cI cG cW) (wC cI cG cW q) [.ref (q 15), .ref (q 17)] (S, X, P) (fun τ => τ = (upd S 23 (nI t), va_up X 76 (va_cpy (X 78) (X 76) 0 0 t), P)) := by
  refine Cv.of (by decide) (Nat.le_of_ble_eq_true rfl) ?_
  intro p_ e_ s_ m_ b_ M_ c_ A_ C
  replace C : Cx _ _ _ _ _ _ _ _ RX8 _ _ _ _ := C
  refine j_L [0, 1] [(0, .ref (q 15)), (1, .ref (q 17))] rfl ?_
  refine j_aload_n C 0 dX8_copyFrom_0 rfl ?_
  refine j_aload_n C 1 dX8_copyFrom_1 rfl ?_
  refine j_get C (v := .int (S 25)) 17 1 rfl rfl inlC8 (by decide) kf8_7 rfl dX8_copyFrom_2 ?_
  refine j_v (nI t) h ?_
  refine j_aload_n C 0 dX8_copyFrom_5 rfl ?_
  refine j_get C (v := .ref (q 76)) 15 0 rfl rfl inlC8 (by decide) kf8_19 rfl dX8_copyFrom_6 ?_
  refine j_alen C 76 0 (nI 50) rfl rfl rfl dX8_copyFrom_9 ?_
  refine j_mmin (rest := [.ref (q 15)]) C mn8_23 (by decide) (Nat.le_of_ble_eq_true rfl) dX8_copyFrom_10 ?_
  refine j_v (nI (min t 50)) (mmin_nI (by omega) (by omega)) ?_
  refine j_v (nI t) (by congr 1; omega) ?_
  refine j_put C 15 1 rfl rfl inlC8 tyX8 tyX8_ok nmX8 (by decide) kf8_7 rfl (ty := .int) (by decide +kernel) rfl rfl (Nat.le_of_ble_eq_true rfl) dX8_copyFrom_13 (upd S 23 (nI t), X, P) rfl ?_
  refine j_aload_n C 1 dX8_copyFrom_16 rfl ?_
  refine j_get C (v := .ref (q 78)) 17 0 rfl rfl inlC8 (by decide) kf8_19 rfl dX8_copyFrom_17 ?_
  refine j_iconst C (v := (nI 0)) dX8_copyFrom_20 (by decide) ?_
  refine j_aload_n C 0 dX8_copyFrom_21 rfl ?_
  refine j_get C (v := .ref (q 76)) 15 0 rfl rfl inlC8 (by decide) kf8_19 rfl dX8_copyFrom_22 ?_
  refine j_iconst C (v := (nI 0)) dX8_copyFrom_25 (by decide) ?_
  refine j_aload_n C 0 dX8_copyFrom_26 rfl ?_
  refine j_get C (v := .int (nI t)) 15 1 rfl rfl inlC8 (by decide) kf8_7 rfl dX8_copyFrom_27 ?_
  refine j_copy (rest := []) C 78 76 0 ac8_26 rfl rfl rfl 0 0 t (by omega) (by omega) (by decide) (by decide) (by decide) (Nat.le_of_ble_eq_true rfl) dX8_copyFrom_30 (upd S 23 (nI t), va_up X 76 (va_cpy (X 78) (X 76) 0 0 t), P) rfl ?_
  refine j_vret C dX8_copyFrom_33 ?_
  exact rfl
set_option maxHeartbeats 2000000 in
set_option maxRecDepth 20000 in
theorem h_copy_5_7 {l : Launch} {D : va_G} {cI cG cW : ClassId} {q : Nat → Nat} {S : Nat → Int32} {X : Nat → Nat → Int32} {P : Nat → Nat} (t : Nat) (h : S 26 = nI t) (ht : t ≤ 50) : Cv l yX8_copyFrom cX8_copyFrom 2 none 3 D (tyL cI cG cW) (wC cI cG cW q) [.ref (q 16), .ref (q 18)] (S, X, P) (fun τ => τ = (upd S 24 (nI t), va_up X 77 (va_cpy (X 79) (X 77) 0 0 t), P)) := by
  refine Cv.of (by decide) (Nat.le_of_ble_eq_true rfl) ?_
  intro p_ e_ s_ m_ b_ M_ c_ A_ C
  replace C : Cx _ _ _ _ _ _ _ _ RX8 _ _ _ _ := C
  refine j_L [0, 1] [(0, .ref (q 16)), (1, .ref (q 18))] rfl ?_
  refine j_aload_n C 0 dX8_copyFrom_0 rfl ?_
  refine j_aload_n C 1 dX8_copyFrom_1 rfl ?_
  refine j_get C (v := .int (S 26)) 18 1 rfl rfl inlC8 (by decide) kf8_7 rfl dX8_copyFrom_2 ?_
  refine j_v (nI t) h ?_
  refine j_aload_n C 0 dX8_copyFrom_5 rfl ?_
  refine j_get C (v := .ref (q 77)) 16 0 rfl rfl inlC8 (by decide) kf8_19 rfl dX8_copyFrom_6 ?_
  refine j_alen C 77 0 (nI 50) rfl rfl rfl dX8_copyFrom_9 ?_
  refine j_mmin (rest := [.ref (q 16)]) C mn8_23 (by decide) (Nat.le_of_ble_eq_true rfl) dX8_copyFrom_10 ?_
  refine j_v (nI (min t 50)) (mmin_nI (by omega) (by omega)) ?_
  refine j_v (nI t) (by congr 1; omega) ?_
  refine j_put C 16 1 rfl rfl inlC8 tyX8 tyX8_ok nmX8 (by decide) kf8_7 rfl (ty := .int) (by decide +kernel) rfl rfl (Nat.le_of_ble_eq_true rfl) dX8_copyFrom_13 (upd S 24 (nI t), X, P) rfl ?_
  refine j_aload_n C 1 dX8_copyFrom_16 rfl ?_
  refine j_get C (v := .ref (q 79)) 18 0 rfl rfl inlC8 (by decide) kf8_19 rfl dX8_copyFrom_17 ?_
  refine j_iconst C (v := (nI 0)) dX8_copyFrom_20 (by decide) ?_
  refine j_aload_n C 0 dX8_copyFrom_21 rfl ?_
  refine j_get C (v := .ref (q 77)) 16 0 rfl rfl inlC8 (by decide) kf8_19 rfl dX8_copyFrom_22 ?_
  refine j_iconst C (v := (nI 0)) dX8_copyFrom_25 (by decide) ?_
  refine j_aload_n C 0 dX8_copyFrom_26 rfl ?_
  refine j_get C (v := .int (nI t)) 16 1 rfl rfl inlC8 (by decide) kf8_7 rfl dX8_copyFrom_27 ?_
  refine j_copy (rest := []) C 79 77 0 ac8_26 rfl rfl rfl 0 0 t (by omega) (by omega) (by decide) (by decide) (by decide) (Nat.le_of_ble_eq_true rfl) dX8_copyFrom_30 (upd S 24 (nI t), va_up X 77 (va_cpy (X 79) (X 77) 0 0 t), P) rfl ?_
  refine j_vret C dX8_copyFrom_33 ?_
  exact rfl
set_option maxHeartbeats 2000000 in
set_option maxRecDepth 20000 in
theorem h_copy_4_8 {l : Launch} {D : va_G} {cI cG cW : ClassId} {q : Nat → Nat} {S : Nat → Int32} {X : Nat → Nat → Int32} {P : Nat → Nat} (t : Nat) (h : S 27 = nI t) (ht : t ≤ 50) : Cv l yX8_copyFrom cX8_copyFrom 2 none 3 D (tyL cI cG cW) (wC cI cG cW q) [.ref (q 15), .ref (q 19)] (S, X, P) (fun τ => τ = (upd S 23 (nI t), va_up X 76 (va_cpy (X 80) (X 76) 0 0 t), P)) := by
  refine Cv.of (by decide) (Nat.le_of_ble_eq_true rfl) ?_
  intro p_ e_ s_ m_ b_ M_ c_ A_ C
  replace C : Cx _ _ _ _ _ _ _ _ RX8 _ _ _ _ := C
  refine j_L [0, 1] [(0, .ref (q 15)), (1, .ref (q 19))] rfl ?_
  refine j_aload_n C 0 dX8_copyFrom_0 rfl ?_
  refine j_aload_n C 1 dX8_copyFrom_1 rfl ?_
  refine j_get C (v := .int (S 27)) 19 1 rfl rfl inlC8 (by decide) kf8_7 rfl dX8_copyFrom_2 ?_
  refine j_v (nI t) h ?_
  refine j_aload_n C 0 dX8_copyFrom_5 rfl ?_
  refine j_get C (v := .ref (q 76)) 15 0 rfl rfl inlC8 (by decide) kf8_19 rfl dX8_copyFrom_6 ?_
  refine j_alen C 76 0 (nI 50) rfl rfl rfl dX8_copyFrom_9 ?_
  refine j_mmin (rest := [.ref (q 15)]) C mn8_23 (by decide) (Nat.le_of_ble_eq_true rfl) dX8_copyFrom_10 ?_
  refine j_v (nI (min t 50)) (mmin_nI (by omega) (by omega)) ?_
  refine j_v (nI t) (by congr 1; omega) ?_
  refine j_put C 15 1 rfl rfl inlC8 tyX8 tyX8_ok nmX8 (by decide) kf8_7 rfl (ty := .int) (by decide +kernel) rfl rfl (Nat.le_of_ble_eq_true rfl) dX8_copyFrom_13 (upd S 23 (nI t), X, P) rfl ?_
  refine j_aload_n C 1 dX8_copyFrom_16 rfl ?_
  refine j_get C (v := .ref (q 80)) 19 0 rfl rfl inlC8 (by decide) kf8_19 rfl dX8_copyFrom_17 ?_
  refine j_iconst C (v := (nI 0)) dX8_copyFrom_20 (by decide) ?_
  refine j_aload_n C 0 dX8_copyFrom_21 rfl ?_
  refine j_get C (v := .ref (q 76)) 15 0 rfl rfl inlC8 (by decide) kf8_19 rfl dX8_copyFrom_22 ?_
  refine j_iconst C (v := (nI 0)) dX8_copyFrom_25 (by decide) ?_
  refine j_aload_n C 0 dX8_copyFrom_26 rfl ?_
  refine j_get C (v := .int (nI t)) 15 1 rfl rfl inlC8 (by decide) kf8_7 rfl dX8_copyFrom_27 ?_
  refine j_copy (rest := []) C 80 76 0 ac8_26 rfl rfl rfl 0 0 t (by omega) (by omega) (by decide) (by decide) (by decide) (Nat.le_of_ble_eq_true rfl) dX8_copyFrom_30 (upd S 23 (nI t), va_up X 76 (va_cpy (X 80) (X 76) 0 0 t), P) rfl ?_
  refine j_vret C dX8_copyFrom_33 ?_
  exact rfl
set_option maxHeartbeats 2000000 in
set_option maxRecDepth 20000 in
theorem h_copy_5_8 {l : Launch} {D : va_G} {cI cG cW : ClassId} {q : Nat → Nat} {S : Nat → Int32} {X : Nat → Nat → Int32} {P : Nat → Nat} (t : Nat) (h : S 27 = nI t) (ht : t ≤ 50) : Cv l yX8_copyFrom cX8_copyFrom 2 none 3 D (tyL cI cG cW) (wC cI cG cW q) [.ref (q 16), .ref (q 19)] (S, X, P) (fun τ => τ = (upd S 24 (nI t), va_up X 77 (va_cpy (X 80) (X 77) 0 0 t), P)) := by
  refine Cv.of (by decide) (Nat.le_of_ble_eq_true rfl) ?_
  intro p_ e_ s_ m_ b_ M_ c_ A_ C
  replace C : Cx _ _ _ _ _ _ _ _ RX8 _ _ _ _ := C
  refine j_L [0, 1] [(0, .ref (q 16)), (1, .ref (q 19))] rfl ?_
  refine j_aload_n C 0 dX8_copyFrom_0 rfl ?_
  refine j_aload_n C 1 dX8_copyFrom_1 rfl ?_
  refine j_get C (v := .int (S 27)) 19 1 rfl rfl inlC8 (by decide) kf8_7 rfl dX8_copyFrom_2 ?_
  refine j_v (nI t) h ?_
  refine j_aload_n C 0 dX8_copyFrom_5 rfl ?_
  refine j_get C (v := .ref (q 77)) 16 0 rfl rfl inlC8 (by decide) kf8_19 rfl dX8_copyFrom_6 ?_
  refine j_alen C 77 0 (nI 50) rfl rfl rfl dX8_copyFrom_9 ?_
  refine j_mmin (rest := [.ref (q 16)]) C mn8_23 (by decide) (Nat.le_of_ble_eq_true rfl) dX8_copyFrom_10 ?_
  refine j_v (nI (min t 50)) (mmin_nI (by omega) (by omega)) ?_
  refine j_v (nI t) (by congr 1; omega) ?_
  refine j_put C 16 1 rfl rfl inlC8 tyX8 tyX8_ok nmX8 (by decide) kf8_7 rfl (ty := .int) (by decide +kernel) rfl rfl (Nat.le_of_ble_eq_true rfl) dX8_copyFrom_13 (upd S 24 (nI t), X, P) rfl ?_
  refine j_aload_n C 1 dX8_copyFrom_16 rfl ?_
  refine j_get C (v := .ref (q 80)) 19 0 rfl rfl inlC8 (by decide) kf8_19 rfl dX8_copyFrom_17 ?_
  refine j_iconst C (v := (nI 0)) dX8_copyFrom_20 (by decide) ?_
  refine j_aload_n C 0 dX8_copyFrom_21 rfl ?_
  refine j_get C (v := .ref (q 77)) 16 0 rfl rfl inlC8 (by decide) kf8_19 rfl dX8_copyFrom_22 ?_
  refine j_iconst C (v := (nI 0)) dX8_copyFrom_25 (by decide) ?_
  refine j_aload_n C 0 dX8_copyFrom_26 rfl ?_
  refine j_get C (v := .int (nI t)) 16 1 rfl rfl inlC8 (by decide) kf8_7 rfl dX8_copyFrom_27 ?_
  refine j_copy (rest := []) C 80 77 0 ac8_26 rfl rfl rfl 0 0 t (by omega) (by omega) (by decide) (by decide) (by decide) (Nat.le_of_ble_eq_true rfl) dX8_copyFrom_30 (upd S 24 (nI t), va_up X 77 (va_cpy (X 80) (X 77) 0 0 t), P) rfl ?_
  refine j_vret C dX8_copyFrom_33 ?_
  exact rfl

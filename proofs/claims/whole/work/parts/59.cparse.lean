/-! The class's reader of texts. -/
/-- where the reader stands: the place, the tape's bytes, the steps laid so far -/
def CPst (b : Nat → Int32) (n : Nat) (S : Nat → Int32) (X : Nat → Nat → Int32) (k : Nat) (cd : List Int32) : Prop := S 18 = nI k ∧ S 19 = nI n ∧ (∀ j, j < n → X 72 j = b j) ∧ S 27 = nI cd.length ∧ ∀ j, j < cd.length → X 80 j = cd.getD j 0
def FrP (S' : Nat → Int32) (X' : Nat → Nat → Int32) (S : Nat → Int32) (X : Nat → Nat → Int32) : Prop := (∀ k, ¬ k = 18 → ¬ k = 27 → S' k = S k) ∧ ∀ k, ¬ k = 80 → X' k = X k
theorem FrP.rf {S : Nat → Int32} {X : Nat → Nat → Int32} : FrP S X S X := ⟨fun _ _ _ => rfl, fun _ _ => rfl⟩
theorem FrP.tr {S1 S2 S3 : Nat → Int32} {X1 X2 X3 : Nat → Nat → Int32} (h : FrP S1 X1 S2 X2) (g : FrP S2 X2 S3 X3) : FrP S1 X1 S3 X3 := ⟨fun k a b => (h.1 k a b).trans (g.1 k a b), fun k a => (h.2 k a).trans (g.2 k a)⟩
theorem FrP.k {S' S : Nat → Int32} {X' X : Nat → Nat → Int32} {v : Int32} (h : FrP S' X' S X) : FrP (upd S' 18 v) X' S X := ⟨fun k a b => (pk_un a).trans (h.1 k a b), h.2⟩
theorem FrP.c {S' S : Nat → Int32} {X' X : Nat → Nat → Int32} {v : Int32} {g : Nat → Int32} (h : FrP S' X' S X) : FrP (upd S' 27 v) (va_up X' 80 g) S X := ⟨fun k a b => (pk_un b).trans (h.1 k a b), fun k a => (va_n a).trans (h.2 k a)⟩
section CPS
variable {b : Nat → Int32} {n : Nat} {S : Nat → Int32} {X : Nat → Nat → Int32} {k : Nat} {cd : List Int32}
theorem CPst.sk (h : CPst b n S X k cd) (k' : Nat) : CPst b n (upd S 18 (nI k')) X k' cd := ⟨pk_us, (pk_un (by omega)).trans h.2.1, h.2.2.1, (pk_un (by omega)).trans h.2.2.2.1, h.2.2.2.2⟩
theorem CPst.add (h : CPst b n S X k cd) (v : Int32) : CPst b n (upd S 27 (nI (cd.length + 1))) (va_up X 80 (upd (X 80) cd.length v)) k (cd ++ [v]) := by
  refine ⟨(pk_un (by omega)).trans h.1, (pk_un (by omega)).trans h.2.1, fun j hj => (congrFun (va_n (by omega)) j).trans (h.2.2.1 j hj), ?_, fun j hj => ?_⟩
  · rw [pk_us, List.length_append, List.length_singleton]
  · rw [va_s]
    rw [List.length_append, List.length_singleton] at hj
    by_cases e : j = cd.length
    · subst e; rw [pk_us, List.getD_eq_getElem?_getD, List.getElem?_append_right (Nat.le_refl _), Nat.sub_self]; rfl
    · rw [pk_un e, h.2.2.2.2 j (by omega), List.getD_eq_getElem?_getD, List.getD_eq_getElem?_getD, List.getElem?_append_left (by omega)]
end CPS
def PRr (b : Nat → Int32) (n : Nat) (P1 : Nat → Nat) (S : Nat → Int32) (X : Nat → Nat → Int32) (res : Bool × Nat × List Int32) (r : Int32) (τ : CS) : Prop := ∃ S' X', τ = (S', X', P1) ∧ r = bI (res.1 = true) ∧ CPst b n S' X' res.2.1 res.2.2 ∧ FrP S' X' S X
def BY (b : Nat → Int32) (n : Nat) : Prop := ∀ j, j < n → ∃ v, v ≤ 255 ∧ b j = nI v
theorem has_c {k n : Nat} (hk : k < 2 ^ 31) (hn : n < 2 ^ 31) : (¬ nI k < 0 ∧ ¬ nI n ≤ nI k) ↔ k < n := by
  rw [nI_leI hn hk]
  exact ⟨fun h => by omega, fun h => ⟨nI_pos hk, by omega⟩⟩
theorem byt_t {b : Nat → Int32} {n k : Nat} (h : k < n) : b k = bytF b n k := by unfold bytF; rw [if_pos h]
theorem byt_f {b : Nat → Int32} {n k : Nat} (h : ¬ k < n) : (-1 : Int32) = bytF b n k := by unfold bytF; rw [if_neg h]

theorem dX4_isDigit_0 : decode cX4_isDigit 0 = .ok (.iload_n 0, 1) := by decide +kernel
theorem dX4_isDigit_1 : decode cX4_isDigit 1 = .ok (.bipush 48, 2) := by decide +kernel
theorem dX4_isDigit_3 : decode cX4_isDigit 3 = .ok (.if_icmp .lt 13, 3) := by decide +kernel
theorem dX4_isDigit_6 : decode cX4_isDigit 6 = .ok (.iload_n 0, 1) := by decide +kernel
theorem dX4_isDigit_7 : decode cX4_isDigit 7 = .ok (.bipush 57, 2) := by decide +kernel
theorem dX4_isDigit_9 : decode cX4_isDigit 9 = .ok (.if_icmp .gt 7, 3) := by decide +kernel
theorem dX4_isDigit_12 : decode cX4_isDigit 12 = .ok (.iconst 1, 1) := by decide +kernel
theorem dX4_isDigit_13 : decode cX4_isDigit 13 = .ok (.goto 4, 3) := by decide +kernel
theorem dX4_isDigit_16 : decode cX4_isDigit 16 = .ok (.iconst 0, 1) := by decide +kernel
theorem dX4_isDigit_17 : decode cX4_isDigit 17 = .ok (.ireturn, 1) := by decide +kernel
set_option maxHeartbeats 2000000 in
set_option maxRecDepth 20000 in
theorem h_isDigit {l : Launch} {D : va_G} {cI cG cW : ClassId} {q : Nat → Nat} {S : Nat → Int32} {X : Nat → Nat → Int32} {P : Nat → Nat} {v : Int32} : Ci l yX4_isDigit cX4_isDigit 1 (some .boolean) 0 D (tyL cI cG cW) (wC cI cG cW q) [.int v] (S, X, P) (fun r τ => r = bI (inn v 48 57) ∧ τ = (S, X, P)) := by
  refine Ci.of (by decide) (Nat.le_of_ble_eq_true rfl) ?_
  intro p_ e_ s_ m_ b_ M_ c_ A_ C
  replace C : Cx _ _ _ _ _ _ _ _ RX4 _ _ _ _ := C
  refine j_L [0] [(0, .int v)] rfl ?_
  refine j_iload_n C 0 dX4_isDigit_0 rfl ?_
  refine j_bipush C (v := (nI 48)) dX4_isDigit_1 (by decide) ?_
  refine j_icmp_lt C 16 dX4_isDigit_3 (by decide) (fun c3 => ?_) (fun c3 => ?_)
  · skip
    refine j_iconst C (v := (nI 0)) dX4_isDigit_16 (by decide) ?_
    refine j_zret C dX4_isDigit_17 (by decide) ?_
    exact ⟨bI0 (fun h => ltn c3 h.1), rfl⟩
  · skip
    refine j_iload_n C 0 dX4_isDigit_6 rfl ?_
    refine j_bipush C (v := (nI 57)) dX4_isDigit_7 (by decide) ?_
    refine j_icmp_gt C 16 dX4_isDigit_9 (by decide) (fun c9 => ?_) (fun c9 => ?_)
    · skip
      refine j_iconst C (v := (nI 0)) dX4_isDigit_16 (by decide) ?_
      refine j_zret C dX4_isDigit_17 (by decide) ?_
      exact ⟨bI0 (fun h => ltn c9 h.2), rfl⟩
    · skip
      refine j_iconst C (v := (nI 1)) dX4_isDigit_12 (by decide) ?_
      refine j_goto C 17 dX4_isDigit_13 (by decide) ?_
      refine j_zret C dX4_isDigit_17 (by decide) ?_
      exact ⟨bI1 ⟨nlt c3, nlt c9⟩, rfl⟩
theorem dX4_here_0 : decode cX4_here 0 = .ok (.aload_n 0, 1) := by decide +kernel
theorem dX4_here_1 : decode cX4_here 1 = .ok (.getfield 24, 3) := by decide +kernel
theorem dX4_here_4 : decode cX4_here 4 = .ok (.aload_n 0, 1) := by decide +kernel
theorem dX4_here_5 : decode cX4_here 5 = .ok (.getfield 33, 3) := by decide +kernel
theorem dX4_here_8 : decode cX4_here 8 = .ok (.invokevirtual 70, 3) := by decide +kernel
theorem dX4_here_11 : decode cX4_here 11 = .ok (.ifCond .eq 18, 3) := by decide +kernel
theorem dX4_here_14 : decode cX4_here 14 = .ok (.aload_n 0, 1) := by decide +kernel
theorem dX4_here_15 : decode cX4_here 15 = .ok (.getfield 24, 3) := by decide +kernel
theorem dX4_here_18 : decode cX4_here 18 = .ok (.getfield 56, 3) := by decide +kernel
theorem dX4_here_21 : decode cX4_here 21 = .ok (.aload_n 0, 1) := by decide +kernel
theorem dX4_here_22 : decode cX4_here 22 = .ok (.getfield 33, 3) := by decide +kernel
theorem dX4_here_25 : decode cX4_here 25 = .ok (.iaload, 1) := by decide +kernel
theorem dX4_here_26 : decode cX4_here 26 = .ok (.goto 4, 3) := by decide +kernel
theorem dX4_here_29 : decode cX4_here 29 = .ok (.iconst (-1), 1) := by decide +kernel
theorem dX4_here_30 : decode cX4_here 30 = .ok (.ireturn, 1) := by decide +kernel
set_option maxHeartbeats 2000000 in
set_option maxRecDepth 20000 in
theorem h_here_0 {l : Launch} {D : va_G} {cI cG cW : ClassId} {q : Nat → Nat} {S : Nat → Int32} {X : Nat → Nat → Int32} {P : Nat → Nat} {O : Ou} {b : Nat → Int32} {n k : Nat} {cd : List Int32} (hp : CPst b n S X k cd) (hk : k ≤ n) (hn : n ≤ 50) : Ci l yX4_here cX4_here 1 (some .int) 1 D (tyL cI cG cW) (wC cI cG cW q) [.ref (q 10)] (S, X, va_up (va_up P 4 (q 11)) 9 (O.2.1 1)) (fun r τ => r = bytF b n k ∧ τ = (S, X, (va_up (va_up P 4 (q 11)) 9 (O.2.1 1)))) := by
  refine Ci.of (by decide) (Nat.le_of_ble_eq_true rfl) ?_
  intro p_ e_ s_ m_ b_ M_ c_ A_ C
  replace C : Cx _ _ _ _ _ _ _ _ RX4 _ _ _ _ := C
  refine j_L [0] [(0, .ref (q 10))] rfl ?_
  refine j_aload_n C 0 dX4_here_0 rfl ?_
  refine j_get C (v := .ref (q 11)) 10 3 rfl rfl inlC4 (by decide) kf4_24 rfl dX4_here_1 ?_
  refine j_aload_n C 0 dX4_here_4 rfl ?_
  refine j_get C (v := .int (S 18)) 10 5 rfl rfl inlC4 (by decide) kf4_33 rfl dX4_here_5 ?_
  refine j_v (nI k) hp.1 ?_
  refine j_callVN (As := [.int (nI k)]) (rest := []) C vn4_70 (h_has_0) ⟨11, 8, _, _, rfl, rfl, rfl⟩ rfl (Nat.le_of_ble_eq_true rfl) dX4_here_8 (by decide) ?_
  rintro _ _ ⟨rfl, rfl⟩
  refine j_v (bI (k < n)) (by rw [hp.2.1]; exact bI_c (has_c (by omega) (by omega))) ?_
  refine j_if_eq C 29 dX4_here_11 (by decide) (fun c11 => ?_) (fun c11 => ?_)
  · replace c11 := bI_f c11
    refine j_iconst C (v := (-1)) dX4_here_29 (by decide) ?_
    refine j_iret C dX4_here_30 ?_
    exact ⟨byt_f c11, rfl⟩
  · replace c11 := bI_t c11
    refine j_aload_n C 0 dX4_here_14 rfl ?_
    refine j_get C (v := .ref (q 11)) 10 3 rfl rfl inlC4 (by decide) kf4_24 rfl dX4_here_15 ?_
    refine j_getN C (v := .ref (q 72)) 11 0 rfl rfl inlC8 (by decide) kf4_56 rfl dX4_here_18 ?_
    refine j_aload_n C 0 dX4_here_21 rfl ?_
    refine j_get C (v := .int (S 18)) 10 5 rfl rfl inlC4 (by decide) kf4_33 rfl dX4_here_22 ?_
    refine j_v (nI k) hp.1 ?_
    refine j_ialdN C 72 0 rfl rfl k rfl (by omega) (by decide) dX4_here_25 ?_
    refine j_v (b k) (hp.2.2.1 k (by omega)) ?_
    refine j_goto C 30 dX4_here_26 (by decide) ?_
    refine j_iret C dX4_here_30 ?_
    exact ⟨byt_t c11, rfl⟩
theorem dX4_readNumber_0 : decode cX4_readNumber 0 = .ok (.iconst 0, 1) := by decide +kernel
theorem dX4_readNumber_1 : decode cX4_readNumber 1 = .ok (.istore_n 1, 1) := by decide +kernel
theorem dX4_readNumber_2 : decode cX4_readNumber 2 = .ok (.iconst 0, 1) := by decide +kernel
theorem dX4_readNumber_3 : decode cX4_readNumber 3 = .ok (.istore_n 2, 1) := by decide +kernel
theorem dX4_readNumber_4 : decode cX4_readNumber 4 = .ok (.iload_n 2, 1) := by decide +kernel
theorem dX4_readNumber_5 : decode cX4_readNumber 5 = .ok (.iconst 4, 1) := by decide +kernel
theorem dX4_readNumber_6 : decode cX4_readNumber 6 = .ok (.if_icmp .ge 42, 3) := by decide +kernel
theorem dX4_readNumber_9 : decode cX4_readNumber 9 = .ok (.aload_n 0, 1) := by decide +kernel
theorem dX4_readNumber_10 : decode cX4_readNumber 10 = .ok (.invokevirtual 77, 3) := by decide +kernel
theorem dX4_readNumber_13 : decode cX4_readNumber 13 = .ok (.invokestatic 88, 3) := by decide +kernel
theorem dX4_readNumber_16 : decode cX4_readNumber 16 = .ok (.ifCond .eq 32, 3) := by decide +kernel
theorem dX4_readNumber_19 : decode cX4_readNumber 19 = .ok (.iload_n 1, 1) := by decide +kernel
theorem dX4_readNumber_20 : decode cX4_readNumber 20 = .ok (.bipush 10, 2) := by decide +kernel
theorem dX4_readNumber_22 : decode cX4_readNumber 22 = .ok (.imul, 1) := by decide +kernel
theorem dX4_readNumber_23 : decode cX4_readNumber 23 = .ok (.aload_n 0, 1) := by decide +kernel
theorem dX4_readNumber_24 : decode cX4_readNumber 24 = .ok (.invokevirtual 77, 3) := by decide +kernel
theorem dX4_readNumber_27 : decode cX4_readNumber 27 = .ok (.iadd, 1) := by decide +kernel
theorem dX4_readNumber_28 : decode cX4_readNumber 28 = .ok (.bipush 48, 2) := by decide +kernel
theorem dX4_readNumber_30 : decode cX4_readNumber 30 = .ok (.isub, 1) := by decide +kernel
theorem dX4_readNumber_31 : decode cX4_readNumber 31 = .ok (.istore_n 1, 1) := by decide +kernel
theorem dX4_readNumber_32 : decode cX4_readNumber 32 = .ok (.aload_n 0, 1) := by decide +kernel
theorem dX4_readNumber_33 : decode cX4_readNumber 33 = .ok (.dup, 1) := by decide +kernel
theorem dX4_readNumber_34 : decode cX4_readNumber 34 = .ok (.getfield 33, 3) := by decide +kernel
theorem dX4_readNumber_37 : decode cX4_readNumber 37 = .ok (.iconst 1, 1) := by decide +kernel
theorem dX4_readNumber_38 : decode cX4_readNumber 38 = .ok (.iadd, 1) := by decide +kernel
theorem dX4_readNumber_39 : decode cX4_readNumber 39 = .ok (.putfield 33, 3) := by decide +kernel
theorem dX4_readNumber_42 : decode cX4_readNumber 42 = .ok (.iinc 2 1, 3) := by decide +kernel
theorem dX4_readNumber_45 : decode cX4_readNumber 45 = .ok (.goto (-41), 3) := by decide +kernel
theorem dX4_readNumber_48 : decode cX4_readNumber 48 = .ok (.aload_n 0, 1) := by decide +kernel
theorem dX4_readNumber_49 : decode cX4_readNumber 49 = .ok (.getfield 14, 3) := by decide +kernel
theorem dX4_readNumber_52 : decode cX4_readNumber 52 = .ok (.iload_n 1, 1) := by decide +kernel
theorem dX4_readNumber_53 : decode cX4_readNumber 53 = .ok (.invokevirtual 85, 3) := by decide +kernel
theorem dX4_readNumber_56 : decode cX4_readNumber 56 = .ok (.return_, 1) := by decide +kernel
set_option maxHeartbeats 2000000 in
set_option maxRecDepth 20000 in
theorem h_readNumber_0 {l : Launch} {D : va_G} {cI cG cW : ClassId} {q : Nat → Nat} {S : Nat → Int32} {X : Nat → Nat → Int32} {P : Nat → Nat} {O : Ou} {b : Nat → Int32} {n k : Nat} {cd : List Int32} (hp : CPst b n S X k cd) (hk : k ≤ n) (hn : n ≤ 50) (hcd : cd.length ≤ k) (hdg : inn (bytF b n k) 48 57) : Cv l yX4_readNumber cX4_readNumber 3 none 3 D (tyL cI cG cW) (wC cI cG cW q) [.ref (q 10)] (S, X, va_up (va_up P 4 (q 11)) 9 (O.2.1 1)) (fun τ => ∃ S' X', τ = (S', X', (va_up (va_up P 4 (q 11)) 9 (O.2.1 1))) ∧ CPst b n S' X' (numF b n 4 k 0).1 (cd ++ [(numF b n 4 k 0).2]) ∧ FrP S' X' S X) := by
  refine Cv.of (by decide) (Nat.le_of_ble_eq_true rfl) ?_
  intro p_ e_ s_ m_ b_ M_ c_ A_ C
  replace C : Cx _ _ _ _ _ _ _ _ RX4 _ _ _ _ := C
  refine j_L [0] [(0, .ref (q 10))] rfl ?_
  refine j_iconst C (v := (nI 0)) dX4_readNumber_0 (by decide) ?_
  refine j_istore_n C [(1, .int (nI 0)), (0, .ref (q 10))] dX4_readNumber_1 (by decide) rfl ?_
  refine j_iconst C (v := (nI 0)) dX4_readNumber_2 (by decide) ?_
  refine j_istore_n C [(2, .int (nI 0)), (1, .int (nI 0)), (0, .ref (q 10))] dX4_readNumber_3 (by decide) rfl ?_
  refine j_L [2, 1, 0] [(0, .ref (q 10)), (1, .int (nI 0)), (2, .int (nI 0))] rfl ?_
  refine j_loop (X := Nat × Nat × Int32) (fun (z : Nat × Nat × Int32) => match z with | (i, k1, v) => i ≤ 4 ∧ k ≤ k1 ∧ k1 ≤ n ∧ (0 < i → k < k1) ∧ numF b n (4 - i) k1 v = numF b n 4 k 0) (fun (z : Nat × Nat × Int32) => match z with | (i, k1, v) => 4 - i) (fun (z : Nat × Nat × Int32) => match z with | (i, k1, v) => (upd S 18 (nI k1), X, va_up (va_up P 4 (q 11)) 9 (O.2.1 1))) (fun (z : Nat × Nat × Int32) => match z with | (i, k1, v) => [(0, .ref (q 10)), (1, .int v), (2, .int (nI i))]) (0, k, nI 0) (⟨Nat.zero_le _, Nat.le_refl _, hk, fun h => absurd h (Nat.lt_irrefl _), rfl⟩) (by show _ = (upd S 18 (nI k), X, (va_up (va_up P 4 (q 11)) 9 (O.2.1 1))); rw [upd_self hp.1]) rfl ?_
  rintro ⟨i, k1, v⟩ ⟨hi, hk0, hk1, hlt, he⟩ ih
  try dsimp only at ih ⊢
  refine j_iload_n C 2 dX4_readNumber_4 rfl ?_
  refine j_iconst C (v := (nI 4)) dX4_readNumber_5 (by decide) ?_
  refine j_icmp_ge C 48 dX4_readNumber_6 (by decide) (fun c6 => ?_) (fun c6 => ?_)
  · rw [nI_leI (by omega) (by omega)] at c6
    have hk2 : k < k1 := by
      exact hlt (by omega)
    refine j_aload_n C 0 dX4_readNumber_48 rfl ?_
    refine j_get C (v := .ref (q 19)) 10 1 rfl rfl inlC4 (by decide) kf4_14 rfl dX4_readNumber_49 ?_
    refine j_iload_n C 1 dX4_readNumber_52 rfl ?_
    refine j_callVNv (As := [.int v]) (rest := []) C vn4_85 (h_add_8 cd.length ((pk_un (by omega)).trans hp.2.2.2.1) (by omega)) ⟨19, 8, _, _, rfl, rfl, rfl⟩ rfl (Nat.le_of_ble_eq_true rfl) dX4_readNumber_53 (by decide) ?_
    rintro _ rfl
    refine j_wC (κ' := (upd (upd S 18 (nI k1)) 27 (nI (cd.length + 1)), va_up X 80 (upd (X 80) cd.length v), va_up (va_up P 4 (q 11)) 9 (O.2.1 1))) rfl ?_
    refine j_vret C dX4_readNumber_56 ?_
    have hend : numF b n 4 k 0 = (k1, v) := by
      rw [← he, show 4 - i = 0 by omega]; rfl
    rw [hend]
    have hq := ((hp.sk k1).add v)
    exact ⟨_, _, rfl, ⟨(pk_un (by omega)).trans pk_us, (pk_un (by omega)).trans ((pk_un (by omega)).trans hp.2.1), hq.2.2.1, hq.2.2.2.1, hq.2.2.2.2⟩, FrP.rf.k.c⟩
  · rw [nI_leI (by omega) (by omega)] at c6
    refine j_aload_n C 0 dX4_readNumber_9 rfl ?_
    refine j_callV (As := []) (rest := []) C vw4_77 (h_here_0 (b := b) (n := n) (k := k1) (hp.sk k1) (by omega) hn) ⟨10, 4, _, _, rfl, rfl, rfl⟩ rfl (Nat.le_of_ble_eq_true rfl) dX4_readNumber_10 (by decide) ?_
    rintro _ _ ⟨rfl, rfl⟩
    refine j_callS (As := [.int (bytF b n k1)]) (rest := []) C sw4_88 (h_isDigit) rfl (Nat.le_of_ble_eq_true rfl) dX4_readNumber_13 (by decide) ?_
    rintro _ _ ⟨rfl, rfl⟩
    refine j_if_eq C 48 dX4_readNumber_16 (by decide) (fun c16 => ?_) (fun c16 => ?_)
    · replace c16 := bI_f c16
      have hk2 : k < k1 := by
        have hx := (numF_pr (b := b) (n := n) 4 k 0 hk).2.2 hdg (by omega)
        rw [← he, show 4 - i = (3 - i) + 1 by omega, numF, if_neg c16] at hx
        exact hx
      refine j_aload_n C 0 dX4_readNumber_48 rfl ?_
      refine j_get C (v := .ref (q 19)) 10 1 rfl rfl inlC4 (by decide) kf4_14 rfl dX4_readNumber_49 ?_
      refine j_iload_n C 1 dX4_readNumber_52 rfl ?_
      refine j_callVNv (As := [.int v]) (rest := []) C vn4_85 (h_add_8 cd.length ((pk_un (by omega)).trans hp.2.2.2.1) (by omega)) ⟨19, 8, _, _, rfl, rfl, rfl⟩ rfl (Nat.le_of_ble_eq_true rfl) dX4_readNumber_53 (by decide) ?_
      rintro _ rfl
      refine j_wC (κ' := (upd (upd S 18 (nI k1)) 27 (nI (cd.length + 1)), va_up X 80 (upd (X 80) cd.length v), va_up (va_up P 4 (q 11)) 9 (O.2.1 1))) rfl ?_
      refine j_vret C dX4_readNumber_56 ?_
      have hend : numF b n 4 k 0 = (k1, v) := by
        rw [← he, show 4 - i = (3 - i) + 1 by omega, numF, if_neg c16]
      rw [hend]
      have hq := ((hp.sk k1).add v)
      exact ⟨_, _, rfl, ⟨(pk_un (by omega)).trans pk_us, (pk_un (by omega)).trans ((pk_un (by omega)).trans hp.2.1), hq.2.2.1, hq.2.2.2.1, hq.2.2.2.2⟩, FrP.rf.k.c⟩
    · replace c16 := bI_t c16
      have hkn : k1 < n := byt_lt (b := b) (fun e => by rw [e] at c16; exact absurd c16.1 (by decide))
      refine j_iload_n C 1 dX4_readNumber_19 rfl ?_
      refine j_bipush C (v := (nI 10)) dX4_readNumber_20 (by decide) ?_
      refine j_imul C dX4_readNumber_22 ?_
      refine j_aload_n C 0 dX4_readNumber_23 rfl ?_
      refine j_callV (As := []) (rest := [.int (v * (nI 10))]) C vw4_77 (h_here_0 (b := b) (n := n) (k := k1) (hp.sk k1) (by omega) hn) ⟨10, 4, _, _, rfl, rfl, rfl⟩ rfl (Nat.le_of_ble_eq_true rfl) dX4_readNumber_24 (by decide) ?_
      rintro _ _ ⟨rfl, rfl⟩
      refine j_iadd C dX4_readNumber_27 ?_
      refine j_bipush C (v := (nI 48)) dX4_readNumber_28 (by decide) ?_
      refine j_isub C dX4_readNumber_30 ?_
      refine j_istore_n C [(1, .int (((v * (nI 10)) + (bytF b n k1)) - (nI 48))), (0, .ref (q 10)), (2, .int (nI i))] dX4_readNumber_31 (by decide) rfl ?_
      refine j_aload_n C 1 dX4_readNumber_32 rfl ?_
      refine j_dup C dX4_readNumber_33 rfl ?_
      refine j_get C (v := .int (nI k1)) 10 5 rfl rfl inlC4 (by decide) kf4_33 rfl dX4_readNumber_34 ?_
      refine j_iconst C (v := (nI 1)) dX4_readNumber_37 (by decide) ?_
      refine j_iaddN C dX4_readNumber_38 ?_
      refine j_put C 10 5 rfl rfl inlC4 tyX4 tyX4_ok nmX4 (by decide) kf4_33 rfl (ty := .int) (by decide +kernel) rfl rfl (Nat.le_of_ble_eq_true rfl) dX4_readNumber_39 (upd S 18 (nI (k1 + 1)), X, va_up (va_up P 4 (q 11)) 9 (O.2.1 1)) rfl ?_
      refine j_iinc C (v := (nI (i + 1))) 2 [(2, .int (nI (i + 1))), (1, .int (((v * (nI 10)) + (bytF b n k1)) - (nI 48))), (0, .ref (q 10))] dX4_readNumber_42 rfl (nI_1 _) (by decide) rfl ?_
      refine j_goto C 4 dX4_readNumber_45 (by decide) ?_
      refine j_L [2, 1, 0] [(0, .ref (q 10)), (1, .int (((v * (nI 10)) + (bytF b n k1)) - (nI 48))), (2, .int (nI (i + 1)))] rfl ?_
      exact ih (i + 1, k1 + 1, ((v * (nI 10)) + (bytF b n k1)) - (nI 48)) (⟨by dsimp only; omega, by dsimp only; omega, by dsimp only; omega, fun _ => by dsimp only; omega, by
      dsimp only
      rw [← he, show 4 - i = (4 - (i + 1)) + 1 by omega, numF, if_pos c16, Int32.mul_comm v (nI 10)]⟩) (by dsimp only; omega)
def PLV0 (O : Ou) (l : Launch) (D : va_G) (cI cG cW : ClassId) (q P : Nat → Nat) (b : Nat → Int32) (n f : Nat) : Prop := ∀ (S : Nat → Int32) (X : Nat → Nat → Int32) (lvl op k : Nat) (cd : List Int32), CPst b n S X k cd → lvl ≤ 5 → op ≤ 5 → k ≤ n → cd.length ≤ k → 8 * (n - k) + (6 - lvl) ≤ f → CiO O l yX4_readLevel cX4_readLevel 5 (some .boolean) (8 * (5 - op) + 14 - lvl) D (tyL cI cG cW) (wC cI cG cW q) [.ref (q 10), .int (nI lvl), .int (nI op)] (S, X, (va_up (va_up P 4 (q 11)) 9 (O.2.1 1))) (PRr b n (va_up (va_up P 4 (q 11)) 9 (O.2.1 1)) S X (prs b n 0 f lvl false op k cd))
def PUN0 (O : Ou) (l : Launch) (D : va_G) (cI cG cW : ClassId) (q P : Nat → Nat) (b : Nat → Int32) (n f : Nat) : Prop := ∀ (S : Nat → Int32) (X : Nat → Nat → Int32) (op k : Nat) (cd : List Int32), CPst b n S X k cd → op ≤ 5 → k ≤ n → cd.length ≤ k → 8 * (n - k) + 1 ≤ f → CiO O l yX4_readUnit cX4_readUnit 4 (some .boolean) (8 * (5 - op) + 8) D (tyL cI cG cW) (wC cI cG cW q) [.ref (q 10), .int (nI op)] (S, X, (va_up (va_up P 4 (q 11)) 9 (O.2.1 1))) (PRr b n (va_up (va_up P 4 (q 11)) 9 (O.2.1 1)) S X (prs b n 0 f 5 false op k cd))
def POP0 (O : Ou) (l : Launch) (D : va_G) (cI cG cW : ClassId) (q P : Nat → Nat) (b : Nat → Int32) (n f : Nat) : Prop := ∀ (S : Nat → Int32) (X : Nat → Nat → Int32) (op k : Nat) (cd : List Int32), CPst b n S X k cd → op ≤ 5 → k < n → cd.length ≤ k → 8 * (n - (k + 1)) + 6 ≤ f → (CiO O l yX4_readOpened cX4_readOpened 4 (some .boolean) (8 * (5 - op) + 15) D (tyL cI cG cW) (wC cI cG cW q) [.ref (q 10), .int (nI 33), .int (nI op)] (S, X, (va_up (va_up P 4 (q 11)) 9 (O.2.1 1))) (PRr b n (va_up (va_up P 4 (q 11)) 9 (O.2.1 1)) S X ((prs b n 0 f 5 false op (k + 1) cd).1, (prs b n 0 f 5 false op (k + 1) cd).2.1, (prs b n 0 f 5 false op (k + 1) cd).2.2 ++ [-33]))) ∧ (CiO O l yX4_readOpened cX4_readOpened 4 (some .boolean) (8 * (5 - op) + 15) D (tyL cI cG cW) (wC cI cG cW q) [.ref (q 10), .int (nI 40), .int (nI op)] (S, X, (va_up (va_up P 4 (q 11)) 9 (O.2.1 1))) (PRr b n (va_up (va_up P 4 (q 11)) 9 (O.2.1 1)) S X (if (prs b n 0 f 0 false op (k + 1) cd).1 = true ∧ bytF b n (prs b n 0 f 0 false op (k + 1) cd).2.1 = 41 then (true, (prs b n 0 f 0 false op (k + 1) cd).2.1 + 1, (prs b n 0 f 0 false op (k + 1) cd).2.2) else (false, (prs b n 0 f 0 false op (k + 1) cd).2))))
theorem dX4_readOpened_0 : decode cX4_readOpened 0 = .ok (.aload_n 0, 1) := by decide +kernel
theorem dX4_readOpened_1 : decode cX4_readOpened 1 = .ok (.dup, 1) := by decide +kernel
theorem dX4_readOpened_2 : decode cX4_readOpened 2 = .ok (.getfield 33, 3) := by decide +kernel
theorem dX4_readOpened_5 : decode cX4_readOpened 5 = .ok (.iconst 1, 1) := by decide +kernel
theorem dX4_readOpened_6 : decode cX4_readOpened 6 = .ok (.iadd, 1) := by decide +kernel
theorem dX4_readOpened_7 : decode cX4_readOpened 7 = .ok (.putfield 33, 3) := by decide +kernel
theorem dX4_readOpened_10 : decode cX4_readOpened 10 = .ok (.iload_n 1, 1) := by decide +kernel
theorem dX4_readOpened_11 : decode cX4_readOpened 11 = .ok (.bipush 33, 2) := by decide +kernel
theorem dX4_readOpened_13 : decode cX4_readOpened 13 = .ok (.if_icmp .ne 20, 3) := by decide +kernel
theorem dX4_readOpened_16 : decode cX4_readOpened 16 = .ok (.aload_n 0, 1) := by decide +kernel
theorem dX4_readOpened_17 : decode cX4_readOpened 17 = .ok (.iload_n 2, 1) := by decide +kernel
theorem dX4_readOpened_18 : decode cX4_readOpened 18 = .ok (.invokevirtual 74, 3) := by decide +kernel
theorem dX4_readOpened_21 : decode cX4_readOpened 21 = .ok (.istore_n 3, 1) := by decide +kernel
theorem dX4_readOpened_22 : decode cX4_readOpened 22 = .ok (.aload_n 0, 1) := by decide +kernel
theorem dX4_readOpened_23 : decode cX4_readOpened 23 = .ok (.getfield 14, 3) := by decide +kernel
theorem dX4_readOpened_26 : decode cX4_readOpened 26 = .ok (.bipush (-33), 2) := by decide +kernel
theorem dX4_readOpened_28 : decode cX4_readOpened 28 = .ok (.invokevirtual 85, 3) := by decide +kernel
theorem dX4_readOpened_31 : decode cX4_readOpened 31 = .ok (.iload_n 3, 1) := by decide +kernel
theorem dX4_readOpened_32 : decode cX4_readOpened 32 = .ok (.ireturn, 1) := by decide +kernel
theorem dX4_readOpened_33 : decode cX4_readOpened 33 = .ok (.aload_n 0, 1) := by decide +kernel
theorem dX4_readOpened_34 : decode cX4_readOpened 34 = .ok (.iconst 0, 1) := by decide +kernel
theorem dX4_readOpened_35 : decode cX4_readOpened 35 = .ok (.iload_n 2, 1) := by decide +kernel
theorem dX4_readOpened_36 : decode cX4_readOpened 36 = .ok (.invokevirtual 66, 3) := by decide +kernel
theorem dX4_readOpened_39 : decode cX4_readOpened 39 = .ok (.ifCond .eq 12, 3) := by decide +kernel
theorem dX4_readOpened_42 : decode cX4_readOpened 42 = .ok (.aload_n 0, 1) := by decide +kernel
theorem dX4_readOpened_43 : decode cX4_readOpened 43 = .ok (.invokevirtual 77, 3) := by decide +kernel
theorem dX4_readOpened_46 : decode cX4_readOpened 46 = .ok (.bipush 41, 2) := by decide +kernel
theorem dX4_readOpened_48 : decode cX4_readOpened 48 = .ok (.if_icmp .eq 5, 3) := by decide +kernel
theorem dX4_readOpened_51 : decode cX4_readOpened 51 = .ok (.iconst 0, 1) := by decide +kernel
theorem dX4_readOpened_52 : decode cX4_readOpened 52 = .ok (.ireturn, 1) := by decide +kernel
theorem dX4_readOpened_53 : decode cX4_readOpened 53 = .ok (.aload_n 0, 1) := by decide +kernel
theorem dX4_readOpened_54 : decode cX4_readOpened 54 = .ok (.dup, 1) := by decide +kernel
theorem dX4_readOpened_55 : decode cX4_readOpened 55 = .ok (.getfield 33, 3) := by decide +kernel
theorem dX4_readOpened_58 : decode cX4_readOpened 58 = .ok (.iconst 1, 1) := by decide +kernel
theorem dX4_readOpened_59 : decode cX4_readOpened 59 = .ok (.iadd, 1) := by decide +kernel
theorem dX4_readOpened_60 : decode cX4_readOpened 60 = .ok (.putfield 33, 3) := by decide +kernel
theorem dX4_readOpened_63 : decode cX4_readOpened 63 = .ok (.iconst 1, 1) := by decide +kernel
theorem dX4_readOpened_64 : decode cX4_readOpened 64 = .ok (.ireturn, 1) := by decide +kernel
set_option maxHeartbeats 2000000 in
set_option maxRecDepth 20000 in
theorem h_opened33_0 {O : Ou} {l : Launch} {D : va_G} {cI cG cW : ClassId} {q P : Nat → Nat} {b : Nat → Int32} {n : Nat} (hn : n ≤ 50) (hB : BY b n) {f : Nat} (hL : PLV0 O l D cI cG cW q P b n f) (hU : PUN0 O l D cI cG cW q P b n f) : ∀ (S : Nat → Int32) (X : Nat → Nat → Int32) (op k : Nat) (cd : List Int32), CPst b n S X k cd → op ≤ 5 → k < n → cd.length ≤ k → 8 * (n - (k + 1)) + 6 ≤ f → CiO O l yX4_readOpened cX4_readOpened 4 (some .boolean) (8 * (5 - op) + 15) D (tyL cI cG cW) (wC cI cG cW q) [.ref (q 10), .int (nI 33), .int (nI op)] (S, X, (va_up (va_up P 4 (q 11)) 9 (O.2.1 1))) (PRr b n (va_up (va_up P 4 (q 11)) 9 (O.2.1 1)) S X ((prs b n 0 f 5 false op (k + 1) cd).1, (prs b n 0 f 5 false op (k + 1) cd).2.1, (prs b n 0 f 5 false op (k + 1) cd).2.2 ++ [-33])) := by
  intro S X op k cd hp hop hk hcd hf
  refine CiO.of (by decide) (Nat.le_of_ble_eq_true rfl) ?_
  intro p_ e_ s_ m_ b_ M_ c_ A_ C hO
  replace C : Cx _ _ _ _ _ _ _ _ RX4 _ _ _ _ := C
  refine j_L [0, 1, 2] [(0, .ref (q 10)), (1, .int (nI 33)), (2, .int (nI op))] rfl ?_
  refine j_aload_n C 0 dX4_readOpened_0 rfl ?_
  refine j_dup C dX4_readOpened_1 rfl ?_
  refine j_get C (v := .int (S 18)) 10 5 rfl rfl inlC4 (by decide) kf4_33 rfl dX4_readOpened_2 ?_
  refine j_v (nI k) hp.1 ?_
  refine j_iconst C (v := (nI 1)) dX4_readOpened_5 (by decide) ?_
  refine j_iaddN C dX4_readOpened_6 ?_
  refine j_put C 10 5 rfl rfl inlC4 tyX4 tyX4_ok nmX4 (by decide) kf4_33 rfl (ty := .int) (by decide +kernel) rfl rfl (Nat.le_of_ble_eq_true rfl) dX4_readOpened_7 (upd S 18 (nI (k + 1)), X, va_up (va_up P 4 (q 11)) 9 (O.2.1 1)) rfl ?_
  refine j_iload_n C 1 dX4_readOpened_10 rfl ?_
  refine j_bipush C (v := (nI 33)) dX4_readOpened_11 (by decide) ?_
  refine j_icmp_ne C 33 dX4_readOpened_13 (by decide) (fun c13 => ?_) (fun c13 => ?_)
  · rw [nI_eq (by omega) (by omega)] at c13
    exfalso; omega
  · rw [nI_eq (by omega) (by omega)] at c13
    refine j_aload_n C 0 dX4_readOpened_16 rfl ?_
    refine j_iload_n C 2 dX4_readOpened_17 rfl ?_
    refine j_callVO (As := [.int (nI op)]) (rest := []) C hO vw4_74 (hU _ _ op (k + 1) cd (hp.sk (k + 1)) hop (by omega) (by omega) (by omega)) ⟨10, 4, _, _, rfl, rfl, rfl⟩ rfl (Nat.le_of_ble_eq_true rfl) dX4_readOpened_18 (by omega) ?_
    rintro r1 _ ⟨S1, X1, rfl, e1, hP1, hf1⟩
    obtain ⟨res1, hr1⟩ : ∃ x, x = prs b n 0 f 5 false op (k + 1) cd := ⟨_, rfl⟩
    rw [← hr1] at e1 hP1
    have hpr1 := prs_pr (b := b) (n := n) (u := 0) f 5 false op (k + 1) cd (by omega) (fun h => by cases h) (by omega)
    have hle1 := prs_len (b := b) (n := n) (u := 0) f 5 false op (k + 1) cd (by omega) (fun h => by cases h) (by omega)
    have hE1 : prs b n 0 f 5 false op (k + 1) cd = res1 := hr1.symm
    rw [hE1] at hpr1 hle1
    refine j_v (bI (res1.1 = true)) e1 ?_
    refine j_istore_n C [(3, .int (bI (res1.1 = true))), (0, .ref (q 10)), (1, .int (nI 33)), (2, .int (nI op))] dX4_readOpened_21 (by decide) rfl ?_
    refine j_aload_n C 1 dX4_readOpened_22 rfl ?_
    refine j_get C (v := .ref (q 19)) 10 1 rfl rfl inlC4 (by decide) kf4_14 rfl dX4_readOpened_23 ?_
    refine j_bipush C (v := (-33)) dX4_readOpened_26 (by decide) ?_
    refine j_callVNv (As := [.int (-33)]) (rest := []) C vn4_85 (h_add_8 res1.2.2.length hP1.2.2.2.1 (by omega)) ⟨19, 8, _, _, rfl, rfl, rfl⟩ rfl (Nat.le_of_ble_eq_true rfl) dX4_readOpened_28 (by omega) ?_
    rintro _ rfl
    refine j_wC (κ' := (upd S1 27 (nI (res1.2.2.length + 1)), va_up X1 80 (upd (X1 80) res1.2.2.length (-33)), va_up (va_up P 4 (q 11)) 9 (O.2.1 1))) rfl ?_
    refine j_iload_n C 0 dX4_readOpened_31 rfl ?_
    refine j_zret C dX4_readOpened_32 (bI_01 _) ?_
    rw [hE1]
    exact ⟨_, _, rfl, rfl, hP1.add (-33), (hf1.tr FrP.rf.k).c⟩
set_option maxHeartbeats 2000000 in
set_option maxRecDepth 20000 in
theorem h_opened40_0 {O : Ou} {l : Launch} {D : va_G} {cI cG cW : ClassId} {q P : Nat → Nat} {b : Nat → Int32} {n : Nat} (hn : n ≤ 50) (hB : BY b n) {f : Nat} (hL : PLV0 O l D cI cG cW q P b n f) (hU : PUN0 O l D cI cG cW q P b n f) : ∀ (S : Nat → Int32) (X : Nat → Nat → Int32) (op k : Nat) (cd : List Int32), CPst b n S X k cd → op ≤ 5 → k < n → cd.length ≤ k → 8 * (n - (k + 1)) + 6 ≤ f → CiO O l yX4_readOpened cX4_readOpened 4 (some .boolean) (8 * (5 - op) + 15) D (tyL cI cG cW) (wC cI cG cW q) [.ref (q 10), .int (nI 40), .int (nI op)] (S, X, (va_up (va_up P 4 (q 11)) 9 (O.2.1 1))) (PRr b n (va_up (va_up P 4 (q 11)) 9 (O.2.1 1)) S X (if (prs b n 0 f 0 false op (k + 1) cd).1 = true ∧ bytF b n (prs b n 0 f 0 false op (k + 1) cd).2.1 = 41 then (true, (prs b n 0 f 0 false op (k + 1) cd).2.1 + 1, (prs b n 0 f 0 false op (k + 1) cd).2.2) else (false, (prs b n 0 f 0 false op (k + 1) cd).2))) := by
  intro S X op k cd hp hop hk hcd hf
  refine CiO.of (by decide) (Nat.le_of_ble_eq_true rfl) ?_
  intro p_ e_ s_ m_ b_ M_ c_ A_ C hO
  replace C : Cx _ _ _ _ _ _ _ _ RX4 _ _ _ _ := C
  refine j_L [0, 1, 2] [(0, .ref (q 10)), (1, .int (nI 40)), (2, .int (nI op))] rfl ?_
  refine j_aload_n C 0 dX4_readOpened_0 rfl ?_
  refine j_dup C dX4_readOpened_1 rfl ?_
  refine j_get C (v := .int (S 18)) 10 5 rfl rfl inlC4 (by decide) kf4_33 rfl dX4_readOpened_2 ?_
  refine j_v (nI k) hp.1 ?_
  refine j_iconst C (v := (nI 1)) dX4_readOpened_5 (by decide) ?_
  refine j_iaddN C dX4_readOpened_6 ?_
  refine j_put C 10 5 rfl rfl inlC4 tyX4 tyX4_ok nmX4 (by decide) kf4_33 rfl (ty := .int) (by decide +kernel) rfl rfl (Nat.le_of_ble_eq_true rfl) dX4_readOpened_7 (upd S 18 (nI (k + 1)), X, va_up (va_up P 4 (q 11)) 9 (O.2.1 1)) rfl ?_
  refine j_iload_n C 1 dX4_readOpened_10 rfl ?_
  refine j_bipush C (v := (nI 33)) dX4_readOpened_11 (by decide) ?_
  refine j_icmp_ne C 33 dX4_readOpened_13 (by decide) (fun c13 => ?_) (fun c13 => ?_)
  · rw [nI_eq (by omega) (by omega)] at c13
    refine j_aload_n C 0 dX4_readOpened_33 rfl ?_
    refine j_iconst C (v := (nI 0)) dX4_readOpened_34 (by decide) ?_
    refine j_iload_n C 2 dX4_readOpened_35 rfl ?_
    refine j_callVO (As := [.int (nI 0), .int (nI op)]) (rest := []) C hO vw4_66 (hL _ _ 0 op (k + 1) cd (hp.sk (k + 1)) (by omega) hop (by omega) (by omega) (by omega)) ⟨10, 4, _, _, rfl, rfl, rfl⟩ rfl (Nat.le_of_ble_eq_true rfl) dX4_readOpened_36 (by omega) ?_
    rintro r1 _ ⟨S1, X1, rfl, e1, hP1, hf1⟩
    obtain ⟨res1, hr1⟩ : ∃ x, x = prs b n 0 f 0 false op (k + 1) cd := ⟨_, rfl⟩
    rw [← hr1] at e1 hP1
    have hpr1 := prs_pr (b := b) (n := n) (u := 0) f 0 false op (k + 1) cd (by omega) (fun h => by cases h) (by omega)
    have hle1 := prs_len (b := b) (n := n) (u := 0) f 0 false op (k + 1) cd (by omega) (fun h => by cases h) (by omega)
    have hE1 : prs b n 0 f 0 false op (k + 1) cd = res1 := hr1.symm
    rw [hE1] at hpr1 hle1
    refine j_v (bI (res1.1 = true)) e1 ?_
    refine j_if_eq C 51 dX4_readOpened_39 (by decide) (fun c39 => ?_) (fun c39 => ?_)
    · replace c39 := bI_f c39
      refine j_iconst C (v := (nI 0)) dX4_readOpened_51 (by decide) ?_
      refine j_zret C dX4_readOpened_52 (by decide) ?_
      rw [hE1]
      rw [if_neg (fun h => c39 h.1)]
      exact ⟨_, _, rfl, bI0 (fun h => by cases h), hP1, hf1.tr FrP.rf.k⟩
    · replace c39 := bI_t c39
      refine j_aload_n C 0 dX4_readOpened_42 rfl ?_
      refine j_callV (As := []) (rest := []) C vw4_77 (h_here_0 (b := b) (n := n) (k := res1.2.1) hP1 (by omega) hn) ⟨10, 4, _, _, rfl, rfl, rfl⟩ rfl (Nat.le_of_ble_eq_true rfl) dX4_readOpened_43 (by omega) ?_
      rintro _ _ ⟨rfl, rfl⟩
      refine j_bipush C (v := (nI 41)) dX4_readOpened_46 (by decide) ?_
      refine j_icmp_eq C 53 dX4_readOpened_48 (by decide) (fun c48 => ?_) (fun c48 => ?_)
      · skip
        refine j_aload_n C 0 dX4_readOpened_53 rfl ?_
        refine j_dup C dX4_readOpened_54 rfl ?_
        refine j_get C (v := .int (S1 18)) 10 5 rfl rfl inlC4 (by decide) kf4_33 rfl dX4_readOpened_55 ?_
        refine j_v (nI res1.2.1) hP1.1 ?_
        refine j_iconst C (v := (nI 1)) dX4_readOpened_58 (by decide) ?_
        refine j_iaddN C dX4_readOpened_59 ?_
        refine j_put C 10 5 rfl rfl inlC4 tyX4 tyX4_ok nmX4 (by decide) kf4_33 rfl (ty := .int) (by decide +kernel) rfl rfl (Nat.le_of_ble_eq_true rfl) dX4_readOpened_60 (upd S1 18 (nI (res1.2.1 + 1)), X1, va_up (va_up P 4 (q 11)) 9 (O.2.1 1)) rfl ?_
        refine j_iconst C (v := (nI 1)) dX4_readOpened_63 (by decide) ?_
        refine j_zret C dX4_readOpened_64 (by decide) ?_
        rw [hE1]
        rw [if_pos ⟨c39, c48⟩]
        exact ⟨_, _, rfl, bI1 rfl, hP1.sk (res1.2.1 + 1), (hf1.tr FrP.rf.k).k⟩
      · skip
        refine j_iconst C (v := (nI 0)) dX4_readOpened_51 (by decide) ?_
        refine j_zret C dX4_readOpened_52 (by decide) ?_
        rw [hE1]
        rw [if_neg (fun h => c48 h.2)]
        exact ⟨_, _, rfl, bI0 (fun h => by cases h), hP1, hf1.tr FrP.rf.k⟩
  · rw [nI_eq (by omega) (by omega)] at c13
    exfalso; omega
theorem h_opened_0 {O : Ou} {l : Launch} {D : va_G} {cI cG cW : ClassId} {q P : Nat → Nat} {b : Nat → Int32} {n : Nat} (hn : n ≤ 50) (hB : BY b n) {f : Nat} (hL : PLV0 O l D cI cG cW q P b n f) (hU : PUN0 O l D cI cG cW q P b n f) : POP0 O l D cI cG cW q P b n f := fun S X op k cd hp hop hk hcd hf => ⟨h_opened33_0 hn hB hL hU S X op k cd hp hop hk hcd hf, h_opened40_0 hn hB hL hU S X op k cd hp hop hk hcd hf⟩
theorem dX4_readUnit_0 : decode cX4_readUnit 0 = .ok (.aload_n 0, 1) := by decide +kernel
theorem dX4_readUnit_1 : decode cX4_readUnit 1 = .ok (.invokevirtual 77, 3) := by decide +kernel
theorem dX4_readUnit_4 : decode cX4_readUnit 4 = .ok (.istore_n 2, 1) := by decide +kernel
theorem dX4_readUnit_5 : decode cX4_readUnit 5 = .ok (.iload_n 2, 1) := by decide +kernel
theorem dX4_readUnit_6 : decode cX4_readUnit 6 = .ok (.invokestatic 88, 3) := by decide +kernel
theorem dX4_readUnit_9 : decode cX4_readUnit 9 = .ok (.ifCond .eq 9, 3) := by decide +kernel
theorem dX4_readUnit_12 : decode cX4_readUnit 12 = .ok (.aload_n 0, 1) := by decide +kernel
theorem dX4_readUnit_13 : decode cX4_readUnit 13 = .ok (.invokevirtual 91, 3) := by decide +kernel
theorem dX4_readUnit_16 : decode cX4_readUnit 16 = .ok (.iconst 1, 1) := by decide +kernel
theorem dX4_readUnit_17 : decode cX4_readUnit 17 = .ok (.ireturn, 1) := by decide +kernel
theorem dX4_readUnit_18 : decode cX4_readUnit 18 = .ok (.iload_n 2, 1) := by decide +kernel
theorem dX4_readUnit_19 : decode cX4_readUnit 19 = .ok (.bipush 33, 2) := by decide +kernel
theorem dX4_readUnit_21 : decode cX4_readUnit 21 = .ok (.if_icmp .eq 9, 3) := by decide +kernel
theorem dX4_readUnit_24 : decode cX4_readUnit 24 = .ok (.iload_n 2, 1) := by decide +kernel
theorem dX4_readUnit_25 : decode cX4_readUnit 25 = .ok (.bipush 40, 2) := by decide +kernel
theorem dX4_readUnit_27 : decode cX4_readUnit 27 = .ok (.if_icmp .ne 25, 3) := by decide +kernel
theorem dX4_readUnit_30 : decode cX4_readUnit 30 = .ok (.iload_n 1, 1) := by decide +kernel
theorem dX4_readUnit_31 : decode cX4_readUnit 31 = .ok (.iconst 5, 1) := by decide +kernel
theorem dX4_readUnit_32 : decode cX4_readUnit 32 = .ok (.if_icmp .ge 18, 3) := by decide +kernel
theorem dX4_readUnit_35 : decode cX4_readUnit 35 = .ok (.aload_n 0, 1) := by decide +kernel
theorem dX4_readUnit_36 : decode cX4_readUnit 36 = .ok (.iload_n 2, 1) := by decide +kernel
theorem dX4_readUnit_37 : decode cX4_readUnit 37 = .ok (.iload_n 1, 1) := by decide +kernel
theorem dX4_readUnit_38 : decode cX4_readUnit 38 = .ok (.iconst 1, 1) := by decide +kernel
theorem dX4_readUnit_39 : decode cX4_readUnit 39 = .ok (.iadd, 1) := by decide +kernel
theorem dX4_readUnit_40 : decode cX4_readUnit 40 = .ok (.invokevirtual 94, 3) := by decide +kernel
theorem dX4_readUnit_43 : decode cX4_readUnit 43 = .ok (.ifCond .eq 7, 3) := by decide +kernel
theorem dX4_readUnit_46 : decode cX4_readUnit 46 = .ok (.iconst 1, 1) := by decide +kernel
theorem dX4_readUnit_47 : decode cX4_readUnit 47 = .ok (.goto 4, 3) := by decide +kernel
theorem dX4_readUnit_50 : decode cX4_readUnit 50 = .ok (.iconst 0, 1) := by decide +kernel
theorem dX4_readUnit_51 : decode cX4_readUnit 51 = .ok (.ireturn, 1) := by decide +kernel
theorem dX4_readUnit_52 : decode cX4_readUnit 52 = .ok (.iload_n 2, 1) := by decide +kernel
theorem dX4_readUnit_53 : decode cX4_readUnit 53 = .ok (.ifCond .ge 7, 3) := by decide +kernel
theorem dX4_readUnit_56 : decode cX4_readUnit 56 = .ok (.iconst (-1), 1) := by decide +kernel
theorem dX4_readUnit_57 : decode cX4_readUnit 57 = .ok (.goto 12, 3) := by decide +kernel
theorem dX4_readUnit_60 : decode cX4_readUnit 60 = .ok (.aload_n 0, 1) := by decide +kernel
theorem dX4_readUnit_61 : decode cX4_readUnit 61 = .ok (.getfield 29, 3) := by decide +kernel
theorem dX4_readUnit_64 : decode cX4_readUnit 64 = .ok (.iload_n 2, 1) := by decide +kernel
theorem dX4_readUnit_65 : decode cX4_readUnit 65 = .ok (.i2c, 1) := by decide +kernel
theorem dX4_readUnit_66 : decode cX4_readUnit 66 = .ok (.invokevirtual 97, 3) := by decide +kernel
theorem dX4_readUnit_69 : decode cX4_readUnit 69 = .ok (.istore_n 3, 1) := by decide +kernel
theorem dX4_readUnit_70 : decode cX4_readUnit 70 = .ok (.iload_n 3, 1) := by decide +kernel
theorem dX4_readUnit_71 : decode cX4_readUnit 71 = .ok (.ifCond .ge 5, 3) := by decide +kernel
theorem dX4_readUnit_74 : decode cX4_readUnit 74 = .ok (.iconst 0, 1) := by decide +kernel
theorem dX4_readUnit_75 : decode cX4_readUnit 75 = .ok (.ireturn, 1) := by decide +kernel
theorem dX4_readUnit_76 : decode cX4_readUnit 76 = .ok (.aload_n 0, 1) := by decide +kernel
theorem dX4_readUnit_77 : decode cX4_readUnit 77 = .ok (.getfield 14, 3) := by decide +kernel
theorem dX4_readUnit_80 : decode cX4_readUnit 80 = .ok (.iconst (-1), 1) := by decide +kernel
theorem dX4_readUnit_81 : decode cX4_readUnit 81 = .ok (.iload_n 3, 1) := by decide +kernel
theorem dX4_readUnit_82 : decode cX4_readUnit 82 = .ok (.isub, 1) := by decide +kernel
theorem dX4_readUnit_83 : decode cX4_readUnit 83 = .ok (.invokevirtual 85, 3) := by decide +kernel
theorem dX4_readUnit_86 : decode cX4_readUnit 86 = .ok (.aload_n 0, 1) := by decide +kernel
theorem dX4_readUnit_87 : decode cX4_readUnit 87 = .ok (.dup, 1) := by decide +kernel
theorem dX4_readUnit_88 : decode cX4_readUnit 88 = .ok (.getfield 33, 3) := by decide +kernel
theorem dX4_readUnit_91 : decode cX4_readUnit 91 = .ok (.iconst 1, 1) := by decide +kernel
theorem dX4_readUnit_92 : decode cX4_readUnit 92 = .ok (.iadd, 1) := by decide +kernel
theorem dX4_readUnit_93 : decode cX4_readUnit 93 = .ok (.putfield 33, 3) := by decide +kernel
theorem dX4_readUnit_96 : decode cX4_readUnit 96 = .ok (.iconst 1, 1) := by decide +kernel
theorem dX4_readUnit_97 : decode cX4_readUnit 97 = .ok (.ireturn, 1) := by decide +kernel
set_option maxHeartbeats 2000000 in
set_option maxRecDepth 20000 in
theorem h_unit_0 {O : Ou} {l : Launch} {D : va_G} {cI cG cW : ClassId} {q P : Nat → Nat} {b : Nat → Int32} {n : Nat} (hn : n ≤ 50) (hB : BY b n) (f : Nat) (IH : ∀ g, g < f → PLV0 O l D cI cG cW q P b n g ∧ PUN0 O l D cI cG cW q P b n g) : PUN0 O l D cI cG cW q P b n f := by
  intro S X op k cd hp hop hk hcd hf
  obtain ⟨f, rfl⟩ : ∃ g, f = g + 1 := ⟨f - 1, by omega⟩
  have hOp : POP0 O l D cI cG cW q P b n f := h_opened_0 hn hB (IH f (by omega)).1 (IH f (by omega)).2
  refine CiO.of (by decide) (Nat.le_of_ble_eq_true rfl) ?_
  intro p_ e_ s_ m_ b_ M_ c_ A_ C hO
  replace C : Cx _ _ _ _ _ _ _ _ RX4 _ _ _ _ := C
  refine j_L [0, 1] [(0, .ref (q 10)), (1, .int (nI op))] rfl ?_
  refine j_aload_n C 0 dX4_readUnit_0 rfl ?_
  refine j_callV (As := []) (rest := []) C vw4_77 (h_here_0 (b := b) (n := n) (k := k) hp (by omega) hn) ⟨10, 4, _, _, rfl, rfl, rfl⟩ rfl (Nat.le_of_ble_eq_true rfl) dX4_readUnit_1 (by omega) ?_
  rintro _ _ ⟨rfl, rfl⟩
  refine j_istore_n C [(2, .int (bytF b n k)), (0, .ref (q 10)), (1, .int (nI op))] dX4_readUnit_4 (by decide) rfl ?_
  refine j_iload_n C 0 dX4_readUnit_5 rfl ?_
  refine j_callS (As := [.int (bytF b n k)]) (rest := []) C sw4_88 (h_isDigit) rfl (Nat.le_of_ble_eq_true rfl) dX4_readUnit_6 (by omega) ?_
  rintro _ _ ⟨rfl, rfl⟩
  refine j_if_eq C 18 dX4_readUnit_9 (by decide) (fun c9 => ?_) (fun c9 => ?_)
  · replace c9 := bI_f c9
    refine j_iload_n C 0 dX4_readUnit_18 rfl ?_
    refine j_bipush C (v := (nI 33)) dX4_readUnit_19 (by decide) ?_
    refine j_icmp_eq C 30 dX4_readUnit_21 (by decide) (fun c21 => ?_) (fun c21 => ?_)
    · skip
      refine j_iload_n C 2 dX4_readUnit_30 rfl ?_
      refine j_iconst C (v := (nI 5)) dX4_readUnit_31 (by decide) ?_
      refine j_icmp_ge C 50 dX4_readUnit_32 (by decide) (fun c32 => ?_) (fun c32 => ?_)
      · rw [nI_leI (by omega) (by omega)] at c32
        refine j_iconst C (v := (nI 0)) dX4_readUnit_50 (by decide) ?_
        refine j_zret C dX4_readUnit_51 (by decide) ?_
        rw [prs_full c9 (Or.inl c21) (by omega)]
        exact ⟨_, _, rfl, bI0 (fun h => by cases h), hp, FrP.rf⟩
      · rw [nI_leI (by omega) (by omega)] at c32
        refine j_aload_n C 1 dX4_readUnit_35 rfl ?_
        refine j_iload_n C 0 dX4_readUnit_36 rfl ?_
        refine j_iload_n C 2 dX4_readUnit_37 rfl ?_
        refine j_iconst C (v := (nI 1)) dX4_readUnit_38 (by decide) ?_
        refine j_iaddN C dX4_readUnit_39 ?_
        have hkl : k < n := byt_lt (b := b) (by rw [c21]; decide)
        refine j_callVO (As := [.int (bytF b n k), .int (nI (op + 1))]) (rest := []) C hO vw4_94 (by rw [c21]; exact (hOp S X (op + 1) k cd hp (by omega) hkl hcd (by omega)).1) ⟨10, 4, _, _, rfl, rfl, rfl⟩ rfl (Nat.le_of_ble_eq_true rfl) dX4_readUnit_40 (by omega) ?_
        rintro r1 _ ⟨S1, X1, rfl, e1, hP1, hf1⟩
        have hpe := prs_not (u := 0) (f := f) (op := op) (code := cd) c9 c21 (by omega)
        rw [← hpe] at e1 hP1
        refine j_v (bI ((prs b n 0 (f + 1) 5 false op k cd).1 = true)) e1 ?_
        refine j_if_eq C 50 dX4_readUnit_43 (by decide) (fun c43 => ?_) (fun c43 => ?_)
        · replace c43 := bI_f c43
          refine j_iconst C (v := (nI 0)) dX4_readUnit_50 (by decide) ?_
          refine j_zret C dX4_readUnit_51 (by decide) ?_
          exact ⟨_, _, rfl, bI0 c43, hP1, hf1⟩
        · replace c43 := bI_t c43
          refine j_iconst C (v := (nI 1)) dX4_readUnit_46 (by decide) ?_
          refine j_goto C 51 dX4_readUnit_47 (by decide) ?_
          refine j_zret C dX4_readUnit_51 (by decide) ?_
          exact ⟨_, _, rfl, bI1 c43, hP1, hf1⟩
    · skip
      refine j_iload_n C 0 dX4_readUnit_24 rfl ?_
      refine j_bipush C (v := (nI 40)) dX4_readUnit_25 (by decide) ?_
      refine j_icmp_ne C 52 dX4_readUnit_27 (by decide) (fun c27 => ?_) (fun c27 => ?_)
      · skip
        refine j_iload_n C 0 dX4_readUnit_52 rfl ?_
        refine j_if_ge C 60 dX4_readUnit_53 (by decide) (fun c53 => ?_) (fun c53 => ?_)
        · skip
          have hkl : k < n := by
            by_cases h : k < n
            · exact h
            · exfalso; rw [← byt_f h] at c53; exact absurd c53 (by decide)
          obtain ⟨by_, hby, eby⟩ := hB k hkl
          have ebt : bytF b n k = nI by_ := (byt_t hkl).symm.trans eby
          refine j_aload_n C 1 dX4_readUnit_60 rfl ?_
          refine j_get C (v := .ref (O.2.1 1)) 10 4 rfl rfl inlC4 (by decide) kf4_29 rfl dX4_readUnit_61 ?_
          refine j_iload_n C 0 dX4_readUnit_64 rfl ?_
          refine j_i2c C dX4_readUnit_65 ?_
          refine j_v (nI by_) (by rw [ebt]; exact chr_id by_ (by omega)) ?_
          refine j_callXO (i := 1) (As := [.int (nI by_)]) (rest := []) C hO vwS1 (h_ix_1 by_ hby) ⟨rfl, by decide, rfl⟩ rfl (Nat.le_of_ble_eq_true rfl) dX4_readUnit_66 (by omega) ?_
          rintro _ _ ⟨rfl, rfl⟩
          have hix := ix_nam 0 (by decide) by_ (by omega)
          rw [← ebt] at hix
          by_cases hnm : namF 0 (bytF b n k) < 3
          · rw [if_pos hnm] at hix
            refine j_v (nI (namF 0 (bytF b n k))) (by rw [← hix, ebt]) ?_
            refine j_istore_n C [(3, .int (nI (namF 0 (bytF b n k)))), (2, .int (bytF b n k)), (0, .ref (q 10)), (1, .int (nI op))] dX4_readUnit_69 (by decide) rfl ?_
            refine j_iload_n C 0 dX4_readUnit_70 rfl ?_
            refine j_if_ge C 76 dX4_readUnit_71 (by decide) (fun c71 => ?_) (fun c71 => ?_)
            · rw [show (0 : Int32) = nI 0 from rfl, nI_leI (by omega) (by omega)] at c71
              refine j_aload_n C 2 dX4_readUnit_76 rfl ?_
              refine j_get C (v := .ref (q 19)) 10 1 rfl rfl inlC4 (by decide) kf4_14 rfl dX4_readUnit_77 ?_
              refine j_iconst C (v := (-1)) dX4_readUnit_80 (by decide) ?_
              refine j_iload_n C 0 dX4_readUnit_81 rfl ?_
              refine j_isub C dX4_readUnit_82 ?_
              refine j_callVNv (As := [.int ((-1) - (nI (namF 0 (bytF b n k))))]) (rest := []) C vn4_85 (h_add_8 cd.length hp.2.2.2.1 (by omega)) ⟨19, 8, _, _, rfl, rfl, rfl⟩ rfl (Nat.le_of_ble_eq_true rfl) dX4_readUnit_83 (by omega) ?_
              rintro _ rfl
              refine j_wC (κ' := (upd S 27 (nI (cd.length + 1)), va_up X 80 (upd (X 80) cd.length ((-1) - (nI (namF 0 (bytF b n k))))), va_up (va_up P 4 (q 11)) 9 (O.2.1 1))) rfl ?_
              refine j_aload_n C 2 dX4_readUnit_86 rfl ?_
              refine j_dup C dX4_readUnit_87 rfl ?_
              refine j_get C (v := .int (S 18)) 10 5 rfl rfl inlC4 (by decide) kf4_33 rfl dX4_readUnit_88 ?_
              refine j_v (nI k) hp.1 ?_
              refine j_iconst C (v := (nI 1)) dX4_readUnit_91 (by decide) ?_
              refine j_iaddN C dX4_readUnit_92 ?_
              refine j_put C 10 5 rfl rfl inlC4 tyX4 tyX4_ok nmX4 (by decide) kf4_33 rfl (ty := .int) (by decide +kernel) rfl rfl (Nat.le_of_ble_eq_true rfl) dX4_readUnit_93 (upd (upd S 18 (nI (k + 1))) 27 (nI (cd.length + 1)), va_up X 80 (upd (X 80) cd.length ((-1) - (nI (namF 0 (bytF b n k))))), va_up (va_up P 4 (q 11)) 9 (O.2.1 1)) rfl ?_
              refine j_iconst C (v := (nI 1)) dX4_readUnit_96 (by decide) ?_
              refine j_zret C dX4_readUnit_97 (by decide) ?_
              rw [prs_nam c9 c21 c27 hnm]
              exact ⟨_, _, rfl, bI1 rfl, (hp.sk (k + 1)).add _, FrP.rf.k.c⟩
            · rw [show (0 : Int32) = nI 0 from rfl, nI_leI (by omega) (by omega)] at c71
              exfalso; omega
          · rw [if_neg hnm] at hix
            refine j_v (-1) (by rw [← hix, ebt]) ?_
            refine j_istore_n C [(3, .int (-1)), (2, .int (bytF b n k)), (0, .ref (q 10)), (1, .int (nI op))] dX4_readUnit_69 (by decide) rfl ?_
            refine j_iload_n C 0 dX4_readUnit_70 rfl ?_
            refine j_if_ge C 76 dX4_readUnit_71 (by decide) (fun c71 => ?_) (fun c71 => ?_)
            · skip
              exact absurd c71 (by decide)
            · skip
              refine j_iconst C (v := (nI 0)) dX4_readUnit_74 (by decide) ?_
              refine j_zret C dX4_readUnit_75 (by decide) ?_
              rw [prs_bad c9 c21 c27 hnm]
              exact ⟨_, _, rfl, bI0 (fun h => by cases h), hp, FrP.rf⟩
        · skip
          refine j_iconst C (v := (-1)) dX4_readUnit_56 (by decide) ?_
          refine j_goto C 69 dX4_readUnit_57 (by decide) ?_
          refine j_istore_n C [(3, .int (-1)), (2, .int (bytF b n k)), (0, .ref (q 10)), (1, .int (nI op))] dX4_readUnit_69 (by decide) rfl ?_
          refine j_iload_n C 0 dX4_readUnit_70 rfl ?_
          refine j_if_ge C 76 dX4_readUnit_71 (by decide) (fun c71 => ?_) (fun c71 => ?_)
          · skip
            exact absurd c71 (by decide)
          · skip
            refine j_iconst C (v := (nI 0)) dX4_readUnit_74 (by decide) ?_
            refine j_zret C dX4_readUnit_75 (by decide) ?_
            have hm1 : bytF b n k = -1 := by
              by_cases h : k < n
              · exfalso
                obtain ⟨v, hv, ev⟩ := hB k h
                rw [← byt_t h, ev] at c53
                exact c53 (nlt (nI_pos (by omega)))
              · exact (byt_f h).symm
            rw [prs_bad c9 c21 c27 (by rw [hm1, nam_m1]; omega)]
            exact ⟨_, _, rfl, bI0 (fun h => by cases h), hp, FrP.rf⟩
      · skip
        refine j_iload_n C 2 dX4_readUnit_30 rfl ?_
        refine j_iconst C (v := (nI 5)) dX4_readUnit_31 (by decide) ?_
        refine j_icmp_ge C 50 dX4_readUnit_32 (by decide) (fun c32 => ?_) (fun c32 => ?_)
        · rw [nI_leI (by omega) (by omega)] at c32
          refine j_iconst C (v := (nI 0)) dX4_readUnit_50 (by decide) ?_
          refine j_zret C dX4_readUnit_51 (by decide) ?_
          rw [prs_full c9 (Or.inr c27) (by omega)]
          exact ⟨_, _, rfl, bI0 (fun h => by cases h), hp, FrP.rf⟩
        · rw [nI_leI (by omega) (by omega)] at c32
          refine j_aload_n C 1 dX4_readUnit_35 rfl ?_
          refine j_iload_n C 0 dX4_readUnit_36 rfl ?_
          refine j_iload_n C 2 dX4_readUnit_37 rfl ?_
          refine j_iconst C (v := (nI 1)) dX4_readUnit_38 (by decide) ?_
          refine j_iaddN C dX4_readUnit_39 ?_
          have hkl : k < n := byt_lt (b := b) (by rw [c27]; decide)
          refine j_callVO (As := [.int (bytF b n k), .int (nI (op + 1))]) (rest := []) C hO vw4_94 (by rw [c27]; exact (hOp S X (op + 1) k cd hp (by omega) hkl hcd (by omega)).2) ⟨10, 4, _, _, rfl, rfl, rfl⟩ rfl (Nat.le_of_ble_eq_true rfl) dX4_readUnit_40 (by omega) ?_
          rintro r1 _ ⟨S1, X1, rfl, e1, hP1, hf1⟩
          have hpe : (if (prs b n 0 f 0 false (op + 1) (k + 1) cd).1 = true ∧ bytF b n (prs b n 0 f 0 false (op + 1) (k + 1) cd).2.1 = 41 then (true, (prs b n 0 f 0 false (op + 1) (k + 1) cd).2.1 + 1, (prs b n 0 f 0 false (op + 1) (k + 1) cd).2.2) else (false, (prs b n 0 f 0 false (op + 1) (k + 1) cd).2)) = prs b n 0 (f + 1) 5 false op k cd := by
            by_cases h : (prs b n 0 f 0 false (op + 1) (k + 1) cd).1 = true ∧ bytF b n (prs b n 0 f 0 false (op + 1) (k + 1) cd).2.1 = 41
            · rw [if_pos h]; exact (prs_pt c9 c27 (by omega) h).symm
            · rw [if_neg h]; exact (prs_pf c9 c27 (by omega) h).symm
          rw [hpe] at e1 hP1
          refine j_v (bI ((prs b n 0 (f + 1) 5 false op k cd).1 = true)) e1 ?_
          refine j_if_eq C 50 dX4_readUnit_43 (by decide) (fun c43 => ?_) (fun c43 => ?_)
          · replace c43 := bI_f c43
            refine j_iconst C (v := (nI 0)) dX4_readUnit_50 (by decide) ?_
            refine j_zret C dX4_readUnit_51 (by decide) ?_
            exact ⟨_, _, rfl, bI0 c43, hP1, hf1⟩
          · replace c43 := bI_t c43
            refine j_iconst C (v := (nI 1)) dX4_readUnit_46 (by decide) ?_
            refine j_goto C 51 dX4_readUnit_47 (by decide) ?_
            refine j_zret C dX4_readUnit_51 (by decide) ?_
            exact ⟨_, _, rfl, bI1 c43, hP1, hf1⟩
  · replace c9 := bI_t c9
    refine j_aload_n C 1 dX4_readUnit_12 rfl ?_
    refine j_callVv (As := []) (rest := []) C vw4_91 (h_readNumber_0 hp hk hn hcd c9) ⟨10, 4, _, _, rfl, rfl, rfl⟩ rfl (Nat.le_of_ble_eq_true rfl) dX4_readUnit_13 (by omega) ?_
    rintro _ ⟨S1, X1, rfl, hP1, hf1⟩
    refine j_iconst C (v := (nI 1)) dX4_readUnit_16 (by decide) ?_
    refine j_zret C dX4_readUnit_17 (by decide) ?_
    rw [prs_num c9]
    exact ⟨_, _, rfl, bI1 rfl, hP1, hf1⟩
theorem dX4_readLevel_0 : decode cX4_readLevel 0 = .ok (.iload_n 1, 1) := by decide +kernel
theorem dX4_readLevel_1 : decode cX4_readLevel 1 = .ok (.iconst 5, 1) := by decide +kernel
theorem dX4_readLevel_2 : decode cX4_readLevel 2 = .ok (.if_icmp .lt 9, 3) := by decide +kernel
theorem dX4_readLevel_5 : decode cX4_readLevel 5 = .ok (.aload_n 0, 1) := by decide +kernel
theorem dX4_readLevel_6 : decode cX4_readLevel 6 = .ok (.iload_n 2, 1) := by decide +kernel
theorem dX4_readLevel_7 : decode cX4_readLevel 7 = .ok (.invokevirtual 74, 3) := by decide +kernel
theorem dX4_readLevel_10 : decode cX4_readLevel 10 = .ok (.ireturn, 1) := by decide +kernel
theorem dX4_readLevel_11 : decode cX4_readLevel 11 = .ok (.aload_n 0, 1) := by decide +kernel
theorem dX4_readLevel_12 : decode cX4_readLevel 12 = .ok (.iload_n 1, 1) := by decide +kernel
theorem dX4_readLevel_13 : decode cX4_readLevel 13 = .ok (.iconst 1, 1) := by decide +kernel
theorem dX4_readLevel_14 : decode cX4_readLevel 14 = .ok (.iadd, 1) := by decide +kernel
theorem dX4_readLevel_15 : decode cX4_readLevel 15 = .ok (.iload_n 2, 1) := by decide +kernel
theorem dX4_readLevel_16 : decode cX4_readLevel 16 = .ok (.invokevirtual 66, 3) := by decide +kernel
theorem dX4_readLevel_19 : decode cX4_readLevel 19 = .ok (.ifCond .ne 5, 3) := by decide +kernel
theorem dX4_readLevel_22 : decode cX4_readLevel 22 = .ok (.iconst 0, 1) := by decide +kernel
theorem dX4_readLevel_23 : decode cX4_readLevel 23 = .ok (.ireturn, 1) := by decide +kernel
theorem dX4_readLevel_24 : decode cX4_readLevel 24 = .ok (.iconst 0, 1) := by decide +kernel
theorem dX4_readLevel_25 : decode cX4_readLevel 25 = .ok (.istore_n 3, 1) := by decide +kernel
theorem dX4_readLevel_26 : decode cX4_readLevel 26 = .ok (.iload_n 3, 1) := by decide +kernel
theorem dX4_readLevel_27 : decode cX4_readLevel 27 = .ok (.bipush 50, 2) := by decide +kernel
theorem dX4_readLevel_29 : decode cX4_readLevel 29 = .ok (.if_icmp .ge 82, 3) := by decide +kernel
theorem dX4_readLevel_32 : decode cX4_readLevel 32 = .ok (.aload_n 0, 1) := by decide +kernel
theorem dX4_readLevel_33 : decode cX4_readLevel 33 = .ok (.invokevirtual 77, 3) := by decide +kernel
theorem dX4_readLevel_36 : decode cX4_readLevel 36 = .ok (.invokestatic 81, 3) := by decide +kernel
theorem dX4_readLevel_39 : decode cX4_readLevel 39 = .ok (.iload_n 1, 1) := by decide +kernel
theorem dX4_readLevel_40 : decode cX4_readLevel 40 = .ok (.if_icmp .ne 71, 3) := by decide +kernel
theorem dX4_readLevel_43 : decode cX4_readLevel 43 = .ok (.aload_n 0, 1) := by decide +kernel
theorem dX4_readLevel_44 : decode cX4_readLevel 44 = .ok (.invokevirtual 77, 3) := by decide +kernel
theorem dX4_readLevel_47 : decode cX4_readLevel 47 = .ok (.istore 4, 2) := by decide +kernel
theorem dX4_readLevel_49 : decode cX4_readLevel 49 = .ok (.aload_n 0, 1) := by decide +kernel
theorem dX4_readLevel_50 : decode cX4_readLevel 50 = .ok (.dup, 1) := by decide +kernel
theorem dX4_readLevel_51 : decode cX4_readLevel 51 = .ok (.getfield 33, 3) := by decide +kernel
theorem dX4_readLevel_54 : decode cX4_readLevel 54 = .ok (.iconst 1, 1) := by decide +kernel
theorem dX4_readLevel_55 : decode cX4_readLevel 55 = .ok (.iadd, 1) := by decide +kernel
theorem dX4_readLevel_56 : decode cX4_readLevel 56 = .ok (.putfield 33, 3) := by decide +kernel
theorem dX4_readLevel_59 : decode cX4_readLevel 59 = .ok (.aload_n 0, 1) := by decide +kernel
theorem dX4_readLevel_60 : decode cX4_readLevel 60 = .ok (.iload_n 1, 1) := by decide +kernel
theorem dX4_readLevel_61 : decode cX4_readLevel 61 = .ok (.iconst 1, 1) := by decide +kernel
theorem dX4_readLevel_62 : decode cX4_readLevel 62 = .ok (.iadd, 1) := by decide +kernel
theorem dX4_readLevel_63 : decode cX4_readLevel 63 = .ok (.iload_n 2, 1) := by decide +kernel
theorem dX4_readLevel_64 : decode cX4_readLevel 64 = .ok (.invokevirtual 66, 3) := by decide +kernel
theorem dX4_readLevel_67 : decode cX4_readLevel 67 = .ok (.ifCond .ne 5, 3) := by decide +kernel
theorem dX4_readLevel_70 : decode cX4_readLevel 70 = .ok (.iconst 0, 1) := by decide +kernel
theorem dX4_readLevel_71 : decode cX4_readLevel 71 = .ok (.ireturn, 1) := by decide +kernel
theorem dX4_readLevel_72 : decode cX4_readLevel 72 = .ok (.aload_n 0, 1) := by decide +kernel
theorem dX4_readLevel_73 : decode cX4_readLevel 73 = .ok (.getfield 14, 3) := by decide +kernel
theorem dX4_readLevel_76 : decode cX4_readLevel 76 = .ok (.iload 4, 2) := by decide +kernel
theorem dX4_readLevel_78 : decode cX4_readLevel 78 = .ok (.ineg, 1) := by decide +kernel
theorem dX4_readLevel_79 : decode cX4_readLevel 79 = .ok (.invokevirtual 85, 3) := by decide +kernel
theorem dX4_readLevel_82 : decode cX4_readLevel 82 = .ok (.iload 4, 2) := by decide +kernel
theorem dX4_readLevel_84 : decode cX4_readLevel 84 = .ok (.bipush 60, 2) := by decide +kernel
theorem dX4_readLevel_86 : decode cX4_readLevel 86 = .ok (.if_icmp .eq 17, 3) := by decide +kernel
theorem dX4_readLevel_89 : decode cX4_readLevel 89 = .ok (.iload 4, 2) := by decide +kernel
theorem dX4_readLevel_91 : decode cX4_readLevel 91 = .ok (.bipush 61, 2) := by decide +kernel
theorem dX4_readLevel_93 : decode cX4_readLevel 93 = .ok (.if_icmp .eq 10, 3) := by decide +kernel
theorem dX4_readLevel_96 : decode cX4_readLevel 96 = .ok (.iload 4, 2) := by decide +kernel
theorem dX4_readLevel_98 : decode cX4_readLevel 98 = .ok (.bipush 62, 2) := by decide +kernel
theorem dX4_readLevel_100 : decode cX4_readLevel 100 = .ok (.if_icmp .ne 5, 3) := by decide +kernel
theorem dX4_readLevel_103 : decode cX4_readLevel 103 = .ok (.iconst 1, 1) := by decide +kernel
theorem dX4_readLevel_104 : decode cX4_readLevel 104 = .ok (.ireturn, 1) := by decide +kernel
theorem dX4_readLevel_105 : decode cX4_readLevel 105 = .ok (.iinc 3 1, 3) := by decide +kernel
theorem dX4_readLevel_108 : decode cX4_readLevel 108 = .ok (.goto (-82), 3) := by decide +kernel
theorem dX4_readLevel_111 : decode cX4_readLevel 111 = .ok (.iconst 1, 1) := by decide +kernel
theorem dX4_readLevel_112 : decode cX4_readLevel 112 = .ok (.ireturn, 1) := by decide +kernel
set_option maxHeartbeats 2000000 in
set_option maxRecDepth 20000 in
theorem h_level_0 {O : Ou} {l : Launch} {D : va_G} {cI cG cW : ClassId} {q P : Nat → Nat} {b : Nat → Int32} {n : Nat} (hn : n ≤ 50) (hB : BY b n) (f : Nat) (IH : ∀ g, g < f → PLV0 O l D cI cG cW q P b n g) (hU : PUN0 O l D cI cG cW q P b n f) : PLV0 O l D cI cG cW q P b n f := by
  intro S X lvl op k cd hp hl5 hop hk hcd hf
  refine CiO.of (by decide) (Nat.le_of_ble_eq_true rfl) ?_
  intro p_ e_ s_ m_ b_ M_ c_ A_ C hO
  replace C : Cx _ _ _ _ _ _ _ _ RX4 _ _ _ _ := C
  refine j_L [0, 1, 2] [(0, .ref (q 10)), (1, .int (nI lvl)), (2, .int (nI op))] rfl ?_
  refine j_iload_n C 1 dX4_readLevel_0 rfl ?_
  refine j_iconst C (v := (nI 5)) dX4_readLevel_1 (by decide) ?_
  refine j_icmp_lt C 11 dX4_readLevel_2 (by decide) (fun c2 => ?_) (fun c2 => ?_)
  · rw [nI_ltI (by omega) (by omega)] at c2
    obtain ⟨f, rfl⟩ : ∃ g, f = g + 1 := ⟨f - 1, by omega⟩
    refine j_aload_n C 0 dX4_readLevel_11 rfl ?_
    refine j_iload_n C 1 dX4_readLevel_12 rfl ?_
    refine j_iconst C (v := (nI 1)) dX4_readLevel_13 (by decide) ?_
    refine j_iaddN C dX4_readLevel_14 ?_
    refine j_iload_n C 2 dX4_readLevel_15 rfl ?_
    refine j_callVO (As := [.int (nI (lvl + 1)), .int (nI op)]) (rest := []) C hO vw4_66 ((IH f (by omega)) S X (lvl + 1) op k cd hp (by omega) hop hk hcd (by omega)) ⟨10, 4, _, _, rfl, rfl, rfl⟩ rfl (Nat.le_of_ble_eq_true rfl) dX4_readLevel_16 (by omega) ?_
    rintro r1 _ ⟨S1, X1, rfl, e1, hP1, hf1⟩
    obtain ⟨res1, hr1⟩ : ∃ x, x = prs b n 0 f (lvl + 1) false op k cd := ⟨_, rfl⟩
    rw [← hr1] at e1 hP1
    have hpr1 := prs_pr (b := b) (n := n) (u := 0) f (lvl + 1) false op k cd (by omega) (fun h => by cases h) (by omega)
    have hle1 := prs_len (b := b) (n := n) (u := 0) f (lvl + 1) false op k cd (by omega) (fun h => by cases h) (by omega)
    have hE1 : prs b n 0 f (lvl + 1) false op k cd = res1 := hr1.symm
    rw [hE1] at hpr1 hle1
    refine j_v (bI (res1.1 = true)) e1 ?_
    refine j_if_ne C 24 dX4_readLevel_19 (by decide) (fun c19 => ?_) (fun c19 => ?_)
    · replace c19 := bI_t c19
      refine j_iconst C (v := (nI 0)) dX4_readLevel_24 (by decide) ?_
      refine j_istore_n C [(3, .int (nI 0)), (0, .ref (q 10)), (1, .int (nI lvl)), (2, .int (nI op))] dX4_readLevel_25 (by decide) rfl ?_
      have hlt1 := hpr1.2.2 rfl c19
      refine j_L [1, 2, 3, 0] [(0, .ref (q 10)), (1, .int (nI lvl)), (2, .int (nI op)), (3, .int (nI 0))] rfl ?_
      refine j_loop (X := Nat × Nat × Nat × (List Int32) × (Nat → Int32) × (Nat → Nat → Int32)) (fun (z : Nat × Nat × Nat × (List Int32) × (Nat → Int32) × (Nat → Nat → Int32)) => match z with | (i, F, k1, cd1, Sc, Xc) => i + 1 ≤ k1 ∧ k1 ≤ n ∧ F ≤ f ∧ 8 * (n - k1) + (6 - lvl) ≤ F ∧ cd1.length ≤ k1 ∧ CPst b n Sc Xc k1 cd1 ∧ FrP Sc Xc S X ∧ prs b n 0 (f + 1) lvl false op k cd = prs b n 0 F lvl true op k1 cd1) (fun (z : Nat × Nat × Nat × (List Int32) × (Nat → Int32) × (Nat → Nat → Int32)) => match z with | (i, F, k1, cd1, Sc, Xc) => F) (fun (z : Nat × Nat × Nat × (List Int32) × (Nat → Int32) × (Nat → Nat → Int32)) => match z with | (i, F, k1, cd1, Sc, Xc) => (Sc, Xc, va_up (va_up P 4 (q 11)) 9 (O.2.1 1))) (fun (z : Nat × Nat × Nat × (List Int32) × (Nat → Int32) × (Nat → Nat → Int32)) => match z with | (i, F, k1, cd1, Sc, Xc) => [(0, .ref (q 10)), (1, .int (nI lvl)), (2, .int (nI op)), (3, .int (nI i))]) (0, f, res1.2.1, res1.2.2, S1, X1) (⟨by omega, hpr1.2.1, Nat.le_refl _, by omega, by omega, hP1, hf1, by rw [prs_ut (by omega) (by rw [hE1]; exact c19), hE1]⟩) rfl rfl ?_
      rintro ⟨i, F, k1, cd1, Sc, Xc⟩ ⟨hi, hk1, hFf, hF8, hc1, hPc, hFc, hEq⟩ ih
      try dsimp only at ih ⊢
      obtain ⟨F, rfl⟩ : ∃ g, F = g + 1 := ⟨F - 1, by omega⟩
      refine j_iload_n C 3 dX4_readLevel_26 rfl ?_
      refine j_bipush C (v := (nI 50)) dX4_readLevel_27 (by decide) ?_
      refine j_icmp_ge C 111 dX4_readLevel_29 (by decide) (fun c29 => ?_) (fun c29 => ?_)
      · rw [nI_leI (by omega) (by omega)] at c29
        refine j_iconst C (v := (nI 1)) dX4_readLevel_111 (by decide) ?_
        refine j_zret C dX4_readLevel_112 (by decide) ?_
        exfalso; omega
      · rw [nI_leI (by omega) (by omega)] at c29
        refine j_aload_n C 0 dX4_readLevel_32 rfl ?_
        refine j_callV (As := []) (rest := []) C vw4_77 (h_here_0 (b := b) (n := n) (k := k1) hPc (by omega) hn) ⟨10, 4, _, _, rfl, rfl, rfl⟩ rfl (Nat.le_of_ble_eq_true rfl) dX4_readLevel_33 (by omega) ?_
        rintro _ _ ⟨rfl, rfl⟩
        refine j_callS (As := [.int (bytF b n k1)]) (rest := []) C sw4_81 (h_levelOf) rfl (Nat.le_of_ble_eq_true rfl) dX4_readLevel_36 (by omega) ?_
        rintro _ _ ⟨rfl, rfl⟩
        have hlv5 := lvF_le (bytF b n k1)
        refine j_iload_n C 1 dX4_readLevel_39 rfl ?_
        refine j_icmp_ne C 111 dX4_readLevel_40 (by decide) (fun c40 => ?_) (fun c40 => ?_)
        · rw [nI_eq (by omega) (by omega)] at c40
          refine j_iconst C (v := (nI 1)) dX4_readLevel_111 (by decide) ?_
          refine j_zret C dX4_readLevel_112 (by decide) ?_
          rw [hEq, prs_no c40]
          exact ⟨_, _, rfl, bI1 rfl, hPc, hFc⟩
        · rw [nI_eq (by omega) (by omega)] at c40
          have hkl : k1 < n := byt_lt (b := b) (fun e => by rw [e, show lvF (-1) = 5 from by decide] at c40; omega)
          refine j_aload_n C 0 dX4_readLevel_43 rfl ?_
          refine j_callV (As := []) (rest := []) C vw4_77 (h_here_0 (b := b) (n := n) (k := k1) hPc (by omega) hn) ⟨10, 4, _, _, rfl, rfl, rfl⟩ rfl (Nat.le_of_ble_eq_true rfl) dX4_readLevel_44 (by omega) ?_
          rintro _ _ ⟨rfl, rfl⟩
          refine j_istore C [(4, .int (bytF b n k1)), (0, .ref (q 10)), (1, .int (nI lvl)), (2, .int (nI op)), (3, .int (nI i))] dX4_readLevel_47 (by decide) rfl ?_
          refine j_aload_n C 1 dX4_readLevel_49 rfl ?_
          refine j_dup C dX4_readLevel_50 rfl ?_
          refine j_get C (v := .int (Sc 18)) 10 5 rfl rfl inlC4 (by decide) kf4_33 rfl dX4_readLevel_51 ?_
          refine j_v (nI k1) hPc.1 ?_
          refine j_iconst C (v := (nI 1)) dX4_readLevel_54 (by decide) ?_
          refine j_iaddN C dX4_readLevel_55 ?_
          refine j_put C 10 5 rfl rfl inlC4 tyX4 tyX4_ok nmX4 (by decide) kf4_33 rfl (ty := .int) (by decide +kernel) rfl rfl (Nat.le_of_ble_eq_true rfl) dX4_readLevel_56 (upd Sc 18 (nI (k1 + 1)), Xc, va_up (va_up P 4 (q 11)) 9 (O.2.1 1)) rfl ?_
          refine j_aload_n C 1 dX4_readLevel_59 rfl ?_
          refine j_iload_n C 2 dX4_readLevel_60 rfl ?_
          refine j_iconst C (v := (nI 1)) dX4_readLevel_61 (by decide) ?_
          refine j_iaddN C dX4_readLevel_62 ?_
          refine j_iload_n C 3 dX4_readLevel_63 rfl ?_
          refine j_callVO (As := [.int (nI (lvl + 1)), .int (nI op)]) (rest := []) C hO vw4_66 ((IH F (by omega)) _ _ (lvl + 1) op (k1 + 1) cd1 (hPc.sk (k1 + 1)) (by omega) hop (by omega) (by omega) (by omega)) ⟨10, 4, _, _, rfl, rfl, rfl⟩ rfl (Nat.le_of_ble_eq_true rfl) dX4_readLevel_64 (by omega) ?_
          rintro r2 _ ⟨S2, X2, rfl, e2, hP2, hf2⟩
          obtain ⟨res2, hr2⟩ : ∃ x, x = prs b n 0 F (lvl + 1) false op (k1 + 1) cd1 := ⟨_, rfl⟩
          rw [← hr2] at e2 hP2
          have hpr2 := prs_pr (b := b) (n := n) (u := 0) F (lvl + 1) false op (k1 + 1) cd1 (by omega) (fun h => by cases h) (by omega)
          have hle2 := prs_len (b := b) (n := n) (u := 0) F (lvl + 1) false op (k1 + 1) cd1 (by omega) (fun h => by cases h) (by omega)
          have hE2 : prs b n 0 F (lvl + 1) false op (k1 + 1) cd1 = res2 := hr2.symm
          rw [hE2] at hpr2 hle2
          refine j_v (bI (res2.1 = true)) e2 ?_
          refine j_if_ne C 72 dX4_readLevel_67 (by decide) (fun c67 => ?_) (fun c67 => ?_)
          · replace c67 := bI_t c67
            refine j_aload_n C 1 dX4_readLevel_72 rfl ?_
            refine j_get C (v := .ref (q 19)) 10 1 rfl rfl inlC4 (by decide) kf4_14 rfl dX4_readLevel_73 ?_
            refine j_iload C 0 dX4_readLevel_76 rfl ?_
            refine j_ineg C dX4_readLevel_78 ?_
            refine j_callVNv (As := [.int (-(bytF b n k1))]) (rest := []) C vn4_85 (h_add_8 res2.2.2.length hP2.2.2.2.1 (by omega)) ⟨19, 8, _, _, rfl, rfl, rfl⟩ rfl (Nat.le_of_ble_eq_true rfl) dX4_readLevel_79 (by omega) ?_
            rintro _ rfl
            refine j_wC (κ' := (upd S2 27 (nI (res2.2.2.length + 1)), va_up X2 80 (upd (X2 80) res2.2.2.length (-(bytF b n k1))), va_up (va_up P 4 (q 11)) 9 (O.2.1 1))) rfl ?_
            refine j_iload C 0 dX4_readLevel_82 rfl ?_
            refine j_bipush C (v := (nI 60)) dX4_readLevel_84 (by decide) ?_
            refine j_icmp_eq C 103 dX4_readLevel_86 (by decide) (fun c86 => ?_) (fun c86 => ?_)
            · skip
              refine j_iconst C (v := (nI 1)) dX4_readLevel_103 (by decide) ?_
              refine j_zret C dX4_readLevel_104 (by decide) ?_
              obtain rfl : lvl = 2 := c40.symm.trans (lv_2.2 (Or.inl c86))
              rw [hEq, prs_l2 c40 (by rw [hE2]; exact c67), hE2]
              exact ⟨_, _, rfl, bI1 rfl, hP2.add _, (hf2.tr hFc.k).c⟩
            · skip
              refine j_iload C 0 dX4_readLevel_89 rfl ?_
              refine j_bipush C (v := (nI 61)) dX4_readLevel_91 (by decide) ?_
              refine j_icmp_eq C 103 dX4_readLevel_93 (by decide) (fun c93 => ?_) (fun c93 => ?_)
              · skip
                refine j_iconst C (v := (nI 1)) dX4_readLevel_103 (by decide) ?_
                refine j_zret C dX4_readLevel_104 (by decide) ?_
                obtain rfl : lvl = 2 := c40.symm.trans (lv_2.2 (Or.inr (Or.inl c93)))
                rw [hEq, prs_l2 c40 (by rw [hE2]; exact c67), hE2]
                exact ⟨_, _, rfl, bI1 rfl, hP2.add _, (hf2.tr hFc.k).c⟩
              · skip
                refine j_iload C 0 dX4_readLevel_96 rfl ?_
                refine j_bipush C (v := (nI 62)) dX4_readLevel_98 (by decide) ?_
                refine j_icmp_ne C 105 dX4_readLevel_100 (by decide) (fun c100 => ?_) (fun c100 => ?_)
                · skip
                  refine j_iinc C (v := (nI (i + 1))) 4 [(3, .int (nI (i + 1))), (4, .int (bytF b n k1)), (0, .ref (q 10)), (1, .int (nI lvl)), (2, .int (nI op))] dX4_readLevel_105 rfl (nI_1 _) (by decide) rfl ?_
                  refine j_goto C 26 dX4_readLevel_108 (by decide) ?_
                  have hl2 : ¬ lvl = 2 := fun e => (lv_2.1 (c40.trans e)).elim c86 (fun h => h.elim c93 c100)
                  have hlt2 := hpr2.2.2 rfl c67
                  refine j_L [2, 3, 4, 0] [(0, .ref (q 10)), (1, .int (nI lvl)), (2, .int (nI op)), (3, .int (nI (i + 1)))] rfl ?_
                  exact ih (i + 1, F, res2.2.1, res2.2.2 ++ [-(bytF b n k1)], _, _) ⟨by dsimp only; omega, hpr2.2.1, by dsimp only; omega, by dsimp only; omega, by dsimp only; rw [List.length_append, List.length_singleton]; omega, hP2.add _, (hf2.tr hFc.k).c, by dsimp only; rw [hEq, prs_lt c40 hl2 (by rw [hE2]; exact c67), hE2]⟩ (by dsimp only; omega)
                · skip
                  refine j_iconst C (v := (nI 1)) dX4_readLevel_103 (by decide) ?_
                  refine j_zret C dX4_readLevel_104 (by decide) ?_
                  obtain rfl : lvl = 2 := c40.symm.trans (lv_2.2 (Or.inr (Or.inr c100)))
                  rw [hEq, prs_l2 c40 (by rw [hE2]; exact c67), hE2]
                  exact ⟨_, _, rfl, bI1 rfl, hP2.add _, (hf2.tr hFc.k).c⟩
          · replace c67 := bI_f c67
            refine j_iconst C (v := (nI 0)) dX4_readLevel_70 (by decide) ?_
            refine j_zret C dX4_readLevel_71 (by decide) ?_
            rw [hEq, prs_lf c40 (bfal (by rw [hE2]; exact c67)), hE2]
            exact ⟨_, _, rfl, bI0 c67, hP2, hf2.tr hFc.k⟩
    · replace c19 := bI_f c19
      refine j_iconst C (v := (nI 0)) dX4_readLevel_22 (by decide) ?_
      refine j_zret C dX4_readLevel_23 (by decide) ?_
      rw [prs_uf (by omega) (bfal (by rw [hE1]; exact c19)), hE1]
      exact ⟨_, _, rfl, bI0 c19, hP1, hf1⟩
  · rw [nI_ltI (by omega) (by omega)] at c2
    refine j_aload_n C 0 dX4_readLevel_5 rfl ?_
    refine j_iload_n C 2 dX4_readLevel_6 rfl ?_
    refine j_callVO (As := [.int (nI op)]) (rest := []) C hO vw4_74 (hU S X op k cd hp hop hk hcd (by omega)) ⟨10, 4, _, _, rfl, rfl, rfl⟩ rfl (Nat.le_of_ble_eq_true rfl) dX4_readLevel_7 (by omega) ?_
    rintro r1 _ ⟨S1, X1, rfl, e1, hP1, hf1⟩
    obtain ⟨res1, hr1⟩ : ∃ x, x = prs b n 0 f 5 false op k cd := ⟨_, rfl⟩
    rw [← hr1] at e1 hP1
    have hpr1 := prs_pr (b := b) (n := n) (u := 0) f 5 false op k cd (by omega) (fun h => by cases h) (by omega)
    have hle1 := prs_len (b := b) (n := n) (u := 0) f 5 false op k cd (by omega) (fun h => by cases h) (by omega)
    have hE1 : prs b n 0 f 5 false op k cd = res1 := hr1.symm
    rw [hE1] at hpr1 hle1
    refine j_v (bI (res1.1 = true)) e1 ?_
    refine j_zret C dX4_readLevel_10 (bI_01 _) ?_
    obtain rfl : lvl = 5 := by omega
    rw [hE1]
    exact ⟨_, _, rfl, rfl, hP1, hf1⟩
theorem h_read_0 {O : Ou} {l : Launch} {D : va_G} {cI cG cW : ClassId} {q P : Nat → Nat} {b : Nat → Int32} {n : Nat} (hn : n ≤ 50) (hB : BY b n) (f : Nat) : PLV0 O l D cI cG cW q P b n f ∧ PUN0 O l D cI cG cW q P b n f := by
  induction f using Nat.strongRecOn with
  | _ f ih =>
    have hU := h_unit_0 hn hB f ih
    exact ⟨h_level_0 hn hB f (fun g hg => (ih g hg).1) hU, hU⟩
set_option maxHeartbeats 2000000 in
set_option maxRecDepth 20000 in
theorem h_here_1 {l : Launch} {D : va_G} {cI cG cW : ClassId} {q : Nat → Nat} {S : Nat → Int32} {X : Nat → Nat → Int32} {P : Nat → Nat} {O : Ou} {b : Nat → Int32} {n k : Nat} {cd : List Int32} (hp : CPst b n S X k cd) (hk : k ≤ n) (hn : n ≤ 50) : Ci l yX4_here cX4_here 1 (some .int) 1 D (tyL cI cG cW) (wC cI cG cW q) [.ref (q 10)] (S, X, va_up (va_up P 4 (q 11)) 9 (O.2.1 2)) (fun r τ => r = bytF b n k ∧ τ = (S, X, (va_up (va_up P 4 (q 11)) 9 (O.2.1 2)))) := by
  refine Ci.of (by decide) (Nat.le_of_ble_eq_true rfl) ?_
  intro p_ e_ s_ m_ b_ M_ c_ A_ C
  replace C : Cx _ _ _ _ _ _ _ _ RX4 _ _ _ _ := C
  refine j_L [0] [(0, .ref (q 10))] rfl ?_
  refine j_aload_n C 0 dX4_here_0 rfl ?_
  refine j_get C (v := .ref (q 11)) 10 3 rfl rfl inlC4 (by decide) kf4_24 rfl dX4_here_1 ?_
  refine j_aload_n C 0 dX4_here_4 rfl ?_
  refine j_get C (v := .int (S 18)) 10 5 rfl rfl inlC4 (by decide) kf4_33 rfl dX4_here_5 ?_
  refine j_v (nI k) hp.1 ?_
  refine j_callVN (As := [.int (nI k)]) (rest := []) C vn4_70 (h_has_0) ⟨11, 8, _, _, rfl, rfl, rfl⟩ rfl (Nat.le_of_ble_eq_true rfl) dX4_here_8 (by decide) ?_
  rintro _ _ ⟨rfl, rfl⟩
  refine j_v (bI (k < n)) (by rw [hp.2.1]; exact bI_c (has_c (by omega) (by omega))) ?_
  refine j_if_eq C 29 dX4_here_11 (by decide) (fun c11 => ?_) (fun c11 => ?_)
  · replace c11 := bI_f c11
    refine j_iconst C (v := (-1)) dX4_here_29 (by decide) ?_
    refine j_iret C dX4_here_30 ?_
    exact ⟨byt_f c11, rfl⟩
  · replace c11 := bI_t c11
    refine j_aload_n C 0 dX4_here_14 rfl ?_
    refine j_get C (v := .ref (q 11)) 10 3 rfl rfl inlC4 (by decide) kf4_24 rfl dX4_here_15 ?_
    refine j_getN C (v := .ref (q 72)) 11 0 rfl rfl inlC8 (by decide) kf4_56 rfl dX4_here_18 ?_
    refine j_aload_n C 0 dX4_here_21 rfl ?_
    refine j_get C (v := .int (S 18)) 10 5 rfl rfl inlC4 (by decide) kf4_33 rfl dX4_here_22 ?_
    refine j_v (nI k) hp.1 ?_
    refine j_ialdN C 72 0 rfl rfl k rfl (by omega) (by decide) dX4_here_25 ?_
    refine j_v (b k) (hp.2.2.1 k (by omega)) ?_
    refine j_goto C 30 dX4_here_26 (by decide) ?_
    refine j_iret C dX4_here_30 ?_
    exact ⟨byt_t c11, rfl⟩
set_option maxHeartbeats 2000000 in
set_option maxRecDepth 20000 in
theorem h_readNumber_1 {l : Launch} {D : va_G} {cI cG cW : ClassId} {q : Nat → Nat} {S : Nat → Int32} {X : Nat → Nat → Int32} {P : Nat → Nat} {O : Ou} {b : Nat → Int32} {n k : Nat} {cd : List Int32} (hp : CPst b n S X k cd) (hk : k ≤ n) (hn : n ≤ 50) (hcd : cd.length ≤ k) (hdg : inn (bytF b n k) 48 57) : Cv l yX4_readNumber cX4_readNumber 3 none 3 D (tyL cI cG cW) (wC cI cG cW q) [.ref (q 10)] (S, X, va_up (va_up P 4 (q 11)) 9 (O.2.1 2)) (fun τ => ∃ S' X', τ = (S', X', (va_up (va_up P 4 (q 11)) 9 (O.2.1 2))) ∧ CPst b n S' X' (numF b n 4 k 0).1 (cd ++ [(numF b n 4 k 0).2]) ∧ FrP S' X' S X) := by
  refine Cv.of (by decide) (Nat.le_of_ble_eq_true rfl) ?_
  intro p_ e_ s_ m_ b_ M_ c_ A_ C
  replace C : Cx _ _ _ _ _ _ _ _ RX4 _ _ _ _ := C
  refine j_L [0] [(0, .ref (q 10))] rfl ?_
  refine j_iconst C (v := (nI 0)) dX4_readNumber_0 (by decide) ?_
  refine j_istore_n C [(1, .int (nI 0)), (0, .ref (q 10))] dX4_readNumber_1 (by decide) rfl ?_
  refine j_iconst C (v := (nI 0)) dX4_readNumber_2 (by decide) ?_
  refine j_istore_n C [(2, .int (nI 0)), (1, .int (nI 0)), (0, .ref (q 10))] dX4_readNumber_3 (by decide) rfl ?_
  refine j_L [2, 1, 0] [(0, .ref (q 10)), (1, .int (nI 0)), (2, .int (nI 0))] rfl ?_
  refine j_loop (X := Nat × Nat × Int32) (fun (z : Nat × Nat × Int32) => match z with | (i, k1, v) => i ≤ 4 ∧ k ≤ k1 ∧ k1 ≤ n ∧ (0 < i → k < k1) ∧ numF b n (4 - i) k1 v = numF b n 4 k 0) (fun (z : Nat × Nat × Int32) => match z with | (i, k1, v) => 4 - i) (fun (z : Nat × Nat × Int32) => match z with | (i, k1, v) => (upd S 18 (nI k1), X, va_up (va_up P 4 (q 11)) 9 (O.2.1 2))) (fun (z : Nat × Nat × Int32) => match z with | (i, k1, v) => [(0, .ref (q 10)), (1, .int v), (2, .int (nI i))]) (0, k, nI 0) (⟨Nat.zero_le _, Nat.le_refl _, hk, fun h => absurd h (Nat.lt_irrefl _), rfl⟩) (by show _ = (upd S 18 (nI k), X, (va_up (va_up P 4 (q 11)) 9 (O.2.1 2))); rw [upd_self hp.1]) rfl ?_
  rintro ⟨i, k1, v⟩ ⟨hi, hk0, hk1, hlt, he⟩ ih
  try dsimp only at ih ⊢
  refine j_iload_n C 2 dX4_readNumber_4 rfl ?_
  refine j_iconst C (v := (nI 4)) dX4_readNumber_5 (by decide) ?_
  refine j_icmp_ge C 48 dX4_readNumber_6 (by decide) (fun c6 => ?_) (fun c6 => ?_)
  · rw [nI_leI (by omega) (by omega)] at c6
    have hk2 : k < k1 := by
      exact hlt (by omega)
    refine j_aload_n C 0 dX4_readNumber_48 rfl ?_
    refine j_get C (v := .ref (q 19)) 10 1 rfl rfl inlC4 (by decide) kf4_14 rfl dX4_readNumber_49 ?_
    refine j_iload_n C 1 dX4_readNumber_52 rfl ?_
    refine j_callVNv (As := [.int v]) (rest := []) C vn4_85 (h_add_8 cd.length ((pk_un (by omega)).trans hp.2.2.2.1) (by omega)) ⟨19, 8, _, _, rfl, rfl, rfl⟩ rfl (Nat.le_of_ble_eq_true rfl) dX4_readNumber_53 (by decide) ?_
    rintro _ rfl
    refine j_wC (κ' := (upd (upd S 18 (nI k1)) 27 (nI (cd.length + 1)), va_up X 80 (upd (X 80) cd.length v), va_up (va_up P 4 (q 11)) 9 (O.2.1 2))) rfl ?_
    refine j_vret C dX4_readNumber_56 ?_
    have hend : numF b n 4 k 0 = (k1, v) := by
      rw [← he, show 4 - i = 0 by omega]; rfl
    rw [hend]
    have hq := ((hp.sk k1).add v)
    exact ⟨_, _, rfl, ⟨(pk_un (by omega)).trans pk_us, (pk_un (by omega)).trans ((pk_un (by omega)).trans hp.2.1), hq.2.2.1, hq.2.2.2.1, hq.2.2.2.2⟩, FrP.rf.k.c⟩
  · rw [nI_leI (by omega) (by omega)] at c6
    refine j_aload_n C 0 dX4_readNumber_9 rfl ?_
    refine j_callV (As := []) (rest := []) C vw4_77 (h_here_1 (b := b) (n := n) (k := k1) (hp.sk k1) (by omega) hn) ⟨10, 4, _, _, rfl, rfl, rfl⟩ rfl (Nat.le_of_ble_eq_true rfl) dX4_readNumber_10 (by decide) ?_
    rintro _ _ ⟨rfl, rfl⟩
    refine j_callS (As := [.int (bytF b n k1)]) (rest := []) C sw4_88 (h_isDigit) rfl (Nat.le_of_ble_eq_true rfl) dX4_readNumber_13 (by decide) ?_
    rintro _ _ ⟨rfl, rfl⟩
    refine j_if_eq C 48 dX4_readNumber_16 (by decide) (fun c16 => ?_) (fun c16 => ?_)
    · replace c16 := bI_f c16
      have hk2 : k < k1 := by
        have hx := (numF_pr (b := b) (n := n) 4 k 0 hk).2.2 hdg (by omega)
        rw [← he, show 4 - i = (3 - i) + 1 by omega, numF, if_neg c16] at hx
        exact hx
      refine j_aload_n C 0 dX4_readNumber_48 rfl ?_
      refine j_get C (v := .ref (q 19)) 10 1 rfl rfl inlC4 (by decide) kf4_14 rfl dX4_readNumber_49 ?_
      refine j_iload_n C 1 dX4_readNumber_52 rfl ?_
      refine j_callVNv (As := [.int v]) (rest := []) C vn4_85 (h_add_8 cd.length ((pk_un (by omega)).trans hp.2.2.2.1) (by omega)) ⟨19, 8, _, _, rfl, rfl, rfl⟩ rfl (Nat.le_of_ble_eq_true rfl) dX4_readNumber_53 (by decide) ?_
      rintro _ rfl
      refine j_wC (κ' := (upd (upd S 18 (nI k1)) 27 (nI (cd.length + 1)), va_up X 80 (upd (X 80) cd.length v), va_up (va_up P 4 (q 11)) 9 (O.2.1 2))) rfl ?_
      refine j_vret C dX4_readNumber_56 ?_
      have hend : numF b n 4 k 0 = (k1, v) := by
        rw [← he, show 4 - i = (3 - i) + 1 by omega, numF, if_neg c16]
      rw [hend]
      have hq := ((hp.sk k1).add v)
      exact ⟨_, _, rfl, ⟨(pk_un (by omega)).trans pk_us, (pk_un (by omega)).trans ((pk_un (by omega)).trans hp.2.1), hq.2.2.1, hq.2.2.2.1, hq.2.2.2.2⟩, FrP.rf.k.c⟩
    · replace c16 := bI_t c16
      have hkn : k1 < n := byt_lt (b := b) (fun e => by rw [e] at c16; exact absurd c16.1 (by decide))
      refine j_iload_n C 1 dX4_readNumber_19 rfl ?_
      refine j_bipush C (v := (nI 10)) dX4_readNumber_20 (by decide) ?_
      refine j_imul C dX4_readNumber_22 ?_
      refine j_aload_n C 0 dX4_readNumber_23 rfl ?_
      refine j_callV (As := []) (rest := [.int (v * (nI 10))]) C vw4_77 (h_here_1 (b := b) (n := n) (k := k1) (hp.sk k1) (by omega) hn) ⟨10, 4, _, _, rfl, rfl, rfl⟩ rfl (Nat.le_of_ble_eq_true rfl) dX4_readNumber_24 (by decide) ?_
      rintro _ _ ⟨rfl, rfl⟩
      refine j_iadd C dX4_readNumber_27 ?_
      refine j_bipush C (v := (nI 48)) dX4_readNumber_28 (by decide) ?_
      refine j_isub C dX4_readNumber_30 ?_
      refine j_istore_n C [(1, .int (((v * (nI 10)) + (bytF b n k1)) - (nI 48))), (0, .ref (q 10)), (2, .int (nI i))] dX4_readNumber_31 (by decide) rfl ?_
      refine j_aload_n C 1 dX4_readNumber_32 rfl ?_
      refine j_dup C dX4_readNumber_33 rfl ?_
      refine j_get C (v := .int (nI k1)) 10 5 rfl rfl inlC4 (by decide) kf4_33 rfl dX4_readNumber_34 ?_
      refine j_iconst C (v := (nI 1)) dX4_readNumber_37 (by decide) ?_
      refine j_iaddN C dX4_readNumber_38 ?_
      refine j_put C 10 5 rfl rfl inlC4 tyX4 tyX4_ok nmX4 (by decide) kf4_33 rfl (ty := .int) (by decide +kernel) rfl rfl (Nat.le_of_ble_eq_true rfl) dX4_readNumber_39 (upd S 18 (nI (k1 + 1)), X, va_up (va_up P 4 (q 11)) 9 (O.2.1 2)) rfl ?_
      refine j_iinc C (v := (nI (i + 1))) 2 [(2, .int (nI (i + 1))), (1, .int (((v * (nI 10)) + (bytF b n k1)) - (nI 48))), (0, .ref (q 10))] dX4_readNumber_42 rfl (nI_1 _) (by decide) rfl ?_
      refine j_goto C 4 dX4_readNumber_45 (by decide) ?_
      refine j_L [2, 1, 0] [(0, .ref (q 10)), (1, .int (((v * (nI 10)) + (bytF b n k1)) - (nI 48))), (2, .int (nI (i + 1)))] rfl ?_
      exact ih (i + 1, k1 + 1, ((v * (nI 10)) + (bytF b n k1)) - (nI 48)) (⟨by dsimp only; omega, by dsimp only; omega, by dsimp only; omega, fun _ => by dsimp only; omega, by
      dsimp only
      rw [← he, show 4 - i = (4 - (i + 1)) + 1 by omega, numF, if_pos c16, Int32.mul_comm v (nI 10)]⟩) (by dsimp only; omega)
def PLV1 (O : Ou) (l : Launch) (D : va_G) (cI cG cW : ClassId) (q P : Nat → Nat) (b : Nat → Int32) (n f : Nat) : Prop := ∀ (S : Nat → Int32) (X : Nat → Nat → Int32) (lvl op k : Nat) (cd : List Int32), CPst b n S X k cd → lvl ≤ 5 → op ≤ 5 → k ≤ n → cd.length ≤ k → 8 * (n - k) + (6 - lvl) ≤ f → CiO O l yX4_readLevel cX4_readLevel 5 (some .boolean) (8 * (5 - op) + 14 - lvl) D (tyL cI cG cW) (wC cI cG cW q) [.ref (q 10), .int (nI lvl), .int (nI op)] (S, X, (va_up (va_up P 4 (q 11)) 9 (O.2.1 2))) (PRr b n (va_up (va_up P 4 (q 11)) 9 (O.2.1 2)) S X (prs b n 1 f lvl false op k cd))
def PUN1 (O : Ou) (l : Launch) (D : va_G) (cI cG cW : ClassId) (q P : Nat → Nat) (b : Nat → Int32) (n f : Nat) : Prop := ∀ (S : Nat → Int32) (X : Nat → Nat → Int32) (op k : Nat) (cd : List Int32), CPst b n S X k cd → op ≤ 5 → k ≤ n → cd.length ≤ k → 8 * (n - k) + 1 ≤ f → CiO O l yX4_readUnit cX4_readUnit 4 (some .boolean) (8 * (5 - op) + 8) D (tyL cI cG cW) (wC cI cG cW q) [.ref (q 10), .int (nI op)] (S, X, (va_up (va_up P 4 (q 11)) 9 (O.2.1 2))) (PRr b n (va_up (va_up P 4 (q 11)) 9 (O.2.1 2)) S X (prs b n 1 f 5 false op k cd))
def POP1 (O : Ou) (l : Launch) (D : va_G) (cI cG cW : ClassId) (q P : Nat → Nat) (b : Nat → Int32) (n f : Nat) : Prop := ∀ (S : Nat → Int32) (X : Nat → Nat → Int32) (op k : Nat) (cd : List Int32), CPst b n S X k cd → op ≤ 5 → k < n → cd.length ≤ k → 8 * (n - (k + 1)) + 6 ≤ f → (CiO O l yX4_readOpened cX4_readOpened 4 (some .boolean) (8 * (5 - op) + 15) D (tyL cI cG cW) (wC cI cG cW q) [.ref (q 10), .int (nI 33), .int (nI op)] (S, X, (va_up (va_up P 4 (q 11)) 9 (O.2.1 2))) (PRr b n (va_up (va_up P 4 (q 11)) 9 (O.2.1 2)) S X ((prs b n 1 f 5 false op (k + 1) cd).1, (prs b n 1 f 5 false op (k + 1) cd).2.1, (prs b n 1 f 5 false op (k + 1) cd).2.2 ++ [-33]))) ∧ (CiO O l yX4_readOpened cX4_readOpened 4 (some .boolean) (8 * (5 - op) + 15) D (tyL cI cG cW) (wC cI cG cW q) [.ref (q 10), .int (nI 40), .int (nI op)] (S, X, (va_up (va_up P 4 (q 11)) 9 (O.2.1 2))) (PRr b n (va_up (va_up P 4 (q 11)) 9 (O.2.1 2)) S X (if (prs b n 1 f 0 false op (k + 1) cd).1 = true ∧ bytF b n (prs b n 1 f 0 false op (k + 1) cd).2.1 = 41 then (true, (prs b n 1 f 0 false op (k + 1) cd).2.1 + 1, (prs b n 1 f 0 false op (k + 1) cd).2.2) else (false, (prs b n 1 f 0 false op (k + 1) cd).2))))
set_option maxHeartbeats 2000000 in
set_option maxRecDepth 20000 in
theorem h_opened33_1 {O : Ou} {l : Launch} {D : va_G} {cI cG cW : ClassId} {q P : Nat → Nat} {b : Nat → Int32} {n : Nat} (hn : n ≤ 50) (hB : BY b n) {f : Nat} (hL : PLV1 O l D cI cG cW q P b n f) (hU : PUN1 O l D cI cG cW q P b n f) : ∀ (S : Nat → Int32) (X : Nat → Nat → Int32) (op k : Nat) (cd : List Int32), CPst b n S X k cd → op ≤ 5 → k < n → cd.length ≤ k → 8 * (n - (k + 1)) + 6 ≤ f → CiO O l yX4_readOpened cX4_readOpened 4 (some .boolean) (8 * (5 - op) + 15) D (tyL cI cG cW) (wC cI cG cW q) [.ref (q 10), .int (nI 33), .int (nI op)] (S, X, (va_up (va_up P 4 (q 11)) 9 (O.2.1 2))) (PRr b n (va_up (va_up P 4 (q 11)) 9 (O.2.1 2)) S X ((prs b n 1 f 5 false op (k + 1) cd).1, (prs b n 1 f 5 false op (k + 1) cd).2.1, (prs b n 1 f 5 false op (k + 1) cd).2.2 ++ [-33])) := by
  intro S X op k cd hp hop hk hcd hf
  refine CiO.of (by decide) (Nat.le_of_ble_eq_true rfl) ?_
  intro p_ e_ s_ m_ b_ M_ c_ A_ C hO
  replace C : Cx _ _ _ _ _ _ _ _ RX4 _ _ _ _ := C
  refine j_L [0, 1, 2] [(0, .ref (q 10)), (1, .int (nI 33)), (2, .int (nI op))] rfl ?_
  refine j_aload_n C 0 dX4_readOpened_0 rfl ?_
  refine j_dup C dX4_readOpened_1 rfl ?_
  refine j_get C (v := .int (S 18)) 10 5 rfl rfl inlC4 (by decide) kf4_33 rfl dX4_readOpened_2 ?_
  refine j_v (nI k) hp.1 ?_
  refine j_iconst C (v := (nI 1)) dX4_readOpened_5 (by decide) ?_
  refine j_iaddN C dX4_readOpened_6 ?_
  refine j_put C 10 5 rfl rfl inlC4 tyX4 tyX4_ok nmX4 (by decide) kf4_33 rfl (ty := .int) (by decide +kernel) rfl rfl (Nat.le_of_ble_eq_true rfl) dX4_readOpened_7 (upd S 18 (nI (k + 1)), X, va_up (va_up P 4 (q 11)) 9 (O.2.1 2)) rfl ?_
  refine j_iload_n C 1 dX4_readOpened_10 rfl ?_
  refine j_bipush C (v := (nI 33)) dX4_readOpened_11 (by decide) ?_
  refine j_icmp_ne C 33 dX4_readOpened_13 (by decide) (fun c13 => ?_) (fun c13 => ?_)
  · rw [nI_eq (by omega) (by omega)] at c13
    exfalso; omega
  · rw [nI_eq (by omega) (by omega)] at c13
    refine j_aload_n C 0 dX4_readOpened_16 rfl ?_
    refine j_iload_n C 2 dX4_readOpened_17 rfl ?_
    refine j_callVO (As := [.int (nI op)]) (rest := []) C hO vw4_74 (hU _ _ op (k + 1) cd (hp.sk (k + 1)) hop (by omega) (by omega) (by omega)) ⟨10, 4, _, _, rfl, rfl, rfl⟩ rfl (Nat.le_of_ble_eq_true rfl) dX4_readOpened_18 (by omega) ?_
    rintro r1 _ ⟨S1, X1, rfl, e1, hP1, hf1⟩
    obtain ⟨res1, hr1⟩ : ∃ x, x = prs b n 1 f 5 false op (k + 1) cd := ⟨_, rfl⟩
    rw [← hr1] at e1 hP1
    have hpr1 := prs_pr (b := b) (n := n) (u := 1) f 5 false op (k + 1) cd (by omega) (fun h => by cases h) (by omega)
    have hle1 := prs_len (b := b) (n := n) (u := 1) f 5 false op (k + 1) cd (by omega) (fun h => by cases h) (by omega)
    have hE1 : prs b n 1 f 5 false op (k + 1) cd = res1 := hr1.symm
    rw [hE1] at hpr1 hle1
    refine j_v (bI (res1.1 = true)) e1 ?_
    refine j_istore_n C [(3, .int (bI (res1.1 = true))), (0, .ref (q 10)), (1, .int (nI 33)), (2, .int (nI op))] dX4_readOpened_21 (by decide) rfl ?_
    refine j_aload_n C 1 dX4_readOpened_22 rfl ?_
    refine j_get C (v := .ref (q 19)) 10 1 rfl rfl inlC4 (by decide) kf4_14 rfl dX4_readOpened_23 ?_
    refine j_bipush C (v := (-33)) dX4_readOpened_26 (by decide) ?_
    refine j_callVNv (As := [.int (-33)]) (rest := []) C vn4_85 (h_add_8 res1.2.2.length hP1.2.2.2.1 (by omega)) ⟨19, 8, _, _, rfl, rfl, rfl⟩ rfl (Nat.le_of_ble_eq_true rfl) dX4_readOpened_28 (by omega) ?_
    rintro _ rfl
    refine j_wC (κ' := (upd S1 27 (nI (res1.2.2.length + 1)), va_up X1 80 (upd (X1 80) res1.2.2.length (-33)), va_up (va_up P 4 (q 11)) 9 (O.2.1 2))) rfl ?_
    refine j_iload_n C 0 dX4_readOpened_31 rfl ?_
    refine j_zret C dX4_readOpened_32 (bI_01 _) ?_
    rw [hE1]
    exact ⟨_, _, rfl, rfl, hP1.add (-33), (hf1.tr FrP.rf.k).c⟩
set_option maxHeartbeats 2000000 in
set_option maxRecDepth 20000 in
theorem h_opened40_1 {O : Ou} {l : Launch} {D : va_G} {cI cG cW : ClassId} {q P : Nat → Nat} {b : Nat → Int32} {n : Nat} (hn : n ≤ 50) (hB : BY b n) {f : Nat} (hL : PLV1 O l D cI cG cW q P b n f) (hU : PUN1 O l D cI cG cW q P b n f) : ∀ (S : Nat → Int32) (X : Nat → Nat → Int32) (op k : Nat) (cd : List Int32), CPst b n S X k cd → op ≤ 5 → k < n → cd.length ≤ k → 8 * (n - (k + 1)) + 6 ≤ f → CiO O l yX4_readOpened cX4_readOpened 4 (some .boolean) (8 * (5 - op) + 15) D (tyL cI cG cW) (wC cI cG cW q) [.ref (q 10), .int (nI 40), .int (nI op)] (S, X, (va_up (va_up P 4 (q 11)) 9 (O.2.1 2))) (PRr b n (va_up (va_up P 4 (q 11)) 9 (O.2.1 2)) S X (if (prs b n 1 f 0 false op (k + 1) cd).1 = true ∧ bytF b n (prs b n 1 f 0 false op (k + 1) cd).2.1 = 41 then (true, (prs b n 1 f 0 false op (k + 1) cd).2.1 + 1, (prs b n 1 f 0 false op (k + 1) cd).2.2) else (false, (prs b n 1 f 0 false op (k + 1) cd).2))) := by
  intro S X op k cd hp hop hk hcd hf
  refine CiO.of (by decide) (Nat.le_of_ble_eq_true rfl) ?_
  intro p_ e_ s_ m_ b_ M_ c_ A_ C hO
  replace C : Cx _ _ _ _ _ _ _ _ RX4 _ _ _ _ := C
  refine j_L [0, 1, 2] [(0, .ref (q 10)), (1, .int (nI 40)), (2, .int (nI op))] rfl ?_
  refine j_aload_n C 0 dX4_readOpened_0 rfl ?_
  refine j_dup C dX4_readOpened_1 rfl ?_
  refine j_get C (v := .int (S 18)) 10 5 rfl rfl inlC4 (by decide) kf4_33 rfl dX4_readOpened_2 ?_
  refine j_v (nI k) hp.1 ?_
  refine j_iconst C (v := (nI 1)) dX4_readOpened_5 (by decide) ?_
  refine j_iaddN C dX4_readOpened_6 ?_
  refine j_put C 10 5 rfl rfl inlC4 tyX4 tyX4_ok nmX4 (by decide) kf4_33 rfl (ty := .int) (by decide +kernel) rfl rfl (Nat.le_of_ble_eq_true rfl) dX4_readOpened_7 (upd S 18 (nI (k + 1)), X, va_up (va_up P 4 (q 11)) 9 (O.2.1 2)) rfl ?_
  refine j_iload_n C 1 dX4_readOpened_10 rfl ?_
  refine j_bipush C (v := (nI 33)) dX4_readOpened_11 (by decide) ?_
  refine j_icmp_ne C 33 dX4_readOpened_13 (by decide) (fun c13 => ?_) (fun c13 => ?_)
  · rw [nI_eq (by omega) (by omega)] at c13
    refine j_aload_n C 0 dX4_readOpened_33 rfl ?_
    refine j_iconst C (v := (nI 0)) dX4_readOpened_34 (by decide) ?_
    refine j_iload_n C 2 dX4_readOpened_35 rfl ?_
    refine j_callVO (As := [.int (nI 0), .int (nI op)]) (rest := []) C hO vw4_66 (hL _ _ 0 op (k + 1) cd (hp.sk (k + 1)) (by omega) hop (by omega) (by omega) (by omega)) ⟨10, 4, _, _, rfl, rfl, rfl⟩ rfl (Nat.le_of_ble_eq_true rfl) dX4_readOpened_36 (by omega) ?_
    rintro r1 _ ⟨S1, X1, rfl, e1, hP1, hf1⟩
    obtain ⟨res1, hr1⟩ : ∃ x, x = prs b n 1 f 0 false op (k + 1) cd := ⟨_, rfl⟩
    rw [← hr1] at e1 hP1
    have hpr1 := prs_pr (b := b) (n := n) (u := 1) f 0 false op (k + 1) cd (by omega) (fun h => by cases h) (by omega)
    have hle1 := prs_len (b := b) (n := n) (u := 1) f 0 false op (k + 1) cd (by omega) (fun h => by cases h) (by omega)
    have hE1 : prs b n 1 f 0 false op (k + 1) cd = res1 := hr1.symm
    rw [hE1] at hpr1 hle1
    refine j_v (bI (res1.1 = true)) e1 ?_
    refine j_if_eq C 51 dX4_readOpened_39 (by decide) (fun c39 => ?_) (fun c39 => ?_)
    · replace c39 := bI_f c39
      refine j_iconst C (v := (nI 0)) dX4_readOpened_51 (by decide) ?_
      refine j_zret C dX4_readOpened_52 (by decide) ?_
      rw [hE1]
      rw [if_neg (fun h => c39 h.1)]
      exact ⟨_, _, rfl, bI0 (fun h => by cases h), hP1, hf1.tr FrP.rf.k⟩
    · replace c39 := bI_t c39
      refine j_aload_n C 0 dX4_readOpened_42 rfl ?_
      refine j_callV (As := []) (rest := []) C vw4_77 (h_here_1 (b := b) (n := n) (k := res1.2.1) hP1 (by omega) hn) ⟨10, 4, _, _, rfl, rfl, rfl⟩ rfl (Nat.le_of_ble_eq_true rfl) dX4_readOpened_43 (by omega) ?_
      rintro _ _ ⟨rfl, rfl⟩
      refine j_bipush C (v := (nI 41)) dX4_readOpened_46 (by decide) ?_
      refine j_icmp_eq C 53 dX4_readOpened_48 (by decide) (fun c48 => ?_) (fun c48 => ?_)
      · skip
        refine j_aload_n C 0 dX4_readOpened_53 rfl ?_
        refine j_dup C dX4_readOpened_54 rfl ?_
        refine j_get C (v := .int (S1 18)) 10 5 rfl rfl inlC4 (by decide) kf4_33 rfl dX4_readOpened_55 ?_
        refine j_v (nI res1.2.1) hP1.1 ?_
        refine j_iconst C (v := (nI 1)) dX4_readOpened_58 (by decide) ?_
        refine j_iaddN C dX4_readOpened_59 ?_
        refine j_put C 10 5 rfl rfl inlC4 tyX4 tyX4_ok nmX4 (by decide) kf4_33 rfl (ty := .int) (by decide +kernel) rfl rfl (Nat.le_of_ble_eq_true rfl) dX4_readOpened_60 (upd S1 18 (nI (res1.2.1 + 1)), X1, va_up (va_up P 4 (q 11)) 9 (O.2.1 2)) rfl ?_
        refine j_iconst C (v := (nI 1)) dX4_readOpened_63 (by decide) ?_
        refine j_zret C dX4_readOpened_64 (by decide) ?_
        rw [hE1]
        rw [if_pos ⟨c39, c48⟩]
        exact ⟨_, _, rfl, bI1 rfl, hP1.sk (res1.2.1 + 1), (hf1.tr FrP.rf.k).k⟩
      · skip
        refine j_iconst C (v := (nI 0)) dX4_readOpened_51 (by decide) ?_
        refine j_zret C dX4_readOpened_52 (by decide) ?_
        rw [hE1]
        rw [if_neg (fun h => c48 h.2)]
        exact ⟨_, _, rfl, bI0 (fun h => by cases h), hP1, hf1.tr FrP.rf.k⟩
  · rw [nI_eq (by omega) (by omega)] at c13
    exfalso; omega
theorem h_opened_1 {O : Ou} {l : Launch} {D : va_G} {cI cG cW : ClassId} {q P : Nat → Nat} {b : Nat → Int32} {n : Nat} (hn : n ≤ 50) (hB : BY b n) {f : Nat} (hL : PLV1 O l D cI cG cW q P b n f) (hU : PUN1 O l D cI cG cW q P b n f) : POP1 O l D cI cG cW q P b n f := fun S X op k cd hp hop hk hcd hf => ⟨h_opened33_1 hn hB hL hU S X op k cd hp hop hk hcd hf, h_opened40_1 hn hB hL hU S X op k cd hp hop hk hcd hf⟩
set_option maxHeartbeats 2000000 in
set_option maxRecDepth 20000 in
theorem h_unit_1 {O : Ou} {l : Launch} {D : va_G} {cI cG cW : ClassId} {q P : Nat → Nat} {b : Nat → Int32} {n : Nat} (hn : n ≤ 50) (hB : BY b n) (f : Nat) (IH : ∀ g, g < f → PLV1 O l D cI cG cW q P b n g ∧ PUN1 O l D cI cG cW q P b n g) : PUN1 O l D cI cG cW q P b n f := by
  intro S X op k cd hp hop hk hcd hf
  obtain ⟨f, rfl⟩ : ∃ g, f = g + 1 := ⟨f - 1, by omega⟩
  have hOp : POP1 O l D cI cG cW q P b n f := h_opened_1 hn hB (IH f (by omega)).1 (IH f (by omega)).2
  refine CiO.of (by decide) (Nat.le_of_ble_eq_true rfl) ?_
  intro p_ e_ s_ m_ b_ M_ c_ A_ C hO
  replace C : Cx _ _ _ _ _ _ _ _ RX4 _ _ _ _ := C
  refine j_L [0, 1] [(0, .ref (q 10)), (1, .int (nI op))] rfl ?_
  refine j_aload_n C 0 dX4_readUnit_0 rfl ?_
  refine j_callV (As := []) (rest := []) C vw4_77 (h_here_1 (b := b) (n := n) (k := k) hp (by omega) hn) ⟨10, 4, _, _, rfl, rfl, rfl⟩ rfl (Nat.le_of_ble_eq_true rfl) dX4_readUnit_1 (by omega) ?_
  rintro _ _ ⟨rfl, rfl⟩
  refine j_istore_n C [(2, .int (bytF b n k)), (0, .ref (q 10)), (1, .int (nI op))] dX4_readUnit_4 (by decide) rfl ?_
  refine j_iload_n C 0 dX4_readUnit_5 rfl ?_
  refine j_callS (As := [.int (bytF b n k)]) (rest := []) C sw4_88 (h_isDigit) rfl (Nat.le_of_ble_eq_true rfl) dX4_readUnit_6 (by omega) ?_
  rintro _ _ ⟨rfl, rfl⟩
  refine j_if_eq C 18 dX4_readUnit_9 (by decide) (fun c9 => ?_) (fun c9 => ?_)
  · replace c9 := bI_f c9
    refine j_iload_n C 0 dX4_readUnit_18 rfl ?_
    refine j_bipush C (v := (nI 33)) dX4_readUnit_19 (by decide) ?_
    refine j_icmp_eq C 30 dX4_readUnit_21 (by decide) (fun c21 => ?_) (fun c21 => ?_)
    · skip
      refine j_iload_n C 2 dX4_readUnit_30 rfl ?_
      refine j_iconst C (v := (nI 5)) dX4_readUnit_31 (by decide) ?_
      refine j_icmp_ge C 50 dX4_readUnit_32 (by decide) (fun c32 => ?_) (fun c32 => ?_)
      · rw [nI_leI (by omega) (by omega)] at c32
        refine j_iconst C (v := (nI 0)) dX4_readUnit_50 (by decide) ?_
        refine j_zret C dX4_readUnit_51 (by decide) ?_
        rw [prs_full c9 (Or.inl c21) (by omega)]
        exact ⟨_, _, rfl, bI0 (fun h => by cases h), hp, FrP.rf⟩
      · rw [nI_leI (by omega) (by omega)] at c32
        refine j_aload_n C 1 dX4_readUnit_35 rfl ?_
        refine j_iload_n C 0 dX4_readUnit_36 rfl ?_
        refine j_iload_n C 2 dX4_readUnit_37 rfl ?_
        refine j_iconst C (v := (nI 1)) dX4_readUnit_38 (by decide) ?_
        refine j_iaddN C dX4_readUnit_39 ?_
        have hkl : k < n := byt_lt (b := b) (by rw [c21]; decide)
        refine j_callVO (As := [.int (bytF b n k), .int (nI (op + 1))]) (rest := []) C hO vw4_94 (by rw [c21]; exact (hOp S X (op + 1) k cd hp (by omega) hkl hcd (by omega)).1) ⟨10, 4, _, _, rfl, rfl, rfl⟩ rfl (Nat.le_of_ble_eq_true rfl) dX4_readUnit_40 (by omega) ?_
        rintro r1 _ ⟨S1, X1, rfl, e1, hP1, hf1⟩
        have hpe := prs_not (u := 1) (f := f) (op := op) (code := cd) c9 c21 (by omega)
        rw [← hpe] at e1 hP1
        refine j_v (bI ((prs b n 1 (f + 1) 5 false op k cd).1 = true)) e1 ?_
        refine j_if_eq C 50 dX4_readUnit_43 (by decide) (fun c43 => ?_) (fun c43 => ?_)
        · replace c43 := bI_f c43
          refine j_iconst C (v := (nI 0)) dX4_readUnit_50 (by decide) ?_
          refine j_zret C dX4_readUnit_51 (by decide) ?_
          exact ⟨_, _, rfl, bI0 c43, hP1, hf1⟩
        · replace c43 := bI_t c43
          refine j_iconst C (v := (nI 1)) dX4_readUnit_46 (by decide) ?_
          refine j_goto C 51 dX4_readUnit_47 (by decide) ?_
          refine j_zret C dX4_readUnit_51 (by decide) ?_
          exact ⟨_, _, rfl, bI1 c43, hP1, hf1⟩
    · skip
      refine j_iload_n C 0 dX4_readUnit_24 rfl ?_
      refine j_bipush C (v := (nI 40)) dX4_readUnit_25 (by decide) ?_
      refine j_icmp_ne C 52 dX4_readUnit_27 (by decide) (fun c27 => ?_) (fun c27 => ?_)
      · skip
        refine j_iload_n C 0 dX4_readUnit_52 rfl ?_
        refine j_if_ge C 60 dX4_readUnit_53 (by decide) (fun c53 => ?_) (fun c53 => ?_)
        · skip
          have hkl : k < n := by
            by_cases h : k < n
            · exact h
            · exfalso; rw [← byt_f h] at c53; exact absurd c53 (by decide)
          obtain ⟨by_, hby, eby⟩ := hB k hkl
          have ebt : bytF b n k = nI by_ := (byt_t hkl).symm.trans eby
          refine j_aload_n C 1 dX4_readUnit_60 rfl ?_
          refine j_get C (v := .ref (O.2.1 2)) 10 4 rfl rfl inlC4 (by decide) kf4_29 rfl dX4_readUnit_61 ?_
          refine j_iload_n C 0 dX4_readUnit_64 rfl ?_
          refine j_i2c C dX4_readUnit_65 ?_
          refine j_v (nI by_) (by rw [ebt]; exact chr_id by_ (by omega)) ?_
          refine j_callXO (i := 2) (As := [.int (nI by_)]) (rest := []) C hO vwS1 (h_ix_2 by_ hby) ⟨rfl, by decide, rfl⟩ rfl (Nat.le_of_ble_eq_true rfl) dX4_readUnit_66 (by omega) ?_
          rintro _ _ ⟨rfl, rfl⟩
          have hix := ix_nam 1 (by decide) by_ (by omega)
          rw [← ebt] at hix
          by_cases hnm : namF 1 (bytF b n k) < 3
          · rw [if_pos hnm] at hix
            refine j_v (nI (namF 1 (bytF b n k))) (by rw [← hix, ebt]) ?_
            refine j_istore_n C [(3, .int (nI (namF 1 (bytF b n k)))), (2, .int (bytF b n k)), (0, .ref (q 10)), (1, .int (nI op))] dX4_readUnit_69 (by decide) rfl ?_
            refine j_iload_n C 0 dX4_readUnit_70 rfl ?_
            refine j_if_ge C 76 dX4_readUnit_71 (by decide) (fun c71 => ?_) (fun c71 => ?_)
            · rw [show (0 : Int32) = nI 0 from rfl, nI_leI (by omega) (by omega)] at c71
              refine j_aload_n C 2 dX4_readUnit_76 rfl ?_
              refine j_get C (v := .ref (q 19)) 10 1 rfl rfl inlC4 (by decide) kf4_14 rfl dX4_readUnit_77 ?_
              refine j_iconst C (v := (-1)) dX4_readUnit_80 (by decide) ?_
              refine j_iload_n C 0 dX4_readUnit_81 rfl ?_
              refine j_isub C dX4_readUnit_82 ?_
              refine j_callVNv (As := [.int ((-1) - (nI (namF 1 (bytF b n k))))]) (rest := []) C vn4_85 (h_add_8 cd.length hp.2.2.2.1 (by omega)) ⟨19, 8, _, _, rfl, rfl, rfl⟩ rfl (Nat.le_of_ble_eq_true rfl) dX4_readUnit_83 (by omega) ?_
              rintro _ rfl
              refine j_wC (κ' := (upd S 27 (nI (cd.length + 1)), va_up X 80 (upd (X 80) cd.length ((-1) - (nI (namF 1 (bytF b n k))))), va_up (va_up P 4 (q 11)) 9 (O.2.1 2))) rfl ?_
              refine j_aload_n C 2 dX4_readUnit_86 rfl ?_
              refine j_dup C dX4_readUnit_87 rfl ?_
              refine j_get C (v := .int (S 18)) 10 5 rfl rfl inlC4 (by decide) kf4_33 rfl dX4_readUnit_88 ?_
              refine j_v (nI k) hp.1 ?_
              refine j_iconst C (v := (nI 1)) dX4_readUnit_91 (by decide) ?_
              refine j_iaddN C dX4_readUnit_92 ?_
              refine j_put C 10 5 rfl rfl inlC4 tyX4 tyX4_ok nmX4 (by decide) kf4_33 rfl (ty := .int) (by decide +kernel) rfl rfl (Nat.le_of_ble_eq_true rfl) dX4_readUnit_93 (upd (upd S 18 (nI (k + 1))) 27 (nI (cd.length + 1)), va_up X 80 (upd (X 80) cd.length ((-1) - (nI (namF 1 (bytF b n k))))), va_up (va_up P 4 (q 11)) 9 (O.2.1 2)) rfl ?_
              refine j_iconst C (v := (nI 1)) dX4_readUnit_96 (by decide) ?_
              refine j_zret C dX4_readUnit_97 (by decide) ?_
              rw [prs_nam c9 c21 c27 hnm]
              exact ⟨_, _, rfl, bI1 rfl, (hp.sk (k + 1)).add _, FrP.rf.k.c⟩
            · rw [show (0 : Int32) = nI 0 from rfl, nI_leI (by omega) (by omega)] at c71
              exfalso; omega
          · rw [if_neg hnm] at hix
            refine j_v (-1) (by rw [← hix, ebt]) ?_
            refine j_istore_n C [(3, .int (-1)), (2, .int (bytF b n k)), (0, .ref (q 10)), (1, .int (nI op))] dX4_readUnit_69 (by decide) rfl ?_
            refine j_iload_n C 0 dX4_readUnit_70 rfl ?_
            refine j_if_ge C 76 dX4_readUnit_71 (by decide) (fun c71 => ?_) (fun c71 => ?_)
            · skip
              exact absurd c71 (by decide)
            · skip
              refine j_iconst C (v := (nI 0)) dX4_readUnit_74 (by decide) ?_
              refine j_zret C dX4_readUnit_75 (by decide) ?_
              rw [prs_bad c9 c21 c27 hnm]
              exact ⟨_, _, rfl, bI0 (fun h => by cases h), hp, FrP.rf⟩
        · skip
          refine j_iconst C (v := (-1)) dX4_readUnit_56 (by decide) ?_
          refine j_goto C 69 dX4_readUnit_57 (by decide) ?_
          refine j_istore_n C [(3, .int (-1)), (2, .int (bytF b n k)), (0, .ref (q 10)), (1, .int (nI op))] dX4_readUnit_69 (by decide) rfl ?_
          refine j_iload_n C 0 dX4_readUnit_70 rfl ?_
          refine j_if_ge C 76 dX4_readUnit_71 (by decide) (fun c71 => ?_) (fun c71 => ?_)
          · skip
            exact absurd c71 (by decide)
          · skip
            refine j_iconst C (v := (nI 0)) dX4_readUnit_74 (by decide) ?_
            refine j_zret C dX4_readUnit_75 (by decide) ?_
            have hm1 : bytF b n k = -1 := by
              by_cases h : k < n
              · exfalso
                obtain ⟨v, hv, ev⟩ := hB k h
                rw [← byt_t h, ev] at c53
                exact c53 (nlt (nI_pos (by omega)))
              · exact (byt_f h).symm
            rw [prs_bad c9 c21 c27 (by rw [hm1, nam_m1]; omega)]
            exact ⟨_, _, rfl, bI0 (fun h => by cases h), hp, FrP.rf⟩
      · skip
        refine j_iload_n C 2 dX4_readUnit_30 rfl ?_
        refine j_iconst C (v := (nI 5)) dX4_readUnit_31 (by decide) ?_
        refine j_icmp_ge C 50 dX4_readUnit_32 (by decide) (fun c32 => ?_) (fun c32 => ?_)
        · rw [nI_leI (by omega) (by omega)] at c32
          refine j_iconst C (v := (nI 0)) dX4_readUnit_50 (by decide) ?_
          refine j_zret C dX4_readUnit_51 (by decide) ?_
          rw [prs_full c9 (Or.inr c27) (by omega)]
          exact ⟨_, _, rfl, bI0 (fun h => by cases h), hp, FrP.rf⟩
        · rw [nI_leI (by omega) (by omega)] at c32
          refine j_aload_n C 1 dX4_readUnit_35 rfl ?_
          refine j_iload_n C 0 dX4_readUnit_36 rfl ?_
          refine j_iload_n C 2 dX4_readUnit_37 rfl ?_
          refine j_iconst C (v := (nI 1)) dX4_readUnit_38 (by decide) ?_
          refine j_iaddN C dX4_readUnit_39 ?_
          have hkl : k < n := byt_lt (b := b) (by rw [c27]; decide)
          refine j_callVO (As := [.int (bytF b n k), .int (nI (op + 1))]) (rest := []) C hO vw4_94 (by rw [c27]; exact (hOp S X (op + 1) k cd hp (by omega) hkl hcd (by omega)).2) ⟨10, 4, _, _, rfl, rfl, rfl⟩ rfl (Nat.le_of_ble_eq_true rfl) dX4_readUnit_40 (by omega) ?_
          rintro r1 _ ⟨S1, X1, rfl, e1, hP1, hf1⟩
          have hpe : (if (prs b n 1 f 0 false (op + 1) (k + 1) cd).1 = true ∧ bytF b n (prs b n 1 f 0 false (op + 1) (k + 1) cd).2.1 = 41 then (true, (prs b n 1 f 0 false (op + 1) (k + 1) cd).2.1 + 1, (prs b n 1 f 0 false (op + 1) (k + 1) cd).2.2) else (false, (prs b n 1 f 0 false (op + 1) (k + 1) cd).2)) = prs b n 1 (f + 1) 5 false op k cd := by
            by_cases h : (prs b n 1 f 0 false (op + 1) (k + 1) cd).1 = true ∧ bytF b n (prs b n 1 f 0 false (op + 1) (k + 1) cd).2.1 = 41
            · rw [if_pos h]; exact (prs_pt c9 c27 (by omega) h).symm
            · rw [if_neg h]; exact (prs_pf c9 c27 (by omega) h).symm
          rw [hpe] at e1 hP1
          refine j_v (bI ((prs b n 1 (f + 1) 5 false op k cd).1 = true)) e1 ?_
          refine j_if_eq C 50 dX4_readUnit_43 (by decide) (fun c43 => ?_) (fun c43 => ?_)
          · replace c43 := bI_f c43
            refine j_iconst C (v := (nI 0)) dX4_readUnit_50 (by decide) ?_
            refine j_zret C dX4_readUnit_51 (by decide) ?_
            exact ⟨_, _, rfl, bI0 c43, hP1, hf1⟩
          · replace c43 := bI_t c43
            refine j_iconst C (v := (nI 1)) dX4_readUnit_46 (by decide) ?_
            refine j_goto C 51 dX4_readUnit_47 (by decide) ?_
            refine j_zret C dX4_readUnit_51 (by decide) ?_
            exact ⟨_, _, rfl, bI1 c43, hP1, hf1⟩
  · replace c9 := bI_t c9
    refine j_aload_n C 1 dX4_readUnit_12 rfl ?_
    refine j_callVv (As := []) (rest := []) C vw4_91 (h_readNumber_1 hp hk hn hcd c9) ⟨10, 4, _, _, rfl, rfl, rfl⟩ rfl (Nat.le_of_ble_eq_true rfl) dX4_readUnit_13 (by omega) ?_
    rintro _ ⟨S1, X1, rfl, hP1, hf1⟩
    refine j_iconst C (v := (nI 1)) dX4_readUnit_16 (by decide) ?_
    refine j_zret C dX4_readUnit_17 (by decide) ?_
    rw [prs_num c9]
    exact ⟨_, _, rfl, bI1 rfl, hP1, hf1⟩
set_option maxHeartbeats 2000000 in
set_option maxRecDepth 20000 in
theorem h_level_1 {O : Ou} {l : Launch} {D : va_G} {cI cG cW : ClassId} {q P : Nat → Nat} {b : Nat → Int32} {n : Nat} (hn : n ≤ 50) (hB : BY b n) (f : Nat) (IH : ∀ g, g < f → PLV1 O l D cI cG cW q P b n g) (hU : PUN1 O l D cI cG cW q P b n f) : PLV1 O l D cI cG cW q P b n f := by
  intro S X lvl op k cd hp hl5 hop hk hcd hf
  refine CiO.of (by decide) (Nat.le_of_ble_eq_true rfl) ?_
  intro p_ e_ s_ m_ b_ M_ c_ A_ C hO
  replace C : Cx _ _ _ _ _ _ _ _ RX4 _ _ _ _ := C
  refine j_L [0, 1, 2] [(0, .ref (q 10)), (1, .int (nI lvl)), (2, .int (nI op))] rfl ?_
  refine j_iload_n C 1 dX4_readLevel_0 rfl ?_
  refine j_iconst C (v := (nI 5)) dX4_readLevel_1 (by decide) ?_
  refine j_icmp_lt C 11 dX4_readLevel_2 (by decide) (fun c2 => ?_) (fun c2 => ?_)
  · rw [nI_ltI (by omega) (by omega)] at c2
    obtain ⟨f, rfl⟩ : ∃ g, f = g + 1 := ⟨f - 1, by omega⟩
    refine j_aload_n C 0 dX4_readLevel_11 rfl ?_
    refine j_iload_n C 1 dX4_readLevel_12 rfl ?_
    refine j_iconst C (v := (nI 1)) dX4_readLevel_13 (by decide) ?_
    refine j_iaddN C dX4_readLevel_14 ?_
    refine j_iload_n C 2 dX4_readLevel_15 rfl ?_
    refine j_callVO (As := [.int (nI (lvl + 1)), .int (nI op)]) (rest := []) C hO vw4_66 ((IH f (by omega)) S X (lvl + 1) op k cd hp (by omega) hop hk hcd (by omega)) ⟨10, 4, _, _, rfl, rfl, rfl⟩ rfl (Nat.le_of_ble_eq_true rfl) dX4_readLevel_16 (by omega) ?_
    rintro r1 _ ⟨S1, X1, rfl, e1, hP1, hf1⟩
    obtain ⟨res1, hr1⟩ : ∃ x, x = prs b n 1 f (lvl + 1) false op k cd := ⟨_, rfl⟩
    rw [← hr1] at e1 hP1
    have hpr1 := prs_pr (b := b) (n := n) (u := 1) f (lvl + 1) false op k cd (by omega) (fun h => by cases h) (by omega)
    have hle1 := prs_len (b := b) (n := n) (u := 1) f (lvl + 1) false op k cd (by omega) (fun h => by cases h) (by omega)
    have hE1 : prs b n 1 f (lvl + 1) false op k cd = res1 := hr1.symm
    rw [hE1] at hpr1 hle1
    refine j_v (bI (res1.1 = true)) e1 ?_
    refine j_if_ne C 24 dX4_readLevel_19 (by decide) (fun c19 => ?_) (fun c19 => ?_)
    · replace c19 := bI_t c19
      refine j_iconst C (v := (nI 0)) dX4_readLevel_24 (by decide) ?_
      refine j_istore_n C [(3, .int (nI 0)), (0, .ref (q 10)), (1, .int (nI lvl)), (2, .int (nI op))] dX4_readLevel_25 (by decide) rfl ?_
      have hlt1 := hpr1.2.2 rfl c19
      refine j_L [1, 2, 3, 0] [(0, .ref (q 10)), (1, .int (nI lvl)), (2, .int (nI op)), (3, .int (nI 0))] rfl ?_
      refine j_loop (X := Nat × Nat × Nat × (List Int32) × (Nat → Int32) × (Nat → Nat → Int32)) (fun (z : Nat × Nat × Nat × (List Int32) × (Nat → Int32) × (Nat → Nat → Int32)) => match z with | (i, F, k1, cd1, Sc, Xc) => i + 1 ≤ k1 ∧ k1 ≤ n ∧ F ≤ f ∧ 8 * (n - k1) + (6 - lvl) ≤ F ∧ cd1.length ≤ k1 ∧ CPst b n Sc Xc k1 cd1 ∧ FrP Sc Xc S X ∧ prs b n 1 (f + 1) lvl false op k cd = prs b n 1 F lvl true op k1 cd1) (fun (z : Nat × Nat × Nat × (List Int32) × (Nat → Int32) × (Nat → Nat → Int32)) => match z with | (i, F, k1, cd1, Sc, Xc) => F) (fun (z : Nat × Nat × Nat × (List Int32) × (Nat → Int32) × (Nat → Nat → Int32)) => match z with | (i, F, k1, cd1, Sc, Xc) => (Sc, Xc, va_up (va_up P 4 (q 11)) 9 (O.2.1 2))) (fun (z : Nat × Nat × Nat × (List Int32) × (Nat → Int32) × (Nat → Nat → Int32)) => match z with | (i, F, k1, cd1, Sc, Xc) => [(0, .ref (q 10)), (1, .int (nI lvl)), (2, .int (nI op)), (3, .int (nI i))]) (0, f, res1.2.1, res1.2.2, S1, X1) (⟨by omega, hpr1.2.1, Nat.le_refl _, by omega, by omega, hP1, hf1, by rw [prs_ut (by omega) (by rw [hE1]; exact c19), hE1]⟩) rfl rfl ?_
      rintro ⟨i, F, k1, cd1, Sc, Xc⟩ ⟨hi, hk1, hFf, hF8, hc1, hPc, hFc, hEq⟩ ih
      try dsimp only at ih ⊢
      obtain ⟨F, rfl⟩ : ∃ g, F = g + 1 := ⟨F - 1, by omega⟩
      refine j_iload_n C 3 dX4_readLevel_26 rfl ?_
      refine j_bipush C (v := (nI 50)) dX4_readLevel_27 (by decide) ?_
      refine j_icmp_ge C 111 dX4_readLevel_29 (by decide) (fun c29 => ?_) (fun c29 => ?_)
      · rw [nI_leI (by omega) (by omega)] at c29
        refine j_iconst C (v := (nI 1)) dX4_readLevel_111 (by decide) ?_
        refine j_zret C dX4_readLevel_112 (by decide) ?_
        exfalso; omega
      · rw [nI_leI (by omega) (by omega)] at c29
        refine j_aload_n C 0 dX4_readLevel_32 rfl ?_
        refine j_callV (As := []) (rest := []) C vw4_77 (h_here_1 (b := b) (n := n) (k := k1) hPc (by omega) hn) ⟨10, 4, _, _, rfl, rfl, rfl⟩ rfl (Nat.le_of_ble_eq_true rfl) dX4_readLevel_33 (by omega) ?_
        rintro _ _ ⟨rfl, rfl⟩
        refine j_callS (As := [.int (bytF b n k1)]) (rest := []) C sw4_81 (h_levelOf) rfl (Nat.le_of_ble_eq_true rfl) dX4_readLevel_36 (by omega) ?_
        rintro _ _ ⟨rfl, rfl⟩
        have hlv5 := lvF_le (bytF b n k1)
        refine j_iload_n C 1 dX4_readLevel_39 rfl ?_
        refine j_icmp_ne C 111 dX4_readLevel_40 (by decide) (fun c40 => ?_) (fun c40 => ?_)
        · rw [nI_eq (by omega) (by omega)] at c40
          refine j_iconst C (v := (nI 1)) dX4_readLevel_111 (by decide) ?_
          refine j_zret C dX4_readLevel_112 (by decide) ?_
          rw [hEq, prs_no c40]
          exact ⟨_, _, rfl, bI1 rfl, hPc, hFc⟩
        · rw [nI_eq (by omega) (by omega)] at c40
          have hkl : k1 < n := byt_lt (b := b) (fun e => by rw [e, show lvF (-1) = 5 from by decide] at c40; omega)
          refine j_aload_n C 0 dX4_readLevel_43 rfl ?_
          refine j_callV (As := []) (rest := []) C vw4_77 (h_here_1 (b := b) (n := n) (k := k1) hPc (by omega) hn) ⟨10, 4, _, _, rfl, rfl, rfl⟩ rfl (Nat.le_of_ble_eq_true rfl) dX4_readLevel_44 (by omega) ?_
          rintro _ _ ⟨rfl, rfl⟩
          refine j_istore C [(4, .int (bytF b n k1)), (0, .ref (q 10)), (1, .int (nI lvl)), (2, .int (nI op)), (3, .int (nI i))] dX4_readLevel_47 (by decide) rfl ?_
          refine j_aload_n C 1 dX4_readLevel_49 rfl ?_
          refine j_dup C dX4_readLevel_50 rfl ?_
          refine j_get C (v := .int (Sc 18)) 10 5 rfl rfl inlC4 (by decide) kf4_33 rfl dX4_readLevel_51 ?_
          refine j_v (nI k1) hPc.1 ?_
          refine j_iconst C (v := (nI 1)) dX4_readLevel_54 (by decide) ?_
          refine j_iaddN C dX4_readLevel_55 ?_
          refine j_put C 10 5 rfl rfl inlC4 tyX4 tyX4_ok nmX4 (by decide) kf4_33 rfl (ty := .int) (by decide +kernel) rfl rfl (Nat.le_of_ble_eq_true rfl) dX4_readLevel_56 (upd Sc 18 (nI (k1 + 1)), Xc, va_up (va_up P 4 (q 11)) 9 (O.2.1 2)) rfl ?_
          refine j_aload_n C 1 dX4_readLevel_59 rfl ?_
          refine j_iload_n C 2 dX4_readLevel_60 rfl ?_
          refine j_iconst C (v := (nI 1)) dX4_readLevel_61 (by decide) ?_
          refine j_iaddN C dX4_readLevel_62 ?_
          refine j_iload_n C 3 dX4_readLevel_63 rfl ?_
          refine j_callVO (As := [.int (nI (lvl + 1)), .int (nI op)]) (rest := []) C hO vw4_66 ((IH F (by omega)) _ _ (lvl + 1) op (k1 + 1) cd1 (hPc.sk (k1 + 1)) (by omega) hop (by omega) (by omega) (by omega)) ⟨10, 4, _, _, rfl, rfl, rfl⟩ rfl (Nat.le_of_ble_eq_true rfl) dX4_readLevel_64 (by omega) ?_
          rintro r2 _ ⟨S2, X2, rfl, e2, hP2, hf2⟩
          obtain ⟨res2, hr2⟩ : ∃ x, x = prs b n 1 F (lvl + 1) false op (k1 + 1) cd1 := ⟨_, rfl⟩
          rw [← hr2] at e2 hP2
          have hpr2 := prs_pr (b := b) (n := n) (u := 1) F (lvl + 1) false op (k1 + 1) cd1 (by omega) (fun h => by cases h) (by omega)
          have hle2 := prs_len (b := b) (n := n) (u := 1) F (lvl + 1) false op (k1 + 1) cd1 (by omega) (fun h => by cases h) (by omega)
          have hE2 : prs b n 1 F (lvl + 1) false op (k1 + 1) cd1 = res2 := hr2.symm
          rw [hE2] at hpr2 hle2
          refine j_v (bI (res2.1 = true)) e2 ?_
          refine j_if_ne C 72 dX4_readLevel_67 (by decide) (fun c67 => ?_) (fun c67 => ?_)
          · replace c67 := bI_t c67
            refine j_aload_n C 1 dX4_readLevel_72 rfl ?_
            refine j_get C (v := .ref (q 19)) 10 1 rfl rfl inlC4 (by decide) kf4_14 rfl dX4_readLevel_73 ?_
            refine j_iload C 0 dX4_readLevel_76 rfl ?_
            refine j_ineg C dX4_readLevel_78 ?_
            refine j_callVNv (As := [.int (-(bytF b n k1))]) (rest := []) C vn4_85 (h_add_8 res2.2.2.length hP2.2.2.2.1 (by omega)) ⟨19, 8, _, _, rfl, rfl, rfl⟩ rfl (Nat.le_of_ble_eq_true rfl) dX4_readLevel_79 (by omega) ?_
            rintro _ rfl
            refine j_wC (κ' := (upd S2 27 (nI (res2.2.2.length + 1)), va_up X2 80 (upd (X2 80) res2.2.2.length (-(bytF b n k1))), va_up (va_up P 4 (q 11)) 9 (O.2.1 2))) rfl ?_
            refine j_iload C 0 dX4_readLevel_82 rfl ?_
            refine j_bipush C (v := (nI 60)) dX4_readLevel_84 (by decide) ?_
            refine j_icmp_eq C 103 dX4_readLevel_86 (by decide) (fun c86 => ?_) (fun c86 => ?_)
            · skip
              refine j_iconst C (v := (nI 1)) dX4_readLevel_103 (by decide) ?_
              refine j_zret C dX4_readLevel_104 (by decide) ?_
              obtain rfl : lvl = 2 := c40.symm.trans (lv_2.2 (Or.inl c86))
              rw [hEq, prs_l2 c40 (by rw [hE2]; exact c67), hE2]
              exact ⟨_, _, rfl, bI1 rfl, hP2.add _, (hf2.tr hFc.k).c⟩
            · skip
              refine j_iload C 0 dX4_readLevel_89 rfl ?_
              refine j_bipush C (v := (nI 61)) dX4_readLevel_91 (by decide) ?_
              refine j_icmp_eq C 103 dX4_readLevel_93 (by decide) (fun c93 => ?_) (fun c93 => ?_)
              · skip
                refine j_iconst C (v := (nI 1)) dX4_readLevel_103 (by decide) ?_
                refine j_zret C dX4_readLevel_104 (by decide) ?_
                obtain rfl : lvl = 2 := c40.symm.trans (lv_2.2 (Or.inr (Or.inl c93)))
                rw [hEq, prs_l2 c40 (by rw [hE2]; exact c67), hE2]
                exact ⟨_, _, rfl, bI1 rfl, hP2.add _, (hf2.tr hFc.k).c⟩
              · skip
                refine j_iload C 0 dX4_readLevel_96 rfl ?_
                refine j_bipush C (v := (nI 62)) dX4_readLevel_98 (by decide) ?_
                refine j_icmp_ne C 105 dX4_readLevel_100 (by decide) (fun c100 => ?_) (fun c100 => ?_)
                · skip
                  refine j_iinc C (v := (nI (i + 1))) 4 [(3, .int (nI (i + 1))), (4, .int (bytF b n k1)), (0, .ref (q 10)), (1, .int (nI lvl)), (2, .int (nI op))] dX4_readLevel_105 rfl (nI_1 _) (by decide) rfl ?_
                  refine j_goto C 26 dX4_readLevel_108 (by decide) ?_
                  have hl2 : ¬ lvl = 2 := fun e => (lv_2.1 (c40.trans e)).elim c86 (fun h => h.elim c93 c100)
                  have hlt2 := hpr2.2.2 rfl c67
                  refine j_L [2, 3, 4, 0] [(0, .ref (q 10)), (1, .int (nI lvl)), (2, .int (nI op)), (3, .int (nI (i + 1)))] rfl ?_
                  exact ih (i + 1, F, res2.2.1, res2.2.2 ++ [-(bytF b n k1)], _, _) ⟨by dsimp only; omega, hpr2.2.1, by dsimp only; omega, by dsimp only; omega, by dsimp only; rw [List.length_append, List.length_singleton]; omega, hP2.add _, (hf2.tr hFc.k).c, by dsimp only; rw [hEq, prs_lt c40 hl2 (by rw [hE2]; exact c67), hE2]⟩ (by dsimp only; omega)
                · skip
                  refine j_iconst C (v := (nI 1)) dX4_readLevel_103 (by decide) ?_
                  refine j_zret C dX4_readLevel_104 (by decide) ?_
                  obtain rfl : lvl = 2 := c40.symm.trans (lv_2.2 (Or.inr (Or.inr c100)))
                  rw [hEq, prs_l2 c40 (by rw [hE2]; exact c67), hE2]
                  exact ⟨_, _, rfl, bI1 rfl, hP2.add _, (hf2.tr hFc.k).c⟩
          · replace c67 := bI_f c67
            refine j_iconst C (v := (nI 0)) dX4_readLevel_70 (by decide) ?_
            refine j_zret C dX4_readLevel_71 (by decide) ?_
            rw [hEq, prs_lf c40 (bfal (by rw [hE2]; exact c67)), hE2]
            exact ⟨_, _, rfl, bI0 c67, hP2, hf2.tr hFc.k⟩
    · replace c19 := bI_f c19
      refine j_iconst C (v := (nI 0)) dX4_readLevel_22 (by decide) ?_
      refine j_zret C dX4_readLevel_23 (by decide) ?_
      rw [prs_uf (by omega) (bfal (by rw [hE1]; exact c19)), hE1]
      exact ⟨_, _, rfl, bI0 c19, hP1, hf1⟩
  · rw [nI_ltI (by omega) (by omega)] at c2
    refine j_aload_n C 0 dX4_readLevel_5 rfl ?_
    refine j_iload_n C 2 dX4_readLevel_6 rfl ?_
    refine j_callVO (As := [.int (nI op)]) (rest := []) C hO vw4_74 (hU S X op k cd hp hop hk hcd (by omega)) ⟨10, 4, _, _, rfl, rfl, rfl⟩ rfl (Nat.le_of_ble_eq_true rfl) dX4_readLevel_7 (by omega) ?_
    rintro r1 _ ⟨S1, X1, rfl, e1, hP1, hf1⟩
    obtain ⟨res1, hr1⟩ : ∃ x, x = prs b n 1 f 5 false op k cd := ⟨_, rfl⟩
    rw [← hr1] at e1 hP1
    have hpr1 := prs_pr (b := b) (n := n) (u := 1) f 5 false op k cd (by omega) (fun h => by cases h) (by omega)
    have hle1 := prs_len (b := b) (n := n) (u := 1) f 5 false op k cd (by omega) (fun h => by cases h) (by omega)
    have hE1 : prs b n 1 f 5 false op k cd = res1 := hr1.symm
    rw [hE1] at hpr1 hle1
    refine j_v (bI (res1.1 = true)) e1 ?_
    refine j_zret C dX4_readLevel_10 (bI_01 _) ?_
    obtain rfl : lvl = 5 := by omega
    rw [hE1]
    exact ⟨_, _, rfl, rfl, hP1, hf1⟩
theorem h_read_1 {O : Ou} {l : Launch} {D : va_G} {cI cG cW : ClassId} {q P : Nat → Nat} {b : Nat → Int32} {n : Nat} (hn : n ≤ 50) (hB : BY b n) (f : Nat) : PLV1 O l D cI cG cW q P b n f ∧ PUN1 O l D cI cG cW q P b n f := by
  induction f using Nat.strongRecOn with
  | _ f ih =>
    have hU := h_unit_1 hn hB f ih
    exact ⟨h_level_1 hn hB f (fun g hg => (ih g hg).1) hU, hU⟩

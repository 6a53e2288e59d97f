/-! The class's fields: who is where, bending, picking, walking. -/
theorem or_nI0 (x : Int32) : x ||| nI 0 = x := by
  show x ||| 0 = x
  exact Int32.or_zero
theorem upd_uu (g : Nat → Int32) (i : Nat) (x y : Int32) : upd (upd g i x) i y = upd g i y := by
  funext k
  by_cases e : k = i
  · subst e; rw [pk_us, pk_us]
  · rw [pk_un e, pk_un e, pk_un e]
theorem min_sw (a b : Int32) : (if a < b then a else b) = (if b < a then b else a) := by
  by_cases h : a < b
  · rw [if_pos h, if_neg (fun g => by rw [Int32.lt_iff_toInt_lt] at h g; omega)]
  · rw [if_neg h]
    by_cases g : b < a
    · rw [if_pos g]
    · rw [if_neg g]; apply Int32.toInt_inj.mp; rw [Int32.lt_iff_toInt_lt] at h g; omega
theorem hld_min {x : Int32} {t : Nat} (hx : x = nI t) (ht : t < 2 ^ 31) : hld x (nI 0) (nI 9999) = (if x < nI 9999 then x else nI 9999) := by
  subst hx
  unfold hld
  rw [if_neg (by rw [nI_ltI ht (by omega)]; omega)]
  exact min_sw (nI 9999) (nI t)
theorem inn_c {x r : Int32} {n : Nat} (e : r = nI n) (h1 : 1 ≤ n) (hn : n < 2 ^ 30) : inn x 0 (r - 1) ↔ ¬ x < 0 ∧ ¬ r ≤ x := by
  subst e
  have h3 := pk_sub_toInt (a := n) (b := 1) hn (by omega)
  have h4 := nI_toInt (n := n) (by omega)
  have h0 : (0 : Int32).toInt = 0 := by decide
  constructor
  · rintro ⟨a, b⟩
    rw [Int32.le_iff_toInt_le] at a b
    rw [show (1 : Int32) = nI 1 from rfl, h3] at b
    rw [Int32.lt_iff_toInt_lt, Int32.le_iff_toInt_le]
    omega
  · rintro ⟨a, b⟩
    rw [Int32.lt_iff_toInt_lt] at a
    rw [Int32.le_iff_toInt_le] at b
    refine ⟨?_, ?_⟩
    · rw [Int32.le_iff_toInt_le]; omega
    · rw [Int32.le_iff_toInt_le, show (1 : Int32) = nI 1 from rfl, h3]; omega
/-- a dawn in a field changes nothing else but the laws' stacks -/
def FrX (f : Nat) (X' X : Nat → Nat → Int32) : Prop := ∀ k, (k < 36 + 10 * f ∨ 46 + 10 * f ≤ k) → ¬ k = 86 → ¬ k = 87 → X' k = X k
theorem FrX.rf {f : Nat} {X : Nat → Nat → Int32} : FrX f X X := fun _ _ _ _ => rfl
theorem FrX.tr {f : Nat} {X1 X2 X3 : Nat → Nat → Int32} (h : FrX f X1 X2) (g : FrX f X2 X3) : FrX f X1 X3 := fun k a b c => (h k a b c).trans (g k a b c)
theorem FrX.up {f k : Nat} {X' X : Nat → Nat → Int32} {g : Nat → Int32} (h : FrX f X' X) (hk : (36 + 10 * f ≤ k ∧ k < 46 + 10 * f) ∨ k = 86 ∨ k = 87) : FrX f (va_up X' k g) X := fun j a b c => (va_n (by omega)).trans (h j a b c)
theorem CLaw.fr {S : Nat → Int32} {X X' : Nat → Nat → Int32} {lam f : Nat} {row row' : Nat → Int32} {u : Nat} (h : CLaw S X lam row u) (hl : lam ≤ 1) (hf : f ≤ 2) (hu : u ≤ 1) (hX : FrX f X' X) (hR : FR row' row) : CLaw S X' lam row' u := by
  unfold CLaw
  rw [hX (76 + lam) (by omega) (by omega) (by omega), hR.tx u, hR (6 + u) (by omega)]; exact h

theorem dX1_whoIsAt_0 : decode cX1_whoIsAt 0 = .ok (.iconst 0, 1) := by decide +kernel
theorem dX1_whoIsAt_1 : decode cX1_whoIsAt 1 = .ok (.istore_n 2, 1) := by decide +kernel
theorem dX1_whoIsAt_2 : decode cX1_whoIsAt 2 = .ok (.iconst 0, 1) := by decide +kernel
theorem dX1_whoIsAt_3 : decode cX1_whoIsAt 3 = .ok (.istore_n 3, 1) := by decide +kernel
theorem dX1_whoIsAt_4 : decode cX1_whoIsAt 4 = .ok (.iload_n 3, 1) := by decide +kernel
theorem dX1_whoIsAt_5 : decode cX1_whoIsAt 5 = .ok (.aload_n 0, 1) := by decide +kernel
theorem dX1_whoIsAt_6 : decode cX1_whoIsAt 6 = .ok (.getfield 25, 3) := by decide +kernel
theorem dX1_whoIsAt_9 : decode cX1_whoIsAt 9 = .ok (.if_icmp .ge 25, 3) := by decide +kernel
theorem dX1_whoIsAt_12 : decode cX1_whoIsAt 12 = .ok (.aload_n 0, 1) := by decide +kernel
theorem dX1_whoIsAt_13 : decode cX1_whoIsAt 13 = .ok (.getfield 34, 3) := by decide +kernel
theorem dX1_whoIsAt_16 : decode cX1_whoIsAt 16 = .ok (.iload_n 3, 1) := by decide +kernel
theorem dX1_whoIsAt_17 : decode cX1_whoIsAt 17 = .ok (.iaload, 1) := by decide +kernel
theorem dX1_whoIsAt_18 : decode cX1_whoIsAt 18 = .ok (.iload_n 1, 1) := by decide +kernel
theorem dX1_whoIsAt_19 : decode cX1_whoIsAt 19 = .ok (.if_icmp .ne 9, 3) := by decide +kernel
theorem dX1_whoIsAt_22 : decode cX1_whoIsAt 22 = .ok (.iload_n 2, 1) := by decide +kernel
theorem dX1_whoIsAt_23 : decode cX1_whoIsAt 23 = .ok (.iconst 1, 1) := by decide +kernel
theorem dX1_whoIsAt_24 : decode cX1_whoIsAt 24 = .ok (.iload_n 3, 1) := by decide +kernel
theorem dX1_whoIsAt_25 : decode cX1_whoIsAt 25 = .ok (.ishl, 1) := by decide +kernel
theorem dX1_whoIsAt_26 : decode cX1_whoIsAt 26 = .ok (.ior, 1) := by decide +kernel
theorem dX1_whoIsAt_27 : decode cX1_whoIsAt 27 = .ok (.istore_n 2, 1) := by decide +kernel
theorem dX1_whoIsAt_28 : decode cX1_whoIsAt 28 = .ok (.iinc 3 1, 3) := by decide +kernel
theorem dX1_whoIsAt_31 : decode cX1_whoIsAt 31 = .ok (.goto (-27), 3) := by decide +kernel
theorem dX1_whoIsAt_34 : decode cX1_whoIsAt 34 = .ok (.iload_n 2, 1) := by decide +kernel
theorem dX1_whoIsAt_35 : decode cX1_whoIsAt 35 = .ok (.ireturn, 1) := by decide +kernel
set_option maxHeartbeats 2000000 in
set_option maxRecDepth 20000 in
theorem h_who_0 {l : Launch} {D : va_G} {cI cG cW : ClassId} {q : Nat → Nat} {S : Nat → Int32} {X : Nat → Nat → Int32} {P : Nat → Nat} {c : Int32} {row w : Nat → Int32} {nc np : Nat} (hF : CF S X 0 row w nc np) (e3 : row 3 = nI np) (hn6 : np ≤ 6) : Ci l yX1_whoIsAt cX1_whoIsAt 4 (some .int) 0 D (tyL cI cG cW) (wC cI cG cW q) [.ref (q 3), .int c] (S, X, P) (fun r τ => r = whoF row c np ∧ τ = (S, X, P)) := by
  refine Ci.of (by decide) (Nat.le_of_ble_eq_true rfl) ?_
  intro p_ e_ s_ m_ b_ M_ c_ A_ C
  replace C : Cx _ _ _ _ _ _ _ _ RX1 _ _ _ _ := C
  refine j_L [0, 1] [(0, .ref (q 3)), (1, .int c)] rfl ?_
  refine j_iconst C (v := (nI 0)) dX1_whoIsAt_0 (by decide) ?_
  refine j_istore_n C [(2, .int (nI 0)), (0, .ref (q 3)), (1, .int c)] dX1_whoIsAt_1 (by decide) rfl ?_
  refine j_iconst C (v := (nI 0)) dX1_whoIsAt_2 (by decide) ?_
  refine j_istore_n C [(3, .int (nI 0)), (2, .int (nI 0)), (0, .ref (q 3)), (1, .int c)] dX1_whoIsAt_3 (by decide) rfl ?_
  refine j_L [2, 3, 1, 0] [(0, .ref (q 3)), (1, .int c), (2, .int (nI 0)), (3, .int (nI 0))] rfl ?_
  refine j_loop (X := Nat × Int32) (fun (z : Nat × Int32) => match z with | (i, s) => i ≤ np ∧ s = whoF row c i) (fun (z : Nat × Int32) => match z with | (i, s) => np - i) (fun (z : Nat × Int32) => match z with | (i, s) => (S, X, P)) (fun (z : Nat × Int32) => match z with | (i, s) => [(0, .ref (q 3)), (1, .int c), (2, .int s), (3, .int (nI i))]) (0, 0) (⟨Nat.zero_le _, rfl⟩) rfl rfl ?_
  rintro ⟨i, s⟩ ⟨hi, hs⟩ ih
  try dsimp only at ih ⊢
  refine j_iload_n C 3 dX1_whoIsAt_4 rfl ?_
  refine j_aload_n C 0 dX1_whoIsAt_5 rfl ?_
  refine j_get C (v := .int (S 7)) 3 4 rfl rfl inlC1 (by decide) kf1_25 rfl dX1_whoIsAt_6 ?_
  refine j_v (nI np) (hF.people.trans e3) ?_
  refine j_icmp_ge C 34 dX1_whoIsAt_9 (by decide) (fun c9 => ?_) (fun c9 => ?_)
  · rw [nI_leI (by omega) (by omega)] at c9
    refine j_iload_n C 2 dX1_whoIsAt_34 rfl ?_
    refine j_iret C dX1_whoIsAt_35 ?_
    obtain rfl : i = np := by omega
    exact ⟨hs, rfl⟩
  · rw [nI_leI (by omega) (by omega)] at c9
    refine j_aload_n C 0 dX1_whoIsAt_12 rfl ?_
    refine j_get C (v := .ref (q 40)) 3 7 rfl rfl inlC1 (by decide) kf1_34 rfl dX1_whoIsAt_13 ?_
    refine j_iload_n C 3 dX1_whoIsAt_16 rfl ?_
    refine j_ialdN C 40 0 rfl rfl i rfl (by omega) (by decide) dX1_whoIsAt_17 ?_
    refine j_v (row (30 + 6 * i + 2)) (hF.per 2 (by omega) i (by omega)) ?_
    refine j_iload_n C 1 dX1_whoIsAt_18 rfl ?_
    refine j_icmp_ne C 28 dX1_whoIsAt_19 (by decide) (fun c19 => ?_) (fun c19 => ?_)
    · skip
      refine j_iinc C (v := (nI (i + 1))) 3 [(3, .int (nI (i + 1))), (0, .ref (q 3)), (1, .int c), (2, .int s)] dX1_whoIsAt_28 rfl (nI_1 _) (by decide) rfl ?_
      refine j_goto C 4 dX1_whoIsAt_31 (by decide) ?_
      refine j_L [1, 2, 3, 0] [(0, .ref (q 3)), (1, .int c), (2, .int s), (3, .int (nI (i + 1)))] rfl ?_
      exact ih (i + 1, s) (⟨by dsimp only; omega, by dsimp only; rw [whoF, ← hs, if_neg c19, or_nI0]⟩) (by dsimp only; omega)
    · skip
      refine j_iload_n C 2 dX1_whoIsAt_22 rfl ?_
      refine j_iconst C (v := (nI 1)) dX1_whoIsAt_23 (by decide) ?_
      refine j_iload_n C 3 dX1_whoIsAt_24 rfl ?_
      refine j_ishl C dX1_whoIsAt_25 ?_
      refine j_ior C dX1_whoIsAt_26 ?_
      refine j_istore_n C [(2, .int (s ||| ((nI 1) <<< ((nI i) &&& 31)))), (0, .ref (q 3)), (1, .int c), (3, .int (nI i))] dX1_whoIsAt_27 (by decide) rfl ?_
      refine j_iinc C (v := (nI (i + 1))) 3 [(3, .int (nI (i + 1))), (2, .int (s ||| ((nI 1) <<< ((nI i) &&& 31)))), (0, .ref (q 3)), (1, .int c)] dX1_whoIsAt_28 rfl (nI_1 _) (by decide) rfl ?_
      refine j_goto C 4 dX1_whoIsAt_31 (by decide) ?_
      refine j_L [2, 3, 1, 0] [(0, .ref (q 3)), (1, .int c), (2, .int (s ||| ((nI 1) <<< ((nI i) &&& 31)))), (3, .int (nI (i + 1)))] rfl ?_
      exact ih (i + 1, s ||| ((nI 1) <<< ((nI i) &&& 31))) (⟨by dsimp only; omega, by dsimp only; rw [whoF, ← hs, if_pos c19]⟩) (by dsimp only; omega)
theorem dX1_eatsOf_0 : decode cX1_eatsOf 0 = .ok (.aload_n 0, 1) := by decide +kernel
theorem dX1_eatsOf_1 : decode cX1_eatsOf 1 = .ok (.getfield 52, 3) := by decide +kernel
theorem dX1_eatsOf_4 : decode cX1_eatsOf 4 = .ok (.aload_n 0, 1) := by decide +kernel
theorem dX1_eatsOf_5 : decode cX1_eatsOf 5 = .ok (.getfield 28, 3) := by decide +kernel
theorem dX1_eatsOf_8 : decode cX1_eatsOf 8 = .ok (.iload_n 1, 1) := by decide +kernel
theorem dX1_eatsOf_9 : decode cX1_eatsOf 9 = .ok (.iaload, 1) := by decide +kernel
theorem dX1_eatsOf_10 : decode cX1_eatsOf 10 = .ok (.aaload, 1) := by decide +kernel
theorem dX1_eatsOf_11 : decode cX1_eatsOf 11 = .ok (.aload_n 0, 1) := by decide +kernel
theorem dX1_eatsOf_12 : decode cX1_eatsOf 12 = .ok (.getfield 31, 3) := by decide +kernel
theorem dX1_eatsOf_15 : decode cX1_eatsOf 15 = .ok (.iload_n 1, 1) := by decide +kernel
theorem dX1_eatsOf_16 : decode cX1_eatsOf 16 = .ok (.iaload, 1) := by decide +kernel
theorem dX1_eatsOf_17 : decode cX1_eatsOf 17 = .ok (.invokevirtual 98, 3) := by decide +kernel
theorem dX1_eatsOf_20 : decode cX1_eatsOf 20 = .ok (.ireturn, 1) := by decide +kernel
set_option maxHeartbeats 2000000 in
set_option maxRecDepth 20000 in
theorem h_eatsOf_0 {l : Launch} {D : va_G} {cI cG cW : ClassId} {q : Nat → Nat} {S : Nat → Int32} {X : Nat → Nat → Int32} {P : Nat → Nat} {row w : Nat → Int32} {nc np : Nat} (hF : CF S X 0 row w nc np) (hn6 : np ≤ 6) (p : Nat) (hp : p < np) {k : Nat} (hk : k ≤ 6) (ek : row (30 + 6 * p + 0) = nI k) : Ci l yX1_eatsOf cX1_eatsOf 2 (some .int) 3 D (tyL cI cG cW) (wC cI cG cW q) [.ref (q 3), .int (nI p)] (S, X, P) (fun r τ => r = eatF row p ∧ τ = (S, X, P)) := by
  refine Ci.of (by decide) (Nat.le_of_ble_eq_true rfl) ?_
  intro p_ e_ s_ m_ b_ M_ c_ A_ C
  replace C : Cx _ _ _ _ _ _ _ _ RX1 _ _ _ _ := C
  refine j_L [0, 1] [(0, .ref (q 3)), (1, .int (nI p))] rfl ?_
  rcases (show k = 0 ∨ k = 1 ∨ k = 2 ∨ k = 3 ∨ k = 4 ∨ k = 5 ∨ k = 6 by omega) with rfl | rfl | rfl | rfl | rfl | rfl | rfl
  · refine j_aload_n C 0 dX1_eatsOf_0 rfl ?_
    refine j_get C (v := .ref (q 32)) 3 13 rfl rfl inlC1 (by decide) kf1_52 rfl dX1_eatsOf_1 ?_
    refine j_aload_n C 0 dX1_eatsOf_4 rfl ?_
    refine j_get C (v := .ref (q 38)) 3 5 rfl rfl inlC1 (by decide) kf1_28 rfl dX1_eatsOf_5 ?_
    refine j_iload_n C 1 dX1_eatsOf_8 rfl ?_
    refine j_ialdN C 38 0 rfl rfl p rfl (by omega) (by decide) dX1_eatsOf_9 ?_
    refine j_v (nI 0) ((hF.per 0 (by omega) p (by omega)).trans ek) ?_
    refine j_aaldN C 32 1 rfl rfl 0 rfl (by decide) (by decide) rfl dX1_eatsOf_10 ?_
    refine j_aload_n C 0 dX1_eatsOf_11 rfl ?_
    refine j_get C (v := .ref (q 39)) 3 6 rfl rfl inlC1 (by decide) kf1_31 rfl dX1_eatsOf_12 ?_
    refine j_iload_n C 1 dX1_eatsOf_15 rfl ?_
    refine j_ialdN C 39 0 rfl rfl p rfl (by omega) (by decide) dX1_eatsOf_16 ?_
    refine j_v (row (30 + 6 * p + 1)) (hF.per 1 (by omega) p (by omega)) ?_
    refine j_callU (As := [.int (row (30 + 6 * p + 1))]) (rest := []) C uw1_98_2 (h_X2_eats_25) ⟨25, 2, _, _, rfl, rfl, rfl⟩ rfl (Nat.le_of_ble_eq_true rfl) dX1_eatsOf_17 (by decide) ?_
    rintro _ _ ⟨rfl, rfl⟩
    refine j_iret C dX1_eatsOf_20 ?_
    refine ⟨?_, rfl⟩
    rw [eatF_eq ek (by omega)]
    rfl
  · refine j_aload_n C 0 dX1_eatsOf_0 rfl ?_
    refine j_get C (v := .ref (q 32)) 3 13 rfl rfl inlC1 (by decide) kf1_52 rfl dX1_eatsOf_1 ?_
    refine j_aload_n C 0 dX1_eatsOf_4 rfl ?_
    refine j_get C (v := .ref (q 38)) 3 5 rfl rfl inlC1 (by decide) kf1_28 rfl dX1_eatsOf_5 ?_
    refine j_iload_n C 1 dX1_eatsOf_8 rfl ?_
    refine j_ialdN C 38 0 rfl rfl p rfl (by omega) (by decide) dX1_eatsOf_9 ?_
    refine j_v (nI 1) ((hF.per 0 (by omega) p (by omega)).trans ek) ?_
    refine j_aaldN C 32 1 rfl rfl 1 rfl (by decide) (by decide) rfl dX1_eatsOf_10 ?_
    refine j_aload_n C 0 dX1_eatsOf_11 rfl ?_
    refine j_get C (v := .ref (q 39)) 3 6 rfl rfl inlC1 (by decide) kf1_31 rfl dX1_eatsOf_12 ?_
    refine j_iload_n C 1 dX1_eatsOf_15 rfl ?_
    refine j_ialdN C 39 0 rfl rfl p rfl (by omega) (by decide) dX1_eatsOf_16 ?_
    refine j_v (row (30 + 6 * p + 1)) (hF.per 1 (by omega) p (by omega)) ?_
    refine j_callU (As := [.int (row (30 + 6 * p + 1))]) (rest := []) C uw1_98_10 (h_X10_eats_26) ⟨26, 10, _, _, rfl, rfl, rfl⟩ rfl (Nat.le_of_ble_eq_true rfl) dX1_eatsOf_17 (by decide) ?_
    rintro _ _ ⟨rfl, rfl⟩
    refine j_iret C dX1_eatsOf_20 ?_
    refine ⟨?_, rfl⟩
    rw [eatF_eq ek (by omega)]
    rfl
  · refine j_aload_n C 0 dX1_eatsOf_0 rfl ?_
    refine j_get C (v := .ref (q 32)) 3 13 rfl rfl inlC1 (by decide) kf1_52 rfl dX1_eatsOf_1 ?_
    refine j_aload_n C 0 dX1_eatsOf_4 rfl ?_
    refine j_get C (v := .ref (q 38)) 3 5 rfl rfl inlC1 (by decide) kf1_28 rfl dX1_eatsOf_5 ?_
    refine j_iload_n C 1 dX1_eatsOf_8 rfl ?_
    refine j_ialdN C 38 0 rfl rfl p rfl (by omega) (by decide) dX1_eatsOf_9 ?_
    refine j_v (nI 2) ((hF.per 0 (by omega) p (by omega)).trans ek) ?_
    refine j_aaldN C 32 1 rfl rfl 2 rfl (by decide) (by decide) rfl dX1_eatsOf_10 ?_
    refine j_aload_n C 0 dX1_eatsOf_11 rfl ?_
    refine j_get C (v := .ref (q 39)) 3 6 rfl rfl inlC1 (by decide) kf1_31 rfl dX1_eatsOf_12 ?_
    refine j_iload_n C 1 dX1_eatsOf_15 rfl ?_
    refine j_ialdN C 39 0 rfl rfl p rfl (by omega) (by decide) dX1_eatsOf_16 ?_
    refine j_v (row (30 + 6 * p + 1)) (hF.per 1 (by omega) p (by omega)) ?_
    refine j_callU (As := [.int (row (30 + 6 * p + 1))]) (rest := []) C uw1_98_0 (h_X2_eats_27) ⟨27, 0, _, _, rfl, rfl, rfl⟩ rfl (Nat.le_of_ble_eq_true rfl) dX1_eatsOf_17 (by decide) ?_
    rintro _ _ ⟨rfl, rfl⟩
    refine j_iret C dX1_eatsOf_20 ?_
    refine ⟨?_, rfl⟩
    rw [eatF_eq ek (by omega)]
    rfl
  · refine j_aload_n C 0 dX1_eatsOf_0 rfl ?_
    refine j_get C (v := .ref (q 32)) 3 13 rfl rfl inlC1 (by decide) kf1_52 rfl dX1_eatsOf_1 ?_
    refine j_aload_n C 0 dX1_eatsOf_4 rfl ?_
    refine j_get C (v := .ref (q 38)) 3 5 rfl rfl inlC1 (by decide) kf1_28 rfl dX1_eatsOf_5 ?_
    refine j_iload_n C 1 dX1_eatsOf_8 rfl ?_
    refine j_ialdN C 38 0 rfl rfl p rfl (by omega) (by decide) dX1_eatsOf_9 ?_
    refine j_v (nI 3) ((hF.per 0 (by omega) p (by omega)).trans ek) ?_
    refine j_aaldN C 32 1 rfl rfl 3 rfl (by decide) (by decide) rfl dX1_eatsOf_10 ?_
    refine j_aload_n C 0 dX1_eatsOf_11 rfl ?_
    refine j_get C (v := .ref (q 39)) 3 6 rfl rfl inlC1 (by decide) kf1_31 rfl dX1_eatsOf_12 ?_
    refine j_iload_n C 1 dX1_eatsOf_15 rfl ?_
    refine j_ialdN C 39 0 rfl rfl p rfl (by omega) (by decide) dX1_eatsOf_16 ?_
    refine j_v (row (30 + 6 * p + 1)) (hF.per 1 (by omega) p (by omega)) ?_
    refine j_callU (As := [.int (row (30 + 6 * p + 1))]) (rest := []) C uw1_98_9 (h_X2_eats_28) ⟨28, 9, _, _, rfl, rfl, rfl⟩ rfl (Nat.le_of_ble_eq_true rfl) dX1_eatsOf_17 (by decide) ?_
    rintro _ _ ⟨rfl, rfl⟩
    refine j_iret C dX1_eatsOf_20 ?_
    refine ⟨?_, rfl⟩
    rw [eatF_eq ek (by omega)]
    rfl
  · refine j_aload_n C 0 dX1_eatsOf_0 rfl ?_
    refine j_get C (v := .ref (q 32)) 3 13 rfl rfl inlC1 (by decide) kf1_52 rfl dX1_eatsOf_1 ?_
    refine j_aload_n C 0 dX1_eatsOf_4 rfl ?_
    refine j_get C (v := .ref (q 38)) 3 5 rfl rfl inlC1 (by decide) kf1_28 rfl dX1_eatsOf_5 ?_
    refine j_iload_n C 1 dX1_eatsOf_8 rfl ?_
    refine j_ialdN C 38 0 rfl rfl p rfl (by omega) (by decide) dX1_eatsOf_9 ?_
    refine j_v (nI 4) ((hF.per 0 (by omega) p (by omega)).trans ek) ?_
    refine j_aaldN C 32 1 rfl rfl 4 rfl (by decide) (by decide) rfl dX1_eatsOf_10 ?_
    refine j_aload_n C 0 dX1_eatsOf_11 rfl ?_
    refine j_get C (v := .ref (q 39)) 3 6 rfl rfl inlC1 (by decide) kf1_31 rfl dX1_eatsOf_12 ?_
    refine j_iload_n C 1 dX1_eatsOf_15 rfl ?_
    refine j_ialdN C 39 0 rfl rfl p rfl (by omega) (by decide) dX1_eatsOf_16 ?_
    refine j_v (row (30 + 6 * p + 1)) (hF.per 1 (by omega) p (by omega)) ?_
    refine j_callU (As := [.int (row (30 + 6 * p + 1))]) (rest := []) C uw1_98_5 (h_X10_eats_29) ⟨29, 5, _, _, rfl, rfl, rfl⟩ rfl (Nat.le_of_ble_eq_true rfl) dX1_eatsOf_17 (by decide) ?_
    rintro _ _ ⟨rfl, rfl⟩
    refine j_iret C dX1_eatsOf_20 ?_
    refine ⟨?_, rfl⟩
    rw [eatF_eq ek (by omega)]
    rfl
  · refine j_aload_n C 0 dX1_eatsOf_0 rfl ?_
    refine j_get C (v := .ref (q 32)) 3 13 rfl rfl inlC1 (by decide) kf1_52 rfl dX1_eatsOf_1 ?_
    refine j_aload_n C 0 dX1_eatsOf_4 rfl ?_
    refine j_get C (v := .ref (q 38)) 3 5 rfl rfl inlC1 (by decide) kf1_28 rfl dX1_eatsOf_5 ?_
    refine j_iload_n C 1 dX1_eatsOf_8 rfl ?_
    refine j_ialdN C 38 0 rfl rfl p rfl (by omega) (by decide) dX1_eatsOf_9 ?_
    refine j_v (nI 5) ((hF.per 0 (by omega) p (by omega)).trans ek) ?_
    refine j_aaldN C 32 1 rfl rfl 5 rfl (by decide) (by decide) rfl dX1_eatsOf_10 ?_
    refine j_aload_n C 0 dX1_eatsOf_11 rfl ?_
    refine j_get C (v := .ref (q 39)) 3 6 rfl rfl inlC1 (by decide) kf1_31 rfl dX1_eatsOf_12 ?_
    refine j_iload_n C 1 dX1_eatsOf_15 rfl ?_
    refine j_ialdN C 39 0 rfl rfl p rfl (by omega) (by decide) dX1_eatsOf_16 ?_
    refine j_v (row (30 + 6 * p + 1)) (hF.per 1 (by omega) p (by omega)) ?_
    refine j_callU (As := [.int (row (30 + 6 * p + 1))]) (rest := []) C uw1_98_6 (h_X6_eats_30) ⟨30, 6, _, _, rfl, rfl, rfl⟩ rfl (Nat.le_of_ble_eq_true rfl) dX1_eatsOf_17 (by decide) ?_
    rintro _ _ ⟨rfl, rfl⟩
    refine j_iret C dX1_eatsOf_20 ?_
    refine ⟨?_, rfl⟩
    rw [eatF_eq ek (by omega)]
    rfl
  · refine j_aload_n C 0 dX1_eatsOf_0 rfl ?_
    refine j_get C (v := .ref (q 32)) 3 13 rfl rfl inlC1 (by decide) kf1_52 rfl dX1_eatsOf_1 ?_
    refine j_aload_n C 0 dX1_eatsOf_4 rfl ?_
    refine j_get C (v := .ref (q 38)) 3 5 rfl rfl inlC1 (by decide) kf1_28 rfl dX1_eatsOf_5 ?_
    refine j_iload_n C 1 dX1_eatsOf_8 rfl ?_
    refine j_ialdN C 38 0 rfl rfl p rfl (by omega) (by decide) dX1_eatsOf_9 ?_
    refine j_v (nI 6) ((hF.per 0 (by omega) p (by omega)).trans ek) ?_
    refine j_aaldN C 32 1 rfl rfl 6 rfl (by decide) (by decide) rfl dX1_eatsOf_10 ?_
    refine j_aload_n C 0 dX1_eatsOf_11 rfl ?_
    refine j_get C (v := .ref (q 39)) 3 6 rfl rfl inlC1 (by decide) kf1_31 rfl dX1_eatsOf_12 ?_
    refine j_iload_n C 1 dX1_eatsOf_15 rfl ?_
    refine j_ialdN C 39 0 rfl rfl p rfl (by omega) (by decide) dX1_eatsOf_16 ?_
    refine j_v (row (30 + 6 * p + 1)) (hF.per 1 (by omega) p (by omega)) ?_
    refine j_callU (As := [.int (row (30 + 6 * p + 1))]) (rest := []) C uw1_98_7 (h_X7_eats_31) ⟨31, 7, _, _, rfl, rfl, rfl⟩ rfl (Nat.le_of_ble_eq_true rfl) dX1_eatsOf_17 (by decide) ?_
    rintro _ _ ⟨rfl, rfl⟩
    refine j_iret C dX1_eatsOf_20 ?_
    refine ⟨?_, rfl⟩
    rw [eatF_eq ek (by omega)]
    rfl
theorem dX1_burdenOf_0 : decode cX1_burdenOf 0 = .ok (.aload_n 0, 1) := by decide +kernel
theorem dX1_burdenOf_1 : decode cX1_burdenOf 1 = .ok (.getfield 52, 3) := by decide +kernel
theorem dX1_burdenOf_4 : decode cX1_burdenOf 4 = .ok (.aload_n 0, 1) := by decide +kernel
theorem dX1_burdenOf_5 : decode cX1_burdenOf 5 = .ok (.getfield 28, 3) := by decide +kernel
theorem dX1_burdenOf_8 : decode cX1_burdenOf 8 = .ok (.iload_n 1, 1) := by decide +kernel
theorem dX1_burdenOf_9 : decode cX1_burdenOf 9 = .ok (.iaload, 1) := by decide +kernel
theorem dX1_burdenOf_10 : decode cX1_burdenOf 10 = .ok (.aaload, 1) := by decide +kernel
theorem dX1_burdenOf_11 : decode cX1_burdenOf 11 = .ok (.aload_n 0, 1) := by decide +kernel
theorem dX1_burdenOf_12 : decode cX1_burdenOf 12 = .ok (.getfield 31, 3) := by decide +kernel
theorem dX1_burdenOf_15 : decode cX1_burdenOf 15 = .ok (.iload_n 1, 1) := by decide +kernel
theorem dX1_burdenOf_16 : decode cX1_burdenOf 16 = .ok (.iaload, 1) := by decide +kernel
theorem dX1_burdenOf_17 : decode cX1_burdenOf 17 = .ok (.invokevirtual 101, 3) := by decide +kernel
theorem dX1_burdenOf_20 : decode cX1_burdenOf 20 = .ok (.ireturn, 1) := by decide +kernel
set_option maxHeartbeats 2000000 in
set_option maxRecDepth 20000 in
theorem h_burdenOf_0 {l : Launch} {D : va_G} {cI cG cW : ClassId} {q : Nat → Nat} {S : Nat → Int32} {X : Nat → Nat → Int32} {P : Nat → Nat} {row w : Nat → Int32} {nc np : Nat} (hF : CF S X 0 row w nc np) (hn6 : np ≤ 6) (p : Nat) (hp : p < np) {k : Nat} (hk : k ≤ 6) (ek : row (30 + 6 * p + 0) = nI k) : Ci l yX1_burdenOf cX1_burdenOf 2 (some .int) 3 D (tyL cI cG cW) (wC cI cG cW q) [.ref (q 3), .int (nI p)] (S, X, P) (fun r τ => r = (if row (30 + 6 * p + 0) = nI 6 then row (30 + 6 * p + 1) else nI 0) ∧ τ = (S, X, P)) := by
  refine Ci.of (by decide) (Nat.le_of_ble_eq_true rfl) ?_
  intro p_ e_ s_ m_ b_ M_ c_ A_ C
  replace C : Cx _ _ _ _ _ _ _ _ RX1 _ _ _ _ := C
  refine j_L [0, 1] [(0, .ref (q 3)), (1, .int (nI p))] rfl ?_
  rcases (show k = 0 ∨ k = 1 ∨ k = 2 ∨ k = 3 ∨ k = 4 ∨ k = 5 ∨ k = 6 by omega) with rfl | rfl | rfl | rfl | rfl | rfl | rfl
  · refine j_aload_n C 0 dX1_burdenOf_0 rfl ?_
    refine j_get C (v := .ref (q 32)) 3 13 rfl rfl inlC1 (by decide) kf1_52 rfl dX1_burdenOf_1 ?_
    refine j_aload_n C 0 dX1_burdenOf_4 rfl ?_
    refine j_get C (v := .ref (q 38)) 3 5 rfl rfl inlC1 (by decide) kf1_28 rfl dX1_burdenOf_5 ?_
    refine j_iload_n C 1 dX1_burdenOf_8 rfl ?_
    refine j_ialdN C 38 0 rfl rfl p rfl (by omega) (by decide) dX1_burdenOf_9 ?_
    refine j_v (nI 0) ((hF.per 0 (by omega) p (by omega)).trans ek) ?_
    refine j_aaldN C 32 1 rfl rfl 0 rfl (by decide) (by decide) rfl dX1_burdenOf_10 ?_
    refine j_aload_n C 0 dX1_burdenOf_11 rfl ?_
    refine j_get C (v := .ref (q 39)) 3 6 rfl rfl inlC1 (by decide) kf1_31 rfl dX1_burdenOf_12 ?_
    refine j_iload_n C 1 dX1_burdenOf_15 rfl ?_
    refine j_ialdN C 39 0 rfl rfl p rfl (by omega) (by decide) dX1_burdenOf_16 ?_
    refine j_v (row (30 + 6 * p + 1)) (hF.per 1 (by omega) p (by omega)) ?_
    refine j_callU (As := [.int (row (30 + 6 * p + 1))]) (rest := []) C uw1_101_2 (h_X2_burden_25) ⟨25, 2, _, _, rfl, rfl, rfl⟩ rfl (Nat.le_of_ble_eq_true rfl) dX1_burdenOf_17 (by decide) ?_
    rintro _ _ ⟨rfl, rfl⟩
    refine j_iret C dX1_burdenOf_20 ?_
    refine ⟨?_, rfl⟩
    rw [ek]
    rfl
  · refine j_aload_n C 0 dX1_burdenOf_0 rfl ?_
    refine j_get C (v := .ref (q 32)) 3 13 rfl rfl inlC1 (by decide) kf1_52 rfl dX1_burdenOf_1 ?_
    refine j_aload_n C 0 dX1_burdenOf_4 rfl ?_
    refine j_get C (v := .ref (q 38)) 3 5 rfl rfl inlC1 (by decide) kf1_28 rfl dX1_burdenOf_5 ?_
    refine j_iload_n C 1 dX1_burdenOf_8 rfl ?_
    refine j_ialdN C 38 0 rfl rfl p rfl (by omega) (by decide) dX1_burdenOf_9 ?_
    refine j_v (nI 1) ((hF.per 0 (by omega) p (by omega)).trans ek) ?_
    refine j_aaldN C 32 1 rfl rfl 1 rfl (by decide) (by decide) rfl dX1_burdenOf_10 ?_
    refine j_aload_n C 0 dX1_burdenOf_11 rfl ?_
    refine j_get C (v := .ref (q 39)) 3 6 rfl rfl inlC1 (by decide) kf1_31 rfl dX1_burdenOf_12 ?_
    refine j_iload_n C 1 dX1_burdenOf_15 rfl ?_
    refine j_ialdN C 39 0 rfl rfl p rfl (by omega) (by decide) dX1_burdenOf_16 ?_
    refine j_v (row (30 + 6 * p + 1)) (hF.per 1 (by omega) p (by omega)) ?_
    refine j_callU (As := [.int (row (30 + 6 * p + 1))]) (rest := []) C uw1_101_10 (h_X2_burden_26) ⟨26, 10, _, _, rfl, rfl, rfl⟩ rfl (Nat.le_of_ble_eq_true rfl) dX1_burdenOf_17 (by decide) ?_
    rintro _ _ ⟨rfl, rfl⟩
    refine j_iret C dX1_burdenOf_20 ?_
    refine ⟨?_, rfl⟩
    rw [ek]
    rfl
  · refine j_aload_n C 0 dX1_burdenOf_0 rfl ?_
    refine j_get C (v := .ref (q 32)) 3 13 rfl rfl inlC1 (by decide) kf1_52 rfl dX1_burdenOf_1 ?_
    refine j_aload_n C 0 dX1_burdenOf_4 rfl ?_
    refine j_get C (v := .ref (q 38)) 3 5 rfl rfl inlC1 (by decide) kf1_28 rfl dX1_burdenOf_5 ?_
    refine j_iload_n C 1 dX1_burdenOf_8 rfl ?_
    refine j_ialdN C 38 0 rfl rfl p rfl (by omega) (by decide) dX1_burdenOf_9 ?_
    refine j_v (nI 2) ((hF.per 0 (by omega) p (by omega)).trans ek) ?_
    refine j_aaldN C 32 1 rfl rfl 2 rfl (by decide) (by decide) rfl dX1_burdenOf_10 ?_
    refine j_aload_n C 0 dX1_burdenOf_11 rfl ?_
    refine j_get C (v := .ref (q 39)) 3 6 rfl rfl inlC1 (by decide) kf1_31 rfl dX1_burdenOf_12 ?_
    refine j_iload_n C 1 dX1_burdenOf_15 rfl ?_
    refine j_ialdN C 39 0 rfl rfl p rfl (by omega) (by decide) dX1_burdenOf_16 ?_
    refine j_v (row (30 + 6 * p + 1)) (hF.per 1 (by omega) p (by omega)) ?_
    refine j_callU (As := [.int (row (30 + 6 * p + 1))]) (rest := []) C uw1_101_0 (h_X2_burden_27) ⟨27, 0, _, _, rfl, rfl, rfl⟩ rfl (Nat.le_of_ble_eq_true rfl) dX1_burdenOf_17 (by decide) ?_
    rintro _ _ ⟨rfl, rfl⟩
    refine j_iret C dX1_burdenOf_20 ?_
    refine ⟨?_, rfl⟩
    rw [ek]
    rfl
  · refine j_aload_n C 0 dX1_burdenOf_0 rfl ?_
    refine j_get C (v := .ref (q 32)) 3 13 rfl rfl inlC1 (by decide) kf1_52 rfl dX1_burdenOf_1 ?_
    refine j_aload_n C 0 dX1_burdenOf_4 rfl ?_
    refine j_get C (v := .ref (q 38)) 3 5 rfl rfl inlC1 (by decide) kf1_28 rfl dX1_burdenOf_5 ?_
    refine j_iload_n C 1 dX1_burdenOf_8 rfl ?_
    refine j_ialdN C 38 0 rfl rfl p rfl (by omega) (by decide) dX1_burdenOf_9 ?_
    refine j_v (nI 3) ((hF.per 0 (by omega) p (by omega)).trans ek) ?_
    refine j_aaldN C 32 1 rfl rfl 3 rfl (by decide) (by decide) rfl dX1_burdenOf_10 ?_
    refine j_aload_n C 0 dX1_burdenOf_11 rfl ?_
    refine j_get C (v := .ref (q 39)) 3 6 rfl rfl inlC1 (by decide) kf1_31 rfl dX1_burdenOf_12 ?_
    refine j_iload_n C 1 dX1_burdenOf_15 rfl ?_
    refine j_ialdN C 39 0 rfl rfl p rfl (by omega) (by decide) dX1_burdenOf_16 ?_
    refine j_v (row (30 + 6 * p + 1)) (hF.per 1 (by omega) p (by omega)) ?_
    refine j_callU (As := [.int (row (30 + 6 * p + 1))]) (rest := []) C uw1_101_9 (h_X2_burden_28) ⟨28, 9, _, _, rfl, rfl, rfl⟩ rfl (Nat.le_of_ble_eq_true rfl) dX1_burdenOf_17 (by decide) ?_
    rintro _ _ ⟨rfl, rfl⟩
    refine j_iret C dX1_burdenOf_20 ?_
    refine ⟨?_, rfl⟩
    rw [ek]
    rfl
  · refine j_aload_n C 0 dX1_burdenOf_0 rfl ?_
    refine j_get C (v := .ref (q 32)) 3 13 rfl rfl inlC1 (by decide) kf1_52 rfl dX1_burdenOf_1 ?_
    refine j_aload_n C 0 dX1_burdenOf_4 rfl ?_
    refine j_get C (v := .ref (q 38)) 3 5 rfl rfl inlC1 (by decide) kf1_28 rfl dX1_burdenOf_5 ?_
    refine j_iload_n C 1 dX1_burdenOf_8 rfl ?_
    refine j_ialdN C 38 0 rfl rfl p rfl (by omega) (by decide) dX1_burdenOf_9 ?_
    refine j_v (nI 4) ((hF.per 0 (by omega) p (by omega)).trans ek) ?_
    refine j_aaldN C 32 1 rfl rfl 4 rfl (by decide) (by decide) rfl dX1_burdenOf_10 ?_
    refine j_aload_n C 0 dX1_burdenOf_11 rfl ?_
    refine j_get C (v := .ref (q 39)) 3 6 rfl rfl inlC1 (by decide) kf1_31 rfl dX1_burdenOf_12 ?_
    refine j_iload_n C 1 dX1_burdenOf_15 rfl ?_
    refine j_ialdN C 39 0 rfl rfl p rfl (by omega) (by decide) dX1_burdenOf_16 ?_
    refine j_v (row (30 + 6 * p + 1)) (hF.per 1 (by omega) p (by omega)) ?_
    refine j_callU (As := [.int (row (30 + 6 * p + 1))]) (rest := []) C uw1_101_5 (h_X2_burden_29) ⟨29, 5, _, _, rfl, rfl, rfl⟩ rfl (Nat.le_of_ble_eq_true rfl) dX1_burdenOf_17 (by decide) ?_
    rintro _ _ ⟨rfl, rfl⟩
    refine j_iret C dX1_burdenOf_20 ?_
    refine ⟨?_, rfl⟩
    rw [ek]
    rfl
  · refine j_aload_n C 0 dX1_burdenOf_0 rfl ?_
    refine j_get C (v := .ref (q 32)) 3 13 rfl rfl inlC1 (by decide) kf1_52 rfl dX1_burdenOf_1 ?_
    refine j_aload_n C 0 dX1_burdenOf_4 rfl ?_
    refine j_get C (v := .ref (q 38)) 3 5 rfl rfl inlC1 (by decide) kf1_28 rfl dX1_burdenOf_5 ?_
    refine j_iload_n C 1 dX1_burdenOf_8 rfl ?_
    refine j_ialdN C 38 0 rfl rfl p rfl (by omega) (by decide) dX1_burdenOf_9 ?_
    refine j_v (nI 5) ((hF.per 0 (by omega) p (by omega)).trans ek) ?_
    refine j_aaldN C 32 1 rfl rfl 5 rfl (by decide) (by decide) rfl dX1_burdenOf_10 ?_
    refine j_aload_n C 0 dX1_burdenOf_11 rfl ?_
    refine j_get C (v := .ref (q 39)) 3 6 rfl rfl inlC1 (by decide) kf1_31 rfl dX1_burdenOf_12 ?_
    refine j_iload_n C 1 dX1_burdenOf_15 rfl ?_
    refine j_ialdN C 39 0 rfl rfl p rfl (by omega) (by decide) dX1_burdenOf_16 ?_
    refine j_v (row (30 + 6 * p + 1)) (hF.per 1 (by omega) p (by omega)) ?_
    refine j_callU (As := [.int (row (30 + 6 * p + 1))]) (rest := []) C uw1_101_6 (h_X2_burden_30) ⟨30, 6, _, _, rfl, rfl, rfl⟩ rfl (Nat.le_of_ble_eq_true rfl) dX1_burdenOf_17 (by decide) ?_
    rintro _ _ ⟨rfl, rfl⟩
    refine j_iret C dX1_burdenOf_20 ?_
    refine ⟨?_, rfl⟩
    rw [ek]
    rfl
  · refine j_aload_n C 0 dX1_burdenOf_0 rfl ?_
    refine j_get C (v := .ref (q 32)) 3 13 rfl rfl inlC1 (by decide) kf1_52 rfl dX1_burdenOf_1 ?_
    refine j_aload_n C 0 dX1_burdenOf_4 rfl ?_
    refine j_get C (v := .ref (q 38)) 3 5 rfl rfl inlC1 (by decide) kf1_28 rfl dX1_burdenOf_5 ?_
    refine j_iload_n C 1 dX1_burdenOf_8 rfl ?_
    refine j_ialdN C 38 0 rfl rfl p rfl (by omega) (by decide) dX1_burdenOf_9 ?_
    refine j_v (nI 6) ((hF.per 0 (by omega) p (by omega)).trans ek) ?_
    refine j_aaldN C 32 1 rfl rfl 6 rfl (by decide) (by decide) rfl dX1_burdenOf_10 ?_
    refine j_aload_n C 0 dX1_burdenOf_11 rfl ?_
    refine j_get C (v := .ref (q 39)) 3 6 rfl rfl inlC1 (by decide) kf1_31 rfl dX1_burdenOf_12 ?_
    refine j_iload_n C 1 dX1_burdenOf_15 rfl ?_
    refine j_ialdN C 39 0 rfl rfl p rfl (by omega) (by decide) dX1_burdenOf_16 ?_
    refine j_v (row (30 + 6 * p + 1)) (hF.per 1 (by omega) p (by omega)) ?_
    refine j_callU (As := [.int (row (30 + 6 * p + 1))]) (rest := []) C uw1_101_7 (h_X7_burden_31) ⟨31, 7, _, _, rfl, rfl, rfl⟩ rfl (Nat.le_of_ble_eq_true rfl) dX1_burdenOf_17 (by decide) ?_
    rintro _ _ ⟨rfl, rfl⟩
    refine j_iret C dX1_burdenOf_20 ?_
    refine ⟨?_, rfl⟩
    rw [ek]
    rfl
theorem dX1_bendsOf_0 : decode cX1_bendsOf 0 = .ok (.aload_n 0, 1) := by decide +kernel
theorem dX1_bendsOf_1 : decode cX1_bendsOf 1 = .ok (.getfield 56, 3) := by decide +kernel
theorem dX1_bendsOf_4 : decode cX1_bendsOf 4 = .ok (.aload_n 0, 1) := by decide +kernel
theorem dX1_bendsOf_5 : decode cX1_bendsOf 5 = .ok (.getfield 46, 3) := by decide +kernel
theorem dX1_bendsOf_8 : decode cX1_bendsOf 8 = .ok (.iload_n 1, 1) := by decide +kernel
theorem dX1_bendsOf_9 : decode cX1_bendsOf 9 = .ok (.iaload, 1) := by decide +kernel
theorem dX1_bendsOf_10 : decode cX1_bendsOf 10 = .ok (.aload_n 0, 1) := by decide +kernel
theorem dX1_bendsOf_11 : decode cX1_bendsOf 11 = .ok (.getfield 31, 3) := by decide +kernel
theorem dX1_bendsOf_14 : decode cX1_bendsOf 14 = .ok (.iload_n 1, 1) := by decide +kernel
theorem dX1_bendsOf_15 : decode cX1_bendsOf 15 = .ok (.iaload, 1) := by decide +kernel
theorem dX1_bendsOf_16 : decode cX1_bendsOf 16 = .ok (.aload_n 0, 1) := by decide +kernel
theorem dX1_bendsOf_17 : decode cX1_bendsOf 17 = .ok (.getfield 22, 3) := by decide +kernel
theorem dX1_bendsOf_20 : decode cX1_bendsOf 20 = .ok (.invokevirtual 82, 3) := by decide +kernel
theorem dX1_bendsOf_23 : decode cX1_bendsOf 23 = .ok (.istore_n 2, 1) := by decide +kernel
theorem dX1_bendsOf_24 : decode cX1_bendsOf 24 = .ok (.aload_n 0, 1) := by decide +kernel
theorem dX1_bendsOf_25 : decode cX1_bendsOf 25 = .ok (.getfield 52, 3) := by decide +kernel
theorem dX1_bendsOf_28 : decode cX1_bendsOf 28 = .ok (.aload_n 0, 1) := by decide +kernel
theorem dX1_bendsOf_29 : decode cX1_bendsOf 29 = .ok (.getfield 28, 3) := by decide +kernel
theorem dX1_bendsOf_32 : decode cX1_bendsOf 32 = .ok (.iload_n 1, 1) := by decide +kernel
theorem dX1_bendsOf_33 : decode cX1_bendsOf 33 = .ok (.iaload, 1) := by decide +kernel
theorem dX1_bendsOf_34 : decode cX1_bendsOf 34 = .ok (.aaload, 1) := by decide +kernel
theorem dX1_bendsOf_35 : decode cX1_bendsOf 35 = .ok (.iload_n 2, 1) := by decide +kernel
theorem dX1_bendsOf_36 : decode cX1_bendsOf 36 = .ok (.aload_n 0, 1) := by decide +kernel
theorem dX1_bendsOf_37 : decode cX1_bendsOf 37 = .ok (.getfield 31, 3) := by decide +kernel
theorem dX1_bendsOf_40 : decode cX1_bendsOf 40 = .ok (.iload_n 1, 1) := by decide +kernel
theorem dX1_bendsOf_41 : decode cX1_bendsOf 41 = .ok (.iaload, 1) := by decide +kernel
theorem dX1_bendsOf_42 : decode cX1_bendsOf 42 = .ok (.aload_n 0, 1) := by decide +kernel
theorem dX1_bendsOf_43 : decode cX1_bendsOf 43 = .ok (.aload_n 0, 1) := by decide +kernel
theorem dX1_bendsOf_44 : decode cX1_bendsOf 44 = .ok (.getfield 34, 3) := by decide +kernel
theorem dX1_bendsOf_47 : decode cX1_bendsOf 47 = .ok (.iload_n 1, 1) := by decide +kernel
theorem dX1_bendsOf_48 : decode cX1_bendsOf 48 = .ok (.iaload, 1) := by decide +kernel
theorem dX1_bendsOf_49 : decode cX1_bendsOf 49 = .ok (.invokevirtual 88, 3) := by decide +kernel
theorem dX1_bendsOf_52 : decode cX1_bendsOf 52 = .ok (.iconst 1, 1) := by decide +kernel
theorem dX1_bendsOf_53 : decode cX1_bendsOf 53 = .ok (.iload_n 1, 1) := by decide +kernel
theorem dX1_bendsOf_54 : decode cX1_bendsOf 54 = .ok (.ishl, 1) := by decide +kernel
theorem dX1_bendsOf_55 : decode cX1_bendsOf 55 = .ok (.if_icmp .eq 7, 3) := by decide +kernel
theorem dX1_bendsOf_58 : decode cX1_bendsOf 58 = .ok (.iconst 1, 1) := by decide +kernel
theorem dX1_bendsOf_59 : decode cX1_bendsOf 59 = .ok (.goto 4, 3) := by decide +kernel
theorem dX1_bendsOf_62 : decode cX1_bendsOf 62 = .ok (.iconst 0, 1) := by decide +kernel
theorem dX1_bendsOf_63 : decode cX1_bendsOf 63 = .ok (.invokevirtual 92, 3) := by decide +kernel
theorem dX1_bendsOf_66 : decode cX1_bendsOf 66 = .ok (.ireturn, 1) := by decide +kernel
set_option maxHeartbeats 2000000 in
set_option maxRecDepth 20000 in
theorem h_bendsOf_0 {l : Launch} {D : va_G} {cI cG cW : ClassId} {q : Nat → Nat} {S : Nat → Int32} {X : Nat → Nat → Int32} {P : Nat → Nat} {row w : Nat → Int32} {nc np : Nat} (hF : CF S X 0 row w nc np) (e3 : row 3 = nI np) (hn6 : np ≤ 6) (p : Nat) (hp : p < np) {k : Nat} (hk : k ≤ 6) (ek : row (30 + 6 * p + 0) = nI k) (hL0 : CLaw S X 0 row 0) : Ci l yX1_bendsOf cX1_bendsOf 3 (some .int) 5 D (tyL cI cG cW) (wC cI cG cW q) [.ref (q 3), .int (nI p)] (S, X, P) (fun r τ => r = bendF row np (w p) p ∧ ∃ g, τ = (S, va_up X 86 g, P)) := by
  refine Ci.of (by decide) (Nat.le_of_ble_eq_true rfl) ?_
  intro p_ e_ s_ m_ b_ M_ c_ A_ C
  replace C : Cx _ _ _ _ _ _ _ _ RX1 _ _ _ _ := C
  refine j_L [0, 1] [(0, .ref (q 3)), (1, .int (nI p))] rfl ?_
  rcases (show k = 0 ∨ k = 1 ∨ k = 2 ∨ k = 3 ∨ k = 4 ∨ k = 5 ∨ k = 6 by omega) with rfl | rfl | rfl | rfl | rfl | rfl | rfl
  · refine j_aload_n C 0 dX1_bendsOf_0 rfl ?_
    refine j_get C (v := .ref (q 6)) 3 14 rfl rfl inlC1 (by decide) kf1_56 rfl dX1_bendsOf_1 ?_
    refine j_aload_n C 0 dX1_bendsOf_4 rfl ?_
    refine j_get C (v := .ref (q 44)) 3 11 rfl rfl inlC1 (by decide) kf1_46 rfl dX1_bendsOf_5 ?_
    refine j_iload_n C 1 dX1_bendsOf_8 rfl ?_
    refine j_ialdN C 44 0 rfl rfl p rfl (by omega) (by decide) dX1_bendsOf_9 ?_
    refine j_v (w p) (hF.weighs p (by omega)) ?_
    refine j_aload_n C 0 dX1_bendsOf_10 rfl ?_
    refine j_get C (v := .ref (q 39)) 3 6 rfl rfl inlC1 (by decide) kf1_31 rfl dX1_bendsOf_11 ?_
    refine j_iload_n C 1 dX1_bendsOf_14 rfl ?_
    refine j_ialdN C 39 0 rfl rfl p rfl (by omega) (by decide) dX1_bendsOf_15 ?_
    refine j_v (row (30 + 6 * p + 1)) (hF.per 1 (by omega) p (by omega)) ?_
    refine j_aload_n C 0 dX1_bendsOf_16 rfl ?_
    refine j_get C (v := .int (S 6)) 3 3 rfl rfl inlC1 (by decide) kf1_22 rfl dX1_bendsOf_17 ?_
    refine j_v (row 0) hF.dawn ?_
    refine j_callVN (As := [.int (w p), .int (row (30 + 6 * p + 1)), .int (row 0)]) (rest := []) C vn1_82 (h_gives_0 hL0) ⟨6, 4, _, _, rfl, rfl, rfl⟩ rfl (Nat.le_of_ble_eq_true rfl) dX1_bendsOf_20 (by decide) ?_
    rintro _ _ ⟨rfl, g86, rfl⟩
    refine j_istore_n C [(2, .int (lawF row 0 (w p) (row (30 + 6 * p + 1)) (row 0))), (0, .ref (q 3)), (1, .int (nI p))] dX1_bendsOf_23 (by decide) rfl ?_
    refine j_aload_n C 1 dX1_bendsOf_24 rfl ?_
    refine j_get C (v := .ref (q 32)) 3 13 rfl rfl inlC1 (by decide) kf1_52 rfl dX1_bendsOf_25 ?_
    refine j_aload_n C 1 dX1_bendsOf_28 rfl ?_
    refine j_get C (v := .ref (q 38)) 3 5 rfl rfl inlC1 (by decide) kf1_28 rfl dX1_bendsOf_29 ?_
    refine j_iload_n C 2 dX1_bendsOf_32 rfl ?_
    refine j_ialdN C 38 0 rfl rfl p rfl (by omega) (by decide) dX1_bendsOf_33 ?_
    refine j_v (nI 0) ((hF.per 0 (by omega) p (by omega)).trans ek) ?_
    refine j_aaldN C 32 1 rfl rfl 0 rfl (by decide) (by decide) rfl dX1_bendsOf_34 ?_
    refine j_iload_n C 0 dX1_bendsOf_35 rfl ?_
    refine j_aload_n C 1 dX1_bendsOf_36 rfl ?_
    refine j_get C (v := .ref (q 39)) 3 6 rfl rfl inlC1 (by decide) kf1_31 rfl dX1_bendsOf_37 ?_
    refine j_iload_n C 2 dX1_bendsOf_40 rfl ?_
    refine j_ialdN C 39 0 rfl rfl p rfl (by omega) (by decide) dX1_bendsOf_41 ?_
    refine j_v (row (30 + 6 * p + 1)) (hF.per 1 (by omega) p (by omega)) ?_
    refine j_aload_n C 1 dX1_bendsOf_42 rfl ?_
    refine j_aload_n C 1 dX1_bendsOf_43 rfl ?_
    refine j_get C (v := .ref (q 40)) 3 7 rfl rfl inlC1 (by decide) kf1_34 rfl dX1_bendsOf_44 ?_
    refine j_iload_n C 2 dX1_bendsOf_47 rfl ?_
    refine j_ialdN C 40 0 rfl rfl p rfl (by omega) (by decide) dX1_bendsOf_48 ?_
    refine j_v (row (30 + 6 * p + 2)) (hF.per 2 (by omega) p (by omega)) ?_
    refine j_callV (As := [.int (row (30 + 6 * p + 2))]) (rest := [.int (row (30 + 6 * p + 1)), .int (lawF row 0 (w p) (row (30 + 6 * p + 1)) (row 0)), .ref (q 25)]) C vw1_88 (h_who_0 (hF.oth (by omega)) e3 hn6) ⟨3, 1, _, _, rfl, rfl, rfl⟩ rfl (Nat.le_of_ble_eq_true rfl) dX1_bendsOf_49 (by decide) ?_
    rintro _ _ ⟨rfl, rfl⟩
    refine j_iconst C (v := (nI 1)) dX1_bendsOf_52 (by decide) ?_
    refine j_iload_n C 2 dX1_bendsOf_53 rfl ?_
    refine j_ishl C dX1_bendsOf_54 ?_
    refine j_icmp_eq C 62 dX1_bendsOf_55 (by decide) (fun c55 => ?_) (fun c55 => ?_)
    · skip
      refine j_iconst C (v := (nI 0)) dX1_bendsOf_62 (by decide) ?_
      refine j_callU (As := [.int (lawF row 0 (w p) (row (30 + 6 * p + 1)) (row 0)), .int (row (30 + 6 * p + 1)), .int (nI 0)]) (rest := []) C uw1_92_2 (h_X2_bends_25) ⟨25, 2, _, _, rfl, rfl, rfl⟩ rfl (Nat.le_of_ble_eq_true rfl) dX1_bendsOf_63 (by decide) ?_
      rintro _ _ ⟨rfl, rfl⟩
      refine j_iret C dX1_bendsOf_66 ?_
      refine ⟨?_, g86, rfl⟩
      rw [bendF_eq ek (by omega)]
      rfl
    · skip
      refine j_iconst C (v := (nI 1)) dX1_bendsOf_58 (by decide) ?_
      refine j_goto C 63 dX1_bendsOf_59 (by decide) ?_
      refine j_callU (As := [.int (lawF row 0 (w p) (row (30 + 6 * p + 1)) (row 0)), .int (row (30 + 6 * p + 1)), .int (nI 1)]) (rest := []) C uw1_92_2 (h_X2_bends_25) ⟨25, 2, _, _, rfl, rfl, rfl⟩ rfl (Nat.le_of_ble_eq_true rfl) dX1_bendsOf_63 (by decide) ?_
      rintro _ _ ⟨rfl, rfl⟩
      refine j_iret C dX1_bendsOf_66 ?_
      refine ⟨?_, g86, rfl⟩
      rw [bendF_eq ek (by omega)]
      rfl
  · refine j_aload_n C 0 dX1_bendsOf_0 rfl ?_
    refine j_get C (v := .ref (q 6)) 3 14 rfl rfl inlC1 (by decide) kf1_56 rfl dX1_bendsOf_1 ?_
    refine j_aload_n C 0 dX1_bendsOf_4 rfl ?_
    refine j_get C (v := .ref (q 44)) 3 11 rfl rfl inlC1 (by decide) kf1_46 rfl dX1_bendsOf_5 ?_
    refine j_iload_n C 1 dX1_bendsOf_8 rfl ?_
    refine j_ialdN C 44 0 rfl rfl p rfl (by omega) (by decide) dX1_bendsOf_9 ?_
    refine j_v (w p) (hF.weighs p (by omega)) ?_
    refine j_aload_n C 0 dX1_bendsOf_10 rfl ?_
    refine j_get C (v := .ref (q 39)) 3 6 rfl rfl inlC1 (by decide) kf1_31 rfl dX1_bendsOf_11 ?_
    refine j_iload_n C 1 dX1_bendsOf_14 rfl ?_
    refine j_ialdN C 39 0 rfl rfl p rfl (by omega) (by decide) dX1_bendsOf_15 ?_
    refine j_v (row (30 + 6 * p + 1)) (hF.per 1 (by omega) p (by omega)) ?_
    refine j_aload_n C 0 dX1_bendsOf_16 rfl ?_
    refine j_get C (v := .int (S 6)) 3 3 rfl rfl inlC1 (by decide) kf1_22 rfl dX1_bendsOf_17 ?_
    refine j_v (row 0) hF.dawn ?_
    refine j_callVN (As := [.int (w p), .int (row (30 + 6 * p + 1)), .int (row 0)]) (rest := []) C vn1_82 (h_gives_0 hL0) ⟨6, 4, _, _, rfl, rfl, rfl⟩ rfl (Nat.le_of_ble_eq_true rfl) dX1_bendsOf_20 (by decide) ?_
    rintro _ _ ⟨rfl, g86, rfl⟩
    refine j_istore_n C [(2, .int (lawF row 0 (w p) (row (30 + 6 * p + 1)) (row 0))), (0, .ref (q 3)), (1, .int (nI p))] dX1_bendsOf_23 (by decide) rfl ?_
    refine j_aload_n C 1 dX1_bendsOf_24 rfl ?_
    refine j_get C (v := .ref (q 32)) 3 13 rfl rfl inlC1 (by decide) kf1_52 rfl dX1_bendsOf_25 ?_
    refine j_aload_n C 1 dX1_bendsOf_28 rfl ?_
    refine j_get C (v := .ref (q 38)) 3 5 rfl rfl inlC1 (by decide) kf1_28 rfl dX1_bendsOf_29 ?_
    refine j_iload_n C 2 dX1_bendsOf_32 rfl ?_
    refine j_ialdN C 38 0 rfl rfl p rfl (by omega) (by decide) dX1_bendsOf_33 ?_
    refine j_v (nI 1) ((hF.per 0 (by omega) p (by omega)).trans ek) ?_
    refine j_aaldN C 32 1 rfl rfl 1 rfl (by decide) (by decide) rfl dX1_bendsOf_34 ?_
    refine j_iload_n C 0 dX1_bendsOf_35 rfl ?_
    refine j_aload_n C 1 dX1_bendsOf_36 rfl ?_
    refine j_get C (v := .ref (q 39)) 3 6 rfl rfl inlC1 (by decide) kf1_31 rfl dX1_bendsOf_37 ?_
    refine j_iload_n C 2 dX1_bendsOf_40 rfl ?_
    refine j_ialdN C 39 0 rfl rfl p rfl (by omega) (by decide) dX1_bendsOf_41 ?_
    refine j_v (row (30 + 6 * p + 1)) (hF.per 1 (by omega) p (by omega)) ?_
    refine j_aload_n C 1 dX1_bendsOf_42 rfl ?_
    refine j_aload_n C 1 dX1_bendsOf_43 rfl ?_
    refine j_get C (v := .ref (q 40)) 3 7 rfl rfl inlC1 (by decide) kf1_34 rfl dX1_bendsOf_44 ?_
    refine j_iload_n C 2 dX1_bendsOf_47 rfl ?_
    refine j_ialdN C 40 0 rfl rfl p rfl (by omega) (by decide) dX1_bendsOf_48 ?_
    refine j_v (row (30 + 6 * p + 2)) (hF.per 2 (by omega) p (by omega)) ?_
    refine j_callV (As := [.int (row (30 + 6 * p + 2))]) (rest := [.int (row (30 + 6 * p + 1)), .int (lawF row 0 (w p) (row (30 + 6 * p + 1)) (row 0)), .ref (q 26)]) C vw1_88 (h_who_0 (hF.oth (by omega)) e3 hn6) ⟨3, 1, _, _, rfl, rfl, rfl⟩ rfl (Nat.le_of_ble_eq_true rfl) dX1_bendsOf_49 (by decide) ?_
    rintro _ _ ⟨rfl, rfl⟩
    refine j_iconst C (v := (nI 1)) dX1_bendsOf_52 (by decide) ?_
    refine j_iload_n C 2 dX1_bendsOf_53 rfl ?_
    refine j_ishl C dX1_bendsOf_54 ?_
    refine j_icmp_eq C 62 dX1_bendsOf_55 (by decide) (fun c55 => ?_) (fun c55 => ?_)
    · skip
      refine j_iconst C (v := (nI 0)) dX1_bendsOf_62 (by decide) ?_
      refine j_callU (As := [.int (lawF row 0 (w p) (row (30 + 6 * p + 1)) (row 0)), .int (row (30 + 6 * p + 1)), .int (nI 0)]) (rest := []) C uw1_92_10 (h_X10_bends_26) ⟨26, 10, _, _, rfl, rfl, rfl⟩ rfl (Nat.le_of_ble_eq_true rfl) dX1_bendsOf_63 (by decide) ?_
      rintro _ _ ⟨rfl, rfl⟩
      refine j_iret C dX1_bendsOf_66 ?_
      refine ⟨?_, g86, rfl⟩
      rw [bendF_eq ek (by omega)]
      obtain ⟨t_, ht_, hv_⟩ := lawF_nI row 0 (w p) (row (30 + 6 * p + 1)) (row 0)
      exact less_z hv_ ht_ ⟨fun _ => (who_bes hp hn6).1 c55, fun _ => rfl⟩
    · skip
      refine j_iconst C (v := (nI 1)) dX1_bendsOf_58 (by decide) ?_
      refine j_goto C 63 dX1_bendsOf_59 (by decide) ?_
      refine j_callU (As := [.int (lawF row 0 (w p) (row (30 + 6 * p + 1)) (row 0)), .int (row (30 + 6 * p + 1)), .int (nI 1)]) (rest := []) C uw1_92_10 (h_X10_bends_26) ⟨26, 10, _, _, rfl, rfl, rfl⟩ rfl (Nat.le_of_ble_eq_true rfl) dX1_bendsOf_63 (by decide) ?_
      rintro _ _ ⟨rfl, rfl⟩
      refine j_iret C dX1_bendsOf_66 ?_
      refine ⟨?_, g86, rfl⟩
      rw [bendF_eq ek (by omega)]
      obtain ⟨t_, ht_, hv_⟩ := lawF_nI row 0 (w p) (row (30 + 6 * p + 1)) (row 0)
      exact less_z hv_ ht_ ⟨fun h => absurd h (by decide), fun h => absurd ((who_bes hp hn6).2 h) c55⟩
  · refine j_aload_n C 0 dX1_bendsOf_0 rfl ?_
    refine j_get C (v := .ref (q 6)) 3 14 rfl rfl inlC1 (by decide) kf1_56 rfl dX1_bendsOf_1 ?_
    refine j_aload_n C 0 dX1_bendsOf_4 rfl ?_
    refine j_get C (v := .ref (q 44)) 3 11 rfl rfl inlC1 (by decide) kf1_46 rfl dX1_bendsOf_5 ?_
    refine j_iload_n C 1 dX1_bendsOf_8 rfl ?_
    refine j_ialdN C 44 0 rfl rfl p rfl (by omega) (by decide) dX1_bendsOf_9 ?_
    refine j_v (w p) (hF.weighs p (by omega)) ?_
    refine j_aload_n C 0 dX1_bendsOf_10 rfl ?_
    refine j_get C (v := .ref (q 39)) 3 6 rfl rfl inlC1 (by decide) kf1_31 rfl dX1_bendsOf_11 ?_
    refine j_iload_n C 1 dX1_bendsOf_14 rfl ?_
    refine j_ialdN C 39 0 rfl rfl p rfl (by omega) (by decide) dX1_bendsOf_15 ?_
    refine j_v (row (30 + 6 * p + 1)) (hF.per 1 (by omega) p (by omega)) ?_
    refine j_aload_n C 0 dX1_bendsOf_16 rfl ?_
    refine j_get C (v := .int (S 6)) 3 3 rfl rfl inlC1 (by decide) kf1_22 rfl dX1_bendsOf_17 ?_
    refine j_v (row 0) hF.dawn ?_
    refine j_callVN (As := [.int (w p), .int (row (30 + 6 * p + 1)), .int (row 0)]) (rest := []) C vn1_82 (h_gives_0 hL0) ⟨6, 4, _, _, rfl, rfl, rfl⟩ rfl (Nat.le_of_ble_eq_true rfl) dX1_bendsOf_20 (by decide) ?_
    rintro _ _ ⟨rfl, g86, rfl⟩
    refine j_istore_n C [(2, .int (lawF row 0 (w p) (row (30 + 6 * p + 1)) (row 0))), (0, .ref (q 3)), (1, .int (nI p))] dX1_bendsOf_23 (by decide) rfl ?_
    refine j_aload_n C 1 dX1_bendsOf_24 rfl ?_
    refine j_get C (v := .ref (q 32)) 3 13 rfl rfl inlC1 (by decide) kf1_52 rfl dX1_bendsOf_25 ?_
    refine j_aload_n C 1 dX1_bendsOf_28 rfl ?_
    refine j_get C (v := .ref (q 38)) 3 5 rfl rfl inlC1 (by decide) kf1_28 rfl dX1_bendsOf_29 ?_
    refine j_iload_n C 2 dX1_bendsOf_32 rfl ?_
    refine j_ialdN C 38 0 rfl rfl p rfl (by omega) (by decide) dX1_bendsOf_33 ?_
    refine j_v (nI 2) ((hF.per 0 (by omega) p (by omega)).trans ek) ?_
    refine j_aaldN C 32 1 rfl rfl 2 rfl (by decide) (by decide) rfl dX1_bendsOf_34 ?_
    refine j_iload_n C 0 dX1_bendsOf_35 rfl ?_
    refine j_aload_n C 1 dX1_bendsOf_36 rfl ?_
    refine j_get C (v := .ref (q 39)) 3 6 rfl rfl inlC1 (by decide) kf1_31 rfl dX1_bendsOf_37 ?_
    refine j_iload_n C 2 dX1_bendsOf_40 rfl ?_
    refine j_ialdN C 39 0 rfl rfl p rfl (by omega) (by decide) dX1_bendsOf_41 ?_
    refine j_v (row (30 + 6 * p + 1)) (hF.per 1 (by omega) p (by omega)) ?_
    refine j_aload_n C 1 dX1_bendsOf_42 rfl ?_
    refine j_aload_n C 1 dX1_bendsOf_43 rfl ?_
    refine j_get C (v := .ref (q 40)) 3 7 rfl rfl inlC1 (by decide) kf1_34 rfl dX1_bendsOf_44 ?_
    refine j_iload_n C 2 dX1_bendsOf_47 rfl ?_
    refine j_ialdN C 40 0 rfl rfl p rfl (by omega) (by decide) dX1_bendsOf_48 ?_
    refine j_v (row (30 + 6 * p + 2)) (hF.per 2 (by omega) p (by omega)) ?_
    refine j_callV (As := [.int (row (30 + 6 * p + 2))]) (rest := [.int (row (30 + 6 * p + 1)), .int (lawF row 0 (w p) (row (30 + 6 * p + 1)) (row 0)), .ref (q 27)]) C vw1_88 (h_who_0 (hF.oth (by omega)) e3 hn6) ⟨3, 1, _, _, rfl, rfl, rfl⟩ rfl (Nat.le_of_ble_eq_true rfl) dX1_bendsOf_49 (by decide) ?_
    rintro _ _ ⟨rfl, rfl⟩
    refine j_iconst C (v := (nI 1)) dX1_bendsOf_52 (by decide) ?_
    refine j_iload_n C 2 dX1_bendsOf_53 rfl ?_
    refine j_ishl C dX1_bendsOf_54 ?_
    refine j_icmp_eq C 62 dX1_bendsOf_55 (by decide) (fun c55 => ?_) (fun c55 => ?_)
    · skip
      refine j_iconst C (v := (nI 0)) dX1_bendsOf_62 (by decide) ?_
      refine j_callU (As := [.int (lawF row 0 (w p) (row (30 + 6 * p + 1)) (row 0)), .int (row (30 + 6 * p + 1)), .int (nI 0)]) (rest := []) C uw1_92_0 (h_X0_bends_27) ⟨27, 0, _, _, rfl, rfl, rfl⟩ rfl (Nat.le_of_ble_eq_true rfl) dX1_bendsOf_63 (by decide) ?_
      rintro _ _ ⟨rfl, rfl⟩
      refine j_iret C dX1_bendsOf_66 ?_
      refine ⟨?_, g86, rfl⟩
      rw [bendF_eq ek (by omega)]
      rfl
    · skip
      refine j_iconst C (v := (nI 1)) dX1_bendsOf_58 (by decide) ?_
      refine j_goto C 63 dX1_bendsOf_59 (by decide) ?_
      refine j_callU (As := [.int (lawF row 0 (w p) (row (30 + 6 * p + 1)) (row 0)), .int (row (30 + 6 * p + 1)), .int (nI 1)]) (rest := []) C uw1_92_0 (h_X0_bends_27) ⟨27, 0, _, _, rfl, rfl, rfl⟩ rfl (Nat.le_of_ble_eq_true rfl) dX1_bendsOf_63 (by decide) ?_
      rintro _ _ ⟨rfl, rfl⟩
      refine j_iret C dX1_bendsOf_66 ?_
      refine ⟨?_, g86, rfl⟩
      rw [bendF_eq ek (by omega)]
      rfl
  · refine j_aload_n C 0 dX1_bendsOf_0 rfl ?_
    refine j_get C (v := .ref (q 6)) 3 14 rfl rfl inlC1 (by decide) kf1_56 rfl dX1_bendsOf_1 ?_
    refine j_aload_n C 0 dX1_bendsOf_4 rfl ?_
    refine j_get C (v := .ref (q 44)) 3 11 rfl rfl inlC1 (by decide) kf1_46 rfl dX1_bendsOf_5 ?_
    refine j_iload_n C 1 dX1_bendsOf_8 rfl ?_
    refine j_ialdN C 44 0 rfl rfl p rfl (by omega) (by decide) dX1_bendsOf_9 ?_
    refine j_v (w p) (hF.weighs p (by omega)) ?_
    refine j_aload_n C 0 dX1_bendsOf_10 rfl ?_
    refine j_get C (v := .ref (q 39)) 3 6 rfl rfl inlC1 (by decide) kf1_31 rfl dX1_bendsOf_11 ?_
    refine j_iload_n C 1 dX1_bendsOf_14 rfl ?_
    refine j_ialdN C 39 0 rfl rfl p rfl (by omega) (by decide) dX1_bendsOf_15 ?_
    refine j_v (row (30 + 6 * p + 1)) (hF.per 1 (by omega) p (by omega)) ?_
    refine j_aload_n C 0 dX1_bendsOf_16 rfl ?_
    refine j_get C (v := .int (S 6)) 3 3 rfl rfl inlC1 (by decide) kf1_22 rfl dX1_bendsOf_17 ?_
    refine j_v (row 0) hF.dawn ?_
    refine j_callVN (As := [.int (w p), .int (row (30 + 6 * p + 1)), .int (row 0)]) (rest := []) C vn1_82 (h_gives_0 hL0) ⟨6, 4, _, _, rfl, rfl, rfl⟩ rfl (Nat.le_of_ble_eq_true rfl) dX1_bendsOf_20 (by decide) ?_
    rintro _ _ ⟨rfl, g86, rfl⟩
    refine j_istore_n C [(2, .int (lawF row 0 (w p) (row (30 + 6 * p + 1)) (row 0))), (0, .ref (q 3)), (1, .int (nI p))] dX1_bendsOf_23 (by decide) rfl ?_
    refine j_aload_n C 1 dX1_bendsOf_24 rfl ?_
    refine j_get C (v := .ref (q 32)) 3 13 rfl rfl inlC1 (by decide) kf1_52 rfl dX1_bendsOf_25 ?_
    refine j_aload_n C 1 dX1_bendsOf_28 rfl ?_
    refine j_get C (v := .ref (q 38)) 3 5 rfl rfl inlC1 (by decide) kf1_28 rfl dX1_bendsOf_29 ?_
    refine j_iload_n C 2 dX1_bendsOf_32 rfl ?_
    refine j_ialdN C 38 0 rfl rfl p rfl (by omega) (by decide) dX1_bendsOf_33 ?_
    refine j_v (nI 3) ((hF.per 0 (by omega) p (by omega)).trans ek) ?_
    refine j_aaldN C 32 1 rfl rfl 3 rfl (by decide) (by decide) rfl dX1_bendsOf_34 ?_
    refine j_iload_n C 0 dX1_bendsOf_35 rfl ?_
    refine j_aload_n C 1 dX1_bendsOf_36 rfl ?_
    refine j_get C (v := .ref (q 39)) 3 6 rfl rfl inlC1 (by decide) kf1_31 rfl dX1_bendsOf_37 ?_
    refine j_iload_n C 2 dX1_bendsOf_40 rfl ?_
    refine j_ialdN C 39 0 rfl rfl p rfl (by omega) (by decide) dX1_bendsOf_41 ?_
    refine j_v (row (30 + 6 * p + 1)) (hF.per 1 (by omega) p (by omega)) ?_
    refine j_aload_n C 1 dX1_bendsOf_42 rfl ?_
    refine j_aload_n C 1 dX1_bendsOf_43 rfl ?_
    refine j_get C (v := .ref (q 40)) 3 7 rfl rfl inlC1 (by decide) kf1_34 rfl dX1_bendsOf_44 ?_
    refine j_iload_n C 2 dX1_bendsOf_47 rfl ?_
    refine j_ialdN C 40 0 rfl rfl p rfl (by omega) (by decide) dX1_bendsOf_48 ?_
    refine j_v (row (30 + 6 * p + 2)) (hF.per 2 (by omega) p (by omega)) ?_
    refine j_callV (As := [.int (row (30 + 6 * p + 2))]) (rest := [.int (row (30 + 6 * p + 1)), .int (lawF row 0 (w p) (row (30 + 6 * p + 1)) (row 0)), .ref (q 28)]) C vw1_88 (h_who_0 (hF.oth (by omega)) e3 hn6) ⟨3, 1, _, _, rfl, rfl, rfl⟩ rfl (Nat.le_of_ble_eq_true rfl) dX1_bendsOf_49 (by decide) ?_
    rintro _ _ ⟨rfl, rfl⟩
    refine j_iconst C (v := (nI 1)) dX1_bendsOf_52 (by decide) ?_
    refine j_iload_n C 2 dX1_bendsOf_53 rfl ?_
    refine j_ishl C dX1_bendsOf_54 ?_
    refine j_icmp_eq C 62 dX1_bendsOf_55 (by decide) (fun c55 => ?_) (fun c55 => ?_)
    · skip
      refine j_iconst C (v := (nI 0)) dX1_bendsOf_62 (by decide) ?_
      refine j_callU (As := [.int (lawF row 0 (w p) (row (30 + 6 * p + 1)) (row 0)), .int (row (30 + 6 * p + 1)), .int (nI 0)]) (rest := []) C uw1_92_9 (h_X9_bends_28) ⟨28, 9, _, _, rfl, rfl, rfl⟩ rfl (Nat.le_of_ble_eq_true rfl) dX1_bendsOf_63 (by decide) ?_
      rintro _ _ ⟨rfl, rfl⟩
      refine j_iret C dX1_bendsOf_66 ?_
      refine ⟨?_, g86, rfl⟩
      rw [bendF_eq ek (by omega)]
      rfl
    · skip
      refine j_iconst C (v := (nI 1)) dX1_bendsOf_58 (by decide) ?_
      refine j_goto C 63 dX1_bendsOf_59 (by decide) ?_
      refine j_callU (As := [.int (lawF row 0 (w p) (row (30 + 6 * p + 1)) (row 0)), .int (row (30 + 6 * p + 1)), .int (nI 1)]) (rest := []) C uw1_92_9 (h_X9_bends_28) ⟨28, 9, _, _, rfl, rfl, rfl⟩ rfl (Nat.le_of_ble_eq_true rfl) dX1_bendsOf_63 (by decide) ?_
      rintro _ _ ⟨rfl, rfl⟩
      refine j_iret C dX1_bendsOf_66 ?_
      refine ⟨?_, g86, rfl⟩
      rw [bendF_eq ek (by omega)]
      rfl
  · refine j_aload_n C 0 dX1_bendsOf_0 rfl ?_
    refine j_get C (v := .ref (q 6)) 3 14 rfl rfl inlC1 (by decide) kf1_56 rfl dX1_bendsOf_1 ?_
    refine j_aload_n C 0 dX1_bendsOf_4 rfl ?_
    refine j_get C (v := .ref (q 44)) 3 11 rfl rfl inlC1 (by decide) kf1_46 rfl dX1_bendsOf_5 ?_
    refine j_iload_n C 1 dX1_bendsOf_8 rfl ?_
    refine j_ialdN C 44 0 rfl rfl p rfl (by omega) (by decide) dX1_bendsOf_9 ?_
    refine j_v (w p) (hF.weighs p (by omega)) ?_
    refine j_aload_n C 0 dX1_bendsOf_10 rfl ?_
    refine j_get C (v := .ref (q 39)) 3 6 rfl rfl inlC1 (by decide) kf1_31 rfl dX1_bendsOf_11 ?_
    refine j_iload_n C 1 dX1_bendsOf_14 rfl ?_
    refine j_ialdN C 39 0 rfl rfl p rfl (by omega) (by decide) dX1_bendsOf_15 ?_
    refine j_v (row (30 + 6 * p + 1)) (hF.per 1 (by omega) p (by omega)) ?_
    refine j_aload_n C 0 dX1_bendsOf_16 rfl ?_
    refine j_get C (v := .int (S 6)) 3 3 rfl rfl inlC1 (by decide) kf1_22 rfl dX1_bendsOf_17 ?_
    refine j_v (row 0) hF.dawn ?_
    refine j_callVN (As := [.int (w p), .int (row (30 + 6 * p + 1)), .int (row 0)]) (rest := []) C vn1_82 (h_gives_0 hL0) ⟨6, 4, _, _, rfl, rfl, rfl⟩ rfl (Nat.le_of_ble_eq_true rfl) dX1_bendsOf_20 (by decide) ?_
    rintro _ _ ⟨rfl, g86, rfl⟩
    refine j_istore_n C [(2, .int (lawF row 0 (w p) (row (30 + 6 * p + 1)) (row 0))), (0, .ref (q 3)), (1, .int (nI p))] dX1_bendsOf_23 (by decide) rfl ?_
    refine j_aload_n C 1 dX1_bendsOf_24 rfl ?_
    refine j_get C (v := .ref (q 32)) 3 13 rfl rfl inlC1 (by decide) kf1_52 rfl dX1_bendsOf_25 ?_
    refine j_aload_n C 1 dX1_bendsOf_28 rfl ?_
    refine j_get C (v := .ref (q 38)) 3 5 rfl rfl inlC1 (by decide) kf1_28 rfl dX1_bendsOf_29 ?_
    refine j_iload_n C 2 dX1_bendsOf_32 rfl ?_
    refine j_ialdN C 38 0 rfl rfl p rfl (by omega) (by decide) dX1_bendsOf_33 ?_
    refine j_v (nI 4) ((hF.per 0 (by omega) p (by omega)).trans ek) ?_
    refine j_aaldN C 32 1 rfl rfl 4 rfl (by decide) (by decide) rfl dX1_bendsOf_34 ?_
    refine j_iload_n C 0 dX1_bendsOf_35 rfl ?_
    refine j_aload_n C 1 dX1_bendsOf_36 rfl ?_
    refine j_get C (v := .ref (q 39)) 3 6 rfl rfl inlC1 (by decide) kf1_31 rfl dX1_bendsOf_37 ?_
    refine j_iload_n C 2 dX1_bendsOf_40 rfl ?_
    refine j_ialdN C 39 0 rfl rfl p rfl (by omega) (by decide) dX1_bendsOf_41 ?_
    refine j_v (row (30 + 6 * p + 1)) (hF.per 1 (by omega) p (by omega)) ?_
    refine j_aload_n C 1 dX1_bendsOf_42 rfl ?_
    refine j_aload_n C 1 dX1_bendsOf_43 rfl ?_
    refine j_get C (v := .ref (q 40)) 3 7 rfl rfl inlC1 (by decide) kf1_34 rfl dX1_bendsOf_44 ?_
    refine j_iload_n C 2 dX1_bendsOf_47 rfl ?_
    refine j_ialdN C 40 0 rfl rfl p rfl (by omega) (by decide) dX1_bendsOf_48 ?_
    refine j_v (row (30 + 6 * p + 2)) (hF.per 2 (by omega) p (by omega)) ?_
    refine j_callV (As := [.int (row (30 + 6 * p + 2))]) (rest := [.int (row (30 + 6 * p + 1)), .int (lawF row 0 (w p) (row (30 + 6 * p + 1)) (row 0)), .ref (q 29)]) C vw1_88 (h_who_0 (hF.oth (by omega)) e3 hn6) ⟨3, 1, _, _, rfl, rfl, rfl⟩ rfl (Nat.le_of_ble_eq_true rfl) dX1_bendsOf_49 (by decide) ?_
    rintro _ _ ⟨rfl, rfl⟩
    refine j_iconst C (v := (nI 1)) dX1_bendsOf_52 (by decide) ?_
    refine j_iload_n C 2 dX1_bendsOf_53 rfl ?_
    refine j_ishl C dX1_bendsOf_54 ?_
    refine j_icmp_eq C 62 dX1_bendsOf_55 (by decide) (fun c55 => ?_) (fun c55 => ?_)
    · skip
      refine j_iconst C (v := (nI 0)) dX1_bendsOf_62 (by decide) ?_
      refine j_callU (As := [.int (lawF row 0 (w p) (row (30 + 6 * p + 1)) (row 0)), .int (row (30 + 6 * p + 1)), .int (nI 0)]) (rest := []) C uw1_92_5 (h_X5_bends_29) ⟨29, 5, _, _, rfl, rfl, rfl⟩ rfl (Nat.le_of_ble_eq_true rfl) dX1_bendsOf_63 (by decide) ?_
      rintro _ _ ⟨rfl, rfl⟩
      refine j_iret C dX1_bendsOf_66 ?_
      refine ⟨?_, g86, rfl⟩
      rw [bendF_eq ek (by omega)]
      obtain ⟨t_, ht_, hv_⟩ := lawF_nI row 0 (w p) (row (30 + 6 * p + 1)) (row 0)
      exact congrArg (· + nI 1) (less_z hv_ ht_ ⟨fun _ => (who_bes hp hn6).1 c55, fun _ => rfl⟩)
    · skip
      refine j_iconst C (v := (nI 1)) dX1_bendsOf_58 (by decide) ?_
      refine j_goto C 63 dX1_bendsOf_59 (by decide) ?_
      refine j_callU (As := [.int (lawF row 0 (w p) (row (30 + 6 * p + 1)) (row 0)), .int (row (30 + 6 * p + 1)), .int (nI 1)]) (rest := []) C uw1_92_5 (h_X5_bends_29) ⟨29, 5, _, _, rfl, rfl, rfl⟩ rfl (Nat.le_of_ble_eq_true rfl) dX1_bendsOf_63 (by decide) ?_
      rintro _ _ ⟨rfl, rfl⟩
      refine j_iret C dX1_bendsOf_66 ?_
      refine ⟨?_, g86, rfl⟩
      rw [bendF_eq ek (by omega)]
      obtain ⟨t_, ht_, hv_⟩ := lawF_nI row 0 (w p) (row (30 + 6 * p + 1)) (row 0)
      exact congrArg (· + nI 1) (less_z hv_ ht_ ⟨fun h => absurd h (by decide), fun h => absurd ((who_bes hp hn6).2 h) c55⟩)
  · refine j_aload_n C 0 dX1_bendsOf_0 rfl ?_
    refine j_get C (v := .ref (q 6)) 3 14 rfl rfl inlC1 (by decide) kf1_56 rfl dX1_bendsOf_1 ?_
    refine j_aload_n C 0 dX1_bendsOf_4 rfl ?_
    refine j_get C (v := .ref (q 44)) 3 11 rfl rfl inlC1 (by decide) kf1_46 rfl dX1_bendsOf_5 ?_
    refine j_iload_n C 1 dX1_bendsOf_8 rfl ?_
    refine j_ialdN C 44 0 rfl rfl p rfl (by omega) (by decide) dX1_bendsOf_9 ?_
    refine j_v (w p) (hF.weighs p (by omega)) ?_
    refine j_aload_n C 0 dX1_bendsOf_10 rfl ?_
    refine j_get C (v := .ref (q 39)) 3 6 rfl rfl inlC1 (by decide) kf1_31 rfl dX1_bendsOf_11 ?_
    refine j_iload_n C 1 dX1_bendsOf_14 rfl ?_
    refine j_ialdN C 39 0 rfl rfl p rfl (by omega) (by decide) dX1_bendsOf_15 ?_
    refine j_v (row (30 + 6 * p + 1)) (hF.per 1 (by omega) p (by omega)) ?_
    refine j_aload_n C 0 dX1_bendsOf_16 rfl ?_
    refine j_get C (v := .int (S 6)) 3 3 rfl rfl inlC1 (by decide) kf1_22 rfl dX1_bendsOf_17 ?_
    refine j_v (row 0) hF.dawn ?_
    refine j_callVN (As := [.int (w p), .int (row (30 + 6 * p + 1)), .int (row 0)]) (rest := []) C vn1_82 (h_gives_0 hL0) ⟨6, 4, _, _, rfl, rfl, rfl⟩ rfl (Nat.le_of_ble_eq_true rfl) dX1_bendsOf_20 (by decide) ?_
    rintro _ _ ⟨rfl, g86, rfl⟩
    refine j_istore_n C [(2, .int (lawF row 0 (w p) (row (30 + 6 * p + 1)) (row 0))), (0, .ref (q 3)), (1, .int (nI p))] dX1_bendsOf_23 (by decide) rfl ?_
    refine j_aload_n C 1 dX1_bendsOf_24 rfl ?_
    refine j_get C (v := .ref (q 32)) 3 13 rfl rfl inlC1 (by decide) kf1_52 rfl dX1_bendsOf_25 ?_
    refine j_aload_n C 1 dX1_bendsOf_28 rfl ?_
    refine j_get C (v := .ref (q 38)) 3 5 rfl rfl inlC1 (by decide) kf1_28 rfl dX1_bendsOf_29 ?_
    refine j_iload_n C 2 dX1_bendsOf_32 rfl ?_
    refine j_ialdN C 38 0 rfl rfl p rfl (by omega) (by decide) dX1_bendsOf_33 ?_
    refine j_v (nI 5) ((hF.per 0 (by omega) p (by omega)).trans ek) ?_
    refine j_aaldN C 32 1 rfl rfl 5 rfl (by decide) (by decide) rfl dX1_bendsOf_34 ?_
    refine j_iload_n C 0 dX1_bendsOf_35 rfl ?_
    refine j_aload_n C 1 dX1_bendsOf_36 rfl ?_
    refine j_get C (v := .ref (q 39)) 3 6 rfl rfl inlC1 (by decide) kf1_31 rfl dX1_bendsOf_37 ?_
    refine j_iload_n C 2 dX1_bendsOf_40 rfl ?_
    refine j_ialdN C 39 0 rfl rfl p rfl (by omega) (by decide) dX1_bendsOf_41 ?_
    refine j_v (row (30 + 6 * p + 1)) (hF.per 1 (by omega) p (by omega)) ?_
    refine j_aload_n C 1 dX1_bendsOf_42 rfl ?_
    refine j_aload_n C 1 dX1_bendsOf_43 rfl ?_
    refine j_get C (v := .ref (q 40)) 3 7 rfl rfl inlC1 (by decide) kf1_34 rfl dX1_bendsOf_44 ?_
    refine j_iload_n C 2 dX1_bendsOf_47 rfl ?_
    refine j_ialdN C 40 0 rfl rfl p rfl (by omega) (by decide) dX1_bendsOf_48 ?_
    refine j_v (row (30 + 6 * p + 2)) (hF.per 2 (by omega) p (by omega)) ?_
    refine j_callV (As := [.int (row (30 + 6 * p + 2))]) (rest := [.int (row (30 + 6 * p + 1)), .int (lawF row 0 (w p) (row (30 + 6 * p + 1)) (row 0)), .ref (q 30)]) C vw1_88 (h_who_0 (hF.oth (by omega)) e3 hn6) ⟨3, 1, _, _, rfl, rfl, rfl⟩ rfl (Nat.le_of_ble_eq_true rfl) dX1_bendsOf_49 (by decide) ?_
    rintro _ _ ⟨rfl, rfl⟩
    refine j_iconst C (v := (nI 1)) dX1_bendsOf_52 (by decide) ?_
    refine j_iload_n C 2 dX1_bendsOf_53 rfl ?_
    refine j_ishl C dX1_bendsOf_54 ?_
    refine j_icmp_eq C 62 dX1_bendsOf_55 (by decide) (fun c55 => ?_) (fun c55 => ?_)
    · skip
      refine j_iconst C (v := (nI 0)) dX1_bendsOf_62 (by decide) ?_
      refine j_callU (As := [.int (lawF row 0 (w p) (row (30 + 6 * p + 1)) (row 0)), .int (row (30 + 6 * p + 1)), .int (nI 0)]) (rest := []) C uw1_92_6 (h_X6_bends_30) ⟨30, 6, _, _, rfl, rfl, rfl⟩ rfl (Nat.le_of_ble_eq_true rfl) dX1_bendsOf_63 (by decide) ?_
      rintro _ _ ⟨rfl, rfl⟩
      refine j_iret C dX1_bendsOf_66 ?_
      refine ⟨?_, g86, rfl⟩
      rw [bendF_eq ek (by omega)]
      rfl
    · skip
      refine j_iconst C (v := (nI 1)) dX1_bendsOf_58 (by decide) ?_
      refine j_goto C 63 dX1_bendsOf_59 (by decide) ?_
      refine j_callU (As := [.int (lawF row 0 (w p) (row (30 + 6 * p + 1)) (row 0)), .int (row (30 + 6 * p + 1)), .int (nI 1)]) (rest := []) C uw1_92_6 (h_X6_bends_30) ⟨30, 6, _, _, rfl, rfl, rfl⟩ rfl (Nat.le_of_ble_eq_true rfl) dX1_bendsOf_63 (by decide) ?_
      rintro _ _ ⟨rfl, rfl⟩
      refine j_iret C dX1_bendsOf_66 ?_
      refine ⟨?_, g86, rfl⟩
      rw [bendF_eq ek (by omega)]
      rfl
  · refine j_aload_n C 0 dX1_bendsOf_0 rfl ?_
    refine j_get C (v := .ref (q 6)) 3 14 rfl rfl inlC1 (by decide) kf1_56 rfl dX1_bendsOf_1 ?_
    refine j_aload_n C 0 dX1_bendsOf_4 rfl ?_
    refine j_get C (v := .ref (q 44)) 3 11 rfl rfl inlC1 (by decide) kf1_46 rfl dX1_bendsOf_5 ?_
    refine j_iload_n C 1 dX1_bendsOf_8 rfl ?_
    refine j_ialdN C 44 0 rfl rfl p rfl (by omega) (by decide) dX1_bendsOf_9 ?_
    refine j_v (w p) (hF.weighs p (by omega)) ?_
    refine j_aload_n C 0 dX1_bendsOf_10 rfl ?_
    refine j_get C (v := .ref (q 39)) 3 6 rfl rfl inlC1 (by decide) kf1_31 rfl dX1_bendsOf_11 ?_
    refine j_iload_n C 1 dX1_bendsOf_14 rfl ?_
    refine j_ialdN C 39 0 rfl rfl p rfl (by omega) (by decide) dX1_bendsOf_15 ?_
    refine j_v (row (30 + 6 * p + 1)) (hF.per 1 (by omega) p (by omega)) ?_
    refine j_aload_n C 0 dX1_bendsOf_16 rfl ?_
    refine j_get C (v := .int (S 6)) 3 3 rfl rfl inlC1 (by decide) kf1_22 rfl dX1_bendsOf_17 ?_
    refine j_v (row 0) hF.dawn ?_
    refine j_callVN (As := [.int (w p), .int (row (30 + 6 * p + 1)), .int (row 0)]) (rest := []) C vn1_82 (h_gives_0 hL0) ⟨6, 4, _, _, rfl, rfl, rfl⟩ rfl (Nat.le_of_ble_eq_true rfl) dX1_bendsOf_20 (by decide) ?_
    rintro _ _ ⟨rfl, g86, rfl⟩
    refine j_istore_n C [(2, .int (lawF row 0 (w p) (row (30 + 6 * p + 1)) (row 0))), (0, .ref (q 3)), (1, .int (nI p))] dX1_bendsOf_23 (by decide) rfl ?_
    refine j_aload_n C 1 dX1_bendsOf_24 rfl ?_
    refine j_get C (v := .ref (q 32)) 3 13 rfl rfl inlC1 (by decide) kf1_52 rfl dX1_bendsOf_25 ?_
    refine j_aload_n C 1 dX1_bendsOf_28 rfl ?_
    refine j_get C (v := .ref (q 38)) 3 5 rfl rfl inlC1 (by decide) kf1_28 rfl dX1_bendsOf_29 ?_
    refine j_iload_n C 2 dX1_bendsOf_32 rfl ?_
    refine j_ialdN C 38 0 rfl rfl p rfl (by omega) (by decide) dX1_bendsOf_33 ?_
    refine j_v (nI 6) ((hF.per 0 (by omega) p (by omega)).trans ek) ?_
    refine j_aaldN C 32 1 rfl rfl 6 rfl (by decide) (by decide) rfl dX1_bendsOf_34 ?_
    refine j_iload_n C 0 dX1_bendsOf_35 rfl ?_
    refine j_aload_n C 1 dX1_bendsOf_36 rfl ?_
    refine j_get C (v := .ref (q 39)) 3 6 rfl rfl inlC1 (by decide) kf1_31 rfl dX1_bendsOf_37 ?_
    refine j_iload_n C 2 dX1_bendsOf_40 rfl ?_
    refine j_ialdN C 39 0 rfl rfl p rfl (by omega) (by decide) dX1_bendsOf_41 ?_
    refine j_v (row (30 + 6 * p + 1)) (hF.per 1 (by omega) p (by omega)) ?_
    refine j_aload_n C 1 dX1_bendsOf_42 rfl ?_
    refine j_aload_n C 1 dX1_bendsOf_43 rfl ?_
    refine j_get C (v := .ref (q 40)) 3 7 rfl rfl inlC1 (by decide) kf1_34 rfl dX1_bendsOf_44 ?_
    refine j_iload_n C 2 dX1_bendsOf_47 rfl ?_
    refine j_ialdN C 40 0 rfl rfl p rfl (by omega) (by decide) dX1_bendsOf_48 ?_
    refine j_v (row (30 + 6 * p + 2)) (hF.per 2 (by omega) p (by omega)) ?_
    refine j_callV (As := [.int (row (30 + 6 * p + 2))]) (rest := [.int (row (30 + 6 * p + 1)), .int (lawF row 0 (w p) (row (30 + 6 * p + 1)) (row 0)), .ref (q 31)]) C vw1_88 (h_who_0 (hF.oth (by omega)) e3 hn6) ⟨3, 1, _, _, rfl, rfl, rfl⟩ rfl (Nat.le_of_ble_eq_true rfl) dX1_bendsOf_49 (by decide) ?_
    rintro _ _ ⟨rfl, rfl⟩
    refine j_iconst C (v := (nI 1)) dX1_bendsOf_52 (by decide) ?_
    refine j_iload_n C 2 dX1_bendsOf_53 rfl ?_
    refine j_ishl C dX1_bendsOf_54 ?_
    refine j_icmp_eq C 62 dX1_bendsOf_55 (by decide) (fun c55 => ?_) (fun c55 => ?_)
    · skip
      refine j_iconst C (v := (nI 0)) dX1_bendsOf_62 (by decide) ?_
      refine j_callU (As := [.int (lawF row 0 (w p) (row (30 + 6 * p + 1)) (row 0)), .int (row (30 + 6 * p + 1)), .int (nI 0)]) (rest := []) C uw1_92_7 (h_X9_bends_31) ⟨31, 7, _, _, rfl, rfl, rfl⟩ rfl (Nat.le_of_ble_eq_true rfl) dX1_bendsOf_63 (by decide) ?_
      rintro _ _ ⟨rfl, rfl⟩
      refine j_iret C dX1_bendsOf_66 ?_
      refine ⟨?_, g86, rfl⟩
      rw [bendF_eq ek (by omega)]
      rfl
    · skip
      refine j_iconst C (v := (nI 1)) dX1_bendsOf_58 (by decide) ?_
      refine j_goto C 63 dX1_bendsOf_59 (by decide) ?_
      refine j_callU (As := [.int (lawF row 0 (w p) (row (30 + 6 * p + 1)) (row 0)), .int (row (30 + 6 * p + 1)), .int (nI 1)]) (rest := []) C uw1_92_7 (h_X9_bends_31) ⟨31, 7, _, _, rfl, rfl, rfl⟩ rfl (Nat.le_of_ble_eq_true rfl) dX1_bendsOf_63 (by decide) ?_
      rintro _ _ ⟨rfl, rfl⟩
      refine j_iret C dX1_bendsOf_66 ?_
      refine ⟨?_, g86, rfl⟩
      rw [bendF_eq ek (by omega)]
      rfl
set_option maxHeartbeats 2000000 in
set_option maxRecDepth 20000 in
theorem h_who_2 {l : Launch} {D : va_G} {cI cG cW : ClassId} {q : Nat → Nat} {S : Nat → Int32} {X : Nat → Nat → Int32} {P : Nat → Nat} {c : Int32} {row w : Nat → Int32} {nc np : Nat} (hF : CF S X 2 row w nc np) (e3 : row 3 = nI np) (hn6 : np ≤ 6) : Ci l yX1_whoIsAt cX1_whoIsAt 4 (some .int) 0 D (tyL cI cG cW) (wC cI cG cW q) [.ref (q 5), .int c] (S, X, P) (fun r τ => r = whoF row c np ∧ τ = (S, X, P)) := by
  refine Ci.of (by decide) (Nat.le_of_ble_eq_true rfl) ?_
  intro p_ e_ s_ m_ b_ M_ c_ A_ C
  replace C : Cx _ _ _ _ _ _ _ _ RX1 _ _ _ _ := C
  refine j_L [0, 1] [(0, .ref (q 5)), (1, .int c)] rfl ?_
  refine j_iconst C (v := (nI 0)) dX1_whoIsAt_0 (by decide) ?_
  refine j_istore_n C [(2, .int (nI 0)), (0, .ref (q 5)), (1, .int c)] dX1_whoIsAt_1 (by decide) rfl ?_
  refine j_iconst C (v := (nI 0)) dX1_whoIsAt_2 (by decide) ?_
  refine j_istore_n C [(3, .int (nI 0)), (2, .int (nI 0)), (0, .ref (q 5)), (1, .int c)] dX1_whoIsAt_3 (by decide) rfl ?_
  refine j_L [2, 3, 1, 0] [(0, .ref (q 5)), (1, .int c), (2, .int (nI 0)), (3, .int (nI 0))] rfl ?_
  refine j_loop (X := Nat × Int32) (fun (z : Nat × Int32) => match z with | (i, s) => i ≤ np ∧ s = whoF row c i) (fun (z : Nat × Int32) => match z with | (i, s) => np - i) (fun (z : Nat × Int32) => match z with | (i, s) => (S, X, P)) (fun (z : Nat × Int32) => match z with | (i, s) => [(0, .ref (q 5)), (1, .int c), (2, .int s), (3, .int (nI i))]) (0, 0) (⟨Nat.zero_le _, rfl⟩) rfl rfl ?_
  rintro ⟨i, s⟩ ⟨hi, hs⟩ ih
  try dsimp only at ih ⊢
  refine j_iload_n C 3 dX1_whoIsAt_4 rfl ?_
  refine j_aload_n C 0 dX1_whoIsAt_5 rfl ?_
  refine j_get C (v := .int (S 13)) 5 4 rfl rfl inlC1 (by decide) kf1_25 rfl dX1_whoIsAt_6 ?_
  refine j_v (nI np) (hF.people.trans e3) ?_
  refine j_icmp_ge C 34 dX1_whoIsAt_9 (by decide) (fun c9 => ?_) (fun c9 => ?_)
  · rw [nI_leI (by omega) (by omega)] at c9
    refine j_iload_n C 2 dX1_whoIsAt_34 rfl ?_
    refine j_iret C dX1_whoIsAt_35 ?_
    obtain rfl : i = np := by omega
    exact ⟨hs, rfl⟩
  · rw [nI_leI (by omega) (by omega)] at c9
    refine j_aload_n C 0 dX1_whoIsAt_12 rfl ?_
    refine j_get C (v := .ref (q 60)) 5 7 rfl rfl inlC1 (by decide) kf1_34 rfl dX1_whoIsAt_13 ?_
    refine j_iload_n C 3 dX1_whoIsAt_16 rfl ?_
    refine j_ialdN C 60 0 rfl rfl i rfl (by omega) (by decide) dX1_whoIsAt_17 ?_
    refine j_v (row (30 + 6 * i + 2)) (hF.per 2 (by omega) i (by omega)) ?_
    refine j_iload_n C 1 dX1_whoIsAt_18 rfl ?_
    refine j_icmp_ne C 28 dX1_whoIsAt_19 (by decide) (fun c19 => ?_) (fun c19 => ?_)
    · skip
      refine j_iinc C (v := (nI (i + 1))) 3 [(3, .int (nI (i + 1))), (0, .ref (q 5)), (1, .int c), (2, .int s)] dX1_whoIsAt_28 rfl (nI_1 _) (by decide) rfl ?_
      refine j_goto C 4 dX1_whoIsAt_31 (by decide) ?_
      refine j_L [1, 2, 3, 0] [(0, .ref (q 5)), (1, .int c), (2, .int s), (3, .int (nI (i + 1)))] rfl ?_
      exact ih (i + 1, s) (⟨by dsimp only; omega, by dsimp only; rw [whoF, ← hs, if_neg c19, or_nI0]⟩) (by dsimp only; omega)
    · skip
      refine j_iload_n C 2 dX1_whoIsAt_22 rfl ?_
      refine j_iconst C (v := (nI 1)) dX1_whoIsAt_23 (by decide) ?_
      refine j_iload_n C 3 dX1_whoIsAt_24 rfl ?_
      refine j_ishl C dX1_whoIsAt_25 ?_
      refine j_ior C dX1_whoIsAt_26 ?_
      refine j_istore_n C [(2, .int (s ||| ((nI 1) <<< ((nI i) &&& 31)))), (0, .ref (q 5)), (1, .int c), (3, .int (nI i))] dX1_whoIsAt_27 (by decide) rfl ?_
      refine j_iinc C (v := (nI (i + 1))) 3 [(3, .int (nI (i + 1))), (2, .int (s ||| ((nI 1) <<< ((nI i) &&& 31)))), (0, .ref (q 5)), (1, .int c)] dX1_whoIsAt_28 rfl (nI_1 _) (by decide) rfl ?_
      refine j_goto C 4 dX1_whoIsAt_31 (by decide) ?_
      refine j_L [2, 3, 1, 0] [(0, .ref (q 5)), (1, .int c), (2, .int (s ||| ((nI 1) <<< ((nI i) &&& 31)))), (3, .int (nI (i + 1)))] rfl ?_
      exact ih (i + 1, s ||| ((nI 1) <<< ((nI i) &&& 31))) (⟨by dsimp only; omega, by dsimp only; rw [whoF, ← hs, if_pos c19]⟩) (by dsimp only; omega)
set_option maxHeartbeats 2000000 in
set_option maxRecDepth 20000 in
theorem h_eatsOf_2 {l : Launch} {D : va_G} {cI cG cW : ClassId} {q : Nat → Nat} {S : Nat → Int32} {X : Nat → Nat → Int32} {P : Nat → Nat} {row w : Nat → Int32} {nc np : Nat} (hF : CF S X 2 row w nc np) (hn6 : np ≤ 6) (p : Nat) (hp : p < np) {k : Nat} (hk : k ≤ 6) (ek : row (30 + 6 * p + 0) = nI k) : Ci l yX1_eatsOf cX1_eatsOf 2 (some .int) 3 D (tyL cI cG cW) (wC cI cG cW q) [.ref (q 5), .int (nI p)] (S, X, P) (fun r τ => r = eatF row p ∧ τ = (S, X, P)) := by
  refine Ci.of (by decide) (Nat.le_of_ble_eq_true rfl) ?_
  intro p_ e_ s_ m_ b_ M_ c_ A_ C
  replace C : Cx _ _ _ _ _ _ _ _ RX1 _ _ _ _ := C
  refine j_L [0, 1] [(0, .ref (q 5)), (1, .int (nI p))] rfl ?_
  rcases (show k = 0 ∨ k = 1 ∨ k = 2 ∨ k = 3 ∨ k = 4 ∨ k = 5 ∨ k = 6 by omega) with rfl | rfl | rfl | rfl | rfl | rfl | rfl
  · refine j_aload_n C 0 dX1_eatsOf_0 rfl ?_
    refine j_get C (v := .ref (q 32)) 5 13 rfl rfl inlC1 (by decide) kf1_52 rfl dX1_eatsOf_1 ?_
    refine j_aload_n C 0 dX1_eatsOf_4 rfl ?_
    refine j_get C (v := .ref (q 58)) 5 5 rfl rfl inlC1 (by decide) kf1_28 rfl dX1_eatsOf_5 ?_
    refine j_iload_n C 1 dX1_eatsOf_8 rfl ?_
    refine j_ialdN C 58 0 rfl rfl p rfl (by omega) (by decide) dX1_eatsOf_9 ?_
    refine j_v (nI 0) ((hF.per 0 (by omega) p (by omega)).trans ek) ?_
    refine j_aaldN C 32 1 rfl rfl 0 rfl (by decide) (by decide) rfl dX1_eatsOf_10 ?_
    refine j_aload_n C 0 dX1_eatsOf_11 rfl ?_
    refine j_get C (v := .ref (q 59)) 5 6 rfl rfl inlC1 (by decide) kf1_31 rfl dX1_eatsOf_12 ?_
    refine j_iload_n C 1 dX1_eatsOf_15 rfl ?_
    refine j_ialdN C 59 0 rfl rfl p rfl (by omega) (by decide) dX1_eatsOf_16 ?_
    refine j_v (row (30 + 6 * p + 1)) (hF.per 1 (by omega) p (by omega)) ?_
    refine j_callU (As := [.int (row (30 + 6 * p + 1))]) (rest := []) C uw1_98_2 (h_X2_eats_25) ⟨25, 2, _, _, rfl, rfl, rfl⟩ rfl (Nat.le_of_ble_eq_true rfl) dX1_eatsOf_17 (by decide) ?_
    rintro _ _ ⟨rfl, rfl⟩
    refine j_iret C dX1_eatsOf_20 ?_
    refine ⟨?_, rfl⟩
    rw [eatF_eq ek (by omega)]
    rfl
  · refine j_aload_n C 0 dX1_eatsOf_0 rfl ?_
    refine j_get C (v := .ref (q 32)) 5 13 rfl rfl inlC1 (by decide) kf1_52 rfl dX1_eatsOf_1 ?_
    refine j_aload_n C 0 dX1_eatsOf_4 rfl ?_
    refine j_get C (v := .ref (q 58)) 5 5 rfl rfl inlC1 (by decide) kf1_28 rfl dX1_eatsOf_5 ?_
    refine j_iload_n C 1 dX1_eatsOf_8 rfl ?_
    refine j_ialdN C 58 0 rfl rfl p rfl (by omega) (by decide) dX1_eatsOf_9 ?_
    refine j_v (nI 1) ((hF.per 0 (by omega) p (by omega)).trans ek) ?_
    refine j_aaldN C 32 1 rfl rfl 1 rfl (by decide) (by decide) rfl dX1_eatsOf_10 ?_
    refine j_aload_n C 0 dX1_eatsOf_11 rfl ?_
    refine j_get C (v := .ref (q 59)) 5 6 rfl rfl inlC1 (by decide) kf1_31 rfl dX1_eatsOf_12 ?_
    refine j_iload_n C 1 dX1_eatsOf_15 rfl ?_
    refine j_ialdN C 59 0 rfl rfl p rfl (by omega) (by decide) dX1_eatsOf_16 ?_
    refine j_v (row (30 + 6 * p + 1)) (hF.per 1 (by omega) p (by omega)) ?_
    refine j_callU (As := [.int (row (30 + 6 * p + 1))]) (rest := []) C uw1_98_10 (h_X10_eats_26) ⟨26, 10, _, _, rfl, rfl, rfl⟩ rfl (Nat.le_of_ble_eq_true rfl) dX1_eatsOf_17 (by decide) ?_
    rintro _ _ ⟨rfl, rfl⟩
    refine j_iret C dX1_eatsOf_20 ?_
    refine ⟨?_, rfl⟩
    rw [eatF_eq ek (by omega)]
    rfl
  · refine j_aload_n C 0 dX1_eatsOf_0 rfl ?_
    refine j_get C (v := .ref (q 32)) 5 13 rfl rfl inlC1 (by decide) kf1_52 rfl dX1_eatsOf_1 ?_
    refine j_aload_n C 0 dX1_eatsOf_4 rfl ?_
    refine j_get C (v := .ref (q 58)) 5 5 rfl rfl inlC1 (by decide) kf1_28 rfl dX1_eatsOf_5 ?_
    refine j_iload_n C 1 dX1_eatsOf_8 rfl ?_
    refine j_ialdN C 58 0 rfl rfl p rfl (by omega) (by decide) dX1_eatsOf_9 ?_
    refine j_v (nI 2) ((hF.per 0 (by omega) p (by omega)).trans ek) ?_
    refine j_aaldN C 32 1 rfl rfl 2 rfl (by decide) (by decide) rfl dX1_eatsOf_10 ?_
    refine j_aload_n C 0 dX1_eatsOf_11 rfl ?_
    refine j_get C (v := .ref (q 59)) 5 6 rfl rfl inlC1 (by decide) kf1_31 rfl dX1_eatsOf_12 ?_
    refine j_iload_n C 1 dX1_eatsOf_15 rfl ?_
    refine j_ialdN C 59 0 rfl rfl p rfl (by omega) (by decide) dX1_eatsOf_16 ?_
    refine j_v (row (30 + 6 * p + 1)) (hF.per 1 (by omega) p (by omega)) ?_
    refine j_callU (As := [.int (row (30 + 6 * p + 1))]) (rest := []) C uw1_98_0 (h_X2_eats_27) ⟨27, 0, _, _, rfl, rfl, rfl⟩ rfl (Nat.le_of_ble_eq_true rfl) dX1_eatsOf_17 (by decide) ?_
    rintro _ _ ⟨rfl, rfl⟩
    refine j_iret C dX1_eatsOf_20 ?_
    refine ⟨?_, rfl⟩
    rw [eatF_eq ek (by omega)]
    rfl
  · refine j_aload_n C 0 dX1_eatsOf_0 rfl ?_
    refine j_get C (v := .ref (q 32)) 5 13 rfl rfl inlC1 (by decide) kf1_52 rfl dX1_eatsOf_1 ?_
    refine j_aload_n C 0 dX1_eatsOf_4 rfl ?_
    refine j_get C (v := .ref (q 58)) 5 5 rfl rfl inlC1 (by decide) kf1_28 rfl dX1_eatsOf_5 ?_
    refine j_iload_n C 1 dX1_eatsOf_8 rfl ?_
    refine j_ialdN C 58 0 rfl rfl p rfl (by omega) (by decide) dX1_eatsOf_9 ?_
    refine j_v (nI 3) ((hF.per 0 (by omega) p (by omega)).trans ek) ?_
    refine j_aaldN C 32 1 rfl rfl 3 rfl (by decide) (by decide) rfl dX1_eatsOf_10 ?_
    refine j_aload_n C 0 dX1_eatsOf_11 rfl ?_
    refine j_get C (v := .ref (q 59)) 5 6 rfl rfl inlC1 (by decide) kf1_31 rfl dX1_eatsOf_12 ?_
    refine j_iload_n C 1 dX1_eatsOf_15 rfl ?_
    refine j_ialdN C 59 0 rfl rfl p rfl (by omega) (by decide) dX1_eatsOf_16 ?_
    refine j_v (row (30 + 6 * p + 1)) (hF.per 1 (by omega) p (by omega)) ?_
    refine j_callU (As := [.int (row (30 + 6 * p + 1))]) (rest := []) C uw1_98_9 (h_X2_eats_28) ⟨28, 9, _, _, rfl, rfl, rfl⟩ rfl (Nat.le_of_ble_eq_true rfl) dX1_eatsOf_17 (by decide) ?_
    rintro _ _ ⟨rfl, rfl⟩
    refine j_iret C dX1_eatsOf_20 ?_
    refine ⟨?_, rfl⟩
    rw [eatF_eq ek (by omega)]
    rfl
  · refine j_aload_n C 0 dX1_eatsOf_0 rfl ?_
    refine j_get C (v := .ref (q 32)) 5 13 rfl rfl inlC1 (by decide) kf1_52 rfl dX1_eatsOf_1 ?_
    refine j_aload_n C 0 dX1_eatsOf_4 rfl ?_
    refine j_get C (v := .ref (q 58)) 5 5 rfl rfl inlC1 (by decide) kf1_28 rfl dX1_eatsOf_5 ?_
    refine j_iload_n C 1 dX1_eatsOf_8 rfl ?_
    refine j_ialdN C 58 0 rfl rfl p rfl (by omega) (by decide) dX1_eatsOf_9 ?_
    refine j_v (nI 4) ((hF.per 0 (by omega) p (by omega)).trans ek) ?_
    refine j_aaldN C 32 1 rfl rfl 4 rfl (by decide) (by decide) rfl dX1_eatsOf_10 ?_
    refine j_aload_n C 0 dX1_eatsOf_11 rfl ?_
    refine j_get C (v := .ref (q 59)) 5 6 rfl rfl inlC1 (by decide) kf1_31 rfl dX1_eatsOf_12 ?_
    refine j_iload_n C 1 dX1_eatsOf_15 rfl ?_
    refine j_ialdN C 59 0 rfl rfl p rfl (by omega) (by decide) dX1_eatsOf_16 ?_
    refine j_v (row (30 + 6 * p + 1)) (hF.per 1 (by omega) p (by omega)) ?_
    refine j_callU (As := [.int (row (30 + 6 * p + 1))]) (rest := []) C uw1_98_5 (h_X10_eats_29) ⟨29, 5, _, _, rfl, rfl, rfl⟩ rfl (Nat.le_of_ble_eq_true rfl) dX1_eatsOf_17 (by decide) ?_
    rintro _ _ ⟨rfl, rfl⟩
    refine j_iret C dX1_eatsOf_20 ?_
    refine ⟨?_, rfl⟩
    rw [eatF_eq ek (by omega)]
    rfl
  · refine j_aload_n C 0 dX1_eatsOf_0 rfl ?_
    refine j_get C (v := .ref (q 32)) 5 13 rfl rfl inlC1 (by decide) kf1_52 rfl dX1_eatsOf_1 ?_
    refine j_aload_n C 0 dX1_eatsOf_4 rfl ?_
    refine j_get C (v := .ref (q 58)) 5 5 rfl rfl inlC1 (by decide) kf1_28 rfl dX1_eatsOf_5 ?_
    refine j_iload_n C 1 dX1_eatsOf_8 rfl ?_
    refine j_ialdN C 58 0 rfl rfl p rfl (by omega) (by decide) dX1_eatsOf_9 ?_
    refine j_v (nI 5) ((hF.per 0 (by omega) p (by omega)).trans ek) ?_
    refine j_aaldN C 32 1 rfl rfl 5 rfl (by decide) (by decide) rfl dX1_eatsOf_10 ?_
    refine j_aload_n C 0 dX1_eatsOf_11 rfl ?_
    refine j_get C (v := .ref (q 59)) 5 6 rfl rfl inlC1 (by decide) kf1_31 rfl dX1_eatsOf_12 ?_
    refine j_iload_n C 1 dX1_eatsOf_15 rfl ?_
    refine j_ialdN C 59 0 rfl rfl p rfl (by omega) (by decide) dX1_eatsOf_16 ?_
    refine j_v (row (30 + 6 * p + 1)) (hF.per 1 (by omega) p (by omega)) ?_
    refine j_callU (As := [.int (row (30 + 6 * p + 1))]) (rest := []) C uw1_98_6 (h_X6_eats_30) ⟨30, 6, _, _, rfl, rfl, rfl⟩ rfl (Nat.le_of_ble_eq_true rfl) dX1_eatsOf_17 (by decide) ?_
    rintro _ _ ⟨rfl, rfl⟩
    refine j_iret C dX1_eatsOf_20 ?_
    refine ⟨?_, rfl⟩
    rw [eatF_eq ek (by omega)]
    rfl
  · refine j_aload_n C 0 dX1_eatsOf_0 rfl ?_
    refine j_get C (v := .ref (q 32)) 5 13 rfl rfl inlC1 (by decide) kf1_52 rfl dX1_eatsOf_1 ?_
    refine j_aload_n C 0 dX1_eatsOf_4 rfl ?_
    refine j_get C (v := .ref (q 58)) 5 5 rfl rfl inlC1 (by decide) kf1_28 rfl dX1_eatsOf_5 ?_
    refine j_iload_n C 1 dX1_eatsOf_8 rfl ?_
    refine j_ialdN C 58 0 rfl rfl p rfl (by omega) (by decide) dX1_eatsOf_9 ?_
    refine j_v (nI 6) ((hF.per 0 (by omega) p (by omega)).trans ek) ?_
    refine j_aaldN C 32 1 rfl rfl 6 rfl (by decide) (by decide) rfl dX1_eatsOf_10 ?_
    refine j_aload_n C 0 dX1_eatsOf_11 rfl ?_
    refine j_get C (v := .ref (q 59)) 5 6 rfl rfl inlC1 (by decide) kf1_31 rfl dX1_eatsOf_12 ?_
    refine j_iload_n C 1 dX1_eatsOf_15 rfl ?_
    refine j_ialdN C 59 0 rfl rfl p rfl (by omega) (by decide) dX1_eatsOf_16 ?_
    refine j_v (row (30 + 6 * p + 1)) (hF.per 1 (by omega) p (by omega)) ?_
    refine j_callU (As := [.int (row (30 + 6 * p + 1))]) (rest := []) C uw1_98_7 (h_X7_eats_31) ⟨31, 7, _, _, rfl, rfl, rfl⟩ rfl (Nat.le_of_ble_eq_true rfl) dX1_eatsOf_17 (by decide) ?_
    rintro _ _ ⟨rfl, rfl⟩
    refine j_iret C dX1_eatsOf_20 ?_
    refine ⟨?_, rfl⟩
    rw [eatF_eq ek (by omega)]
    rfl
set_option maxHeartbeats 2000000 in
set_option maxRecDepth 20000 in
theorem h_burdenOf_2 {l : Launch} {D : va_G} {cI cG cW : ClassId} {q : Nat → Nat} {S : Nat → Int32} {X : Nat → Nat → Int32} {P : Nat → Nat} {row w : Nat → Int32} {nc np : Nat} (hF : CF S X 2 row w nc np) (hn6 : np ≤ 6) (p : Nat) (hp : p < np) {k : Nat} (hk : k ≤ 6) (ek : row (30 + 6 * p + 0) = nI k) : Ci l yX1_burdenOf cX1_burdenOf 2 (some .int) 3 D (tyL cI cG cW) (wC cI cG cW q) [.ref (q 5), .int (nI p)] (S, X, P) (fun r τ => r = (if row (30 + 6 * p + 0) = nI 6 then row (30 + 6 * p + 1) else nI 0) ∧ τ = (S, X, P)) := by
  refine Ci.of (by decide) (Nat.le_of_ble_eq_true rfl) ?_
  intro p_ e_ s_ m_ b_ M_ c_ A_ C
  replace C : Cx _ _ _ _ _ _ _ _ RX1 _ _ _ _ := C
  refine j_L [0, 1] [(0, .ref (q 5)), (1, .int (nI p))] rfl ?_
  rcases (show k = 0 ∨ k = 1 ∨ k = 2 ∨ k = 3 ∨ k = 4 ∨ k = 5 ∨ k = 6 by omega) with rfl | rfl | rfl | rfl | rfl | rfl | rfl
  · refine j_aload_n C 0 dX1_burdenOf_0 rfl ?_
    refine j_get C (v := .ref (q 32)) 5 13 rfl rfl inlC1 (by decide) kf1_52 rfl dX1_burdenOf_1 ?_
    refine j_aload_n C 0 dX1_burdenOf_4 rfl ?_
    refine j_get C (v := .ref (q 58)) 5 5 rfl rfl inlC1 (by decide) kf1_28 rfl dX1_burdenOf_5 ?_
    refine j_iload_n C 1 dX1_burdenOf_8 rfl ?_
    refine j_ialdN C 58 0 rfl rfl p rfl (by omega) (by decide) dX1_burdenOf_9 ?_
    refine j_v (nI 0) ((hF.per 0 (by omega) p (by omega)).trans ek) ?_
    refine j_aaldN C 32 1 rfl rfl 0 rfl (by decide) (by decide) rfl dX1_burdenOf_10 ?_
    refine j_aload_n C 0 dX1_burdenOf_11 rfl ?_
    refine j_get C (v := .ref (q 59)) 5 6 rfl rfl inlC1 (by decide) kf1_31 rfl dX1_burdenOf_12 ?_
    refine j_iload_n C 1 dX1_burdenOf_15 rfl ?_
    refine j_ialdN C 59 0 rfl rfl p rfl (by omega) (by decide) dX1_burdenOf_16 ?_
    refine j_v (row (30 + 6 * p + 1)) (hF.per 1 (by omega) p (by omega)) ?_
    refine j_callU (As := [.int (row (30 + 6 * p + 1))]) (rest := []) C uw1_101_2 (h_X2_burden_25) ⟨25, 2, _, _, rfl, rfl, rfl⟩ rfl (Nat.le_of_ble_eq_true rfl) dX1_burdenOf_17 (by decide) ?_
    rintro _ _ ⟨rfl, rfl⟩
    refine j_iret C dX1_burdenOf_20 ?_
    refine ⟨?_, rfl⟩
    rw [ek]
    rfl
  · refine j_aload_n C 0 dX1_burdenOf_0 rfl ?_
    refine j_get C (v := .ref (q 32)) 5 13 rfl rfl inlC1 (by decide) kf1_52 rfl dX1_burdenOf_1 ?_
    refine j_aload_n C 0 dX1_burdenOf_4 rfl ?_
    refine j_get C (v := .ref (q 58)) 5 5 rfl rfl inlC1 (by decide) kf1_28 rfl dX1_burdenOf_5 ?_
    refine j_iload_n C 1 dX1_burdenOf_8 rfl ?_
    refine j_ialdN C 58 0 rfl rfl p rfl (by omega) (by decide) dX1_burdenOf_9 ?_
    refine j_v (nI 1) ((hF.per 0 (by omega) p (by omega)).trans ek) ?_
    refine j_aaldN C 32 1 rfl rfl 1 rfl (by decide) (by decide) rfl dX1_burdenOf_10 ?_
    refine j_aload_n C 0 dX1_burdenOf_11 rfl ?_
    refine j_get C (v := .ref (q 59)) 5 6 rfl rfl inlC1 (by decide) kf1_31 rfl dX1_burdenOf_12 ?_
    refine j_iload_n C 1 dX1_burdenOf_15 rfl ?_
    refine j_ialdN C 59 0 rfl rfl p rfl (by omega) (by decide) dX1_burdenOf_16 ?_
    refine j_v (row (30 + 6 * p + 1)) (hF.per 1 (by omega) p (by omega)) ?_
    refine j_callU (As := [.int (row (30 + 6 * p + 1))]) (rest := []) C uw1_101_10 (h_X2_burden_26) ⟨26, 10, _, _, rfl, rfl, rfl⟩ rfl (Nat.le_of_ble_eq_true rfl) dX1_burdenOf_17 (by decide) ?_
    rintro _ _ ⟨rfl, rfl⟩
    refine j_iret C dX1_burdenOf_20 ?_
    refine ⟨?_, rfl⟩
    rw [ek]
    rfl
  · refine j_aload_n C 0 dX1_burdenOf_0 rfl ?_
    refine j_get C (v := .ref (q 32)) 5 13 rfl rfl inlC1 (by decide) kf1_52 rfl dX1_burdenOf_1 ?_
    refine j_aload_n C 0 dX1_burdenOf_4 rfl ?_
    refine j_get C (v := .ref (q 58)) 5 5 rfl rfl inlC1 (by decide) kf1_28 rfl dX1_burdenOf_5 ?_
    refine j_iload_n C 1 dX1_burdenOf_8 rfl ?_
    refine j_ialdN C 58 0 rfl rfl p rfl (by omega) (by decide) dX1_burdenOf_9 ?_
    refine j_v (nI 2) ((hF.per 0 (by omega) p (by omega)).trans ek) ?_
    refine j_aaldN C 32 1 rfl rfl 2 rfl (by decide) (by decide) rfl dX1_burdenOf_10 ?_
    refine j_aload_n C 0 dX1_burdenOf_11 rfl ?_
    refine j_get C (v := .ref (q 59)) 5 6 rfl rfl inlC1 (by decide) kf1_31 rfl dX1_burdenOf_12 ?_
    refine j_iload_n C 1 dX1_burdenOf_15 rfl ?_
    refine j_ialdN C 59 0 rfl rfl p rfl (by omega) (by decide) dX1_burdenOf_16 ?_
    refine j_v (row (30 + 6 * p + 1)) (hF.per 1 (by omega) p (by omega)) ?_
    refine j_callU (As := [.int (row (30 + 6 * p + 1))]) (rest := []) C uw1_101_0 (h_X2_burden_27) ⟨27, 0, _, _, rfl, rfl, rfl⟩ rfl (Nat.le_of_ble_eq_true rfl) dX1_burdenOf_17 (by decide) ?_
    rintro _ _ ⟨rfl, rfl⟩
    refine j_iret C dX1_burdenOf_20 ?_
    refine ⟨?_, rfl⟩
    rw [ek]
    rfl
  · refine j_aload_n C 0 dX1_burdenOf_0 rfl ?_
    refine j_get C (v := .ref (q 32)) 5 13 rfl rfl inlC1 (by decide) kf1_52 rfl dX1_burdenOf_1 ?_
    refine j_aload_n C 0 dX1_burdenOf_4 rfl ?_
    refine j_get C (v := .ref (q 58)) 5 5 rfl rfl inlC1 (by decide) kf1_28 rfl dX1_burdenOf_5 ?_
    refine j_iload_n C 1 dX1_burdenOf_8 rfl ?_
    refine j_ialdN C 58 0 rfl rfl p rfl (by omega) (by decide) dX1_burdenOf_9 ?_
    refine j_v (nI 3) ((hF.per 0 (by omega) p (by omega)).trans ek) ?_
    refine j_aaldN C 32 1 rfl rfl 3 rfl (by decide) (by decide) rfl dX1_burdenOf_10 ?_
    refine j_aload_n C 0 dX1_burdenOf_11 rfl ?_
    refine j_get C (v := .ref (q 59)) 5 6 rfl rfl inlC1 (by decide) kf1_31 rfl dX1_burdenOf_12 ?_
    refine j_iload_n C 1 dX1_burdenOf_15 rfl ?_
    refine j_ialdN C 59 0 rfl rfl p rfl (by omega) (by decide) dX1_burdenOf_16 ?_
    refine j_v (row (30 + 6 * p + 1)) (hF.per 1 (by omega) p (by omega)) ?_
    refine j_callU (As := [.int (row (30 + 6 * p + 1))]) (rest := []) C uw1_101_9 (h_X2_burden_28) ⟨28, 9, _, _, rfl, rfl, rfl⟩ rfl (Nat.le_of_ble_eq_true rfl) dX1_burdenOf_17 (by decide) ?_
    rintro _ _ ⟨rfl, rfl⟩
    refine j_iret C dX1_burdenOf_20 ?_
    refine ⟨?_, rfl⟩
    rw [ek]
    rfl
  · refine j_aload_n C 0 dX1_burdenOf_0 rfl ?_
    refine j_get C (v := .ref (q 32)) 5 13 rfl rfl inlC1 (by decide) kf1_52 rfl dX1_burdenOf_1 ?_
    refine j_aload_n C 0 dX1_burdenOf_4 rfl ?_
    refine j_get C (v := .ref (q 58)) 5 5 rfl rfl inlC1 (by decide) kf1_28 rfl dX1_burdenOf_5 ?_
    refine j_iload_n C 1 dX1_burdenOf_8 rfl ?_
    refine j_ialdN C 58 0 rfl rfl p rfl (by omega) (by decide) dX1_burdenOf_9 ?_
    refine j_v (nI 4) ((hF.per 0 (by omega) p (by omega)).trans ek) ?_
    refine j_aaldN C 32 1 rfl rfl 4 rfl (by decide) (by decide) rfl dX1_burdenOf_10 ?_
    refine j_aload_n C 0 dX1_burdenOf_11 rfl ?_
    refine j_get C (v := .ref (q 59)) 5 6 rfl rfl inlC1 (by decide) kf1_31 rfl dX1_burdenOf_12 ?_
    refine j_iload_n C 1 dX1_burdenOf_15 rfl ?_
    refine j_ialdN C 59 0 rfl rfl p rfl (by omega) (by decide) dX1_burdenOf_16 ?_
    refine j_v (row (30 + 6 * p + 1)) (hF.per 1 (by omega) p (by omega)) ?_
    refine j_callU (As := [.int (row (30 + 6 * p + 1))]) (rest := []) C uw1_101_5 (h_X2_burden_29) ⟨29, 5, _, _, rfl, rfl, rfl⟩ rfl (Nat.le_of_ble_eq_true rfl) dX1_burdenOf_17 (by decide) ?_
    rintro _ _ ⟨rfl, rfl⟩
    refine j_iret C dX1_burdenOf_20 ?_
    refine ⟨?_, rfl⟩
    rw [ek]
    rfl
  · refine j_aload_n C 0 dX1_burdenOf_0 rfl ?_
    refine j_get C (v := .ref (q 32)) 5 13 rfl rfl inlC1 (by decide) kf1_52 rfl dX1_burdenOf_1 ?_
    refine j_aload_n C 0 dX1_burdenOf_4 rfl ?_
    refine j_get C (v := .ref (q 58)) 5 5 rfl rfl inlC1 (by decide) kf1_28 rfl dX1_burdenOf_5 ?_
    refine j_iload_n C 1 dX1_burdenOf_8 rfl ?_
    refine j_ialdN C 58 0 rfl rfl p rfl (by omega) (by decide) dX1_burdenOf_9 ?_
    refine j_v (nI 5) ((hF.per 0 (by omega) p (by omega)).trans ek) ?_
    refine j_aaldN C 32 1 rfl rfl 5 rfl (by decide) (by decide) rfl dX1_burdenOf_10 ?_
    refine j_aload_n C 0 dX1_burdenOf_11 rfl ?_
    refine j_get C (v := .ref (q 59)) 5 6 rfl rfl inlC1 (by decide) kf1_31 rfl dX1_burdenOf_12 ?_
    refine j_iload_n C 1 dX1_burdenOf_15 rfl ?_
    refine j_ialdN C 59 0 rfl rfl p rfl (by omega) (by decide) dX1_burdenOf_16 ?_
    refine j_v (row (30 + 6 * p + 1)) (hF.per 1 (by omega) p (by omega)) ?_
    refine j_callU (As := [.int (row (30 + 6 * p + 1))]) (rest := []) C uw1_101_6 (h_X2_burden_30) ⟨30, 6, _, _, rfl, rfl, rfl⟩ rfl (Nat.le_of_ble_eq_true rfl) dX1_burdenOf_17 (by decide) ?_
    rintro _ _ ⟨rfl, rfl⟩
    refine j_iret C dX1_burdenOf_20 ?_
    refine ⟨?_, rfl⟩
    rw [ek]
    rfl
  · refine j_aload_n C 0 dX1_burdenOf_0 rfl ?_
    refine j_get C (v := .ref (q 32)) 5 13 rfl rfl inlC1 (by decide) kf1_52 rfl dX1_burdenOf_1 ?_
    refine j_aload_n C 0 dX1_burdenOf_4 rfl ?_
    refine j_get C (v := .ref (q 58)) 5 5 rfl rfl inlC1 (by decide) kf1_28 rfl dX1_burdenOf_5 ?_
    refine j_iload_n C 1 dX1_burdenOf_8 rfl ?_
    refine j_ialdN C 58 0 rfl rfl p rfl (by omega) (by decide) dX1_burdenOf_9 ?_
    refine j_v (nI 6) ((hF.per 0 (by omega) p (by omega)).trans ek) ?_
    refine j_aaldN C 32 1 rfl rfl 6 rfl (by decide) (by decide) rfl dX1_burdenOf_10 ?_
    refine j_aload_n C 0 dX1_burdenOf_11 rfl ?_
    refine j_get C (v := .ref (q 59)) 5 6 rfl rfl inlC1 (by decide) kf1_31 rfl dX1_burdenOf_12 ?_
    refine j_iload_n C 1 dX1_burdenOf_15 rfl ?_
    refine j_ialdN C 59 0 rfl rfl p rfl (by omega) (by decide) dX1_burdenOf_16 ?_
    refine j_v (row (30 + 6 * p + 1)) (hF.per 1 (by omega) p (by omega)) ?_
    refine j_callU (As := [.int (row (30 + 6 * p + 1))]) (rest := []) C uw1_101_7 (h_X7_burden_31) ⟨31, 7, _, _, rfl, rfl, rfl⟩ rfl (Nat.le_of_ble_eq_true rfl) dX1_burdenOf_17 (by decide) ?_
    rintro _ _ ⟨rfl, rfl⟩
    refine j_iret C dX1_burdenOf_20 ?_
    refine ⟨?_, rfl⟩
    rw [ek]
    rfl
set_option maxHeartbeats 2000000 in
set_option maxRecDepth 20000 in
theorem h_bendsOf_2 {l : Launch} {D : va_G} {cI cG cW : ClassId} {q : Nat → Nat} {S : Nat → Int32} {X : Nat → Nat → Int32} {P : Nat → Nat} {row w : Nat → Int32} {nc np : Nat} (hF : CF S X 2 row w nc np) (e3 : row 3 = nI np) (hn6 : np ≤ 6) (p : Nat) (hp : p < np) {k : Nat} (hk : k ≤ 6) (ek : row (30 + 6 * p + 0) = nI k) (hL0 : CLaw S X 0 row 0) : Ci l yX1_bendsOf cX1_bendsOf 3 (some .int) 5 D (tyL cI cG cW) (wC cI cG cW q) [.ref (q 5), .int (nI p)] (S, X, P) (fun r τ => r = bendF row np (w p) p ∧ ∃ g, τ = (S, va_up X 86 g, P)) := by
  refine Ci.of (by decide) (Nat.le_of_ble_eq_true rfl) ?_
  intro p_ e_ s_ m_ b_ M_ c_ A_ C
  replace C : Cx _ _ _ _ _ _ _ _ RX1 _ _ _ _ := C
  refine j_L [0, 1] [(0, .ref (q 5)), (1, .int (nI p))] rfl ?_
  rcases (show k = 0 ∨ k = 1 ∨ k = 2 ∨ k = 3 ∨ k = 4 ∨ k = 5 ∨ k = 6 by omega) with rfl | rfl | rfl | rfl | rfl | rfl | rfl
  · refine j_aload_n C 0 dX1_bendsOf_0 rfl ?_
    refine j_get C (v := .ref (q 6)) 5 14 rfl rfl inlC1 (by decide) kf1_56 rfl dX1_bendsOf_1 ?_
    refine j_aload_n C 0 dX1_bendsOf_4 rfl ?_
    refine j_get C (v := .ref (q 64)) 5 11 rfl rfl inlC1 (by decide) kf1_46 rfl dX1_bendsOf_5 ?_
    refine j_iload_n C 1 dX1_bendsOf_8 rfl ?_
    refine j_ialdN C 64 0 rfl rfl p rfl (by omega) (by decide) dX1_bendsOf_9 ?_
    refine j_v (w p) (hF.weighs p (by omega)) ?_
    refine j_aload_n C 0 dX1_bendsOf_10 rfl ?_
    refine j_get C (v := .ref (q 59)) 5 6 rfl rfl inlC1 (by decide) kf1_31 rfl dX1_bendsOf_11 ?_
    refine j_iload_n C 1 dX1_bendsOf_14 rfl ?_
    refine j_ialdN C 59 0 rfl rfl p rfl (by omega) (by decide) dX1_bendsOf_15 ?_
    refine j_v (row (30 + 6 * p + 1)) (hF.per 1 (by omega) p (by omega)) ?_
    refine j_aload_n C 0 dX1_bendsOf_16 rfl ?_
    refine j_get C (v := .int (S 12)) 5 3 rfl rfl inlC1 (by decide) kf1_22 rfl dX1_bendsOf_17 ?_
    refine j_v (row 0) hF.dawn ?_
    refine j_callVN (As := [.int (w p), .int (row (30 + 6 * p + 1)), .int (row 0)]) (rest := []) C vn1_82 (h_gives_0 hL0) ⟨6, 4, _, _, rfl, rfl, rfl⟩ rfl (Nat.le_of_ble_eq_true rfl) dX1_bendsOf_20 (by decide) ?_
    rintro _ _ ⟨rfl, g86, rfl⟩
    refine j_istore_n C [(2, .int (lawF row 0 (w p) (row (30 + 6 * p + 1)) (row 0))), (0, .ref (q 5)), (1, .int (nI p))] dX1_bendsOf_23 (by decide) rfl ?_
    refine j_aload_n C 1 dX1_bendsOf_24 rfl ?_
    refine j_get C (v := .ref (q 32)) 5 13 rfl rfl inlC1 (by decide) kf1_52 rfl dX1_bendsOf_25 ?_
    refine j_aload_n C 1 dX1_bendsOf_28 rfl ?_
    refine j_get C (v := .ref (q 58)) 5 5 rfl rfl inlC1 (by decide) kf1_28 rfl dX1_bendsOf_29 ?_
    refine j_iload_n C 2 dX1_bendsOf_32 rfl ?_
    refine j_ialdN C 58 0 rfl rfl p rfl (by omega) (by decide) dX1_bendsOf_33 ?_
    refine j_v (nI 0) ((hF.per 0 (by omega) p (by omega)).trans ek) ?_
    refine j_aaldN C 32 1 rfl rfl 0 rfl (by decide) (by decide) rfl dX1_bendsOf_34 ?_
    refine j_iload_n C 0 dX1_bendsOf_35 rfl ?_
    refine j_aload_n C 1 dX1_bendsOf_36 rfl ?_
    refine j_get C (v := .ref (q 59)) 5 6 rfl rfl inlC1 (by decide) kf1_31 rfl dX1_bendsOf_37 ?_
    refine j_iload_n C 2 dX1_bendsOf_40 rfl ?_
    refine j_ialdN C 59 0 rfl rfl p rfl (by omega) (by decide) dX1_bendsOf_41 ?_
    refine j_v (row (30 + 6 * p + 1)) (hF.per 1 (by omega) p (by omega)) ?_
    refine j_aload_n C 1 dX1_bendsOf_42 rfl ?_
    refine j_aload_n C 1 dX1_bendsOf_43 rfl ?_
    refine j_get C (v := .ref (q 60)) 5 7 rfl rfl inlC1 (by decide) kf1_34 rfl dX1_bendsOf_44 ?_
    refine j_iload_n C 2 dX1_bendsOf_47 rfl ?_
    refine j_ialdN C 60 0 rfl rfl p rfl (by omega) (by decide) dX1_bendsOf_48 ?_
    refine j_v (row (30 + 6 * p + 2)) (hF.per 2 (by omega) p (by omega)) ?_
    refine j_callV (As := [.int (row (30 + 6 * p + 2))]) (rest := [.int (row (30 + 6 * p + 1)), .int (lawF row 0 (w p) (row (30 + 6 * p + 1)) (row 0)), .ref (q 25)]) C vw1_88 (h_who_2 (hF.oth (by omega)) e3 hn6) ⟨5, 1, _, _, rfl, rfl, rfl⟩ rfl (Nat.le_of_ble_eq_true rfl) dX1_bendsOf_49 (by decide) ?_
    rintro _ _ ⟨rfl, rfl⟩
    refine j_iconst C (v := (nI 1)) dX1_bendsOf_52 (by decide) ?_
    refine j_iload_n C 2 dX1_bendsOf_53 rfl ?_
    refine j_ishl C dX1_bendsOf_54 ?_
    refine j_icmp_eq C 62 dX1_bendsOf_55 (by decide) (fun c55 => ?_) (fun c55 => ?_)
    · skip
      refine j_iconst C (v := (nI 0)) dX1_bendsOf_62 (by decide) ?_
      refine j_callU (As := [.int (lawF row 0 (w p) (row (30 + 6 * p + 1)) (row 0)), .int (row (30 + 6 * p + 1)), .int (nI 0)]) (rest := []) C uw1_92_2 (h_X2_bends_25) ⟨25, 2, _, _, rfl, rfl, rfl⟩ rfl (Nat.le_of_ble_eq_true rfl) dX1_bendsOf_63 (by decide) ?_
      rintro _ _ ⟨rfl, rfl⟩
      refine j_iret C dX1_bendsOf_66 ?_
      refine ⟨?_, g86, rfl⟩
      rw [bendF_eq ek (by omega)]
      rfl
    · skip
      refine j_iconst C (v := (nI 1)) dX1_bendsOf_58 (by decide) ?_
      refine j_goto C 63 dX1_bendsOf_59 (by decide) ?_
      refine j_callU (As := [.int (lawF row 0 (w p) (row (30 + 6 * p + 1)) (row 0)), .int (row (30 + 6 * p + 1)), .int (nI 1)]) (rest := []) C uw1_92_2 (h_X2_bends_25) ⟨25, 2, _, _, rfl, rfl, rfl⟩ rfl (Nat.le_of_ble_eq_true rfl) dX1_bendsOf_63 (by decide) ?_
      rintro _ _ ⟨rfl, rfl⟩
      refine j_iret C dX1_bendsOf_66 ?_
      refine ⟨?_, g86, rfl⟩
      rw [bendF_eq ek (by omega)]
      rfl
  · refine j_aload_n C 0 dX1_bendsOf_0 rfl ?_
    refine j_get C (v := .ref (q 6)) 5 14 rfl rfl inlC1 (by decide) kf1_56 rfl dX1_bendsOf_1 ?_
    refine j_aload_n C 0 dX1_bendsOf_4 rfl ?_
    refine j_get C (v := .ref (q 64)) 5 11 rfl rfl inlC1 (by decide) kf1_46 rfl dX1_bendsOf_5 ?_
    refine j_iload_n C 1 dX1_bendsOf_8 rfl ?_
    refine j_ialdN C 64 0 rfl rfl p rfl (by omega) (by decide) dX1_bendsOf_9 ?_
    refine j_v (w p) (hF.weighs p (by omega)) ?_
    refine j_aload_n C 0 dX1_bendsOf_10 rfl ?_
    refine j_get C (v := .ref (q 59)) 5 6 rfl rfl inlC1 (by decide) kf1_31 rfl dX1_bendsOf_11 ?_
    refine j_iload_n C 1 dX1_bendsOf_14 rfl ?_
    refine j_ialdN C 59 0 rfl rfl p rfl (by omega) (by decide) dX1_bendsOf_15 ?_
    refine j_v (row (30 + 6 * p + 1)) (hF.per 1 (by omega) p (by omega)) ?_
    refine j_aload_n C 0 dX1_bendsOf_16 rfl ?_
    refine j_get C (v := .int (S 12)) 5 3 rfl rfl inlC1 (by decide) kf1_22 rfl dX1_bendsOf_17 ?_
    refine j_v (row 0) hF.dawn ?_
    refine j_callVN (As := [.int (w p), .int (row (30 + 6 * p + 1)), .int (row 0)]) (rest := []) C vn1_82 (h_gives_0 hL0) ⟨6, 4, _, _, rfl, rfl, rfl⟩ rfl (Nat.le_of_ble_eq_true rfl) dX1_bendsOf_20 (by decide) ?_
    rintro _ _ ⟨rfl, g86, rfl⟩
    refine j_istore_n C [(2, .int (lawF row 0 (w p) (row (30 + 6 * p + 1)) (row 0))), (0, .ref (q 5)), (1, .int (nI p))] dX1_bendsOf_23 (by decide) rfl ?_
    refine j_aload_n C 1 dX1_bendsOf_24 rfl ?_
    refine j_get C (v := .ref (q 32)) 5 13 rfl rfl inlC1 (by decide) kf1_52 rfl dX1_bendsOf_25 ?_
    refine j_aload_n C 1 dX1_bendsOf_28 rfl ?_
    refine j_get C (v := .ref (q 58)) 5 5 rfl rfl inlC1 (by decide) kf1_28 rfl dX1_bendsOf_29 ?_
    refine j_iload_n C 2 dX1_bendsOf_32 rfl ?_
    refine j_ialdN C 58 0 rfl rfl p rfl (by omega) (by decide) dX1_bendsOf_33 ?_
    refine j_v (nI 1) ((hF.per 0 (by omega) p (by omega)).trans ek) ?_
    refine j_aaldN C 32 1 rfl rfl 1 rfl (by decide) (by decide) rfl dX1_bendsOf_34 ?_
    refine j_iload_n C 0 dX1_bendsOf_35 rfl ?_
    refine j_aload_n C 1 dX1_bendsOf_36 rfl ?_
    refine j_get C (v := .ref (q 59)) 5 6 rfl rfl inlC1 (by decide) kf1_31 rfl dX1_bendsOf_37 ?_
    refine j_iload_n C 2 dX1_bendsOf_40 rfl ?_
    refine j_ialdN C 59 0 rfl rfl p rfl (by omega) (by decide) dX1_bendsOf_41 ?_
    refine j_v (row (30 + 6 * p + 1)) (hF.per 1 (by omega) p (by omega)) ?_
    refine j_aload_n C 1 dX1_bendsOf_42 rfl ?_
    refine j_aload_n C 1 dX1_bendsOf_43 rfl ?_
    refine j_get C (v := .ref (q 60)) 5 7 rfl rfl inlC1 (by decide) kf1_34 rfl dX1_bendsOf_44 ?_
    refine j_iload_n C 2 dX1_bendsOf_47 rfl ?_
    refine j_ialdN C 60 0 rfl rfl p rfl (by omega) (by decide) dX1_bendsOf_48 ?_
    refine j_v (row (30 + 6 * p + 2)) (hF.per 2 (by omega) p (by omega)) ?_
    refine j_callV (As := [.int (row (30 + 6 * p + 2))]) (rest := [.int (row (30 + 6 * p + 1)), .int (lawF row 0 (w p) (row (30 + 6 * p + 1)) (row 0)), .ref (q 26)]) C vw1_88 (h_who_2 (hF.oth (by omega)) e3 hn6) ⟨5, 1, _, _, rfl, rfl, rfl⟩ rfl (Nat.le_of_ble_eq_true rfl) dX1_bendsOf_49 (by decide) ?_
    rintro _ _ ⟨rfl, rfl⟩
    refine j_iconst C (v := (nI 1)) dX1_bendsOf_52 (by decide) ?_
    refine j_iload_n C 2 dX1_bendsOf_53 rfl ?_
    refine j_ishl C dX1_bendsOf_54 ?_
    refine j_icmp_eq C 62 dX1_bendsOf_55 (by decide) (fun c55 => ?_) (fun c55 => ?_)
    · skip
      refine j_iconst C (v := (nI 0)) dX1_bendsOf_62 (by decide) ?_
      refine j_callU (As := [.int (lawF row 0 (w p) (row (30 + 6 * p + 1)) (row 0)), .int (row (30 + 6 * p + 1)), .int (nI 0)]) (rest := []) C uw1_92_10 (h_X10_bends_26) ⟨26, 10, _, _, rfl, rfl, rfl⟩ rfl (Nat.le_of_ble_eq_true rfl) dX1_bendsOf_63 (by decide) ?_
      rintro _ _ ⟨rfl, rfl⟩
      refine j_iret C dX1_bendsOf_66 ?_
      refine ⟨?_, g86, rfl⟩
      rw [bendF_eq ek (by omega)]
      obtain ⟨t_, ht_, hv_⟩ := lawF_nI row 0 (w p) (row (30 + 6 * p + 1)) (row 0)
      exact less_z hv_ ht_ ⟨fun _ => (who_bes hp hn6).1 c55, fun _ => rfl⟩
    · skip
      refine j_iconst C (v := (nI 1)) dX1_bendsOf_58 (by decide) ?_
      refine j_goto C 63 dX1_bendsOf_59 (by decide) ?_
      refine j_callU (As := [.int (lawF row 0 (w p) (row (30 + 6 * p + 1)) (row 0)), .int (row (30 + 6 * p + 1)), .int (nI 1)]) (rest := []) C uw1_92_10 (h_X10_bends_26) ⟨26, 10, _, _, rfl, rfl, rfl⟩ rfl (Nat.le_of_ble_eq_true rfl) dX1_bendsOf_63 (by decide) ?_
      rintro _ _ ⟨rfl, rfl⟩
      refine j_iret C dX1_bendsOf_66 ?_
      refine ⟨?_, g86, rfl⟩
      rw [bendF_eq ek (by omega)]
      obtain ⟨t_, ht_, hv_⟩ := lawF_nI row 0 (w p) (row (30 + 6 * p + 1)) (row 0)
      exact less_z hv_ ht_ ⟨fun h => absurd h (by decide), fun h => absurd ((who_bes hp hn6).2 h) c55⟩
  · refine j_aload_n C 0 dX1_bendsOf_0 rfl ?_
    refine j_get C (v := .ref (q 6)) 5 14 rfl rfl inlC1 (by decide) kf1_56 rfl dX1_bendsOf_1 ?_
    refine j_aload_n C 0 dX1_bendsOf_4 rfl ?_
    refine j_get C (v := .ref (q 64)) 5 11 rfl rfl inlC1 (by decide) kf1_46 rfl dX1_bendsOf_5 ?_
    refine j_iload_n C 1 dX1_bendsOf_8 rfl ?_
    refine j_ialdN C 64 0 rfl rfl p rfl (by omega) (by decide) dX1_bendsOf_9 ?_
    refine j_v (w p) (hF.weighs p (by omega)) ?_
    refine j_aload_n C 0 dX1_bendsOf_10 rfl ?_
    refine j_get C (v := .ref (q 59)) 5 6 rfl rfl inlC1 (by decide) kf1_31 rfl dX1_bendsOf_11 ?_
    refine j_iload_n C 1 dX1_bendsOf_14 rfl ?_
    refine j_ialdN C 59 0 rfl rfl p rfl (by omega) (by decide) dX1_bendsOf_15 ?_
    refine j_v (row (30 + 6 * p + 1)) (hF.per 1 (by omega) p (by omega)) ?_
    refine j_aload_n C 0 dX1_bendsOf_16 rfl ?_
    refine j_get C (v := .int (S 12)) 5 3 rfl rfl inlC1 (by decide) kf1_22 rfl dX1_bendsOf_17 ?_
    refine j_v (row 0) hF.dawn ?_
    refine j_callVN (As := [.int (w p), .int (row (30 + 6 * p + 1)), .int (row 0)]) (rest := []) C vn1_82 (h_gives_0 hL0) ⟨6, 4, _, _, rfl, rfl, rfl⟩ rfl (Nat.le_of_ble_eq_true rfl) dX1_bendsOf_20 (by decide) ?_
    rintro _ _ ⟨rfl, g86, rfl⟩
    refine j_istore_n C [(2, .int (lawF row 0 (w p) (row (30 + 6 * p + 1)) (row 0))), (0, .ref (q 5)), (1, .int (nI p))] dX1_bendsOf_23 (by decide) rfl ?_
    refine j_aload_n C 1 dX1_bendsOf_24 rfl ?_
    refine j_get C (v := .ref (q 32)) 5 13 rfl rfl inlC1 (by decide) kf1_52 rfl dX1_bendsOf_25 ?_
    refine j_aload_n C 1 dX1_bendsOf_28 rfl ?_
    refine j_get C (v := .ref (q 58)) 5 5 rfl rfl inlC1 (by decide) kf1_28 rfl dX1_bendsOf_29 ?_
    refine j_iload_n C 2 dX1_bendsOf_32 rfl ?_
    refine j_ialdN C 58 0 rfl rfl p rfl (by omega) (by decide) dX1_bendsOf_33 ?_
    refine j_v (nI 2) ((hF.per 0 (by omega) p (by omega)).trans ek) ?_
    refine j_aaldN C 32 1 rfl rfl 2 rfl (by decide) (by decide) rfl dX1_bendsOf_34 ?_
    refine j_iload_n C 0 dX1_bendsOf_35 rfl ?_
    refine j_aload_n C 1 dX1_bendsOf_36 rfl ?_
    refine j_get C (v := .ref (q 59)) 5 6 rfl rfl inlC1 (by decide) kf1_31 rfl dX1_bendsOf_37 ?_
    refine j_iload_n C 2 dX1_bendsOf_40 rfl ?_
    refine j_ialdN C 59 0 rfl rfl p rfl (by omega) (by decide) dX1_bendsOf_41 ?_
    refine j_v (row (30 + 6 * p + 1)) (hF.per 1 (by omega) p (by omega)) ?_
    refine j_aload_n C 1 dX1_bendsOf_42 rfl ?_
    refine j_aload_n C 1 dX1_bendsOf_43 rfl ?_
    refine j_get C (v := .ref (q 60)) 5 7 rfl rfl inlC1 (by decide) kf1_34 rfl dX1_bendsOf_44 ?_
    refine j_iload_n C 2 dX1_bendsOf_47 rfl ?_
    refine j_ialdN C 60 0 rfl rfl p rfl (by omega) (by decide) dX1_bendsOf_48 ?_
    refine j_v (row (30 + 6 * p + 2)) (hF.per 2 (by omega) p (by omega)) ?_
    refine j_callV (As := [.int (row (30 + 6 * p + 2))]) (rest := [.int (row (30 + 6 * p + 1)), .int (lawF row 0 (w p) (row (30 + 6 * p + 1)) (row 0)), .ref (q 27)]) C vw1_88 (h_who_2 (hF.oth (by omega)) e3 hn6) ⟨5, 1, _, _, rfl, rfl, rfl⟩ rfl (Nat.le_of_ble_eq_true rfl) dX1_bendsOf_49 (by decide) ?_
    rintro _ _ ⟨rfl, rfl⟩
    refine j_iconst C (v := (nI 1)) dX1_bendsOf_52 (by decide) ?_
    refine j_iload_n C 2 dX1_bendsOf_53 rfl ?_
    refine j_ishl C dX1_bendsOf_54 ?_
    refine j_icmp_eq C 62 dX1_bendsOf_55 (by decide) (fun c55 => ?_) (fun c55 => ?_)
    · skip
      refine j_iconst C (v := (nI 0)) dX1_bendsOf_62 (by decide) ?_
      refine j_callU (As := [.int (lawF row 0 (w p) (row (30 + 6 * p + 1)) (row 0)), .int (row (30 + 6 * p + 1)), .int (nI 0)]) (rest := []) C uw1_92_0 (h_X0_bends_27) ⟨27, 0, _, _, rfl, rfl, rfl⟩ rfl (Nat.le_of_ble_eq_true rfl) dX1_bendsOf_63 (by decide) ?_
      rintro _ _ ⟨rfl, rfl⟩
      refine j_iret C dX1_bendsOf_66 ?_
      refine ⟨?_, g86, rfl⟩
      rw [bendF_eq ek (by omega)]
      rfl
    · skip
      refine j_iconst C (v := (nI 1)) dX1_bendsOf_58 (by decide) ?_
      refine j_goto C 63 dX1_bendsOf_59 (by decide) ?_
      refine j_callU (As := [.int (lawF row 0 (w p) (row (30 + 6 * p + 1)) (row 0)), .int (row (30 + 6 * p + 1)), .int (nI 1)]) (rest := []) C uw1_92_0 (h_X0_bends_27) ⟨27, 0, _, _, rfl, rfl, rfl⟩ rfl (Nat.le_of_ble_eq_true rfl) dX1_bendsOf_63 (by decide) ?_
      rintro _ _ ⟨rfl, rfl⟩
      refine j_iret C dX1_bendsOf_66 ?_
      refine ⟨?_, g86, rfl⟩
      rw [bendF_eq ek (by omega)]
      rfl
  · refine j_aload_n C 0 dX1_bendsOf_0 rfl ?_
    refine j_get C (v := .ref (q 6)) 5 14 rfl rfl inlC1 (by decide) kf1_56 rfl dX1_bendsOf_1 ?_
    refine j_aload_n C 0 dX1_bendsOf_4 rfl ?_
    refine j_get C (v := .ref (q 64)) 5 11 rfl rfl inlC1 (by decide) kf1_46 rfl dX1_bendsOf_5 ?_
    refine j_iload_n C 1 dX1_bendsOf_8 rfl ?_
    refine j_ialdN C 64 0 rfl rfl p rfl (by omega) (by decide) dX1_bendsOf_9 ?_
    refine j_v (w p) (hF.weighs p (by omega)) ?_
    refine j_aload_n C 0 dX1_bendsOf_10 rfl ?_
    refine j_get C (v := .ref (q 59)) 5 6 rfl rfl inlC1 (by decide) kf1_31 rfl dX1_bendsOf_11 ?_
    refine j_iload_n C 1 dX1_bendsOf_14 rfl ?_
    refine j_ialdN C 59 0 rfl rfl p rfl (by omega) (by decide) dX1_bendsOf_15 ?_
    refine j_v (row (30 + 6 * p + 1)) (hF.per 1 (by omega) p (by omega)) ?_
    refine j_aload_n C 0 dX1_bendsOf_16 rfl ?_
    refine j_get C (v := .int (S 12)) 5 3 rfl rfl inlC1 (by decide) kf1_22 rfl dX1_bendsOf_17 ?_
    refine j_v (row 0) hF.dawn ?_
    refine j_callVN (As := [.int (w p), .int (row (30 + 6 * p + 1)), .int (row 0)]) (rest := []) C vn1_82 (h_gives_0 hL0) ⟨6, 4, _, _, rfl, rfl, rfl⟩ rfl (Nat.le_of_ble_eq_true rfl) dX1_bendsOf_20 (by decide) ?_
    rintro _ _ ⟨rfl, g86, rfl⟩
    refine j_istore_n C [(2, .int (lawF row 0 (w p) (row (30 + 6 * p + 1)) (row 0))), (0, .ref (q 5)), (1, .int (nI p))] dX1_bendsOf_23 (by decide) rfl ?_
    refine j_aload_n C 1 dX1_bendsOf_24 rfl ?_
    refine j_get C (v := .ref (q 32)) 5 13 rfl rfl inlC1 (by decide) kf1_52 rfl dX1_bendsOf_25 ?_
    refine j_aload_n C 1 dX1_bendsOf_28 rfl ?_
    refine j_get C (v := .ref (q 58)) 5 5 rfl rfl inlC1 (by decide) kf1_28 rfl dX1_bendsOf_29 ?_
    refine j_iload_n C 2 dX1_bendsOf_32 rfl ?_
    refine j_ialdN C 58 0 rfl rfl p rfl (by omega) (by decide) dX1_bendsOf_33 ?_
    refine j_v (nI 3) ((hF.per 0 (by omega) p (by omega)).trans ek) ?_
    refine j_aaldN C 32 1 rfl rfl 3 rfl (by decide) (by decide) rfl dX1_bendsOf_34 ?_
    refine j_iload_n C 0 dX1_bendsOf_35 rfl ?_
    refine j_aload_n C 1 dX1_bendsOf_36 rfl ?_
    refine j_get C (v := .ref (q 59)) 5 6 rfl rfl inlC1 (by decide) kf1_31 rfl dX1_bendsOf_37 ?_
    refine j_iload_n C 2 dX1_bendsOf_40 rfl ?_
    refine j_ialdN C 59 0 rfl rfl p rfl (by omega) (by decide) dX1_bendsOf_41 ?_
    refine j_v (row (30 + 6 * p + 1)) (hF.per 1 (by omega) p (by omega)) ?_
    refine j_aload_n C 1 dX1_bendsOf_42 rfl ?_
    refine j_aload_n C 1 dX1_bendsOf_43 rfl ?_
    refine j_get C (v := .ref (q 60)) 5 7 rfl rfl inlC1 (by decide) kf1_34 rfl dX1_bendsOf_44 ?_
    refine j_iload_n C 2 dX1_bendsOf_47 rfl ?_
    refine j_ialdN C 60 0 rfl rfl p rfl (by omega) (by decide) dX1_bendsOf_48 ?_
    refine j_v (row (30 + 6 * p + 2)) (hF.per 2 (by omega) p (by omega)) ?_
    refine j_callV (As := [.int (row (30 + 6 * p + 2))]) (rest := [.int (row (30 + 6 * p + 1)), .int (lawF row 0 (w p) (row (30 + 6 * p + 1)) (row 0)), .ref (q 28)]) C vw1_88 (h_who_2 (hF.oth (by omega)) e3 hn6) ⟨5, 1, _, _, rfl, rfl, rfl⟩ rfl (Nat.le_of_ble_eq_true rfl) dX1_bendsOf_49 (by decide) ?_
    rintro _ _ ⟨rfl, rfl⟩
    refine j_iconst C (v := (nI 1)) dX1_bendsOf_52 (by decide) ?_
    refine j_iload_n C 2 dX1_bendsOf_53 rfl ?_
    refine j_ishl C dX1_bendsOf_54 ?_
    refine j_icmp_eq C 62 dX1_bendsOf_55 (by decide) (fun c55 => ?_) (fun c55 => ?_)
    · skip
      refine j_iconst C (v := (nI 0)) dX1_bendsOf_62 (by decide) ?_
      refine j_callU (As := [.int (lawF row 0 (w p) (row (30 + 6 * p + 1)) (row 0)), .int (row (30 + 6 * p + 1)), .int (nI 0)]) (rest := []) C uw1_92_9 (h_X9_bends_28) ⟨28, 9, _, _, rfl, rfl, rfl⟩ rfl (Nat.le_of_ble_eq_true rfl) dX1_bendsOf_63 (by decide) ?_
      rintro _ _ ⟨rfl, rfl⟩
      refine j_iret C dX1_bendsOf_66 ?_
      refine ⟨?_, g86, rfl⟩
      rw [bendF_eq ek (by omega)]
      rfl
    · skip
      refine j_iconst C (v := (nI 1)) dX1_bendsOf_58 (by decide) ?_
      refine j_goto C 63 dX1_bendsOf_59 (by decide) ?_
      refine j_callU (As := [.int (lawF row 0 (w p) (row (30 + 6 * p + 1)) (row 0)), .int (row (30 + 6 * p + 1)), .int (nI 1)]) (rest := []) C uw1_92_9 (h_X9_bends_28) ⟨28, 9, _, _, rfl, rfl, rfl⟩ rfl (Nat.le_of_ble_eq_true rfl) dX1_bendsOf_63 (by decide) ?_
      rintro _ _ ⟨rfl, rfl⟩
      refine j_iret C dX1_bendsOf_66 ?_
      refine ⟨?_, g86, rfl⟩
      rw [bendF_eq ek (by omega)]
      rfl
  · refine j_aload_n C 0 dX1_bendsOf_0 rfl ?_
    refine j_get C (v := .ref (q 6)) 5 14 rfl rfl inlC1 (by decide) kf1_56 rfl dX1_bendsOf_1 ?_
    refine j_aload_n C 0 dX1_bendsOf_4 rfl ?_
    refine j_get C (v := .ref (q 64)) 5 11 rfl rfl inlC1 (by decide) kf1_46 rfl dX1_bendsOf_5 ?_
    refine j_iload_n C 1 dX1_bendsOf_8 rfl ?_
    refine j_ialdN C 64 0 rfl rfl p rfl (by omega) (by decide) dX1_bendsOf_9 ?_
    refine j_v (w p) (hF.weighs p (by omega)) ?_
    refine j_aload_n C 0 dX1_bendsOf_10 rfl ?_
    refine j_get C (v := .ref (q 59)) 5 6 rfl rfl inlC1 (by decide) kf1_31 rfl dX1_bendsOf_11 ?_
    refine j_iload_n C 1 dX1_bendsOf_14 rfl ?_
    refine j_ialdN C 59 0 rfl rfl p rfl (by omega) (by decide) dX1_bendsOf_15 ?_
    refine j_v (row (30 + 6 * p + 1)) (hF.per 1 (by omega) p (by omega)) ?_
    refine j_aload_n C 0 dX1_bendsOf_16 rfl ?_
    refine j_get C (v := .int (S 12)) 5 3 rfl rfl inlC1 (by decide) kf1_22 rfl dX1_bendsOf_17 ?_
    refine j_v (row 0) hF.dawn ?_
    refine j_callVN (As := [.int (w p), .int (row (30 + 6 * p + 1)), .int (row 0)]) (rest := []) C vn1_82 (h_gives_0 hL0) ⟨6, 4, _, _, rfl, rfl, rfl⟩ rfl (Nat.le_of_ble_eq_true rfl) dX1_bendsOf_20 (by decide) ?_
    rintro _ _ ⟨rfl, g86, rfl⟩
    refine j_istore_n C [(2, .int (lawF row 0 (w p) (row (30 + 6 * p + 1)) (row 0))), (0, .ref (q 5)), (1, .int (nI p))] dX1_bendsOf_23 (by decide) rfl ?_
    refine j_aload_n C 1 dX1_bendsOf_24 rfl ?_
    refine j_get C (v := .ref (q 32)) 5 13 rfl rfl inlC1 (by decide) kf1_52 rfl dX1_bendsOf_25 ?_
    refine j_aload_n C 1 dX1_bendsOf_28 rfl ?_
    refine j_get C (v := .ref (q 58)) 5 5 rfl rfl inlC1 (by decide) kf1_28 rfl dX1_bendsOf_29 ?_
    refine j_iload_n C 2 dX1_bendsOf_32 rfl ?_
    refine j_ialdN C 58 0 rfl rfl p rfl (by omega) (by decide) dX1_bendsOf_33 ?_
    refine j_v (nI 4) ((hF.per 0 (by omega) p (by omega)).trans ek) ?_
    refine j_aaldN C 32 1 rfl rfl 4 rfl (by decide) (by decide) rfl dX1_bendsOf_34 ?_
    refine j_iload_n C 0 dX1_bendsOf_35 rfl ?_
    refine j_aload_n C 1 dX1_bendsOf_36 rfl ?_
    refine j_get C (v := .ref (q 59)) 5 6 rfl rfl inlC1 (by decide) kf1_31 rfl dX1_bendsOf_37 ?_
    refine j_iload_n C 2 dX1_bendsOf_40 rfl ?_
    refine j_ialdN C 59 0 rfl rfl p rfl (by omega) (by decide) dX1_bendsOf_41 ?_
    refine j_v (row (30 + 6 * p + 1)) (hF.per 1 (by omega) p (by omega)) ?_
    refine j_aload_n C 1 dX1_bendsOf_42 rfl ?_
    refine j_aload_n C 1 dX1_bendsOf_43 rfl ?_
    refine j_get C (v := .ref (q 60)) 5 7 rfl rfl inlC1 (by decide) kf1_34 rfl dX1_bendsOf_44 ?_
    refine j_iload_n C 2 dX1_bendsOf_47 rfl ?_
    refine j_ialdN C 60 0 rfl rfl p rfl (by omega) (by decide) dX1_bendsOf_48 ?_
    refine j_v (row (30 + 6 * p + 2)) (hF.per 2 (by omega) p (by omega)) ?_
    refine j_callV (As := [.int (row (30 + 6 * p + 2))]) (rest := [.int (row (30 + 6 * p + 1)), .int (lawF row 0 (w p) (row (30 + 6 * p + 1)) (row 0)), .ref (q 29)]) C vw1_88 (h_who_2 (hF.oth (by omega)) e3 hn6) ⟨5, 1, _, _, rfl, rfl, rfl⟩ rfl (Nat.le_of_ble_eq_true rfl) dX1_bendsOf_49 (by decide) ?_
    rintro _ _ ⟨rfl, rfl⟩
    refine j_iconst C (v := (nI 1)) dX1_bendsOf_52 (by decide) ?_
    refine j_iload_n C 2 dX1_bendsOf_53 rfl ?_
    refine j_ishl C dX1_bendsOf_54 ?_
    refine j_icmp_eq C 62 dX1_bendsOf_55 (by decide) (fun c55 => ?_) (fun c55 => ?_)
    · skip
      refine j_iconst C (v := (nI 0)) dX1_bendsOf_62 (by decide) ?_
      refine j_callU (As := [.int (lawF row 0 (w p) (row (30 + 6 * p + 1)) (row 0)), .int (row (30 + 6 * p + 1)), .int (nI 0)]) (rest := []) C uw1_92_5 (h_X5_bends_29) ⟨29, 5, _, _, rfl, rfl, rfl⟩ rfl (Nat.le_of_ble_eq_true rfl) dX1_bendsOf_63 (by decide) ?_
      rintro _ _ ⟨rfl, rfl⟩
      refine j_iret C dX1_bendsOf_66 ?_
      refine ⟨?_, g86, rfl⟩
      rw [bendF_eq ek (by omega)]
      obtain ⟨t_, ht_, hv_⟩ := lawF_nI row 0 (w p) (row (30 + 6 * p + 1)) (row 0)
      exact congrArg (· + nI 1) (less_z hv_ ht_ ⟨fun _ => (who_bes hp hn6).1 c55, fun _ => rfl⟩)
    · skip
      refine j_iconst C (v := (nI 1)) dX1_bendsOf_58 (by decide) ?_
      refine j_goto C 63 dX1_bendsOf_59 (by decide) ?_
      refine j_callU (As := [.int (lawF row 0 (w p) (row (30 + 6 * p + 1)) (row 0)), .int (row (30 + 6 * p + 1)), .int (nI 1)]) (rest := []) C uw1_92_5 (h_X5_bends_29) ⟨29, 5, _, _, rfl, rfl, rfl⟩ rfl (Nat.le_of_ble_eq_true rfl) dX1_bendsOf_63 (by decide) ?_
      rintro _ _ ⟨rfl, rfl⟩
      refine j_iret C dX1_bendsOf_66 ?_
      refine ⟨?_, g86, rfl⟩
      rw [bendF_eq ek (by omega)]
      obtain ⟨t_, ht_, hv_⟩ := lawF_nI row 0 (w p) (row (30 + 6 * p + 1)) (row 0)
      exact congrArg (· + nI 1) (less_z hv_ ht_ ⟨fun h => absurd h (by decide), fun h => absurd ((who_bes hp hn6).2 h) c55⟩)
  · refine j_aload_n C 0 dX1_bendsOf_0 rfl ?_
    refine j_get C (v := .ref (q 6)) 5 14 rfl rfl inlC1 (by decide) kf1_56 rfl dX1_bendsOf_1 ?_
    refine j_aload_n C 0 dX1_bendsOf_4 rfl ?_
    refine j_get C (v := .ref (q 64)) 5 11 rfl rfl inlC1 (by decide) kf1_46 rfl dX1_bendsOf_5 ?_
    refine j_iload_n C 1 dX1_bendsOf_8 rfl ?_
    refine j_ialdN C 64 0 rfl rfl p rfl (by omega) (by decide) dX1_bendsOf_9 ?_
    refine j_v (w p) (hF.weighs p (by omega)) ?_
    refine j_aload_n C 0 dX1_bendsOf_10 rfl ?_
    refine j_get C (v := .ref (q 59)) 5 6 rfl rfl inlC1 (by decide) kf1_31 rfl dX1_bendsOf_11 ?_
    refine j_iload_n C 1 dX1_bendsOf_14 rfl ?_
    refine j_ialdN C 59 0 rfl rfl p rfl (by omega) (by decide) dX1_bendsOf_15 ?_
    refine j_v (row (30 + 6 * p + 1)) (hF.per 1 (by omega) p (by omega)) ?_
    refine j_aload_n C 0 dX1_bendsOf_16 rfl ?_
    refine j_get C (v := .int (S 12)) 5 3 rfl rfl inlC1 (by decide) kf1_22 rfl dX1_bendsOf_17 ?_
    refine j_v (row 0) hF.dawn ?_
    refine j_callVN (As := [.int (w p), .int (row (30 + 6 * p + 1)), .int (row 0)]) (rest := []) C vn1_82 (h_gives_0 hL0) ⟨6, 4, _, _, rfl, rfl, rfl⟩ rfl (Nat.le_of_ble_eq_true rfl) dX1_bendsOf_20 (by decide) ?_
    rintro _ _ ⟨rfl, g86, rfl⟩
    refine j_istore_n C [(2, .int (lawF row 0 (w p) (row (30 + 6 * p + 1)) (row 0))), (0, .ref (q 5)), (1, .int (nI p))] dX1_bendsOf_23 (by decide) rfl ?_
    refine j_aload_n C 1 dX1_bendsOf_24 rfl ?_
    refine j_get C (v := .ref (q 32)) 5 13 rfl rfl inlC1 (by decide) kf1_52 rfl dX1_bendsOf_25 ?_
    refine j_aload_n C 1 dX1_bendsOf_28 rfl ?_
    refine j_get C (v := .ref (q 58)) 5 5 rfl rfl inlC1 (by decide) kf1_28 rfl dX1_bendsOf_29 ?_
    refine j_iload_n C 2 dX1_bendsOf_32 rfl ?_
    refine j_ialdN C 58 0 rfl rfl p rfl (by omega) (by decide) dX1_bendsOf_33 ?_
    refine j_v (nI 5) ((hF.per 0 (by omega) p (by omega)).trans ek) ?_
    refine j_aaldN C 32 1 rfl rfl 5 rfl (by decide) (by decide) rfl dX1_bendsOf_34 ?_
    refine j_iload_n C 0 dX1_bendsOf_35 rfl ?_
    refine j_aload_n C 1 dX1_bendsOf_36 rfl ?_
    refine j_get C (v := .ref (q 59)) 5 6 rfl rfl inlC1 (by decide) kf1_31 rfl dX1_bendsOf_37 ?_
    refine j_iload_n C 2 dX1_bendsOf_40 rfl ?_
    refine j_ialdN C 59 0 rfl rfl p rfl (by omega) (by decide) dX1_bendsOf_41 ?_
    refine j_v (row (30 + 6 * p + 1)) (hF.per 1 (by omega) p (by omega)) ?_
    refine j_aload_n C 1 dX1_bendsOf_42 rfl ?_
    refine j_aload_n C 1 dX1_bendsOf_43 rfl ?_
    refine j_get C (v := .ref (q 60)) 5 7 rfl rfl inlC1 (by decide) kf1_34 rfl dX1_bendsOf_44 ?_
    refine j_iload_n C 2 dX1_bendsOf_47 rfl ?_
    refine j_ialdN C 60 0 rfl rfl p rfl (by omega) (by decide) dX1_bendsOf_48 ?_
    refine j_v (row (30 + 6 * p + 2)) (hF.per 2 (by omega) p (by omega)) ?_
    refine j_callV (As := [.int (row (30 + 6 * p + 2))]) (rest := [.int (row (30 + 6 * p + 1)), .int (lawF row 0 (w p) (row (30 + 6 * p + 1)) (row 0)), .ref (q 30)]) C vw1_88 (h_who_2 (hF.oth (by omega)) e3 hn6) ⟨5, 1, _, _, rfl, rfl, rfl⟩ rfl (Nat.le_of_ble_eq_true rfl) dX1_bendsOf_49 (by decide) ?_
    rintro _ _ ⟨rfl, rfl⟩
    refine j_iconst C (v := (nI 1)) dX1_bendsOf_52 (by decide) ?_
    refine j_iload_n C 2 dX1_bendsOf_53 rfl ?_
    refine j_ishl C dX1_bendsOf_54 ?_
    refine j_icmp_eq C 62 dX1_bendsOf_55 (by decide) (fun c55 => ?_) (fun c55 => ?_)
    · skip
      refine j_iconst C (v := (nI 0)) dX1_bendsOf_62 (by decide) ?_
      refine j_callU (As := [.int (lawF row 0 (w p) (row (30 + 6 * p + 1)) (row 0)), .int (row (30 + 6 * p + 1)), .int (nI 0)]) (rest := []) C uw1_92_6 (h_X6_bends_30) ⟨30, 6, _, _, rfl, rfl, rfl⟩ rfl (Nat.le_of_ble_eq_true rfl) dX1_bendsOf_63 (by decide) ?_
      rintro _ _ ⟨rfl, rfl⟩
      refine j_iret C dX1_bendsOf_66 ?_
      refine ⟨?_, g86, rfl⟩
      rw [bendF_eq ek (by omega)]
      rfl
    · skip
      refine j_iconst C (v := (nI 1)) dX1_bendsOf_58 (by decide) ?_
      refine j_goto C 63 dX1_bendsOf_59 (by decide) ?_
      refine j_callU (As := [.int (lawF row 0 (w p) (row (30 + 6 * p + 1)) (row 0)), .int (row (30 + 6 * p + 1)), .int (nI 1)]) (rest := []) C uw1_92_6 (h_X6_bends_30) ⟨30, 6, _, _, rfl, rfl, rfl⟩ rfl (Nat.le_of_ble_eq_true rfl) dX1_bendsOf_63 (by decide) ?_
      rintro _ _ ⟨rfl, rfl⟩
      refine j_iret C dX1_bendsOf_66 ?_
      refine ⟨?_, g86, rfl⟩
      rw [bendF_eq ek (by omega)]
      rfl
  · refine j_aload_n C 0 dX1_bendsOf_0 rfl ?_
    refine j_get C (v := .ref (q 6)) 5 14 rfl rfl inlC1 (by decide) kf1_56 rfl dX1_bendsOf_1 ?_
    refine j_aload_n C 0 dX1_bendsOf_4 rfl ?_
    refine j_get C (v := .ref (q 64)) 5 11 rfl rfl inlC1 (by decide) kf1_46 rfl dX1_bendsOf_5 ?_
    refine j_iload_n C 1 dX1_bendsOf_8 rfl ?_
    refine j_ialdN C 64 0 rfl rfl p rfl (by omega) (by decide) dX1_bendsOf_9 ?_
    refine j_v (w p) (hF.weighs p (by omega)) ?_
    refine j_aload_n C 0 dX1_bendsOf_10 rfl ?_
    refine j_get C (v := .ref (q 59)) 5 6 rfl rfl inlC1 (by decide) kf1_31 rfl dX1_bendsOf_11 ?_
    refine j_iload_n C 1 dX1_bendsOf_14 rfl ?_
    refine j_ialdN C 59 0 rfl rfl p rfl (by omega) (by decide) dX1_bendsOf_15 ?_
    refine j_v (row (30 + 6 * p + 1)) (hF.per 1 (by omega) p (by omega)) ?_
    refine j_aload_n C 0 dX1_bendsOf_16 rfl ?_
    refine j_get C (v := .int (S 12)) 5 3 rfl rfl inlC1 (by decide) kf1_22 rfl dX1_bendsOf_17 ?_
    refine j_v (row 0) hF.dawn ?_
    refine j_callVN (As := [.int (w p), .int (row (30 + 6 * p + 1)), .int (row 0)]) (rest := []) C vn1_82 (h_gives_0 hL0) ⟨6, 4, _, _, rfl, rfl, rfl⟩ rfl (Nat.le_of_ble_eq_true rfl) dX1_bendsOf_20 (by decide) ?_
    rintro _ _ ⟨rfl, g86, rfl⟩
    refine j_istore_n C [(2, .int (lawF row 0 (w p) (row (30 + 6 * p + 1)) (row 0))), (0, .ref (q 5)), (1, .int (nI p))] dX1_bendsOf_23 (by decide) rfl ?_
    refine j_aload_n C 1 dX1_bendsOf_24 rfl ?_
    refine j_get C (v := .ref (q 32)) 5 13 rfl rfl inlC1 (by decide) kf1_52 rfl dX1_bendsOf_25 ?_
    refine j_aload_n C 1 dX1_bendsOf_28 rfl ?_
    refine j_get C (v := .ref (q 58)) 5 5 rfl rfl inlC1 (by decide) kf1_28 rfl dX1_bendsOf_29 ?_
    refine j_iload_n C 2 dX1_bendsOf_32 rfl ?_
    refine j_ialdN C 58 0 rfl rfl p rfl (by omega) (by decide) dX1_bendsOf_33 ?_
    refine j_v (nI 6) ((hF.per 0 (by omega) p (by omega)).trans ek) ?_
    refine j_aaldN C 32 1 rfl rfl 6 rfl (by decide) (by decide) rfl dX1_bendsOf_34 ?_
    refine j_iload_n C 0 dX1_bendsOf_35 rfl ?_
    refine j_aload_n C 1 dX1_bendsOf_36 rfl ?_
    refine j_get C (v := .ref (q 59)) 5 6 rfl rfl inlC1 (by decide) kf1_31 rfl dX1_bendsOf_37 ?_
    refine j_iload_n C 2 dX1_bendsOf_40 rfl ?_
    refine j_ialdN C 59 0 rfl rfl p rfl (by omega) (by decide) dX1_bendsOf_41 ?_
    refine j_v (row (30 + 6 * p + 1)) (hF.per 1 (by omega) p (by omega)) ?_
    refine j_aload_n C 1 dX1_bendsOf_42 rfl ?_
    refine j_aload_n C 1 dX1_bendsOf_43 rfl ?_
    refine j_get C (v := .ref (q 60)) 5 7 rfl rfl inlC1 (by decide) kf1_34 rfl dX1_bendsOf_44 ?_
    refine j_iload_n C 2 dX1_bendsOf_47 rfl ?_
    refine j_ialdN C 60 0 rfl rfl p rfl (by omega) (by decide) dX1_bendsOf_48 ?_
    refine j_v (row (30 + 6 * p + 2)) (hF.per 2 (by omega) p (by omega)) ?_
    refine j_callV (As := [.int (row (30 + 6 * p + 2))]) (rest := [.int (row (30 + 6 * p + 1)), .int (lawF row 0 (w p) (row (30 + 6 * p + 1)) (row 0)), .ref (q 31)]) C vw1_88 (h_who_2 (hF.oth (by omega)) e3 hn6) ⟨5, 1, _, _, rfl, rfl, rfl⟩ rfl (Nat.le_of_ble_eq_true rfl) dX1_bendsOf_49 (by decide) ?_
    rintro _ _ ⟨rfl, rfl⟩
    refine j_iconst C (v := (nI 1)) dX1_bendsOf_52 (by decide) ?_
    refine j_iload_n C 2 dX1_bendsOf_53 rfl ?_
    refine j_ishl C dX1_bendsOf_54 ?_
    refine j_icmp_eq C 62 dX1_bendsOf_55 (by decide) (fun c55 => ?_) (fun c55 => ?_)
    · skip
      refine j_iconst C (v := (nI 0)) dX1_bendsOf_62 (by decide) ?_
      refine j_callU (As := [.int (lawF row 0 (w p) (row (30 + 6 * p + 1)) (row 0)), .int (row (30 + 6 * p + 1)), .int (nI 0)]) (rest := []) C uw1_92_7 (h_X9_bends_31) ⟨31, 7, _, _, rfl, rfl, rfl⟩ rfl (Nat.le_of_ble_eq_true rfl) dX1_bendsOf_63 (by decide) ?_
      rintro _ _ ⟨rfl, rfl⟩
      refine j_iret C dX1_bendsOf_66 ?_
      refine ⟨?_, g86, rfl⟩
      rw [bendF_eq ek (by omega)]
      rfl
    · skip
      refine j_iconst C (v := (nI 1)) dX1_bendsOf_58 (by decide) ?_
      refine j_goto C 63 dX1_bendsOf_59 (by decide) ?_
      refine j_callU (As := [.int (lawF row 0 (w p) (row (30 + 6 * p + 1)) (row 0)), .int (row (30 + 6 * p + 1)), .int (nI 1)]) (rest := []) C uw1_92_7 (h_X9_bends_31) ⟨31, 7, _, _, rfl, rfl, rfl⟩ rfl (Nat.le_of_ble_eq_true rfl) dX1_bendsOf_63 (by decide) ?_
      rintro _ _ ⟨rfl, rfl⟩
      refine j_iret C dX1_bendsOf_66 ?_
      refine ⟨?_, g86, rfl⟩
      rw [bendF_eq ek (by omega)]
      rfl

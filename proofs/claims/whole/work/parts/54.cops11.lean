/-! The class's public calls: image, restore, check. -/
theorem CLaw.sz {S : Nat → Int32} {X : Nat → Nat → Int32} {lam : Nat} {row : Nat → Int32} {u : Nat} (h : CLaw S X lam row u) : ∃ t, t ≤ 50 ∧ S (23 + lam) = nI t := by
  rcases h with ⟨-, h⟩ | ⟨n, -, -, cd, -, h, -, hl, -⟩
  · exact ⟨0, by omega, h⟩
  · exact ⟨_, hl, h⟩
/-- a law's steps lie in another place -/
theorem CLaw.mv {S S' : Nat → Int32} {X X' : Nat → Nat → Int32} {lam lam' : Nat} {row : Nat → Int32} {u t : Nat} (h : CLaw S X lam row u) (ht : t ≤ 50) (et : S (23 + lam) = nI t) (hS : S' (23 + lam') = nI t) (hX : ∀ j, j < t → X' (76 + lam') j = X (76 + lam) j) : CLaw S' X' lam' row u := by
  rcases h with ⟨a, h⟩ | ⟨n, a, b, cd, c, h, g, hl, k, e⟩
  · exact Or.inl ⟨a, hS.trans (et.symm.trans h)⟩
  · have e1 : t = cd.length := (nI_eq (by omega) (by omega)).1 (et.symm.trans h)
    exact Or.inr ⟨n, a, b, cd, c, hS.trans (by rw [e1]), g, hl, fun j hj => (hX j (by omega)).trans (k j hj), e⟩
/-- what a copy of what is kept leaves alone -/
def FrKS (u : Nat) (S' S : Nat → Int32) : Prop := ∀ k, ¬ k = 1 + 2 * u → ¬ k = 2 + 2 * u → (k < 5 + 3 * u ∨ 8 + 3 * u ≤ k) → ¬ k = 19 + 2 * u → ¬ k = 20 + 2 * u → ¬ k = 23 + 2 * u → ¬ k = 24 + 2 * u → S' k = S k
def FrKX (u : Nat) (X' X : Nat → Nat → Int32) : Prop := ∀ k, (k < 36 + 10 * u ∨ 44 + 10 * u ≤ k) → (k < 66 + 3 * u ∨ 69 + 3 * u ≤ k) → ¬ k = 72 + 2 * u → ¬ k = 73 + 2 * u → ¬ k = 76 + 2 * u → ¬ k = 77 + 2 * u → X' k = X k

theorem dX3_copyFrom_0 : decode cX3_copyFrom 0 = .ok (.aload_n 0, 1) := by decide +kernel
theorem dX3_copyFrom_1 : decode cX3_copyFrom 1 = .ok (.getfield 40, 3) := by decide +kernel
theorem dX3_copyFrom_4 : decode cX3_copyFrom 4 = .ok (.getfield 44, 3) := by decide +kernel
theorem dX3_copyFrom_7 : decode cX3_copyFrom 7 = .ok (.getfield 50, 3) := by decide +kernel
theorem dX3_copyFrom_10 : decode cX3_copyFrom 10 = .ok (.aload_n 1, 1) := by decide +kernel
theorem dX3_copyFrom_11 : decode cX3_copyFrom 11 = .ok (.getfield 40, 3) := by decide +kernel
theorem dX3_copyFrom_14 : decode cX3_copyFrom 14 = .ok (.getfield 44, 3) := by decide +kernel
theorem dX3_copyFrom_17 : decode cX3_copyFrom 17 = .ok (.getfield 50, 3) := by decide +kernel
theorem dX3_copyFrom_20 : decode cX3_copyFrom 20 = .ok (.invokevirtual 55, 3) := by decide +kernel
theorem dX3_copyFrom_23 : decode cX3_copyFrom 23 = .ok (.aload_n 0, 1) := by decide +kernel
theorem dX3_copyFrom_24 : decode cX3_copyFrom 24 = .ok (.getfield 40, 3) := by decide +kernel
theorem dX3_copyFrom_27 : decode cX3_copyFrom 27 = .ok (.getfield 59, 3) := by decide +kernel
theorem dX3_copyFrom_30 : decode cX3_copyFrom 30 = .ok (.getfield 50, 3) := by decide +kernel
theorem dX3_copyFrom_33 : decode cX3_copyFrom 33 = .ok (.aload_n 1, 1) := by decide +kernel
theorem dX3_copyFrom_34 : decode cX3_copyFrom 34 = .ok (.getfield 40, 3) := by decide +kernel
theorem dX3_copyFrom_37 : decode cX3_copyFrom 37 = .ok (.getfield 59, 3) := by decide +kernel
theorem dX3_copyFrom_40 : decode cX3_copyFrom 40 = .ok (.getfield 50, 3) := by decide +kernel
theorem dX3_copyFrom_43 : decode cX3_copyFrom 43 = .ok (.invokevirtual 55, 3) := by decide +kernel
theorem dX3_copyFrom_46 : decode cX3_copyFrom 46 = .ok (.aload_n 0, 1) := by decide +kernel
theorem dX3_copyFrom_47 : decode cX3_copyFrom 47 = .ok (.getfield 40, 3) := by decide +kernel
theorem dX3_copyFrom_50 : decode cX3_copyFrom 50 = .ok (.aload_n 1, 1) := by decide +kernel
theorem dX3_copyFrom_51 : decode cX3_copyFrom 51 = .ok (.getfield 40, 3) := by decide +kernel
theorem dX3_copyFrom_54 : decode cX3_copyFrom 54 = .ok (.invokevirtual 62, 3) := by decide +kernel
theorem dX3_copyFrom_57 : decode cX3_copyFrom 57 = .ok (.aload_n 0, 1) := by decide +kernel
theorem dX3_copyFrom_58 : decode cX3_copyFrom 58 = .ok (.aload_n 1, 1) := by decide +kernel
theorem dX3_copyFrom_59 : decode cX3_copyFrom 59 = .ok (.getfield 9, 3) := by decide +kernel
theorem dX3_copyFrom_62 : decode cX3_copyFrom 62 = .ok (.putfield 9, 3) := by decide +kernel
theorem dX3_copyFrom_65 : decode cX3_copyFrom 65 = .ok (.aload_n 1, 1) := by decide +kernel
theorem dX3_copyFrom_66 : decode cX3_copyFrom 66 = .ok (.getfield 15, 3) := by decide +kernel
theorem dX3_copyFrom_69 : decode cX3_copyFrom 69 = .ok (.iconst 0, 1) := by decide +kernel
theorem dX3_copyFrom_70 : decode cX3_copyFrom 70 = .ok (.aload_n 0, 1) := by decide +kernel
theorem dX3_copyFrom_71 : decode cX3_copyFrom 71 = .ok (.getfield 15, 3) := by decide +kernel
theorem dX3_copyFrom_74 : decode cX3_copyFrom 74 = .ok (.iconst 0, 1) := by decide +kernel
theorem dX3_copyFrom_75 : decode cX3_copyFrom 75 = .ok (.bipush 8, 2) := by decide +kernel
theorem dX3_copyFrom_77 : decode cX3_copyFrom 77 = .ok (.invokestatic 65, 3) := by decide +kernel
theorem dX3_copyFrom_80 : decode cX3_copyFrom 80 = .ok (.aload_n 1, 1) := by decide +kernel
theorem dX3_copyFrom_81 : decode cX3_copyFrom 81 = .ok (.getfield 19, 3) := by decide +kernel
theorem dX3_copyFrom_84 : decode cX3_copyFrom 84 = .ok (.iconst 0, 1) := by decide +kernel
theorem dX3_copyFrom_85 : decode cX3_copyFrom 85 = .ok (.aload_n 0, 1) := by decide +kernel
theorem dX3_copyFrom_86 : decode cX3_copyFrom 86 = .ok (.getfield 19, 3) := by decide +kernel
theorem dX3_copyFrom_89 : decode cX3_copyFrom 89 = .ok (.iconst 0, 1) := by decide +kernel
theorem dX3_copyFrom_90 : decode cX3_copyFrom 90 = .ok (.bipush 8, 2) := by decide +kernel
theorem dX3_copyFrom_92 : decode cX3_copyFrom 92 = .ok (.invokestatic 65, 3) := by decide +kernel
theorem dX3_copyFrom_95 : decode cX3_copyFrom 95 = .ok (.aload_n 1, 1) := by decide +kernel
theorem dX3_copyFrom_96 : decode cX3_copyFrom 96 = .ok (.getfield 22, 3) := by decide +kernel
theorem dX3_copyFrom_99 : decode cX3_copyFrom 99 = .ok (.iconst 0, 1) := by decide +kernel
theorem dX3_copyFrom_100 : decode cX3_copyFrom 100 = .ok (.aload_n 0, 1) := by decide +kernel
theorem dX3_copyFrom_101 : decode cX3_copyFrom 101 = .ok (.getfield 22, 3) := by decide +kernel
theorem dX3_copyFrom_104 : decode cX3_copyFrom 104 = .ok (.iconst 0, 1) := by decide +kernel
theorem dX3_copyFrom_105 : decode cX3_copyFrom 105 = .ok (.bipush 8, 2) := by decide +kernel
theorem dX3_copyFrom_107 : decode cX3_copyFrom 107 = .ok (.invokestatic 65, 3) := by decide +kernel
theorem dX3_copyFrom_110 : decode cX3_copyFrom 110 = .ok (.aload_n 0, 1) := by decide +kernel
theorem dX3_copyFrom_111 : decode cX3_copyFrom 111 = .ok (.getfield 30, 3) := by decide +kernel
theorem dX3_copyFrom_114 : decode cX3_copyFrom 114 = .ok (.aload_n 1, 1) := by decide +kernel
theorem dX3_copyFrom_115 : decode cX3_copyFrom 115 = .ok (.getfield 30, 3) := by decide +kernel
theorem dX3_copyFrom_118 : decode cX3_copyFrom 118 = .ok (.invokevirtual 55, 3) := by decide +kernel
theorem dX3_copyFrom_121 : decode cX3_copyFrom 121 = .ok (.aload_n 0, 1) := by decide +kernel
theorem dX3_copyFrom_122 : decode cX3_copyFrom 122 = .ok (.getfield 34, 3) := by decide +kernel
theorem dX3_copyFrom_125 : decode cX3_copyFrom 125 = .ok (.aload_n 1, 1) := by decide +kernel
theorem dX3_copyFrom_126 : decode cX3_copyFrom 126 = .ok (.getfield 34, 3) := by decide +kernel
theorem dX3_copyFrom_129 : decode cX3_copyFrom 129 = .ok (.invokevirtual 55, 3) := by decide +kernel
theorem dX3_copyFrom_132 : decode cX3_copyFrom 132 = .ok (.aload_n 0, 1) := by decide +kernel
theorem dX3_copyFrom_133 : decode cX3_copyFrom 133 = .ok (.aload_n 1, 1) := by decide +kernel
theorem dX3_copyFrom_134 : decode cX3_copyFrom 134 = .ok (.getfield 37, 3) := by decide +kernel
theorem dX3_copyFrom_137 : decode cX3_copyFrom 137 = .ok (.putfield 37, 3) := by decide +kernel
theorem dX3_copyFrom_140 : decode cX3_copyFrom 140 = .ok (.return_, 1) := by decide +kernel
set_option maxHeartbeats 2000000 in
set_option maxRecDepth 20000 in
theorem h_kcopy_1 {l : Launch} {D : va_G} {cI cG cW : ClassId} {q : Nat → Nat} {S : Nat → Int32} {X : Nat → Nat → Int32} {P : Nat → Nat} {row w : Nat → Int32} {nc np : Nat} (hF : CF S X 0 row w nc np) {nw nt nq : Nat} (hK : CK S X 0 row nw nt nq) (hc10 : nc ≤ 10) (hn6 : np ≤ 6) (hw8 : nw ≤ 8) (e4 : row 4 = nI nt) (ht : nt ≤ 50) (e5 : row 5 = nI nq) (hq : nq ≤ 20) (hL0 : CLaw S X 0 row 0) (hL1 : CLaw S X 1 row 1) : Cv l yX3_copyFrom cX3_copyFrom 2 none 4 D (tyL cI cG cW) (wC cI cG cW q) [.ref (q 2), .ref (q 1)] (S, X, P) (fun τ => ∃ S' X', τ = (S', X', P) ∧ CF S' X' 1 row (X' 54) nc np ∧ CK S' X' 1 row nw nt nq ∧ CLaw S' X' 2 row 0 ∧ CLaw S' X' 3 row 1 ∧ FrKS 1 S' S ∧ FrKX 1 X' X) := by
  refine Cv.of (by decide) (Nat.le_of_ble_eq_true rfl) ?_
  intro p_ e_ s_ m_ b_ M_ c_ A_ C
  replace C : Cx _ _ _ _ _ _ _ _ RX3 _ _ _ _ := C
  refine j_L [0, 1] [(0, .ref (q 2)), (1, .ref (q 1))] rfl ?_
  obtain ⟨t0, h0, et0⟩ := hL0.sz
  obtain ⟨t1, h1, et1⟩ := hL1.sz
  refine j_aload_n C 0 dX3_copyFrom_0 rfl ?_
  refine j_get C (v := .ref (q 4)) 2 0 rfl rfl inlC3 (by decide) kf3_40 rfl dX3_copyFrom_1 ?_
  refine j_getN C (v := .ref (q 8)) 4 14 rfl rfl inlC1 (by decide) kf3_44 rfl dX3_copyFrom_4 ?_
  refine j_getN C (v := .ref (q 17)) 8 1 rfl rfl inlC4 (by decide) kf3_50 rfl dX3_copyFrom_7 ?_
  refine j_aload_n C 1 dX3_copyFrom_10 rfl ?_
  refine j_get C (v := .ref (q 3)) 1 0 rfl rfl inlC3 (by decide) kf3_40 rfl dX3_copyFrom_11 ?_
  refine j_getN C (v := .ref (q 6)) 3 14 rfl rfl inlC1 (by decide) kf3_44 rfl dX3_copyFrom_14 ?_
  refine j_getN C (v := .ref (q 15)) 6 1 rfl rfl inlC4 (by decide) kf3_50 rfl dX3_copyFrom_17 ?_
  refine j_callVNv (As := [.ref (q 15)]) (rest := []) C vn3_55 (h_copy_6_4 t0 et0 (by omega)) ⟨17, 8, _, _, rfl, rfl, rfl⟩ rfl (Nat.le_of_ble_eq_true rfl) dX3_copyFrom_20 (by decide) ?_
  rintro _ rfl
  refine j_aload_n C 0 dX3_copyFrom_23 rfl ?_
  refine j_get C (v := .ref (q 4)) 2 0 rfl rfl inlC3 (by decide) kf3_40 rfl dX3_copyFrom_24 ?_
  refine j_getN C (v := .ref (q 9)) 4 15 rfl rfl inlC1 (by decide) kf3_59 rfl dX3_copyFrom_27 ?_
  refine j_getN C (v := .ref (q 18)) 9 1 rfl rfl inlC4 (by decide) kf3_50 rfl dX3_copyFrom_30 ?_
  refine j_aload_n C 1 dX3_copyFrom_33 rfl ?_
  refine j_get C (v := .ref (q 3)) 1 0 rfl rfl inlC3 (by decide) kf3_40 rfl dX3_copyFrom_34 ?_
  refine j_getN C (v := .ref (q 7)) 3 15 rfl rfl inlC1 (by decide) kf3_59 rfl dX3_copyFrom_37 ?_
  refine j_getN C (v := .ref (q 16)) 7 1 rfl rfl inlC4 (by decide) kf3_50 rfl dX3_copyFrom_40 ?_
  refine j_callVNv (As := [.ref (q 16)]) (rest := []) C vn3_55 (h_copy_7_5 t1 ((pk_un (by omega)).trans et1) (by omega)) ⟨18, 8, _, _, rfl, rfl, rfl⟩ rfl (Nat.le_of_ble_eq_true rfl) dX3_copyFrom_43 (by decide) ?_
  rintro _ rfl
  refine j_aload_n C 0 dX3_copyFrom_46 rfl ?_
  refine j_get C (v := .ref (q 4)) 2 0 rfl rfl inlC3 (by decide) kf3_40 rfl dX3_copyFrom_47 ?_
  refine j_aload_n C 1 dX3_copyFrom_50 rfl ?_
  refine j_get C (v := .ref (q 3)) 1 0 rfl rfl inlC3 (by decide) kf3_40 rfl dX3_copyFrom_51 ?_
  refine j_callVNv (As := [.ref (q 3)]) (rest := []) C vn3_62 (h_fcopy_1_0 (w := w) (hF.cg (fun k _ _ => (pk_un (by omega)).trans (pk_un (by omega))) (fun k _ _ => (va_n (by omega)).trans (va_n (by omega))) (fun p hp => (congrFun ((va_n (by omega)).trans (va_n (by omega))) p).trans (hF.weighs p hp)) (fun _ _ => rfl) hc10 hn6) hc10 hn6) ⟨4, 1, _, _, rfl, rfl, rfl⟩ rfl (Nat.le_of_ble_eq_true rfl) dX3_copyFrom_54 (by decide) ?_
  rintro _ ⟨S1, X1, rfl, hG, hFr⟩
  have a0 : S1 25 = nI t0 := (hFr.1 25 (by omega)).trans ((pk_un (by omega)).trans pk_us)
  have a1 : S1 26 = nI t1 := (hFr.1 26 (by omega)).trans pk_us
  have aS : ∀ k, (k < 8 ∨ 11 ≤ k) → ¬ k = 25 → ¬ k = 26 → S1 k = S k := fun k h1 h2 h3 => (hFr.1 k (by omega)).trans ((pk_un h3).trans (pk_un h2))
  have aX : ∀ k, (k < 46 ∨ 54 ≤ k) → ¬ k = 78 → ¬ k = 79 → X1 k = X k := fun k h1 h2 h3 => (hFr.2 k (by omega)).trans ((va_n h3).trans (va_n h2))
  have x0 : ∀ j, j < t0 → X1 78 j = X 76 j := fun j hj => (congrFun (hFr.2 78 (by omega)) j).trans ((congrFun (va_n (by omega)) j).trans ((congrFun va_s j).trans (cpy_lt hj)))
  have x1 : ∀ j, j < t1 → X1 79 j = X 77 j := fun j hj => (congrFun (hFr.2 79 (by omega)) j).trans ((congrFun va_s j).trans ((cpy_lt hj).trans (congrFun (va_n (by omega)) j)))
  refine j_aload_n C 0 dX3_copyFrom_57 rfl ?_
  refine j_aload_n C 1 dX3_copyFrom_58 rfl ?_
  refine j_get C (v := .int (S1 1)) 1 1 rfl rfl inlC3 (by decide) kf3_9 rfl dX3_copyFrom_59 ?_
  refine j_put C 2 1 rfl rfl inlC3 tyX3 tyX3_ok nmX3 (by decide) kf3_9 rfl (ty := .int) (by decide +kernel) rfl rfl (Nat.le_of_ble_eq_true rfl) dX3_copyFrom_62 (upd S1 3 (S1 1), X1, P) rfl ?_
  refine j_aload_n C 1 dX3_copyFrom_65 rfl ?_
  refine j_get C (v := .ref (q 66)) 1 2 rfl rfl inlC3 (by decide) kf3_15 rfl dX3_copyFrom_66 ?_
  refine j_iconst C (v := (nI 0)) dX3_copyFrom_69 (by decide) ?_
  refine j_aload_n C 0 dX3_copyFrom_70 rfl ?_
  refine j_get C (v := .ref (q 69)) 2 2 rfl rfl inlC3 (by decide) kf3_15 rfl dX3_copyFrom_71 ?_
  refine j_iconst C (v := (nI 0)) dX3_copyFrom_74 (by decide) ?_
  refine j_bipush C (v := (nI 8)) dX3_copyFrom_75 (by decide) ?_
  refine j_copy (rest := []) C 66 69 0 ac3_65 rfl rfl rfl 0 0 8 (by omega) (by omega) (by decide) (by decide) (by decide) (Nat.le_of_ble_eq_true rfl) dX3_copyFrom_77 (upd S1 3 (S1 1), va_up X1 69 (va_cpy (X1 66) (X1 69) 0 0 8), P) rfl ?_
  refine j_aload_n C 1 dX3_copyFrom_80 rfl ?_
  refine j_get C (v := .ref (q 67)) 1 3 rfl rfl inlC3 (by decide) kf3_19 rfl dX3_copyFrom_81 ?_
  refine j_iconst C (v := (nI 0)) dX3_copyFrom_84 (by decide) ?_
  refine j_aload_n C 0 dX3_copyFrom_85 rfl ?_
  refine j_get C (v := .ref (q 70)) 2 3 rfl rfl inlC3 (by decide) kf3_19 rfl dX3_copyFrom_86 ?_
  refine j_iconst C (v := (nI 0)) dX3_copyFrom_89 (by decide) ?_
  refine j_bipush C (v := (nI 8)) dX3_copyFrom_90 (by decide) ?_
  refine j_copy (rest := []) C 67 70 0 ac3_65 rfl rfl rfl 0 0 8 (by omega) (by omega) (by decide) (by decide) (by decide) (Nat.le_of_ble_eq_true rfl) dX3_copyFrom_92 (upd S1 3 (S1 1), va_up (va_up X1 69 (va_cpy (X1 66) (X1 69) 0 0 8)) 70 (va_cpy (X1 67) (X1 70) 0 0 8), P) rfl ?_
  refine j_aload_n C 1 dX3_copyFrom_95 rfl ?_
  refine j_get C (v := .ref (q 68)) 1 4 rfl rfl inlC3 (by decide) kf3_22 rfl dX3_copyFrom_96 ?_
  refine j_iconst C (v := (nI 0)) dX3_copyFrom_99 (by decide) ?_
  refine j_aload_n C 0 dX3_copyFrom_100 rfl ?_
  refine j_get C (v := .ref (q 71)) 2 4 rfl rfl inlC3 (by decide) kf3_22 rfl dX3_copyFrom_101 ?_
  refine j_iconst C (v := (nI 0)) dX3_copyFrom_104 (by decide) ?_
  refine j_bipush C (v := (nI 8)) dX3_copyFrom_105 (by decide) ?_
  refine j_copy (rest := []) C 68 71 0 ac3_65 rfl rfl rfl 0 0 8 (by omega) (by omega) (by decide) (by decide) (by decide) (Nat.le_of_ble_eq_true rfl) dX3_copyFrom_107 (upd S1 3 (S1 1), va_up (va_up (va_up X1 69 (va_cpy (X1 66) (X1 69) 0 0 8)) 70 (va_cpy (X1 67) (X1 70) 0 0 8)) 71 (va_cpy (X1 68) (X1 71) 0 0 8), P) rfl ?_
  refine j_aload_n C 0 dX3_copyFrom_110 rfl ?_
  refine j_get C (v := .ref (q 13)) 2 5 rfl rfl inlC3 (by decide) kf3_30 rfl dX3_copyFrom_111 ?_
  refine j_aload_n C 1 dX3_copyFrom_114 rfl ?_
  refine j_get C (v := .ref (q 11)) 1 5 rfl rfl inlC3 (by decide) kf3_30 rfl dX3_copyFrom_115 ?_
  refine j_callVNv (As := [.ref (q 11)]) (rest := []) C vn3_55 (h_copy_2_0 nt ((pk_un (by omega)).trans ((aS 19 (by omega) (by omega) (by omega)).trans (hK.tsz.trans e4))) (by omega)) ⟨13, 8, _, _, rfl, rfl, rfl⟩ rfl (Nat.le_of_ble_eq_true rfl) dX3_copyFrom_118 (by decide) ?_
  rintro _ rfl
  refine j_aload_n C 0 dX3_copyFrom_121 rfl ?_
  refine j_get C (v := .ref (q 14)) 2 6 rfl rfl inlC3 (by decide) kf3_34 rfl dX3_copyFrom_122 ?_
  refine j_aload_n C 1 dX3_copyFrom_125 rfl ?_
  refine j_get C (v := .ref (q 12)) 1 6 rfl rfl inlC3 (by decide) kf3_34 rfl dX3_copyFrom_126 ?_
  refine j_callVNv (As := [.ref (q 12)]) (rest := []) C vn3_55 (h_copy_3_1 nq ((pk_un (by omega)).trans ((pk_un (by omega)).trans ((aS 20 (by omega) (by omega) (by omega)).trans (hK.qsz.trans e5)))) (by omega)) ⟨14, 8, _, _, rfl, rfl, rfl⟩ rfl (Nat.le_of_ble_eq_true rfl) dX3_copyFrom_129 (by decide) ?_
  rintro _ rfl
  refine j_aload_n C 0 dX3_copyFrom_132 rfl ?_
  refine j_aload_n C 1 dX3_copyFrom_133 rfl ?_
  refine j_get C (v := .int (S1 2)) 1 7 rfl rfl inlC3 (by decide) kf3_37 rfl dX3_copyFrom_134 ?_
  refine j_put C 2 7 rfl rfl inlC3 tyX3 tyX3_ok nmX3 (by decide) kf3_37 rfl (ty := .int) (by decide +kernel) rfl rfl (Nat.le_of_ble_eq_true rfl) dX3_copyFrom_137 (upd (upd (upd (upd S1 3 (S1 1)) 4 (S1 2)) 21 (nI nt)) 22 (nI nq), va_up (va_up (va_up (va_up (va_up X1 69 (va_cpy (X1 66) (X1 69) 0 0 8)) 70 (va_cpy (X1 67) (X1 70) 0 0 8)) 71 (va_cpy (X1 68) (X1 71) 0 0 8)) 74 (va_cpy (X1 72) (X1 74) 0 0 nt)) 75 (va_cpy (X1 73) (X1 75) 0 0 nq), P) rfl ?_
  refine j_wC (κ' := (upd (upd (upd (upd S1 3 (S1 1)) 4 (S1 2)) 21 (nI nt)) 22 (nI nq), va_up (va_up (va_up (va_up (va_up X1 69 (va_cpy (X1 66) (X1 69) 0 0 8)) 70 (va_cpy (X1 67) (X1 70) 0 0 8)) 71 (va_cpy (X1 68) (X1 71) 0 0 8)) 74 (va_cpy (X1 72) (X1 74) 0 0 nt)) 75 (va_cpy (X1 73) (X1 75) 0 0 nq), P)) rfl ?_
  refine j_vret C dX3_copyFrom_140 ?_
  have uS : ∀ k, ¬ k = 3 → ¬ k = 4 → ¬ k = 21 → ¬ k = 22 → upd (upd (upd (upd S1 3 (S1 1)) 4 (S1 2)) 21 (nI nt)) 22 (nI nq) k = S1 k := fun k h1 h2 h3 h4 => (pk_un h4).trans ((pk_un h3).trans ((pk_un h2).trans (pk_un h1)))
  have uX : ∀ k, (k < 69 ∨ 72 ≤ k) → ¬ k = 74 → ¬ k = 75 → (va_up (va_up (va_up (va_up (va_up X1 69 (va_cpy (X1 66) (X1 69) 0 0 8)) 70 (va_cpy (X1 67) (X1 70) 0 0 8)) 71 (va_cpy (X1 68) (X1 71) 0 0 8)) 74 (va_cpy (X1 72) (X1 74) 0 0 nt)) 75 (va_cpy (X1 73) (X1 75) 0 0 nq)) k = X1 k := fun k h1 h2 h3 => (va_n h3).trans ((va_n h2).trans ((va_n (by omega)).trans ((va_n (by omega)).trans (va_n (by omega)))))
  refine ⟨_, _, rfl, hG.cg (fun k _ _ => uS k (by omega) (by omega) (by omega) (by omega)) (fun k _ _ => uX k (by omega) (by omega) (by omega)) (fun _ _ => rfl) (fun _ _ => rfl) hc10 hn6, ⟨?_, ?_, fun j hj i hi => ?_, ?_, fun i hi => ?_, ?_, fun i hi => ?_⟩, ?_, ?_, ?_, ?_⟩
  · show (upd (upd (upd (upd S1 3 (S1 1)) 4 (S1 2)) 21 (nI nt)) 22 (nI nq)) 3 = _
    rw [pk_un (by omega), pk_un (by omega), pk_un (by omega), pk_us, aS 1 (by omega) (by omega) (by omega)]; exact hK.wrongs
  · show (upd (upd (upd (upd S1 3 (S1 1)) 4 (S1 2)) 21 (nI nt)) 22 (nI nq)) 4 = _
    rw [pk_un (by omega), pk_un (by omega), pk_us, aS 2 (by omega) (by omega) (by omega)]; exact hK.z
  · rcases (show j = 0 ∨ j = 1 ∨ j = 2 by omega) with rfl | rfl | rfl
    · show (va_up (va_up (va_up (va_up (va_up X1 69 (va_cpy (X1 66) (X1 69) 0 0 8)) 70 (va_cpy (X1 67) (X1 70) 0 0 8)) 71 (va_cpy (X1 68) (X1 71) 0 0 8)) 74 (va_cpy (X1 72) (X1 74) 0 0 nt)) 75 (va_cpy (X1 73) (X1 75) 0 0 nq)) 69 i = _
      rw [va_n (by omega), va_n (by omega), va_n (by omega), va_n (by omega), va_s, cpy_lt (by omega), aX 66 (by omega) (by omega) (by omega)]; exact hK.wr 0 (by omega) i hi
    · show (va_up (va_up (va_up (va_up (va_up X1 69 (va_cpy (X1 66) (X1 69) 0 0 8)) 70 (va_cpy (X1 67) (X1 70) 0 0 8)) 71 (va_cpy (X1 68) (X1 71) 0 0 8)) 74 (va_cpy (X1 72) (X1 74) 0 0 nt)) 75 (va_cpy (X1 73) (X1 75) 0 0 nq)) 70 i = _
      rw [va_n (by omega), va_n (by omega), va_n (by omega), va_s, cpy_lt (by omega), aX 67 (by omega) (by omega) (by omega)]; exact hK.wr 1 (by omega) i hi
    · show (va_up (va_up (va_up (va_up (va_up X1 69 (va_cpy (X1 66) (X1 69) 0 0 8)) 70 (va_cpy (X1 67) (X1 70) 0 0 8)) 71 (va_cpy (X1 68) (X1 71) 0 0 8)) 74 (va_cpy (X1 72) (X1 74) 0 0 nt)) 75 (va_cpy (X1 73) (X1 75) 0 0 nq)) 71 i = _
      rw [va_n (by omega), va_n (by omega), va_s, cpy_lt (by omega), aX 68 (by omega) (by omega) (by omega)]; exact hK.wr 2 (by omega) i hi
  · show (upd (upd (upd (upd S1 3 (S1 1)) 4 (S1 2)) 21 (nI nt)) 22 (nI nq)) 21 = _
    rw [pk_un (by omega), pk_us]; exact e4.symm
  · show (va_up (va_up (va_up (va_up (va_up X1 69 (va_cpy (X1 66) (X1 69) 0 0 8)) 70 (va_cpy (X1 67) (X1 70) 0 0 8)) 71 (va_cpy (X1 68) (X1 71) 0 0 8)) 74 (va_cpy (X1 72) (X1 74) 0 0 nt)) 75 (va_cpy (X1 73) (X1 75) 0 0 nq)) 74 i = _
    rw [va_n (by omega), va_s, cpy_lt (by omega), aX 72 (by omega) (by omega) (by omega)]; exact hK.tape i hi
  · show (upd (upd (upd (upd S1 3 (S1 1)) 4 (S1 2)) 21 (nI nt)) 22 (nI nq)) 22 = _
    rw [pk_us]; exact e5.symm
  · show (va_up (va_up (va_up (va_up (va_up X1 69 (va_cpy (X1 66) (X1 69) 0 0 8)) 70 (va_cpy (X1 67) (X1 70) 0 0 8)) 71 (va_cpy (X1 68) (X1 71) 0 0 8)) 74 (va_cpy (X1 72) (X1 74) 0 0 nt)) 75 (va_cpy (X1 73) (X1 75) 0 0 nq)) 75 i = _
    rw [va_s, cpy_lt (by omega), aX 73 (by omega) (by omega) (by omega)]; exact hK.wait i hi
  · exact hL0.mv h0 et0 ((uS 25 (by omega) (by omega) (by omega) (by omega)).trans a0) (fun j hj => (congrFun (uX 78 (by omega) (by omega) (by omega)) j).trans (x0 j hj))
  · exact hL1.mv h1 et1 ((uS 26 (by omega) (by omega) (by omega) (by omega)).trans a1) (fun j hj => (congrFun (uX 79 (by omega) (by omega) (by omega)) j).trans (x1 j hj))
  · exact fun k b1 b2 b3 b4 b5 b6 b7 => (uS k (by omega) (by omega) (by omega) (by omega)).trans (aS k (by omega) (by omega) (by omega))
  · exact fun k b1 b2 b3 b4 b5 b6 => (uX k (by omega) (by omega) (by omega)).trans (aX k (by omega) (by omega) (by omega))
set_option maxHeartbeats 2000000 in
set_option maxRecDepth 20000 in
theorem h_kcopy_0 {l : Launch} {D : va_G} {cI cG cW : ClassId} {q : Nat → Nat} {S : Nat → Int32} {X : Nat → Nat → Int32} {P : Nat → Nat} {row w : Nat → Int32} {nc np : Nat} (hF : CF S X 1 row w nc np) {nw nt nq : Nat} (hK : CK S X 1 row nw nt nq) (hc10 : nc ≤ 10) (hn6 : np ≤ 6) (hw8 : nw ≤ 8) (e4 : row 4 = nI nt) (ht : nt ≤ 50) (e5 : row 5 = nI nq) (hq : nq ≤ 20) (hL0 : CLaw S X 2 row 0) (hL1 : CLaw S X 3 row 1) : Cv l yX3_copyFrom cX3_copyFrom 2 none 4 D (tyL cI cG cW) (wC cI cG cW q) [.ref (q 1), .ref (q 2)] (S, X, P) (fun τ => ∃ S' X', τ = (S', X', P) ∧ CF S' X' 0 row (X' 44) nc np ∧ CK S' X' 0 row nw nt nq ∧ CLaw S' X' 0 row 0 ∧ CLaw S' X' 1 row 1 ∧ FrKS 0 S' S ∧ FrKX 0 X' X) := by
  refine Cv.of (by decide) (Nat.le_of_ble_eq_true rfl) ?_
  intro p_ e_ s_ m_ b_ M_ c_ A_ C
  replace C : Cx _ _ _ _ _ _ _ _ RX3 _ _ _ _ := C
  refine j_L [0, 1] [(0, .ref (q 1)), (1, .ref (q 2))] rfl ?_
  obtain ⟨t0, h0, et0⟩ := hL0.sz
  obtain ⟨t1, h1, et1⟩ := hL1.sz
  refine j_aload_n C 0 dX3_copyFrom_0 rfl ?_
  refine j_get C (v := .ref (q 3)) 1 0 rfl rfl inlC3 (by decide) kf3_40 rfl dX3_copyFrom_1 ?_
  refine j_getN C (v := .ref (q 6)) 3 14 rfl rfl inlC1 (by decide) kf3_44 rfl dX3_copyFrom_4 ?_
  refine j_getN C (v := .ref (q 15)) 6 1 rfl rfl inlC4 (by decide) kf3_50 rfl dX3_copyFrom_7 ?_
  refine j_aload_n C 1 dX3_copyFrom_10 rfl ?_
  refine j_get C (v := .ref (q 4)) 2 0 rfl rfl inlC3 (by decide) kf3_40 rfl dX3_copyFrom_11 ?_
  refine j_getN C (v := .ref (q 8)) 4 14 rfl rfl inlC1 (by decide) kf3_44 rfl dX3_copyFrom_14 ?_
  refine j_getN C (v := .ref (q 17)) 8 1 rfl rfl inlC4 (by decide) kf3_50 rfl dX3_copyFrom_17 ?_
  refine j_callVNv (As := [.ref (q 17)]) (rest := []) C vn3_55 (h_copy_4_6 t0 et0 (by omega)) ⟨15, 8, _, _, rfl, rfl, rfl⟩ rfl (Nat.le_of_ble_eq_true rfl) dX3_copyFrom_20 (by decide) ?_
  rintro _ rfl
  refine j_aload_n C 0 dX3_copyFrom_23 rfl ?_
  refine j_get C (v := .ref (q 3)) 1 0 rfl rfl inlC3 (by decide) kf3_40 rfl dX3_copyFrom_24 ?_
  refine j_getN C (v := .ref (q 7)) 3 15 rfl rfl inlC1 (by decide) kf3_59 rfl dX3_copyFrom_27 ?_
  refine j_getN C (v := .ref (q 16)) 7 1 rfl rfl inlC4 (by decide) kf3_50 rfl dX3_copyFrom_30 ?_
  refine j_aload_n C 1 dX3_copyFrom_33 rfl ?_
  refine j_get C (v := .ref (q 4)) 2 0 rfl rfl inlC3 (by decide) kf3_40 rfl dX3_copyFrom_34 ?_
  refine j_getN C (v := .ref (q 9)) 4 15 rfl rfl inlC1 (by decide) kf3_59 rfl dX3_copyFrom_37 ?_
  refine j_getN C (v := .ref (q 18)) 9 1 rfl rfl inlC4 (by decide) kf3_50 rfl dX3_copyFrom_40 ?_
  refine j_callVNv (As := [.ref (q 18)]) (rest := []) C vn3_55 (h_copy_5_7 t1 ((pk_un (by omega)).trans et1) (by omega)) ⟨16, 8, _, _, rfl, rfl, rfl⟩ rfl (Nat.le_of_ble_eq_true rfl) dX3_copyFrom_43 (by decide) ?_
  rintro _ rfl
  refine j_aload_n C 0 dX3_copyFrom_46 rfl ?_
  refine j_get C (v := .ref (q 3)) 1 0 rfl rfl inlC3 (by decide) kf3_40 rfl dX3_copyFrom_47 ?_
  refine j_aload_n C 1 dX3_copyFrom_50 rfl ?_
  refine j_get C (v := .ref (q 4)) 2 0 rfl rfl inlC3 (by decide) kf3_40 rfl dX3_copyFrom_51 ?_
  refine j_callVNv (As := [.ref (q 4)]) (rest := []) C vn3_62 (h_fcopy_0_1 (w := w) (hF.cg (fun k _ _ => (pk_un (by omega)).trans (pk_un (by omega))) (fun k _ _ => (va_n (by omega)).trans (va_n (by omega))) (fun p hp => (congrFun ((va_n (by omega)).trans (va_n (by omega))) p).trans (hF.weighs p hp)) (fun _ _ => rfl) hc10 hn6) hc10 hn6) ⟨3, 1, _, _, rfl, rfl, rfl⟩ rfl (Nat.le_of_ble_eq_true rfl) dX3_copyFrom_54 (by decide) ?_
  rintro _ ⟨S1, X1, rfl, hG, hFr⟩
  have a0 : S1 23 = nI t0 := (hFr.1 23 (by omega)).trans ((pk_un (by omega)).trans pk_us)
  have a1 : S1 24 = nI t1 := (hFr.1 24 (by omega)).trans pk_us
  have aS : ∀ k, (k < 5 ∨ 8 ≤ k) → ¬ k = 23 → ¬ k = 24 → S1 k = S k := fun k h1 h2 h3 => (hFr.1 k (by omega)).trans ((pk_un h3).trans (pk_un h2))
  have aX : ∀ k, (k < 36 ∨ 44 ≤ k) → ¬ k = 76 → ¬ k = 77 → X1 k = X k := fun k h1 h2 h3 => (hFr.2 k (by omega)).trans ((va_n h3).trans (va_n h2))
  have x0 : ∀ j, j < t0 → X1 76 j = X 78 j := fun j hj => (congrFun (hFr.2 76 (by omega)) j).trans ((congrFun (va_n (by omega)) j).trans ((congrFun va_s j).trans (cpy_lt hj)))
  have x1 : ∀ j, j < t1 → X1 77 j = X 79 j := fun j hj => (congrFun (hFr.2 77 (by omega)) j).trans ((congrFun va_s j).trans ((cpy_lt hj).trans (congrFun (va_n (by omega)) j)))
  refine j_aload_n C 0 dX3_copyFrom_57 rfl ?_
  refine j_aload_n C 1 dX3_copyFrom_58 rfl ?_
  refine j_get C (v := .int (S1 3)) 2 1 rfl rfl inlC3 (by decide) kf3_9 rfl dX3_copyFrom_59 ?_
  refine j_put C 1 1 rfl rfl inlC3 tyX3 tyX3_ok nmX3 (by decide) kf3_9 rfl (ty := .int) (by decide +kernel) rfl rfl (Nat.le_of_ble_eq_true rfl) dX3_copyFrom_62 (upd S1 1 (S1 3), X1, P) rfl ?_
  refine j_aload_n C 1 dX3_copyFrom_65 rfl ?_
  refine j_get C (v := .ref (q 69)) 2 2 rfl rfl inlC3 (by decide) kf3_15 rfl dX3_copyFrom_66 ?_
  refine j_iconst C (v := (nI 0)) dX3_copyFrom_69 (by decide) ?_
  refine j_aload_n C 0 dX3_copyFrom_70 rfl ?_
  refine j_get C (v := .ref (q 66)) 1 2 rfl rfl inlC3 (by decide) kf3_15 rfl dX3_copyFrom_71 ?_
  refine j_iconst C (v := (nI 0)) dX3_copyFrom_74 (by decide) ?_
  refine j_bipush C (v := (nI 8)) dX3_copyFrom_75 (by decide) ?_
  refine j_copy (rest := []) C 69 66 0 ac3_65 rfl rfl rfl 0 0 8 (by omega) (by omega) (by decide) (by decide) (by decide) (Nat.le_of_ble_eq_true rfl) dX3_copyFrom_77 (upd S1 1 (S1 3), va_up X1 66 (va_cpy (X1 69) (X1 66) 0 0 8), P) rfl ?_
  refine j_aload_n C 1 dX3_copyFrom_80 rfl ?_
  refine j_get C (v := .ref (q 70)) 2 3 rfl rfl inlC3 (by decide) kf3_19 rfl dX3_copyFrom_81 ?_
  refine j_iconst C (v := (nI 0)) dX3_copyFrom_84 (by decide) ?_
  refine j_aload_n C 0 dX3_copyFrom_85 rfl ?_
  refine j_get C (v := .ref (q 67)) 1 3 rfl rfl inlC3 (by decide) kf3_19 rfl dX3_copyFrom_86 ?_
  refine j_iconst C (v := (nI 0)) dX3_copyFrom_89 (by decide) ?_
  refine j_bipush C (v := (nI 8)) dX3_copyFrom_90 (by decide) ?_
  refine j_copy (rest := []) C 70 67 0 ac3_65 rfl rfl rfl 0 0 8 (by omega) (by omega) (by decide) (by decide) (by decide) (Nat.le_of_ble_eq_true rfl) dX3_copyFrom_92 (upd S1 1 (S1 3), va_up (va_up X1 66 (va_cpy (X1 69) (X1 66) 0 0 8)) 67 (va_cpy (X1 70) (X1 67) 0 0 8), P) rfl ?_
  refine j_aload_n C 1 dX3_copyFrom_95 rfl ?_
  refine j_get C (v := .ref (q 71)) 2 4 rfl rfl inlC3 (by decide) kf3_22 rfl dX3_copyFrom_96 ?_
  refine j_iconst C (v := (nI 0)) dX3_copyFrom_99 (by decide) ?_
  refine j_aload_n C 0 dX3_copyFrom_100 rfl ?_
  refine j_get C (v := .ref (q 68)) 1 4 rfl rfl inlC3 (by decide) kf3_22 rfl dX3_copyFrom_101 ?_
  refine j_iconst C (v := (nI 0)) dX3_copyFrom_104 (by decide) ?_
  refine j_bipush C (v := (nI 8)) dX3_copyFrom_105 (by decide) ?_
  refine j_copy (rest := []) C 71 68 0 ac3_65 rfl rfl rfl 0 0 8 (by omega) (by omega) (by decide) (by decide) (by decide) (Nat.le_of_ble_eq_true rfl) dX3_copyFrom_107 (upd S1 1 (S1 3), va_up (va_up (va_up X1 66 (va_cpy (X1 69) (X1 66) 0 0 8)) 67 (va_cpy (X1 70) (X1 67) 0 0 8)) 68 (va_cpy (X1 71) (X1 68) 0 0 8), P) rfl ?_
  refine j_aload_n C 0 dX3_copyFrom_110 rfl ?_
  refine j_get C (v := .ref (q 11)) 1 5 rfl rfl inlC3 (by decide) kf3_30 rfl dX3_copyFrom_111 ?_
  refine j_aload_n C 1 dX3_copyFrom_114 rfl ?_
  refine j_get C (v := .ref (q 13)) 2 5 rfl rfl inlC3 (by decide) kf3_30 rfl dX3_copyFrom_115 ?_
  refine j_callVNv (As := [.ref (q 13)]) (rest := []) C vn3_55 (h_copy_0_2 nt ((pk_un (by omega)).trans ((aS 21 (by omega) (by omega) (by omega)).trans (hK.tsz.trans e4))) (by omega)) ⟨11, 8, _, _, rfl, rfl, rfl⟩ rfl (Nat.le_of_ble_eq_true rfl) dX3_copyFrom_118 (by decide) ?_
  rintro _ rfl
  refine j_aload_n C 0 dX3_copyFrom_121 rfl ?_
  refine j_get C (v := .ref (q 12)) 1 6 rfl rfl inlC3 (by decide) kf3_34 rfl dX3_copyFrom_122 ?_
  refine j_aload_n C 1 dX3_copyFrom_125 rfl ?_
  refine j_get C (v := .ref (q 14)) 2 6 rfl rfl inlC3 (by decide) kf3_34 rfl dX3_copyFrom_126 ?_
  refine j_callVNv (As := [.ref (q 14)]) (rest := []) C vn3_55 (h_copy_1_3 nq ((pk_un (by omega)).trans ((pk_un (by omega)).trans ((aS 22 (by omega) (by omega) (by omega)).trans (hK.qsz.trans e5)))) (by omega)) ⟨12, 8, _, _, rfl, rfl, rfl⟩ rfl (Nat.le_of_ble_eq_true rfl) dX3_copyFrom_129 (by decide) ?_
  rintro _ rfl
  refine j_aload_n C 0 dX3_copyFrom_132 rfl ?_
  refine j_aload_n C 1 dX3_copyFrom_133 rfl ?_
  refine j_get C (v := .int (S1 4)) 2 7 rfl rfl inlC3 (by decide) kf3_37 rfl dX3_copyFrom_134 ?_
  refine j_put C 1 7 rfl rfl inlC3 tyX3 tyX3_ok nmX3 (by decide) kf3_37 rfl (ty := .int) (by decide +kernel) rfl rfl (Nat.le_of_ble_eq_true rfl) dX3_copyFrom_137 (upd (upd (upd (upd S1 1 (S1 3)) 2 (S1 4)) 19 (nI nt)) 20 (nI nq), va_up (va_up (va_up (va_up (va_up X1 66 (va_cpy (X1 69) (X1 66) 0 0 8)) 67 (va_cpy (X1 70) (X1 67) 0 0 8)) 68 (va_cpy (X1 71) (X1 68) 0 0 8)) 72 (va_cpy (X1 74) (X1 72) 0 0 nt)) 73 (va_cpy (X1 75) (X1 73) 0 0 nq), P) rfl ?_
  refine j_wC (κ' := (upd (upd (upd (upd S1 1 (S1 3)) 2 (S1 4)) 19 (nI nt)) 20 (nI nq), va_up (va_up (va_up (va_up (va_up X1 66 (va_cpy (X1 69) (X1 66) 0 0 8)) 67 (va_cpy (X1 70) (X1 67) 0 0 8)) 68 (va_cpy (X1 71) (X1 68) 0 0 8)) 72 (va_cpy (X1 74) (X1 72) 0 0 nt)) 73 (va_cpy (X1 75) (X1 73) 0 0 nq), P)) rfl ?_
  refine j_vret C dX3_copyFrom_140 ?_
  have uS : ∀ k, ¬ k = 1 → ¬ k = 2 → ¬ k = 19 → ¬ k = 20 → upd (upd (upd (upd S1 1 (S1 3)) 2 (S1 4)) 19 (nI nt)) 20 (nI nq) k = S1 k := fun k h1 h2 h3 h4 => (pk_un h4).trans ((pk_un h3).trans ((pk_un h2).trans (pk_un h1)))
  have uX : ∀ k, (k < 66 ∨ 69 ≤ k) → ¬ k = 72 → ¬ k = 73 → (va_up (va_up (va_up (va_up (va_up X1 66 (va_cpy (X1 69) (X1 66) 0 0 8)) 67 (va_cpy (X1 70) (X1 67) 0 0 8)) 68 (va_cpy (X1 71) (X1 68) 0 0 8)) 72 (va_cpy (X1 74) (X1 72) 0 0 nt)) 73 (va_cpy (X1 75) (X1 73) 0 0 nq)) k = X1 k := fun k h1 h2 h3 => (va_n h3).trans ((va_n h2).trans ((va_n (by omega)).trans ((va_n (by omega)).trans (va_n (by omega)))))
  refine ⟨_, _, rfl, hG.cg (fun k _ _ => uS k (by omega) (by omega) (by omega) (by omega)) (fun k _ _ => uX k (by omega) (by omega) (by omega)) (fun _ _ => rfl) (fun _ _ => rfl) hc10 hn6, ⟨?_, ?_, fun j hj i hi => ?_, ?_, fun i hi => ?_, ?_, fun i hi => ?_⟩, ?_, ?_, ?_, ?_⟩
  · show (upd (upd (upd (upd S1 1 (S1 3)) 2 (S1 4)) 19 (nI nt)) 20 (nI nq)) 1 = _
    rw [pk_un (by omega), pk_un (by omega), pk_un (by omega), pk_us, aS 3 (by omega) (by omega) (by omega)]; exact hK.wrongs
  · show (upd (upd (upd (upd S1 1 (S1 3)) 2 (S1 4)) 19 (nI nt)) 20 (nI nq)) 2 = _
    rw [pk_un (by omega), pk_un (by omega), pk_us, aS 4 (by omega) (by omega) (by omega)]; exact hK.z
  · rcases (show j = 0 ∨ j = 1 ∨ j = 2 by omega) with rfl | rfl | rfl
    · show (va_up (va_up (va_up (va_up (va_up X1 66 (va_cpy (X1 69) (X1 66) 0 0 8)) 67 (va_cpy (X1 70) (X1 67) 0 0 8)) 68 (va_cpy (X1 71) (X1 68) 0 0 8)) 72 (va_cpy (X1 74) (X1 72) 0 0 nt)) 73 (va_cpy (X1 75) (X1 73) 0 0 nq)) 66 i = _
      rw [va_n (by omega), va_n (by omega), va_n (by omega), va_n (by omega), va_s, cpy_lt (by omega), aX 69 (by omega) (by omega) (by omega)]; exact hK.wr 0 (by omega) i hi
    · show (va_up (va_up (va_up (va_up (va_up X1 66 (va_cpy (X1 69) (X1 66) 0 0 8)) 67 (va_cpy (X1 70) (X1 67) 0 0 8)) 68 (va_cpy (X1 71) (X1 68) 0 0 8)) 72 (va_cpy (X1 74) (X1 72) 0 0 nt)) 73 (va_cpy (X1 75) (X1 73) 0 0 nq)) 67 i = _
      rw [va_n (by omega), va_n (by omega), va_n (by omega), va_s, cpy_lt (by omega), aX 70 (by omega) (by omega) (by omega)]; exact hK.wr 1 (by omega) i hi
    · show (va_up (va_up (va_up (va_up (va_up X1 66 (va_cpy (X1 69) (X1 66) 0 0 8)) 67 (va_cpy (X1 70) (X1 67) 0 0 8)) 68 (va_cpy (X1 71) (X1 68) 0 0 8)) 72 (va_cpy (X1 74) (X1 72) 0 0 nt)) 73 (va_cpy (X1 75) (X1 73) 0 0 nq)) 68 i = _
      rw [va_n (by omega), va_n (by omega), va_s, cpy_lt (by omega), aX 71 (by omega) (by omega) (by omega)]; exact hK.wr 2 (by omega) i hi
  · show (upd (upd (upd (upd S1 1 (S1 3)) 2 (S1 4)) 19 (nI nt)) 20 (nI nq)) 19 = _
    rw [pk_un (by omega), pk_us]; exact e4.symm
  · show (va_up (va_up (va_up (va_up (va_up X1 66 (va_cpy (X1 69) (X1 66) 0 0 8)) 67 (va_cpy (X1 70) (X1 67) 0 0 8)) 68 (va_cpy (X1 71) (X1 68) 0 0 8)) 72 (va_cpy (X1 74) (X1 72) 0 0 nt)) 73 (va_cpy (X1 75) (X1 73) 0 0 nq)) 72 i = _
    rw [va_n (by omega), va_s, cpy_lt (by omega), aX 74 (by omega) (by omega) (by omega)]; exact hK.tape i hi
  · show (upd (upd (upd (upd S1 1 (S1 3)) 2 (S1 4)) 19 (nI nt)) 20 (nI nq)) 20 = _
    rw [pk_us]; exact e5.symm
  · show (va_up (va_up (va_up (va_up (va_up X1 66 (va_cpy (X1 69) (X1 66) 0 0 8)) 67 (va_cpy (X1 70) (X1 67) 0 0 8)) 68 (va_cpy (X1 71) (X1 68) 0 0 8)) 72 (va_cpy (X1 74) (X1 72) 0 0 nt)) 73 (va_cpy (X1 75) (X1 73) 0 0 nq)) 73 i = _
    rw [va_s, cpy_lt (by omega), aX 75 (by omega) (by omega) (by omega)]; exact hK.wait i hi
  · exact hL0.mv h0 et0 ((uS 23 (by omega) (by omega) (by omega) (by omega)).trans a0) (fun j hj => (congrFun (uX 76 (by omega) (by omega) (by omega)) j).trans (x0 j hj))
  · exact hL1.mv h1 et1 ((uS 24 (by omega) (by omega) (by omega) (by omega)).trans a1) (fun j hj => (congrFun (uX 77 (by omega) (by omega) (by omega)) j).trans (x1 j hj))
  · exact fun k b1 b2 b3 b4 b5 b6 b7 => (uS k (by omega) (by omega) (by omega) (by omega)).trans (aS k (by omega) (by omega) (by omega))
  · exact fun k b1 b2 b3 b4 b5 b6 => (uX k (by omega) (by omega) (by omega)).trans (aX k (by omega) (by omega) (by omega))
theorem CR.img1 {S S' : Nat → Int32} {X X' : Nat → Nat → Int32} {P P' : Nat → Nat} {V row kept tried bf fd pk bo so sh mv tr : Nat → Int32} {nc np nw nt nq : Nat} (h : CR (S, X, P) (sR V row kept tried bf fd pk bo so sh mv tr)) (e2 : row 2 = nI nc) (e3 : row 3 = nI np) (e8 : row 8 = nI nw) (e4 : row 4 = nI nt) (e5 : row 5 = nI nq) (hb : nc ≤ 10 ∧ np ≤ 6 ∧ nw ≤ 8 ∧ nt ≤ 50 ∧ nq ≤ 20) (hF : CF S' X' 1 row (X' 54) nc np) (hK : CK S' X' 1 row nw nt nq) (h2 : CLaw S' X' 2 row 0) (h3 : CLaw S' X' 3 row 1) (hS : FrKS 1 S' S) (hX : FrKX 1 X' X) : CR (upd S' 0 (S' 0 + nI 1), X', P') (sR (upd (upd V 4 (nI 1)) 5 (V 5 + nI 1)) row row tried bf fd pk bo so sh mv tr) := by
  have s : ∀ k, ¬ k = 0 → ¬ k = 3 → ¬ k = 4 → (k < 8 ∨ 11 ≤ k) → ¬ k = 21 → ¬ k = 22 → ¬ k = 25 → ¬ k = 26 → upd S' 0 (S' 0 + nI 1) k = S k := fun k a b c d e f g i => (pk_un a).trans (hS k b c d e f g i)
  have tt : ∀ k, ¬ k = 0 → upd S' 0 (S' 0 + nI 1) k = S' k := fun k h => pk_un h
  have x : ∀ k, (k < 46 ∨ 54 ≤ k) → (k < 69 ∨ 72 ≤ k) → ¬ k = 74 → ¬ k = 75 → ¬ k = 78 → ¬ k = 79 → X' k = X k := fun k a b c d e f => hX k a b c d e f
  refine ⟨CF.st (f := 0) h.fld (fun k _ _ => s k (by omega) (by omega) (by omega) (by omega) (by omega) (by omega) (by omega) (by omega)) (fun k _ _ => x k (by omega) (by omega) (by omega) (by omega) (by omega) (by omega)), h.kp.st (fun k _ => s k (by omega) (by omega) (by omega) (by omega) (by omega) (by omega) (by omega) (by omega)) (fun k _ => x k (by omega) (by omega) (by omega) (by omega) (by omega) (by omega)), h.l0.st (by omega) (s (23 + 0) (by omega) (by omega) (by omega) (by omega) (by omega) (by omega) (by omega) (by omega)) (x (76 + 0) (by omega) (by omega) (by omega) (by omega) (by omega) (by omega)) (fun _ _ => rfl), h.l1.st (by omega) (s (23 + 1) (by omega) (by omega) (by omega) (by omega) (by omega) (by omega) (by omega) (by omega)) (x (76 + 1) (by omega) (by omega) (by omega) (by omega) (by omega) (by omega)) (fun _ _ => rfl), fun g => ?_, ?_, fun j hj => ?_, ?_, fun j hj => ?_, fun a ha => ?_, fun a ha => ?_, fun a ha j hj => ?_⟩
  · rw [e2, e3, e8, e4, e5, tN_nI (by omega), tN_nI (by omega), tN_nI (by omega), tN_nI (by omega), tN_nI (by omega)]
    exact ⟨CF.st (f := 1) hF (fun k _ _ => pk_un (by omega)) (fun k _ _ => rfl), hK.st (fun k _ => pk_un (by omega)) (fun k _ => rfl), h2.st (by omega) (tt (23 + 2) (by omega)) rfl (fun _ _ => rfl), h3.st (by omega) (tt (23 + 3) (by omega)) rfl (fun _ _ => rfl)⟩
  · show upd S' 0 (S' 0 + nI 1) 0 = upd (upd V 4 (nI 1)) 5 (V 5 + nI 1) 5
    rw [pk_us, pk_us, hS 0 (by omega) (by omega) (by omega) (by omega) (by omega) (by omega) (by omega)]; exact congrArg (· + nI 1) h.ims
  · exact (congrFun (x 35 (by omega) (by omega) (by omega) (by omega) (by omega) (by omega)) j).trans (h.err j hj)
  · show upd S' 0 (S' 0 + nI 1) 28 = upd (upd V 4 (nI 1)) 5 (V 5 + nI 1) 26
    rw [s 28 (by omega) (by omega) (by omega) (by omega) (by omega) (by omega) (by omega) (by omega), pk_un (by omega), pk_un (by omega)]; exact h.bsz
  · have hj2 : j < tN (V 26) := by
      have g : j < tN (upd (upd V 4 (nI 1)) 5 (V 5 + nI 1) 26) := hj
      rw [pk_un (by omega), pk_un (by omega)] at g; exact g
    exact (congrFun (x 81 (by omega) (by omega) (by omega) (by omega) (by omega) (by omega)) j).trans (h.bod j hj2)
  · exact (congrFun (x 34 (by omega) (by omega) (by omega) (by omega) (by omega) (by omega)) a).trans (h.shb a ha)
  · exact (s (29 + a) (by omega) (by omega) (by omega) (by omega) (by omega) (by omega) (by omega) (by omega)).trans (h.shs a ha)
  · exact (congrFun (x (82 + a) (by omega) (by omega) (by omega) (by omega) (by omega) (by omega)) j).trans (h.shi a ha j hj)

theorem dX11_image_0 : decode cX11_image 0 = .ok (.aload_n 0, 1) := by decide +kernel
theorem dX11_image_1 : decode cX11_image 1 = .ok (.getfield 83, 3) := by decide +kernel
theorem dX11_image_4 : decode cX11_image 4 = .ok (.aload_n 0, 1) := by decide +kernel
theorem dX11_image_5 : decode cX11_image 5 = .ok (.getfield 75, 3) := by decide +kernel
theorem dX11_image_8 : decode cX11_image 8 = .ok (.invokevirtual 299, 3) := by decide +kernel
theorem dX11_image_11 : decode cX11_image 11 = .ok (.aload_n 0, 1) := by decide +kernel
theorem dX11_image_12 : decode cX11_image 12 = .ok (.dup, 1) := by decide +kernel
theorem dX11_image_13 : decode cX11_image 13 = .ok (.getfield 36, 3) := by decide +kernel
theorem dX11_image_16 : decode cX11_image 16 = .ok (.iconst 1, 1) := by decide +kernel
theorem dX11_image_17 : decode cX11_image 17 = .ok (.iadd, 1) := by decide +kernel
theorem dX11_image_18 : decode cX11_image 18 = .ok (.putfield 36, 3) := by decide +kernel
theorem dX11_image_21 : decode cX11_image 21 = .ok (.aload_n 0, 1) := by decide +kernel
theorem dX11_image_22 : decode cX11_image 22 = .ok (.getfield 36, 3) := by decide +kernel
theorem dX11_image_25 : decode cX11_image 25 = .ok (.ireturn, 1) := by decide +kernel
set_option maxHeartbeats 2000000 in
set_option maxRecDepth 20000 in
theorem k_image {l : Launch} {D : va_G} {cI cG cW : ClassId} {q : Nat → Nat} {S : Nat → Int32} {X : Nat → Nat → Int32} {P : Nat → Nat} {V row kept tried bf fd pk bo so sh mv tr : Nat → Int32} {nc np nw d nt nq : Nat} (hR : RKx row nc np nw d nt nq) (hC : CR (S, X, P) (sR V row kept tried bf fd pk bo so sh mv tr)) : Ci l yX11_image cX11_image 1 (some .int) 5 D (tyL cI cG cW) (wC cI cG cW q) [.ref (q 0)] (S, X, P) (fun r τ => r = (sp_image V row kept tried bf fd pk bo so sh mv tr ).1 ∧ CR τ (sp_image V row kept tried bf fd pk bo so sh mv tr ).2) := by
  refine Ci.of (by decide) (Nat.le_of_ble_eq_true rfl) ?_
  intro p_ e_ s_ m_ b_ M_ c_ A_ C
  replace C : Cx _ _ _ _ _ _ _ _ RX11 _ _ _ _ := C
  refine j_L [0] [(0, .ref (q 0))] rfl ?_
  obtain ⟨hI, hW, ⟨e0, hd⟩, ⟨e4, ht⟩, ⟨e5, hq⟩, hB⟩ := id hR
  obtain ⟨⟨e2, hc2, hc10⟩, ⟨e3, hn6⟩, ⟨e8, hw8⟩, hP, hE, hLo, hT0, hT1⟩ := id hI
  have hIc := hI
  have hF : CF S X 0 row (X 44) nc np := by have h := hC.fld; rw [e2, e3, tN_nI (by omega), tN_nI (by omega)] at h; exact h
  have hK : CK S X 0 row nw nt nq := by have h := hC.kp; rw [e8, e4, e5, tN_nI (by omega), tN_nI (by omega), tN_nI (by omega)] at h; exact h
  have hS1 : S 1 = row 8 := hK.wrongs
  have hS5 : S 5 = row 2 := hF.cells
  have hS7 : S 7 = row 3 := hF.people
  refine j_aload_n C 0 dX11_image_0 rfl ?_
  refine j_get C (v := .ref (q 2)) 0 2 rfl rfl inlC11 (by decide) kf11_83 rfl dX11_image_1 ?_
  refine j_aload_n C 0 dX11_image_4 rfl ?_
  refine j_get C (v := .ref (q 1)) 0 1 rfl rfl inlC11 (by decide) kf11_75 rfl dX11_image_5 ?_
  refine j_callVNv (As := [.ref (q 1)]) (rest := []) C vn11_299 (h_kcopy_1 hF hK hc10 hn6 hw8 e4 ht e5 hq hC.l0 hC.l1) ⟨2, 3, _, _, rfl, rfl, rfl⟩ rfl (Nat.le_of_ble_eq_true rfl) dX11_image_8 (by decide) ?_
  rintro _ ⟨S1, X1, rfl, gF, gK, g2, g3, gS, gX⟩
  refine j_aload_n C 0 dX11_image_11 rfl ?_
  refine j_dup C dX11_image_12 rfl ?_
  refine j_get C (v := .int (S1 0)) 0 9 rfl rfl inlC11 (by decide) kf11_36 rfl dX11_image_13 ?_
  refine j_iconst C (v := (nI 1)) dX11_image_16 (by decide) ?_
  refine j_iadd C dX11_image_17 ?_
  refine j_put C 0 9 rfl rfl inlC11 tyX11 tyX11_ok nmX11 (by decide) kf11_36 rfl (ty := .int) (by decide +kernel) rfl rfl (Nat.le_of_ble_eq_true rfl) dX11_image_18 (upd S1 0 ((S1 0) + (nI 1)), X1, P) rfl ?_
  refine j_aload_n C 0 dX11_image_21 rfl ?_
  refine j_get C (v := .int ((S1 0) + (nI 1))) 0 9 rfl rfl inlC11 (by decide) kf11_36 rfl dX11_image_22 ?_
  refine j_iret C dX11_image_25 ?_
  unfold sp_image
  exact ⟨congrArg (· + nI 1) ((gS 0 (by omega) (by omega) (by omega) (by omega) (by omega) (by omega) (by omega)).trans hC.ims), hC.img1 e2 e3 e8 e4 e5 ⟨hc10, hn6, hw8, ht, hq⟩ gF gK g2 g3 gS gX⟩
theorem dX11_restore_0 : decode cX11_restore 0 = .ok (.aload_n 0, 1) := by decide +kernel
theorem dX11_restore_1 : decode cX11_restore 1 = .ok (.getfield 36, 3) := by decide +kernel
theorem dX11_restore_4 : decode cX11_restore 4 = .ok (.ifCond .ne 9, 3) := by decide +kernel
theorem dX11_restore_7 : decode cX11_restore 7 = .ok (.aload_n 0, 1) := by decide +kernel
theorem dX11_restore_8 : decode cX11_restore 8 = .ok (.iconst 2, 1) := by decide +kernel
theorem dX11_restore_9 : decode cX11_restore 9 = .ok (.invokevirtual 90, 3) := by decide +kernel
theorem dX11_restore_12 : decode cX11_restore 12 = .ok (.ireturn, 1) := by decide +kernel
theorem dX11_restore_13 : decode cX11_restore 13 = .ok (.aload_n 0, 1) := by decide +kernel
theorem dX11_restore_14 : decode cX11_restore 14 = .ok (.getfield 75, 3) := by decide +kernel
theorem dX11_restore_17 : decode cX11_restore 17 = .ok (.aload_n 0, 1) := by decide +kernel
theorem dX11_restore_18 : decode cX11_restore 18 = .ok (.getfield 83, 3) := by decide +kernel
theorem dX11_restore_21 : decode cX11_restore 21 = .ok (.invokevirtual 299, 3) := by decide +kernel
theorem dX11_restore_24 : decode cX11_restore 24 = .ok (.aload_n 0, 1) := by decide +kernel
theorem dX11_restore_25 : decode cX11_restore 25 = .ok (.getfield 75, 3) := by decide +kernel
theorem dX11_restore_28 : decode cX11_restore 28 = .ok (.getfield 94, 3) := by decide +kernel
theorem dX11_restore_31 : decode cX11_restore 31 = .ok (.getfield 212, 3) := by decide +kernel
theorem dX11_restore_34 : decode cX11_restore 34 = .ok (.ireturn, 1) := by decide +kernel
set_option maxHeartbeats 2000000 in
set_option maxRecDepth 20000 in
theorem k_restore {l : Launch} {D : va_G} {cI cG cW : ClassId} {q : Nat → Nat} {S : Nat → Int32} {X : Nat → Nat → Int32} {P : Nat → Nat} {V row kept tried bf fd pk bo so sh mv tr : Nat → Int32} {nc np nw d nt nq : Nat} (hR : RKx row nc np nw d nt nq) (hC : CR (S, X, P) (sR V row kept tried bf fd pk bo so sh mv tr)) {im : Nat} (him3 : im ≤ 3000) (eV5 : V 5 = nI im) (eV4 : V 4 = bI (0 < im)) (hM : 0 < im → RK kept) : Ci l yX11_restore cX11_restore 1 (some .int) 5 D (tyL cI cG cW) (wC cI cG cW q) [.ref (q 0)] (S, X, P) (fun r τ => r = (sp_restore V row kept tried bf fd pk bo so sh mv tr ).1 ∧ CR τ (sp_restore V row kept tried bf fd pk bo so sh mv tr ).2) := by
  refine Ci.of (by decide) (Nat.le_of_ble_eq_true rfl) ?_
  intro p_ e_ s_ m_ b_ M_ c_ A_ C
  replace C : Cx _ _ _ _ _ _ _ _ RX11 _ _ _ _ := C
  refine j_L [0] [(0, .ref (q 0))] rfl ?_
  obtain ⟨hI, hW, ⟨e0, hd⟩, ⟨e4, ht⟩, ⟨e5, hq⟩, hB⟩ := id hR
  obtain ⟨⟨e2, hc2, hc10⟩, ⟨e3, hn6⟩, ⟨e8, hw8⟩, hP, hE, hLo, hT0, hT1⟩ := id hI
  have hIc := hI
  have hF : CF S X 0 row (X 44) nc np := by have h := hC.fld; rw [e2, e3, tN_nI (by omega), tN_nI (by omega)] at h; exact h
  have hK : CK S X 0 row nw nt nq := by have h := hC.kp; rw [e8, e4, e5, tN_nI (by omega), tN_nI (by omega), tN_nI (by omega)] at h; exact h
  have hS1 : S 1 = row 8 := hK.wrongs
  have hS5 : S 5 = row 2 := hF.cells
  have hS7 : S 7 = row 3 := hF.people
  refine j_aload_n C 0 dX11_restore_0 rfl ?_
  refine j_get C (v := .int (S 0)) 0 9 rfl rfl inlC11 (by decide) kf11_36 rfl dX11_restore_1 ?_
  refine j_v (V 5) hC.ims ?_
  refine j_if_ne C 13 dX11_restore_4 (by decide) (fun c4 => ?_) (fun c4 => ?_)
  · skip
    have him : 0 < V 5 := by
      rw [eV5] at c4 ⊢
      have hz : ¬ im = 0 := fun h => c4 (by rw [h]; rfl)
      rw [show (0 : Int32) = nI 0 from rfl, nI_ltI (by omega) (by omega)]; omega
    have him2 : 0 < im := by
      rw [eV5, show (0 : Int32) = nI 0 from rfl, nI_ltI (by omega) (by omega)] at him; exact him
    obtain ⟨kc, kn, kw, kd, kt, kq, hRk⟩ := hM him2
    obtain ⟨jI, jW, ⟨j0, jd⟩, ⟨j4, jt⟩, ⟨j5, jq⟩, jB⟩ := id hRk
    obtain ⟨⟨j2, jc2, jc10⟩, ⟨j3, jn6⟩, ⟨j8, jw8⟩, -⟩ := id jI
    obtain ⟨iF, iK, i2, i3⟩ := hC.img him
    rw [j2, j3, tN_nI (by omega), tN_nI (by omega)] at iF
    rw [j8, j4, j5, tN_nI (by omega), tN_nI (by omega), tN_nI (by omega)] at iK
    refine j_aload_n C 0 dX11_restore_13 rfl ?_
    refine j_get C (v := .ref (q 1)) 0 1 rfl rfl inlC11 (by decide) kf11_75 rfl dX11_restore_14 ?_
    refine j_aload_n C 0 dX11_restore_17 rfl ?_
    refine j_get C (v := .ref (q 2)) 0 2 rfl rfl inlC11 (by decide) kf11_83 rfl dX11_restore_18 ?_
    refine j_callVNv (As := [.ref (q 2)]) (rest := []) C vn11_299 (h_kcopy_0 iF iK jc10 jn6 jw8 j4 jt j5 jq i2 i3) ⟨1, 3, _, _, rfl, rfl, rfl⟩ rfl (Nat.le_of_ble_eq_true rfl) dX11_restore_21 (by decide) ?_
    rintro _ ⟨S1, X1, rfl, gF, gK, g2, g3, gS, gX⟩
    refine j_aload_n C 0 dX11_restore_24 rfl ?_
    refine j_get C (v := .ref (q 1)) 0 1 rfl rfl inlC11 (by decide) kf11_75 rfl dX11_restore_25 ?_
    refine j_getN C (v := .ref (q 3)) 1 0 rfl rfl inlC3 (by decide) kf11_94 rfl dX11_restore_28 ?_
    refine j_getN C (v := .int (S1 6)) 3 3 rfl rfl inlC1 (by decide) kf11_212 rfl dX11_restore_31 ?_
    refine j_iret C dX11_restore_34 ?_
    unfold sp_restore
    rw [if_neg (by rw [eV4]; unfold bI; rw [if_pos him2]; decide)]
    exact ⟨gF.dawn, hC.nowx (fun k hk => gS k (by omega) (by omega) (by omega) (by omega) (by omega) (by omega) (by omega)) (fun k hk => gX k (by omega) (by omega) (by omega) (by omega) (by omega) (by omega)) j2 j3 j8 j4 j5 ⟨jc10, jn6, jw8, jt, jq⟩ gF gK g2 g3⟩
  · skip
    refine j_aload_n C 0 dX11_restore_7 rfl ?_
    refine j_iconst C (v := (nI 2)) dX11_restore_8 (by decide) ?_
    refine j_callV (As := [.int (nI 2)]) (rest := []) C vw11_90 (h_error 2 (by decide)) ⟨0, 11, _, _, rfl, rfl, rfl⟩ rfl (Nat.le_of_ble_eq_true rfl) dX11_restore_9 (by decide) ?_
    rintro _ _ ⟨rfl, rfl⟩
    refine j_iret C dX11_restore_12 ?_
    unfold sp_restore
    rw [if_pos (eV4.trans (by rw [eV5] at c4; rw [(nI_eq (by omega) (by omega)).1 (c4.trans (show (0 : Int32) = nI 0 from rfl))]; rfl))]
    exact ⟨show (-1000000000 : Int32) - nI 2 = -1000000002 from by decide, hC.er 2⟩
theorem CK.q0 {S : Nat → Int32} {X : Nat → Nat → Int32} {row : Nat → Int32} {nw nt nq : Nat} (h : CK S X 0 row nw nt nq) : CK (upd S 20 (nI 0)) X 0 (upd row 5 (nI 0)) nw nt 0 := by
  refine ⟨?_, ?_, fun j hj i hi => ?_, ?_, fun i hi => ?_, ?_, fun i hi => absurd hi (Nat.not_lt_zero _)⟩
  · rw [pk_un (by omega), pk_un (by omega)]; exact h.wrongs
  · rw [pk_un (by omega), pk_un (by omega)]; exact h.z
  · rw [pk_un (by omega)]; exact h.wr j hj i hi
  · rw [pk_un (by omega), pk_un (by omega)]; exact h.tsz
  · rw [pk_un (by omega)]; exact h.tape i hi
  · rw [pk_us, pk_us]
theorem Iw5 {row : Nat → Int32} {np nw : Nat} (h : Iw row np nw) (x : Int32) : Iw (upd row 5 x) np nw := by
  intro i hi
  rw [pk_un (by omega), pk_un (by omega), pk_un (by omega)]; exact h i hi

theorem dX11_check_0 : decode cX11_check 0 = .ok (.aload_n 0, 1) := by decide +kernel
theorem dX11_check_1 : decode cX11_check 1 = .ok (.getfield 75, 3) := by decide +kernel
theorem dX11_check_4 : decode cX11_check 4 = .ok (.getfield 302, 3) := by decide +kernel
theorem dX11_check_7 : decode cX11_check 7 = .ok (.getfield 188, 3) := by decide +kernel
theorem dX11_check_10 : decode cX11_check 10 = .ok (.istore_n 1, 1) := by decide +kernel
theorem dX11_check_11 : decode cX11_check 11 = .ok (.aload_n 0, 1) := by decide +kernel
theorem dX11_check_12 : decode cX11_check 12 = .ok (.getfield 75, 3) := by decide +kernel
theorem dX11_check_15 : decode cX11_check 15 = .ok (.getfield 302, 3) := by decide +kernel
theorem dX11_check_18 : decode cX11_check 18 = .ok (.iconst 0, 1) := by decide +kernel
theorem dX11_check_19 : decode cX11_check 19 = .ok (.putfield 188, 3) := by decide +kernel
theorem dX11_check_22 : decode cX11_check 22 = .ok (.aload_n 0, 1) := by decide +kernel
theorem dX11_check_23 : decode cX11_check 23 = .ok (.iconst 0, 1) := by decide +kernel
theorem dX11_check_24 : decode cX11_check 24 = .ok (.invokevirtual 225, 3) := by decide +kernel
theorem dX11_check_27 : decode cX11_check 27 = .ok (.iconst 0, 1) := by decide +kernel
theorem dX11_check_28 : decode cX11_check 28 = .ok (.istore_n 2, 1) := by decide +kernel
theorem dX11_check_29 : decode cX11_check 29 = .ok (.iload_n 2, 1) := by decide +kernel
theorem dX11_check_30 : decode cX11_check 30 = .ok (.iload_n 1, 1) := by decide +kernel
theorem dX11_check_31 : decode cX11_check 31 = .ok (.if_icmp .ge 42, 3) := by decide +kernel
theorem dX11_check_34 : decode cX11_check 34 = .ok (.aload_n 0, 1) := by decide +kernel
theorem dX11_check_35 : decode cX11_check 35 = .ok (.getfield 79, 3) := by decide +kernel
theorem dX11_check_38 : decode cX11_check 38 = .ok (.invokevirtual 215, 3) := by decide +kernel
theorem dX11_check_41 : decode cX11_check 41 = .ok (.aload_n 0, 1) := by decide +kernel
theorem dX11_check_42 : decode cX11_check 42 = .ok (.getfield 79, 3) := by decide +kernel
theorem dX11_check_45 : decode cX11_check 45 = .ok (.invokevirtual 218, 3) := by decide +kernel
theorem dX11_check_48 : decode cX11_check 48 = .ok (.aload_n 0, 1) := by decide +kernel
theorem dX11_check_49 : decode cX11_check 49 = .ok (.getfield 75, 3) := by decide +kernel
theorem dX11_check_52 : decode cX11_check 52 = .ok (.getfield 302, 3) := by decide +kernel
theorem dX11_check_55 : decode cX11_check 55 = .ok (.getfield 281, 3) := by decide +kernel
theorem dX11_check_58 : decode cX11_check 58 = .ok (.iload_n 2, 1) := by decide +kernel
theorem dX11_check_59 : decode cX11_check 59 = .ok (.iaload, 1) := by decide +kernel
theorem dX11_check_60 : decode cX11_check 60 = .ok (.if_icmp .eq 7, 3) := by decide +kernel
theorem dX11_check_63 : decode cX11_check 63 = .ok (.iconst 1, 1) := by decide +kernel
theorem dX11_check_64 : decode cX11_check 64 = .ok (.iload_n 2, 1) := by decide +kernel
theorem dX11_check_65 : decode cX11_check 65 = .ok (.iadd, 1) := by decide +kernel
theorem dX11_check_66 : decode cX11_check 66 = .ok (.ireturn, 1) := by decide +kernel
theorem dX11_check_67 : decode cX11_check 67 = .ok (.iinc 2 1, 3) := by decide +kernel
theorem dX11_check_70 : decode cX11_check 70 = .ok (.goto (-41), 3) := by decide +kernel
theorem dX11_check_73 : decode cX11_check 73 = .ok (.iconst 0, 1) := by decide +kernel
theorem dX11_check_74 : decode cX11_check 74 = .ok (.ireturn, 1) := by decide +kernel
set_option maxHeartbeats 2000000 in
set_option maxRecDepth 20000 in
theorem k_check {l : Launch} {D : va_G} {cI cG cW : ClassId} {q : Nat → Nat} {S : Nat → Int32} {X : Nat → Nat → Int32} {P : Nat → Nat} {V row kept tried bf fd pk bo so sh mv tr : Nat → Int32} {nc np nw d nt nq : Nat} (hR : RKx row nc np nw d nt nq) (hC : CR (S, X, P) (sR V row kept tried bf fd pk bo so sh mv tr)) (hV15 : V 15 = 0) (hV16 : V 16 = -1) (hV18 : V 18 = -1) : Ci l yX11_check cX11_check 3 (some .int) 9 D (tyL cI cG cW) (wC cI cG cW q) [.ref (q 0)] (S, X, P) (fun r τ => r = (sp_check V row kept tried bf fd pk bo so sh mv tr ).1 ∧ CR τ (sp_check V row kept tried bf fd pk bo so sh mv tr ).2) := by
  refine Ci.of (by decide) (Nat.le_of_ble_eq_true rfl) ?_
  intro p_ e_ s_ m_ b_ M_ c_ A_ C
  replace C : Cx _ _ _ _ _ _ _ _ RX11 _ _ _ _ := C
  refine j_L [0] [(0, .ref (q 0))] rfl ?_
  obtain ⟨hI, hW, ⟨e0, hd⟩, ⟨e4, ht⟩, ⟨e5, hq⟩, hB⟩ := id hR
  obtain ⟨⟨e2, hc2, hc10⟩, ⟨e3, hn6⟩, ⟨e8, hw8⟩, hP, hE, hLo, hT0, hT1⟩ := id hI
  have hIc := hI
  have hF : CF S X 0 row (X 44) nc np := by have h := hC.fld; rw [e2, e3, tN_nI (by omega), tN_nI (by omega)] at h; exact h
  have hK : CK S X 0 row nw nt nq := by have h := hC.kp; rw [e8, e4, e5, tN_nI (by omega), tN_nI (by omega), tN_nI (by omega)] at h; exact h
  have hS1 : S 1 = row 8 := hK.wrongs
  have hS5 : S 5 = row 2 := hF.cells
  have hS7 : S 7 = row 3 := hF.people
  have hV5 : CF (upd S 20 (nI 0)) X 0 (upd row 5 (nI 0)) (X 44) nc np := hF.cg (fun k _ _ => pk_un (by omega)) (fun _ _ _ => rfl) (fun _ _ => rfl) (fun k hk => pk_un (by omega)) hc10 hn6
  have hK5 := hK.q0
  have hW5 := Iw5 hW (nI 0)
  have hI5 := RK5 hI (nI 0)
  have hC5 : CR (upd S 20 (nI 0), X, P) (sR V (upd row 5 (nI 0)) kept tried bf fd pk bo so sh mv tr) := hC.nowx (fun k hk => pk_un (by omega)) (fun _ _ => rfl) ((pk_un (by omega)).trans e2) ((pk_un (by omega)).trans e3) ((pk_un (by omega)).trans e8) ((pk_un (by omega)).trans e4) pk_us ⟨hc10, hn6, hw8, ht, by omega⟩ hV5 hK5 (hC.l0.st (by omega) (pk_un (by omega)) rfl (fun k hk => pk_un (by omega))) (hC.l1.st (by omega) (pk_un (by omega)) rfl (fun k hk => pk_un (by omega)))
  have hwe : ∀ p, p < np → wtF (upd row 5 (nI 0)) nw (nI 0) p = wv V row nw p := fun p hp => (wt_wv (V := V) (row := upd row 5 (nI 0)) (nw := nw) (s := nI 0) hV15 hV16 hV18 hn6 p hp).trans (congrFun (wv_5 V row nw (nI 0) hw8) p)
  refine j_aload_n C 0 dX11_check_0 rfl ?_
  refine j_get C (v := .ref (q 1)) 0 1 rfl rfl inlC11 (by decide) kf11_75 rfl dX11_check_1 ?_
  refine j_getN C (v := .ref (q 12)) 1 6 rfl rfl inlC3 (by decide) kf11_302 rfl dX11_check_4 ?_
  refine j_getN C (v := .int (S 20)) 12 1 rfl rfl inlC8 (by decide) kf11_188 rfl dX11_check_7 ?_
  refine j_v (nI nq) (hK.qsz.trans e5) ?_
  refine j_istore_n C [(1, .int (nI nq)), (0, .ref (q 0))] dX11_check_10 (by decide) rfl ?_
  refine j_aload_n C 1 dX11_check_11 rfl ?_
  refine j_get C (v := .ref (q 1)) 0 1 rfl rfl inlC11 (by decide) kf11_75 rfl dX11_check_12 ?_
  refine j_getN C (v := .ref (q 12)) 1 6 rfl rfl inlC3 (by decide) kf11_302 rfl dX11_check_15 ?_
  refine j_iconst C (v := (nI 0)) dX11_check_18 (by decide) ?_
  refine j_putN C 12 1 rfl rfl inlC8 tyX8 tyX8_ok nmX8 (by decide) kf11_188 rfl (ty := .int) (by decide +kernel) rfl rfl (Nat.le_of_ble_eq_true rfl) dX11_check_19 (upd S 20 (nI 0), X, P) rfl ?_
  refine j_aload_n C 1 dX11_check_22 rfl ?_
  refine j_iconst C (v := (nI 0)) dX11_check_23 (by decide) ?_
  refine j_callVv (As := [.int (nI 0)]) (rest := []) C vw11_225 (h_imagine hV5 hI5 hK5 hW5 0 (by omega)) ⟨0, 11, _, _, rfl, rfl, rfl⟩ rfl (Nat.le_of_ble_eq_true rfl) dX11_check_24 (by decide) ?_
  rintro _ ⟨S0, X0, rfl, hF2, hT0⟩
  have hF2 : CF S0 X0 2 (upd row 5 (nI 0)) (wv V row nw) nc np := hF2.wc hwe
  refine j_iconst C (v := (nI 0)) dX11_check_27 (by decide) ?_
  refine j_istore_n C [(2, .int (nI 0)), (1, .int (nI nq)), (0, .ref (q 0))] dX11_check_28 (by decide) rfl ?_
  refine j_L [2, 1, 0] [(0, .ref (q 0)), (1, .int (nI nq)), (2, .int (nI 0))] rfl ?_
  refine j_loop (X := Nat × (Nat → Int32) × (Nat → Nat → Int32)) (fun (z : Nat × (Nat → Int32) × (Nat → Nat → Int32)) => match z with | (i, T, Y) => i ≤ nq ∧ CF T Y 2 (dawnsF np (wv V row nw) (upd row 5 (nI 0)) i) (wv V row nw) nc np ∧ FrT T Y (upd S 20 (nI 0)) X ∧ ∀ m, m < i → sumF (dawnsF np (wv V row nw) (upd row 5 (nI 0)) (m + 1)) 4 np = row (140 + m)) (fun (z : Nat × (Nat → Int32) × (Nat → Nat → Int32)) => match z with | (i, T, Y) => nq - i) (fun (z : Nat × (Nat → Int32) × (Nat → Nat → Int32)) => match z with | (i, T, Y) => (T, Y, P)) (fun (z : Nat × (Nat → Int32) × (Nat → Nat → Int32)) => match z with | (i, T, Y) => [(0, .ref (q 0)), (1, .int (nI nq)), (2, .int (nI i))]) (0, S0, X0) (⟨Nat.zero_le _, hF2, hT0, fun m h => absurd h (Nat.not_lt_zero _)⟩) rfl rfl ?_
  rintro ⟨i, T, Y⟩ ⟨hi, hG, hT, hu⟩ ih
  try dsimp only at ih ⊢
  have hIF := dawns_IF (wv V row nw) hI5 i
  refine j_iload_n C 2 dX11_check_29 rfl ?_
  refine j_iload_n C 1 dX11_check_30 rfl ?_
  refine j_icmp_ge C 73 dX11_check_31 (by decide) (fun c31 => ?_) (fun c31 => ?_)
  · rw [nI_leI (by omega) (by omega)] at c31
    refine j_iconst C (v := (nI 0)) dX11_check_73 (by decide) ?_
    refine j_iret C dX11_check_74 ?_
    unfold sp_check
    rw [e5, tN_nI (n := nq) (by omega)]
    have hpe : ∀ m, chkP V row m ↔ ¬ sumF (dawnsF np (wv V row nw) (upd row 5 (nI 0)) (m + 1)) 4 np = row (140 + m) := fun m => by
      show (¬ sumF (dawnsF (tN (row 3)) (wv V row (tN (row 8))) (upd row 5 (nI 0)) (m + 1)) 4 (tN (row 3)) = row (140 + m)) ↔ _
      rw [e3, e8, tN_nI (by omega), tN_nI (by omega)]
    have hl : lsF (chkP V row) nq 0 = nq := lsF_at (Nat.zero_le _) (by omega) (fun m _ hm h => (hpe m).1 h (hu m (by omega))) (Or.inr (by omega))
    rw [hl, if_pos rfl]
    exact ⟨rfl, hC5.th hT⟩
  · rw [nI_leI (by omega) (by omega)] at c31
    refine j_aload_n C 0 dX11_check_34 rfl ?_
    refine j_get C (v := .ref (q 5)) 0 3 rfl rfl inlC11 (by decide) kf11_79 rfl dX11_check_35 ?_
    refine j_callVNv (As := []) (rest := []) C vn11_215 (h_pass_2 hG hIF.1 (hC5.l0.ft (by omega) (by omega) hT hIF.2) (hC5.l1.ft (by omega) (by omega) hT hIF.2)) ⟨5, 1, _, _, rfl, rfl, rfl⟩ rfl (Nat.le_of_ble_eq_true rfl) dX11_check_38 (by decide) ?_
    rintro _ ⟨T1, Y1, rfl, hG1, hD1, hX1, hk1⟩
    have hIF1 := dawns_IF (wv V row nw) hI5 (i + 1)
    refine j_aload_n C 0 dX11_check_41 rfl ?_
    refine j_get C (v := .ref (q 5)) 0 3 rfl rfl inlC11 (by decide) kf11_79 rfl dX11_check_42 ?_
    refine j_callVN (As := []) (rest := []) C vn11_218 (h_allBags_2 hG1 (hIF1.1.2.1.1) hn6) ⟨5, 1, _, _, rfl, rfl, rfl⟩ rfl (Nat.le_of_ble_eq_true rfl) dX11_check_45 (by decide) ?_
    rintro _ _ ⟨rfl, rfl⟩
    refine j_aload_n C 0 dX11_check_48 rfl ?_
    refine j_get C (v := .ref (q 1)) 0 1 rfl rfl inlC11 (by decide) kf11_75 rfl dX11_check_49 ?_
    refine j_getN C (v := .ref (q 12)) 1 6 rfl rfl inlC3 (by decide) kf11_302 rfl dX11_check_52 ?_
    refine j_getN C (v := .ref (q 73)) 12 0 rfl rfl inlC8 (by decide) kf11_281 rfl dX11_check_55 ?_
    refine j_iload_n C 2 dX11_check_58 rfl ?_
    refine j_ialdN C 73 0 rfl rfl i rfl (by omega) (by decide) dX11_check_59 ?_
    refine j_v (row (140 + i)) ((congrFun (((FrT.dn hD1 hX1).tr hT).2 73 (by omega) (by omega) (by omega)) i).trans (hK.wait i (by omega))) ?_
    refine j_icmp_eq C 67 dX11_check_60 (by decide) (fun c60 => ?_) (fun c60 => ?_)
    · skip
      refine j_iinc C (v := (nI (i + 1))) 2 [(2, .int (nI (i + 1))), (0, .ref (q 0)), (1, .int (nI nq))] dX11_check_67 rfl (nI_1 _) (by decide) rfl ?_
      refine j_goto C 29 dX11_check_70 (by decide) ?_
      refine j_L [1, 2, 0] [(0, .ref (q 0)), (1, .int (nI nq)), (2, .int (nI (i + 1)))] rfl ?_
      exact ih (i + 1, T1, Y1) (⟨by dsimp only; omega, hG1, (FrT.dn hD1 hX1).tr hT, fun m hm => by
      dsimp only at hm
      by_cases e : m = i
      · subst e; exact c60
      · exact hu m (by omega)⟩) (by dsimp only; omega)
    · skip
      refine j_iconst C (v := (nI 1)) dX11_check_63 (by decide) ?_
      refine j_iload_n C 2 dX11_check_64 rfl ?_
      refine j_iaddN C dX11_check_65 ?_
      refine j_iret C dX11_check_66 ?_
      unfold sp_check
      rw [e5, tN_nI (n := nq) (by omega)]
      have hpe : ∀ m, chkP V row m ↔ ¬ sumF (dawnsF np (wv V row nw) (upd row 5 (nI 0)) (m + 1)) 4 np = row (140 + m) := fun m => by
        show (¬ sumF (dawnsF (tN (row 3)) (wv V row (tN (row 8))) (upd row 5 (nI 0)) (m + 1)) 4 (tN (row 3)) = row (140 + m)) ↔ _
        rw [e3, e8, tN_nI (by omega), tN_nI (by omega)]
      have hl : lsF (chkP V row) nq 0 = i := lsF_at (Nat.zero_le _) (by omega) (fun m _ hm h => (hpe m).1 h (hu m hm)) (Or.inl ((hpe i).2 c60))
      rw [hl, if_neg (by omega)]
      exact ⟨rfl, hC5.th ((FrT.dn hD1 hX1).tr hT)⟩

/-! The class: fields copied, laid anew, people welcomed, wrongs added and dropped, draws. -/
theorem cpy_lt {g h : Nat → Int32} {n k : Nat} (hk : k < n) : va_cpy g h 0 0 n k = g k := by
  unfold va_cpy; rw [if_pos (by omega), show 0 + (k - 0) = k by omega]
def FrF (f : Nat) (S' : Nat → Int32) (X' : Nat → Nat → Int32) (S : Nat → Int32) (X : Nat → Nat → Int32) : Prop := (∀ k, (k < 5 + 3 * f ∨ 8 + 3 * f ≤ k) → S' k = S k) ∧ ∀ k, (k < 36 + 10 * f ∨ 44 + 10 * f ≤ k) → X' k = X k
def filF (g : Nat → Int32) (v : Int32) (n : Nat) : Nat → Int32 := fun k => if k < n then v else g k
theorem filF_0 (g : Nat → Int32) (v : Int32) : g = filF g v 0 := by funext k; unfold filF; rw [if_neg (by omega)]
theorem filF_s (g : Nat → Int32) (v : Int32) (i : Nat) : upd (filF g v i) i v = filF g v (i + 1) := by
  funext k
  by_cases e : k = i
  · subst e; rw [pk_us]; unfold filF; rw [if_pos (by omega)]
  · rw [pk_un e]; unfold filF
    by_cases g : k < i
    · rw [if_pos g, if_pos (by omega)]
    · rw [if_neg g, if_neg (by omega)]
def shF (g : Nat → Int32) (w m : Nat) : Nat → Int32 := fun k => if w ≤ k ∧ k < m then g (k + 1) else g k
theorem shF_0 (g : Nat → Int32) (w : Nat) : g = shF g w w := by funext k; unfold shF; rw [if_neg (by omega)]
theorem shF_h (g : Nat → Int32) (w m k : Nat) (h : m ≤ k) : shF g w m k = g k := by unfold shF; rw [if_neg (by omega)]
theorem shF_s (g : Nat → Int32) (w i : Nat) (h : w ≤ i) : upd (shF g w i) i (g (i + 1)) = shF g w (i + 1) := by
  funext k
  by_cases e : k = i
  · subst e; rw [pk_us]; unfold shF; rw [if_pos (by omega)]
  · rw [pk_un e]; unfold shF
    by_cases g : w ≤ k ∧ k < i
    · rw [if_pos g, if_pos (by omega)]
    · rw [if_neg g, if_neg (by omega)]
def dbF (row : Nat → Int32) (c : Int32) : Nat → Int32
  | 0 => 0
  | n + 1 => dbF row c n ||| (if row (66 + 3 * n) = c then nI 1 <<< (nI n &&& 31) else nI 0)

theorem dX1_copyFrom_0 : decode cX1_copyFrom 0 = .ok (.aload_n 0, 1) := by decide +kernel
theorem dX1_copyFrom_1 : decode cX1_copyFrom 1 = .ok (.aload_n 1, 1) := by decide +kernel
theorem dX1_copyFrom_2 : decode cX1_copyFrom 2 = .ok (.getfield 9, 3) := by decide +kernel
theorem dX1_copyFrom_5 : decode cX1_copyFrom 5 = .ok (.putfield 9, 3) := by decide +kernel
theorem dX1_copyFrom_8 : decode cX1_copyFrom 8 = .ok (.aload_n 1, 1) := by decide +kernel
theorem dX1_copyFrom_9 : decode cX1_copyFrom 9 = .ok (.getfield 15, 3) := by decide +kernel
theorem dX1_copyFrom_12 : decode cX1_copyFrom 12 = .ok (.iconst 0, 1) := by decide +kernel
theorem dX1_copyFrom_13 : decode cX1_copyFrom 13 = .ok (.aload_n 0, 1) := by decide +kernel
theorem dX1_copyFrom_14 : decode cX1_copyFrom 14 = .ok (.getfield 15, 3) := by decide +kernel
theorem dX1_copyFrom_17 : decode cX1_copyFrom 17 = .ok (.iconst 0, 1) := by decide +kernel
theorem dX1_copyFrom_18 : decode cX1_copyFrom 18 = .ok (.bipush 10, 2) := by decide +kernel
theorem dX1_copyFrom_20 : decode cX1_copyFrom 20 = .ok (.invokestatic 76, 3) := by decide +kernel
theorem dX1_copyFrom_23 : decode cX1_copyFrom 23 = .ok (.aload_n 1, 1) := by decide +kernel
theorem dX1_copyFrom_24 : decode cX1_copyFrom 24 = .ok (.getfield 19, 3) := by decide +kernel
theorem dX1_copyFrom_27 : decode cX1_copyFrom 27 = .ok (.iconst 0, 1) := by decide +kernel
theorem dX1_copyFrom_28 : decode cX1_copyFrom 28 = .ok (.aload_n 0, 1) := by decide +kernel
theorem dX1_copyFrom_29 : decode cX1_copyFrom 29 = .ok (.getfield 19, 3) := by decide +kernel
theorem dX1_copyFrom_32 : decode cX1_copyFrom 32 = .ok (.iconst 0, 1) := by decide +kernel
theorem dX1_copyFrom_33 : decode cX1_copyFrom 33 = .ok (.bipush 10, 2) := by decide +kernel
theorem dX1_copyFrom_35 : decode cX1_copyFrom 35 = .ok (.invokestatic 76, 3) := by decide +kernel
theorem dX1_copyFrom_38 : decode cX1_copyFrom 38 = .ok (.aload_n 0, 1) := by decide +kernel
theorem dX1_copyFrom_39 : decode cX1_copyFrom 39 = .ok (.aload_n 1, 1) := by decide +kernel
theorem dX1_copyFrom_40 : decode cX1_copyFrom 40 = .ok (.getfield 22, 3) := by decide +kernel
theorem dX1_copyFrom_43 : decode cX1_copyFrom 43 = .ok (.putfield 22, 3) := by decide +kernel
theorem dX1_copyFrom_46 : decode cX1_copyFrom 46 = .ok (.aload_n 0, 1) := by decide +kernel
theorem dX1_copyFrom_47 : decode cX1_copyFrom 47 = .ok (.aload_n 1, 1) := by decide +kernel
theorem dX1_copyFrom_48 : decode cX1_copyFrom 48 = .ok (.getfield 25, 3) := by decide +kernel
theorem dX1_copyFrom_51 : decode cX1_copyFrom 51 = .ok (.putfield 25, 3) := by decide +kernel
theorem dX1_copyFrom_54 : decode cX1_copyFrom 54 = .ok (.aload_n 1, 1) := by decide +kernel
theorem dX1_copyFrom_55 : decode cX1_copyFrom 55 = .ok (.getfield 28, 3) := by decide +kernel
theorem dX1_copyFrom_58 : decode cX1_copyFrom 58 = .ok (.iconst 0, 1) := by decide +kernel
theorem dX1_copyFrom_59 : decode cX1_copyFrom 59 = .ok (.aload_n 0, 1) := by decide +kernel
theorem dX1_copyFrom_60 : decode cX1_copyFrom 60 = .ok (.getfield 28, 3) := by decide +kernel
theorem dX1_copyFrom_63 : decode cX1_copyFrom 63 = .ok (.iconst 0, 1) := by decide +kernel
theorem dX1_copyFrom_64 : decode cX1_copyFrom 64 = .ok (.bipush 6, 2) := by decide +kernel
theorem dX1_copyFrom_66 : decode cX1_copyFrom 66 = .ok (.invokestatic 76, 3) := by decide +kernel
theorem dX1_copyFrom_69 : decode cX1_copyFrom 69 = .ok (.aload_n 1, 1) := by decide +kernel
theorem dX1_copyFrom_70 : decode cX1_copyFrom 70 = .ok (.getfield 31, 3) := by decide +kernel
theorem dX1_copyFrom_73 : decode cX1_copyFrom 73 = .ok (.iconst 0, 1) := by decide +kernel
theorem dX1_copyFrom_74 : decode cX1_copyFrom 74 = .ok (.aload_n 0, 1) := by decide +kernel
theorem dX1_copyFrom_75 : decode cX1_copyFrom 75 = .ok (.getfield 31, 3) := by decide +kernel
theorem dX1_copyFrom_78 : decode cX1_copyFrom 78 = .ok (.iconst 0, 1) := by decide +kernel
theorem dX1_copyFrom_79 : decode cX1_copyFrom 79 = .ok (.bipush 6, 2) := by decide +kernel
theorem dX1_copyFrom_81 : decode cX1_copyFrom 81 = .ok (.invokestatic 76, 3) := by decide +kernel
theorem dX1_copyFrom_84 : decode cX1_copyFrom 84 = .ok (.aload_n 1, 1) := by decide +kernel
theorem dX1_copyFrom_85 : decode cX1_copyFrom 85 = .ok (.getfield 34, 3) := by decide +kernel
theorem dX1_copyFrom_88 : decode cX1_copyFrom 88 = .ok (.iconst 0, 1) := by decide +kernel
theorem dX1_copyFrom_89 : decode cX1_copyFrom 89 = .ok (.aload_n 0, 1) := by decide +kernel
theorem dX1_copyFrom_90 : decode cX1_copyFrom 90 = .ok (.getfield 34, 3) := by decide +kernel
theorem dX1_copyFrom_93 : decode cX1_copyFrom 93 = .ok (.iconst 0, 1) := by decide +kernel
theorem dX1_copyFrom_94 : decode cX1_copyFrom 94 = .ok (.bipush 6, 2) := by decide +kernel
theorem dX1_copyFrom_96 : decode cX1_copyFrom 96 = .ok (.invokestatic 76, 3) := by decide +kernel
theorem dX1_copyFrom_99 : decode cX1_copyFrom 99 = .ok (.aload_n 1, 1) := by decide +kernel
theorem dX1_copyFrom_100 : decode cX1_copyFrom 100 = .ok (.getfield 37, 3) := by decide +kernel
theorem dX1_copyFrom_103 : decode cX1_copyFrom 103 = .ok (.iconst 0, 1) := by decide +kernel
theorem dX1_copyFrom_104 : decode cX1_copyFrom 104 = .ok (.aload_n 0, 1) := by decide +kernel
theorem dX1_copyFrom_105 : decode cX1_copyFrom 105 = .ok (.getfield 37, 3) := by decide +kernel
theorem dX1_copyFrom_108 : decode cX1_copyFrom 108 = .ok (.iconst 0, 1) := by decide +kernel
theorem dX1_copyFrom_109 : decode cX1_copyFrom 109 = .ok (.bipush 6, 2) := by decide +kernel
theorem dX1_copyFrom_111 : decode cX1_copyFrom 111 = .ok (.invokestatic 76, 3) := by decide +kernel
theorem dX1_copyFrom_114 : decode cX1_copyFrom 114 = .ok (.aload_n 1, 1) := by decide +kernel
theorem dX1_copyFrom_115 : decode cX1_copyFrom 115 = .ok (.getfield 40, 3) := by decide +kernel
theorem dX1_copyFrom_118 : decode cX1_copyFrom 118 = .ok (.iconst 0, 1) := by decide +kernel
theorem dX1_copyFrom_119 : decode cX1_copyFrom 119 = .ok (.aload_n 0, 1) := by decide +kernel
theorem dX1_copyFrom_120 : decode cX1_copyFrom 120 = .ok (.getfield 40, 3) := by decide +kernel
theorem dX1_copyFrom_123 : decode cX1_copyFrom 123 = .ok (.iconst 0, 1) := by decide +kernel
theorem dX1_copyFrom_124 : decode cX1_copyFrom 124 = .ok (.bipush 6, 2) := by decide +kernel
theorem dX1_copyFrom_126 : decode cX1_copyFrom 126 = .ok (.invokestatic 76, 3) := by decide +kernel
theorem dX1_copyFrom_129 : decode cX1_copyFrom 129 = .ok (.aload_n 1, 1) := by decide +kernel
theorem dX1_copyFrom_130 : decode cX1_copyFrom 130 = .ok (.getfield 43, 3) := by decide +kernel
theorem dX1_copyFrom_133 : decode cX1_copyFrom 133 = .ok (.iconst 0, 1) := by decide +kernel
theorem dX1_copyFrom_134 : decode cX1_copyFrom 134 = .ok (.aload_n 0, 1) := by decide +kernel
theorem dX1_copyFrom_135 : decode cX1_copyFrom 135 = .ok (.getfield 43, 3) := by decide +kernel
theorem dX1_copyFrom_138 : decode cX1_copyFrom 138 = .ok (.iconst 0, 1) := by decide +kernel
theorem dX1_copyFrom_139 : decode cX1_copyFrom 139 = .ok (.bipush 6, 2) := by decide +kernel
theorem dX1_copyFrom_141 : decode cX1_copyFrom 141 = .ok (.invokestatic 76, 3) := by decide +kernel
theorem dX1_copyFrom_144 : decode cX1_copyFrom 144 = .ok (.return_, 1) := by decide +kernel
set_option maxHeartbeats 2000000 in
set_option maxRecDepth 20000 in
theorem h_fcopy_2_0 {l : Launch} {D : va_G} {cI cG cW : ClassId} {q : Nat → Nat} {S : Nat → Int32} {X : Nat → Nat → Int32} {P : Nat → Nat} {row w : Nat → Int32} {nc np : Nat} (hF : CF S X 0 row w nc np) (hc10 : nc ≤ 10) (hn6 : np ≤ 6) : Cv l yX1_copyFrom cX1_copyFrom 2 none 2 D (tyL cI cG cW) (wC cI cG cW q) [.ref (q 5), .ref (q 3)] (S, X, P) (fun τ => ∃ S' X', τ = (S', X', P) ∧ CF S' X' 2 row (X 64) nc np ∧ FrF 2 S' X' S X) := by
  refine Cv.of (by decide) (Nat.le_of_ble_eq_true rfl) ?_
  intro p_ e_ s_ m_ b_ M_ c_ A_ C
  replace C : Cx _ _ _ _ _ _ _ _ RX1 _ _ _ _ := C
  refine j_L [0, 1] [(0, .ref (q 5)), (1, .ref (q 3))] rfl ?_
  refine j_aload_n C 0 dX1_copyFrom_0 rfl ?_
  refine j_aload_n C 1 dX1_copyFrom_1 rfl ?_
  refine j_get C (v := .int (S 5)) 3 0 rfl rfl inlC1 (by decide) kf1_9 rfl dX1_copyFrom_2 ?_
  refine j_put C 5 0 rfl rfl inlC1 tyX1 tyX1_ok nmX1 (by decide) kf1_9 rfl (ty := .int) (by decide +kernel) rfl rfl (Nat.le_of_ble_eq_true rfl) dX1_copyFrom_5 (upd S 11 (S 5), X, P) rfl ?_
  refine j_aload_n C 1 dX1_copyFrom_8 rfl ?_
  refine j_get C (v := .ref (q 36)) 3 1 rfl rfl inlC1 (by decide) kf1_15 rfl dX1_copyFrom_9 ?_
  refine j_iconst C (v := (nI 0)) dX1_copyFrom_12 (by decide) ?_
  refine j_aload_n C 0 dX1_copyFrom_13 rfl ?_
  refine j_get C (v := .ref (q 56)) 5 1 rfl rfl inlC1 (by decide) kf1_15 rfl dX1_copyFrom_14 ?_
  refine j_iconst C (v := (nI 0)) dX1_copyFrom_17 (by decide) ?_
  refine j_bipush C (v := (nI 10)) dX1_copyFrom_18 (by decide) ?_
  refine j_copy (rest := []) C 36 56 0 ac1_76 rfl rfl rfl 0 0 10 (by omega) (by omega) (by decide) (by decide) (by decide) (Nat.le_of_ble_eq_true rfl) dX1_copyFrom_20 (upd S 11 (S 5), va_up X 56 (va_cpy (X 36) (X 56) 0 0 10), P) rfl ?_
  refine j_aload_n C 1 dX1_copyFrom_23 rfl ?_
  refine j_get C (v := .ref (q 37)) 3 2 rfl rfl inlC1 (by decide) kf1_19 rfl dX1_copyFrom_24 ?_
  refine j_iconst C (v := (nI 0)) dX1_copyFrom_27 (by decide) ?_
  refine j_aload_n C 0 dX1_copyFrom_28 rfl ?_
  refine j_get C (v := .ref (q 57)) 5 2 rfl rfl inlC1 (by decide) kf1_19 rfl dX1_copyFrom_29 ?_
  refine j_iconst C (v := (nI 0)) dX1_copyFrom_32 (by decide) ?_
  refine j_bipush C (v := (nI 10)) dX1_copyFrom_33 (by decide) ?_
  refine j_copy (rest := []) C 37 57 0 ac1_76 rfl rfl rfl 0 0 10 (by omega) (by omega) (by decide) (by decide) (by decide) (Nat.le_of_ble_eq_true rfl) dX1_copyFrom_35 (upd S 11 (S 5), va_up (va_up X 56 (va_cpy (X 36) (X 56) 0 0 10)) 57 (va_cpy (X 37) (X 57) 0 0 10), P) rfl ?_
  refine j_aload_n C 0 dX1_copyFrom_38 rfl ?_
  refine j_aload_n C 1 dX1_copyFrom_39 rfl ?_
  refine j_get C (v := .int (S 6)) 3 3 rfl rfl inlC1 (by decide) kf1_22 rfl dX1_copyFrom_40 ?_
  refine j_put C 5 3 rfl rfl inlC1 tyX1 tyX1_ok nmX1 (by decide) kf1_22 rfl (ty := .int) (by decide +kernel) rfl rfl (Nat.le_of_ble_eq_true rfl) dX1_copyFrom_43 (upd (upd S 11 (S 5)) 12 (S 6), va_up (va_up X 56 (va_cpy (X 36) (X 56) 0 0 10)) 57 (va_cpy (X 37) (X 57) 0 0 10), P) rfl ?_
  refine j_aload_n C 0 dX1_copyFrom_46 rfl ?_
  refine j_aload_n C 1 dX1_copyFrom_47 rfl ?_
  refine j_get C (v := .int (S 7)) 3 4 rfl rfl inlC1 (by decide) kf1_25 rfl dX1_copyFrom_48 ?_
  refine j_put C 5 4 rfl rfl inlC1 tyX1 tyX1_ok nmX1 (by decide) kf1_25 rfl (ty := .int) (by decide +kernel) rfl rfl (Nat.le_of_ble_eq_true rfl) dX1_copyFrom_51 (upd (upd (upd S 11 (S 5)) 12 (S 6)) 13 (S 7), va_up (va_up X 56 (va_cpy (X 36) (X 56) 0 0 10)) 57 (va_cpy (X 37) (X 57) 0 0 10), P) rfl ?_
  refine j_aload_n C 1 dX1_copyFrom_54 rfl ?_
  refine j_get C (v := .ref (q 38)) 3 5 rfl rfl inlC1 (by decide) kf1_28 rfl dX1_copyFrom_55 ?_
  refine j_iconst C (v := (nI 0)) dX1_copyFrom_58 (by decide) ?_
  refine j_aload_n C 0 dX1_copyFrom_59 rfl ?_
  refine j_get C (v := .ref (q 58)) 5 5 rfl rfl inlC1 (by decide) kf1_28 rfl dX1_copyFrom_60 ?_
  refine j_iconst C (v := (nI 0)) dX1_copyFrom_63 (by decide) ?_
  refine j_bipush C (v := (nI 6)) dX1_copyFrom_64 (by decide) ?_
  refine j_copy (rest := []) C 38 58 0 ac1_76 rfl rfl rfl 0 0 6 (by omega) (by omega) (by decide) (by decide) (by decide) (Nat.le_of_ble_eq_true rfl) dX1_copyFrom_66 (upd (upd (upd S 11 (S 5)) 12 (S 6)) 13 (S 7), va_up (va_up (va_up X 56 (va_cpy (X 36) (X 56) 0 0 10)) 57 (va_cpy (X 37) (X 57) 0 0 10)) 58 (va_cpy (X 38) (X 58) 0 0 6), P) rfl ?_
  refine j_aload_n C 1 dX1_copyFrom_69 rfl ?_
  refine j_get C (v := .ref (q 39)) 3 6 rfl rfl inlC1 (by decide) kf1_31 rfl dX1_copyFrom_70 ?_
  refine j_iconst C (v := (nI 0)) dX1_copyFrom_73 (by decide) ?_
  refine j_aload_n C 0 dX1_copyFrom_74 rfl ?_
  refine j_get C (v := .ref (q 59)) 5 6 rfl rfl inlC1 (by decide) kf1_31 rfl dX1_copyFrom_75 ?_
  refine j_iconst C (v := (nI 0)) dX1_copyFrom_78 (by decide) ?_
  refine j_bipush C (v := (nI 6)) dX1_copyFrom_79 (by decide) ?_
  refine j_copy (rest := []) C 39 59 0 ac1_76 rfl rfl rfl 0 0 6 (by omega) (by omega) (by decide) (by decide) (by decide) (Nat.le_of_ble_eq_true rfl) dX1_copyFrom_81 (upd (upd (upd S 11 (S 5)) 12 (S 6)) 13 (S 7), va_up (va_up (va_up (va_up X 56 (va_cpy (X 36) (X 56) 0 0 10)) 57 (va_cpy (X 37) (X 57) 0 0 10)) 58 (va_cpy (X 38) (X 58) 0 0 6)) 59 (va_cpy (X 39) (X 59) 0 0 6), P) rfl ?_
  refine j_aload_n C 1 dX1_copyFrom_84 rfl ?_
  refine j_get C (v := .ref (q 40)) 3 7 rfl rfl inlC1 (by decide) kf1_34 rfl dX1_copyFrom_85 ?_
  refine j_iconst C (v := (nI 0)) dX1_copyFrom_88 (by decide) ?_
  refine j_aload_n C 0 dX1_copyFrom_89 rfl ?_
  refine j_get C (v := .ref (q 60)) 5 7 rfl rfl inlC1 (by decide) kf1_34 rfl dX1_copyFrom_90 ?_
  refine j_iconst C (v := (nI 0)) dX1_copyFrom_93 (by decide) ?_
  refine j_bipush C (v := (nI 6)) dX1_copyFrom_94 (by decide) ?_
  refine j_copy (rest := []) C 40 60 0 ac1_76 rfl rfl rfl 0 0 6 (by omega) (by omega) (by decide) (by decide) (by decide) (Nat.le_of_ble_eq_true rfl) dX1_copyFrom_96 (upd (upd (upd S 11 (S 5)) 12 (S 6)) 13 (S 7), va_up (va_up (va_up (va_up (va_up X 56 (va_cpy (X 36) (X 56) 0 0 10)) 57 (va_cpy (X 37) (X 57) 0 0 10)) 58 (va_cpy (X 38) (X 58) 0 0 6)) 59 (va_cpy (X 39) (X 59) 0 0 6)) 60 (va_cpy (X 40) (X 60) 0 0 6), P) rfl ?_
  refine j_aload_n C 1 dX1_copyFrom_99 rfl ?_
  refine j_get C (v := .ref (q 41)) 3 8 rfl rfl inlC1 (by decide) kf1_37 rfl dX1_copyFrom_100 ?_
  refine j_iconst C (v := (nI 0)) dX1_copyFrom_103 (by decide) ?_
  refine j_aload_n C 0 dX1_copyFrom_104 rfl ?_
  refine j_get C (v := .ref (q 61)) 5 8 rfl rfl inlC1 (by decide) kf1_37 rfl dX1_copyFrom_105 ?_
  refine j_iconst C (v := (nI 0)) dX1_copyFrom_108 (by decide) ?_
  refine j_bipush C (v := (nI 6)) dX1_copyFrom_109 (by decide) ?_
  refine j_copy (rest := []) C 41 61 0 ac1_76 rfl rfl rfl 0 0 6 (by omega) (by omega) (by decide) (by decide) (by decide) (Nat.le_of_ble_eq_true rfl) dX1_copyFrom_111 (upd (upd (upd S 11 (S 5)) 12 (S 6)) 13 (S 7), va_up (va_up (va_up (va_up (va_up (va_up X 56 (va_cpy (X 36) (X 56) 0 0 10)) 57 (va_cpy (X 37) (X 57) 0 0 10)) 58 (va_cpy (X 38) (X 58) 0 0 6)) 59 (va_cpy (X 39) (X 59) 0 0 6)) 60 (va_cpy (X 40) (X 60) 0 0 6)) 61 (va_cpy (X 41) (X 61) 0 0 6), P) rfl ?_
  refine j_aload_n C 1 dX1_copyFrom_114 rfl ?_
  refine j_get C (v := .ref (q 42)) 3 9 rfl rfl inlC1 (by decide) kf1_40 rfl dX1_copyFrom_115 ?_
  refine j_iconst C (v := (nI 0)) dX1_copyFrom_118 (by decide) ?_
  refine j_aload_n C 0 dX1_copyFrom_119 rfl ?_
  refine j_get C (v := .ref (q 62)) 5 9 rfl rfl inlC1 (by decide) kf1_40 rfl dX1_copyFrom_120 ?_
  refine j_iconst C (v := (nI 0)) dX1_copyFrom_123 (by decide) ?_
  refine j_bipush C (v := (nI 6)) dX1_copyFrom_124 (by decide) ?_
  refine j_copy (rest := []) C 42 62 0 ac1_76 rfl rfl rfl 0 0 6 (by omega) (by omega) (by decide) (by decide) (by decide) (Nat.le_of_ble_eq_true rfl) dX1_copyFrom_126 (upd (upd (upd S 11 (S 5)) 12 (S 6)) 13 (S 7), va_up (va_up (va_up (va_up (va_up (va_up (va_up X 56 (va_cpy (X 36) (X 56) 0 0 10)) 57 (va_cpy (X 37) (X 57) 0 0 10)) 58 (va_cpy (X 38) (X 58) 0 0 6)) 59 (va_cpy (X 39) (X 59) 0 0 6)) 60 (va_cpy (X 40) (X 60) 0 0 6)) 61 (va_cpy (X 41) (X 61) 0 0 6)) 62 (va_cpy (X 42) (X 62) 0 0 6), P) rfl ?_
  refine j_aload_n C 1 dX1_copyFrom_129 rfl ?_
  refine j_get C (v := .ref (q 43)) 3 10 rfl rfl inlC1 (by decide) kf1_43 rfl dX1_copyFrom_130 ?_
  refine j_iconst C (v := (nI 0)) dX1_copyFrom_133 (by decide) ?_
  refine j_aload_n C 0 dX1_copyFrom_134 rfl ?_
  refine j_get C (v := .ref (q 63)) 5 10 rfl rfl inlC1 (by decide) kf1_43 rfl dX1_copyFrom_135 ?_
  refine j_iconst C (v := (nI 0)) dX1_copyFrom_138 (by decide) ?_
  refine j_bipush C (v := (nI 6)) dX1_copyFrom_139 (by decide) ?_
  refine j_copy (rest := []) C 43 63 0 ac1_76 rfl rfl rfl 0 0 6 (by omega) (by omega) (by decide) (by decide) (by decide) (Nat.le_of_ble_eq_true rfl) dX1_copyFrom_141 (upd (upd (upd S 11 (S 5)) 12 (S 6)) 13 (S 7), va_up (va_up (va_up (va_up (va_up (va_up (va_up (va_up X 56 (va_cpy (X 36) (X 56) 0 0 10)) 57 (va_cpy (X 37) (X 57) 0 0 10)) 58 (va_cpy (X 38) (X 58) 0 0 6)) 59 (va_cpy (X 39) (X 59) 0 0 6)) 60 (va_cpy (X 40) (X 60) 0 0 6)) 61 (va_cpy (X 41) (X 61) 0 0 6)) 62 (va_cpy (X 42) (X 62) 0 0 6)) 63 (va_cpy (X 43) (X 63) 0 0 6), P) rfl ?_
  refine j_vret C dX1_copyFrom_144 ?_
  refine ⟨_, _, rfl, ⟨?_, ?_, ?_, fun c hc => ?_, fun c hc => ?_, fun j hj p hp => ?_, fun p hp => rfl⟩, fun k hk => ?_, fun k hk => ?_⟩
  · show (upd (upd (upd S 11 (S 5)) 12 (S 6)) 13 (S 7)) 11 = _
    rw [pk_un (by omega), pk_un (by omega), pk_us]; exact hF.cells
  · show (upd (upd (upd S 11 (S 5)) 12 (S 6)) 13 (S 7)) 12 = _
    rw [pk_un (by omega), pk_us]; exact hF.dawn
  · show (upd (upd (upd S 11 (S 5)) 12 (S 6)) 13 (S 7)) 13 = _
    rw [pk_us]; exact hF.people
  · show va_cpy (X 36) (X 56) 0 0 10 c = _
    rw [cpy_lt (by omega)]; exact hF.ears c hc
  · show va_cpy (X 37) (X 57) 0 0 10 c = _
    rw [cpy_lt (by omega)]; exact hF.low c hc
  · rcases (show j = 0 ∨ j = 1 ∨ j = 2 ∨ j = 3 ∨ j = 4 ∨ j = 5 by omega) with rfl | rfl | rfl | rfl | rfl | rfl
    · show va_cpy (X 38) (X 58) 0 0 6 p = _
      rw [cpy_lt (by omega)]; exact hF.per 0 (by omega) p hp
    · show va_cpy (X 39) (X 59) 0 0 6 p = _
      rw [cpy_lt (by omega)]; exact hF.per 1 (by omega) p hp
    · show va_cpy (X 40) (X 60) 0 0 6 p = _
      rw [cpy_lt (by omega)]; exact hF.per 2 (by omega) p hp
    · show va_cpy (X 41) (X 61) 0 0 6 p = _
      rw [cpy_lt (by omega)]; exact hF.per 3 (by omega) p hp
    · show va_cpy (X 42) (X 62) 0 0 6 p = _
      rw [cpy_lt (by omega)]; exact hF.per 4 (by omega) p hp
    · show va_cpy (X 43) (X 63) 0 0 6 p = _
      rw [cpy_lt (by omega)]; exact hF.per 5 (by omega) p hp
  · rw [pk_un (by omega), pk_un (by omega), pk_un (by omega)]
  · rw [va_n (by omega), va_n (by omega), va_n (by omega), va_n (by omega), va_n (by omega), va_n (by omega), va_n (by omega), va_n (by omega)]
set_option maxHeartbeats 2000000 in
set_option maxRecDepth 20000 in
theorem h_fcopy_1_0 {l : Launch} {D : va_G} {cI cG cW : ClassId} {q : Nat → Nat} {S : Nat → Int32} {X : Nat → Nat → Int32} {P : Nat → Nat} {row w : Nat → Int32} {nc np : Nat} (hF : CF S X 0 row w nc np) (hc10 : nc ≤ 10) (hn6 : np ≤ 6) : Cv l yX1_copyFrom cX1_copyFrom 2 none 2 D (tyL cI cG cW) (wC cI cG cW q) [.ref (q 4), .ref (q 3)] (S, X, P) (fun τ => ∃ S' X', τ = (S', X', P) ∧ CF S' X' 1 row (X 54) nc np ∧ FrF 1 S' X' S X) := by
  refine Cv.of (by decide) (Nat.le_of_ble_eq_true rfl) ?_
  intro p_ e_ s_ m_ b_ M_ c_ A_ C
  replace C : Cx _ _ _ _ _ _ _ _ RX1 _ _ _ _ := C
  refine j_L [0, 1] [(0, .ref (q 4)), (1, .ref (q 3))] rfl ?_
  refine j_aload_n C 0 dX1_copyFrom_0 rfl ?_
  refine j_aload_n C 1 dX1_copyFrom_1 rfl ?_
  refine j_get C (v := .int (S 5)) 3 0 rfl rfl inlC1 (by decide) kf1_9 rfl dX1_copyFrom_2 ?_
  refine j_put C 4 0 rfl rfl inlC1 tyX1 tyX1_ok nmX1 (by decide) kf1_9 rfl (ty := .int) (by decide +kernel) rfl rfl (Nat.le_of_ble_eq_true rfl) dX1_copyFrom_5 (upd S 8 (S 5), X, P) rfl ?_
  refine j_aload_n C 1 dX1_copyFrom_8 rfl ?_
  refine j_get C (v := .ref (q 36)) 3 1 rfl rfl inlC1 (by decide) kf1_15 rfl dX1_copyFrom_9 ?_
  refine j_iconst C (v := (nI 0)) dX1_copyFrom_12 (by decide) ?_
  refine j_aload_n C 0 dX1_copyFrom_13 rfl ?_
  refine j_get C (v := .ref (q 46)) 4 1 rfl rfl inlC1 (by decide) kf1_15 rfl dX1_copyFrom_14 ?_
  refine j_iconst C (v := (nI 0)) dX1_copyFrom_17 (by decide) ?_
  refine j_bipush C (v := (nI 10)) dX1_copyFrom_18 (by decide) ?_
  refine j_copy (rest := []) C 36 46 0 ac1_76 rfl rfl rfl 0 0 10 (by omega) (by omega) (by decide) (by decide) (by decide) (Nat.le_of_ble_eq_true rfl) dX1_copyFrom_20 (upd S 8 (S 5), va_up X 46 (va_cpy (X 36) (X 46) 0 0 10), P) rfl ?_
  refine j_aload_n C 1 dX1_copyFrom_23 rfl ?_
  refine j_get C (v := .ref (q 37)) 3 2 rfl rfl inlC1 (by decide) kf1_19 rfl dX1_copyFrom_24 ?_
  refine j_iconst C (v := (nI 0)) dX1_copyFrom_27 (by decide) ?_
  refine j_aload_n C 0 dX1_copyFrom_28 rfl ?_
  refine j_get C (v := .ref (q 47)) 4 2 rfl rfl inlC1 (by decide) kf1_19 rfl dX1_copyFrom_29 ?_
  refine j_iconst C (v := (nI 0)) dX1_copyFrom_32 (by decide) ?_
  refine j_bipush C (v := (nI 10)) dX1_copyFrom_33 (by decide) ?_
  refine j_copy (rest := []) C 37 47 0 ac1_76 rfl rfl rfl 0 0 10 (by omega) (by omega) (by decide) (by decide) (by decide) (Nat.le_of_ble_eq_true rfl) dX1_copyFrom_35 (upd S 8 (S 5), va_up (va_up X 46 (va_cpy (X 36) (X 46) 0 0 10)) 47 (va_cpy (X 37) (X 47) 0 0 10), P) rfl ?_
  refine j_aload_n C 0 dX1_copyFrom_38 rfl ?_
  refine j_aload_n C 1 dX1_copyFrom_39 rfl ?_
  refine j_get C (v := .int (S 6)) 3 3 rfl rfl inlC1 (by decide) kf1_22 rfl dX1_copyFrom_40 ?_
  refine j_put C 4 3 rfl rfl inlC1 tyX1 tyX1_ok nmX1 (by decide) kf1_22 rfl (ty := .int) (by decide +kernel) rfl rfl (Nat.le_of_ble_eq_true rfl) dX1_copyFrom_43 (upd (upd S 8 (S 5)) 9 (S 6), va_up (va_up X 46 (va_cpy (X 36) (X 46) 0 0 10)) 47 (va_cpy (X 37) (X 47) 0 0 10), P) rfl ?_
  refine j_aload_n C 0 dX1_copyFrom_46 rfl ?_
  refine j_aload_n C 1 dX1_copyFrom_47 rfl ?_
  refine j_get C (v := .int (S 7)) 3 4 rfl rfl inlC1 (by decide) kf1_25 rfl dX1_copyFrom_48 ?_
  refine j_put C 4 4 rfl rfl inlC1 tyX1 tyX1_ok nmX1 (by decide) kf1_25 rfl (ty := .int) (by decide +kernel) rfl rfl (Nat.le_of_ble_eq_true rfl) dX1_copyFrom_51 (upd (upd (upd S 8 (S 5)) 9 (S 6)) 10 (S 7), va_up (va_up X 46 (va_cpy (X 36) (X 46) 0 0 10)) 47 (va_cpy (X 37) (X 47) 0 0 10), P) rfl ?_
  refine j_aload_n C 1 dX1_copyFrom_54 rfl ?_
  refine j_get C (v := .ref (q 38)) 3 5 rfl rfl inlC1 (by decide) kf1_28 rfl dX1_copyFrom_55 ?_
  refine j_iconst C (v := (nI 0)) dX1_copyFrom_58 (by decide) ?_
  refine j_aload_n C 0 dX1_copyFrom_59 rfl ?_
  refine j_get C (v := .ref (q 48)) 4 5 rfl rfl inlC1 (by decide) kf1_28 rfl dX1_copyFrom_60 ?_
  refine j_iconst C (v := (nI 0)) dX1_copyFrom_63 (by decide) ?_
  refine j_bipush C (v := (nI 6)) dX1_copyFrom_64 (by decide) ?_
  refine j_copy (rest := []) C 38 48 0 ac1_76 rfl rfl rfl 0 0 6 (by omega) (by omega) (by decide) (by decide) (by decide) (Nat.le_of_ble_eq_true rfl) dX1_copyFrom_66 (upd (upd (upd S 8 (S 5)) 9 (S 6)) 10 (S 7), va_up (va_up (va_up X 46 (va_cpy (X 36) (X 46) 0 0 10)) 47 (va_cpy (X 37) (X 47) 0 0 10)) 48 (va_cpy (X 38) (X 48) 0 0 6), P) rfl ?_
  refine j_aload_n C 1 dX1_copyFrom_69 rfl ?_
  refine j_get C (v := .ref (q 39)) 3 6 rfl rfl inlC1 (by decide) kf1_31 rfl dX1_copyFrom_70 ?_
  refine j_iconst C (v := (nI 0)) dX1_copyFrom_73 (by decide) ?_
  refine j_aload_n C 0 dX1_copyFrom_74 rfl ?_
  refine j_get C (v := .ref (q 49)) 4 6 rfl rfl inlC1 (by decide) kf1_31 rfl dX1_copyFrom_75 ?_
  refine j_iconst C (v := (nI 0)) dX1_copyFrom_78 (by decide) ?_
  refine j_bipush C (v := (nI 6)) dX1_copyFrom_79 (by decide) ?_
  refine j_copy (rest := []) C 39 49 0 ac1_76 rfl rfl rfl 0 0 6 (by omega) (by omega) (by decide) (by decide) (by decide) (Nat.le_of_ble_eq_true rfl) dX1_copyFrom_81 (upd (upd (upd S 8 (S 5)) 9 (S 6)) 10 (S 7), va_up (va_up (va_up (va_up X 46 (va_cpy (X 36) (X 46) 0 0 10)) 47 (va_cpy (X 37) (X 47) 0 0 10)) 48 (va_cpy (X 38) (X 48) 0 0 6)) 49 (va_cpy (X 39) (X 49) 0 0 6), P) rfl ?_
  refine j_aload_n C 1 dX1_copyFrom_84 rfl ?_
  refine j_get C (v := .ref (q 40)) 3 7 rfl rfl inlC1 (by decide) kf1_34 rfl dX1_copyFrom_85 ?_
  refine j_iconst C (v := (nI 0)) dX1_copyFrom_88 (by decide) ?_
  refine j_aload_n C 0 dX1_copyFrom_89 rfl ?_
  refine j_get C (v := .ref (q 50)) 4 7 rfl rfl inlC1 (by decide) kf1_34 rfl dX1_copyFrom_90 ?_
  refine j_iconst C (v := (nI 0)) dX1_copyFrom_93 (by decide) ?_
  refine j_bipush C (v := (nI 6)) dX1_copyFrom_94 (by decide) ?_
  refine j_copy (rest := []) C 40 50 0 ac1_76 rfl rfl rfl 0 0 6 (by omega) (by omega) (by decide) (by decide) (by decide) (Nat.le_of_ble_eq_true rfl) dX1_copyFrom_96 (upd (upd (upd S 8 (S 5)) 9 (S 6)) 10 (S 7), va_up (va_up (va_up (va_up (va_up X 46 (va_cpy (X 36) (X 46) 0 0 10)) 47 (va_cpy (X 37) (X 47) 0 0 10)) 48 (va_cpy (X 38) (X 48) 0 0 6)) 49 (va_cpy (X 39) (X 49) 0 0 6)) 50 (va_cpy (X 40) (X 50) 0 0 6), P) rfl ?_
  refine j_aload_n C 1 dX1_copyFrom_99 rfl ?_
  refine j_get C (v := .ref (q 41)) 3 8 rfl rfl inlC1 (by decide) kf1_37 rfl dX1_copyFrom_100 ?_
  refine j_iconst C (v := (nI 0)) dX1_copyFrom_103 (by decide) ?_
  refine j_aload_n C 0 dX1_copyFrom_104 rfl ?_
  refine j_get C (v := .ref (q 51)) 4 8 rfl rfl inlC1 (by decide) kf1_37 rfl dX1_copyFrom_105 ?_
  refine j_iconst C (v := (nI 0)) dX1_copyFrom_108 (by decide) ?_
  refine j_bipush C (v := (nI 6)) dX1_copyFrom_109 (by decide) ?_
  refine j_copy (rest := []) C 41 51 0 ac1_76 rfl rfl rfl 0 0 6 (by omega) (by omega) (by decide) (by decide) (by decide) (Nat.le_of_ble_eq_true rfl) dX1_copyFrom_111 (upd (upd (upd S 8 (S 5)) 9 (S 6)) 10 (S 7), va_up (va_up (va_up (va_up (va_up (va_up X 46 (va_cpy (X 36) (X 46) 0 0 10)) 47 (va_cpy (X 37) (X 47) 0 0 10)) 48 (va_cpy (X 38) (X 48) 0 0 6)) 49 (va_cpy (X 39) (X 49) 0 0 6)) 50 (va_cpy (X 40) (X 50) 0 0 6)) 51 (va_cpy (X 41) (X 51) 0 0 6), P) rfl ?_
  refine j_aload_n C 1 dX1_copyFrom_114 rfl ?_
  refine j_get C (v := .ref (q 42)) 3 9 rfl rfl inlC1 (by decide) kf1_40 rfl dX1_copyFrom_115 ?_
  refine j_iconst C (v := (nI 0)) dX1_copyFrom_118 (by decide) ?_
  refine j_aload_n C 0 dX1_copyFrom_119 rfl ?_
  refine j_get C (v := .ref (q 52)) 4 9 rfl rfl inlC1 (by decide) kf1_40 rfl dX1_copyFrom_120 ?_
  refine j_iconst C (v := (nI 0)) dX1_copyFrom_123 (by decide) ?_
  refine j_bipush C (v := (nI 6)) dX1_copyFrom_124 (by decide) ?_
  refine j_copy (rest := []) C 42 52 0 ac1_76 rfl rfl rfl 0 0 6 (by omega) (by omega) (by decide) (by decide) (by decide) (Nat.le_of_ble_eq_true rfl) dX1_copyFrom_126 (upd (upd (upd S 8 (S 5)) 9 (S 6)) 10 (S 7), va_up (va_up (va_up (va_up (va_up (va_up (va_up X 46 (va_cpy (X 36) (X 46) 0 0 10)) 47 (va_cpy (X 37) (X 47) 0 0 10)) 48 (va_cpy (X 38) (X 48) 0 0 6)) 49 (va_cpy (X 39) (X 49) 0 0 6)) 50 (va_cpy (X 40) (X 50) 0 0 6)) 51 (va_cpy (X 41) (X 51) 0 0 6)) 52 (va_cpy (X 42) (X 52) 0 0 6), P) rfl ?_
  refine j_aload_n C 1 dX1_copyFrom_129 rfl ?_
  refine j_get C (v := .ref (q 43)) 3 10 rfl rfl inlC1 (by decide) kf1_43 rfl dX1_copyFrom_130 ?_
  refine j_iconst C (v := (nI 0)) dX1_copyFrom_133 (by decide) ?_
  refine j_aload_n C 0 dX1_copyFrom_134 rfl ?_
  refine j_get C (v := .ref (q 53)) 4 10 rfl rfl inlC1 (by decide) kf1_43 rfl dX1_copyFrom_135 ?_
  refine j_iconst C (v := (nI 0)) dX1_copyFrom_138 (by decide) ?_
  refine j_bipush C (v := (nI 6)) dX1_copyFrom_139 (by decide) ?_
  refine j_copy (rest := []) C 43 53 0 ac1_76 rfl rfl rfl 0 0 6 (by omega) (by omega) (by decide) (by decide) (by decide) (Nat.le_of_ble_eq_true rfl) dX1_copyFrom_141 (upd (upd (upd S 8 (S 5)) 9 (S 6)) 10 (S 7), va_up (va_up (va_up (va_up (va_up (va_up (va_up (va_up X 46 (va_cpy (X 36) (X 46) 0 0 10)) 47 (va_cpy (X 37) (X 47) 0 0 10)) 48 (va_cpy (X 38) (X 48) 0 0 6)) 49 (va_cpy (X 39) (X 49) 0 0 6)) 50 (va_cpy (X 40) (X 50) 0 0 6)) 51 (va_cpy (X 41) (X 51) 0 0 6)) 52 (va_cpy (X 42) (X 52) 0 0 6)) 53 (va_cpy (X 43) (X 53) 0 0 6), P) rfl ?_
  refine j_vret C dX1_copyFrom_144 ?_
  refine ⟨_, _, rfl, ⟨?_, ?_, ?_, fun c hc => ?_, fun c hc => ?_, fun j hj p hp => ?_, fun p hp => rfl⟩, fun k hk => ?_, fun k hk => ?_⟩
  · show (upd (upd (upd S 8 (S 5)) 9 (S 6)) 10 (S 7)) 8 = _
    rw [pk_un (by omega), pk_un (by omega), pk_us]; exact hF.cells
  · show (upd (upd (upd S 8 (S 5)) 9 (S 6)) 10 (S 7)) 9 = _
    rw [pk_un (by omega), pk_us]; exact hF.dawn
  · show (upd (upd (upd S 8 (S 5)) 9 (S 6)) 10 (S 7)) 10 = _
    rw [pk_us]; exact hF.people
  · show va_cpy (X 36) (X 46) 0 0 10 c = _
    rw [cpy_lt (by omega)]; exact hF.ears c hc
  · show va_cpy (X 37) (X 47) 0 0 10 c = _
    rw [cpy_lt (by omega)]; exact hF.low c hc
  · rcases (show j = 0 ∨ j = 1 ∨ j = 2 ∨ j = 3 ∨ j = 4 ∨ j = 5 by omega) with rfl | rfl | rfl | rfl | rfl | rfl
    · show va_cpy (X 38) (X 48) 0 0 6 p = _
      rw [cpy_lt (by omega)]; exact hF.per 0 (by omega) p hp
    · show va_cpy (X 39) (X 49) 0 0 6 p = _
      rw [cpy_lt (by omega)]; exact hF.per 1 (by omega) p hp
    · show va_cpy (X 40) (X 50) 0 0 6 p = _
      rw [cpy_lt (by omega)]; exact hF.per 2 (by omega) p hp
    · show va_cpy (X 41) (X 51) 0 0 6 p = _
      rw [cpy_lt (by omega)]; exact hF.per 3 (by omega) p hp
    · show va_cpy (X 42) (X 52) 0 0 6 p = _
      rw [cpy_lt (by omega)]; exact hF.per 4 (by omega) p hp
    · show va_cpy (X 43) (X 53) 0 0 6 p = _
      rw [cpy_lt (by omega)]; exact hF.per 5 (by omega) p hp
  · rw [pk_un (by omega), pk_un (by omega), pk_un (by omega)]
  · rw [va_n (by omega), va_n (by omega), va_n (by omega), va_n (by omega), va_n (by omega), va_n (by omega), va_n (by omega), va_n (by omega)]
set_option maxHeartbeats 2000000 in
set_option maxRecDepth 20000 in
theorem h_fcopy_0_1 {l : Launch} {D : va_G} {cI cG cW : ClassId} {q : Nat → Nat} {S : Nat → Int32} {X : Nat → Nat → Int32} {P : Nat → Nat} {row w : Nat → Int32} {nc np : Nat} (hF : CF S X 1 row w nc np) (hc10 : nc ≤ 10) (hn6 : np ≤ 6) : Cv l yX1_copyFrom cX1_copyFrom 2 none 2 D (tyL cI cG cW) (wC cI cG cW q) [.ref (q 3), .ref (q 4)] (S, X, P) (fun τ => ∃ S' X', τ = (S', X', P) ∧ CF S' X' 0 row (X 44) nc np ∧ FrF 0 S' X' S X) := by
  refine Cv.of (by decide) (Nat.le_of_ble_eq_true rfl) ?_
  intro p_ e_ s_ m_ b_ M_ c_ A_ C
  replace C : Cx _ _ _ _ _ _ _ _ RX1 _ _ _ _ := C
  refine j_L [0, 1] [(0, .ref (q 3)), (1, .ref (q 4))] rfl ?_
  refine j_aload_n C 0 dX1_copyFrom_0 rfl ?_
  refine j_aload_n C 1 dX1_copyFrom_1 rfl ?_
  refine j_get C (v := .int (S 8)) 4 0 rfl rfl inlC1 (by decide) kf1_9 rfl dX1_copyFrom_2 ?_
  refine j_put C 3 0 rfl rfl inlC1 tyX1 tyX1_ok nmX1 (by decide) kf1_9 rfl (ty := .int) (by decide +kernel) rfl rfl (Nat.le_of_ble_eq_true rfl) dX1_copyFrom_5 (upd S 5 (S 8), X, P) rfl ?_
  refine j_aload_n C 1 dX1_copyFrom_8 rfl ?_
  refine j_get C (v := .ref (q 46)) 4 1 rfl rfl inlC1 (by decide) kf1_15 rfl dX1_copyFrom_9 ?_
  refine j_iconst C (v := (nI 0)) dX1_copyFrom_12 (by decide) ?_
  refine j_aload_n C 0 dX1_copyFrom_13 rfl ?_
  refine j_get C (v := .ref (q 36)) 3 1 rfl rfl inlC1 (by decide) kf1_15 rfl dX1_copyFrom_14 ?_
  refine j_iconst C (v := (nI 0)) dX1_copyFrom_17 (by decide) ?_
  refine j_bipush C (v := (nI 10)) dX1_copyFrom_18 (by decide) ?_
  refine j_copy (rest := []) C 46 36 0 ac1_76 rfl rfl rfl 0 0 10 (by omega) (by omega) (by decide) (by decide) (by decide) (Nat.le_of_ble_eq_true rfl) dX1_copyFrom_20 (upd S 5 (S 8), va_up X 36 (va_cpy (X 46) (X 36) 0 0 10), P) rfl ?_
  refine j_aload_n C 1 dX1_copyFrom_23 rfl ?_
  refine j_get C (v := .ref (q 47)) 4 2 rfl rfl inlC1 (by decide) kf1_19 rfl dX1_copyFrom_24 ?_
  refine j_iconst C (v := (nI 0)) dX1_copyFrom_27 (by decide) ?_
  refine j_aload_n C 0 dX1_copyFrom_28 rfl ?_
  refine j_get C (v := .ref (q 37)) 3 2 rfl rfl inlC1 (by decide) kf1_19 rfl dX1_copyFrom_29 ?_
  refine j_iconst C (v := (nI 0)) dX1_copyFrom_32 (by decide) ?_
  refine j_bipush C (v := (nI 10)) dX1_copyFrom_33 (by decide) ?_
  refine j_copy (rest := []) C 47 37 0 ac1_76 rfl rfl rfl 0 0 10 (by omega) (by omega) (by decide) (by decide) (by decide) (Nat.le_of_ble_eq_true rfl) dX1_copyFrom_35 (upd S 5 (S 8), va_up (va_up X 36 (va_cpy (X 46) (X 36) 0 0 10)) 37 (va_cpy (X 47) (X 37) 0 0 10), P) rfl ?_
  refine j_aload_n C 0 dX1_copyFrom_38 rfl ?_
  refine j_aload_n C 1 dX1_copyFrom_39 rfl ?_
  refine j_get C (v := .int (S 9)) 4 3 rfl rfl inlC1 (by decide) kf1_22 rfl dX1_copyFrom_40 ?_
  refine j_put C 3 3 rfl rfl inlC1 tyX1 tyX1_ok nmX1 (by decide) kf1_22 rfl (ty := .int) (by decide +kernel) rfl rfl (Nat.le_of_ble_eq_true rfl) dX1_copyFrom_43 (upd (upd S 5 (S 8)) 6 (S 9), va_up (va_up X 36 (va_cpy (X 46) (X 36) 0 0 10)) 37 (va_cpy (X 47) (X 37) 0 0 10), P) rfl ?_
  refine j_aload_n C 0 dX1_copyFrom_46 rfl ?_
  refine j_aload_n C 1 dX1_copyFrom_47 rfl ?_
  refine j_get C (v := .int (S 10)) 4 4 rfl rfl inlC1 (by decide) kf1_25 rfl dX1_copyFrom_48 ?_
  refine j_put C 3 4 rfl rfl inlC1 tyX1 tyX1_ok nmX1 (by decide) kf1_25 rfl (ty := .int) (by decide +kernel) rfl rfl (Nat.le_of_ble_eq_true rfl) dX1_copyFrom_51 (upd (upd (upd S 5 (S 8)) 6 (S 9)) 7 (S 10), va_up (va_up X 36 (va_cpy (X 46) (X 36) 0 0 10)) 37 (va_cpy (X 47) (X 37) 0 0 10), P) rfl ?_
  refine j_aload_n C 1 dX1_copyFrom_54 rfl ?_
  refine j_get C (v := .ref (q 48)) 4 5 rfl rfl inlC1 (by decide) kf1_28 rfl dX1_copyFrom_55 ?_
  refine j_iconst C (v := (nI 0)) dX1_copyFrom_58 (by decide) ?_
  refine j_aload_n C 0 dX1_copyFrom_59 rfl ?_
  refine j_get C (v := .ref (q 38)) 3 5 rfl rfl inlC1 (by decide) kf1_28 rfl dX1_copyFrom_60 ?_
  refine j_iconst C (v := (nI 0)) dX1_copyFrom_63 (by decide) ?_
  refine j_bipush C (v := (nI 6)) dX1_copyFrom_64 (by decide) ?_
  refine j_copy (rest := []) C 48 38 0 ac1_76 rfl rfl rfl 0 0 6 (by omega) (by omega) (by decide) (by decide) (by decide) (Nat.le_of_ble_eq_true rfl) dX1_copyFrom_66 (upd (upd (upd S 5 (S 8)) 6 (S 9)) 7 (S 10), va_up (va_up (va_up X 36 (va_cpy (X 46) (X 36) 0 0 10)) 37 (va_cpy (X 47) (X 37) 0 0 10)) 38 (va_cpy (X 48) (X 38) 0 0 6), P) rfl ?_
  refine j_aload_n C 1 dX1_copyFrom_69 rfl ?_
  refine j_get C (v := .ref (q 49)) 4 6 rfl rfl inlC1 (by decide) kf1_31 rfl dX1_copyFrom_70 ?_
  refine j_iconst C (v := (nI 0)) dX1_copyFrom_73 (by decide) ?_
  refine j_aload_n C 0 dX1_copyFrom_74 rfl ?_
  refine j_get C (v := .ref (q 39)) 3 6 rfl rfl inlC1 (by decide) kf1_31 rfl dX1_copyFrom_75 ?_
  refine j_iconst C (v := (nI 0)) dX1_copyFrom_78 (by decide) ?_
  refine j_bipush C (v := (nI 6)) dX1_copyFrom_79 (by decide) ?_
  refine j_copy (rest := []) C 49 39 0 ac1_76 rfl rfl rfl 0 0 6 (by omega) (by omega) (by decide) (by decide) (by decide) (Nat.le_of_ble_eq_true rfl) dX1_copyFrom_81 (upd (upd (upd S 5 (S 8)) 6 (S 9)) 7 (S 10), va_up (va_up (va_up (va_up X 36 (va_cpy (X 46) (X 36) 0 0 10)) 37 (va_cpy (X 47) (X 37) 0 0 10)) 38 (va_cpy (X 48) (X 38) 0 0 6)) 39 (va_cpy (X 49) (X 39) 0 0 6), P) rfl ?_
  refine j_aload_n C 1 dX1_copyFrom_84 rfl ?_
  refine j_get C (v := .ref (q 50)) 4 7 rfl rfl inlC1 (by decide) kf1_34 rfl dX1_copyFrom_85 ?_
  refine j_iconst C (v := (nI 0)) dX1_copyFrom_88 (by decide) ?_
  refine j_aload_n C 0 dX1_copyFrom_89 rfl ?_
  refine j_get C (v := .ref (q 40)) 3 7 rfl rfl inlC1 (by decide) kf1_34 rfl dX1_copyFrom_90 ?_
  refine j_iconst C (v := (nI 0)) dX1_copyFrom_93 (by decide) ?_
  refine j_bipush C (v := (nI 6)) dX1_copyFrom_94 (by decide) ?_
  refine j_copy (rest := []) C 50 40 0 ac1_76 rfl rfl rfl 0 0 6 (by omega) (by omega) (by decide) (by decide) (by decide) (Nat.le_of_ble_eq_true rfl) dX1_copyFrom_96 (upd (upd (upd S 5 (S 8)) 6 (S 9)) 7 (S 10), va_up (va_up (va_up (va_up (va_up X 36 (va_cpy (X 46) (X 36) 0 0 10)) 37 (va_cpy (X 47) (X 37) 0 0 10)) 38 (va_cpy (X 48) (X 38) 0 0 6)) 39 (va_cpy (X 49) (X 39) 0 0 6)) 40 (va_cpy (X 50) (X 40) 0 0 6), P) rfl ?_
  refine j_aload_n C 1 dX1_copyFrom_99 rfl ?_
  refine j_get C (v := .ref (q 51)) 4 8 rfl rfl inlC1 (by decide) kf1_37 rfl dX1_copyFrom_100 ?_
  refine j_iconst C (v := (nI 0)) dX1_copyFrom_103 (by decide) ?_
  refine j_aload_n C 0 dX1_copyFrom_104 rfl ?_
  refine j_get C (v := .ref (q 41)) 3 8 rfl rfl inlC1 (by decide) kf1_37 rfl dX1_copyFrom_105 ?_
  refine j_iconst C (v := (nI 0)) dX1_copyFrom_108 (by decide) ?_
  refine j_bipush C (v := (nI 6)) dX1_copyFrom_109 (by decide) ?_
  refine j_copy (rest := []) C 51 41 0 ac1_76 rfl rfl rfl 0 0 6 (by omega) (by omega) (by decide) (by decide) (by decide) (Nat.le_of_ble_eq_true rfl) dX1_copyFrom_111 (upd (upd (upd S 5 (S 8)) 6 (S 9)) 7 (S 10), va_up (va_up (va_up (va_up (va_up (va_up X 36 (va_cpy (X 46) (X 36) 0 0 10)) 37 (va_cpy (X 47) (X 37) 0 0 10)) 38 (va_cpy (X 48) (X 38) 0 0 6)) 39 (va_cpy (X 49) (X 39) 0 0 6)) 40 (va_cpy (X 50) (X 40) 0 0 6)) 41 (va_cpy (X 51) (X 41) 0 0 6), P) rfl ?_
  refine j_aload_n C 1 dX1_copyFrom_114 rfl ?_
  refine j_get C (v := .ref (q 52)) 4 9 rfl rfl inlC1 (by decide) kf1_40 rfl dX1_copyFrom_115 ?_
  refine j_iconst C (v := (nI 0)) dX1_copyFrom_118 (by decide) ?_
  refine j_aload_n C 0 dX1_copyFrom_119 rfl ?_
  refine j_get C (v := .ref (q 42)) 3 9 rfl rfl inlC1 (by decide) kf1_40 rfl dX1_copyFrom_120 ?_
  refine j_iconst C (v := (nI 0)) dX1_copyFrom_123 (by decide) ?_
  refine j_bipush C (v := (nI 6)) dX1_copyFrom_124 (by decide) ?_
  refine j_copy (rest := []) C 52 42 0 ac1_76 rfl rfl rfl 0 0 6 (by omega) (by omega) (by decide) (by decide) (by decide) (Nat.le_of_ble_eq_true rfl) dX1_copyFrom_126 (upd (upd (upd S 5 (S 8)) 6 (S 9)) 7 (S 10), va_up (va_up (va_up (va_up (va_up (va_up (va_up X 36 (va_cpy (X 46) (X 36) 0 0 10)) 37 (va_cpy (X 47) (X 37) 0 0 10)) 38 (va_cpy (X 48) (X 38) 0 0 6)) 39 (va_cpy (X 49) (X 39) 0 0 6)) 40 (va_cpy (X 50) (X 40) 0 0 6)) 41 (va_cpy (X 51) (X 41) 0 0 6)) 42 (va_cpy (X 52) (X 42) 0 0 6), P) rfl ?_
  refine j_aload_n C 1 dX1_copyFrom_129 rfl ?_
  refine j_get C (v := .ref (q 53)) 4 10 rfl rfl inlC1 (by decide) kf1_43 rfl dX1_copyFrom_130 ?_
  refine j_iconst C (v := (nI 0)) dX1_copyFrom_133 (by decide) ?_
  refine j_aload_n C 0 dX1_copyFrom_134 rfl ?_
  refine j_get C (v := .ref (q 43)) 3 10 rfl rfl inlC1 (by decide) kf1_43 rfl dX1_copyFrom_135 ?_
  refine j_iconst C (v := (nI 0)) dX1_copyFrom_138 (by decide) ?_
  refine j_bipush C (v := (nI 6)) dX1_copyFrom_139 (by decide) ?_
  refine j_copy (rest := []) C 53 43 0 ac1_76 rfl rfl rfl 0 0 6 (by omega) (by omega) (by decide) (by decide) (by decide) (Nat.le_of_ble_eq_true rfl) dX1_copyFrom_141 (upd (upd (upd S 5 (S 8)) 6 (S 9)) 7 (S 10), va_up (va_up (va_up (va_up (va_up (va_up (va_up (va_up X 36 (va_cpy (X 46) (X 36) 0 0 10)) 37 (va_cpy (X 47) (X 37) 0 0 10)) 38 (va_cpy (X 48) (X 38) 0 0 6)) 39 (va_cpy (X 49) (X 39) 0 0 6)) 40 (va_cpy (X 50) (X 40) 0 0 6)) 41 (va_cpy (X 51) (X 41) 0 0 6)) 42 (va_cpy (X 52) (X 42) 0 0 6)) 43 (va_cpy (X 53) (X 43) 0 0 6), P) rfl ?_
  refine j_vret C dX1_copyFrom_144 ?_
  refine ⟨_, _, rfl, ⟨?_, ?_, ?_, fun c hc => ?_, fun c hc => ?_, fun j hj p hp => ?_, fun p hp => rfl⟩, fun k hk => ?_, fun k hk => ?_⟩
  · show (upd (upd (upd S 5 (S 8)) 6 (S 9)) 7 (S 10)) 5 = _
    rw [pk_un (by omega), pk_un (by omega), pk_us]; exact hF.cells
  · show (upd (upd (upd S 5 (S 8)) 6 (S 9)) 7 (S 10)) 6 = _
    rw [pk_un (by omega), pk_us]; exact hF.dawn
  · show (upd (upd (upd S 5 (S 8)) 6 (S 9)) 7 (S 10)) 7 = _
    rw [pk_us]; exact hF.people
  · show va_cpy (X 46) (X 36) 0 0 10 c = _
    rw [cpy_lt (by omega)]; exact hF.ears c hc
  · show va_cpy (X 47) (X 37) 0 0 10 c = _
    rw [cpy_lt (by omega)]; exact hF.low c hc
  · rcases (show j = 0 ∨ j = 1 ∨ j = 2 ∨ j = 3 ∨ j = 4 ∨ j = 5 by omega) with rfl | rfl | rfl | rfl | rfl | rfl
    · show va_cpy (X 48) (X 38) 0 0 6 p = _
      rw [cpy_lt (by omega)]; exact hF.per 0 (by omega) p hp
    · show va_cpy (X 49) (X 39) 0 0 6 p = _
      rw [cpy_lt (by omega)]; exact hF.per 1 (by omega) p hp
    · show va_cpy (X 50) (X 40) 0 0 6 p = _
      rw [cpy_lt (by omega)]; exact hF.per 2 (by omega) p hp
    · show va_cpy (X 51) (X 41) 0 0 6 p = _
      rw [cpy_lt (by omega)]; exact hF.per 3 (by omega) p hp
    · show va_cpy (X 52) (X 42) 0 0 6 p = _
      rw [cpy_lt (by omega)]; exact hF.per 4 (by omega) p hp
    · show va_cpy (X 53) (X 43) 0 0 6 p = _
      rw [cpy_lt (by omega)]; exact hF.per 5 (by omega) p hp
  · rw [pk_un (by omega), pk_un (by omega), pk_un (by omega)]
  · rw [va_n (by omega), va_n (by omega), va_n (by omega), va_n (by omega), va_n (by omega), va_n (by omega), va_n (by omega), va_n (by omega)]
theorem dX1_reap_0 : decode cX1_reap 0 = .ok (.aload_n 0, 1) := by decide +kernel
theorem dX1_reap_1 : decode cX1_reap 1 = .ok (.iconst 0, 1) := by decide +kernel
theorem dX1_reap_2 : decode cX1_reap 2 = .ok (.iload_n 1, 1) := by decide +kernel
theorem dX1_reap_3 : decode cX1_reap 3 = .ok (.bipush 10, 2) := by decide +kernel
theorem dX1_reap_5 : decode cX1_reap 5 = .ok (.invokestatic 67, 3) := by decide +kernel
theorem dX1_reap_8 : decode cX1_reap 8 = .ok (.invokestatic 73, 3) := by decide +kernel
theorem dX1_reap_11 : decode cX1_reap 11 = .ok (.putfield 9, 3) := by decide +kernel
theorem dX1_reap_14 : decode cX1_reap 14 = .ok (.iconst 0, 1) := by decide +kernel
theorem dX1_reap_15 : decode cX1_reap 15 = .ok (.istore_n 2, 1) := by decide +kernel
theorem dX1_reap_16 : decode cX1_reap 16 = .ok (.iload_n 2, 1) := by decide +kernel
theorem dX1_reap_17 : decode cX1_reap 17 = .ok (.aload_n 0, 1) := by decide +kernel
theorem dX1_reap_18 : decode cX1_reap 18 = .ok (.getfield 9, 3) := by decide +kernel
theorem dX1_reap_21 : decode cX1_reap 21 = .ok (.if_icmp .ge 24, 3) := by decide +kernel
theorem dX1_reap_24 : decode cX1_reap 24 = .ok (.aload_n 0, 1) := by decide +kernel
theorem dX1_reap_25 : decode cX1_reap 25 = .ok (.getfield 15, 3) := by decide +kernel
theorem dX1_reap_28 : decode cX1_reap 28 = .ok (.iload_n 2, 1) := by decide +kernel
theorem dX1_reap_29 : decode cX1_reap 29 = .ok (.bipush 20, 2) := by decide +kernel
theorem dX1_reap_31 : decode cX1_reap 31 = .ok (.iastore, 1) := by decide +kernel
theorem dX1_reap_32 : decode cX1_reap 32 = .ok (.aload_n 0, 1) := by decide +kernel
theorem dX1_reap_33 : decode cX1_reap 33 = .ok (.getfield 19, 3) := by decide +kernel
theorem dX1_reap_36 : decode cX1_reap 36 = .ok (.iload_n 2, 1) := by decide +kernel
theorem dX1_reap_37 : decode cX1_reap 37 = .ok (.iconst 1, 1) := by decide +kernel
theorem dX1_reap_38 : decode cX1_reap 38 = .ok (.iastore, 1) := by decide +kernel
theorem dX1_reap_39 : decode cX1_reap 39 = .ok (.iinc 2 1, 3) := by decide +kernel
theorem dX1_reap_42 : decode cX1_reap 42 = .ok (.goto (-26), 3) := by decide +kernel
theorem dX1_reap_45 : decode cX1_reap 45 = .ok (.return_, 1) := by decide +kernel
set_option maxHeartbeats 2000000 in
set_option maxRecDepth 20000 in
theorem h_reap {l : Launch} {D : va_G} {cI cG cW : ClassId} {q : Nat → Nat} {S : Nat → Int32} {X : Nat → Nat → Int32} {P : Nat → Nat} (n : Nat) (hn : n ≤ 10) : Cv l yX1_reap cX1_reap 3 none 1 D (tyL cI cG cW) (wC cI cG cW q) [.ref (q 3), .int (nI n)] (S, X, P) (fun τ => τ = (upd S 5 (nI n), va_up (va_up X 36 (filF (X 36) (nI 20) n)) 37 (filF (X 37) (nI 1) n), P)) := by
  refine Cv.of (by decide) (Nat.le_of_ble_eq_true rfl) ?_
  intro p_ e_ s_ m_ b_ M_ c_ A_ C
  replace C : Cx _ _ _ _ _ _ _ _ RX1 _ _ _ _ := C
  refine j_L [0, 1] [(0, .ref (q 3)), (1, .int (nI n))] rfl ?_
  refine j_aload_n C 0 dX1_reap_0 rfl ?_
  refine j_iconst C (v := (nI 0)) dX1_reap_1 (by decide) ?_
  refine j_iload_n C 1 dX1_reap_2 rfl ?_
  refine j_bipush C (v := (nI 10)) dX1_reap_3 (by decide) ?_
  refine j_mmin (rest := [.int (nI 0), .ref (q 3)]) C mn1_67 (by decide) (Nat.le_of_ble_eq_true rfl) dX1_reap_5 ?_
  refine j_v (nI (min n 10)) (mmin_nI (by omega) (by omega)) ?_
  refine j_mmax (rest := [.ref (q 3)]) C mx1_73 (by decide) (Nat.le_of_ble_eq_true rfl) dX1_reap_8 ?_
  refine j_v (nI (max 0 (min n 10))) (mmax_nI (by omega) (by omega)) ?_
  refine j_v (nI n) (congrArg nI (by omega)) ?_
  refine j_put C 3 0 rfl rfl inlC1 tyX1 tyX1_ok nmX1 (by decide) kf1_9 rfl (ty := .int) (by decide +kernel) rfl rfl (Nat.le_of_ble_eq_true rfl) dX1_reap_11 (upd S 5 (nI n), X, P) rfl ?_
  refine j_iconst C (v := (nI 0)) dX1_reap_14 (by decide) ?_
  refine j_istore_n C [(2, .int (nI 0)), (0, .ref (q 3)), (1, .int (nI n))] dX1_reap_15 (by decide) rfl ?_
  refine j_wC (κ' := (upd S 5 (nI n), va_up (va_up X 36 (X 36)) 37 (X 37), P)) (by rw [va_self, va_self]) ?_
  refine j_L [1, 2, 0] [(0, .ref (q 3)), (1, .int (nI n)), (2, .int (nI 0))] rfl ?_
  refine j_loop (X := Nat) (fun (i : Nat) => i ≤ n) (fun (i : Nat) => n - i) (fun (i : Nat) => (upd S 5 (nI n), va_up (va_up X 36 (filF (X 36) (nI 20) i)) 37 (filF (X 37) (nI 1) i), P)) (fun (i : Nat) => [(0, .ref (q 3)), (1, .int (nI n)), (2, .int (nI i))]) (0) (Nat.zero_le _) (by rw [← filF_0, ← filF_0]) rfl ?_
  rintro i hi ih
  try dsimp only at ih ⊢
  refine j_iload_n C 2 dX1_reap_16 rfl ?_
  refine j_aload_n C 0 dX1_reap_17 rfl ?_
  refine j_get C (v := .int (nI n)) 3 0 rfl rfl inlC1 (by decide) kf1_9 rfl dX1_reap_18 ?_
  refine j_icmp_ge C 45 dX1_reap_21 (by decide) (fun c21 => ?_) (fun c21 => ?_)
  · rw [nI_leI (by omega) (by omega)] at c21
    refine j_vret C dX1_reap_45 ?_
    obtain rfl : i = n := by omega
    exact rfl
  · rw [nI_leI (by omega) (by omega)] at c21
    refine j_aload_n C 0 dX1_reap_24 rfl ?_
    refine j_get C (v := .ref (q 36)) 3 1 rfl rfl inlC1 (by decide) kf1_15 rfl dX1_reap_25 ?_
    refine j_iload_n C 2 dX1_reap_28 rfl ?_
    refine j_bipush C (v := (nI 20)) dX1_reap_29 (by decide) ?_
    refine j_iastN C 36 0 rfl rfl i rfl (by omega) (by decide) dX1_reap_31 (upd S 5 (nI n), va_up (va_up X 36 (upd (filF (X 36) (nI 20) i) i (nI 20))) 37 (filF (X 37) (nI 1) i), P) rfl ?_
    refine j_aload_n C 0 dX1_reap_32 rfl ?_
    refine j_get C (v := .ref (q 37)) 3 2 rfl rfl inlC1 (by decide) kf1_19 rfl dX1_reap_33 ?_
    refine j_iload_n C 2 dX1_reap_36 rfl ?_
    refine j_iconst C (v := (nI 1)) dX1_reap_37 (by decide) ?_
    refine j_iastN C 37 0 rfl rfl i rfl (by omega) (by decide) dX1_reap_38 (upd S 5 (nI n), va_up (va_up X 36 (upd (filF (X 36) (nI 20) i) i (nI 20))) 37 (upd (filF (X 37) (nI 1) i) i (nI 1)), P) rfl ?_
    refine j_iinc C (v := (nI (i + 1))) 2 [(2, .int (nI (i + 1))), (0, .ref (q 3)), (1, .int (nI n))] dX1_reap_39 rfl (nI_1 _) (by decide) rfl ?_
    refine j_goto C 16 dX1_reap_42 (by decide) ?_
    refine j_L [1, 2, 0] [(0, .ref (q 3)), (1, .int (nI n)), (2, .int (nI (i + 1)))] rfl ?_
    rw [filF_s, filF_s]
    exact ih (i + 1) (by omega) (by omega)
theorem dX1_welcome_0 : decode cX1_welcome 0 = .ok (.aload_n 0, 1) := by decide +kernel
theorem dX1_welcome_1 : decode cX1_welcome 1 = .ok (.getfield 25, 3) := by decide +kernel
theorem dX1_welcome_4 : decode cX1_welcome 4 = .ok (.bipush 6, 2) := by decide +kernel
theorem dX1_welcome_6 : decode cX1_welcome 6 = .ok (.if_icmp .lt 5, 3) := by decide +kernel
theorem dX1_welcome_9 : decode cX1_welcome 9 = .ok (.iconst (-1), 1) := by decide +kernel
theorem dX1_welcome_10 : decode cX1_welcome 10 = .ok (.ireturn, 1) := by decide +kernel
theorem dX1_welcome_11 : decode cX1_welcome 11 = .ok (.aload_n 0, 1) := by decide +kernel
theorem dX1_welcome_12 : decode cX1_welcome 12 = .ok (.getfield 25, 3) := by decide +kernel
theorem dX1_welcome_15 : decode cX1_welcome 15 = .ok (.istore 4, 2) := by decide +kernel
theorem dX1_welcome_17 : decode cX1_welcome 17 = .ok (.aload_n 0, 1) := by decide +kernel
theorem dX1_welcome_18 : decode cX1_welcome 18 = .ok (.getfield 28, 3) := by decide +kernel
theorem dX1_welcome_21 : decode cX1_welcome 21 = .ok (.iload 4, 2) := by decide +kernel
theorem dX1_welcome_23 : decode cX1_welcome 23 = .ok (.iload_n 1, 1) := by decide +kernel
theorem dX1_welcome_24 : decode cX1_welcome 24 = .ok (.iastore, 1) := by decide +kernel
theorem dX1_welcome_25 : decode cX1_welcome 25 = .ok (.aload_n 0, 1) := by decide +kernel
theorem dX1_welcome_26 : decode cX1_welcome 26 = .ok (.getfield 31, 3) := by decide +kernel
theorem dX1_welcome_29 : decode cX1_welcome 29 = .ok (.iload 4, 2) := by decide +kernel
theorem dX1_welcome_31 : decode cX1_welcome 31 = .ok (.iload_n 2, 1) := by decide +kernel
theorem dX1_welcome_32 : decode cX1_welcome 32 = .ok (.iastore, 1) := by decide +kernel
theorem dX1_welcome_33 : decode cX1_welcome 33 = .ok (.aload_n 0, 1) := by decide +kernel
theorem dX1_welcome_34 : decode cX1_welcome 34 = .ok (.getfield 34, 3) := by decide +kernel
theorem dX1_welcome_37 : decode cX1_welcome 37 = .ok (.iload 4, 2) := by decide +kernel
theorem dX1_welcome_39 : decode cX1_welcome 39 = .ok (.iload_n 3, 1) := by decide +kernel
theorem dX1_welcome_40 : decode cX1_welcome 40 = .ok (.iastore, 1) := by decide +kernel
theorem dX1_welcome_41 : decode cX1_welcome 41 = .ok (.aload_n 0, 1) := by decide +kernel
theorem dX1_welcome_42 : decode cX1_welcome 42 = .ok (.getfield 37, 3) := by decide +kernel
theorem dX1_welcome_45 : decode cX1_welcome 45 = .ok (.iload 4, 2) := by decide +kernel
theorem dX1_welcome_47 : decode cX1_welcome 47 = .ok (.iconst 0, 1) := by decide +kernel
theorem dX1_welcome_48 : decode cX1_welcome 48 = .ok (.iastore, 1) := by decide +kernel
theorem dX1_welcome_49 : decode cX1_welcome 49 = .ok (.aload_n 0, 1) := by decide +kernel
theorem dX1_welcome_50 : decode cX1_welcome 50 = .ok (.getfield 40, 3) := by decide +kernel
theorem dX1_welcome_53 : decode cX1_welcome 53 = .ok (.iload 4, 2) := by decide +kernel
theorem dX1_welcome_55 : decode cX1_welcome 55 = .ok (.iconst 0, 1) := by decide +kernel
theorem dX1_welcome_56 : decode cX1_welcome 56 = .ok (.iastore, 1) := by decide +kernel
theorem dX1_welcome_57 : decode cX1_welcome 57 = .ok (.aload_n 0, 1) := by decide +kernel
theorem dX1_welcome_58 : decode cX1_welcome 58 = .ok (.getfield 43, 3) := by decide +kernel
theorem dX1_welcome_61 : decode cX1_welcome 61 = .ok (.iload 4, 2) := by decide +kernel
theorem dX1_welcome_63 : decode cX1_welcome 63 = .ok (.iconst 0, 1) := by decide +kernel
theorem dX1_welcome_64 : decode cX1_welcome 64 = .ok (.iastore, 1) := by decide +kernel
theorem dX1_welcome_65 : decode cX1_welcome 65 = .ok (.aload_n 0, 1) := by decide +kernel
theorem dX1_welcome_66 : decode cX1_welcome 66 = .ok (.dup, 1) := by decide +kernel
theorem dX1_welcome_67 : decode cX1_welcome 67 = .ok (.getfield 25, 3) := by decide +kernel
theorem dX1_welcome_70 : decode cX1_welcome 70 = .ok (.iconst 1, 1) := by decide +kernel
theorem dX1_welcome_71 : decode cX1_welcome 71 = .ok (.iadd, 1) := by decide +kernel
theorem dX1_welcome_72 : decode cX1_welcome 72 = .ok (.putfield 25, 3) := by decide +kernel
theorem dX1_welcome_75 : decode cX1_welcome 75 = .ok (.iload 4, 2) := by decide +kernel
theorem dX1_welcome_77 : decode cX1_welcome 77 = .ok (.ireturn, 1) := by decide +kernel
set_option maxHeartbeats 2000000 in
set_option maxRecDepth 20000 in
theorem h_welcome {l : Launch} {D : va_G} {cI cG cW : ClassId} {q : Nat → Nat} {S : Nat → Int32} {X : Nat → Nat → Int32} {P : Nat → Nat} {k m c : Int32} {np : Nat} (h : S 7 = nI np) (hn : np < 6) : Ci l yX1_welcome cX1_welcome 5 (some .int) 1 D (tyL cI cG cW) (wC cI cG cW q) [.ref (q 3), .int k, .int m, .int c] (S, X, P) (fun r τ => r = nI np ∧ τ = (upd S 7 (nI (np + 1)), va_up (va_up (va_up (va_up (va_up (va_up (X) 38 (upd (X 38) np k)) 39 (upd (X 39) np m)) 40 (upd (X 40) np c)) 41 (upd (X 41) np (nI 0))) 42 (upd (X 42) np (nI 0))) 43 (upd (X 43) np (nI 0)), P)) := by
  refine Ci.of (by decide) (Nat.le_of_ble_eq_true rfl) ?_
  intro p_ e_ s_ m_ b_ M_ c_ A_ C
  replace C : Cx _ _ _ _ _ _ _ _ RX1 _ _ _ _ := C
  refine j_L [0, 1, 2, 3] [(0, .ref (q 3)), (1, .int k), (2, .int m), (3, .int c)] rfl ?_
  refine j_aload_n C 0 dX1_welcome_0 rfl ?_
  refine j_get C (v := .int (S 7)) 3 4 rfl rfl inlC1 (by decide) kf1_25 rfl dX1_welcome_1 ?_
  refine j_v (nI np) h ?_
  refine j_bipush C (v := (nI 6)) dX1_welcome_4 (by decide) ?_
  refine j_icmp_lt C 11 dX1_welcome_6 (by decide) (fun c6 => ?_) (fun c6 => ?_)
  · rw [nI_ltI (by omega) (by omega)] at c6
    refine j_aload_n C 0 dX1_welcome_11 rfl ?_
    refine j_get C (v := .int (S 7)) 3 4 rfl rfl inlC1 (by decide) kf1_25 rfl dX1_welcome_12 ?_
    refine j_v (nI np) h ?_
    refine j_istore C [(4, .int (nI np)), (0, .ref (q 3)), (1, .int k), (2, .int m), (3, .int c)] dX1_welcome_15 (by decide) rfl ?_
    refine j_aload_n C 1 dX1_welcome_17 rfl ?_
    refine j_get C (v := .ref (q 38)) 3 5 rfl rfl inlC1 (by decide) kf1_28 rfl dX1_welcome_18 ?_
    refine j_iload C 0 dX1_welcome_21 rfl ?_
    refine j_iload_n C 2 dX1_welcome_23 rfl ?_
    refine j_iastN C 38 0 rfl rfl np rfl (by omega) (by decide) dX1_welcome_24 (S, va_up X 38 (upd (X 38) np k), P) rfl ?_
    refine j_aload_n C 1 dX1_welcome_25 rfl ?_
    refine j_get C (v := .ref (q 39)) 3 6 rfl rfl inlC1 (by decide) kf1_31 rfl dX1_welcome_26 ?_
    refine j_iload C 0 dX1_welcome_29 rfl ?_
    refine j_iload_n C 3 dX1_welcome_31 rfl ?_
    refine j_iastN C 39 0 rfl rfl np rfl (by omega) (by decide) dX1_welcome_32 (S, va_up (va_up X 38 (upd (X 38) np k)) 39 (upd (X 39) np m), P) rfl ?_
    refine j_aload_n C 1 dX1_welcome_33 rfl ?_
    refine j_get C (v := .ref (q 40)) 3 7 rfl rfl inlC1 (by decide) kf1_34 rfl dX1_welcome_34 ?_
    refine j_iload C 0 dX1_welcome_37 rfl ?_
    refine j_iload_n C 4 dX1_welcome_39 rfl ?_
    refine j_iastN C 40 0 rfl rfl np rfl (by omega) (by decide) dX1_welcome_40 (S, va_up (va_up (va_up X 38 (upd (X 38) np k)) 39 (upd (X 39) np m)) 40 (upd (X 40) np c), P) rfl ?_
    refine j_aload_n C 1 dX1_welcome_41 rfl ?_
    refine j_get C (v := .ref (q 41)) 3 8 rfl rfl inlC1 (by decide) kf1_37 rfl dX1_welcome_42 ?_
    refine j_iload C 0 dX1_welcome_45 rfl ?_
    refine j_iconst C (v := (nI 0)) dX1_welcome_47 (by decide) ?_
    refine j_iastN C 41 0 rfl rfl np rfl (by omega) (by decide) dX1_welcome_48 (S, va_up (va_up (va_up (va_up X 38 (upd (X 38) np k)) 39 (upd (X 39) np m)) 40 (upd (X 40) np c)) 41 (upd (X 41) np (nI 0)), P) rfl ?_
    refine j_aload_n C 1 dX1_welcome_49 rfl ?_
    refine j_get C (v := .ref (q 42)) 3 9 rfl rfl inlC1 (by decide) kf1_40 rfl dX1_welcome_50 ?_
    refine j_iload C 0 dX1_welcome_53 rfl ?_
    refine j_iconst C (v := (nI 0)) dX1_welcome_55 (by decide) ?_
    refine j_iastN C 42 0 rfl rfl np rfl (by omega) (by decide) dX1_welcome_56 (S, va_up (va_up (va_up (va_up (va_up X 38 (upd (X 38) np k)) 39 (upd (X 39) np m)) 40 (upd (X 40) np c)) 41 (upd (X 41) np (nI 0))) 42 (upd (X 42) np (nI 0)), P) rfl ?_
    refine j_aload_n C 1 dX1_welcome_57 rfl ?_
    refine j_get C (v := .ref (q 43)) 3 10 rfl rfl inlC1 (by decide) kf1_43 rfl dX1_welcome_58 ?_
    refine j_iload C 0 dX1_welcome_61 rfl ?_
    refine j_iconst C (v := (nI 0)) dX1_welcome_63 (by decide) ?_
    refine j_iastN C 43 0 rfl rfl np rfl (by omega) (by decide) dX1_welcome_64 (S, va_up (va_up (va_up (va_up (va_up (va_up X 38 (upd (X 38) np k)) 39 (upd (X 39) np m)) 40 (upd (X 40) np c)) 41 (upd (X 41) np (nI 0))) 42 (upd (X 42) np (nI 0))) 43 (upd (X 43) np (nI 0)), P) rfl ?_
    refine j_aload_n C 1 dX1_welcome_65 rfl ?_
    refine j_dup C dX1_welcome_66 rfl ?_
    refine j_get C (v := .int (S 7)) 3 4 rfl rfl inlC1 (by decide) kf1_25 rfl dX1_welcome_67 ?_
    refine j_v (nI np) h ?_
    refine j_iconst C (v := (nI 1)) dX1_welcome_70 (by decide) ?_
    refine j_iaddN C dX1_welcome_71 ?_
    refine j_put C 3 4 rfl rfl inlC1 tyX1 tyX1_ok nmX1 (by decide) kf1_25 rfl (ty := .int) (by decide +kernel) rfl rfl (Nat.le_of_ble_eq_true rfl) dX1_welcome_72 (upd S 7 (nI (np + 1)), va_up (va_up (va_up (va_up (va_up (va_up X 38 (upd (X 38) np k)) 39 (upd (X 39) np m)) 40 (upd (X 40) np c)) 41 (upd (X 41) np (nI 0))) 42 (upd (X 42) np (nI 0))) 43 (upd (X 43) np (nI 0)), P) rfl ?_
    refine j_iload C 0 dX1_welcome_75 rfl ?_
    refine j_iret C dX1_welcome_77 ?_
    exact ⟨rfl, rfl⟩
  · rw [nI_ltI (by omega) (by omega)] at c6
    exfalso; omega
theorem dX3_addWrong_0 : decode cX3_addWrong 0 = .ok (.aload_n 0, 1) := by decide +kernel
theorem dX3_addWrong_1 : decode cX3_addWrong 1 = .ok (.getfield 9, 3) := by decide +kernel
theorem dX3_addWrong_4 : decode cX3_addWrong 4 = .ok (.bipush 8, 2) := by decide +kernel
theorem dX3_addWrong_6 : decode cX3_addWrong 6 = .ok (.if_icmp .lt 5, 3) := by decide +kernel
theorem dX3_addWrong_9 : decode cX3_addWrong 9 = .ok (.iconst (-1), 1) := by decide +kernel
theorem dX3_addWrong_10 : decode cX3_addWrong 10 = .ok (.ireturn, 1) := by decide +kernel
theorem dX3_addWrong_11 : decode cX3_addWrong 11 = .ok (.aload_n 0, 1) := by decide +kernel
theorem dX3_addWrong_12 : decode cX3_addWrong 12 = .ok (.getfield 9, 3) := by decide +kernel
theorem dX3_addWrong_15 : decode cX3_addWrong 15 = .ok (.istore 4, 2) := by decide +kernel
theorem dX3_addWrong_17 : decode cX3_addWrong 17 = .ok (.aload_n 0, 1) := by decide +kernel
theorem dX3_addWrong_18 : decode cX3_addWrong 18 = .ok (.getfield 15, 3) := by decide +kernel
theorem dX3_addWrong_21 : decode cX3_addWrong 21 = .ok (.iload 4, 2) := by decide +kernel
theorem dX3_addWrong_23 : decode cX3_addWrong 23 = .ok (.iload_n 1, 1) := by decide +kernel
theorem dX3_addWrong_24 : decode cX3_addWrong 24 = .ok (.iastore, 1) := by decide +kernel
theorem dX3_addWrong_25 : decode cX3_addWrong 25 = .ok (.aload_n 0, 1) := by decide +kernel
theorem dX3_addWrong_26 : decode cX3_addWrong 26 = .ok (.getfield 19, 3) := by decide +kernel
theorem dX3_addWrong_29 : decode cX3_addWrong 29 = .ok (.iload 4, 2) := by decide +kernel
theorem dX3_addWrong_31 : decode cX3_addWrong 31 = .ok (.iload_n 2, 1) := by decide +kernel
theorem dX3_addWrong_32 : decode cX3_addWrong 32 = .ok (.iastore, 1) := by decide +kernel
theorem dX3_addWrong_33 : decode cX3_addWrong 33 = .ok (.aload_n 0, 1) := by decide +kernel
theorem dX3_addWrong_34 : decode cX3_addWrong 34 = .ok (.getfield 22, 3) := by decide +kernel
theorem dX3_addWrong_37 : decode cX3_addWrong 37 = .ok (.iload 4, 2) := by decide +kernel
theorem dX3_addWrong_39 : decode cX3_addWrong 39 = .ok (.iload_n 3, 1) := by decide +kernel
theorem dX3_addWrong_40 : decode cX3_addWrong 40 = .ok (.iastore, 1) := by decide +kernel
theorem dX3_addWrong_41 : decode cX3_addWrong 41 = .ok (.aload_n 0, 1) := by decide +kernel
theorem dX3_addWrong_42 : decode cX3_addWrong 42 = .ok (.dup, 1) := by decide +kernel
theorem dX3_addWrong_43 : decode cX3_addWrong 43 = .ok (.getfield 9, 3) := by decide +kernel
theorem dX3_addWrong_46 : decode cX3_addWrong 46 = .ok (.iconst 1, 1) := by decide +kernel
theorem dX3_addWrong_47 : decode cX3_addWrong 47 = .ok (.iadd, 1) := by decide +kernel
theorem dX3_addWrong_48 : decode cX3_addWrong 48 = .ok (.putfield 9, 3) := by decide +kernel
theorem dX3_addWrong_51 : decode cX3_addWrong 51 = .ok (.iload 4, 2) := by decide +kernel
theorem dX3_addWrong_53 : decode cX3_addWrong 53 = .ok (.ireturn, 1) := by decide +kernel
set_option maxHeartbeats 2000000 in
set_option maxRecDepth 20000 in
theorem h_addWrong {l : Launch} {D : va_G} {cI cG cW : ClassId} {q : Nat → Nat} {S : Nat → Int32} {X : Nat → Nat → Int32} {P : Nat → Nat} {b t w : Int32} {nw : Nat} (h : S 1 = nI nw) (hn : nw < 8) : Ci l yX3_addWrong cX3_addWrong 5 (some .int) 1 D (tyL cI cG cW) (wC cI cG cW q) [.ref (q 1), .int b, .int t, .int w] (S, X, P) (fun r τ => r = nI nw ∧ τ = (upd S 1 (nI (nw + 1)), va_up (va_up (va_up (X) 66 (upd (X 66) nw b)) 67 (upd (X 67) nw t)) 68 (upd (X 68) nw w), P)) := by
  refine Ci.of (by decide) (Nat.le_of_ble_eq_true rfl) ?_
  intro p_ e_ s_ m_ b_ M_ c_ A_ C
  replace C : Cx _ _ _ _ _ _ _ _ RX3 _ _ _ _ := C
  refine j_L [0, 1, 2, 3] [(0, .ref (q 1)), (1, .int b), (2, .int t), (3, .int w)] rfl ?_
  refine j_aload_n C 0 dX3_addWrong_0 rfl ?_
  refine j_get C (v := .int (S 1)) 1 1 rfl rfl inlC3 (by decide) kf3_9 rfl dX3_addWrong_1 ?_
  refine j_v (nI nw) h ?_
  refine j_bipush C (v := (nI 8)) dX3_addWrong_4 (by decide) ?_
  refine j_icmp_lt C 11 dX3_addWrong_6 (by decide) (fun c6 => ?_) (fun c6 => ?_)
  · rw [nI_ltI (by omega) (by omega)] at c6
    refine j_aload_n C 0 dX3_addWrong_11 rfl ?_
    refine j_get C (v := .int (S 1)) 1 1 rfl rfl inlC3 (by decide) kf3_9 rfl dX3_addWrong_12 ?_
    refine j_v (nI nw) h ?_
    refine j_istore C [(4, .int (nI nw)), (0, .ref (q 1)), (1, .int b), (2, .int t), (3, .int w)] dX3_addWrong_15 (by decide) rfl ?_
    refine j_aload_n C 1 dX3_addWrong_17 rfl ?_
    refine j_get C (v := .ref (q 66)) 1 2 rfl rfl inlC3 (by decide) kf3_15 rfl dX3_addWrong_18 ?_
    refine j_iload C 0 dX3_addWrong_21 rfl ?_
    refine j_iload_n C 2 dX3_addWrong_23 rfl ?_
    refine j_iastN C 66 0 rfl rfl nw rfl (by omega) (by decide) dX3_addWrong_24 (S, va_up X 66 (upd (X 66) nw b), P) rfl ?_
    refine j_aload_n C 1 dX3_addWrong_25 rfl ?_
    refine j_get C (v := .ref (q 67)) 1 3 rfl rfl inlC3 (by decide) kf3_19 rfl dX3_addWrong_26 ?_
    refine j_iload C 0 dX3_addWrong_29 rfl ?_
    refine j_iload_n C 3 dX3_addWrong_31 rfl ?_
    refine j_iastN C 67 0 rfl rfl nw rfl (by omega) (by decide) dX3_addWrong_32 (S, va_up (va_up X 66 (upd (X 66) nw b)) 67 (upd (X 67) nw t), P) rfl ?_
    refine j_aload_n C 1 dX3_addWrong_33 rfl ?_
    refine j_get C (v := .ref (q 68)) 1 4 rfl rfl inlC3 (by decide) kf3_22 rfl dX3_addWrong_34 ?_
    refine j_iload C 0 dX3_addWrong_37 rfl ?_
    refine j_iload_n C 4 dX3_addWrong_39 rfl ?_
    refine j_iastN C 68 0 rfl rfl nw rfl (by omega) (by decide) dX3_addWrong_40 (S, va_up (va_up (va_up X 66 (upd (X 66) nw b)) 67 (upd (X 67) nw t)) 68 (upd (X 68) nw w), P) rfl ?_
    refine j_aload_n C 1 dX3_addWrong_41 rfl ?_
    refine j_dup C dX3_addWrong_42 rfl ?_
    refine j_get C (v := .int (S 1)) 1 1 rfl rfl inlC3 (by decide) kf3_9 rfl dX3_addWrong_43 ?_
    refine j_v (nI nw) h ?_
    refine j_iconst C (v := (nI 1)) dX3_addWrong_46 (by decide) ?_
    refine j_iaddN C dX3_addWrong_47 ?_
    refine j_put C 1 1 rfl rfl inlC3 tyX3 tyX3_ok nmX3 (by decide) kf3_9 rfl (ty := .int) (by decide +kernel) rfl rfl (Nat.le_of_ble_eq_true rfl) dX3_addWrong_48 (upd S 1 (nI (nw + 1)), va_up (va_up (va_up X 66 (upd (X 66) nw b)) 67 (upd (X 67) nw t)) 68 (upd (X 68) nw w), P) rfl ?_
    refine j_iload C 0 dX3_addWrong_51 rfl ?_
    refine j_iret C dX3_addWrong_53 ?_
    exact ⟨rfl, rfl⟩
  · rw [nI_ltI (by omega) (by omega)] at c6
    exfalso; omega
theorem dX3_dropWrong_0 : decode cX3_dropWrong 0 = .ok (.iload_n 1, 1) := by decide +kernel
theorem dX3_dropWrong_1 : decode cX3_dropWrong 1 = .ok (.iconst 0, 1) := by decide +kernel
theorem dX3_dropWrong_2 : decode cX3_dropWrong 2 = .ok (.invokestatic 71, 3) := by decide +kernel
theorem dX3_dropWrong_5 : decode cX3_dropWrong 5 = .ok (.istore_n 2, 1) := by decide +kernel
theorem dX3_dropWrong_6 : decode cX3_dropWrong 6 = .ok (.iload_n 2, 1) := by decide +kernel
theorem dX3_dropWrong_7 : decode cX3_dropWrong 7 = .ok (.iconst 1, 1) := by decide +kernel
theorem dX3_dropWrong_8 : decode cX3_dropWrong 8 = .ok (.iadd, 1) := by decide +kernel
theorem dX3_dropWrong_9 : decode cX3_dropWrong 9 = .ok (.aload_n 0, 1) := by decide +kernel
theorem dX3_dropWrong_10 : decode cX3_dropWrong 10 = .ok (.getfield 9, 3) := by decide +kernel
theorem dX3_dropWrong_13 : decode cX3_dropWrong 13 = .ok (.if_icmp .ge 51, 3) := by decide +kernel
theorem dX3_dropWrong_16 : decode cX3_dropWrong 16 = .ok (.aload_n 0, 1) := by decide +kernel
theorem dX3_dropWrong_17 : decode cX3_dropWrong 17 = .ok (.getfield 15, 3) := by decide +kernel
theorem dX3_dropWrong_20 : decode cX3_dropWrong 20 = .ok (.iload_n 2, 1) := by decide +kernel
theorem dX3_dropWrong_21 : decode cX3_dropWrong 21 = .ok (.aload_n 0, 1) := by decide +kernel
theorem dX3_dropWrong_22 : decode cX3_dropWrong 22 = .ok (.getfield 15, 3) := by decide +kernel
theorem dX3_dropWrong_25 : decode cX3_dropWrong 25 = .ok (.iload_n 2, 1) := by decide +kernel
theorem dX3_dropWrong_26 : decode cX3_dropWrong 26 = .ok (.iconst 1, 1) := by decide +kernel
theorem dX3_dropWrong_27 : decode cX3_dropWrong 27 = .ok (.iadd, 1) := by decide +kernel
theorem dX3_dropWrong_28 : decode cX3_dropWrong 28 = .ok (.iaload, 1) := by decide +kernel
theorem dX3_dropWrong_29 : decode cX3_dropWrong 29 = .ok (.iastore, 1) := by decide +kernel
theorem dX3_dropWrong_30 : decode cX3_dropWrong 30 = .ok (.aload_n 0, 1) := by decide +kernel
theorem dX3_dropWrong_31 : decode cX3_dropWrong 31 = .ok (.getfield 19, 3) := by decide +kernel
theorem dX3_dropWrong_34 : decode cX3_dropWrong 34 = .ok (.iload_n 2, 1) := by decide +kernel
theorem dX3_dropWrong_35 : decode cX3_dropWrong 35 = .ok (.aload_n 0, 1) := by decide +kernel
theorem dX3_dropWrong_36 : decode cX3_dropWrong 36 = .ok (.getfield 19, 3) := by decide +kernel
theorem dX3_dropWrong_39 : decode cX3_dropWrong 39 = .ok (.iload_n 2, 1) := by decide +kernel
theorem dX3_dropWrong_40 : decode cX3_dropWrong 40 = .ok (.iconst 1, 1) := by decide +kernel
theorem dX3_dropWrong_41 : decode cX3_dropWrong 41 = .ok (.iadd, 1) := by decide +kernel
theorem dX3_dropWrong_42 : decode cX3_dropWrong 42 = .ok (.iaload, 1) := by decide +kernel
theorem dX3_dropWrong_43 : decode cX3_dropWrong 43 = .ok (.iastore, 1) := by decide +kernel
theorem dX3_dropWrong_44 : decode cX3_dropWrong 44 = .ok (.aload_n 0, 1) := by decide +kernel
theorem dX3_dropWrong_45 : decode cX3_dropWrong 45 = .ok (.getfield 22, 3) := by decide +kernel
theorem dX3_dropWrong_48 : decode cX3_dropWrong 48 = .ok (.iload_n 2, 1) := by decide +kernel
theorem dX3_dropWrong_49 : decode cX3_dropWrong 49 = .ok (.aload_n 0, 1) := by decide +kernel
theorem dX3_dropWrong_50 : decode cX3_dropWrong 50 = .ok (.getfield 22, 3) := by decide +kernel
theorem dX3_dropWrong_53 : decode cX3_dropWrong 53 = .ok (.iload_n 2, 1) := by decide +kernel
theorem dX3_dropWrong_54 : decode cX3_dropWrong 54 = .ok (.iconst 1, 1) := by decide +kernel
theorem dX3_dropWrong_55 : decode cX3_dropWrong 55 = .ok (.iadd, 1) := by decide +kernel
theorem dX3_dropWrong_56 : decode cX3_dropWrong 56 = .ok (.iaload, 1) := by decide +kernel
theorem dX3_dropWrong_57 : decode cX3_dropWrong 57 = .ok (.iastore, 1) := by decide +kernel
theorem dX3_dropWrong_58 : decode cX3_dropWrong 58 = .ok (.iinc 2 1, 3) := by decide +kernel
theorem dX3_dropWrong_61 : decode cX3_dropWrong 61 = .ok (.goto (-55), 3) := by decide +kernel
theorem dX3_dropWrong_64 : decode cX3_dropWrong 64 = .ok (.aload_n 0, 1) := by decide +kernel
theorem dX3_dropWrong_65 : decode cX3_dropWrong 65 = .ok (.dup, 1) := by decide +kernel
theorem dX3_dropWrong_66 : decode cX3_dropWrong 66 = .ok (.getfield 9, 3) := by decide +kernel
theorem dX3_dropWrong_69 : decode cX3_dropWrong 69 = .ok (.iconst 1, 1) := by decide +kernel
theorem dX3_dropWrong_70 : decode cX3_dropWrong 70 = .ok (.isub, 1) := by decide +kernel
theorem dX3_dropWrong_71 : decode cX3_dropWrong 71 = .ok (.putfield 9, 3) := by decide +kernel
theorem dX3_dropWrong_74 : decode cX3_dropWrong 74 = .ok (.return_, 1) := by decide +kernel
set_option maxHeartbeats 2000000 in
set_option maxRecDepth 20000 in
theorem h_dropWrong {l : Launch} {D : va_G} {cI cG cW : ClassId} {q : Nat → Nat} {S : Nat → Int32} {X : Nat → Nat → Int32} {P : Nat → Nat} (w : Nat) {nw : Nat} (h : S 1 = nI nw) (hw : w < nw) (hn : nw ≤ 8) : Cv l yX3_dropWrong cX3_dropWrong 3 none 1 D (tyL cI cG cW) (wC cI cG cW q) [.ref (q 1), .int (nI w)] (S, X, P) (fun τ => τ = (upd S 1 (nI (nw - 1)), va_up (va_up (va_up X 66 (shF (X 66) w (nw - 1))) 67 (shF (X 67) w (nw - 1))) 68 (shF (X 68) w (nw - 1)), P)) := by
  refine Cv.of (by decide) (Nat.le_of_ble_eq_true rfl) ?_
  intro p_ e_ s_ m_ b_ M_ c_ A_ C
  replace C : Cx _ _ _ _ _ _ _ _ RX3 _ _ _ _ := C
  refine j_L [0, 1] [(0, .ref (q 1)), (1, .int (nI w))] rfl ?_
  refine j_iload_n C 1 dX3_dropWrong_0 rfl ?_
  refine j_iconst C (v := (nI 0)) dX3_dropWrong_1 (by decide) ?_
  refine j_mmax (rest := []) C mx3_71 (by decide) (Nat.le_of_ble_eq_true rfl) dX3_dropWrong_2 ?_
  refine j_v (nI (max w 0)) (mmax_nI (by omega) (by omega)) ?_
  refine j_v (nI w) (congrArg nI (by omega)) ?_
  refine j_istore_n C [(2, .int (nI w)), (0, .ref (q 1)), (1, .int (nI w))] dX3_dropWrong_5 (by decide) rfl ?_
  refine j_wC (κ' := (S, va_up (va_up (va_up X 66 (X 66)) 67 (X 67)) 68 (X 68), P)) (by rw [va_self, va_self, va_self]) ?_
  refine j_L [1, 2, 0] [(0, .ref (q 1)), (1, .int (nI w)), (2, .int (nI w))] rfl ?_
  refine j_loop (X := Nat) (fun (i : Nat) => w ≤ i ∧ i + 1 ≤ nw) (fun (i : Nat) => nw - i) (fun (i : Nat) => (S, va_up (va_up (va_up X 66 (shF (X 66) w i)) 67 (shF (X 67) w i)) 68 (shF (X 68) w i), P)) (fun (i : Nat) => [(0, .ref (q 1)), (1, .int (nI w)), (2, .int (nI i))]) (w) (⟨Nat.le_refl _, by omega⟩) (by rw [← shF_0, ← shF_0, ← shF_0]) rfl ?_
  rintro i ⟨hwi, hi⟩ ih
  try dsimp only at ih ⊢
  refine j_iload_n C 2 dX3_dropWrong_6 rfl ?_
  refine j_iconst C (v := (nI 1)) dX3_dropWrong_7 (by decide) ?_
  refine j_iaddN C dX3_dropWrong_8 ?_
  refine j_aload_n C 0 dX3_dropWrong_9 rfl ?_
  refine j_get C (v := .int (S 1)) 1 1 rfl rfl inlC3 (by decide) kf3_9 rfl dX3_dropWrong_10 ?_
  refine j_v (nI nw) h ?_
  refine j_icmp_ge C 64 dX3_dropWrong_13 (by decide) (fun c13 => ?_) (fun c13 => ?_)
  · rw [nI_leI (by omega) (by omega)] at c13
    refine j_aload_n C 0 dX3_dropWrong_64 rfl ?_
    refine j_dup C dX3_dropWrong_65 rfl ?_
    refine j_get C (v := .int (S 1)) 1 1 rfl rfl inlC3 (by decide) kf3_9 rfl dX3_dropWrong_66 ?_
    refine j_v (nI nw) h ?_
    refine j_iconst C (v := (nI 1)) dX3_dropWrong_69 (by decide) ?_
    refine j_isubN C (by omega) dX3_dropWrong_70 ?_
    refine j_put C 1 1 rfl rfl inlC3 tyX3 tyX3_ok nmX3 (by decide) kf3_9 rfl (ty := .int) (by decide +kernel) rfl rfl (Nat.le_of_ble_eq_true rfl) dX3_dropWrong_71 (upd S 1 (nI (nw - 1)), va_up (va_up (va_up X 66 (shF (X 66) w i)) 67 (shF (X 67) w i)) 68 (shF (X 68) w i), P) rfl ?_
    refine j_vret C dX3_dropWrong_74 ?_
    obtain rfl : i = nw - 1 := by omega
    exact rfl
  · rw [nI_leI (by omega) (by omega)] at c13
    refine j_aload_n C 0 dX3_dropWrong_16 rfl ?_
    refine j_get C (v := .ref (q 66)) 1 2 rfl rfl inlC3 (by decide) kf3_15 rfl dX3_dropWrong_17 ?_
    refine j_iload_n C 2 dX3_dropWrong_20 rfl ?_
    refine j_aload_n C 0 dX3_dropWrong_21 rfl ?_
    refine j_get C (v := .ref (q 66)) 1 2 rfl rfl inlC3 (by decide) kf3_15 rfl dX3_dropWrong_22 ?_
    refine j_iload_n C 2 dX3_dropWrong_25 rfl ?_
    refine j_iconst C (v := (nI 1)) dX3_dropWrong_26 (by decide) ?_
    refine j_iaddN C dX3_dropWrong_27 ?_
    refine j_ialdN C 66 0 rfl rfl (i + 1) rfl (by omega) (by decide) dX3_dropWrong_28 ?_
    refine j_v (X 66 (i + 1)) (shF_h _ _ _ _ (by omega)) ?_
    refine j_iastN C 66 0 rfl rfl i rfl (by omega) (by decide) dX3_dropWrong_29 (S, va_up (va_up (va_up X 66 (upd (shF (X 66) w i) i (X 66 (i + 1)))) 67 (shF (X 67) w i)) 68 (shF (X 68) w i), P) rfl ?_
    refine j_aload_n C 0 dX3_dropWrong_30 rfl ?_
    refine j_get C (v := .ref (q 67)) 1 3 rfl rfl inlC3 (by decide) kf3_19 rfl dX3_dropWrong_31 ?_
    refine j_iload_n C 2 dX3_dropWrong_34 rfl ?_
    refine j_aload_n C 0 dX3_dropWrong_35 rfl ?_
    refine j_get C (v := .ref (q 67)) 1 3 rfl rfl inlC3 (by decide) kf3_19 rfl dX3_dropWrong_36 ?_
    refine j_iload_n C 2 dX3_dropWrong_39 rfl ?_
    refine j_iconst C (v := (nI 1)) dX3_dropWrong_40 (by decide) ?_
    refine j_iaddN C dX3_dropWrong_41 ?_
    refine j_ialdN C 67 0 rfl rfl (i + 1) rfl (by omega) (by decide) dX3_dropWrong_42 ?_
    refine j_v (X 67 (i + 1)) (shF_h _ _ _ _ (by omega)) ?_
    refine j_iastN C 67 0 rfl rfl i rfl (by omega) (by decide) dX3_dropWrong_43 (S, va_up (va_up (va_up X 66 (upd (shF (X 66) w i) i (X 66 (i + 1)))) 67 (upd (shF (X 67) w i) i (X 67 (i + 1)))) 68 (shF (X 68) w i), P) rfl ?_
    refine j_aload_n C 0 dX3_dropWrong_44 rfl ?_
    refine j_get C (v := .ref (q 68)) 1 4 rfl rfl inlC3 (by decide) kf3_22 rfl dX3_dropWrong_45 ?_
    refine j_iload_n C 2 dX3_dropWrong_48 rfl ?_
    refine j_aload_n C 0 dX3_dropWrong_49 rfl ?_
    refine j_get C (v := .ref (q 68)) 1 4 rfl rfl inlC3 (by decide) kf3_22 rfl dX3_dropWrong_50 ?_
    refine j_iload_n C 2 dX3_dropWrong_53 rfl ?_
    refine j_iconst C (v := (nI 1)) dX3_dropWrong_54 (by decide) ?_
    refine j_iaddN C dX3_dropWrong_55 ?_
    refine j_ialdN C 68 0 rfl rfl (i + 1) rfl (by omega) (by decide) dX3_dropWrong_56 ?_
    refine j_v (X 68 (i + 1)) (shF_h _ _ _ _ (by omega)) ?_
    refine j_iastN C 68 0 rfl rfl i rfl (by omega) (by decide) dX3_dropWrong_57 (S, va_up (va_up (va_up X 66 (upd (shF (X 66) w i) i (X 66 (i + 1)))) 67 (upd (shF (X 67) w i) i (X 67 (i + 1)))) 68 (upd (shF (X 68) w i) i (X 68 (i + 1))), P) rfl ?_
    refine j_iinc C (v := (nI (i + 1))) 2 [(2, .int (nI (i + 1))), (0, .ref (q 1)), (1, .int (nI w))] dX3_dropWrong_58 rfl (nI_1 _) (by decide) rfl ?_
    refine j_goto C 6 dX3_dropWrong_61 (by decide) ?_
    refine j_L [1, 2, 0] [(0, .ref (q 1)), (1, .int (nI w)), (2, .int (nI (i + 1)))] rfl ?_
    rw [shF_s _ _ _ hwi, shF_s _ _ _ hwi, shF_s _ _ _ hwi]
    exact ih (i + 1) ⟨by omega, by omega⟩ (by omega)
theorem dX3_doneBy_0 : decode cX3_doneBy 0 = .ok (.iconst 0, 1) := by decide +kernel
theorem dX3_doneBy_1 : decode cX3_doneBy 1 = .ok (.istore_n 2, 1) := by decide +kernel
theorem dX3_doneBy_2 : decode cX3_doneBy 2 = .ok (.iconst 0, 1) := by decide +kernel
theorem dX3_doneBy_3 : decode cX3_doneBy 3 = .ok (.istore_n 3, 1) := by decide +kernel
theorem dX3_doneBy_4 : decode cX3_doneBy 4 = .ok (.iload_n 3, 1) := by decide +kernel
theorem dX3_doneBy_5 : decode cX3_doneBy 5 = .ok (.aload_n 0, 1) := by decide +kernel
theorem dX3_doneBy_6 : decode cX3_doneBy 6 = .ok (.getfield 9, 3) := by decide +kernel
theorem dX3_doneBy_9 : decode cX3_doneBy 9 = .ok (.if_icmp .ge 25, 3) := by decide +kernel
theorem dX3_doneBy_12 : decode cX3_doneBy 12 = .ok (.aload_n 0, 1) := by decide +kernel
theorem dX3_doneBy_13 : decode cX3_doneBy 13 = .ok (.getfield 15, 3) := by decide +kernel
theorem dX3_doneBy_16 : decode cX3_doneBy 16 = .ok (.iload_n 3, 1) := by decide +kernel
theorem dX3_doneBy_17 : decode cX3_doneBy 17 = .ok (.iaload, 1) := by decide +kernel
theorem dX3_doneBy_18 : decode cX3_doneBy 18 = .ok (.iload_n 1, 1) := by decide +kernel
theorem dX3_doneBy_19 : decode cX3_doneBy 19 = .ok (.if_icmp .ne 9, 3) := by decide +kernel
theorem dX3_doneBy_22 : decode cX3_doneBy 22 = .ok (.iload_n 2, 1) := by decide +kernel
theorem dX3_doneBy_23 : decode cX3_doneBy 23 = .ok (.iconst 1, 1) := by decide +kernel
theorem dX3_doneBy_24 : decode cX3_doneBy 24 = .ok (.iload_n 3, 1) := by decide +kernel
theorem dX3_doneBy_25 : decode cX3_doneBy 25 = .ok (.ishl, 1) := by decide +kernel
theorem dX3_doneBy_26 : decode cX3_doneBy 26 = .ok (.ior, 1) := by decide +kernel
theorem dX3_doneBy_27 : decode cX3_doneBy 27 = .ok (.istore_n 2, 1) := by decide +kernel
theorem dX3_doneBy_28 : decode cX3_doneBy 28 = .ok (.iinc 3 1, 3) := by decide +kernel
theorem dX3_doneBy_31 : decode cX3_doneBy 31 = .ok (.goto (-27), 3) := by decide +kernel
theorem dX3_doneBy_34 : decode cX3_doneBy 34 = .ok (.iload_n 2, 1) := by decide +kernel
theorem dX3_doneBy_35 : decode cX3_doneBy 35 = .ok (.ireturn, 1) := by decide +kernel
set_option maxHeartbeats 2000000 in
set_option maxRecDepth 20000 in
theorem h_doneBy {l : Launch} {D : va_G} {cI cG cW : ClassId} {q : Nat → Nat} {S : Nat → Int32} {X : Nat → Nat → Int32} {P : Nat → Nat} {c : Int32} {row : Nat → Int32} {nw nt nq : Nat} (hK : CK S X 0 row nw nt nq) (e8 : row 8 = nI nw) (hw8 : nw ≤ 8) : Ci l yX3_doneBy cX3_doneBy 4 (some .int) 0 D (tyL cI cG cW) (wC cI cG cW q) [.ref (q 1), .int c] (S, X, P) (fun r τ => r = dbF row c nw ∧ τ = (S, X, P)) := by
  refine Ci.of (by decide) (Nat.le_of_ble_eq_true rfl) ?_
  intro p_ e_ s_ m_ b_ M_ c_ A_ C
  replace C : Cx _ _ _ _ _ _ _ _ RX3 _ _ _ _ := C
  refine j_L [0, 1] [(0, .ref (q 1)), (1, .int c)] rfl ?_
  refine j_iconst C (v := (nI 0)) dX3_doneBy_0 (by decide) ?_
  refine j_istore_n C [(2, .int (nI 0)), (0, .ref (q 1)), (1, .int c)] dX3_doneBy_1 (by decide) rfl ?_
  refine j_iconst C (v := (nI 0)) dX3_doneBy_2 (by decide) ?_
  refine j_istore_n C [(3, .int (nI 0)), (2, .int (nI 0)), (0, .ref (q 1)), (1, .int c)] dX3_doneBy_3 (by decide) rfl ?_
  refine j_L [2, 3, 1, 0] [(0, .ref (q 1)), (1, .int c), (2, .int (nI 0)), (3, .int (nI 0))] rfl ?_
  refine j_loop (X := Nat × Int32) (fun (z : Nat × Int32) => match z with | (i, s) => i ≤ nw ∧ s = dbF row c i) (fun (z : Nat × Int32) => match z with | (i, s) => nw - i) (fun (z : Nat × Int32) => match z with | (i, s) => (S, X, P)) (fun (z : Nat × Int32) => match z with | (i, s) => [(0, .ref (q 1)), (1, .int c), (2, .int s), (3, .int (nI i))]) (0, 0) (⟨Nat.zero_le _, rfl⟩) rfl rfl ?_
  rintro ⟨i, s⟩ ⟨hi, hs⟩ ih
  try dsimp only at ih ⊢
  refine j_iload_n C 3 dX3_doneBy_4 rfl ?_
  refine j_aload_n C 0 dX3_doneBy_5 rfl ?_
  refine j_get C (v := .int (S 1)) 1 1 rfl rfl inlC3 (by decide) kf3_9 rfl dX3_doneBy_6 ?_
  refine j_v (nI nw) (hK.wrongs.trans e8) ?_
  refine j_icmp_ge C 34 dX3_doneBy_9 (by decide) (fun c9 => ?_) (fun c9 => ?_)
  · rw [nI_leI (by omega) (by omega)] at c9
    refine j_iload_n C 2 dX3_doneBy_34 rfl ?_
    refine j_iret C dX3_doneBy_35 ?_
    obtain rfl : i = nw := by omega
    exact ⟨hs, rfl⟩
  · rw [nI_leI (by omega) (by omega)] at c9
    refine j_aload_n C 0 dX3_doneBy_12 rfl ?_
    refine j_get C (v := .ref (q 66)) 1 2 rfl rfl inlC3 (by decide) kf3_15 rfl dX3_doneBy_13 ?_
    refine j_iload_n C 3 dX3_doneBy_16 rfl ?_
    refine j_ialdN C 66 0 rfl rfl i rfl (by omega) (by decide) dX3_doneBy_17 ?_
    refine j_v (row (66 + 3 * i)) (hK.wr 0 (by omega) i (by omega)) ?_
    refine j_iload_n C 1 dX3_doneBy_18 rfl ?_
    refine j_icmp_ne C 28 dX3_doneBy_19 (by decide) (fun c19 => ?_) (fun c19 => ?_)
    · skip
      refine j_iinc C (v := (nI (i + 1))) 3 [(3, .int (nI (i + 1))), (0, .ref (q 1)), (1, .int c), (2, .int s)] dX3_doneBy_28 rfl (nI_1 _) (by decide) rfl ?_
      refine j_goto C 4 dX3_doneBy_31 (by decide) ?_
      refine j_L [1, 2, 3, 0] [(0, .ref (q 1)), (1, .int c), (2, .int s), (3, .int (nI (i + 1)))] rfl ?_
      exact ih (i + 1, s) (⟨by dsimp only; omega, by dsimp only; rw [dbF, ← hs, if_neg c19, or_nI0]⟩) (by dsimp only; omega)
    · skip
      refine j_iload_n C 2 dX3_doneBy_22 rfl ?_
      refine j_iconst C (v := (nI 1)) dX3_doneBy_23 (by decide) ?_
      refine j_iload_n C 3 dX3_doneBy_24 rfl ?_
      refine j_ishl C dX3_doneBy_25 ?_
      refine j_ior C dX3_doneBy_26 ?_
      refine j_istore_n C [(2, .int (s ||| ((nI 1) <<< ((nI i) &&& 31)))), (0, .ref (q 1)), (1, .int c), (3, .int (nI i))] dX3_doneBy_27 (by decide) rfl ?_
      refine j_iinc C (v := (nI (i + 1))) 3 [(3, .int (nI (i + 1))), (2, .int (s ||| ((nI 1) <<< ((nI i) &&& 31)))), (0, .ref (q 1)), (1, .int c)] dX3_doneBy_28 rfl (nI_1 _) (by decide) rfl ?_
      refine j_goto C 4 dX3_doneBy_31 (by decide) ?_
      refine j_L [2, 3, 1, 0] [(0, .ref (q 1)), (1, .int c), (2, .int (s ||| ((nI 1) <<< ((nI i) &&& 31)))), (3, .int (nI (i + 1)))] rfl ?_
      exact ih (i + 1, s ||| ((nI 1) <<< ((nI i) &&& 31))) (⟨by dsimp only; omega, by dsimp only; rw [dbF, ← hs, if_pos c19]⟩) (by dsimp only; omega)
theorem dX3_draw_0 : decode cX3_draw 0 = .ok (.aload_n 0, 1) := by decide +kernel
theorem dX3_draw_1 : decode cX3_draw 1 = .ok (.aload_n 0, 1) := by decide +kernel
theorem dX3_draw_2 : decode cX3_draw 2 = .ok (.getfield 37, 3) := by decide +kernel
theorem dX3_draw_5 : decode cX3_draw 5 = .ok (.ldc 87, 2) := by decide +kernel
theorem dX3_draw_7 : decode cX3_draw 7 = .ok (.imul, 1) := by decide +kernel
theorem dX3_draw_8 : decode cX3_draw 8 = .ok (.sipush 12345, 3) := by decide +kernel
theorem dX3_draw_11 : decode cX3_draw 11 = .ok (.iadd, 1) := by decide +kernel
theorem dX3_draw_12 : decode cX3_draw 12 = .ok (.putfield 37, 3) := by decide +kernel
theorem dX3_draw_15 : decode cX3_draw 15 = .ok (.aload_n 0, 1) := by decide +kernel
theorem dX3_draw_16 : decode cX3_draw 16 = .ok (.getfield 37, 3) := by decide +kernel
theorem dX3_draw_19 : decode cX3_draw 19 = .ok (.bipush 8, 2) := by decide +kernel
theorem dX3_draw_21 : decode cX3_draw 21 = .ok (.iushr, 1) := by decide +kernel
theorem dX3_draw_22 : decode cX3_draw 22 = .ok (.ireturn, 1) := by decide +kernel
set_option maxHeartbeats 2000000 in
set_option maxRecDepth 20000 in
theorem h_draw {l : Launch} {D : va_G} {cI cG cW : ClassId} {q : Nat → Nat} {S : Nat → Int32} {X : Nat → Nat → Int32} {P : Nat → Nat}  : Ci l yX3_draw cX3_draw 1 (some .int) 0 D (tyL cI cG cW) (wC cI cG cW q) [.ref (q 1)] (S, X, P) (fun r τ => r = ((S 2 * nI 1103515245 + nI 12345).toUInt32 >>> ((nI 8).toUInt32 &&& Int32.toUInt32 31)).toInt32 ∧ τ = (upd S 2 (S 2 * nI 1103515245 + nI 12345), X, P)) := by
  refine Ci.of (by decide) (Nat.le_of_ble_eq_true rfl) ?_
  intro p_ e_ s_ m_ b_ M_ c_ A_ C
  replace C : Cx _ _ _ _ _ _ _ _ RX3 _ _ _ _ := C
  refine j_L [0] [(0, .ref (q 1))] rfl ?_
  refine j_aload_n C 0 dX3_draw_0 rfl ?_
  refine j_aload_n C 0 dX3_draw_1 rfl ?_
  refine j_get C (v := .int (S 2)) 1 7 rfl rfl inlC3 (by decide) kf3_37 rfl dX3_draw_2 ?_
  refine j_ldc C (1103515245) dX3_draw_5 kc3_87 ?_
  refine j_imul C dX3_draw_7 ?_
  refine j_sipush C (v := (nI 12345)) dX3_draw_8 (by decide) ?_
  refine j_iadd C dX3_draw_11 ?_
  refine j_put C 1 7 rfl rfl inlC3 tyX3 tyX3_ok nmX3 (by decide) kf3_37 rfl (ty := .int) (by decide +kernel) rfl rfl (Nat.le_of_ble_eq_true rfl) dX3_draw_12 (upd S 2 (((S 2) * (nI 1103515245)) + (nI 12345)), X, P) rfl ?_
  refine j_aload_n C 0 dX3_draw_15 rfl ?_
  refine j_get C (v := .int (((S 2) * (nI 1103515245)) + (nI 12345))) 1 7 rfl rfl inlC3 (by decide) kf3_37 rfl dX3_draw_16 ?_
  refine j_bipush C (v := (nI 8)) dX3_draw_19 (by decide) ?_
  refine j_iushr C dX3_draw_21 ?_
  refine j_iret C dX3_draw_22 ?_
  exact ⟨rfl, rfl⟩

/-! The class's public calls: text. -/
theorem CK.t0 {S S' : Nat → Int32} {X X' : Nat → Nat → Int32} {row row' : Nat → Int32} {nw nt nq : Nat} (h : CK S X 0 row nw nt nq) (h8 : nw ≤ 8) (hq : nq ≤ 20) (hS : ∀ k, k = 1 ∨ k = 2 ∨ k = 20 → S' k = S k) (h19 : S' 19 = row' 4) (hX : ∀ k, (66 ≤ k ∧ k ≤ 68) ∨ k = 73 → X' k = X k) (hr : ∀ k, k = 1 ∨ k = 5 ∨ k = 8 ∨ (66 ≤ k ∧ k < 160) → row' k = row k) : CK S' X' 0 row' nw 0 nq := by
  refine ⟨?_, ?_, fun j hj i hi => ?_, h19, fun i hi => absurd hi (Nat.not_lt_zero _), ?_, fun i hi => ?_⟩
  · rw [hS _ (by omega), hr 8 (by omega)]; exact h.wrongs
  · rw [hS _ (by omega), hr 1 (by omega)]; exact h.z
  · rw [hX _ (by omega), hr _ (by omega)]; exact h.wr j hj i hi
  · rw [hS _ (by omega), hr 5 (by omega)]; exact h.qsz
  · rw [hX _ (by omega), hr _ (by omega)]; exact h.wait i hi
theorem CLaw.st3 {S S' : Nat → Int32} {X X' : Nat → Nat → Int32} {lam : Nat} {row row' : Nat → Int32} {u : Nat} (h : CLaw S X lam row u) (hS : S' (23 + lam) = S (23 + lam)) (hX : X' (76 + lam) = X (76 + lam)) (h6 : row' (6 + u) = row (6 + u)) (ht : ∀ k, k < 50 → txF row' u k = txF row u k) : CLaw S' X' lam row' u := by
  rcases h with ⟨a, h⟩ | ⟨n, a, b, cd, c, h, g, hl, k, e⟩
  · exact Or.inl ⟨h6.trans a, hS.trans h⟩
  · exact Or.inr ⟨n, a, h6.trans b, cd, by rw [readF_congr (fun k hk => ht k (by omega))]; exact c, hS.trans h, g, hl, fun j hj => (congrFun hX j).trans (k j hj), e⟩
theorem newT_o {row : Nat → Int32} {u k : Nat} (h4 : ¬ k = 4) (h6 : ¬ k = 6 + u) (hk : k < 160 + 50 * u ∨ 210 + 50 * u ≤ k) : newT row u k = row k := by
  show upd (upd (tapW row u 50) (6 + u) (row 4)) 4 (nI 0) k = row k
  rw [pk_un h4, pk_un h6]; unfold tapW; rw [if_neg (by omega)]
theorem newT_t {row : Nat → Int32} {u k : Nat} (hu : u ≤ 1) (hk : k < 50) : txF (newT row u) u k = row (90 + k) := by
  show upd (upd (tapW row u 50) (6 + u) (row 4)) 4 (nI 0) (160 + 50 * u + k) = row (90 + k)
  rw [pk_un (by omega), pk_un (by omega)]; unfold tapW
  rw [if_pos (by omega), show 90 + (160 + 50 * u + k - (160 + 50 * u)) = 90 + k by omega]
theorem newT_6 {row : Nat → Int32} {u : Nat} (hu : u ≤ 1) : newT row u (6 + u) = row 4 := by
  show upd (upd (tapW row u 50) (6 + u) (row 4)) 4 (nI 0) (6 + u) = row 4
  rw [pk_un (by omega), pk_us]
theorem CLaw.new {S' : Nat → Int32} {X' : Nat → Nat → Int32} {lam u n : Nat} {row : Nat → Int32} (hu : u ≤ 1) (hn : n ≤ 50) (e4 : row 4 = nI n) {cd : List Int32} (hr : (readF (tapF row) n u).1 = true) (hcd : (readF (tapF row) n u).2.2 = cd) (hS : S' (23 + lam) = nI cd.length) (hX : ∀ j, j < cd.length → X' (76 + lam) j = cd.getD j 0) : CLaw S' X' lam (newT row u) u := by
  have hc : readF (txF (newT row u) u) n u = readF (tapF row) n u := readF_congr (fun k hk => newT_t hu (by omega))
  have hseg : ∀ x y z, ∃ v, exF x y z cd [] = some [v] := fun x y z => by
    obtain ⟨seg, v, h1, h2⟩ := (prs_seg (b := tapF row) (n := n) (u := u) x y z 1000 0 false 0 0 [] (by omega) (fun h => by cases h) hr).1 rfl
    have h3 : cd = seg := by rw [← hcd]; exact h1
    rw [h3]; exact ⟨v, h2 []⟩
  have hlen : cd.length ≤ 50 := by
    have h1 := prs_len (b := tapF row) (n := n) (u := u) 1000 0 false 0 0 [] (by omega) (fun h => by cases h) (Nat.zero_le _)
    have h2 := (prs_pr (b := tapF row) (n := n) (u := u) 1000 0 false 0 0 [] (by omega) (fun h => by cases h) (Nat.zero_le _)).2.1
    have h3 : cd = (prs (tapF row) n u 1000 0 false 0 0 []).2.2 := hcd.symm
    rw [h3]
    have h4 : ([] : List Int32).length = 0 := rfl
    omega
  have hpos : 0 < cd.length := by
    obtain ⟨v, hv⟩ := hseg 0 0 0
    cases cd with
    | nil => cases hv
    | cons a l => exact Nat.succ_pos _
  exact Or.inr ⟨n, hn, (newT_6 hu).trans e4, cd, by rw [hc]; exact hcd, hS, hpos, hlen, hX, hseg⟩

theorem dX4_faultIn_0 : decode cX4_faultIn 0 = .ok (.aload_n 0, 1) := by decide +kernel
theorem dX4_faultIn_1 : decode cX4_faultIn 1 = .ok (.aload_n 1, 1) := by decide +kernel
theorem dX4_faultIn_2 : decode cX4_faultIn 2 = .ok (.putfield 24, 3) := by decide +kernel
theorem dX4_faultIn_5 : decode cX4_faultIn 5 = .ok (.aload_n 0, 1) := by decide +kernel
theorem dX4_faultIn_6 : decode cX4_faultIn 6 = .ok (.iload_n 2, 1) := by decide +kernel
theorem dX4_faultIn_7 : decode cX4_faultIn 7 = .ok (.ifCond .ne 8, 3) := by decide +kernel
theorem dX4_faultIn_10 : decode cX4_faultIn 10 = .ok (.ldc 62, 2) := by decide +kernel
theorem dX4_faultIn_12 : decode cX4_faultIn 12 = .ok (.goto 5, 3) := by decide +kernel
theorem dX4_faultIn_15 : decode cX4_faultIn 15 = .ok (.ldc 64, 2) := by decide +kernel
theorem dX4_faultIn_17 : decode cX4_faultIn 17 = .ok (.putfield 29, 3) := by decide +kernel
theorem dX4_faultIn_20 : decode cX4_faultIn 20 = .ok (.aload_n 0, 1) := by decide +kernel
theorem dX4_faultIn_21 : decode cX4_faultIn 21 = .ok (.iconst 0, 1) := by decide +kernel
theorem dX4_faultIn_22 : decode cX4_faultIn 22 = .ok (.putfield 33, 3) := by decide +kernel
theorem dX4_faultIn_25 : decode cX4_faultIn 25 = .ok (.aload_n 0, 1) := by decide +kernel
theorem dX4_faultIn_26 : decode cX4_faultIn 26 = .ok (.getfield 14, 3) := by decide +kernel
theorem dX4_faultIn_29 : decode cX4_faultIn 29 = .ok (.iconst 0, 1) := by decide +kernel
theorem dX4_faultIn_30 : decode cX4_faultIn 30 = .ok (.putfield 40, 3) := by decide +kernel
theorem dX4_faultIn_33 : decode cX4_faultIn 33 = .ok (.aload_n 0, 1) := by decide +kernel
theorem dX4_faultIn_34 : decode cX4_faultIn 34 = .ok (.iconst 0, 1) := by decide +kernel
theorem dX4_faultIn_35 : decode cX4_faultIn 35 = .ok (.iconst 0, 1) := by decide +kernel
theorem dX4_faultIn_36 : decode cX4_faultIn 36 = .ok (.invokevirtual 66, 3) := by decide +kernel
theorem dX4_faultIn_39 : decode cX4_faultIn 39 = .ok (.istore_n 3, 1) := by decide +kernel
theorem dX4_faultIn_40 : decode cX4_faultIn 40 = .ok (.iload_n 3, 1) := by decide +kernel
theorem dX4_faultIn_41 : decode cX4_faultIn 41 = .ok (.ifCond .eq 21, 3) := by decide +kernel
theorem dX4_faultIn_44 : decode cX4_faultIn 44 = .ok (.aload_n 0, 1) := by decide +kernel
theorem dX4_faultIn_45 : decode cX4_faultIn 45 = .ok (.getfield 33, 3) := by decide +kernel
theorem dX4_faultIn_48 : decode cX4_faultIn 48 = .ok (.aload_n 0, 1) := by decide +kernel
theorem dX4_faultIn_49 : decode cX4_faultIn 49 = .ok (.getfield 24, 3) := by decide +kernel
theorem dX4_faultIn_52 : decode cX4_faultIn 52 = .ok (.getfield 40, 3) := by decide +kernel
theorem dX4_faultIn_55 : decode cX4_faultIn 55 = .ok (.if_icmp .ne 7, 3) := by decide +kernel
theorem dX4_faultIn_58 : decode cX4_faultIn 58 = .ok (.iconst (-1), 1) := by decide +kernel
theorem dX4_faultIn_59 : decode cX4_faultIn 59 = .ok (.goto 7, 3) := by decide +kernel
theorem dX4_faultIn_62 : decode cX4_faultIn 62 = .ok (.aload_n 0, 1) := by decide +kernel
theorem dX4_faultIn_63 : decode cX4_faultIn 63 = .ok (.getfield 33, 3) := by decide +kernel
theorem dX4_faultIn_66 : decode cX4_faultIn 66 = .ok (.ireturn, 1) := by decide +kernel
set_option maxHeartbeats 2000000 in
set_option maxRecDepth 20000 in
theorem h_faultIn_0 {l : Launch} {D : va_G} {cI cG cW : ClassId} {q : Nat → Nat} {S : Nat → Int32} {X : Nat → Nat → Int32} {P : Nat → Nat} {O : Ou} {b : Nat → Int32} {n : Nat} (hn : n ≤ 50) (hB : BY b n) (hT : S 19 = nI n) (hb : ∀ j, j < n → X 72 j = b j) : CiO O l yX4_faultIn cX4_faultIn 4 (some .int) 55 D (tyL cI cG cW) (wC cI cG cW q) [.ref (q 10), .ref (q 11), .int (nI 0)] (S, X, P) (fun r τ => ∃ S' X' P', τ = (S', X', P') ∧ r = (if (readF b n 0).1 = true ∧ (readF b n 0).2.1 = n then -1 else nI (readF b n 0).2.1) ∧ CPst b n S' X' (readF b n 0).2.1 (readF b n 0).2.2 ∧ FrP S' X' S X) := by
  refine CiO.of (by decide) (Nat.le_of_ble_eq_true rfl) ?_
  intro p_ e_ s_ m_ b_ M_ c_ A_ C hO
  replace C : Cx _ _ _ _ _ _ _ _ RX4 _ _ _ _ := C
  refine j_L [0, 1, 2] [(0, .ref (q 10)), (1, .ref (q 11)), (2, .int (nI 0))] rfl ?_
  refine j_aload_n C 0 dX4_faultIn_0 rfl ?_
  refine j_aload_n C 1 dX4_faultIn_1 rfl ?_
  refine j_put C 10 3 rfl rfl inlC4 tyX4 tyX4_ok nmX4 (by decide) kf4_24 rfl (ty := .object "GleanedSorry$Row") (by decide +kernel) rfl rfl (Nat.le_of_ble_eq_true rfl) dX4_faultIn_2 (S, X, va_up P 4 (q 11)) rfl ?_
  refine j_aload_n C 0 dX4_faultIn_5 rfl ?_
  refine j_iload_n C 2 dX4_faultIn_6 rfl ?_
  refine j_if_ne C 15 dX4_faultIn_7 (by decide) (fun c7 => ?_) (fun c7 => ?_)
  · rw [show (0 : Int32) = nI 0 from rfl, nI_eq (by omega) (by omega)] at c7
    exfalso; omega
  · rw [show (0 : Int32) = nI 0 from rfl, nI_eq (by omega) (by omega)] at c7
    refine j_ldcS C hO.2.2.2.2.1 dX4_faultIn_10 ?_
    refine j_goto C 17 dX4_faultIn_12 (by decide) ?_
    refine j_put C 10 4 rfl rfl inlC4 tyX4 tyX4_ok nmX4 (by decide) kf4_29 rfl (ty := .object "java/lang/String") (by decide +kernel) rfl rfl (Nat.le_of_ble_eq_true rfl) dX4_faultIn_17 (S, X, va_up (va_up P 4 (q 11)) 9 (O.2.1 1)) rfl ?_
    refine j_aload_n C 0 dX4_faultIn_20 rfl ?_
    refine j_iconst C (v := (nI 0)) dX4_faultIn_21 (by decide) ?_
    refine j_put C 10 5 rfl rfl inlC4 tyX4 tyX4_ok nmX4 (by decide) kf4_33 rfl (ty := .int) (by decide +kernel) rfl rfl (Nat.le_of_ble_eq_true rfl) dX4_faultIn_22 (upd S 18 (nI 0), X, va_up (va_up P 4 (q 11)) 9 (O.2.1 1)) rfl ?_
    refine j_aload_n C 0 dX4_faultIn_25 rfl ?_
    refine j_get C (v := .ref (q 19)) 10 1 rfl rfl inlC4 (by decide) kf4_14 rfl dX4_faultIn_26 ?_
    refine j_iconst C (v := (nI 0)) dX4_faultIn_29 (by decide) ?_
    refine j_putN C 19 1 rfl rfl inlC8 tyX8 tyX8_ok nmX8 (by decide) kf4_40 rfl (ty := .int) (by decide +kernel) rfl rfl (Nat.le_of_ble_eq_true rfl) dX4_faultIn_30 (upd (upd S 18 (nI 0)) 27 (nI 0), X, va_up (va_up P 4 (q 11)) 9 (O.2.1 1)) rfl ?_
    refine j_aload_n C 0 dX4_faultIn_33 rfl ?_
    refine j_iconst C (v := (nI 0)) dX4_faultIn_34 (by decide) ?_
    refine j_iconst C (v := (nI 0)) dX4_faultIn_35 (by decide) ?_
    have hp0 : CPst b n (upd (upd S 18 (nI 0)) 27 (nI 0)) X 0 [] := ⟨(pk_un (by omega)).trans pk_us, (pk_un (by omega)).trans ((pk_un (by omega)).trans hT), hb, pk_us, fun j hj => absurd hj (Nat.not_lt_zero _)⟩
    refine j_callVO (As := [.int (nI 0), .int (nI 0)]) (rest := []) C hO vw4_66 ((h_read_0 hn hB 1000).1 _ _ 0 0 0 [] hp0 (by omega) (by omega) (by omega) (by decide) (by omega)) ⟨10, 4, _, _, rfl, rfl, rfl⟩ rfl (Nat.le_of_ble_eq_true rfl) dX4_faultIn_36 (by decide) ?_
    rintro r1 _ ⟨S1, X1, rfl, e1, hP1, hf1⟩
    obtain ⟨res, hr⟩ : ∃ x, x = prs b n 0 1000 0 false 0 0 [] := ⟨_, rfl⟩
    rw [← hr] at e1 hP1
    have hpr := (prs_pr (b := b) (n := n) (u := 0) 1000 0 false 0 0 [] (by omega) (fun h => by cases h) (Nat.zero_le _)).2.1
    rw [← hr] at hpr
    refine j_v (bI (res.1 = true)) e1 ?_
    refine j_istore_n C [(3, .int (bI (res.1 = true))), (0, .ref (q 10)), (1, .ref (q 11)), (2, .int (nI 0))] dX4_faultIn_39 (by decide) rfl ?_
    refine j_iload_n C 0 dX4_faultIn_40 rfl ?_
    refine j_if_eq C 62 dX4_faultIn_41 (by decide) (fun c41 => ?_) (fun c41 => ?_)
    · replace c41 := bI_f c41
      refine j_aload_n C 1 dX4_faultIn_62 rfl ?_
      refine j_get C (v := .int (S1 18)) 10 5 rfl rfl inlC4 (by decide) kf4_33 rfl dX4_faultIn_63 ?_
      refine j_v (nI res.2.1) hP1.1 ?_
      refine j_iret C dX4_faultIn_66 ?_
      have hfr : FrP S1 X1 S X := ⟨fun k a b => (hf1.1 k a b).trans ((pk_un b).trans (pk_un a)), hf1.2⟩
      show ∃ S' X' P', _
      refine ⟨_, _, _, rfl, ?_, by rw [readF_eq, ← hr]; exact hP1, hfr⟩
      rw [readF_eq, ← hr]
      exact (if_neg (fun h => c41 h.1)).symm
    · replace c41 := bI_t c41
      refine j_aload_n C 1 dX4_faultIn_44 rfl ?_
      refine j_get C (v := .int (S1 18)) 10 5 rfl rfl inlC4 (by decide) kf4_33 rfl dX4_faultIn_45 ?_
      refine j_v (nI res.2.1) hP1.1 ?_
      refine j_aload_n C 1 dX4_faultIn_48 rfl ?_
      refine j_get C (v := .ref (q 11)) 10 3 rfl rfl inlC4 (by decide) kf4_24 rfl dX4_faultIn_49 ?_
      refine j_getN C (v := .int (S1 19)) 11 1 rfl rfl inlC8 (by decide) kf4_40 rfl dX4_faultIn_52 ?_
      refine j_v (nI n) hP1.2.1 ?_
      refine j_icmp_ne C 62 dX4_faultIn_55 (by decide) (fun c55 => ?_) (fun c55 => ?_)
      · rw [nI_eq (by omega) (by omega)] at c55
        refine j_aload_n C 1 dX4_faultIn_62 rfl ?_
        refine j_get C (v := .int (S1 18)) 10 5 rfl rfl inlC4 (by decide) kf4_33 rfl dX4_faultIn_63 ?_
        refine j_v (nI res.2.1) hP1.1 ?_
        refine j_iret C dX4_faultIn_66 ?_
        have hfr : FrP S1 X1 S X := ⟨fun k a b => (hf1.1 k a b).trans ((pk_un b).trans (pk_un a)), hf1.2⟩
        show ∃ S' X' P', _
        refine ⟨_, _, _, rfl, ?_, by rw [readF_eq, ← hr]; exact hP1, hfr⟩
        rw [readF_eq, ← hr]
        exact (if_neg (fun h => c55 h.2)).symm
      · rw [nI_eq (by omega) (by omega)] at c55
        refine j_iconst C (v := (-1)) dX4_faultIn_58 (by decide) ?_
        refine j_goto C 66 dX4_faultIn_59 (by decide) ?_
        refine j_iret C dX4_faultIn_66 ?_
        have hfr : FrP S1 X1 S X := ⟨fun k a b => (hf1.1 k a b).trans ((pk_un b).trans (pk_un a)), hf1.2⟩
        show ∃ S' X' P', _
        refine ⟨_, _, _, rfl, ?_, by rw [readF_eq, ← hr]; exact hP1, hfr⟩
        rw [readF_eq, ← hr]
        exact (if_pos ⟨c41, c55⟩).symm
set_option maxHeartbeats 2000000 in
set_option maxRecDepth 20000 in
theorem h_faultIn_1 {l : Launch} {D : va_G} {cI cG cW : ClassId} {q : Nat → Nat} {S : Nat → Int32} {X : Nat → Nat → Int32} {P : Nat → Nat} {O : Ou} {b : Nat → Int32} {n : Nat} (hn : n ≤ 50) (hB : BY b n) (hT : S 19 = nI n) (hb : ∀ j, j < n → X 72 j = b j) : CiO O l yX4_faultIn cX4_faultIn 4 (some .int) 55 D (tyL cI cG cW) (wC cI cG cW q) [.ref (q 10), .ref (q 11), .int (nI 1)] (S, X, P) (fun r τ => ∃ S' X' P', τ = (S', X', P') ∧ r = (if (readF b n 1).1 = true ∧ (readF b n 1).2.1 = n then -1 else nI (readF b n 1).2.1) ∧ CPst b n S' X' (readF b n 1).2.1 (readF b n 1).2.2 ∧ FrP S' X' S X) := by
  refine CiO.of (by decide) (Nat.le_of_ble_eq_true rfl) ?_
  intro p_ e_ s_ m_ b_ M_ c_ A_ C hO
  replace C : Cx _ _ _ _ _ _ _ _ RX4 _ _ _ _ := C
  refine j_L [0, 1, 2] [(0, .ref (q 10)), (1, .ref (q 11)), (2, .int (nI 1))] rfl ?_
  refine j_aload_n C 0 dX4_faultIn_0 rfl ?_
  refine j_aload_n C 1 dX4_faultIn_1 rfl ?_
  refine j_put C 10 3 rfl rfl inlC4 tyX4 tyX4_ok nmX4 (by decide) kf4_24 rfl (ty := .object "GleanedSorry$Row") (by decide +kernel) rfl rfl (Nat.le_of_ble_eq_true rfl) dX4_faultIn_2 (S, X, va_up P 4 (q 11)) rfl ?_
  refine j_aload_n C 0 dX4_faultIn_5 rfl ?_
  refine j_iload_n C 2 dX4_faultIn_6 rfl ?_
  refine j_if_ne C 15 dX4_faultIn_7 (by decide) (fun c7 => ?_) (fun c7 => ?_)
  · rw [show (0 : Int32) = nI 0 from rfl, nI_eq (by omega) (by omega)] at c7
    refine j_ldcS C hO.2.2.2.2.2 dX4_faultIn_15 ?_
    refine j_put C 10 4 rfl rfl inlC4 tyX4 tyX4_ok nmX4 (by decide) kf4_29 rfl (ty := .object "java/lang/String") (by decide +kernel) rfl rfl (Nat.le_of_ble_eq_true rfl) dX4_faultIn_17 (S, X, va_up (va_up P 4 (q 11)) 9 (O.2.1 2)) rfl ?_
    refine j_aload_n C 0 dX4_faultIn_20 rfl ?_
    refine j_iconst C (v := (nI 0)) dX4_faultIn_21 (by decide) ?_
    refine j_put C 10 5 rfl rfl inlC4 tyX4 tyX4_ok nmX4 (by decide) kf4_33 rfl (ty := .int) (by decide +kernel) rfl rfl (Nat.le_of_ble_eq_true rfl) dX4_faultIn_22 (upd S 18 (nI 0), X, va_up (va_up P 4 (q 11)) 9 (O.2.1 2)) rfl ?_
    refine j_aload_n C 0 dX4_faultIn_25 rfl ?_
    refine j_get C (v := .ref (q 19)) 10 1 rfl rfl inlC4 (by decide) kf4_14 rfl dX4_faultIn_26 ?_
    refine j_iconst C (v := (nI 0)) dX4_faultIn_29 (by decide) ?_
    refine j_putN C 19 1 rfl rfl inlC8 tyX8 tyX8_ok nmX8 (by decide) kf4_40 rfl (ty := .int) (by decide +kernel) rfl rfl (Nat.le_of_ble_eq_true rfl) dX4_faultIn_30 (upd (upd S 18 (nI 0)) 27 (nI 0), X, va_up (va_up P 4 (q 11)) 9 (O.2.1 2)) rfl ?_
    refine j_aload_n C 0 dX4_faultIn_33 rfl ?_
    refine j_iconst C (v := (nI 0)) dX4_faultIn_34 (by decide) ?_
    refine j_iconst C (v := (nI 0)) dX4_faultIn_35 (by decide) ?_
    have hp0 : CPst b n (upd (upd S 18 (nI 0)) 27 (nI 0)) X 0 [] := ⟨(pk_un (by omega)).trans pk_us, (pk_un (by omega)).trans ((pk_un (by omega)).trans hT), hb, pk_us, fun j hj => absurd hj (Nat.not_lt_zero _)⟩
    refine j_callVO (As := [.int (nI 0), .int (nI 0)]) (rest := []) C hO vw4_66 ((h_read_1 hn hB 1000).1 _ _ 0 0 0 [] hp0 (by omega) (by omega) (by omega) (by decide) (by omega)) ⟨10, 4, _, _, rfl, rfl, rfl⟩ rfl (Nat.le_of_ble_eq_true rfl) dX4_faultIn_36 (by decide) ?_
    rintro r1 _ ⟨S1, X1, rfl, e1, hP1, hf1⟩
    obtain ⟨res, hr⟩ : ∃ x, x = prs b n 1 1000 0 false 0 0 [] := ⟨_, rfl⟩
    rw [← hr] at e1 hP1
    have hpr := (prs_pr (b := b) (n := n) (u := 1) 1000 0 false 0 0 [] (by omega) (fun h => by cases h) (Nat.zero_le _)).2.1
    rw [← hr] at hpr
    refine j_v (bI (res.1 = true)) e1 ?_
    refine j_istore_n C [(3, .int (bI (res.1 = true))), (0, .ref (q 10)), (1, .ref (q 11)), (2, .int (nI 1))] dX4_faultIn_39 (by decide) rfl ?_
    refine j_iload_n C 0 dX4_faultIn_40 rfl ?_
    refine j_if_eq C 62 dX4_faultIn_41 (by decide) (fun c41 => ?_) (fun c41 => ?_)
    · replace c41 := bI_f c41
      refine j_aload_n C 1 dX4_faultIn_62 rfl ?_
      refine j_get C (v := .int (S1 18)) 10 5 rfl rfl inlC4 (by decide) kf4_33 rfl dX4_faultIn_63 ?_
      refine j_v (nI res.2.1) hP1.1 ?_
      refine j_iret C dX4_faultIn_66 ?_
      have hfr : FrP S1 X1 S X := ⟨fun k a b => (hf1.1 k a b).trans ((pk_un b).trans (pk_un a)), hf1.2⟩
      show ∃ S' X' P', _
      refine ⟨_, _, _, rfl, ?_, by rw [readF_eq, ← hr]; exact hP1, hfr⟩
      rw [readF_eq, ← hr]
      exact (if_neg (fun h => c41 h.1)).symm
    · replace c41 := bI_t c41
      refine j_aload_n C 1 dX4_faultIn_44 rfl ?_
      refine j_get C (v := .int (S1 18)) 10 5 rfl rfl inlC4 (by decide) kf4_33 rfl dX4_faultIn_45 ?_
      refine j_v (nI res.2.1) hP1.1 ?_
      refine j_aload_n C 1 dX4_faultIn_48 rfl ?_
      refine j_get C (v := .ref (q 11)) 10 3 rfl rfl inlC4 (by decide) kf4_24 rfl dX4_faultIn_49 ?_
      refine j_getN C (v := .int (S1 19)) 11 1 rfl rfl inlC8 (by decide) kf4_40 rfl dX4_faultIn_52 ?_
      refine j_v (nI n) hP1.2.1 ?_
      refine j_icmp_ne C 62 dX4_faultIn_55 (by decide) (fun c55 => ?_) (fun c55 => ?_)
      · rw [nI_eq (by omega) (by omega)] at c55
        refine j_aload_n C 1 dX4_faultIn_62 rfl ?_
        refine j_get C (v := .int (S1 18)) 10 5 rfl rfl inlC4 (by decide) kf4_33 rfl dX4_faultIn_63 ?_
        refine j_v (nI res.2.1) hP1.1 ?_
        refine j_iret C dX4_faultIn_66 ?_
        have hfr : FrP S1 X1 S X := ⟨fun k a b => (hf1.1 k a b).trans ((pk_un b).trans (pk_un a)), hf1.2⟩
        show ∃ S' X' P', _
        refine ⟨_, _, _, rfl, ?_, by rw [readF_eq, ← hr]; exact hP1, hfr⟩
        rw [readF_eq, ← hr]
        exact (if_neg (fun h => c55 h.2)).symm
      · rw [nI_eq (by omega) (by omega)] at c55
        refine j_iconst C (v := (-1)) dX4_faultIn_58 (by decide) ?_
        refine j_goto C 66 dX4_faultIn_59 (by decide) ?_
        refine j_iret C dX4_faultIn_66 ?_
        have hfr : FrP S1 X1 S X := ⟨fun k a b => (hf1.1 k a b).trans ((pk_un b).trans (pk_un a)), hf1.2⟩
        show ∃ S' X' P', _
        refine ⟨_, _, _, rfl, ?_, by rw [readF_eq, ← hr]; exact hP1, hfr⟩
        rw [readF_eq, ← hr]
        exact (if_pos ⟨c41, c55⟩).symm
  · rw [show (0 : Int32) = nI 0 from rfl, nI_eq (by omega) (by omega)] at c7
    exfalso; omega
theorem dX11_text_0 : decode cX11_text 0 = .ok (.iload_n 1, 1) := by decide +kernel
theorem dX11_text_1 : decode cX11_text 1 = .ok (.iconst 0, 1) := by decide +kernel
theorem dX11_text_2 : decode cX11_text 2 = .ok (.iconst 1, 1) := by decide +kernel
theorem dX11_text_3 : decode cX11_text 3 = .ok (.invokestatic 86, 3) := by decide +kernel
theorem dX11_text_6 : decode cX11_text 6 = .ok (.ifCond .ne 9, 3) := by decide +kernel
theorem dX11_text_9 : decode cX11_text 9 = .ok (.aload_n 0, 1) := by decide +kernel
theorem dX11_text_10 : decode cX11_text 10 = .ok (.iconst 1, 1) := by decide +kernel
theorem dX11_text_11 : decode cX11_text 11 = .ok (.invokevirtual 90, 3) := by decide +kernel
theorem dX11_text_14 : decode cX11_text 14 = .ok (.ireturn, 1) := by decide +kernel
theorem dX11_text_15 : decode cX11_text 15 = .ok (.aload_n 0, 1) := by decide +kernel
theorem dX11_text_16 : decode cX11_text 16 = .ok (.getfield 12, 3) := by decide +kernel
theorem dX11_text_19 : decode cX11_text 19 = .ok (.aload_n 0, 1) := by decide +kernel
theorem dX11_text_20 : decode cX11_text 20 = .ok (.getfield 75, 3) := by decide +kernel
theorem dX11_text_23 : decode cX11_text 23 = .ok (.getfield 185, 3) := by decide +kernel
theorem dX11_text_26 : decode cX11_text 26 = .ok (.iload_n 1, 1) := by decide +kernel
theorem dX11_text_27 : decode cX11_text 27 = .ok (.invokevirtual 194, 3) := by decide +kernel
theorem dX11_text_30 : decode cX11_text 30 = .ok (.istore_n 2, 1) := by decide +kernel
theorem dX11_text_31 : decode cX11_text 31 = .ok (.aload_n 0, 1) := by decide +kernel
theorem dX11_text_32 : decode cX11_text 32 = .ok (.getfield 75, 3) := by decide +kernel
theorem dX11_text_35 : decode cX11_text 35 = .ok (.getfield 185, 3) := by decide +kernel
theorem dX11_text_38 : decode cX11_text 38 = .ok (.iconst 0, 1) := by decide +kernel
theorem dX11_text_39 : decode cX11_text 39 = .ok (.putfield 188, 3) := by decide +kernel
theorem dX11_text_42 : decode cX11_text 42 = .ok (.iload_n 2, 1) := by decide +kernel
theorem dX11_text_43 : decode cX11_text 43 = .ok (.ifCond .lt 8, 3) := by decide +kernel
theorem dX11_text_46 : decode cX11_text 46 = .ok (.bipush (-10), 2) := by decide +kernel
theorem dX11_text_48 : decode cX11_text 48 = .ok (.iload_n 2, 1) := by decide +kernel
theorem dX11_text_49 : decode cX11_text 49 = .ok (.isub, 1) := by decide +kernel
theorem dX11_text_50 : decode cX11_text 50 = .ok (.ireturn, 1) := by decide +kernel
theorem dX11_text_51 : decode cX11_text 51 = .ok (.aload_n 0, 1) := by decide +kernel
theorem dX11_text_52 : decode cX11_text 52 = .ok (.getfield 75, 3) := by decide +kernel
theorem dX11_text_55 : decode cX11_text 55 = .ok (.iload_n 1, 1) := by decide +kernel
theorem dX11_text_56 : decode cX11_text 56 = .ok (.invokevirtual 198, 3) := by decide +kernel
theorem dX11_text_59 : decode cX11_text 59 = .ok (.getfield 202, 3) := by decide +kernel
theorem dX11_text_62 : decode cX11_text 62 = .ok (.aload_n 0, 1) := by decide +kernel
theorem dX11_text_63 : decode cX11_text 63 = .ok (.getfield 12, 3) := by decide +kernel
theorem dX11_text_66 : decode cX11_text 66 = .ok (.getfield 202, 3) := by decide +kernel
theorem dX11_text_69 : decode cX11_text 69 = .ok (.invokevirtual 205, 3) := by decide +kernel
theorem dX11_text_72 : decode cX11_text 72 = .ok (.iconst 1, 1) := by decide +kernel
theorem dX11_text_73 : decode cX11_text 73 = .ok (.ireturn, 1) := by decide +kernel
set_option maxHeartbeats 2000000 in
set_option maxRecDepth 20000 in
theorem k_text {l : Launch} {D : va_G} {cI cG cW : ClassId} {q : Nat → Nat} {S : Nat → Int32} {X : Nat → Nat → Int32} {P : Nat → Nat} {O : Ou} {use : Int32} {V row kept tried bf fd pk bo so sh mv tr : Nat → Int32} {nc np nw d nt nq : Nat} (hR : RKx row nc np nw d nt nq) (hC : CR (S, X, P) (sR V row kept tried bf fd pk bo so sh mv tr)) : CiO O l yX11_text cX11_text 3 (some .int) 56 D (tyL cI cG cW) (wC cI cG cW q) [.ref (q 0), .int use] (S, X, P) (fun r τ => r = (sp_text V row kept tried bf fd pk bo so sh mv tr use).1 ∧ CR τ (sp_text V row kept tried bf fd pk bo so sh mv tr use).2) := by
  refine CiO.of (by decide) (Nat.le_of_ble_eq_true rfl) ?_
  intro p_ e_ s_ m_ b_ M_ c_ A_ C hO
  replace C : Cx _ _ _ _ _ _ _ _ RX11 _ _ _ _ := C
  refine j_L [0, 1] [(0, .ref (q 0)), (1, .int use)] rfl ?_
  obtain ⟨hI, hW, ⟨e0, hd⟩, ⟨e4, ht⟩, ⟨e5, hq⟩, hB⟩ := id hR
  obtain ⟨⟨e2, hc2, hc10⟩, ⟨e3, hn6⟩, ⟨e8, hw8⟩, hP, hE, hLo, hT0, hT1⟩ := id hI
  have hIc := hI
  have hF : CF S X 0 row (X 44) nc np := by have h := hC.fld; rw [e2, e3, tN_nI (by omega), tN_nI (by omega)] at h; exact h
  have hK : CK S X 0 row nw nt nq := by have h := hC.kp; rw [e8, e4, e5, tN_nI (by omega), tN_nI (by omega), tN_nI (by omega)] at h; exact h
  have hS1 : S 1 = row 8 := hK.wrongs
  have hS5 : S 5 = row 2 := hF.cells
  have hS7 : S 7 = row 3 := hF.people
  refine j_iload_n C 1 dX11_text_0 rfl ?_
  refine j_iconst C (v := (nI 0)) dX11_text_1 (by decide) ?_
  refine j_iconst C (v := (nI 1)) dX11_text_2 (by decide) ?_
  refine j_callS (As := [.int use, .int (nI 0), .int (nI 1)]) (rest := []) C sw11_86 (h_within) rfl (Nat.le_of_ble_eq_true rfl) dX11_text_3 (by decide) ?_
  rintro _ _ ⟨rfl, rfl⟩
  refine j_if_ne C 15 dX11_text_6 (by decide) (fun c6 => ?_) (fun c6 => ?_)
  · replace c6 := bI_t c6
    obtain ⟨un, gun, hun, rfl⟩ := inn_lit c6 (by omega)
    rcases (show un = 0 ∨ un = 1 by omega) with rfl | rfl
    · refine j_aload_n C 0 dX11_text_15 rfl ?_
      refine j_get C (v := .ref (q 10)) 0 4 rfl rfl inlC11 (by decide) kf11_12 rfl dX11_text_16 ?_
      refine j_aload_n C 0 dX11_text_19 rfl ?_
      refine j_get C (v := .ref (q 1)) 0 1 rfl rfl inlC11 (by decide) kf11_75 rfl dX11_text_20 ?_
      refine j_getN C (v := .ref (q 11)) 1 5 rfl rfl inlC3 (by decide) kf11_185 rfl dX11_text_23 ?_
      refine j_iload_n C 1 dX11_text_26 rfl ?_
      refine j_callVNO (As := [.ref (q 11), .int (nI 0)]) (rest := []) C hO vn11_194 (h_faultIn_0 (b := tapF row) (n := nt) ht hB (hK.tsz.trans e4) (fun j hj => hK.tape j hj)) ⟨10, 4, _, _, rfl, rfl, rfl⟩ rfl (Nat.le_of_ble_eq_true rfl) dX11_text_27 (by decide) ?_
      rintro r1 _ ⟨S1, X1, P1, rfl, e1, hP1, hf1⟩
      have hpl := (prs_pr (b := tapF row) (n := nt) (u := 0) 1000 0 false 0 0 [] (by omega) (fun h => by cases h) (Nat.zero_le _)).2.1
      have hll := prs_len (b := tapF row) (n := nt) (u := 0) 1000 0 false 0 0 [] (by omega) (fun h => by cases h) (Nat.zero_le _)
      rw [← readF_eq] at hpl hll
      rw [show ([] : List Int32).length = 0 from rfl] at hll
      obtain ⟨cd, hcd⟩ : ∃ x, (readF (tapF row) nt 0).2.2 = x := ⟨_, rfl⟩
      rw [hcd] at hP1 hll
      have a19 : ∀ k, ¬ k = 18 → ¬ k = 19 → ¬ k = 27 → upd S1 19 (nI 0) k = S k := fun k h1 h2 h3 => (pk_un h2).trans (hf1.1 k h1 h3)
      by_cases hok : (readF (tapF row) nt 0).1 = true ∧ (readF (tapF row) nt 0).2.1 = nt
      · rw [if_pos hok] at e1
        refine j_v (-1) e1 ?_
        refine j_istore_n C [(2, .int (-1)), (0, .ref (q 0)), (1, .int (nI 0))] dX11_text_30 (by decide) rfl ?_
        refine j_aload_n C 1 dX11_text_31 rfl ?_
        refine j_get C (v := .ref (q 1)) 0 1 rfl rfl inlC11 (by decide) kf11_75 rfl dX11_text_32 ?_
        refine j_getN C (v := .ref (q 11)) 1 5 rfl rfl inlC3 (by decide) kf11_185 rfl dX11_text_35 ?_
        refine j_iconst C (v := (nI 0)) dX11_text_38 (by decide) ?_
        refine j_putN C 11 1 rfl rfl inlC8 tyX8 tyX8_ok nmX8 (by decide) kf11_188 rfl (ty := .int) (by decide +kernel) rfl rfl (Nat.le_of_ble_eq_true rfl) dX11_text_39 (upd S1 19 (nI 0), X1, P1) rfl ?_
        refine j_iload_n C 0 dX11_text_42 rfl ?_
        refine j_if_lt C 51 dX11_text_43 (by decide) (fun c43 => ?_) (fun c43 => ?_)
        · skip
          refine j_aload_n C 1 dX11_text_51 rfl ?_
          refine j_get C (v := .ref (q 1)) 0 1 rfl rfl inlC11 (by decide) kf11_75 rfl dX11_text_52 ?_
          refine j_iload_n C 2 dX11_text_55 rfl ?_
          refine j_callVNr (As := [.int (nI 0)]) (rest := []) C vn11_198 (h_lawOf_0) ⟨1, 3, _, _, rfl, rfl, rfl⟩ rfl (Nat.le_of_ble_eq_true rfl) dX11_text_56 (by decide) ?_
          refine j_getN C (v := .ref (q 15)) 6 1 rfl rfl inlC4 (by decide) kf11_202 rfl dX11_text_59 ?_
          refine j_aload_n C 1 dX11_text_62 rfl ?_
          refine j_get C (v := .ref (q 10)) 0 4 rfl rfl inlC11 (by decide) kf11_12 rfl dX11_text_63 ?_
          refine j_getN C (v := .ref (q 19)) 10 1 rfl rfl inlC4 (by decide) kf11_202 rfl dX11_text_66 ?_
          refine j_callVNv (As := [.ref (q 19)]) (rest := []) C vn11_205 (h_copy_4_8 cd.length ((pk_un (by omega)).trans hP1.2.2.2.1) (by omega)) ⟨15, 8, _, _, rfl, rfl, rfl⟩ rfl (Nat.le_of_ble_eq_true rfl) dX11_text_69 (by decide) ?_
          rintro _ rfl
          refine j_wC (κ' := (upd (upd S1 19 (nI 0)) 23 (nI cd.length), va_up X1 76 (va_cpy (X1 80) (X1 76) 0 0 cd.length), P1)) rfl ?_
          refine j_iconst C (v := (nI 1)) dX11_text_72 (by decide) ?_
          refine j_iret C dX11_text_73 ?_
          unfold sp_text
          rw [if_pos c6, tN_nI (n := 0) (by decide), e4, tN_nI (n := nt) (by omega)]
          rw [if_pos hok]
          have b19 : ∀ k, ¬ k = 18 → ¬ k = 19 → ¬ k = 27 → ¬ k = 23 → (upd (upd S1 19 (nI 0)) 23 (nI cd.length)) k = S k := fun k h1 h2 h3 h4 => (pk_un h4).trans (a19 k h1 h2 h3)
          have bX : ∀ k, ¬ k = 80 → ¬ k = 76 → (va_up X1 76 (va_cpy (X1 80) (X1 76) 0 0 cd.length)) k = X k := fun k h1 h2 => (va_n h2).trans (hf1.2 k h1)
          have nw4 : newT row 0 4 = nI 0 := pk_us
          exact ⟨rfl, hC.nowx (fun k hk => b19 k (by omega) (by omega) (by omega) (by omega)) (fun k hk => bX k (by omega) (by omega)) ((newT_o (by omega) (by omega) (by omega)).trans e2) ((newT_o (by omega) (by omega) (by omega)).trans e3) ((newT_o (by omega) (by omega) (by omega)).trans e8) nw4 ((newT_o (by omega) (by omega) (by omega)).trans e5) ⟨hc10, hn6, hw8, by omega, hq⟩ (hF.cg (fun k _ _ => b19 k (by omega) (by omega) (by omega) (by omega)) (fun k _ _ => bX k (by omega) (by omega)) (fun _ _ => rfl) (fun k hk => newT_o (by omega) (by omega) (by omega)) hc10 hn6) (hK.t0 hw8 hq (fun k hk => b19 k (by omega) (by omega) (by omega) (by omega)) (((pk_un (by omega)).trans pk_us).trans nw4.symm) (fun k hk => bX k (by omega) (by omega)) (fun k hk => newT_o (by omega) (by omega) (by omega))) (CLaw.new (lam := 0) (by omega) ht e4 hok.1 hcd pk_us (fun j hj => (congrFun va_s j).trans ((cpy_lt hj).trans (hP1.2.2.2.2 j hj)))) (hC.l1.st3 (b19 (23 + 1) (by omega) (by omega) (by omega) (by omega)) (bX (76 + 1) (by omega) (by omega)) (newT_o (by omega) (by omega) (by omega)) (fun k hk => newT_o (by omega) (by omega) (by omega)))⟩
        · skip
          exact absurd (by decide) c43
      · rw [if_neg hok] at e1
        refine j_v (nI (readF (tapF row) nt 0).2.1) e1 ?_
        generalize hrd : (readF (tapF row) nt 0).2.1 = rd2 at *
        refine j_istore_n C [(2, .int (nI rd2)), (0, .ref (q 0)), (1, .int (nI 0))] dX11_text_30 (by decide) rfl ?_
        refine j_aload_n C 1 dX11_text_31 rfl ?_
        refine j_get C (v := .ref (q 1)) 0 1 rfl rfl inlC11 (by decide) kf11_75 rfl dX11_text_32 ?_
        refine j_getN C (v := .ref (q 11)) 1 5 rfl rfl inlC3 (by decide) kf11_185 rfl dX11_text_35 ?_
        refine j_iconst C (v := (nI 0)) dX11_text_38 (by decide) ?_
        refine j_putN C 11 1 rfl rfl inlC8 tyX8 tyX8_ok nmX8 (by decide) kf11_188 rfl (ty := .int) (by decide +kernel) rfl rfl (Nat.le_of_ble_eq_true rfl) dX11_text_39 (upd S1 19 (nI 0), X1, P1) rfl ?_
        refine j_iload_n C 0 dX11_text_42 rfl ?_
        refine j_if_lt C 51 dX11_text_43 (by decide) (fun c43 => ?_) (fun c43 => ?_)
        · rw [show (0 : Int32) = nI 0 from rfl, nI_ltI (by omega) (by omega)] at c43
          exfalso; omega
        · rw [show (0 : Int32) = nI 0 from rfl, nI_ltI (by omega) (by omega)] at c43
          refine j_bipush C (v := (-10)) dX11_text_46 (by decide) ?_
          refine j_iload_n C 0 dX11_text_48 rfl ?_
          refine j_isub C dX11_text_49 ?_
          refine j_iret C dX11_text_50 ?_
          unfold sp_text
          rw [if_pos c6, tN_nI (n := 0) (by decide), e4, tN_nI (n := nt) (by omega)]
          rw [if_neg (by rw [hrd]; exact hok), hrd]
          have r4 : ∀ k, ¬ k = 4 → upd row 4 (nI 0) k = row k := fun k h => pk_un h
          exact ⟨rfl, hC.nowx (fun k hk => a19 k (by omega) (by omega) (by omega)) (fun k hk => hf1.2 k (by omega)) ((r4 2 (by omega)).trans e2) ((r4 3 (by omega)).trans e3) ((r4 8 (by omega)).trans e8) pk_us ((r4 5 (by omega)).trans e5) ⟨hc10, hn6, hw8, by omega, hq⟩ (hF.cg (fun k _ _ => a19 k (by omega) (by omega) (by omega)) (fun k _ _ => hf1.2 k (by omega)) (fun _ _ => rfl) (fun k hk => r4 k (by omega)) hc10 hn6) (hK.t0 hw8 hq (fun k hk => a19 k (by omega) (by omega) (by omega)) (pk_us.trans pk_us.symm) (fun k hk => hf1.2 k (by omega)) (fun k hk => r4 k (by omega))) (hC.l0.st (by omega) (a19 (23 + 0) (by omega) (by omega) (by omega)) (hf1.2 (76 + 0) (by omega)) (fun k hk => r4 k (by omega))) (hC.l1.st (by omega) (a19 (23 + 1) (by omega) (by omega) (by omega)) (hf1.2 (76 + 1) (by omega)) (fun k hk => r4 k (by omega)))⟩
    · refine j_aload_n C 0 dX11_text_15 rfl ?_
      refine j_get C (v := .ref (q 10)) 0 4 rfl rfl inlC11 (by decide) kf11_12 rfl dX11_text_16 ?_
      refine j_aload_n C 0 dX11_text_19 rfl ?_
      refine j_get C (v := .ref (q 1)) 0 1 rfl rfl inlC11 (by decide) kf11_75 rfl dX11_text_20 ?_
      refine j_getN C (v := .ref (q 11)) 1 5 rfl rfl inlC3 (by decide) kf11_185 rfl dX11_text_23 ?_
      refine j_iload_n C 1 dX11_text_26 rfl ?_
      refine j_callVNO (As := [.ref (q 11), .int (nI 1)]) (rest := []) C hO vn11_194 (h_faultIn_1 (b := tapF row) (n := nt) ht hB (hK.tsz.trans e4) (fun j hj => hK.tape j hj)) ⟨10, 4, _, _, rfl, rfl, rfl⟩ rfl (Nat.le_of_ble_eq_true rfl) dX11_text_27 (by decide) ?_
      rintro r1 _ ⟨S1, X1, P1, rfl, e1, hP1, hf1⟩
      have hpl := (prs_pr (b := tapF row) (n := nt) (u := 1) 1000 0 false 0 0 [] (by omega) (fun h => by cases h) (Nat.zero_le _)).2.1
      have hll := prs_len (b := tapF row) (n := nt) (u := 1) 1000 0 false 0 0 [] (by omega) (fun h => by cases h) (Nat.zero_le _)
      rw [← readF_eq] at hpl hll
      rw [show ([] : List Int32).length = 0 from rfl] at hll
      obtain ⟨cd, hcd⟩ : ∃ x, (readF (tapF row) nt 1).2.2 = x := ⟨_, rfl⟩
      rw [hcd] at hP1 hll
      have a19 : ∀ k, ¬ k = 18 → ¬ k = 19 → ¬ k = 27 → upd S1 19 (nI 0) k = S k := fun k h1 h2 h3 => (pk_un h2).trans (hf1.1 k h1 h3)
      by_cases hok : (readF (tapF row) nt 1).1 = true ∧ (readF (tapF row) nt 1).2.1 = nt
      · rw [if_pos hok] at e1
        refine j_v (-1) e1 ?_
        refine j_istore_n C [(2, .int (-1)), (0, .ref (q 0)), (1, .int (nI 1))] dX11_text_30 (by decide) rfl ?_
        refine j_aload_n C 1 dX11_text_31 rfl ?_
        refine j_get C (v := .ref (q 1)) 0 1 rfl rfl inlC11 (by decide) kf11_75 rfl dX11_text_32 ?_
        refine j_getN C (v := .ref (q 11)) 1 5 rfl rfl inlC3 (by decide) kf11_185 rfl dX11_text_35 ?_
        refine j_iconst C (v := (nI 0)) dX11_text_38 (by decide) ?_
        refine j_putN C 11 1 rfl rfl inlC8 tyX8 tyX8_ok nmX8 (by decide) kf11_188 rfl (ty := .int) (by decide +kernel) rfl rfl (Nat.le_of_ble_eq_true rfl) dX11_text_39 (upd S1 19 (nI 0), X1, P1) rfl ?_
        refine j_iload_n C 0 dX11_text_42 rfl ?_
        refine j_if_lt C 51 dX11_text_43 (by decide) (fun c43 => ?_) (fun c43 => ?_)
        · skip
          refine j_aload_n C 1 dX11_text_51 rfl ?_
          refine j_get C (v := .ref (q 1)) 0 1 rfl rfl inlC11 (by decide) kf11_75 rfl dX11_text_52 ?_
          refine j_iload_n C 2 dX11_text_55 rfl ?_
          refine j_callVNr (As := [.int (nI 1)]) (rest := []) C vn11_198 (h_lawOf_1) ⟨1, 3, _, _, rfl, rfl, rfl⟩ rfl (Nat.le_of_ble_eq_true rfl) dX11_text_56 (by decide) ?_
          refine j_getN C (v := .ref (q 16)) 7 1 rfl rfl inlC4 (by decide) kf11_202 rfl dX11_text_59 ?_
          refine j_aload_n C 1 dX11_text_62 rfl ?_
          refine j_get C (v := .ref (q 10)) 0 4 rfl rfl inlC11 (by decide) kf11_12 rfl dX11_text_63 ?_
          refine j_getN C (v := .ref (q 19)) 10 1 rfl rfl inlC4 (by decide) kf11_202 rfl dX11_text_66 ?_
          refine j_callVNv (As := [.ref (q 19)]) (rest := []) C vn11_205 (h_copy_5_8 cd.length ((pk_un (by omega)).trans hP1.2.2.2.1) (by omega)) ⟨16, 8, _, _, rfl, rfl, rfl⟩ rfl (Nat.le_of_ble_eq_true rfl) dX11_text_69 (by decide) ?_
          rintro _ rfl
          refine j_wC (κ' := (upd (upd S1 19 (nI 0)) 24 (nI cd.length), va_up X1 77 (va_cpy (X1 80) (X1 77) 0 0 cd.length), P1)) rfl ?_
          refine j_iconst C (v := (nI 1)) dX11_text_72 (by decide) ?_
          refine j_iret C dX11_text_73 ?_
          unfold sp_text
          rw [if_pos c6, tN_nI (n := 1) (by decide), e4, tN_nI (n := nt) (by omega)]
          rw [if_pos hok]
          have b19 : ∀ k, ¬ k = 18 → ¬ k = 19 → ¬ k = 27 → ¬ k = 24 → (upd (upd S1 19 (nI 0)) 24 (nI cd.length)) k = S k := fun k h1 h2 h3 h4 => (pk_un h4).trans (a19 k h1 h2 h3)
          have bX : ∀ k, ¬ k = 80 → ¬ k = 77 → (va_up X1 77 (va_cpy (X1 80) (X1 77) 0 0 cd.length)) k = X k := fun k h1 h2 => (va_n h2).trans (hf1.2 k h1)
          have nw4 : newT row 1 4 = nI 0 := pk_us
          exact ⟨rfl, hC.nowx (fun k hk => b19 k (by omega) (by omega) (by omega) (by omega)) (fun k hk => bX k (by omega) (by omega)) ((newT_o (by omega) (by omega) (by omega)).trans e2) ((newT_o (by omega) (by omega) (by omega)).trans e3) ((newT_o (by omega) (by omega) (by omega)).trans e8) nw4 ((newT_o (by omega) (by omega) (by omega)).trans e5) ⟨hc10, hn6, hw8, by omega, hq⟩ (hF.cg (fun k _ _ => b19 k (by omega) (by omega) (by omega) (by omega)) (fun k _ _ => bX k (by omega) (by omega)) (fun _ _ => rfl) (fun k hk => newT_o (by omega) (by omega) (by omega)) hc10 hn6) (hK.t0 hw8 hq (fun k hk => b19 k (by omega) (by omega) (by omega) (by omega)) (((pk_un (by omega)).trans pk_us).trans nw4.symm) (fun k hk => bX k (by omega) (by omega)) (fun k hk => newT_o (by omega) (by omega) (by omega))) (hC.l0.st3 (b19 (23 + 0) (by omega) (by omega) (by omega) (by omega)) (bX (76 + 0) (by omega) (by omega)) (newT_o (by omega) (by omega) (by omega)) (fun k hk => newT_o (by omega) (by omega) (by omega))) (CLaw.new (lam := 1) (by omega) ht e4 hok.1 hcd pk_us (fun j hj => (congrFun va_s j).trans ((cpy_lt hj).trans (hP1.2.2.2.2 j hj))))⟩
        · skip
          exact absurd (by decide) c43
      · rw [if_neg hok] at e1
        refine j_v (nI (readF (tapF row) nt 1).2.1) e1 ?_
        generalize hrd : (readF (tapF row) nt 1).2.1 = rd2 at *
        refine j_istore_n C [(2, .int (nI rd2)), (0, .ref (q 0)), (1, .int (nI 1))] dX11_text_30 (by decide) rfl ?_
        refine j_aload_n C 1 dX11_text_31 rfl ?_
        refine j_get C (v := .ref (q 1)) 0 1 rfl rfl inlC11 (by decide) kf11_75 rfl dX11_text_32 ?_
        refine j_getN C (v := .ref (q 11)) 1 5 rfl rfl inlC3 (by decide) kf11_185 rfl dX11_text_35 ?_
        refine j_iconst C (v := (nI 0)) dX11_text_38 (by decide) ?_
        refine j_putN C 11 1 rfl rfl inlC8 tyX8 tyX8_ok nmX8 (by decide) kf11_188 rfl (ty := .int) (by decide +kernel) rfl rfl (Nat.le_of_ble_eq_true rfl) dX11_text_39 (upd S1 19 (nI 0), X1, P1) rfl ?_
        refine j_iload_n C 0 dX11_text_42 rfl ?_
        refine j_if_lt C 51 dX11_text_43 (by decide) (fun c43 => ?_) (fun c43 => ?_)
        · rw [show (0 : Int32) = nI 0 from rfl, nI_ltI (by omega) (by omega)] at c43
          exfalso; omega
        · rw [show (0 : Int32) = nI 0 from rfl, nI_ltI (by omega) (by omega)] at c43
          refine j_bipush C (v := (-10)) dX11_text_46 (by decide) ?_
          refine j_iload_n C 0 dX11_text_48 rfl ?_
          refine j_isub C dX11_text_49 ?_
          refine j_iret C dX11_text_50 ?_
          unfold sp_text
          rw [if_pos c6, tN_nI (n := 1) (by decide), e4, tN_nI (n := nt) (by omega)]
          rw [if_neg (by rw [hrd]; exact hok), hrd]
          have r4 : ∀ k, ¬ k = 4 → upd row 4 (nI 0) k = row k := fun k h => pk_un h
          exact ⟨rfl, hC.nowx (fun k hk => a19 k (by omega) (by omega) (by omega)) (fun k hk => hf1.2 k (by omega)) ((r4 2 (by omega)).trans e2) ((r4 3 (by omega)).trans e3) ((r4 8 (by omega)).trans e8) pk_us ((r4 5 (by omega)).trans e5) ⟨hc10, hn6, hw8, by omega, hq⟩ (hF.cg (fun k _ _ => a19 k (by omega) (by omega) (by omega)) (fun k _ _ => hf1.2 k (by omega)) (fun _ _ => rfl) (fun k hk => r4 k (by omega)) hc10 hn6) (hK.t0 hw8 hq (fun k hk => a19 k (by omega) (by omega) (by omega)) (pk_us.trans pk_us.symm) (fun k hk => hf1.2 k (by omega)) (fun k hk => r4 k (by omega))) (hC.l0.st (by omega) (a19 (23 + 0) (by omega) (by omega) (by omega)) (hf1.2 (76 + 0) (by omega)) (fun k hk => r4 k (by omega))) (hC.l1.st (by omega) (a19 (23 + 1) (by omega) (by omega) (by omega)) (hf1.2 (76 + 1) (by omega)) (fun k hk => r4 k (by omega)))⟩
  · replace c6 := bI_f c6
    refine j_aload_n C 0 dX11_text_9 rfl ?_
    refine j_iconst C (v := (nI 1)) dX11_text_10 (by decide) ?_
    refine j_callV (As := [.int (nI 1)]) (rest := []) C vw11_90 (h_error 1 (by decide)) ⟨0, 11, _, _, rfl, rfl, rfl⟩ rfl (Nat.le_of_ble_eq_true rfl) dX11_text_11 (by decide) ?_
    rintro _ _ ⟨rfl, rfl⟩
    refine j_iret C dX11_text_14 ?_
    unfold sp_text
    rw [if_neg c6]
    exact ⟨show (-1000000000 : Int32) - nI 1 = -1000000001 from by decide, hC.er 1⟩

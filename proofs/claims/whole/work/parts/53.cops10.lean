/-! The class's public calls: judge, ears, sheet, move. -/
theorem lt_n0 {x : Int32} (h : 0 ≤ x) : ¬ x < 0 := lnl h
theorem part_iff {a : Nat} {i n : Int32} (ha : a ≤ 40) (hn : ¬ n < 0) (hi : ¬ i < 0) : (¬ nI a < i ∧ ¬ nI a - i < n) ↔ ¬ nI a - n < i := by
  obtain ⟨i', hi', rfl⟩ := nI_of (x := i) hi
  obtain ⟨n', hn', rfl⟩ := nI_of (x := n) hn
  have e1 : (nI a - nI n').toInt = (a : Int) - n' := by
    rw [Int32.toInt_sub, nI_toInt (by omega), nI_toInt hn']
    exact Int.bmod_eq_of_le (by omega) (by omega)
  have e2 : (nI a - nI i').toInt = (a : Int) - i' := by
    rw [Int32.toInt_sub, nI_toInt (by omega), nI_toInt hi']
    exact Int.bmod_eq_of_le (by omega) (by omega)
  rw [Int32.lt_iff_toInt_lt, Int32.lt_iff_toInt_lt, Int32.lt_iff_toInt_lt, e1, e2, nI_toInt (by omega), nI_toInt hi', nI_toInt hn']
  omega
theorem part_nat {a : Nat} {i n : Int32} (ha : a ≤ 40) (h : ¬ n < 0 ∧ ¬ i < 0 ∧ ¬ nI a < i ∧ ¬ nI a - i < n) : ∃ i' n', i = nI i' ∧ n = nI n' ∧ i' + n' ≤ a := by
  obtain ⟨h1, h2, h3, h4⟩ := h
  obtain ⟨i', hi', rfl⟩ := nI_of (x := i) h2
  obtain ⟨n', hn', rfl⟩ := nI_of (x := n) h1
  refine ⟨i', n', rfl, rfl, ?_⟩
  have e2 : (nI a - nI i').toInt = (a : Int) - i' := by
    rw [Int32.toInt_sub, nI_toInt (by omega), nI_toInt hi']
    exact Int.bmod_eq_of_le (by omega) (by omega)
  rw [Int32.lt_iff_toInt_lt, nI_toInt (by omega), nI_toInt hi'] at h3
  rw [Int32.lt_iff_toInt_lt, e2, nI_toInt hn'] at h4
  omega
theorem CF.earG {S : Nat → Int32} {X : Nat → Nat → Int32} {row row' w g : Nat → Int32} {nc np : Nat} (h : CF S X 0 row w nc np) (hg : ∀ c, c < nc → g c = row' (10 + c)) (hr : ∀ k, k < 10 ∨ 20 ≤ k → row' k = row k) : CF S (va_up X 36 g) 0 row' w nc np := by
  refine ⟨?_, ?_, ?_, fun c hc => ?_, fun c hc => ?_, fun j hj p hp => ?_, fun p hp => ?_⟩
  · rw [hr 2 (by omega)]; exact h.cells
  · rw [hr 0 (by omega)]; exact h.dawn
  · rw [hr 3 (by omega)]; exact h.people
  · exact (congrFun va_s c).trans (hg c hc)
  · rw [va_n (by omega), hr _ (by omega)]; exact h.low c hc
  · rw [va_n (by omega), hr _ (by omega)]; exact h.per j hj p hp
  · rw [va_n (by omega)]; exact h.weighs p hp
theorem earG_o {row sh : Nat → Int32} {s n k : Nat} (hn : n ≤ 10) (hk : k < 10 ∨ 20 ≤ k) : earG row sh s n k = row k := by
  unfold earG; rw [if_neg (by omega)]
theorem earG_t {row sh g : Nat → Int32} {s n nc : Nat} (h : ∀ c, c < nc → g c = earG row sh s n (10 + c)) : ∀ c, c < nc → upd g n (sh (40 * s + n)) c = earG row sh s (n + 1) (10 + c) := by
  intro c hc
  by_cases e : c = n
  · subst e; rw [pk_us]; unfold earG; rw [if_pos (by omega), show 10 + c - 10 = c by omega]
  · rw [pk_un e, h c hc]; unfold earG
    by_cases g : c < n
    · rw [if_pos (by omega), if_pos (by omega)]
    · rw [if_neg (by omega), if_neg (by omega)]
theorem CR.sheet {S : Nat → Int32} {X : Nat → Nat → Int32} {P : Nat → Nat} {V row kept tried bf fd pk bo so sh mv tr : Nat → Int32} (h : CR (S, X, P) (sR V row kept tried bf fd pk bo so sh mv tr)) (hSh : ∀ s, s < 4 → (bo s = nI 0 ∨ bo s = nI 8 ∨ bo s = nI 16 ∨ bo s = nI 32) ∧ ∃ n, n ≤ 40 ∧ so s = nI n) (s : Nat) (hs : s < 4) (b : Int32) (n : Nat) (hn : n ≤ 40) : CR (upd S (29 + s) (nI n), va_up (va_up X 34 (upd (X 34) s b)) (82 + s) (zerF (X (82 + s)) n), P) (sR V row kept tried bf fd pk (upd bo s b) (upd so s (nI n)) (zroF sh s 40) mv tr) := by
  have q : ∀ k, ¬ k = 34 → ¬ k = 82 + s → va_up (va_up X 34 (upd (X 34) s b)) (82 + s) (zerF (X (82 + s)) n) k = X k := fun k a c => (va_n c).trans (va_n a)
  have u : ∀ k, ¬ k = 29 + s → upd S (29 + s) (nI n) k = S k := fun k a => pk_un a
  refine ⟨CF.st (f := 0) h.fld (fun k _ _ => u k (by omega)) (fun k _ _ => q k (by omega) (by omega)), h.kp.st (fun k _ => u k (by omega)) (fun k _ => q k (by omega) (by omega)), h.l0.st (by omega) (u _ (by omega)) (q _ (by omega) (by omega)) (fun _ _ => rfl), h.l1.st (by omega) (u _ (by omega)) (q _ (by omega) (by omega)) (fun _ _ => rfl), fun g => ?_, ?_, fun j hj => ?_, ?_, fun j hj => ?_, fun a ha => ?_, fun a ha => ?_, fun a ha j hj => ?_⟩
  · obtain ⟨a, b', c, d⟩ := h.img g
    exact ⟨CF.st (f := 1) a (fun k _ _ => u k (by omega)) (fun k _ _ => q k (by omega) (by omega)), b'.st (fun k _ => u k (by omega)) (fun k _ => q k (by omega) (by omega)), c.st (by omega) (u _ (by omega)) (q _ (by omega) (by omega)) (fun _ _ => rfl), d.st (by omega) (u _ (by omega)) (q _ (by omega) (by omega)) (fun _ _ => rfl)⟩
  · exact (u 0 (by omega)).trans h.ims
  · exact (congrFun (q 35 (by omega) (by omega)) j).trans (h.err j hj)
  · exact (u 28 (by omega)).trans h.bsz
  · exact (congrFun (q 81 (by omega) (by omega)) j).trans (h.bod j hj)
  · show va_up (va_up X 34 (upd (X 34) s b)) (82 + s) (zerF (X (82 + s)) n) 34 a = _
    rw [va_n (by omega), va_s]
    by_cases e : a = s
    · subst e; rw [pk_us, pk_us]
    · rw [pk_un e, pk_un e]; exact h.shb a ha
  · show upd S (29 + s) (nI n) (29 + a) = _
    by_cases e : a = s
    · subst e; rw [pk_us, pk_us]
    · rw [pk_un e, pk_un (by omega)]; exact h.shs a ha
  · show va_up (va_up X 34 (upd (X 34) s b)) (82 + s) (zerF (X (82 + s)) n) (82 + a) j = zroF sh s 40 (40 * a + j)
    by_cases e : a = s
    · subst e
      rw [pk_us, tN_nI (by omega)] at hj
      rw [va_s]; unfold zerF zroF
      rw [if_pos hj, if_pos (by omega)]
    · rw [pk_un e] at hj
      obtain ⟨-, m, hm, em⟩ := hSh a ha
      have hj2 : j < m := by rw [em, tN_nI (by omega)] at hj; exact hj
      rw [q _ (by omega) (by omega)]; unfold zroF
      rw [if_neg (by omega)]; exact h.shi a ha j hj
theorem CR.mov {S : Nat → Int32} {X : Nat → Nat → Int32} {P : Nat → Nat} {V row kept tried bf fd pk bo so sh mv tr : Nat → Int32} (h : CR (S, X, P) (sR V row kept tried bf fd pk bo so sh mv tr)) (hSh : ∀ s, s < 4 → (bo s = nI 0 ∨ bo s = nI 8 ∨ bo s = nI 16 ∨ bo s = nI 32) ∧ ∃ n, n ≤ 40 ∧ so s = nI n) (s t : Nat) (hs : s < 4) (ht : t < 4) (i j n a b : Nat) (ea : so s = nI a) (ha : a ≤ 40) (hi : i + n ≤ a) (eb : so t = nI b) (hb : b ≤ 40) (hj : j + n ≤ b) : CR (S, va_up X (82 + t) (va_cpy (X (82 + s)) (X (82 + t)) i j n), P) (sR V row kept tried bf fd pk bo so (mvF sh (40 * s + i) (40 * t + j) n) mv tr) := by
  have q : ∀ k, ¬ k = 82 + t → va_up X (82 + t) (va_cpy (X (82 + s)) (X (82 + t)) i j n) k = X k := fun k a => va_n a
  refine ⟨CF.st (f := 0) h.fld (fun k _ _ => rfl) (fun k _ _ => q k (by omega)), h.kp.st (fun k _ => rfl) (fun k _ => q k (by omega)), h.l0.st (by omega) rfl (q _ (by omega)) (fun _ _ => rfl), h.l1.st (by omega) rfl (q _ (by omega)) (fun _ _ => rfl), fun g => ?_, h.ims, fun j hj => ?_, h.bsz, fun j hj => ?_, fun a ha => ?_, h.shs, fun z hz k hk => ?_⟩
  · obtain ⟨a, b', c, d⟩ := h.img g
    exact ⟨CF.st (f := 1) a (fun k _ _ => rfl) (fun k _ _ => q k (by omega)), b'.st (fun k _ => rfl) (fun k _ => q k (by omega)), c.st (by omega) rfl (q _ (by omega)) (fun _ _ => rfl), d.st (by omega) rfl (q _ (by omega)) (fun _ _ => rfl)⟩
  · exact (congrFun (q 35 (by omega)) j).trans (h.err j hj)
  · exact (congrFun (q 81 (by omega)) j).trans (h.bod j hj)
  · exact (congrFun (q 34 (by omega)) a).trans (h.shb a ha)
  · show va_up X (82 + t) (va_cpy (X (82 + s)) (X (82 + t)) i j n) (82 + z) k = mvF sh (40 * s + i) (40 * t + j) n (40 * z + k)
    obtain ⟨-, m, hm, em⟩ := hSh z hz
    have hk2 : k < m := by rw [em, tN_nI (by omega)] at hk; exact hk
    by_cases e : z = t
    · subst e
      rw [va_s]; unfold va_cpy mvF
      by_cases g : j ≤ k ∧ k < j + n
      · rw [if_pos g, if_pos (by omega), show 40 * s + i + (40 * z + k - (40 * z + j)) = 40 * s + (i + (k - j)) by omega]
        exact h.shi s hs _ (by show i + (k - j) < tN (so s); rw [ea, tN_nI (by omega)]; omega)
      · rw [if_neg g, if_neg (by omega)]; exact h.shi z hz k hk
    · rw [q _ (by omega)]; unfold mvF
      rw [if_neg (by omega)]; exact h.shi z hz k hk

theorem dX11_judge_0 : decode cX11_judge 0 = .ok (.iload_n 1, 1) := by decide +kernel
theorem dX11_judge_1 : decode cX11_judge 1 = .ok (.invokestatic 246, 3) := by decide +kernel
theorem dX11_judge_4 : decode cX11_judge 4 = .ok (.ifCond .ne 9, 3) := by decide +kernel
theorem dX11_judge_7 : decode cX11_judge 7 = .ok (.aload_n 0, 1) := by decide +kernel
theorem dX11_judge_8 : decode cX11_judge 8 = .ok (.iconst 1, 1) := by decide +kernel
theorem dX11_judge_9 : decode cX11_judge 9 = .ok (.invokevirtual 90, 3) := by decide +kernel
theorem dX11_judge_12 : decode cX11_judge 12 = .ok (.ireturn, 1) := by decide +kernel
theorem dX11_judge_13 : decode cX11_judge 13 = .ok (.aload_n 0, 1) := by decide +kernel
theorem dX11_judge_14 : decode cX11_judge 14 = .ok (.getfield 29, 3) := by decide +kernel
theorem dX11_judge_17 : decode cX11_judge 17 = .ok (.iload_n 1, 1) := by decide +kernel
theorem dX11_judge_18 : decode cX11_judge 18 = .ok (.iaload, 1) := by decide +kernel
theorem dX11_judge_19 : decode cX11_judge 19 = .ok (.ifCond .ne 9, 3) := by decide +kernel
theorem dX11_judge_22 : decode cX11_judge 22 = .ok (.aload_n 0, 1) := by decide +kernel
theorem dX11_judge_23 : decode cX11_judge 23 = .ok (.iconst 2, 1) := by decide +kernel
theorem dX11_judge_24 : decode cX11_judge 24 = .ok (.invokevirtual 90, 3) := by decide +kernel
theorem dX11_judge_27 : decode cX11_judge 27 = .ok (.ireturn, 1) := by decide +kernel
theorem dX11_judge_28 : decode cX11_judge 28 = .ok (.aload_n 0, 1) := by decide +kernel
theorem dX11_judge_29 : decode cX11_judge 29 = .ok (.getfield 25, 3) := by decide +kernel
theorem dX11_judge_32 : decode cX11_judge 32 = .ok (.iload_n 1, 1) := by decide +kernel
theorem dX11_judge_33 : decode cX11_judge 33 = .ok (.aaload, 1) := by decide +kernel
theorem dX11_judge_34 : decode cX11_judge 34 = .ok (.astore_n 2, 1) := by decide +kernel
theorem dX11_judge_35 : decode cX11_judge 35 = .ok (.aload_n 2, 1) := by decide +kernel
theorem dX11_judge_36 : decode cX11_judge 36 = .ok (.getfield 188, 3) := by decide +kernel
theorem dX11_judge_39 : decode cX11_judge 39 = .ok (.aload_n 0, 1) := by decide +kernel
theorem dX11_judge_40 : decode cX11_judge 40 = .ok (.getfield 75, 3) := by decide +kernel
theorem dX11_judge_43 : decode cX11_judge 43 = .ok (.getfield 94, 3) := by decide +kernel
theorem dX11_judge_46 : decode cX11_judge 46 = .ok (.getfield 97, 3) := by decide +kernel
theorem dX11_judge_49 : decode cX11_judge 49 = .ok (.invokestatic 253, 3) := by decide +kernel
theorem dX11_judge_52 : decode cX11_judge 52 = .ok (.istore_n 3, 1) := by decide +kernel
theorem dX11_judge_53 : decode cX11_judge 53 = .ok (.iconst 0, 1) := by decide +kernel
theorem dX11_judge_54 : decode cX11_judge 54 = .ok (.istore 4, 2) := by decide +kernel
theorem dX11_judge_56 : decode cX11_judge 56 = .ok (.iload 4, 2) := by decide +kernel
theorem dX11_judge_58 : decode cX11_judge 58 = .ok (.iload_n 3, 1) := by decide +kernel
theorem dX11_judge_59 : decode cX11_judge 59 = .ok (.if_icmp .ge 35, 3) := by decide +kernel
theorem dX11_judge_62 : decode cX11_judge 62 = .ok (.aload_n 2, 1) := by decide +kernel
theorem dX11_judge_63 : decode cX11_judge 63 = .ok (.getfield 281, 3) := by decide +kernel
theorem dX11_judge_66 : decode cX11_judge 66 = .ok (.iload 4, 2) := by decide +kernel
theorem dX11_judge_68 : decode cX11_judge 68 = .ok (.iaload, 1) := by decide +kernel
theorem dX11_judge_69 : decode cX11_judge 69 = .ok (.aload_n 0, 1) := by decide +kernel
theorem dX11_judge_70 : decode cX11_judge 70 = .ok (.getfield 75, 3) := by decide +kernel
theorem dX11_judge_73 : decode cX11_judge 73 = .ok (.getfield 94, 3) := by decide +kernel
theorem dX11_judge_76 : decode cX11_judge 76 = .ok (.getfield 142, 3) := by decide +kernel
theorem dX11_judge_79 : decode cX11_judge 79 = .ok (.iload 4, 2) := by decide +kernel
theorem dX11_judge_81 : decode cX11_judge 81 = .ok (.iaload, 1) := by decide +kernel
theorem dX11_judge_82 : decode cX11_judge 82 = .ok (.if_icmp .eq 6, 3) := by decide +kernel
theorem dX11_judge_85 : decode cX11_judge 85 = .ok (.iload 4, 2) := by decide +kernel
theorem dX11_judge_87 : decode cX11_judge 87 = .ok (.ireturn, 1) := by decide +kernel
theorem dX11_judge_88 : decode cX11_judge 88 = .ok (.iinc 4 1, 3) := by decide +kernel
theorem dX11_judge_91 : decode cX11_judge 91 = .ok (.goto (-35), 3) := by decide +kernel
theorem dX11_judge_94 : decode cX11_judge 94 = .ok (.aload_n 2, 1) := by decide +kernel
theorem dX11_judge_95 : decode cX11_judge 95 = .ok (.getfield 188, 3) := by decide +kernel
theorem dX11_judge_98 : decode cX11_judge 98 = .ok (.aload_n 0, 1) := by decide +kernel
theorem dX11_judge_99 : decode cX11_judge 99 = .ok (.getfield 75, 3) := by decide +kernel
theorem dX11_judge_102 : decode cX11_judge 102 = .ok (.getfield 94, 3) := by decide +kernel
theorem dX11_judge_105 : decode cX11_judge 105 = .ok (.getfield 97, 3) := by decide +kernel
theorem dX11_judge_108 : decode cX11_judge 108 = .ok (.if_icmp .ne 7, 3) := by decide +kernel
theorem dX11_judge_111 : decode cX11_judge 111 = .ok (.iconst (-1), 1) := by decide +kernel
theorem dX11_judge_112 : decode cX11_judge 112 = .ok (.goto 4, 3) := by decide +kernel
theorem dX11_judge_115 : decode cX11_judge 115 = .ok (.iload_n 3, 1) := by decide +kernel
theorem dX11_judge_116 : decode cX11_judge 116 = .ok (.ireturn, 1) := by decide +kernel
set_option maxHeartbeats 2000000 in
set_option maxRecDepth 20000 in
theorem k_judge {l : Launch} {D : va_G} {cI cG cW : ClassId} {q : Nat → Nat} {S : Nat → Int32} {X : Nat → Nat → Int32} {P : Nat → Nat} {s : Int32} {V row kept tried bf fd pk bo so sh mv tr : Nat → Int32} {nc np nw d nt nq : Nat} (hR : RKx row nc np nw d nt nq) (hC : CR (S, X, P) (sR V row kept tried bf fd pk bo so sh mv tr)) (hSh : ∀ s, s < 4 → (bo s = nI 0 ∨ bo s = nI 8 ∨ bo s = nI 16 ∨ bo s = nI 32) ∧ ∃ n, n ≤ 40 ∧ so s = nI n) : Ci l yX11_judge cX11_judge 5 (some .int) 3 D (tyL cI cG cW) (wC cI cG cW q) [.ref (q 0), .int s] (S, X, P) (fun r τ => r = (sp_judge V row kept tried bf fd pk bo so sh mv tr s).1 ∧ CR τ (sp_judge V row kept tried bf fd pk bo so sh mv tr s).2) := by
  refine Ci.of (by decide) (Nat.le_of_ble_eq_true rfl) ?_
  intro p_ e_ s_ m_ b_ M_ c_ A_ C
  replace C : Cx _ _ _ _ _ _ _ _ RX11 _ _ _ _ := C
  refine j_L [0, 1] [(0, .ref (q 0)), (1, .int s)] rfl ?_
  obtain ⟨hI, hW, ⟨e0, hd⟩, ⟨e4, ht⟩, ⟨e5, hq⟩, hB⟩ := id hR
  obtain ⟨⟨e2, hc2, hc10⟩, ⟨e3, hn6⟩, ⟨e8, hw8⟩, hP, hE, hLo, hT0, hT1⟩ := id hI
  have hIc := hI
  have hF : CF S X 0 row (X 44) nc np := by have h := hC.fld; rw [e2, e3, tN_nI (by omega), tN_nI (by omega)] at h; exact h
  have hK : CK S X 0 row nw nt nq := by have h := hC.kp; rw [e8, e4, e5, tN_nI (by omega), tN_nI (by omega), tN_nI (by omega)] at h; exact h
  have hS1 : S 1 = row 8 := hK.wrongs
  have hS5 : S 5 = row 2 := hF.cells
  have hS7 : S 7 = row 3 := hF.people
  refine j_iload_n C 1 dX11_judge_0 rfl ?_
  refine j_callS (As := [.int s]) (rest := []) C sw11_246 (h_isSheet) rfl (Nat.le_of_ble_eq_true rfl) dX11_judge_1 (by decide) ?_
  rintro _ _ ⟨rfl, rfl⟩
  refine j_if_ne C 13 dX11_judge_4 (by decide) (fun c4 => ?_) (fun c4 => ?_)
  · replace c4 := bI_t c4
    obtain ⟨sn, gsn, hsn, rfl⟩ := inn_lit c4 (by omega)
    rcases (show sn = 0 ∨ sn = 1 ∨ sn = 2 ∨ sn = 3 by omega) with rfl | rfl | rfl | rfl
    · obtain ⟨-, zz, hzz, eso⟩ := hSh 0 (by omega)
      have hss : S 29 = nI zz := (hC.shs 0 (by omega)).trans eso
      refine j_aload_n C 0 dX11_judge_13 rfl ?_
      refine j_get C (v := .ref (q 34)) 0 7 rfl rfl inlC11 (by decide) kf11_29 rfl dX11_judge_14 ?_
      refine j_iload_n C 1 dX11_judge_17 rfl ?_
      refine j_ialdN C 34 0 rfl rfl 0 rfl (by omega) (by decide) dX11_judge_18 ?_
      refine j_v (bo 0) (hC.shb 0 (by omega)) ?_
      refine j_if_ne C 28 dX11_judge_19 (by decide) (fun c19 => ?_) (fun c19 => ?_)
      · skip
        refine j_aload_n C 0 dX11_judge_28 rfl ?_
        refine j_get C (v := .ref (q 33)) 0 6 rfl rfl inlC11 (by decide) kf11_25 rfl dX11_judge_29 ?_
        refine j_iload_n C 1 dX11_judge_32 rfl ?_
        refine j_aaldN C 33 2 rfl rfl 0 rfl (by decide) (by decide) rfl dX11_judge_33 ?_
        refine j_astore_n C [(2, .ref (q 21)), (0, .ref (q 0)), (1, .int (nI 0))] dX11_judge_34 (by decide) rfl ?_
        refine j_aload_n C 0 dX11_judge_35 rfl ?_
        refine j_getN C (v := .int (S 29)) 21 1 rfl rfl inlC8 (by decide) kf11_188 rfl dX11_judge_36 ?_
        refine j_v (nI zz) hss ?_
        refine j_aload_n C 1 dX11_judge_39 rfl ?_
        refine j_get C (v := .ref (q 1)) 0 1 rfl rfl inlC11 (by decide) kf11_75 rfl dX11_judge_40 ?_
        refine j_getN C (v := .ref (q 3)) 1 0 rfl rfl inlC3 (by decide) kf11_94 rfl dX11_judge_43 ?_
        refine j_getN C (v := .int (S 7)) 3 4 rfl rfl inlC1 (by decide) kf11_97 rfl dX11_judge_46 ?_
        refine j_v (nI np) (hS7.trans e3) ?_
        refine j_mmin (rest := []) C mn11_253 (by decide) (Nat.le_of_ble_eq_true rfl) dX11_judge_49 ?_
        refine j_v (nI (min zz np)) (mmin_nI (by omega) (by omega)) ?_
        refine j_istore_n C [(3, .int (nI (min zz np))), (2, .ref (q 21)), (0, .ref (q 0)), (1, .int (nI 0))] dX11_judge_52 (by decide) rfl ?_
        refine j_iconst C (v := (nI 0)) dX11_judge_53 (by decide) ?_
        refine j_istore C [(4, .int (nI 0)), (3, .int (nI (min zz np))), (2, .ref (q 21)), (0, .ref (q 0)), (1, .int (nI 0))] dX11_judge_54 (by decide) rfl ?_
        refine j_L [3, 4, 2, 1, 0] [(0, .ref (q 0)), (1, .int (nI 0)), (2, .ref (q 21)), (3, .int (nI (min zz np))), (4, .int (nI 0))] rfl ?_
        refine j_loop (X := Nat) (fun (i : Nat) => i ≤ zz ∧ i ≤ np ∧ ∀ m, m < i → sh (40 * 0 + m) = row (30 + 6 * m + 4)) (fun (i : Nat) => np - i) (fun (i : Nat) => (S, X, P)) (fun (i : Nat) => [(0, .ref (q 0)), (1, .int (nI 0)), (2, .ref (q 21)), (3, .int (nI (min zz np))), (4, .int (nI i))]) (0) (⟨Nat.zero_le _, Nat.zero_le _, fun m h => absurd h (Nat.not_lt_zero _)⟩) rfl rfl ?_
        rintro i ⟨hi, hi2, hu⟩ ih
        try dsimp only at ih ⊢
        refine j_iload C 4 dX11_judge_56 rfl ?_
        refine j_iload_n C 3 dX11_judge_58 rfl ?_
        refine j_icmp_ge C 94 dX11_judge_59 (by decide) (fun c59 => ?_) (fun c59 => ?_)
        · rw [nI_leI (by omega) (by omega)] at c59
          refine j_aload_n C 2 dX11_judge_94 rfl ?_
          refine j_getN C (v := .int (S 29)) 21 1 rfl rfl inlC8 (by decide) kf11_188 rfl dX11_judge_95 ?_
          refine j_v (nI zz) hss ?_
          refine j_aload_n C 0 dX11_judge_98 rfl ?_
          refine j_get C (v := .ref (q 1)) 0 1 rfl rfl inlC11 (by decide) kf11_75 rfl dX11_judge_99 ?_
          refine j_getN C (v := .ref (q 3)) 1 0 rfl rfl inlC3 (by decide) kf11_94 rfl dX11_judge_102 ?_
          refine j_getN C (v := .int (S 7)) 3 4 rfl rfl inlC1 (by decide) kf11_97 rfl dX11_judge_105 ?_
          refine j_v (nI np) (hS7.trans e3) ?_
          refine j_icmp_ne C 115 dX11_judge_108 (by decide) (fun c108 => ?_) (fun c108 => ?_)
          · rw [nI_eq (by omega) (by omega)] at c108
            refine j_iload_n C 3 dX11_judge_115 rfl ?_
            refine j_iret C dX11_judge_116 ?_
            unfold sp_judge
            rw [if_pos (show inn (nI 0) 0 3 from c4), tN_nI (n := 0) (by decide)]
            rw [if_neg c19]
            have hl : lsF (judP row so sh 0) 7 0 = i := lsF_at (Nat.zero_le _) (by omega) (fun m _ hm h => h ⟨by rw [e3, tN_nI (by omega)]; omega, by rw [eso, tN_nI (by omega)]; omega, hu m hm⟩) (Or.inl (fun h => by rw [eso, e3, tN_nI (by omega), tN_nI (by omega)] at h; omega))
            rw [hl, e3, eso, tN_nI (n := np) (by omega), tN_nI (n := zz) (by omega)]
            rw [if_neg (by omega)]
            exact ⟨by congr 1; omega, hC⟩
          · rw [nI_eq (by omega) (by omega)] at c108
            refine j_iconst C (v := (-1)) dX11_judge_111 (by decide) ?_
            refine j_goto C 116 dX11_judge_112 (by decide) ?_
            refine j_iret C dX11_judge_116 ?_
            unfold sp_judge
            rw [if_pos (show inn (nI 0) 0 3 from c4), tN_nI (n := 0) (by decide)]
            rw [if_neg c19]
            have hl : lsF (judP row so sh 0) 7 0 = i := lsF_at (Nat.zero_le _) (by omega) (fun m _ hm h => h ⟨by rw [e3, tN_nI (by omega)]; omega, by rw [eso, tN_nI (by omega)]; omega, hu m hm⟩) (Or.inl (fun h => by rw [eso, e3, tN_nI (by omega), tN_nI (by omega)] at h; omega))
            rw [hl, e3, eso, tN_nI (n := np) (by omega), tN_nI (n := zz) (by omega)]
            rw [if_pos (by omega)]
            exact ⟨rfl, hC⟩
        · rw [nI_leI (by omega) (by omega)] at c59
          refine j_aload_n C 2 dX11_judge_62 rfl ?_
          refine j_getN C (v := .ref (q 82)) 21 0 rfl rfl inlC8 (by decide) kf11_281 rfl dX11_judge_63 ?_
          refine j_iload C 4 dX11_judge_66 rfl ?_
          refine j_ialdN C 82 0 rfl rfl i rfl (by omega) (by decide) dX11_judge_68 ?_
          refine j_v (sh (40 * 0 + i)) (hC.shi 0 (by omega) i (by rw [eso, tN_nI (by omega)]; omega)) ?_
          refine j_aload_n C 0 dX11_judge_69 rfl ?_
          refine j_get C (v := .ref (q 1)) 0 1 rfl rfl inlC11 (by decide) kf11_75 rfl dX11_judge_70 ?_
          refine j_getN C (v := .ref (q 3)) 1 0 rfl rfl inlC3 (by decide) kf11_94 rfl dX11_judge_73 ?_
          refine j_getN C (v := .ref (q 42)) 3 9 rfl rfl inlC1 (by decide) kf11_142 rfl dX11_judge_76 ?_
          refine j_iload C 4 dX11_judge_79 rfl ?_
          refine j_ialdN C 42 0 rfl rfl i rfl (by omega) (by decide) dX11_judge_81 ?_
          refine j_v (row (30 + 6 * i + 4)) (hF.per 4 (by omega) i (by omega)) ?_
          refine j_icmp_eq C 88 dX11_judge_82 (by decide) (fun c82 => ?_) (fun c82 => ?_)
          · skip
            refine j_iinc C (v := (nI (i + 1))) 4 [(4, .int (nI (i + 1))), (0, .ref (q 0)), (1, .int (nI 0)), (2, .ref (q 21)), (3, .int (nI (min zz np)))] dX11_judge_88 rfl (nI_1 _) (by decide) rfl ?_
            refine j_goto C 56 dX11_judge_91 (by decide) ?_
            refine j_L [1, 2, 3, 4, 0] [(0, .ref (q 0)), (1, .int (nI 0)), (2, .ref (q 21)), (3, .int (nI (min zz np))), (4, .int (nI (i + 1)))] rfl ?_
            exact ih (i + 1) (⟨by omega, by omega, fun m hm => by
      by_cases e : m = i
      · subst e; exact c82
      · exact hu m (by omega)⟩) (by omega)
          · skip
            refine j_iload C 4 dX11_judge_85 rfl ?_
            refine j_iret C dX11_judge_87 ?_
            unfold sp_judge
            rw [if_pos (show inn (nI 0) 0 3 from c4), tN_nI (n := 0) (by decide)]
            rw [if_neg c19]
            have hl : lsF (judP row so sh 0) 7 0 = i := lsF_at (Nat.zero_le _) (by omega) (fun m _ hm h => h ⟨by rw [e3, tN_nI (by omega)]; omega, by rw [eso, tN_nI (by omega)]; omega, hu m hm⟩) (Or.inl (fun h => c82 h.2.2))
            rw [hl, e3, eso, tN_nI (n := np) (by omega), tN_nI (n := zz) (by omega)]
            rw [if_neg (by omega)]
            exact ⟨rfl, hC⟩
      · skip
        refine j_aload_n C 0 dX11_judge_22 rfl ?_
        refine j_iconst C (v := (nI 2)) dX11_judge_23 (by decide) ?_
        refine j_callV (As := [.int (nI 2)]) (rest := []) C vw11_90 (h_error 2 (by decide)) ⟨0, 11, _, _, rfl, rfl, rfl⟩ rfl (Nat.le_of_ble_eq_true rfl) dX11_judge_24 (by decide) ?_
        rintro _ _ ⟨rfl, rfl⟩
        refine j_iret C dX11_judge_27 ?_
        unfold sp_judge
        rw [if_pos (show inn (nI 0) 0 3 from c4), tN_nI (n := 0) (by decide)]
        rw [if_pos c19]
        exact ⟨show (-1000000000 : Int32) - nI 2 = -1000000002 from by decide, hC.er 2⟩
    · obtain ⟨-, zz, hzz, eso⟩ := hSh 1 (by omega)
      have hss : S 30 = nI zz := (hC.shs 1 (by omega)).trans eso
      refine j_aload_n C 0 dX11_judge_13 rfl ?_
      refine j_get C (v := .ref (q 34)) 0 7 rfl rfl inlC11 (by decide) kf11_29 rfl dX11_judge_14 ?_
      refine j_iload_n C 1 dX11_judge_17 rfl ?_
      refine j_ialdN C 34 0 rfl rfl 1 rfl (by omega) (by decide) dX11_judge_18 ?_
      refine j_v (bo 1) (hC.shb 1 (by omega)) ?_
      refine j_if_ne C 28 dX11_judge_19 (by decide) (fun c19 => ?_) (fun c19 => ?_)
      · skip
        refine j_aload_n C 0 dX11_judge_28 rfl ?_
        refine j_get C (v := .ref (q 33)) 0 6 rfl rfl inlC11 (by decide) kf11_25 rfl dX11_judge_29 ?_
        refine j_iload_n C 1 dX11_judge_32 rfl ?_
        refine j_aaldN C 33 2 rfl rfl 1 rfl (by decide) (by decide) rfl dX11_judge_33 ?_
        refine j_astore_n C [(2, .ref (q 22)), (0, .ref (q 0)), (1, .int (nI 1))] dX11_judge_34 (by decide) rfl ?_
        refine j_aload_n C 0 dX11_judge_35 rfl ?_
        refine j_getN C (v := .int (S 30)) 22 1 rfl rfl inlC8 (by decide) kf11_188 rfl dX11_judge_36 ?_
        refine j_v (nI zz) hss ?_
        refine j_aload_n C 1 dX11_judge_39 rfl ?_
        refine j_get C (v := .ref (q 1)) 0 1 rfl rfl inlC11 (by decide) kf11_75 rfl dX11_judge_40 ?_
        refine j_getN C (v := .ref (q 3)) 1 0 rfl rfl inlC3 (by decide) kf11_94 rfl dX11_judge_43 ?_
        refine j_getN C (v := .int (S 7)) 3 4 rfl rfl inlC1 (by decide) kf11_97 rfl dX11_judge_46 ?_
        refine j_v (nI np) (hS7.trans e3) ?_
        refine j_mmin (rest := []) C mn11_253 (by decide) (Nat.le_of_ble_eq_true rfl) dX11_judge_49 ?_
        refine j_v (nI (min zz np)) (mmin_nI (by omega) (by omega)) ?_
        refine j_istore_n C [(3, .int (nI (min zz np))), (2, .ref (q 22)), (0, .ref (q 0)), (1, .int (nI 1))] dX11_judge_52 (by decide) rfl ?_
        refine j_iconst C (v := (nI 0)) dX11_judge_53 (by decide) ?_
        refine j_istore C [(4, .int (nI 0)), (3, .int (nI (min zz np))), (2, .ref (q 22)), (0, .ref (q 0)), (1, .int (nI 1))] dX11_judge_54 (by decide) rfl ?_
        refine j_L [3, 4, 2, 1, 0] [(0, .ref (q 0)), (1, .int (nI 1)), (2, .ref (q 22)), (3, .int (nI (min zz np))), (4, .int (nI 0))] rfl ?_
        refine j_loop (X := Nat) (fun (i : Nat) => i ≤ zz ∧ i ≤ np ∧ ∀ m, m < i → sh (40 * 1 + m) = row (30 + 6 * m + 4)) (fun (i : Nat) => np - i) (fun (i : Nat) => (S, X, P)) (fun (i : Nat) => [(0, .ref (q 0)), (1, .int (nI 1)), (2, .ref (q 22)), (3, .int (nI (min zz np))), (4, .int (nI i))]) (0) (⟨Nat.zero_le _, Nat.zero_le _, fun m h => absurd h (Nat.not_lt_zero _)⟩) rfl rfl ?_
        rintro i ⟨hi, hi2, hu⟩ ih
        try dsimp only at ih ⊢
        refine j_iload C 4 dX11_judge_56 rfl ?_
        refine j_iload_n C 3 dX11_judge_58 rfl ?_
        refine j_icmp_ge C 94 dX11_judge_59 (by decide) (fun c59 => ?_) (fun c59 => ?_)
        · rw [nI_leI (by omega) (by omega)] at c59
          refine j_aload_n C 2 dX11_judge_94 rfl ?_
          refine j_getN C (v := .int (S 30)) 22 1 rfl rfl inlC8 (by decide) kf11_188 rfl dX11_judge_95 ?_
          refine j_v (nI zz) hss ?_
          refine j_aload_n C 0 dX11_judge_98 rfl ?_
          refine j_get C (v := .ref (q 1)) 0 1 rfl rfl inlC11 (by decide) kf11_75 rfl dX11_judge_99 ?_
          refine j_getN C (v := .ref (q 3)) 1 0 rfl rfl inlC3 (by decide) kf11_94 rfl dX11_judge_102 ?_
          refine j_getN C (v := .int (S 7)) 3 4 rfl rfl inlC1 (by decide) kf11_97 rfl dX11_judge_105 ?_
          refine j_v (nI np) (hS7.trans e3) ?_
          refine j_icmp_ne C 115 dX11_judge_108 (by decide) (fun c108 => ?_) (fun c108 => ?_)
          · rw [nI_eq (by omega) (by omega)] at c108
            refine j_iload_n C 3 dX11_judge_115 rfl ?_
            refine j_iret C dX11_judge_116 ?_
            unfold sp_judge
            rw [if_pos (show inn (nI 1) 0 3 from c4), tN_nI (n := 1) (by decide)]
            rw [if_neg c19]
            have hl : lsF (judP row so sh 1) 7 0 = i := lsF_at (Nat.zero_le _) (by omega) (fun m _ hm h => h ⟨by rw [e3, tN_nI (by omega)]; omega, by rw [eso, tN_nI (by omega)]; omega, hu m hm⟩) (Or.inl (fun h => by rw [eso, e3, tN_nI (by omega), tN_nI (by omega)] at h; omega))
            rw [hl, e3, eso, tN_nI (n := np) (by omega), tN_nI (n := zz) (by omega)]
            rw [if_neg (by omega)]
            exact ⟨by congr 1; omega, hC⟩
          · rw [nI_eq (by omega) (by omega)] at c108
            refine j_iconst C (v := (-1)) dX11_judge_111 (by decide) ?_
            refine j_goto C 116 dX11_judge_112 (by decide) ?_
            refine j_iret C dX11_judge_116 ?_
            unfold sp_judge
            rw [if_pos (show inn (nI 1) 0 3 from c4), tN_nI (n := 1) (by decide)]
            rw [if_neg c19]
            have hl : lsF (judP row so sh 1) 7 0 = i := lsF_at (Nat.zero_le _) (by omega) (fun m _ hm h => h ⟨by rw [e3, tN_nI (by omega)]; omega, by rw [eso, tN_nI (by omega)]; omega, hu m hm⟩) (Or.inl (fun h => by rw [eso, e3, tN_nI (by omega), tN_nI (by omega)] at h; omega))
            rw [hl, e3, eso, tN_nI (n := np) (by omega), tN_nI (n := zz) (by omega)]
            rw [if_pos (by omega)]
            exact ⟨rfl, hC⟩
        · rw [nI_leI (by omega) (by omega)] at c59
          refine j_aload_n C 2 dX11_judge_62 rfl ?_
          refine j_getN C (v := .ref (q 83)) 22 0 rfl rfl inlC8 (by decide) kf11_281 rfl dX11_judge_63 ?_
          refine j_iload C 4 dX11_judge_66 rfl ?_
          refine j_ialdN C 83 0 rfl rfl i rfl (by omega) (by decide) dX11_judge_68 ?_
          refine j_v (sh (40 * 1 + i)) (hC.shi 1 (by omega) i (by rw [eso, tN_nI (by omega)]; omega)) ?_
          refine j_aload_n C 0 dX11_judge_69 rfl ?_
          refine j_get C (v := .ref (q 1)) 0 1 rfl rfl inlC11 (by decide) kf11_75 rfl dX11_judge_70 ?_
          refine j_getN C (v := .ref (q 3)) 1 0 rfl rfl inlC3 (by decide) kf11_94 rfl dX11_judge_73 ?_
          refine j_getN C (v := .ref (q 42)) 3 9 rfl rfl inlC1 (by decide) kf11_142 rfl dX11_judge_76 ?_
          refine j_iload C 4 dX11_judge_79 rfl ?_
          refine j_ialdN C 42 0 rfl rfl i rfl (by omega) (by decide) dX11_judge_81 ?_
          refine j_v (row (30 + 6 * i + 4)) (hF.per 4 (by omega) i (by omega)) ?_
          refine j_icmp_eq C 88 dX11_judge_82 (by decide) (fun c82 => ?_) (fun c82 => ?_)
          · skip
            refine j_iinc C (v := (nI (i + 1))) 4 [(4, .int (nI (i + 1))), (0, .ref (q 0)), (1, .int (nI 1)), (2, .ref (q 22)), (3, .int (nI (min zz np)))] dX11_judge_88 rfl (nI_1 _) (by decide) rfl ?_
            refine j_goto C 56 dX11_judge_91 (by decide) ?_
            refine j_L [1, 2, 3, 4, 0] [(0, .ref (q 0)), (1, .int (nI 1)), (2, .ref (q 22)), (3, .int (nI (min zz np))), (4, .int (nI (i + 1)))] rfl ?_
            exact ih (i + 1) (⟨by omega, by omega, fun m hm => by
      by_cases e : m = i
      · subst e; exact c82
      · exact hu m (by omega)⟩) (by omega)
          · skip
            refine j_iload C 4 dX11_judge_85 rfl ?_
            refine j_iret C dX11_judge_87 ?_
            unfold sp_judge
            rw [if_pos (show inn (nI 1) 0 3 from c4), tN_nI (n := 1) (by decide)]
            rw [if_neg c19]
            have hl : lsF (judP row so sh 1) 7 0 = i := lsF_at (Nat.zero_le _) (by omega) (fun m _ hm h => h ⟨by rw [e3, tN_nI (by omega)]; omega, by rw [eso, tN_nI (by omega)]; omega, hu m hm⟩) (Or.inl (fun h => c82 h.2.2))
            rw [hl, e3, eso, tN_nI (n := np) (by omega), tN_nI (n := zz) (by omega)]
            rw [if_neg (by omega)]
            exact ⟨rfl, hC⟩
      · skip
        refine j_aload_n C 0 dX11_judge_22 rfl ?_
        refine j_iconst C (v := (nI 2)) dX11_judge_23 (by decide) ?_
        refine j_callV (As := [.int (nI 2)]) (rest := []) C vw11_90 (h_error 2 (by decide)) ⟨0, 11, _, _, rfl, rfl, rfl⟩ rfl (Nat.le_of_ble_eq_true rfl) dX11_judge_24 (by decide) ?_
        rintro _ _ ⟨rfl, rfl⟩
        refine j_iret C dX11_judge_27 ?_
        unfold sp_judge
        rw [if_pos (show inn (nI 1) 0 3 from c4), tN_nI (n := 1) (by decide)]
        rw [if_pos c19]
        exact ⟨show (-1000000000 : Int32) - nI 2 = -1000000002 from by decide, hC.er 2⟩
    · obtain ⟨-, zz, hzz, eso⟩ := hSh 2 (by omega)
      have hss : S 31 = nI zz := (hC.shs 2 (by omega)).trans eso
      refine j_aload_n C 0 dX11_judge_13 rfl ?_
      refine j_get C (v := .ref (q 34)) 0 7 rfl rfl inlC11 (by decide) kf11_29 rfl dX11_judge_14 ?_
      refine j_iload_n C 1 dX11_judge_17 rfl ?_
      refine j_ialdN C 34 0 rfl rfl 2 rfl (by omega) (by decide) dX11_judge_18 ?_
      refine j_v (bo 2) (hC.shb 2 (by omega)) ?_
      refine j_if_ne C 28 dX11_judge_19 (by decide) (fun c19 => ?_) (fun c19 => ?_)
      · skip
        refine j_aload_n C 0 dX11_judge_28 rfl ?_
        refine j_get C (v := .ref (q 33)) 0 6 rfl rfl inlC11 (by decide) kf11_25 rfl dX11_judge_29 ?_
        refine j_iload_n C 1 dX11_judge_32 rfl ?_
        refine j_aaldN C 33 2 rfl rfl 2 rfl (by decide) (by decide) rfl dX11_judge_33 ?_
        refine j_astore_n C [(2, .ref (q 23)), (0, .ref (q 0)), (1, .int (nI 2))] dX11_judge_34 (by decide) rfl ?_
        refine j_aload_n C 0 dX11_judge_35 rfl ?_
        refine j_getN C (v := .int (S 31)) 23 1 rfl rfl inlC8 (by decide) kf11_188 rfl dX11_judge_36 ?_
        refine j_v (nI zz) hss ?_
        refine j_aload_n C 1 dX11_judge_39 rfl ?_
        refine j_get C (v := .ref (q 1)) 0 1 rfl rfl inlC11 (by decide) kf11_75 rfl dX11_judge_40 ?_
        refine j_getN C (v := .ref (q 3)) 1 0 rfl rfl inlC3 (by decide) kf11_94 rfl dX11_judge_43 ?_
        refine j_getN C (v := .int (S 7)) 3 4 rfl rfl inlC1 (by decide) kf11_97 rfl dX11_judge_46 ?_
        refine j_v (nI np) (hS7.trans e3) ?_
        refine j_mmin (rest := []) C mn11_253 (by decide) (Nat.le_of_ble_eq_true rfl) dX11_judge_49 ?_
        refine j_v (nI (min zz np)) (mmin_nI (by omega) (by omega)) ?_
        refine j_istore_n C [(3, .int (nI (min zz np))), (2, .ref (q 23)), (0, .ref (q 0)), (1, .int (nI 2))] dX11_judge_52 (by decide) rfl ?_
        refine j_iconst C (v := (nI 0)) dX11_judge_53 (by decide) ?_
        refine j_istore C [(4, .int (nI 0)), (3, .int (nI (min zz np))), (2, .ref (q 23)), (0, .ref (q 0)), (1, .int (nI 2))] dX11_judge_54 (by decide) rfl ?_
        refine j_L [3, 4, 2, 1, 0] [(0, .ref (q 0)), (1, .int (nI 2)), (2, .ref (q 23)), (3, .int (nI (min zz np))), (4, .int (nI 0))] rfl ?_
        refine j_loop (X := Nat) (fun (i : Nat) => i ≤ zz ∧ i ≤ np ∧ ∀ m, m < i → sh (40 * 2 + m) = row (30 + 6 * m + 4)) (fun (i : Nat) => np - i) (fun (i : Nat) => (S, X, P)) (fun (i : Nat) => [(0, .ref (q 0)), (1, .int (nI 2)), (2, .ref (q 23)), (3, .int (nI (min zz np))), (4, .int (nI i))]) (0) (⟨Nat.zero_le _, Nat.zero_le _, fun m h => absurd h (Nat.not_lt_zero _)⟩) rfl rfl ?_
        rintro i ⟨hi, hi2, hu⟩ ih
        try dsimp only at ih ⊢
        refine j_iload C 4 dX11_judge_56 rfl ?_
        refine j_iload_n C 3 dX11_judge_58 rfl ?_
        refine j_icmp_ge C 94 dX11_judge_59 (by decide) (fun c59 => ?_) (fun c59 => ?_)
        · rw [nI_leI (by omega) (by omega)] at c59
          refine j_aload_n C 2 dX11_judge_94 rfl ?_
          refine j_getN C (v := .int (S 31)) 23 1 rfl rfl inlC8 (by decide) kf11_188 rfl dX11_judge_95 ?_
          refine j_v (nI zz) hss ?_
          refine j_aload_n C 0 dX11_judge_98 rfl ?_
          refine j_get C (v := .ref (q 1)) 0 1 rfl rfl inlC11 (by decide) kf11_75 rfl dX11_judge_99 ?_
          refine j_getN C (v := .ref (q 3)) 1 0 rfl rfl inlC3 (by decide) kf11_94 rfl dX11_judge_102 ?_
          refine j_getN C (v := .int (S 7)) 3 4 rfl rfl inlC1 (by decide) kf11_97 rfl dX11_judge_105 ?_
          refine j_v (nI np) (hS7.trans e3) ?_
          refine j_icmp_ne C 115 dX11_judge_108 (by decide) (fun c108 => ?_) (fun c108 => ?_)
          · rw [nI_eq (by omega) (by omega)] at c108
            refine j_iload_n C 3 dX11_judge_115 rfl ?_
            refine j_iret C dX11_judge_116 ?_
            unfold sp_judge
            rw [if_pos (show inn (nI 2) 0 3 from c4), tN_nI (n := 2) (by decide)]
            rw [if_neg c19]
            have hl : lsF (judP row so sh 2) 7 0 = i := lsF_at (Nat.zero_le _) (by omega) (fun m _ hm h => h ⟨by rw [e3, tN_nI (by omega)]; omega, by rw [eso, tN_nI (by omega)]; omega, hu m hm⟩) (Or.inl (fun h => by rw [eso, e3, tN_nI (by omega), tN_nI (by omega)] at h; omega))
            rw [hl, e3, eso, tN_nI (n := np) (by omega), tN_nI (n := zz) (by omega)]
            rw [if_neg (by omega)]
            exact ⟨by congr 1; omega, hC⟩
          · rw [nI_eq (by omega) (by omega)] at c108
            refine j_iconst C (v := (-1)) dX11_judge_111 (by decide) ?_
            refine j_goto C 116 dX11_judge_112 (by decide) ?_
            refine j_iret C dX11_judge_116 ?_
            unfold sp_judge
            rw [if_pos (show inn (nI 2) 0 3 from c4), tN_nI (n := 2) (by decide)]
            rw [if_neg c19]
            have hl : lsF (judP row so sh 2) 7 0 = i := lsF_at (Nat.zero_le _) (by omega) (fun m _ hm h => h ⟨by rw [e3, tN_nI (by omega)]; omega, by rw [eso, tN_nI (by omega)]; omega, hu m hm⟩) (Or.inl (fun h => by rw [eso, e3, tN_nI (by omega), tN_nI (by omega)] at h; omega))
            rw [hl, e3, eso, tN_nI (n := np) (by omega), tN_nI (n := zz) (by omega)]
            rw [if_pos (by omega)]
            exact ⟨rfl, hC⟩
        · rw [nI_leI (by omega) (by omega)] at c59
          refine j_aload_n C 2 dX11_judge_62 rfl ?_
          refine j_getN C (v := .ref (q 84)) 23 0 rfl rfl inlC8 (by decide) kf11_281 rfl dX11_judge_63 ?_
          refine j_iload C 4 dX11_judge_66 rfl ?_
          refine j_ialdN C 84 0 rfl rfl i rfl (by omega) (by decide) dX11_judge_68 ?_
          refine j_v (sh (40 * 2 + i)) (hC.shi 2 (by omega) i (by rw [eso, tN_nI (by omega)]; omega)) ?_
          refine j_aload_n C 0 dX11_judge_69 rfl ?_
          refine j_get C (v := .ref (q 1)) 0 1 rfl rfl inlC11 (by decide) kf11_75 rfl dX11_judge_70 ?_
          refine j_getN C (v := .ref (q 3)) 1 0 rfl rfl inlC3 (by decide) kf11_94 rfl dX11_judge_73 ?_
          refine j_getN C (v := .ref (q 42)) 3 9 rfl rfl inlC1 (by decide) kf11_142 rfl dX11_judge_76 ?_
          refine j_iload C 4 dX11_judge_79 rfl ?_
          refine j_ialdN C 42 0 rfl rfl i rfl (by omega) (by decide) dX11_judge_81 ?_
          refine j_v (row (30 + 6 * i + 4)) (hF.per 4 (by omega) i (by omega)) ?_
          refine j_icmp_eq C 88 dX11_judge_82 (by decide) (fun c82 => ?_) (fun c82 => ?_)
          · skip
            refine j_iinc C (v := (nI (i + 1))) 4 [(4, .int (nI (i + 1))), (0, .ref (q 0)), (1, .int (nI 2)), (2, .ref (q 23)), (3, .int (nI (min zz np)))] dX11_judge_88 rfl (nI_1 _) (by decide) rfl ?_
            refine j_goto C 56 dX11_judge_91 (by decide) ?_
            refine j_L [1, 2, 3, 4, 0] [(0, .ref (q 0)), (1, .int (nI 2)), (2, .ref (q 23)), (3, .int (nI (min zz np))), (4, .int (nI (i + 1)))] rfl ?_
            exact ih (i + 1) (⟨by omega, by omega, fun m hm => by
      by_cases e : m = i
      · subst e; exact c82
      · exact hu m (by omega)⟩) (by omega)
          · skip
            refine j_iload C 4 dX11_judge_85 rfl ?_
            refine j_iret C dX11_judge_87 ?_
            unfold sp_judge
            rw [if_pos (show inn (nI 2) 0 3 from c4), tN_nI (n := 2) (by decide)]
            rw [if_neg c19]
            have hl : lsF (judP row so sh 2) 7 0 = i := lsF_at (Nat.zero_le _) (by omega) (fun m _ hm h => h ⟨by rw [e3, tN_nI (by omega)]; omega, by rw [eso, tN_nI (by omega)]; omega, hu m hm⟩) (Or.inl (fun h => c82 h.2.2))
            rw [hl, e3, eso, tN_nI (n := np) (by omega), tN_nI (n := zz) (by omega)]
            rw [if_neg (by omega)]
            exact ⟨rfl, hC⟩
      · skip
        refine j_aload_n C 0 dX11_judge_22 rfl ?_
        refine j_iconst C (v := (nI 2)) dX11_judge_23 (by decide) ?_
        refine j_callV (As := [.int (nI 2)]) (rest := []) C vw11_90 (h_error 2 (by decide)) ⟨0, 11, _, _, rfl, rfl, rfl⟩ rfl (Nat.le_of_ble_eq_true rfl) dX11_judge_24 (by decide) ?_
        rintro _ _ ⟨rfl, rfl⟩
        refine j_iret C dX11_judge_27 ?_
        unfold sp_judge
        rw [if_pos (show inn (nI 2) 0 3 from c4), tN_nI (n := 2) (by decide)]
        rw [if_pos c19]
        exact ⟨show (-1000000000 : Int32) - nI 2 = -1000000002 from by decide, hC.er 2⟩
    · obtain ⟨-, zz, hzz, eso⟩ := hSh 3 (by omega)
      have hss : S 32 = nI zz := (hC.shs 3 (by omega)).trans eso
      refine j_aload_n C 0 dX11_judge_13 rfl ?_
      refine j_get C (v := .ref (q 34)) 0 7 rfl rfl inlC11 (by decide) kf11_29 rfl dX11_judge_14 ?_
      refine j_iload_n C 1 dX11_judge_17 rfl ?_
      refine j_ialdN C 34 0 rfl rfl 3 rfl (by omega) (by decide) dX11_judge_18 ?_
      refine j_v (bo 3) (hC.shb 3 (by omega)) ?_
      refine j_if_ne C 28 dX11_judge_19 (by decide) (fun c19 => ?_) (fun c19 => ?_)
      · skip
        refine j_aload_n C 0 dX11_judge_28 rfl ?_
        refine j_get C (v := .ref (q 33)) 0 6 rfl rfl inlC11 (by decide) kf11_25 rfl dX11_judge_29 ?_
        refine j_iload_n C 1 dX11_judge_32 rfl ?_
        refine j_aaldN C 33 2 rfl rfl 3 rfl (by decide) (by decide) rfl dX11_judge_33 ?_
        refine j_astore_n C [(2, .ref (q 24)), (0, .ref (q 0)), (1, .int (nI 3))] dX11_judge_34 (by decide) rfl ?_
        refine j_aload_n C 0 dX11_judge_35 rfl ?_
        refine j_getN C (v := .int (S 32)) 24 1 rfl rfl inlC8 (by decide) kf11_188 rfl dX11_judge_36 ?_
        refine j_v (nI zz) hss ?_
        refine j_aload_n C 1 dX11_judge_39 rfl ?_
        refine j_get C (v := .ref (q 1)) 0 1 rfl rfl inlC11 (by decide) kf11_75 rfl dX11_judge_40 ?_
        refine j_getN C (v := .ref (q 3)) 1 0 rfl rfl inlC3 (by decide) kf11_94 rfl dX11_judge_43 ?_
        refine j_getN C (v := .int (S 7)) 3 4 rfl rfl inlC1 (by decide) kf11_97 rfl dX11_judge_46 ?_
        refine j_v (nI np) (hS7.trans e3) ?_
        refine j_mmin (rest := []) C mn11_253 (by decide) (Nat.le_of_ble_eq_true rfl) dX11_judge_49 ?_
        refine j_v (nI (min zz np)) (mmin_nI (by omega) (by omega)) ?_
        refine j_istore_n C [(3, .int (nI (min zz np))), (2, .ref (q 24)), (0, .ref (q 0)), (1, .int (nI 3))] dX11_judge_52 (by decide) rfl ?_
        refine j_iconst C (v := (nI 0)) dX11_judge_53 (by decide) ?_
        refine j_istore C [(4, .int (nI 0)), (3, .int (nI (min zz np))), (2, .ref (q 24)), (0, .ref (q 0)), (1, .int (nI 3))] dX11_judge_54 (by decide) rfl ?_
        refine j_L [3, 4, 2, 1, 0] [(0, .ref (q 0)), (1, .int (nI 3)), (2, .ref (q 24)), (3, .int (nI (min zz np))), (4, .int (nI 0))] rfl ?_
        refine j_loop (X := Nat) (fun (i : Nat) => i ≤ zz ∧ i ≤ np ∧ ∀ m, m < i → sh (40 * 3 + m) = row (30 + 6 * m + 4)) (fun (i : Nat) => np - i) (fun (i : Nat) => (S, X, P)) (fun (i : Nat) => [(0, .ref (q 0)), (1, .int (nI 3)), (2, .ref (q 24)), (3, .int (nI (min zz np))), (4, .int (nI i))]) (0) (⟨Nat.zero_le _, Nat.zero_le _, fun m h => absurd h (Nat.not_lt_zero _)⟩) rfl rfl ?_
        rintro i ⟨hi, hi2, hu⟩ ih
        try dsimp only at ih ⊢
        refine j_iload C 4 dX11_judge_56 rfl ?_
        refine j_iload_n C 3 dX11_judge_58 rfl ?_
        refine j_icmp_ge C 94 dX11_judge_59 (by decide) (fun c59 => ?_) (fun c59 => ?_)
        · rw [nI_leI (by omega) (by omega)] at c59
          refine j_aload_n C 2 dX11_judge_94 rfl ?_
          refine j_getN C (v := .int (S 32)) 24 1 rfl rfl inlC8 (by decide) kf11_188 rfl dX11_judge_95 ?_
          refine j_v (nI zz) hss ?_
          refine j_aload_n C 0 dX11_judge_98 rfl ?_
          refine j_get C (v := .ref (q 1)) 0 1 rfl rfl inlC11 (by decide) kf11_75 rfl dX11_judge_99 ?_
          refine j_getN C (v := .ref (q 3)) 1 0 rfl rfl inlC3 (by decide) kf11_94 rfl dX11_judge_102 ?_
          refine j_getN C (v := .int (S 7)) 3 4 rfl rfl inlC1 (by decide) kf11_97 rfl dX11_judge_105 ?_
          refine j_v (nI np) (hS7.trans e3) ?_
          refine j_icmp_ne C 115 dX11_judge_108 (by decide) (fun c108 => ?_) (fun c108 => ?_)
          · rw [nI_eq (by omega) (by omega)] at c108
            refine j_iload_n C 3 dX11_judge_115 rfl ?_
            refine j_iret C dX11_judge_116 ?_
            unfold sp_judge
            rw [if_pos (show inn (nI 3) 0 3 from c4), tN_nI (n := 3) (by decide)]
            rw [if_neg c19]
            have hl : lsF (judP row so sh 3) 7 0 = i := lsF_at (Nat.zero_le _) (by omega) (fun m _ hm h => h ⟨by rw [e3, tN_nI (by omega)]; omega, by rw [eso, tN_nI (by omega)]; omega, hu m hm⟩) (Or.inl (fun h => by rw [eso, e3, tN_nI (by omega), tN_nI (by omega)] at h; omega))
            rw [hl, e3, eso, tN_nI (n := np) (by omega), tN_nI (n := zz) (by omega)]
            rw [if_neg (by omega)]
            exact ⟨by congr 1; omega, hC⟩
          · rw [nI_eq (by omega) (by omega)] at c108
            refine j_iconst C (v := (-1)) dX11_judge_111 (by decide) ?_
            refine j_goto C 116 dX11_judge_112 (by decide) ?_
            refine j_iret C dX11_judge_116 ?_
            unfold sp_judge
            rw [if_pos (show inn (nI 3) 0 3 from c4), tN_nI (n := 3) (by decide)]
            rw [if_neg c19]
            have hl : lsF (judP row so sh 3) 7 0 = i := lsF_at (Nat.zero_le _) (by omega) (fun m _ hm h => h ⟨by rw [e3, tN_nI (by omega)]; omega, by rw [eso, tN_nI (by omega)]; omega, hu m hm⟩) (Or.inl (fun h => by rw [eso, e3, tN_nI (by omega), tN_nI (by omega)] at h; omega))
            rw [hl, e3, eso, tN_nI (n := np) (by omega), tN_nI (n := zz) (by omega)]
            rw [if_pos (by omega)]
            exact ⟨rfl, hC⟩
        · rw [nI_leI (by omega) (by omega)] at c59
          refine j_aload_n C 2 dX11_judge_62 rfl ?_
          refine j_getN C (v := .ref (q 85)) 24 0 rfl rfl inlC8 (by decide) kf11_281 rfl dX11_judge_63 ?_
          refine j_iload C 4 dX11_judge_66 rfl ?_
          refine j_ialdN C 85 0 rfl rfl i rfl (by omega) (by decide) dX11_judge_68 ?_
          refine j_v (sh (40 * 3 + i)) (hC.shi 3 (by omega) i (by rw [eso, tN_nI (by omega)]; omega)) ?_
          refine j_aload_n C 0 dX11_judge_69 rfl ?_
          refine j_get C (v := .ref (q 1)) 0 1 rfl rfl inlC11 (by decide) kf11_75 rfl dX11_judge_70 ?_
          refine j_getN C (v := .ref (q 3)) 1 0 rfl rfl inlC3 (by decide) kf11_94 rfl dX11_judge_73 ?_
          refine j_getN C (v := .ref (q 42)) 3 9 rfl rfl inlC1 (by decide) kf11_142 rfl dX11_judge_76 ?_
          refine j_iload C 4 dX11_judge_79 rfl ?_
          refine j_ialdN C 42 0 rfl rfl i rfl (by omega) (by decide) dX11_judge_81 ?_
          refine j_v (row (30 + 6 * i + 4)) (hF.per 4 (by omega) i (by omega)) ?_
          refine j_icmp_eq C 88 dX11_judge_82 (by decide) (fun c82 => ?_) (fun c82 => ?_)
          · skip
            refine j_iinc C (v := (nI (i + 1))) 4 [(4, .int (nI (i + 1))), (0, .ref (q 0)), (1, .int (nI 3)), (2, .ref (q 24)), (3, .int (nI (min zz np)))] dX11_judge_88 rfl (nI_1 _) (by decide) rfl ?_
            refine j_goto C 56 dX11_judge_91 (by decide) ?_
            refine j_L [1, 2, 3, 4, 0] [(0, .ref (q 0)), (1, .int (nI 3)), (2, .ref (q 24)), (3, .int (nI (min zz np))), (4, .int (nI (i + 1)))] rfl ?_
            exact ih (i + 1) (⟨by omega, by omega, fun m hm => by
      by_cases e : m = i
      · subst e; exact c82
      · exact hu m (by omega)⟩) (by omega)
          · skip
            refine j_iload C 4 dX11_judge_85 rfl ?_
            refine j_iret C dX11_judge_87 ?_
            unfold sp_judge
            rw [if_pos (show inn (nI 3) 0 3 from c4), tN_nI (n := 3) (by decide)]
            rw [if_neg c19]
            have hl : lsF (judP row so sh 3) 7 0 = i := lsF_at (Nat.zero_le _) (by omega) (fun m _ hm h => h ⟨by rw [e3, tN_nI (by omega)]; omega, by rw [eso, tN_nI (by omega)]; omega, hu m hm⟩) (Or.inl (fun h => c82 h.2.2))
            rw [hl, e3, eso, tN_nI (n := np) (by omega), tN_nI (n := zz) (by omega)]
            rw [if_neg (by omega)]
            exact ⟨rfl, hC⟩
      · skip
        refine j_aload_n C 0 dX11_judge_22 rfl ?_
        refine j_iconst C (v := (nI 2)) dX11_judge_23 (by decide) ?_
        refine j_callV (As := [.int (nI 2)]) (rest := []) C vw11_90 (h_error 2 (by decide)) ⟨0, 11, _, _, rfl, rfl, rfl⟩ rfl (Nat.le_of_ble_eq_true rfl) dX11_judge_24 (by decide) ?_
        rintro _ _ ⟨rfl, rfl⟩
        refine j_iret C dX11_judge_27 ?_
        unfold sp_judge
        rw [if_pos (show inn (nI 3) 0 3 from c4), tN_nI (n := 3) (by decide)]
        rw [if_pos c19]
        exact ⟨show (-1000000000 : Int32) - nI 2 = -1000000002 from by decide, hC.er 2⟩
  · replace c4 := bI_f c4
    refine j_aload_n C 0 dX11_judge_7 rfl ?_
    refine j_iconst C (v := (nI 1)) dX11_judge_8 (by decide) ?_
    refine j_callV (As := [.int (nI 1)]) (rest := []) C vw11_90 (h_error 1 (by decide)) ⟨0, 11, _, _, rfl, rfl, rfl⟩ rfl (Nat.le_of_ble_eq_true rfl) dX11_judge_9 (by decide) ?_
    rintro _ _ ⟨rfl, rfl⟩
    refine j_iret C dX11_judge_12 ?_
    unfold sp_judge
    rw [if_neg (show ¬ inn s 0 3 from c4)]
    exact ⟨show (-1000000000 : Int32) - nI 1 = -1000000001 from by decide, hC.er 1⟩
theorem dX11_ears_0 : decode cX11_ears 0 = .ok (.iload_n 1, 1) := by decide +kernel
theorem dX11_ears_1 : decode cX11_ears 1 = .ok (.invokestatic 246, 3) := by decide +kernel
theorem dX11_ears_4 : decode cX11_ears 4 = .ok (.ifCond .ne 9, 3) := by decide +kernel
theorem dX11_ears_7 : decode cX11_ears 7 = .ok (.aload_n 0, 1) := by decide +kernel
theorem dX11_ears_8 : decode cX11_ears 8 = .ok (.iconst 1, 1) := by decide +kernel
theorem dX11_ears_9 : decode cX11_ears 9 = .ok (.invokevirtual 90, 3) := by decide +kernel
theorem dX11_ears_12 : decode cX11_ears 12 = .ok (.ireturn, 1) := by decide +kernel
theorem dX11_ears_13 : decode cX11_ears 13 = .ok (.aload_n 0, 1) := by decide +kernel
theorem dX11_ears_14 : decode cX11_ears 14 = .ok (.getfield 29, 3) := by decide +kernel
theorem dX11_ears_17 : decode cX11_ears 17 = .ok (.iload_n 1, 1) := by decide +kernel
theorem dX11_ears_18 : decode cX11_ears 18 = .ok (.iaload, 1) := by decide +kernel
theorem dX11_ears_19 : decode cX11_ears 19 = .ok (.ifCond .ne 9, 3) := by decide +kernel
theorem dX11_ears_22 : decode cX11_ears 22 = .ok (.aload_n 0, 1) := by decide +kernel
theorem dX11_ears_23 : decode cX11_ears 23 = .ok (.iconst 2, 1) := by decide +kernel
theorem dX11_ears_24 : decode cX11_ears 24 = .ok (.invokevirtual 90, 3) := by decide +kernel
theorem dX11_ears_27 : decode cX11_ears 27 = .ok (.ireturn, 1) := by decide +kernel
theorem dX11_ears_28 : decode cX11_ears 28 = .ok (.aload_n 0, 1) := by decide +kernel
theorem dX11_ears_29 : decode cX11_ears 29 = .ok (.getfield 25, 3) := by decide +kernel
theorem dX11_ears_32 : decode cX11_ears 32 = .ok (.iload_n 1, 1) := by decide +kernel
theorem dX11_ears_33 : decode cX11_ears 33 = .ok (.aaload, 1) := by decide +kernel
theorem dX11_ears_34 : decode cX11_ears 34 = .ok (.astore_n 2, 1) := by decide +kernel
theorem dX11_ears_35 : decode cX11_ears 35 = .ok (.aload_n 2, 1) := by decide +kernel
theorem dX11_ears_36 : decode cX11_ears 36 = .ok (.getfield 188, 3) := by decide +kernel
theorem dX11_ears_39 : decode cX11_ears 39 = .ok (.aload_n 0, 1) := by decide +kernel
theorem dX11_ears_40 : decode cX11_ears 40 = .ok (.getfield 75, 3) := by decide +kernel
theorem dX11_ears_43 : decode cX11_ears 43 = .ok (.getfield 94, 3) := by decide +kernel
theorem dX11_ears_46 : decode cX11_ears 46 = .ok (.getfield 100, 3) := by decide +kernel
theorem dX11_ears_49 : decode cX11_ears 49 = .ok (.invokestatic 253, 3) := by decide +kernel
theorem dX11_ears_52 : decode cX11_ears 52 = .ok (.istore_n 3, 1) := by decide +kernel
theorem dX11_ears_53 : decode cX11_ears 53 = .ok (.iconst 0, 1) := by decide +kernel
theorem dX11_ears_54 : decode cX11_ears 54 = .ok (.istore 4, 2) := by decide +kernel
theorem dX11_ears_56 : decode cX11_ears 56 = .ok (.iload 4, 2) := by decide +kernel
theorem dX11_ears_58 : decode cX11_ears 58 = .ok (.iload_n 3, 1) := by decide +kernel
theorem dX11_ears_59 : decode cX11_ears 59 = .ok (.if_icmp .ge 49, 3) := by decide +kernel
theorem dX11_ears_62 : decode cX11_ears 62 = .ok (.aload_n 2, 1) := by decide +kernel
theorem dX11_ears_63 : decode cX11_ears 63 = .ok (.getfield 281, 3) := by decide +kernel
theorem dX11_ears_66 : decode cX11_ears 66 = .ok (.iload 4, 2) := by decide +kernel
theorem dX11_ears_68 : decode cX11_ears 68 = .ok (.iaload, 1) := by decide +kernel
theorem dX11_ears_69 : decode cX11_ears 69 = .ok (.iconst 0, 1) := by decide +kernel
theorem dX11_ears_70 : decode cX11_ears 70 = .ok (.sipush 999, 3) := by decide +kernel
theorem dX11_ears_73 : decode cX11_ears 73 = .ok (.invokestatic 86, 3) := by decide +kernel
theorem dX11_ears_76 : decode cX11_ears 76 = .ok (.ifCond .ne 6, 3) := by decide +kernel
theorem dX11_ears_79 : decode cX11_ears 79 = .ok (.iload 4, 2) := by decide +kernel
theorem dX11_ears_81 : decode cX11_ears 81 = .ok (.ireturn, 1) := by decide +kernel
theorem dX11_ears_82 : decode cX11_ears 82 = .ok (.aload_n 0, 1) := by decide +kernel
theorem dX11_ears_83 : decode cX11_ears 83 = .ok (.getfield 75, 3) := by decide +kernel
theorem dX11_ears_86 : decode cX11_ears 86 = .ok (.getfield 94, 3) := by decide +kernel
theorem dX11_ears_89 : decode cX11_ears 89 = .ok (.getfield 110, 3) := by decide +kernel
theorem dX11_ears_92 : decode cX11_ears 92 = .ok (.iload 4, 2) := by decide +kernel
theorem dX11_ears_94 : decode cX11_ears 94 = .ok (.aload_n 2, 1) := by decide +kernel
theorem dX11_ears_95 : decode cX11_ears 95 = .ok (.getfield 281, 3) := by decide +kernel
theorem dX11_ears_98 : decode cX11_ears 98 = .ok (.iload 4, 2) := by decide +kernel
theorem dX11_ears_100 : decode cX11_ears 100 = .ok (.iaload, 1) := by decide +kernel
theorem dX11_ears_101 : decode cX11_ears 101 = .ok (.iastore, 1) := by decide +kernel
theorem dX11_ears_102 : decode cX11_ears 102 = .ok (.iinc 4 1, 3) := by decide +kernel
theorem dX11_ears_105 : decode cX11_ears 105 = .ok (.goto (-49), 3) := by decide +kernel
theorem dX11_ears_108 : decode cX11_ears 108 = .ok (.iload_n 3, 1) := by decide +kernel
theorem dX11_ears_109 : decode cX11_ears 109 = .ok (.ireturn, 1) := by decide +kernel
set_option maxHeartbeats 2000000 in
set_option maxRecDepth 20000 in
theorem k_ears {l : Launch} {D : va_G} {cI cG cW : ClassId} {q : Nat → Nat} {S : Nat → Int32} {X : Nat → Nat → Int32} {P : Nat → Nat} {s : Int32} {V row kept tried bf fd pk bo so sh mv tr : Nat → Int32} {nc np nw d nt nq : Nat} (hR : RKx row nc np nw d nt nq) (hC : CR (S, X, P) (sR V row kept tried bf fd pk bo so sh mv tr)) (hSh : ∀ s, s < 4 → (bo s = nI 0 ∨ bo s = nI 8 ∨ bo s = nI 16 ∨ bo s = nI 32) ∧ ∃ n, n ≤ 40 ∧ so s = nI n) : Ci l yX11_ears cX11_ears 5 (some .int) 3 D (tyL cI cG cW) (wC cI cG cW q) [.ref (q 0), .int s] (S, X, P) (fun r τ => r = (sp_ears V row kept tried bf fd pk bo so sh mv tr s).1 ∧ CR τ (sp_ears V row kept tried bf fd pk bo so sh mv tr s).2) := by
  refine Ci.of (by decide) (Nat.le_of_ble_eq_true rfl) ?_
  intro p_ e_ s_ m_ b_ M_ c_ A_ C
  replace C : Cx _ _ _ _ _ _ _ _ RX11 _ _ _ _ := C
  refine j_L [0, 1] [(0, .ref (q 0)), (1, .int s)] rfl ?_
  obtain ⟨hI, hW, ⟨e0, hd⟩, ⟨e4, ht⟩, ⟨e5, hq⟩, hB⟩ := id hR
  obtain ⟨⟨e2, hc2, hc10⟩, ⟨e3, hn6⟩, ⟨e8, hw8⟩, hP, hE, hLo, hT0, hT1⟩ := id hI
  have hIc := hI
  have hF : CF S X 0 row (X 44) nc np := by have h := hC.fld; rw [e2, e3, tN_nI (by omega), tN_nI (by omega)] at h; exact h
  have hK : CK S X 0 row nw nt nq := by have h := hC.kp; rw [e8, e4, e5, tN_nI (by omega), tN_nI (by omega), tN_nI (by omega)] at h; exact h
  have hS1 : S 1 = row 8 := hK.wrongs
  have hS5 : S 5 = row 2 := hF.cells
  have hS7 : S 7 = row 3 := hF.people
  refine j_iload_n C 1 dX11_ears_0 rfl ?_
  refine j_callS (As := [.int s]) (rest := []) C sw11_246 (h_isSheet) rfl (Nat.le_of_ble_eq_true rfl) dX11_ears_1 (by decide) ?_
  rintro _ _ ⟨rfl, rfl⟩
  refine j_if_ne C 13 dX11_ears_4 (by decide) (fun c4 => ?_) (fun c4 => ?_)
  · replace c4 := bI_t c4
    obtain ⟨sn, gsn, hsn, rfl⟩ := inn_lit c4 (by omega)
    rcases (show sn = 0 ∨ sn = 1 ∨ sn = 2 ∨ sn = 3 by omega) with rfl | rfl | rfl | rfl
    · obtain ⟨-, zz, hzz, eso⟩ := hSh 0 (by omega)
      have hss : S 29 = nI zz := (hC.shs 0 (by omega)).trans eso
      refine j_aload_n C 0 dX11_ears_13 rfl ?_
      refine j_get C (v := .ref (q 34)) 0 7 rfl rfl inlC11 (by decide) kf11_29 rfl dX11_ears_14 ?_
      refine j_iload_n C 1 dX11_ears_17 rfl ?_
      refine j_ialdN C 34 0 rfl rfl 0 rfl (by omega) (by decide) dX11_ears_18 ?_
      refine j_v (bo 0) (hC.shb 0 (by omega)) ?_
      refine j_if_ne C 28 dX11_ears_19 (by decide) (fun c19 => ?_) (fun c19 => ?_)
      · skip
        refine j_aload_n C 0 dX11_ears_28 rfl ?_
        refine j_get C (v := .ref (q 33)) 0 6 rfl rfl inlC11 (by decide) kf11_25 rfl dX11_ears_29 ?_
        refine j_iload_n C 1 dX11_ears_32 rfl ?_
        refine j_aaldN C 33 2 rfl rfl 0 rfl (by decide) (by decide) rfl dX11_ears_33 ?_
        refine j_astore_n C [(2, .ref (q 21)), (0, .ref (q 0)), (1, .int (nI 0))] dX11_ears_34 (by decide) rfl ?_
        refine j_aload_n C 0 dX11_ears_35 rfl ?_
        refine j_getN C (v := .int (S 29)) 21 1 rfl rfl inlC8 (by decide) kf11_188 rfl dX11_ears_36 ?_
        refine j_v (nI zz) hss ?_
        refine j_aload_n C 1 dX11_ears_39 rfl ?_
        refine j_get C (v := .ref (q 1)) 0 1 rfl rfl inlC11 (by decide) kf11_75 rfl dX11_ears_40 ?_
        refine j_getN C (v := .ref (q 3)) 1 0 rfl rfl inlC3 (by decide) kf11_94 rfl dX11_ears_43 ?_
        refine j_getN C (v := .int (S 5)) 3 0 rfl rfl inlC1 (by decide) kf11_100 rfl dX11_ears_46 ?_
        refine j_v (nI nc) (hS5.trans e2) ?_
        refine j_mmin (rest := []) C mn11_253 (by decide) (Nat.le_of_ble_eq_true rfl) dX11_ears_49 ?_
        refine j_v (nI (min zz nc)) (mmin_nI (by omega) (by omega)) ?_
        refine j_istore_n C [(3, .int (nI (min zz nc))), (2, .ref (q 21)), (0, .ref (q 0)), (1, .int (nI 0))] dX11_ears_52 (by decide) rfl ?_
        refine j_iconst C (v := (nI 0)) dX11_ears_53 (by decide) ?_
        refine j_istore C [(4, .int (nI 0)), (3, .int (nI (min zz nc))), (2, .ref (q 21)), (0, .ref (q 0)), (1, .int (nI 0))] dX11_ears_54 (by decide) rfl ?_
        refine j_L [3, 4, 2, 1, 0] [(0, .ref (q 0)), (1, .int (nI 0)), (2, .ref (q 21)), (3, .int (nI (min zz nc))), (4, .int (nI 0))] rfl ?_
        refine j_loop (X := Nat × (Nat → Int32)) (fun (z : Nat × (Nat → Int32)) => match z with | (i, g) => i ≤ zz ∧ i ≤ nc ∧ (∀ m, m < i → inn (sh (40 * 0 + m)) (nI 0) (nI 999)) ∧ ∀ c, c < nc → g c = earG row sh 0 i (10 + c)) (fun (z : Nat × (Nat → Int32)) => match z with | (i, g) => nc - i) (fun (z : Nat × (Nat → Int32)) => match z with | (i, g) => (S, va_up X 36 g, P)) (fun (z : Nat × (Nat → Int32)) => match z with | (i, g) => [(0, .ref (q 0)), (1, .int (nI 0)), (2, .ref (q 21)), (3, .int (nI (min zz nc))), (4, .int (nI i))]) (0, X 36) (⟨Nat.zero_le _, Nat.zero_le _, fun m h => absurd h (Nat.not_lt_zero _), fun c hc => by unfold earG; rw [if_neg (by omega)]; exact hF.ears c hc⟩) (by show _ = (S, va_up X 36 (X 36), P); rw [va_self]) rfl ?_
        rintro ⟨i, g⟩ ⟨hi, hi2, hu, hg⟩ ih
        try dsimp only at ih ⊢
        refine j_iload C 4 dX11_ears_56 rfl ?_
        refine j_iload_n C 3 dX11_ears_58 rfl ?_
        refine j_icmp_ge C 108 dX11_ears_59 (by decide) (fun c59 => ?_) (fun c59 => ?_)
        · rw [nI_leI (by omega) (by omega)] at c59
          refine j_iload_n C 3 dX11_ears_108 rfl ?_
          refine j_iret C dX11_ears_109 ?_
          unfold sp_ears
          rw [if_pos (show inn (nI 0) 0 3 from c4), tN_nI (n := 0) (by decide)]
          rw [if_neg c19]
          have hl : lsF (earP row so sh 0) 41 0 = i := lsF_at (Nat.zero_le _) (by omega) (fun m _ hm h => h ⟨by rw [eso, tN_nI (by omega)]; omega, by rw [e2, tN_nI (by omega)]; omega, hu m hm⟩) (Or.inl (fun h => by rw [eso, e2, tN_nI (by omega), tN_nI (by omega)] at h; omega))
          rw [hl]
          have ho : ∀ k, k < 10 ∨ 20 ≤ k → earG row sh 0 i k = row k := fun k hk => earG_o (by omega) hk
          exact ⟨by congr 1; omega, hC.nowx (fun k hk => rfl) (fun k hk => va_n (by omega)) ((ho 2 (by omega)).trans e2) ((ho 3 (by omega)).trans e3) ((ho 8 (by omega)).trans e8) ((ho 4 (by omega)).trans e4) ((ho 5 (by omega)).trans e5) ⟨hc10, hn6, hw8, ht, hq⟩ (hF.earG hg ho) (hK.row (fun k hk => va_n (by omega)) (fun k hk => ho k (by omega))) (hC.l0.st (by omega) rfl (va_n (by omega)) (fun k hk => ho k (by omega))) (hC.l1.st (by omega) rfl (va_n (by omega)) (fun k hk => ho k (by omega)))⟩
        · rw [nI_leI (by omega) (by omega)] at c59
          refine j_aload_n C 2 dX11_ears_62 rfl ?_
          refine j_getN C (v := .ref (q 82)) 21 0 rfl rfl inlC8 (by decide) kf11_281 rfl dX11_ears_63 ?_
          refine j_iload C 4 dX11_ears_66 rfl ?_
          refine j_ialdN C 82 0 rfl rfl i rfl (by omega) (by decide) dX11_ears_68 ?_
          refine j_v (sh (40 * 0 + i)) (hC.shi 0 (by omega) i (by rw [eso, tN_nI (by omega)]; omega)) ?_
          refine j_iconst C (v := (nI 0)) dX11_ears_69 (by decide) ?_
          refine j_sipush C (v := (nI 999)) dX11_ears_70 (by decide) ?_
          refine j_callS (As := [.int (sh (40 * 0 + i)), .int (nI 0), .int (nI 999)]) (rest := []) C sw11_86 (h_within) rfl (Nat.le_of_ble_eq_true rfl) dX11_ears_73 (by decide) ?_
          rintro _ _ ⟨rfl, rfl⟩
          refine j_if_ne C 82 dX11_ears_76 (by decide) (fun c76 => ?_) (fun c76 => ?_)
          · replace c76 := bI_t c76
            refine j_aload_n C 0 dX11_ears_82 rfl ?_
            refine j_get C (v := .ref (q 1)) 0 1 rfl rfl inlC11 (by decide) kf11_75 rfl dX11_ears_83 ?_
            refine j_getN C (v := .ref (q 3)) 1 0 rfl rfl inlC3 (by decide) kf11_94 rfl dX11_ears_86 ?_
            refine j_getN C (v := .ref (q 36)) 3 1 rfl rfl inlC1 (by decide) kf11_110 rfl dX11_ears_89 ?_
            refine j_iload C 4 dX11_ears_92 rfl ?_
            refine j_aload_n C 2 dX11_ears_94 rfl ?_
            refine j_getN C (v := .ref (q 82)) 21 0 rfl rfl inlC8 (by decide) kf11_281 rfl dX11_ears_95 ?_
            refine j_iload C 4 dX11_ears_98 rfl ?_
            refine j_ialdN C 82 0 rfl rfl i rfl (by omega) (by decide) dX11_ears_100 ?_
            refine j_v (sh (40 * 0 + i)) (hC.shi 0 (by omega) i (by rw [eso, tN_nI (by omega)]; omega)) ?_
            refine j_iastN C 36 0 rfl rfl i rfl (by omega) (by decide) dX11_ears_101 (S, va_up X 36 (upd g i (sh (40 * 0 + i))), P) rfl ?_
            refine j_iinc C (v := (nI (i + 1))) 4 [(4, .int (nI (i + 1))), (0, .ref (q 0)), (1, .int (nI 0)), (2, .ref (q 21)), (3, .int (nI (min zz nc)))] dX11_ears_102 rfl (nI_1 _) (by decide) rfl ?_
            refine j_goto C 56 dX11_ears_105 (by decide) ?_
            refine j_L [1, 2, 3, 4, 0] [(0, .ref (q 0)), (1, .int (nI 0)), (2, .ref (q 21)), (3, .int (nI (min zz nc))), (4, .int (nI (i + 1)))] rfl ?_
            exact ih (i + 1, upd g i (sh (40 * 0 + i))) (⟨by dsimp only; omega, by dsimp only; omega, fun m hm => by
      dsimp only at hm
      by_cases e : m = i
      · subst e; exact c76
      · exact hu m (by omega), earG_t hg⟩) (by dsimp only; omega)
          · replace c76 := bI_f c76
            refine j_iload C 4 dX11_ears_79 rfl ?_
            refine j_iret C dX11_ears_81 ?_
            unfold sp_ears
            rw [if_pos (show inn (nI 0) 0 3 from c4), tN_nI (n := 0) (by decide)]
            rw [if_neg c19]
            have hl : lsF (earP row so sh 0) 41 0 = i := lsF_at (Nat.zero_le _) (by omega) (fun m _ hm h => h ⟨by rw [eso, tN_nI (by omega)]; omega, by rw [e2, tN_nI (by omega)]; omega, hu m hm⟩) (Or.inl (fun h => c76 h.2.2))
            rw [hl]
            have ho : ∀ k, k < 10 ∨ 20 ≤ k → earG row sh 0 i k = row k := fun k hk => earG_o (by omega) hk
            exact ⟨rfl, hC.nowx (fun k hk => rfl) (fun k hk => va_n (by omega)) ((ho 2 (by omega)).trans e2) ((ho 3 (by omega)).trans e3) ((ho 8 (by omega)).trans e8) ((ho 4 (by omega)).trans e4) ((ho 5 (by omega)).trans e5) ⟨hc10, hn6, hw8, ht, hq⟩ (hF.earG hg ho) (hK.row (fun k hk => va_n (by omega)) (fun k hk => ho k (by omega))) (hC.l0.st (by omega) rfl (va_n (by omega)) (fun k hk => ho k (by omega))) (hC.l1.st (by omega) rfl (va_n (by omega)) (fun k hk => ho k (by omega)))⟩
      · skip
        refine j_aload_n C 0 dX11_ears_22 rfl ?_
        refine j_iconst C (v := (nI 2)) dX11_ears_23 (by decide) ?_
        refine j_callV (As := [.int (nI 2)]) (rest := []) C vw11_90 (h_error 2 (by decide)) ⟨0, 11, _, _, rfl, rfl, rfl⟩ rfl (Nat.le_of_ble_eq_true rfl) dX11_ears_24 (by decide) ?_
        rintro _ _ ⟨rfl, rfl⟩
        refine j_iret C dX11_ears_27 ?_
        unfold sp_ears
        rw [if_pos (show inn (nI 0) 0 3 from c4), tN_nI (n := 0) (by decide)]
        rw [if_pos c19]
        exact ⟨show (-1000000000 : Int32) - nI 2 = -1000000002 from by decide, hC.er 2⟩
    · obtain ⟨-, zz, hzz, eso⟩ := hSh 1 (by omega)
      have hss : S 30 = nI zz := (hC.shs 1 (by omega)).trans eso
      refine j_aload_n C 0 dX11_ears_13 rfl ?_
      refine j_get C (v := .ref (q 34)) 0 7 rfl rfl inlC11 (by decide) kf11_29 rfl dX11_ears_14 ?_
      refine j_iload_n C 1 dX11_ears_17 rfl ?_
      refine j_ialdN C 34 0 rfl rfl 1 rfl (by omega) (by decide) dX11_ears_18 ?_
      refine j_v (bo 1) (hC.shb 1 (by omega)) ?_
      refine j_if_ne C 28 dX11_ears_19 (by decide) (fun c19 => ?_) (fun c19 => ?_)
      · skip
        refine j_aload_n C 0 dX11_ears_28 rfl ?_
        refine j_get C (v := .ref (q 33)) 0 6 rfl rfl inlC11 (by decide) kf11_25 rfl dX11_ears_29 ?_
        refine j_iload_n C 1 dX11_ears_32 rfl ?_
        refine j_aaldN C 33 2 rfl rfl 1 rfl (by decide) (by decide) rfl dX11_ears_33 ?_
        refine j_astore_n C [(2, .ref (q 22)), (0, .ref (q 0)), (1, .int (nI 1))] dX11_ears_34 (by decide) rfl ?_
        refine j_aload_n C 0 dX11_ears_35 rfl ?_
        refine j_getN C (v := .int (S 30)) 22 1 rfl rfl inlC8 (by decide) kf11_188 rfl dX11_ears_36 ?_
        refine j_v (nI zz) hss ?_
        refine j_aload_n C 1 dX11_ears_39 rfl ?_
        refine j_get C (v := .ref (q 1)) 0 1 rfl rfl inlC11 (by decide) kf11_75 rfl dX11_ears_40 ?_
        refine j_getN C (v := .ref (q 3)) 1 0 rfl rfl inlC3 (by decide) kf11_94 rfl dX11_ears_43 ?_
        refine j_getN C (v := .int (S 5)) 3 0 rfl rfl inlC1 (by decide) kf11_100 rfl dX11_ears_46 ?_
        refine j_v (nI nc) (hS5.trans e2) ?_
        refine j_mmin (rest := []) C mn11_253 (by decide) (Nat.le_of_ble_eq_true rfl) dX11_ears_49 ?_
        refine j_v (nI (min zz nc)) (mmin_nI (by omega) (by omega)) ?_
        refine j_istore_n C [(3, .int (nI (min zz nc))), (2, .ref (q 22)), (0, .ref (q 0)), (1, .int (nI 1))] dX11_ears_52 (by decide) rfl ?_
        refine j_iconst C (v := (nI 0)) dX11_ears_53 (by decide) ?_
        refine j_istore C [(4, .int (nI 0)), (3, .int (nI (min zz nc))), (2, .ref (q 22)), (0, .ref (q 0)), (1, .int (nI 1))] dX11_ears_54 (by decide) rfl ?_
        refine j_L [3, 4, 2, 1, 0] [(0, .ref (q 0)), (1, .int (nI 1)), (2, .ref (q 22)), (3, .int (nI (min zz nc))), (4, .int (nI 0))] rfl ?_
        refine j_loop (X := Nat × (Nat → Int32)) (fun (z : Nat × (Nat → Int32)) => match z with | (i, g) => i ≤ zz ∧ i ≤ nc ∧ (∀ m, m < i → inn (sh (40 * 1 + m)) (nI 0) (nI 999)) ∧ ∀ c, c < nc → g c = earG row sh 1 i (10 + c)) (fun (z : Nat × (Nat → Int32)) => match z with | (i, g) => nc - i) (fun (z : Nat × (Nat → Int32)) => match z with | (i, g) => (S, va_up X 36 g, P)) (fun (z : Nat × (Nat → Int32)) => match z with | (i, g) => [(0, .ref (q 0)), (1, .int (nI 1)), (2, .ref (q 22)), (3, .int (nI (min zz nc))), (4, .int (nI i))]) (0, X 36) (⟨Nat.zero_le _, Nat.zero_le _, fun m h => absurd h (Nat.not_lt_zero _), fun c hc => by unfold earG; rw [if_neg (by omega)]; exact hF.ears c hc⟩) (by show _ = (S, va_up X 36 (X 36), P); rw [va_self]) rfl ?_
        rintro ⟨i, g⟩ ⟨hi, hi2, hu, hg⟩ ih
        try dsimp only at ih ⊢
        refine j_iload C 4 dX11_ears_56 rfl ?_
        refine j_iload_n C 3 dX11_ears_58 rfl ?_
        refine j_icmp_ge C 108 dX11_ears_59 (by decide) (fun c59 => ?_) (fun c59 => ?_)
        · rw [nI_leI (by omega) (by omega)] at c59
          refine j_iload_n C 3 dX11_ears_108 rfl ?_
          refine j_iret C dX11_ears_109 ?_
          unfold sp_ears
          rw [if_pos (show inn (nI 1) 0 3 from c4), tN_nI (n := 1) (by decide)]
          rw [if_neg c19]
          have hl : lsF (earP row so sh 1) 41 0 = i := lsF_at (Nat.zero_le _) (by omega) (fun m _ hm h => h ⟨by rw [eso, tN_nI (by omega)]; omega, by rw [e2, tN_nI (by omega)]; omega, hu m hm⟩) (Or.inl (fun h => by rw [eso, e2, tN_nI (by omega), tN_nI (by omega)] at h; omega))
          rw [hl]
          have ho : ∀ k, k < 10 ∨ 20 ≤ k → earG row sh 1 i k = row k := fun k hk => earG_o (by omega) hk
          exact ⟨by congr 1; omega, hC.nowx (fun k hk => rfl) (fun k hk => va_n (by omega)) ((ho 2 (by omega)).trans e2) ((ho 3 (by omega)).trans e3) ((ho 8 (by omega)).trans e8) ((ho 4 (by omega)).trans e4) ((ho 5 (by omega)).trans e5) ⟨hc10, hn6, hw8, ht, hq⟩ (hF.earG hg ho) (hK.row (fun k hk => va_n (by omega)) (fun k hk => ho k (by omega))) (hC.l0.st (by omega) rfl (va_n (by omega)) (fun k hk => ho k (by omega))) (hC.l1.st (by omega) rfl (va_n (by omega)) (fun k hk => ho k (by omega)))⟩
        · rw [nI_leI (by omega) (by omega)] at c59
          refine j_aload_n C 2 dX11_ears_62 rfl ?_
          refine j_getN C (v := .ref (q 83)) 22 0 rfl rfl inlC8 (by decide) kf11_281 rfl dX11_ears_63 ?_
          refine j_iload C 4 dX11_ears_66 rfl ?_
          refine j_ialdN C 83 0 rfl rfl i rfl (by omega) (by decide) dX11_ears_68 ?_
          refine j_v (sh (40 * 1 + i)) (hC.shi 1 (by omega) i (by rw [eso, tN_nI (by omega)]; omega)) ?_
          refine j_iconst C (v := (nI 0)) dX11_ears_69 (by decide) ?_
          refine j_sipush C (v := (nI 999)) dX11_ears_70 (by decide) ?_
          refine j_callS (As := [.int (sh (40 * 1 + i)), .int (nI 0), .int (nI 999)]) (rest := []) C sw11_86 (h_within) rfl (Nat.le_of_ble_eq_true rfl) dX11_ears_73 (by decide) ?_
          rintro _ _ ⟨rfl, rfl⟩
          refine j_if_ne C 82 dX11_ears_76 (by decide) (fun c76 => ?_) (fun c76 => ?_)
          · replace c76 := bI_t c76
            refine j_aload_n C 0 dX11_ears_82 rfl ?_
            refine j_get C (v := .ref (q 1)) 0 1 rfl rfl inlC11 (by decide) kf11_75 rfl dX11_ears_83 ?_
            refine j_getN C (v := .ref (q 3)) 1 0 rfl rfl inlC3 (by decide) kf11_94 rfl dX11_ears_86 ?_
            refine j_getN C (v := .ref (q 36)) 3 1 rfl rfl inlC1 (by decide) kf11_110 rfl dX11_ears_89 ?_
            refine j_iload C 4 dX11_ears_92 rfl ?_
            refine j_aload_n C 2 dX11_ears_94 rfl ?_
            refine j_getN C (v := .ref (q 83)) 22 0 rfl rfl inlC8 (by decide) kf11_281 rfl dX11_ears_95 ?_
            refine j_iload C 4 dX11_ears_98 rfl ?_
            refine j_ialdN C 83 0 rfl rfl i rfl (by omega) (by decide) dX11_ears_100 ?_
            refine j_v (sh (40 * 1 + i)) (hC.shi 1 (by omega) i (by rw [eso, tN_nI (by omega)]; omega)) ?_
            refine j_iastN C 36 0 rfl rfl i rfl (by omega) (by decide) dX11_ears_101 (S, va_up X 36 (upd g i (sh (40 * 1 + i))), P) rfl ?_
            refine j_iinc C (v := (nI (i + 1))) 4 [(4, .int (nI (i + 1))), (0, .ref (q 0)), (1, .int (nI 1)), (2, .ref (q 22)), (3, .int (nI (min zz nc)))] dX11_ears_102 rfl (nI_1 _) (by decide) rfl ?_
            refine j_goto C 56 dX11_ears_105 (by decide) ?_
            refine j_L [1, 2, 3, 4, 0] [(0, .ref (q 0)), (1, .int (nI 1)), (2, .ref (q 22)), (3, .int (nI (min zz nc))), (4, .int (nI (i + 1)))] rfl ?_
            exact ih (i + 1, upd g i (sh (40 * 1 + i))) (⟨by dsimp only; omega, by dsimp only; omega, fun m hm => by
      dsimp only at hm
      by_cases e : m = i
      · subst e; exact c76
      · exact hu m (by omega), earG_t hg⟩) (by dsimp only; omega)
          · replace c76 := bI_f c76
            refine j_iload C 4 dX11_ears_79 rfl ?_
            refine j_iret C dX11_ears_81 ?_
            unfold sp_ears
            rw [if_pos (show inn (nI 1) 0 3 from c4), tN_nI (n := 1) (by decide)]
            rw [if_neg c19]
            have hl : lsF (earP row so sh 1) 41 0 = i := lsF_at (Nat.zero_le _) (by omega) (fun m _ hm h => h ⟨by rw [eso, tN_nI (by omega)]; omega, by rw [e2, tN_nI (by omega)]; omega, hu m hm⟩) (Or.inl (fun h => c76 h.2.2))
            rw [hl]
            have ho : ∀ k, k < 10 ∨ 20 ≤ k → earG row sh 1 i k = row k := fun k hk => earG_o (by omega) hk
            exact ⟨rfl, hC.nowx (fun k hk => rfl) (fun k hk => va_n (by omega)) ((ho 2 (by omega)).trans e2) ((ho 3 (by omega)).trans e3) ((ho 8 (by omega)).trans e8) ((ho 4 (by omega)).trans e4) ((ho 5 (by omega)).trans e5) ⟨hc10, hn6, hw8, ht, hq⟩ (hF.earG hg ho) (hK.row (fun k hk => va_n (by omega)) (fun k hk => ho k (by omega))) (hC.l0.st (by omega) rfl (va_n (by omega)) (fun k hk => ho k (by omega))) (hC.l1.st (by omega) rfl (va_n (by omega)) (fun k hk => ho k (by omega)))⟩
      · skip
        refine j_aload_n C 0 dX11_ears_22 rfl ?_
        refine j_iconst C (v := (nI 2)) dX11_ears_23 (by decide) ?_
        refine j_callV (As := [.int (nI 2)]) (rest := []) C vw11_90 (h_error 2 (by decide)) ⟨0, 11, _, _, rfl, rfl, rfl⟩ rfl (Nat.le_of_ble_eq_true rfl) dX11_ears_24 (by decide) ?_
        rintro _ _ ⟨rfl, rfl⟩
        refine j_iret C dX11_ears_27 ?_
        unfold sp_ears
        rw [if_pos (show inn (nI 1) 0 3 from c4), tN_nI (n := 1) (by decide)]
        rw [if_pos c19]
        exact ⟨show (-1000000000 : Int32) - nI 2 = -1000000002 from by decide, hC.er 2⟩
    · obtain ⟨-, zz, hzz, eso⟩ := hSh 2 (by omega)
      have hss : S 31 = nI zz := (hC.shs 2 (by omega)).trans eso
      refine j_aload_n C 0 dX11_ears_13 rfl ?_
      refine j_get C (v := .ref (q 34)) 0 7 rfl rfl inlC11 (by decide) kf11_29 rfl dX11_ears_14 ?_
      refine j_iload_n C 1 dX11_ears_17 rfl ?_
      refine j_ialdN C 34 0 rfl rfl 2 rfl (by omega) (by decide) dX11_ears_18 ?_
      refine j_v (bo 2) (hC.shb 2 (by omega)) ?_
      refine j_if_ne C 28 dX11_ears_19 (by decide) (fun c19 => ?_) (fun c19 => ?_)
      · skip
        refine j_aload_n C 0 dX11_ears_28 rfl ?_
        refine j_get C (v := .ref (q 33)) 0 6 rfl rfl inlC11 (by decide) kf11_25 rfl dX11_ears_29 ?_
        refine j_iload_n C 1 dX11_ears_32 rfl ?_
        refine j_aaldN C 33 2 rfl rfl 2 rfl (by decide) (by decide) rfl dX11_ears_33 ?_
        refine j_astore_n C [(2, .ref (q 23)), (0, .ref (q 0)), (1, .int (nI 2))] dX11_ears_34 (by decide) rfl ?_
        refine j_aload_n C 0 dX11_ears_35 rfl ?_
        refine j_getN C (v := .int (S 31)) 23 1 rfl rfl inlC8 (by decide) kf11_188 rfl dX11_ears_36 ?_
        refine j_v (nI zz) hss ?_
        refine j_aload_n C 1 dX11_ears_39 rfl ?_
        refine j_get C (v := .ref (q 1)) 0 1 rfl rfl inlC11 (by decide) kf11_75 rfl dX11_ears_40 ?_
        refine j_getN C (v := .ref (q 3)) 1 0 rfl rfl inlC3 (by decide) kf11_94 rfl dX11_ears_43 ?_
        refine j_getN C (v := .int (S 5)) 3 0 rfl rfl inlC1 (by decide) kf11_100 rfl dX11_ears_46 ?_
        refine j_v (nI nc) (hS5.trans e2) ?_
        refine j_mmin (rest := []) C mn11_253 (by decide) (Nat.le_of_ble_eq_true rfl) dX11_ears_49 ?_
        refine j_v (nI (min zz nc)) (mmin_nI (by omega) (by omega)) ?_
        refine j_istore_n C [(3, .int (nI (min zz nc))), (2, .ref (q 23)), (0, .ref (q 0)), (1, .int (nI 2))] dX11_ears_52 (by decide) rfl ?_
        refine j_iconst C (v := (nI 0)) dX11_ears_53 (by decide) ?_
        refine j_istore C [(4, .int (nI 0)), (3, .int (nI (min zz nc))), (2, .ref (q 23)), (0, .ref (q 0)), (1, .int (nI 2))] dX11_ears_54 (by decide) rfl ?_
        refine j_L [3, 4, 2, 1, 0] [(0, .ref (q 0)), (1, .int (nI 2)), (2, .ref (q 23)), (3, .int (nI (min zz nc))), (4, .int (nI 0))] rfl ?_
        refine j_loop (X := Nat × (Nat → Int32)) (fun (z : Nat × (Nat → Int32)) => match z with | (i, g) => i ≤ zz ∧ i ≤ nc ∧ (∀ m, m < i → inn (sh (40 * 2 + m)) (nI 0) (nI 999)) ∧ ∀ c, c < nc → g c = earG row sh 2 i (10 + c)) (fun (z : Nat × (Nat → Int32)) => match z with | (i, g) => nc - i) (fun (z : Nat × (Nat → Int32)) => match z with | (i, g) => (S, va_up X 36 g, P)) (fun (z : Nat × (Nat → Int32)) => match z with | (i, g) => [(0, .ref (q 0)), (1, .int (nI 2)), (2, .ref (q 23)), (3, .int (nI (min zz nc))), (4, .int (nI i))]) (0, X 36) (⟨Nat.zero_le _, Nat.zero_le _, fun m h => absurd h (Nat.not_lt_zero _), fun c hc => by unfold earG; rw [if_neg (by omega)]; exact hF.ears c hc⟩) (by show _ = (S, va_up X 36 (X 36), P); rw [va_self]) rfl ?_
        rintro ⟨i, g⟩ ⟨hi, hi2, hu, hg⟩ ih
        try dsimp only at ih ⊢
        refine j_iload C 4 dX11_ears_56 rfl ?_
        refine j_iload_n C 3 dX11_ears_58 rfl ?_
        refine j_icmp_ge C 108 dX11_ears_59 (by decide) (fun c59 => ?_) (fun c59 => ?_)
        · rw [nI_leI (by omega) (by omega)] at c59
          refine j_iload_n C 3 dX11_ears_108 rfl ?_
          refine j_iret C dX11_ears_109 ?_
          unfold sp_ears
          rw [if_pos (show inn (nI 2) 0 3 from c4), tN_nI (n := 2) (by decide)]
          rw [if_neg c19]
          have hl : lsF (earP row so sh 2) 41 0 = i := lsF_at (Nat.zero_le _) (by omega) (fun m _ hm h => h ⟨by rw [eso, tN_nI (by omega)]; omega, by rw [e2, tN_nI (by omega)]; omega, hu m hm⟩) (Or.inl (fun h => by rw [eso, e2, tN_nI (by omega), tN_nI (by omega)] at h; omega))
          rw [hl]
          have ho : ∀ k, k < 10 ∨ 20 ≤ k → earG row sh 2 i k = row k := fun k hk => earG_o (by omega) hk
          exact ⟨by congr 1; omega, hC.nowx (fun k hk => rfl) (fun k hk => va_n (by omega)) ((ho 2 (by omega)).trans e2) ((ho 3 (by omega)).trans e3) ((ho 8 (by omega)).trans e8) ((ho 4 (by omega)).trans e4) ((ho 5 (by omega)).trans e5) ⟨hc10, hn6, hw8, ht, hq⟩ (hF.earG hg ho) (hK.row (fun k hk => va_n (by omega)) (fun k hk => ho k (by omega))) (hC.l0.st (by omega) rfl (va_n (by omega)) (fun k hk => ho k (by omega))) (hC.l1.st (by omega) rfl (va_n (by omega)) (fun k hk => ho k (by omega)))⟩
        · rw [nI_leI (by omega) (by omega)] at c59
          refine j_aload_n C 2 dX11_ears_62 rfl ?_
          refine j_getN C (v := .ref (q 84)) 23 0 rfl rfl inlC8 (by decide) kf11_281 rfl dX11_ears_63 ?_
          refine j_iload C 4 dX11_ears_66 rfl ?_
          refine j_ialdN C 84 0 rfl rfl i rfl (by omega) (by decide) dX11_ears_68 ?_
          refine j_v (sh (40 * 2 + i)) (hC.shi 2 (by omega) i (by rw [eso, tN_nI (by omega)]; omega)) ?_
          refine j_iconst C (v := (nI 0)) dX11_ears_69 (by decide) ?_
          refine j_sipush C (v := (nI 999)) dX11_ears_70 (by decide) ?_
          refine j_callS (As := [.int (sh (40 * 2 + i)), .int (nI 0), .int (nI 999)]) (rest := []) C sw11_86 (h_within) rfl (Nat.le_of_ble_eq_true rfl) dX11_ears_73 (by decide) ?_
          rintro _ _ ⟨rfl, rfl⟩
          refine j_if_ne C 82 dX11_ears_76 (by decide) (fun c76 => ?_) (fun c76 => ?_)
          · replace c76 := bI_t c76
            refine j_aload_n C 0 dX11_ears_82 rfl ?_
            refine j_get C (v := .ref (q 1)) 0 1 rfl rfl inlC11 (by decide) kf11_75 rfl dX11_ears_83 ?_
            refine j_getN C (v := .ref (q 3)) 1 0 rfl rfl inlC3 (by decide) kf11_94 rfl dX11_ears_86 ?_
            refine j_getN C (v := .ref (q 36)) 3 1 rfl rfl inlC1 (by decide) kf11_110 rfl dX11_ears_89 ?_
            refine j_iload C 4 dX11_ears_92 rfl ?_
            refine j_aload_n C 2 dX11_ears_94 rfl ?_
            refine j_getN C (v := .ref (q 84)) 23 0 rfl rfl inlC8 (by decide) kf11_281 rfl dX11_ears_95 ?_
            refine j_iload C 4 dX11_ears_98 rfl ?_
            refine j_ialdN C 84 0 rfl rfl i rfl (by omega) (by decide) dX11_ears_100 ?_
            refine j_v (sh (40 * 2 + i)) (hC.shi 2 (by omega) i (by rw [eso, tN_nI (by omega)]; omega)) ?_
            refine j_iastN C 36 0 rfl rfl i rfl (by omega) (by decide) dX11_ears_101 (S, va_up X 36 (upd g i (sh (40 * 2 + i))), P) rfl ?_
            refine j_iinc C (v := (nI (i + 1))) 4 [(4, .int (nI (i + 1))), (0, .ref (q 0)), (1, .int (nI 2)), (2, .ref (q 23)), (3, .int (nI (min zz nc)))] dX11_ears_102 rfl (nI_1 _) (by decide) rfl ?_
            refine j_goto C 56 dX11_ears_105 (by decide) ?_
            refine j_L [1, 2, 3, 4, 0] [(0, .ref (q 0)), (1, .int (nI 2)), (2, .ref (q 23)), (3, .int (nI (min zz nc))), (4, .int (nI (i + 1)))] rfl ?_
            exact ih (i + 1, upd g i (sh (40 * 2 + i))) (⟨by dsimp only; omega, by dsimp only; omega, fun m hm => by
      dsimp only at hm
      by_cases e : m = i
      · subst e; exact c76
      · exact hu m (by omega), earG_t hg⟩) (by dsimp only; omega)
          · replace c76 := bI_f c76
            refine j_iload C 4 dX11_ears_79 rfl ?_
            refine j_iret C dX11_ears_81 ?_
            unfold sp_ears
            rw [if_pos (show inn (nI 2) 0 3 from c4), tN_nI (n := 2) (by decide)]
            rw [if_neg c19]
            have hl : lsF (earP row so sh 2) 41 0 = i := lsF_at (Nat.zero_le _) (by omega) (fun m _ hm h => h ⟨by rw [eso, tN_nI (by omega)]; omega, by rw [e2, tN_nI (by omega)]; omega, hu m hm⟩) (Or.inl (fun h => c76 h.2.2))
            rw [hl]
            have ho : ∀ k, k < 10 ∨ 20 ≤ k → earG row sh 2 i k = row k := fun k hk => earG_o (by omega) hk
            exact ⟨rfl, hC.nowx (fun k hk => rfl) (fun k hk => va_n (by omega)) ((ho 2 (by omega)).trans e2) ((ho 3 (by omega)).trans e3) ((ho 8 (by omega)).trans e8) ((ho 4 (by omega)).trans e4) ((ho 5 (by omega)).trans e5) ⟨hc10, hn6, hw8, ht, hq⟩ (hF.earG hg ho) (hK.row (fun k hk => va_n (by omega)) (fun k hk => ho k (by omega))) (hC.l0.st (by omega) rfl (va_n (by omega)) (fun k hk => ho k (by omega))) (hC.l1.st (by omega) rfl (va_n (by omega)) (fun k hk => ho k (by omega)))⟩
      · skip
        refine j_aload_n C 0 dX11_ears_22 rfl ?_
        refine j_iconst C (v := (nI 2)) dX11_ears_23 (by decide) ?_
        refine j_callV (As := [.int (nI 2)]) (rest := []) C vw11_90 (h_error 2 (by decide)) ⟨0, 11, _, _, rfl, rfl, rfl⟩ rfl (Nat.le_of_ble_eq_true rfl) dX11_ears_24 (by decide) ?_
        rintro _ _ ⟨rfl, rfl⟩
        refine j_iret C dX11_ears_27 ?_
        unfold sp_ears
        rw [if_pos (show inn (nI 2) 0 3 from c4), tN_nI (n := 2) (by decide)]
        rw [if_pos c19]
        exact ⟨show (-1000000000 : Int32) - nI 2 = -1000000002 from by decide, hC.er 2⟩
    · obtain ⟨-, zz, hzz, eso⟩ := hSh 3 (by omega)
      have hss : S 32 = nI zz := (hC.shs 3 (by omega)).trans eso
      refine j_aload_n C 0 dX11_ears_13 rfl ?_
      refine j_get C (v := .ref (q 34)) 0 7 rfl rfl inlC11 (by decide) kf11_29 rfl dX11_ears_14 ?_
      refine j_iload_n C 1 dX11_ears_17 rfl ?_
      refine j_ialdN C 34 0 rfl rfl 3 rfl (by omega) (by decide) dX11_ears_18 ?_
      refine j_v (bo 3) (hC.shb 3 (by omega)) ?_
      refine j_if_ne C 28 dX11_ears_19 (by decide) (fun c19 => ?_) (fun c19 => ?_)
      · skip
        refine j_aload_n C 0 dX11_ears_28 rfl ?_
        refine j_get C (v := .ref (q 33)) 0 6 rfl rfl inlC11 (by decide) kf11_25 rfl dX11_ears_29 ?_
        refine j_iload_n C 1 dX11_ears_32 rfl ?_
        refine j_aaldN C 33 2 rfl rfl 3 rfl (by decide) (by decide) rfl dX11_ears_33 ?_
        refine j_astore_n C [(2, .ref (q 24)), (0, .ref (q 0)), (1, .int (nI 3))] dX11_ears_34 (by decide) rfl ?_
        refine j_aload_n C 0 dX11_ears_35 rfl ?_
        refine j_getN C (v := .int (S 32)) 24 1 rfl rfl inlC8 (by decide) kf11_188 rfl dX11_ears_36 ?_
        refine j_v (nI zz) hss ?_
        refine j_aload_n C 1 dX11_ears_39 rfl ?_
        refine j_get C (v := .ref (q 1)) 0 1 rfl rfl inlC11 (by decide) kf11_75 rfl dX11_ears_40 ?_
        refine j_getN C (v := .ref (q 3)) 1 0 rfl rfl inlC3 (by decide) kf11_94 rfl dX11_ears_43 ?_
        refine j_getN C (v := .int (S 5)) 3 0 rfl rfl inlC1 (by decide) kf11_100 rfl dX11_ears_46 ?_
        refine j_v (nI nc) (hS5.trans e2) ?_
        refine j_mmin (rest := []) C mn11_253 (by decide) (Nat.le_of_ble_eq_true rfl) dX11_ears_49 ?_
        refine j_v (nI (min zz nc)) (mmin_nI (by omega) (by omega)) ?_
        refine j_istore_n C [(3, .int (nI (min zz nc))), (2, .ref (q 24)), (0, .ref (q 0)), (1, .int (nI 3))] dX11_ears_52 (by decide) rfl ?_
        refine j_iconst C (v := (nI 0)) dX11_ears_53 (by decide) ?_
        refine j_istore C [(4, .int (nI 0)), (3, .int (nI (min zz nc))), (2, .ref (q 24)), (0, .ref (q 0)), (1, .int (nI 3))] dX11_ears_54 (by decide) rfl ?_
        refine j_L [3, 4, 2, 1, 0] [(0, .ref (q 0)), (1, .int (nI 3)), (2, .ref (q 24)), (3, .int (nI (min zz nc))), (4, .int (nI 0))] rfl ?_
        refine j_loop (X := Nat × (Nat → Int32)) (fun (z : Nat × (Nat → Int32)) => match z with | (i, g) => i ≤ zz ∧ i ≤ nc ∧ (∀ m, m < i → inn (sh (40 * 3 + m)) (nI 0) (nI 999)) ∧ ∀ c, c < nc → g c = earG row sh 3 i (10 + c)) (fun (z : Nat × (Nat → Int32)) => match z with | (i, g) => nc - i) (fun (z : Nat × (Nat → Int32)) => match z with | (i, g) => (S, va_up X 36 g, P)) (fun (z : Nat × (Nat → Int32)) => match z with | (i, g) => [(0, .ref (q 0)), (1, .int (nI 3)), (2, .ref (q 24)), (3, .int (nI (min zz nc))), (4, .int (nI i))]) (0, X 36) (⟨Nat.zero_le _, Nat.zero_le _, fun m h => absurd h (Nat.not_lt_zero _), fun c hc => by unfold earG; rw [if_neg (by omega)]; exact hF.ears c hc⟩) (by show _ = (S, va_up X 36 (X 36), P); rw [va_self]) rfl ?_
        rintro ⟨i, g⟩ ⟨hi, hi2, hu, hg⟩ ih
        try dsimp only at ih ⊢
        refine j_iload C 4 dX11_ears_56 rfl ?_
        refine j_iload_n C 3 dX11_ears_58 rfl ?_
        refine j_icmp_ge C 108 dX11_ears_59 (by decide) (fun c59 => ?_) (fun c59 => ?_)
        · rw [nI_leI (by omega) (by omega)] at c59
          refine j_iload_n C 3 dX11_ears_108 rfl ?_
          refine j_iret C dX11_ears_109 ?_
          unfold sp_ears
          rw [if_pos (show inn (nI 3) 0 3 from c4), tN_nI (n := 3) (by decide)]
          rw [if_neg c19]
          have hl : lsF (earP row so sh 3) 41 0 = i := lsF_at (Nat.zero_le _) (by omega) (fun m _ hm h => h ⟨by rw [eso, tN_nI (by omega)]; omega, by rw [e2, tN_nI (by omega)]; omega, hu m hm⟩) (Or.inl (fun h => by rw [eso, e2, tN_nI (by omega), tN_nI (by omega)] at h; omega))
          rw [hl]
          have ho : ∀ k, k < 10 ∨ 20 ≤ k → earG row sh 3 i k = row k := fun k hk => earG_o (by omega) hk
          exact ⟨by congr 1; omega, hC.nowx (fun k hk => rfl) (fun k hk => va_n (by omega)) ((ho 2 (by omega)).trans e2) ((ho 3 (by omega)).trans e3) ((ho 8 (by omega)).trans e8) ((ho 4 (by omega)).trans e4) ((ho 5 (by omega)).trans e5) ⟨hc10, hn6, hw8, ht, hq⟩ (hF.earG hg ho) (hK.row (fun k hk => va_n (by omega)) (fun k hk => ho k (by omega))) (hC.l0.st (by omega) rfl (va_n (by omega)) (fun k hk => ho k (by omega))) (hC.l1.st (by omega) rfl (va_n (by omega)) (fun k hk => ho k (by omega)))⟩
        · rw [nI_leI (by omega) (by omega)] at c59
          refine j_aload_n C 2 dX11_ears_62 rfl ?_
          refine j_getN C (v := .ref (q 85)) 24 0 rfl rfl inlC8 (by decide) kf11_281 rfl dX11_ears_63 ?_
          refine j_iload C 4 dX11_ears_66 rfl ?_
          refine j_ialdN C 85 0 rfl rfl i rfl (by omega) (by decide) dX11_ears_68 ?_
          refine j_v (sh (40 * 3 + i)) (hC.shi 3 (by omega) i (by rw [eso, tN_nI (by omega)]; omega)) ?_
          refine j_iconst C (v := (nI 0)) dX11_ears_69 (by decide) ?_
          refine j_sipush C (v := (nI 999)) dX11_ears_70 (by decide) ?_
          refine j_callS (As := [.int (sh (40 * 3 + i)), .int (nI 0), .int (nI 999)]) (rest := []) C sw11_86 (h_within) rfl (Nat.le_of_ble_eq_true rfl) dX11_ears_73 (by decide) ?_
          rintro _ _ ⟨rfl, rfl⟩
          refine j_if_ne C 82 dX11_ears_76 (by decide) (fun c76 => ?_) (fun c76 => ?_)
          · replace c76 := bI_t c76
            refine j_aload_n C 0 dX11_ears_82 rfl ?_
            refine j_get C (v := .ref (q 1)) 0 1 rfl rfl inlC11 (by decide) kf11_75 rfl dX11_ears_83 ?_
            refine j_getN C (v := .ref (q 3)) 1 0 rfl rfl inlC3 (by decide) kf11_94 rfl dX11_ears_86 ?_
            refine j_getN C (v := .ref (q 36)) 3 1 rfl rfl inlC1 (by decide) kf11_110 rfl dX11_ears_89 ?_
            refine j_iload C 4 dX11_ears_92 rfl ?_
            refine j_aload_n C 2 dX11_ears_94 rfl ?_
            refine j_getN C (v := .ref (q 85)) 24 0 rfl rfl inlC8 (by decide) kf11_281 rfl dX11_ears_95 ?_
            refine j_iload C 4 dX11_ears_98 rfl ?_
            refine j_ialdN C 85 0 rfl rfl i rfl (by omega) (by decide) dX11_ears_100 ?_
            refine j_v (sh (40 * 3 + i)) (hC.shi 3 (by omega) i (by rw [eso, tN_nI (by omega)]; omega)) ?_
            refine j_iastN C 36 0 rfl rfl i rfl (by omega) (by decide) dX11_ears_101 (S, va_up X 36 (upd g i (sh (40 * 3 + i))), P) rfl ?_
            refine j_iinc C (v := (nI (i + 1))) 4 [(4, .int (nI (i + 1))), (0, .ref (q 0)), (1, .int (nI 3)), (2, .ref (q 24)), (3, .int (nI (min zz nc)))] dX11_ears_102 rfl (nI_1 _) (by decide) rfl ?_
            refine j_goto C 56 dX11_ears_105 (by decide) ?_
            refine j_L [1, 2, 3, 4, 0] [(0, .ref (q 0)), (1, .int (nI 3)), (2, .ref (q 24)), (3, .int (nI (min zz nc))), (4, .int (nI (i + 1)))] rfl ?_
            exact ih (i + 1, upd g i (sh (40 * 3 + i))) (⟨by dsimp only; omega, by dsimp only; omega, fun m hm => by
      dsimp only at hm
      by_cases e : m = i
      · subst e; exact c76
      · exact hu m (by omega), earG_t hg⟩) (by dsimp only; omega)
          · replace c76 := bI_f c76
            refine j_iload C 4 dX11_ears_79 rfl ?_
            refine j_iret C dX11_ears_81 ?_
            unfold sp_ears
            rw [if_pos (show inn (nI 3) 0 3 from c4), tN_nI (n := 3) (by decide)]
            rw [if_neg c19]
            have hl : lsF (earP row so sh 3) 41 0 = i := lsF_at (Nat.zero_le _) (by omega) (fun m _ hm h => h ⟨by rw [eso, tN_nI (by omega)]; omega, by rw [e2, tN_nI (by omega)]; omega, hu m hm⟩) (Or.inl (fun h => c76 h.2.2))
            rw [hl]
            have ho : ∀ k, k < 10 ∨ 20 ≤ k → earG row sh 3 i k = row k := fun k hk => earG_o (by omega) hk
            exact ⟨rfl, hC.nowx (fun k hk => rfl) (fun k hk => va_n (by omega)) ((ho 2 (by omega)).trans e2) ((ho 3 (by omega)).trans e3) ((ho 8 (by omega)).trans e8) ((ho 4 (by omega)).trans e4) ((ho 5 (by omega)).trans e5) ⟨hc10, hn6, hw8, ht, hq⟩ (hF.earG hg ho) (hK.row (fun k hk => va_n (by omega)) (fun k hk => ho k (by omega))) (hC.l0.st (by omega) rfl (va_n (by omega)) (fun k hk => ho k (by omega))) (hC.l1.st (by omega) rfl (va_n (by omega)) (fun k hk => ho k (by omega)))⟩
      · skip
        refine j_aload_n C 0 dX11_ears_22 rfl ?_
        refine j_iconst C (v := (nI 2)) dX11_ears_23 (by decide) ?_
        refine j_callV (As := [.int (nI 2)]) (rest := []) C vw11_90 (h_error 2 (by decide)) ⟨0, 11, _, _, rfl, rfl, rfl⟩ rfl (Nat.le_of_ble_eq_true rfl) dX11_ears_24 (by decide) ?_
        rintro _ _ ⟨rfl, rfl⟩
        refine j_iret C dX11_ears_27 ?_
        unfold sp_ears
        rw [if_pos (show inn (nI 3) 0 3 from c4), tN_nI (n := 3) (by decide)]
        rw [if_pos c19]
        exact ⟨show (-1000000000 : Int32) - nI 2 = -1000000002 from by decide, hC.er 2⟩
  · replace c4 := bI_f c4
    refine j_aload_n C 0 dX11_ears_7 rfl ?_
    refine j_iconst C (v := (nI 1)) dX11_ears_8 (by decide) ?_
    refine j_callV (As := [.int (nI 1)]) (rest := []) C vw11_90 (h_error 1 (by decide)) ⟨0, 11, _, _, rfl, rfl, rfl⟩ rfl (Nat.le_of_ble_eq_true rfl) dX11_ears_9 (by decide) ?_
    rintro _ _ ⟨rfl, rfl⟩
    refine j_iret C dX11_ears_12 ?_
    unfold sp_ears
    rw [if_neg (show ¬ inn s 0 3 from c4)]
    exact ⟨show (-1000000000 : Int32) - nI 1 = -1000000001 from by decide, hC.er 1⟩
theorem dX11_sheet_0 : decode cX11_sheet 0 = .ok (.iload_n 1, 1) := by decide +kernel
theorem dX11_sheet_1 : decode cX11_sheet 1 = .ok (.invokestatic 246, 3) := by decide +kernel
theorem dX11_sheet_4 : decode cX11_sheet 4 = .ok (.ifCond .eq 25, 3) := by decide +kernel
theorem dX11_sheet_7 : decode cX11_sheet 7 = .ok (.iload_n 2, 1) := by decide +kernel
theorem dX11_sheet_8 : decode cX11_sheet 8 = .ok (.ifCond .eq 27, 3) := by decide +kernel
theorem dX11_sheet_11 : decode cX11_sheet 11 = .ok (.iload_n 2, 1) := by decide +kernel
theorem dX11_sheet_12 : decode cX11_sheet 12 = .ok (.bipush 8, 2) := by decide +kernel
theorem dX11_sheet_14 : decode cX11_sheet 14 = .ok (.if_icmp .eq 21, 3) := by decide +kernel
theorem dX11_sheet_17 : decode cX11_sheet 17 = .ok (.iload_n 2, 1) := by decide +kernel
theorem dX11_sheet_18 : decode cX11_sheet 18 = .ok (.bipush 16, 2) := by decide +kernel
theorem dX11_sheet_20 : decode cX11_sheet 20 = .ok (.if_icmp .eq 15, 3) := by decide +kernel
theorem dX11_sheet_23 : decode cX11_sheet 23 = .ok (.iload_n 2, 1) := by decide +kernel
theorem dX11_sheet_24 : decode cX11_sheet 24 = .ok (.bipush 32, 2) := by decide +kernel
theorem dX11_sheet_26 : decode cX11_sheet 26 = .ok (.if_icmp .eq 9, 3) := by decide +kernel
theorem dX11_sheet_29 : decode cX11_sheet 29 = .ok (.aload_n 0, 1) := by decide +kernel
theorem dX11_sheet_30 : decode cX11_sheet 30 = .ok (.iconst 1, 1) := by decide +kernel
theorem dX11_sheet_31 : decode cX11_sheet 31 = .ok (.invokevirtual 90, 3) := by decide +kernel
theorem dX11_sheet_34 : decode cX11_sheet 34 = .ok (.ireturn, 1) := by decide +kernel
theorem dX11_sheet_35 : decode cX11_sheet 35 = .ok (.iload_n 2, 1) := by decide +kernel
theorem dX11_sheet_36 : decode cX11_sheet 36 = .ok (.ifCond .eq 13, 3) := by decide +kernel
theorem dX11_sheet_39 : decode cX11_sheet 39 = .ok (.iload_n 3, 1) := by decide +kernel
theorem dX11_sheet_40 : decode cX11_sheet 40 = .ok (.ifCond .ge 9, 3) := by decide +kernel
theorem dX11_sheet_43 : decode cX11_sheet 43 = .ok (.aload_n 0, 1) := by decide +kernel
theorem dX11_sheet_44 : decode cX11_sheet 44 = .ok (.iconst 3, 1) := by decide +kernel
theorem dX11_sheet_45 : decode cX11_sheet 45 = .ok (.invokevirtual 90, 3) := by decide +kernel
theorem dX11_sheet_48 : decode cX11_sheet 48 = .ok (.ireturn, 1) := by decide +kernel
theorem dX11_sheet_49 : decode cX11_sheet 49 = .ok (.iload_n 2, 1) := by decide +kernel
theorem dX11_sheet_50 : decode cX11_sheet 50 = .ok (.ifCond .eq 15, 3) := by decide +kernel
theorem dX11_sheet_53 : decode cX11_sheet 53 = .ok (.iload_n 3, 1) := by decide +kernel
theorem dX11_sheet_54 : decode cX11_sheet 54 = .ok (.bipush 40, 2) := by decide +kernel
theorem dX11_sheet_56 : decode cX11_sheet 56 = .ok (.if_icmp .le 9, 3) := by decide +kernel
theorem dX11_sheet_59 : decode cX11_sheet 59 = .ok (.aload_n 0, 1) := by decide +kernel
theorem dX11_sheet_60 : decode cX11_sheet 60 = .ok (.iconst 1, 1) := by decide +kernel
theorem dX11_sheet_61 : decode cX11_sheet 61 = .ok (.invokevirtual 90, 3) := by decide +kernel
theorem dX11_sheet_64 : decode cX11_sheet 64 = .ok (.ireturn, 1) := by decide +kernel
theorem dX11_sheet_65 : decode cX11_sheet 65 = .ok (.aload_n 0, 1) := by decide +kernel
theorem dX11_sheet_66 : decode cX11_sheet 66 = .ok (.getfield 29, 3) := by decide +kernel
theorem dX11_sheet_69 : decode cX11_sheet 69 = .ok (.iload_n 1, 1) := by decide +kernel
theorem dX11_sheet_70 : decode cX11_sheet 70 = .ok (.iload_n 2, 1) := by decide +kernel
theorem dX11_sheet_71 : decode cX11_sheet 71 = .ok (.iastore, 1) := by decide +kernel
theorem dX11_sheet_72 : decode cX11_sheet 72 = .ok (.aload_n 0, 1) := by decide +kernel
theorem dX11_sheet_73 : decode cX11_sheet 73 = .ok (.getfield 25, 3) := by decide +kernel
theorem dX11_sheet_76 : decode cX11_sheet 76 = .ok (.iload_n 1, 1) := by decide +kernel
theorem dX11_sheet_77 : decode cX11_sheet 77 = .ok (.aaload, 1) := by decide +kernel
theorem dX11_sheet_78 : decode cX11_sheet 78 = .ok (.iload_n 2, 1) := by decide +kernel
theorem dX11_sheet_79 : decode cX11_sheet 79 = .ok (.ifCond .ne 7, 3) := by decide +kernel
theorem dX11_sheet_82 : decode cX11_sheet 82 = .ok (.iconst 0, 1) := by decide +kernel
theorem dX11_sheet_83 : decode cX11_sheet 83 = .ok (.goto 4, 3) := by decide +kernel
theorem dX11_sheet_86 : decode cX11_sheet 86 = .ok (.iload_n 3, 1) := by decide +kernel
theorem dX11_sheet_87 : decode cX11_sheet 87 = .ok (.invokevirtual 284, 3) := by decide +kernel
theorem dX11_sheet_90 : decode cX11_sheet 90 = .ok (.iconst 1, 1) := by decide +kernel
theorem dX11_sheet_91 : decode cX11_sheet 91 = .ok (.ireturn, 1) := by decide +kernel
set_option maxHeartbeats 2000000 in
set_option maxRecDepth 20000 in
theorem k_sheet {l : Launch} {D : va_G} {cI cG cW : ClassId} {q : Nat → Nat} {S : Nat → Int32} {X : Nat → Nat → Int32} {P : Nat → Nat} {s b n : Int32} {V row kept tried bf fd pk bo so sh mv tr : Nat → Int32} {nc np nw d nt nq : Nat} (hR : RKx row nc np nw d nt nq) (hC : CR (S, X, P) (sR V row kept tried bf fd pk bo so sh mv tr)) (hSh : ∀ s, s < 4 → (bo s = nI 0 ∨ bo s = nI 8 ∨ bo s = nI 16 ∨ bo s = nI 32) ∧ ∃ n, n ≤ 40 ∧ so s = nI n) : Ci l yX11_sheet cX11_sheet 4 (some .int) 3 D (tyL cI cG cW) (wC cI cG cW q) [.ref (q 0), .int s, .int b, .int n] (S, X, P) (fun r τ => r = (sp_sheet V row kept tried bf fd pk bo so sh mv tr s b n).1 ∧ CR τ (sp_sheet V row kept tried bf fd pk bo so sh mv tr s b n).2) := by
  refine Ci.of (by decide) (Nat.le_of_ble_eq_true rfl) ?_
  intro p_ e_ s_ m_ b_ M_ c_ A_ C
  replace C : Cx _ _ _ _ _ _ _ _ RX11 _ _ _ _ := C
  refine j_L [0, 1, 2, 3] [(0, .ref (q 0)), (1, .int s), (2, .int b), (3, .int n)] rfl ?_
  obtain ⟨hI, hW, ⟨e0, hd⟩, ⟨e4, ht⟩, ⟨e5, hq⟩, hB⟩ := id hR
  obtain ⟨⟨e2, hc2, hc10⟩, ⟨e3, hn6⟩, ⟨e8, hw8⟩, hP, hE, hLo, hT0, hT1⟩ := id hI
  have hIc := hI
  have hF : CF S X 0 row (X 44) nc np := by have h := hC.fld; rw [e2, e3, tN_nI (by omega), tN_nI (by omega)] at h; exact h
  have hK : CK S X 0 row nw nt nq := by have h := hC.kp; rw [e8, e4, e5, tN_nI (by omega), tN_nI (by omega), tN_nI (by omega)] at h; exact h
  have hS1 : S 1 = row 8 := hK.wrongs
  have hS5 : S 5 = row 2 := hF.cells
  have hS7 : S 7 = row 3 := hF.people
  refine j_iload_n C 1 dX11_sheet_0 rfl ?_
  refine j_callS (As := [.int s]) (rest := []) C sw11_246 (h_isSheet) rfl (Nat.le_of_ble_eq_true rfl) dX11_sheet_1 (by decide) ?_
  rintro _ _ ⟨rfl, rfl⟩
  refine j_if_eq C 29 dX11_sheet_4 (by decide) (fun c4 => ?_) (fun c4 => ?_)
  · replace c4 := bI_f c4
    refine j_aload_n C 0 dX11_sheet_29 rfl ?_
    refine j_iconst C (v := (nI 1)) dX11_sheet_30 (by decide) ?_
    refine j_callV (As := [.int (nI 1)]) (rest := []) C vw11_90 (h_error 1 (by decide)) ⟨0, 11, _, _, rfl, rfl, rfl⟩ rfl (Nat.le_of_ble_eq_true rfl) dX11_sheet_31 (by decide) ?_
    rintro _ _ ⟨rfl, rfl⟩
    refine j_iret C dX11_sheet_34 ?_
    unfold sp_sheet
    rw [if_neg (fun h => c4 h.1)]
    exact ⟨show (-1000000000 : Int32) - nI 1 = -1000000001 from by decide, hC.er 1⟩
  · replace c4 := bI_t c4
    obtain ⟨sn, gsn, hsn, rfl⟩ := inn_lit c4 (by omega)
    refine j_iload_n C 2 dX11_sheet_7 rfl ?_
    refine j_if_eq C 35 dX11_sheet_8 (by decide) (fun c8 => ?_) (fun c8 => ?_)
    · skip
      refine j_iload_n C 2 dX11_sheet_35 rfl ?_
      refine j_if_eq C 49 dX11_sheet_36 (by decide) (fun c36 => ?_) (fun c36 => ?_)
      · skip
        refine j_iload_n C 2 dX11_sheet_49 rfl ?_
        refine j_if_eq C 65 dX11_sheet_50 (by decide) (fun c50 => ?_) (fun c50 => ?_)
        · skip
          rcases (show sn = 0 ∨ sn = 1 ∨ sn = 2 ∨ sn = 3 by omega) with rfl | rfl | rfl | rfl
          · obtain ⟨-, zz, hzz, eso⟩ := hSh 0 (by omega)
            have hss : S 29 = nI zz := (hC.shs 0 (by omega)).trans eso
            refine j_aload_n C 0 dX11_sheet_65 rfl ?_
            refine j_get C (v := .ref (q 34)) 0 7 rfl rfl inlC11 (by decide) kf11_29 rfl dX11_sheet_66 ?_
            refine j_iload_n C 1 dX11_sheet_69 rfl ?_
            refine j_iload_n C 2 dX11_sheet_70 rfl ?_
            refine j_iastN C 34 0 rfl rfl 0 rfl (by omega) (by decide) dX11_sheet_71 (S, va_up X 34 (upd (X 34) 0 b), P) rfl ?_
            refine j_aload_n C 0 dX11_sheet_72 rfl ?_
            refine j_get C (v := .ref (q 33)) 0 6 rfl rfl inlC11 (by decide) kf11_25 rfl dX11_sheet_73 ?_
            refine j_iload_n C 1 dX11_sheet_76 rfl ?_
            refine j_aaldN C 33 2 rfl rfl 0 rfl (by decide) (by decide) rfl dX11_sheet_77 ?_
            refine j_iload_n C 2 dX11_sheet_78 rfl ?_
            refine j_if_ne C 86 dX11_sheet_79 (by decide) (fun c79 => ?_) (fun c79 => ?_)
            · skip
              exact absurd c50 c79
            · skip
              refine j_iconst C (v := (nI 0)) dX11_sheet_82 (by decide) ?_
              refine j_goto C 87 dX11_sheet_83 (by decide) ?_
              refine j_callVNv (As := [.int (nI 0)]) (rest := []) C vn11_284 (h_zeros_10 0 (by omega)) ⟨21, 8, _, _, rfl, rfl, rfl⟩ rfl (Nat.le_of_ble_eq_true rfl) dX11_sheet_87 (by decide) ?_
              rintro _ rfl
              refine j_iconst C (v := (nI 1)) dX11_sheet_90 (by decide) ?_
              refine j_iret C dX11_sheet_91 ?_
              unfold sp_sheet
              rw [if_pos ⟨show inn _ 0 3 from c4, Or.inl c8⟩]
              rw [if_neg (fun h => h.1 c8), if_neg (fun h => h.1 c8), if_pos c8, tN_nI (n := 0) (by decide)]
              exact ⟨rfl, hC.sheet hSh 0 (by omega) b 0 (by omega)⟩
          · obtain ⟨-, zz, hzz, eso⟩ := hSh 1 (by omega)
            have hss : S 30 = nI zz := (hC.shs 1 (by omega)).trans eso
            refine j_aload_n C 0 dX11_sheet_65 rfl ?_
            refine j_get C (v := .ref (q 34)) 0 7 rfl rfl inlC11 (by decide) kf11_29 rfl dX11_sheet_66 ?_
            refine j_iload_n C 1 dX11_sheet_69 rfl ?_
            refine j_iload_n C 2 dX11_sheet_70 rfl ?_
            refine j_iastN C 34 0 rfl rfl 1 rfl (by omega) (by decide) dX11_sheet_71 (S, va_up X 34 (upd (X 34) 1 b), P) rfl ?_
            refine j_aload_n C 0 dX11_sheet_72 rfl ?_
            refine j_get C (v := .ref (q 33)) 0 6 rfl rfl inlC11 (by decide) kf11_25 rfl dX11_sheet_73 ?_
            refine j_iload_n C 1 dX11_sheet_76 rfl ?_
            refine j_aaldN C 33 2 rfl rfl 1 rfl (by decide) (by decide) rfl dX11_sheet_77 ?_
            refine j_iload_n C 2 dX11_sheet_78 rfl ?_
            refine j_if_ne C 86 dX11_sheet_79 (by decide) (fun c79 => ?_) (fun c79 => ?_)
            · skip
              exact absurd c50 c79
            · skip
              refine j_iconst C (v := (nI 0)) dX11_sheet_82 (by decide) ?_
              refine j_goto C 87 dX11_sheet_83 (by decide) ?_
              refine j_callVNv (As := [.int (nI 0)]) (rest := []) C vn11_284 (h_zeros_11 0 (by omega)) ⟨22, 8, _, _, rfl, rfl, rfl⟩ rfl (Nat.le_of_ble_eq_true rfl) dX11_sheet_87 (by decide) ?_
              rintro _ rfl
              refine j_iconst C (v := (nI 1)) dX11_sheet_90 (by decide) ?_
              refine j_iret C dX11_sheet_91 ?_
              unfold sp_sheet
              rw [if_pos ⟨show inn _ 0 3 from c4, Or.inl c8⟩]
              rw [if_neg (fun h => h.1 c8), if_neg (fun h => h.1 c8), if_pos c8, tN_nI (n := 1) (by decide)]
              exact ⟨rfl, hC.sheet hSh 1 (by omega) b 0 (by omega)⟩
          · obtain ⟨-, zz, hzz, eso⟩ := hSh 2 (by omega)
            have hss : S 31 = nI zz := (hC.shs 2 (by omega)).trans eso
            refine j_aload_n C 0 dX11_sheet_65 rfl ?_
            refine j_get C (v := .ref (q 34)) 0 7 rfl rfl inlC11 (by decide) kf11_29 rfl dX11_sheet_66 ?_
            refine j_iload_n C 1 dX11_sheet_69 rfl ?_
            refine j_iload_n C 2 dX11_sheet_70 rfl ?_
            refine j_iastN C 34 0 rfl rfl 2 rfl (by omega) (by decide) dX11_sheet_71 (S, va_up X 34 (upd (X 34) 2 b), P) rfl ?_
            refine j_aload_n C 0 dX11_sheet_72 rfl ?_
            refine j_get C (v := .ref (q 33)) 0 6 rfl rfl inlC11 (by decide) kf11_25 rfl dX11_sheet_73 ?_
            refine j_iload_n C 1 dX11_sheet_76 rfl ?_
            refine j_aaldN C 33 2 rfl rfl 2 rfl (by decide) (by decide) rfl dX11_sheet_77 ?_
            refine j_iload_n C 2 dX11_sheet_78 rfl ?_
            refine j_if_ne C 86 dX11_sheet_79 (by decide) (fun c79 => ?_) (fun c79 => ?_)
            · skip
              exact absurd c50 c79
            · skip
              refine j_iconst C (v := (nI 0)) dX11_sheet_82 (by decide) ?_
              refine j_goto C 87 dX11_sheet_83 (by decide) ?_
              refine j_callVNv (As := [.int (nI 0)]) (rest := []) C vn11_284 (h_zeros_12 0 (by omega)) ⟨23, 8, _, _, rfl, rfl, rfl⟩ rfl (Nat.le_of_ble_eq_true rfl) dX11_sheet_87 (by decide) ?_
              rintro _ rfl
              refine j_iconst C (v := (nI 1)) dX11_sheet_90 (by decide) ?_
              refine j_iret C dX11_sheet_91 ?_
              unfold sp_sheet
              rw [if_pos ⟨show inn _ 0 3 from c4, Or.inl c8⟩]
              rw [if_neg (fun h => h.1 c8), if_neg (fun h => h.1 c8), if_pos c8, tN_nI (n := 2) (by decide)]
              exact ⟨rfl, hC.sheet hSh 2 (by omega) b 0 (by omega)⟩
          · obtain ⟨-, zz, hzz, eso⟩ := hSh 3 (by omega)
            have hss : S 32 = nI zz := (hC.shs 3 (by omega)).trans eso
            refine j_aload_n C 0 dX11_sheet_65 rfl ?_
            refine j_get C (v := .ref (q 34)) 0 7 rfl rfl inlC11 (by decide) kf11_29 rfl dX11_sheet_66 ?_
            refine j_iload_n C 1 dX11_sheet_69 rfl ?_
            refine j_iload_n C 2 dX11_sheet_70 rfl ?_
            refine j_iastN C 34 0 rfl rfl 3 rfl (by omega) (by decide) dX11_sheet_71 (S, va_up X 34 (upd (X 34) 3 b), P) rfl ?_
            refine j_aload_n C 0 dX11_sheet_72 rfl ?_
            refine j_get C (v := .ref (q 33)) 0 6 rfl rfl inlC11 (by decide) kf11_25 rfl dX11_sheet_73 ?_
            refine j_iload_n C 1 dX11_sheet_76 rfl ?_
            refine j_aaldN C 33 2 rfl rfl 3 rfl (by decide) (by decide) rfl dX11_sheet_77 ?_
            refine j_iload_n C 2 dX11_sheet_78 rfl ?_
            refine j_if_ne C 86 dX11_sheet_79 (by decide) (fun c79 => ?_) (fun c79 => ?_)
            · skip
              exact absurd c50 c79
            · skip
              refine j_iconst C (v := (nI 0)) dX11_sheet_82 (by decide) ?_
              refine j_goto C 87 dX11_sheet_83 (by decide) ?_
              refine j_callVNv (As := [.int (nI 0)]) (rest := []) C vn11_284 (h_zeros_13 0 (by omega)) ⟨24, 8, _, _, rfl, rfl, rfl⟩ rfl (Nat.le_of_ble_eq_true rfl) dX11_sheet_87 (by decide) ?_
              rintro _ rfl
              refine j_iconst C (v := (nI 1)) dX11_sheet_90 (by decide) ?_
              refine j_iret C dX11_sheet_91 ?_
              unfold sp_sheet
              rw [if_pos ⟨show inn _ 0 3 from c4, Or.inl c8⟩]
              rw [if_neg (fun h => h.1 c8), if_neg (fun h => h.1 c8), if_pos c8, tN_nI (n := 3) (by decide)]
              exact ⟨rfl, hC.sheet hSh 3 (by omega) b 0 (by omega)⟩
        · skip
          exact absurd c36 c50
      · skip
        exact absurd c8 c36
    · skip
      refine j_iload_n C 2 dX11_sheet_11 rfl ?_
      refine j_bipush C (v := (nI 8)) dX11_sheet_12 (by decide) ?_
      refine j_icmp_eq C 35 dX11_sheet_14 (by decide) (fun c14 => ?_) (fun c14 => ?_)
      · skip
        refine j_iload_n C 2 dX11_sheet_35 rfl ?_
        refine j_if_eq C 49 dX11_sheet_36 (by decide) (fun c36 => ?_) (fun c36 => ?_)
        · skip
          exact absurd c36 c8
        · skip
          refine j_iload_n C 3 dX11_sheet_39 rfl ?_
          refine j_if_ge C 49 dX11_sheet_40 (by decide) (fun c40 => ?_) (fun c40 => ?_)
          · skip
            refine j_iload_n C 2 dX11_sheet_49 rfl ?_
            refine j_if_eq C 65 dX11_sheet_50 (by decide) (fun c50 => ?_) (fun c50 => ?_)
            · skip
              exact absurd c50 c36
            · skip
              refine j_iload_n C 3 dX11_sheet_53 rfl ?_
              refine j_bipush C (v := (nI 40)) dX11_sheet_54 (by decide) ?_
              refine j_icmp_le C 65 dX11_sheet_56 (by decide) (fun c56 => ?_) (fun c56 => ?_)
              · skip
                obtain ⟨nn, gnn, hnn, rfl⟩ := inn_lit (a := 0) (b := 40) ⟨c40, c56⟩ (by omega)
                rcases (show sn = 0 ∨ sn = 1 ∨ sn = 2 ∨ sn = 3 by omega) with rfl | rfl | rfl | rfl
                · obtain ⟨-, zz, hzz, eso⟩ := hSh 0 (by omega)
                  have hss : S 29 = nI zz := (hC.shs 0 (by omega)).trans eso
                  refine j_aload_n C 0 dX11_sheet_65 rfl ?_
                  refine j_get C (v := .ref (q 34)) 0 7 rfl rfl inlC11 (by decide) kf11_29 rfl dX11_sheet_66 ?_
                  refine j_iload_n C 1 dX11_sheet_69 rfl ?_
                  refine j_iload_n C 2 dX11_sheet_70 rfl ?_
                  refine j_iastN C 34 0 rfl rfl 0 rfl (by omega) (by decide) dX11_sheet_71 (S, va_up X 34 (upd (X 34) 0 b), P) rfl ?_
                  refine j_aload_n C 0 dX11_sheet_72 rfl ?_
                  refine j_get C (v := .ref (q 33)) 0 6 rfl rfl inlC11 (by decide) kf11_25 rfl dX11_sheet_73 ?_
                  refine j_iload_n C 1 dX11_sheet_76 rfl ?_
                  refine j_aaldN C 33 2 rfl rfl 0 rfl (by decide) (by decide) rfl dX11_sheet_77 ?_
                  refine j_iload_n C 2 dX11_sheet_78 rfl ?_
                  refine j_if_ne C 86 dX11_sheet_79 (by decide) (fun c79 => ?_) (fun c79 => ?_)
                  · skip
                    refine j_iload_n C 3 dX11_sheet_86 rfl ?_
                    refine j_callVNv (As := [.int (nI nn)]) (rest := []) C vn11_284 (h_zeros_10 nn (by omega)) ⟨21, 8, _, _, rfl, rfl, rfl⟩ rfl (Nat.le_of_ble_eq_true rfl) dX11_sheet_87 (by decide) ?_
                    rintro _ rfl
                    refine j_iconst C (v := (nI 1)) dX11_sheet_90 (by decide) ?_
                    refine j_iret C dX11_sheet_91 ?_
                    unfold sp_sheet
                    rw [if_pos ⟨show inn _ 0 3 from c4, Or.inr (Or.inl c14)⟩]
                    rw [if_neg (fun h => h.2 c40), if_neg (fun h => h.2 c56), if_neg c8, tN_nI (n := 0) (by decide)]
                    exact ⟨rfl, hC.sheet hSh 0 (by omega) b nn (by omega)⟩
                  · skip
                    exact absurd c79 c50
                · obtain ⟨-, zz, hzz, eso⟩ := hSh 1 (by omega)
                  have hss : S 30 = nI zz := (hC.shs 1 (by omega)).trans eso
                  refine j_aload_n C 0 dX11_sheet_65 rfl ?_
                  refine j_get C (v := .ref (q 34)) 0 7 rfl rfl inlC11 (by decide) kf11_29 rfl dX11_sheet_66 ?_
                  refine j_iload_n C 1 dX11_sheet_69 rfl ?_
                  refine j_iload_n C 2 dX11_sheet_70 rfl ?_
                  refine j_iastN C 34 0 rfl rfl 1 rfl (by omega) (by decide) dX11_sheet_71 (S, va_up X 34 (upd (X 34) 1 b), P) rfl ?_
                  refine j_aload_n C 0 dX11_sheet_72 rfl ?_
                  refine j_get C (v := .ref (q 33)) 0 6 rfl rfl inlC11 (by decide) kf11_25 rfl dX11_sheet_73 ?_
                  refine j_iload_n C 1 dX11_sheet_76 rfl ?_
                  refine j_aaldN C 33 2 rfl rfl 1 rfl (by decide) (by decide) rfl dX11_sheet_77 ?_
                  refine j_iload_n C 2 dX11_sheet_78 rfl ?_
                  refine j_if_ne C 86 dX11_sheet_79 (by decide) (fun c79 => ?_) (fun c79 => ?_)
                  · skip
                    refine j_iload_n C 3 dX11_sheet_86 rfl ?_
                    refine j_callVNv (As := [.int (nI nn)]) (rest := []) C vn11_284 (h_zeros_11 nn (by omega)) ⟨22, 8, _, _, rfl, rfl, rfl⟩ rfl (Nat.le_of_ble_eq_true rfl) dX11_sheet_87 (by decide) ?_
                    rintro _ rfl
                    refine j_iconst C (v := (nI 1)) dX11_sheet_90 (by decide) ?_
                    refine j_iret C dX11_sheet_91 ?_
                    unfold sp_sheet
                    rw [if_pos ⟨show inn _ 0 3 from c4, Or.inr (Or.inl c14)⟩]
                    rw [if_neg (fun h => h.2 c40), if_neg (fun h => h.2 c56), if_neg c8, tN_nI (n := 1) (by decide)]
                    exact ⟨rfl, hC.sheet hSh 1 (by omega) b nn (by omega)⟩
                  · skip
                    exact absurd c79 c50
                · obtain ⟨-, zz, hzz, eso⟩ := hSh 2 (by omega)
                  have hss : S 31 = nI zz := (hC.shs 2 (by omega)).trans eso
                  refine j_aload_n C 0 dX11_sheet_65 rfl ?_
                  refine j_get C (v := .ref (q 34)) 0 7 rfl rfl inlC11 (by decide) kf11_29 rfl dX11_sheet_66 ?_
                  refine j_iload_n C 1 dX11_sheet_69 rfl ?_
                  refine j_iload_n C 2 dX11_sheet_70 rfl ?_
                  refine j_iastN C 34 0 rfl rfl 2 rfl (by omega) (by decide) dX11_sheet_71 (S, va_up X 34 (upd (X 34) 2 b), P) rfl ?_
                  refine j_aload_n C 0 dX11_sheet_72 rfl ?_
                  refine j_get C (v := .ref (q 33)) 0 6 rfl rfl inlC11 (by decide) kf11_25 rfl dX11_sheet_73 ?_
                  refine j_iload_n C 1 dX11_sheet_76 rfl ?_
                  refine j_aaldN C 33 2 rfl rfl 2 rfl (by decide) (by decide) rfl dX11_sheet_77 ?_
                  refine j_iload_n C 2 dX11_sheet_78 rfl ?_
                  refine j_if_ne C 86 dX11_sheet_79 (by decide) (fun c79 => ?_) (fun c79 => ?_)
                  · skip
                    refine j_iload_n C 3 dX11_sheet_86 rfl ?_
                    refine j_callVNv (As := [.int (nI nn)]) (rest := []) C vn11_284 (h_zeros_12 nn (by omega)) ⟨23, 8, _, _, rfl, rfl, rfl⟩ rfl (Nat.le_of_ble_eq_true rfl) dX11_sheet_87 (by decide) ?_
                    rintro _ rfl
                    refine j_iconst C (v := (nI 1)) dX11_sheet_90 (by decide) ?_
                    refine j_iret C dX11_sheet_91 ?_
                    unfold sp_sheet
                    rw [if_pos ⟨show inn _ 0 3 from c4, Or.inr (Or.inl c14)⟩]
                    rw [if_neg (fun h => h.2 c40), if_neg (fun h => h.2 c56), if_neg c8, tN_nI (n := 2) (by decide)]
                    exact ⟨rfl, hC.sheet hSh 2 (by omega) b nn (by omega)⟩
                  · skip
                    exact absurd c79 c50
                · obtain ⟨-, zz, hzz, eso⟩ := hSh 3 (by omega)
                  have hss : S 32 = nI zz := (hC.shs 3 (by omega)).trans eso
                  refine j_aload_n C 0 dX11_sheet_65 rfl ?_
                  refine j_get C (v := .ref (q 34)) 0 7 rfl rfl inlC11 (by decide) kf11_29 rfl dX11_sheet_66 ?_
                  refine j_iload_n C 1 dX11_sheet_69 rfl ?_
                  refine j_iload_n C 2 dX11_sheet_70 rfl ?_
                  refine j_iastN C 34 0 rfl rfl 3 rfl (by omega) (by decide) dX11_sheet_71 (S, va_up X 34 (upd (X 34) 3 b), P) rfl ?_
                  refine j_aload_n C 0 dX11_sheet_72 rfl ?_
                  refine j_get C (v := .ref (q 33)) 0 6 rfl rfl inlC11 (by decide) kf11_25 rfl dX11_sheet_73 ?_
                  refine j_iload_n C 1 dX11_sheet_76 rfl ?_
                  refine j_aaldN C 33 2 rfl rfl 3 rfl (by decide) (by decide) rfl dX11_sheet_77 ?_
                  refine j_iload_n C 2 dX11_sheet_78 rfl ?_
                  refine j_if_ne C 86 dX11_sheet_79 (by decide) (fun c79 => ?_) (fun c79 => ?_)
                  · skip
                    refine j_iload_n C 3 dX11_sheet_86 rfl ?_
                    refine j_callVNv (As := [.int (nI nn)]) (rest := []) C vn11_284 (h_zeros_13 nn (by omega)) ⟨24, 8, _, _, rfl, rfl, rfl⟩ rfl (Nat.le_of_ble_eq_true rfl) dX11_sheet_87 (by decide) ?_
                    rintro _ rfl
                    refine j_iconst C (v := (nI 1)) dX11_sheet_90 (by decide) ?_
                    refine j_iret C dX11_sheet_91 ?_
                    unfold sp_sheet
                    rw [if_pos ⟨show inn _ 0 3 from c4, Or.inr (Or.inl c14)⟩]
                    rw [if_neg (fun h => h.2 c40), if_neg (fun h => h.2 c56), if_neg c8, tN_nI (n := 3) (by decide)]
                    exact ⟨rfl, hC.sheet hSh 3 (by omega) b nn (by omega)⟩
                  · skip
                    exact absurd c79 c50
              · skip
                refine j_aload_n C 0 dX11_sheet_59 rfl ?_
                refine j_iconst C (v := (nI 1)) dX11_sheet_60 (by decide) ?_
                refine j_callV (As := [.int (nI 1)]) (rest := []) C vw11_90 (h_error 1 (by decide)) ⟨0, 11, _, _, rfl, rfl, rfl⟩ rfl (Nat.le_of_ble_eq_true rfl) dX11_sheet_61 (by decide) ?_
                rintro _ _ ⟨rfl, rfl⟩
                refine j_iret C dX11_sheet_64 ?_
                unfold sp_sheet
                rw [if_pos ⟨show inn _ 0 3 from c4, Or.inr (Or.inl c14)⟩]
                rw [if_neg (fun h => h.2 c40), if_pos ⟨c8, c56⟩]
                exact ⟨show (-1000000000 : Int32) - nI 1 = -1000000001 from by decide, hC.er 1⟩
          · skip
            refine j_aload_n C 0 dX11_sheet_43 rfl ?_
            refine j_iconst C (v := (nI 3)) dX11_sheet_44 (by decide) ?_
            refine j_callV (As := [.int (nI 3)]) (rest := []) C vw11_90 (h_error 3 (by decide)) ⟨0, 11, _, _, rfl, rfl, rfl⟩ rfl (Nat.le_of_ble_eq_true rfl) dX11_sheet_45 (by decide) ?_
            rintro _ _ ⟨rfl, rfl⟩
            refine j_iret C dX11_sheet_48 ?_
            unfold sp_sheet
            rw [if_pos ⟨show inn _ 0 3 from c4, Or.inr (Or.inl c14)⟩]
            rw [if_pos ⟨c8, c40⟩]
            exact ⟨show (-1000000000 : Int32) - nI 3 = -1000000003 from by decide, hC.er 3⟩
      · skip
        refine j_iload_n C 2 dX11_sheet_17 rfl ?_
        refine j_bipush C (v := (nI 16)) dX11_sheet_18 (by decide) ?_
        refine j_icmp_eq C 35 dX11_sheet_20 (by decide) (fun c20 => ?_) (fun c20 => ?_)
        · skip
          refine j_iload_n C 2 dX11_sheet_35 rfl ?_
          refine j_if_eq C 49 dX11_sheet_36 (by decide) (fun c36 => ?_) (fun c36 => ?_)
          · skip
            exact absurd c36 c8
          · skip
            refine j_iload_n C 3 dX11_sheet_39 rfl ?_
            refine j_if_ge C 49 dX11_sheet_40 (by decide) (fun c40 => ?_) (fun c40 => ?_)
            · skip
              refine j_iload_n C 2 dX11_sheet_49 rfl ?_
              refine j_if_eq C 65 dX11_sheet_50 (by decide) (fun c50 => ?_) (fun c50 => ?_)
              · skip
                exact absurd c50 c36
              · skip
                refine j_iload_n C 3 dX11_sheet_53 rfl ?_
                refine j_bipush C (v := (nI 40)) dX11_sheet_54 (by decide) ?_
                refine j_icmp_le C 65 dX11_sheet_56 (by decide) (fun c56 => ?_) (fun c56 => ?_)
                · skip
                  obtain ⟨nn, gnn, hnn, rfl⟩ := inn_lit (a := 0) (b := 40) ⟨c40, c56⟩ (by omega)
                  rcases (show sn = 0 ∨ sn = 1 ∨ sn = 2 ∨ sn = 3 by omega) with rfl | rfl | rfl | rfl
                  · obtain ⟨-, zz, hzz, eso⟩ := hSh 0 (by omega)
                    have hss : S 29 = nI zz := (hC.shs 0 (by omega)).trans eso
                    refine j_aload_n C 0 dX11_sheet_65 rfl ?_
                    refine j_get C (v := .ref (q 34)) 0 7 rfl rfl inlC11 (by decide) kf11_29 rfl dX11_sheet_66 ?_
                    refine j_iload_n C 1 dX11_sheet_69 rfl ?_
                    refine j_iload_n C 2 dX11_sheet_70 rfl ?_
                    refine j_iastN C 34 0 rfl rfl 0 rfl (by omega) (by decide) dX11_sheet_71 (S, va_up X 34 (upd (X 34) 0 b), P) rfl ?_
                    refine j_aload_n C 0 dX11_sheet_72 rfl ?_
                    refine j_get C (v := .ref (q 33)) 0 6 rfl rfl inlC11 (by decide) kf11_25 rfl dX11_sheet_73 ?_
                    refine j_iload_n C 1 dX11_sheet_76 rfl ?_
                    refine j_aaldN C 33 2 rfl rfl 0 rfl (by decide) (by decide) rfl dX11_sheet_77 ?_
                    refine j_iload_n C 2 dX11_sheet_78 rfl ?_
                    refine j_if_ne C 86 dX11_sheet_79 (by decide) (fun c79 => ?_) (fun c79 => ?_)
                    · skip
                      refine j_iload_n C 3 dX11_sheet_86 rfl ?_
                      refine j_callVNv (As := [.int (nI nn)]) (rest := []) C vn11_284 (h_zeros_10 nn (by omega)) ⟨21, 8, _, _, rfl, rfl, rfl⟩ rfl (Nat.le_of_ble_eq_true rfl) dX11_sheet_87 (by decide) ?_
                      rintro _ rfl
                      refine j_iconst C (v := (nI 1)) dX11_sheet_90 (by decide) ?_
                      refine j_iret C dX11_sheet_91 ?_
                      unfold sp_sheet
                      rw [if_pos ⟨show inn _ 0 3 from c4, Or.inr (Or.inr (Or.inl c20))⟩]
                      rw [if_neg (fun h => h.2 c40), if_neg (fun h => h.2 c56), if_neg c8, tN_nI (n := 0) (by decide)]
                      exact ⟨rfl, hC.sheet hSh 0 (by omega) b nn (by omega)⟩
                    · skip
                      exact absurd c79 c50
                  · obtain ⟨-, zz, hzz, eso⟩ := hSh 1 (by omega)
                    have hss : S 30 = nI zz := (hC.shs 1 (by omega)).trans eso
                    refine j_aload_n C 0 dX11_sheet_65 rfl ?_
                    refine j_get C (v := .ref (q 34)) 0 7 rfl rfl inlC11 (by decide) kf11_29 rfl dX11_sheet_66 ?_
                    refine j_iload_n C 1 dX11_sheet_69 rfl ?_
                    refine j_iload_n C 2 dX11_sheet_70 rfl ?_
                    refine j_iastN C 34 0 rfl rfl 1 rfl (by omega) (by decide) dX11_sheet_71 (S, va_up X 34 (upd (X 34) 1 b), P) rfl ?_
                    refine j_aload_n C 0 dX11_sheet_72 rfl ?_
                    refine j_get C (v := .ref (q 33)) 0 6 rfl rfl inlC11 (by decide) kf11_25 rfl dX11_sheet_73 ?_
                    refine j_iload_n C 1 dX11_sheet_76 rfl ?_
                    refine j_aaldN C 33 2 rfl rfl 1 rfl (by decide) (by decide) rfl dX11_sheet_77 ?_
                    refine j_iload_n C 2 dX11_sheet_78 rfl ?_
                    refine j_if_ne C 86 dX11_sheet_79 (by decide) (fun c79 => ?_) (fun c79 => ?_)
                    · skip
                      refine j_iload_n C 3 dX11_sheet_86 rfl ?_
                      refine j_callVNv (As := [.int (nI nn)]) (rest := []) C vn11_284 (h_zeros_11 nn (by omega)) ⟨22, 8, _, _, rfl, rfl, rfl⟩ rfl (Nat.le_of_ble_eq_true rfl) dX11_sheet_87 (by decide) ?_
                      rintro _ rfl
                      refine j_iconst C (v := (nI 1)) dX11_sheet_90 (by decide) ?_
                      refine j_iret C dX11_sheet_91 ?_
                      unfold sp_sheet
                      rw [if_pos ⟨show inn _ 0 3 from c4, Or.inr (Or.inr (Or.inl c20))⟩]
                      rw [if_neg (fun h => h.2 c40), if_neg (fun h => h.2 c56), if_neg c8, tN_nI (n := 1) (by decide)]
                      exact ⟨rfl, hC.sheet hSh 1 (by omega) b nn (by omega)⟩
                    · skip
                      exact absurd c79 c50
                  · obtain ⟨-, zz, hzz, eso⟩ := hSh 2 (by omega)
                    have hss : S 31 = nI zz := (hC.shs 2 (by omega)).trans eso
                    refine j_aload_n C 0 dX11_sheet_65 rfl ?_
                    refine j_get C (v := .ref (q 34)) 0 7 rfl rfl inlC11 (by decide) kf11_29 rfl dX11_sheet_66 ?_
                    refine j_iload_n C 1 dX11_sheet_69 rfl ?_
                    refine j_iload_n C 2 dX11_sheet_70 rfl ?_
                    refine j_iastN C 34 0 rfl rfl 2 rfl (by omega) (by decide) dX11_sheet_71 (S, va_up X 34 (upd (X 34) 2 b), P) rfl ?_
                    refine j_aload_n C 0 dX11_sheet_72 rfl ?_
                    refine j_get C (v := .ref (q 33)) 0 6 rfl rfl inlC11 (by decide) kf11_25 rfl dX11_sheet_73 ?_
                    refine j_iload_n C 1 dX11_sheet_76 rfl ?_
                    refine j_aaldN C 33 2 rfl rfl 2 rfl (by decide) (by decide) rfl dX11_sheet_77 ?_
                    refine j_iload_n C 2 dX11_sheet_78 rfl ?_
                    refine j_if_ne C 86 dX11_sheet_79 (by decide) (fun c79 => ?_) (fun c79 => ?_)
                    · skip
                      refine j_iload_n C 3 dX11_sheet_86 rfl ?_
                      refine j_callVNv (As := [.int (nI nn)]) (rest := []) C vn11_284 (h_zeros_12 nn (by omega)) ⟨23, 8, _, _, rfl, rfl, rfl⟩ rfl (Nat.le_of_ble_eq_true rfl) dX11_sheet_87 (by decide) ?_
                      rintro _ rfl
                      refine j_iconst C (v := (nI 1)) dX11_sheet_90 (by decide) ?_
                      refine j_iret C dX11_sheet_91 ?_
                      unfold sp_sheet
                      rw [if_pos ⟨show inn _ 0 3 from c4, Or.inr (Or.inr (Or.inl c20))⟩]
                      rw [if_neg (fun h => h.2 c40), if_neg (fun h => h.2 c56), if_neg c8, tN_nI (n := 2) (by decide)]
                      exact ⟨rfl, hC.sheet hSh 2 (by omega) b nn (by omega)⟩
                    · skip
                      exact absurd c79 c50
                  · obtain ⟨-, zz, hzz, eso⟩ := hSh 3 (by omega)
                    have hss : S 32 = nI zz := (hC.shs 3 (by omega)).trans eso
                    refine j_aload_n C 0 dX11_sheet_65 rfl ?_
                    refine j_get C (v := .ref (q 34)) 0 7 rfl rfl inlC11 (by decide) kf11_29 rfl dX11_sheet_66 ?_
                    refine j_iload_n C 1 dX11_sheet_69 rfl ?_
                    refine j_iload_n C 2 dX11_sheet_70 rfl ?_
                    refine j_iastN C 34 0 rfl rfl 3 rfl (by omega) (by decide) dX11_sheet_71 (S, va_up X 34 (upd (X 34) 3 b), P) rfl ?_
                    refine j_aload_n C 0 dX11_sheet_72 rfl ?_
                    refine j_get C (v := .ref (q 33)) 0 6 rfl rfl inlC11 (by decide) kf11_25 rfl dX11_sheet_73 ?_
                    refine j_iload_n C 1 dX11_sheet_76 rfl ?_
                    refine j_aaldN C 33 2 rfl rfl 3 rfl (by decide) (by decide) rfl dX11_sheet_77 ?_
                    refine j_iload_n C 2 dX11_sheet_78 rfl ?_
                    refine j_if_ne C 86 dX11_sheet_79 (by decide) (fun c79 => ?_) (fun c79 => ?_)
                    · skip
                      refine j_iload_n C 3 dX11_sheet_86 rfl ?_
                      refine j_callVNv (As := [.int (nI nn)]) (rest := []) C vn11_284 (h_zeros_13 nn (by omega)) ⟨24, 8, _, _, rfl, rfl, rfl⟩ rfl (Nat.le_of_ble_eq_true rfl) dX11_sheet_87 (by decide) ?_
                      rintro _ rfl
                      refine j_iconst C (v := (nI 1)) dX11_sheet_90 (by decide) ?_
                      refine j_iret C dX11_sheet_91 ?_
                      unfold sp_sheet
                      rw [if_pos ⟨show inn _ 0 3 from c4, Or.inr (Or.inr (Or.inl c20))⟩]
                      rw [if_neg (fun h => h.2 c40), if_neg (fun h => h.2 c56), if_neg c8, tN_nI (n := 3) (by decide)]
                      exact ⟨rfl, hC.sheet hSh 3 (by omega) b nn (by omega)⟩
                    · skip
                      exact absurd c79 c50
                · skip
                  refine j_aload_n C 0 dX11_sheet_59 rfl ?_
                  refine j_iconst C (v := (nI 1)) dX11_sheet_60 (by decide) ?_
                  refine j_callV (As := [.int (nI 1)]) (rest := []) C vw11_90 (h_error 1 (by decide)) ⟨0, 11, _, _, rfl, rfl, rfl⟩ rfl (Nat.le_of_ble_eq_true rfl) dX11_sheet_61 (by decide) ?_
                  rintro _ _ ⟨rfl, rfl⟩
                  refine j_iret C dX11_sheet_64 ?_
                  unfold sp_sheet
                  rw [if_pos ⟨show inn _ 0 3 from c4, Or.inr (Or.inr (Or.inl c20))⟩]
                  rw [if_neg (fun h => h.2 c40), if_pos ⟨c8, c56⟩]
                  exact ⟨show (-1000000000 : Int32) - nI 1 = -1000000001 from by decide, hC.er 1⟩
            · skip
              refine j_aload_n C 0 dX11_sheet_43 rfl ?_
              refine j_iconst C (v := (nI 3)) dX11_sheet_44 (by decide) ?_
              refine j_callV (As := [.int (nI 3)]) (rest := []) C vw11_90 (h_error 3 (by decide)) ⟨0, 11, _, _, rfl, rfl, rfl⟩ rfl (Nat.le_of_ble_eq_true rfl) dX11_sheet_45 (by decide) ?_
              rintro _ _ ⟨rfl, rfl⟩
              refine j_iret C dX11_sheet_48 ?_
              unfold sp_sheet
              rw [if_pos ⟨show inn _ 0 3 from c4, Or.inr (Or.inr (Or.inl c20))⟩]
              rw [if_pos ⟨c8, c40⟩]
              exact ⟨show (-1000000000 : Int32) - nI 3 = -1000000003 from by decide, hC.er 3⟩
        · skip
          refine j_iload_n C 2 dX11_sheet_23 rfl ?_
          refine j_bipush C (v := (nI 32)) dX11_sheet_24 (by decide) ?_
          refine j_icmp_eq C 35 dX11_sheet_26 (by decide) (fun c26 => ?_) (fun c26 => ?_)
          · skip
            refine j_iload_n C 2 dX11_sheet_35 rfl ?_
            refine j_if_eq C 49 dX11_sheet_36 (by decide) (fun c36 => ?_) (fun c36 => ?_)
            · skip
              exact absurd c36 c8
            · skip
              refine j_iload_n C 3 dX11_sheet_39 rfl ?_
              refine j_if_ge C 49 dX11_sheet_40 (by decide) (fun c40 => ?_) (fun c40 => ?_)
              · skip
                refine j_iload_n C 2 dX11_sheet_49 rfl ?_
                refine j_if_eq C 65 dX11_sheet_50 (by decide) (fun c50 => ?_) (fun c50 => ?_)
                · skip
                  exact absurd c50 c36
                · skip
                  refine j_iload_n C 3 dX11_sheet_53 rfl ?_
                  refine j_bipush C (v := (nI 40)) dX11_sheet_54 (by decide) ?_
                  refine j_icmp_le C 65 dX11_sheet_56 (by decide) (fun c56 => ?_) (fun c56 => ?_)
                  · skip
                    obtain ⟨nn, gnn, hnn, rfl⟩ := inn_lit (a := 0) (b := 40) ⟨c40, c56⟩ (by omega)
                    rcases (show sn = 0 ∨ sn = 1 ∨ sn = 2 ∨ sn = 3 by omega) with rfl | rfl | rfl | rfl
                    · obtain ⟨-, zz, hzz, eso⟩ := hSh 0 (by omega)
                      have hss : S 29 = nI zz := (hC.shs 0 (by omega)).trans eso
                      refine j_aload_n C 0 dX11_sheet_65 rfl ?_
                      refine j_get C (v := .ref (q 34)) 0 7 rfl rfl inlC11 (by decide) kf11_29 rfl dX11_sheet_66 ?_
                      refine j_iload_n C 1 dX11_sheet_69 rfl ?_
                      refine j_iload_n C 2 dX11_sheet_70 rfl ?_
                      refine j_iastN C 34 0 rfl rfl 0 rfl (by omega) (by decide) dX11_sheet_71 (S, va_up X 34 (upd (X 34) 0 b), P) rfl ?_
                      refine j_aload_n C 0 dX11_sheet_72 rfl ?_
                      refine j_get C (v := .ref (q 33)) 0 6 rfl rfl inlC11 (by decide) kf11_25 rfl dX11_sheet_73 ?_
                      refine j_iload_n C 1 dX11_sheet_76 rfl ?_
                      refine j_aaldN C 33 2 rfl rfl 0 rfl (by decide) (by decide) rfl dX11_sheet_77 ?_
                      refine j_iload_n C 2 dX11_sheet_78 rfl ?_
                      refine j_if_ne C 86 dX11_sheet_79 (by decide) (fun c79 => ?_) (fun c79 => ?_)
                      · skip
                        refine j_iload_n C 3 dX11_sheet_86 rfl ?_
                        refine j_callVNv (As := [.int (nI nn)]) (rest := []) C vn11_284 (h_zeros_10 nn (by omega)) ⟨21, 8, _, _, rfl, rfl, rfl⟩ rfl (Nat.le_of_ble_eq_true rfl) dX11_sheet_87 (by decide) ?_
                        rintro _ rfl
                        refine j_iconst C (v := (nI 1)) dX11_sheet_90 (by decide) ?_
                        refine j_iret C dX11_sheet_91 ?_
                        unfold sp_sheet
                        rw [if_pos ⟨show inn _ 0 3 from c4, Or.inr (Or.inr (Or.inr c26))⟩]
                        rw [if_neg (fun h => h.2 c40), if_neg (fun h => h.2 c56), if_neg c8, tN_nI (n := 0) (by decide)]
                        exact ⟨rfl, hC.sheet hSh 0 (by omega) b nn (by omega)⟩
                      · skip
                        exact absurd c79 c50
                    · obtain ⟨-, zz, hzz, eso⟩ := hSh 1 (by omega)
                      have hss : S 30 = nI zz := (hC.shs 1 (by omega)).trans eso
                      refine j_aload_n C 0 dX11_sheet_65 rfl ?_
                      refine j_get C (v := .ref (q 34)) 0 7 rfl rfl inlC11 (by decide) kf11_29 rfl dX11_sheet_66 ?_
                      refine j_iload_n C 1 dX11_sheet_69 rfl ?_
                      refine j_iload_n C 2 dX11_sheet_70 rfl ?_
                      refine j_iastN C 34 0 rfl rfl 1 rfl (by omega) (by decide) dX11_sheet_71 (S, va_up X 34 (upd (X 34) 1 b), P) rfl ?_
                      refine j_aload_n C 0 dX11_sheet_72 rfl ?_
                      refine j_get C (v := .ref (q 33)) 0 6 rfl rfl inlC11 (by decide) kf11_25 rfl dX11_sheet_73 ?_
                      refine j_iload_n C 1 dX11_sheet_76 rfl ?_
                      refine j_aaldN C 33 2 rfl rfl 1 rfl (by decide) (by decide) rfl dX11_sheet_77 ?_
                      refine j_iload_n C 2 dX11_sheet_78 rfl ?_
                      refine j_if_ne C 86 dX11_sheet_79 (by decide) (fun c79 => ?_) (fun c79 => ?_)
                      · skip
                        refine j_iload_n C 3 dX11_sheet_86 rfl ?_
                        refine j_callVNv (As := [.int (nI nn)]) (rest := []) C vn11_284 (h_zeros_11 nn (by omega)) ⟨22, 8, _, _, rfl, rfl, rfl⟩ rfl (Nat.le_of_ble_eq_true rfl) dX11_sheet_87 (by decide) ?_
                        rintro _ rfl
                        refine j_iconst C (v := (nI 1)) dX11_sheet_90 (by decide) ?_
                        refine j_iret C dX11_sheet_91 ?_
                        unfold sp_sheet
                        rw [if_pos ⟨show inn _ 0 3 from c4, Or.inr (Or.inr (Or.inr c26))⟩]
                        rw [if_neg (fun h => h.2 c40), if_neg (fun h => h.2 c56), if_neg c8, tN_nI (n := 1) (by decide)]
                        exact ⟨rfl, hC.sheet hSh 1 (by omega) b nn (by omega)⟩
                      · skip
                        exact absurd c79 c50
                    · obtain ⟨-, zz, hzz, eso⟩ := hSh 2 (by omega)
                      have hss : S 31 = nI zz := (hC.shs 2 (by omega)).trans eso
                      refine j_aload_n C 0 dX11_sheet_65 rfl ?_
                      refine j_get C (v := .ref (q 34)) 0 7 rfl rfl inlC11 (by decide) kf11_29 rfl dX11_sheet_66 ?_
                      refine j_iload_n C 1 dX11_sheet_69 rfl ?_
                      refine j_iload_n C 2 dX11_sheet_70 rfl ?_
                      refine j_iastN C 34 0 rfl rfl 2 rfl (by omega) (by decide) dX11_sheet_71 (S, va_up X 34 (upd (X 34) 2 b), P) rfl ?_
                      refine j_aload_n C 0 dX11_sheet_72 rfl ?_
                      refine j_get C (v := .ref (q 33)) 0 6 rfl rfl inlC11 (by decide) kf11_25 rfl dX11_sheet_73 ?_
                      refine j_iload_n C 1 dX11_sheet_76 rfl ?_
                      refine j_aaldN C 33 2 rfl rfl 2 rfl (by decide) (by decide) rfl dX11_sheet_77 ?_
                      refine j_iload_n C 2 dX11_sheet_78 rfl ?_
                      refine j_if_ne C 86 dX11_sheet_79 (by decide) (fun c79 => ?_) (fun c79 => ?_)
                      · skip
                        refine j_iload_n C 3 dX11_sheet_86 rfl ?_
                        refine j_callVNv (As := [.int (nI nn)]) (rest := []) C vn11_284 (h_zeros_12 nn (by omega)) ⟨23, 8, _, _, rfl, rfl, rfl⟩ rfl (Nat.le_of_ble_eq_true rfl) dX11_sheet_87 (by decide) ?_
                        rintro _ rfl
                        refine j_iconst C (v := (nI 1)) dX11_sheet_90 (by decide) ?_
                        refine j_iret C dX11_sheet_91 ?_
                        unfold sp_sheet
                        rw [if_pos ⟨show inn _ 0 3 from c4, Or.inr (Or.inr (Or.inr c26))⟩]
                        rw [if_neg (fun h => h.2 c40), if_neg (fun h => h.2 c56), if_neg c8, tN_nI (n := 2) (by decide)]
                        exact ⟨rfl, hC.sheet hSh 2 (by omega) b nn (by omega)⟩
                      · skip
                        exact absurd c79 c50
                    · obtain ⟨-, zz, hzz, eso⟩ := hSh 3 (by omega)
                      have hss : S 32 = nI zz := (hC.shs 3 (by omega)).trans eso
                      refine j_aload_n C 0 dX11_sheet_65 rfl ?_
                      refine j_get C (v := .ref (q 34)) 0 7 rfl rfl inlC11 (by decide) kf11_29 rfl dX11_sheet_66 ?_
                      refine j_iload_n C 1 dX11_sheet_69 rfl ?_
                      refine j_iload_n C 2 dX11_sheet_70 rfl ?_
                      refine j_iastN C 34 0 rfl rfl 3 rfl (by omega) (by decide) dX11_sheet_71 (S, va_up X 34 (upd (X 34) 3 b), P) rfl ?_
                      refine j_aload_n C 0 dX11_sheet_72 rfl ?_
                      refine j_get C (v := .ref (q 33)) 0 6 rfl rfl inlC11 (by decide) kf11_25 rfl dX11_sheet_73 ?_
                      refine j_iload_n C 1 dX11_sheet_76 rfl ?_
                      refine j_aaldN C 33 2 rfl rfl 3 rfl (by decide) (by decide) rfl dX11_sheet_77 ?_
                      refine j_iload_n C 2 dX11_sheet_78 rfl ?_
                      refine j_if_ne C 86 dX11_sheet_79 (by decide) (fun c79 => ?_) (fun c79 => ?_)
                      · skip
                        refine j_iload_n C 3 dX11_sheet_86 rfl ?_
                        refine j_callVNv (As := [.int (nI nn)]) (rest := []) C vn11_284 (h_zeros_13 nn (by omega)) ⟨24, 8, _, _, rfl, rfl, rfl⟩ rfl (Nat.le_of_ble_eq_true rfl) dX11_sheet_87 (by decide) ?_
                        rintro _ rfl
                        refine j_iconst C (v := (nI 1)) dX11_sheet_90 (by decide) ?_
                        refine j_iret C dX11_sheet_91 ?_
                        unfold sp_sheet
                        rw [if_pos ⟨show inn _ 0 3 from c4, Or.inr (Or.inr (Or.inr c26))⟩]
                        rw [if_neg (fun h => h.2 c40), if_neg (fun h => h.2 c56), if_neg c8, tN_nI (n := 3) (by decide)]
                        exact ⟨rfl, hC.sheet hSh 3 (by omega) b nn (by omega)⟩
                      · skip
                        exact absurd c79 c50
                  · skip
                    refine j_aload_n C 0 dX11_sheet_59 rfl ?_
                    refine j_iconst C (v := (nI 1)) dX11_sheet_60 (by decide) ?_
                    refine j_callV (As := [.int (nI 1)]) (rest := []) C vw11_90 (h_error 1 (by decide)) ⟨0, 11, _, _, rfl, rfl, rfl⟩ rfl (Nat.le_of_ble_eq_true rfl) dX11_sheet_61 (by decide) ?_
                    rintro _ _ ⟨rfl, rfl⟩
                    refine j_iret C dX11_sheet_64 ?_
                    unfold sp_sheet
                    rw [if_pos ⟨show inn _ 0 3 from c4, Or.inr (Or.inr (Or.inr c26))⟩]
                    rw [if_neg (fun h => h.2 c40), if_pos ⟨c8, c56⟩]
                    exact ⟨show (-1000000000 : Int32) - nI 1 = -1000000001 from by decide, hC.er 1⟩
              · skip
                refine j_aload_n C 0 dX11_sheet_43 rfl ?_
                refine j_iconst C (v := (nI 3)) dX11_sheet_44 (by decide) ?_
                refine j_callV (As := [.int (nI 3)]) (rest := []) C vw11_90 (h_error 3 (by decide)) ⟨0, 11, _, _, rfl, rfl, rfl⟩ rfl (Nat.le_of_ble_eq_true rfl) dX11_sheet_45 (by decide) ?_
                rintro _ _ ⟨rfl, rfl⟩
                refine j_iret C dX11_sheet_48 ?_
                unfold sp_sheet
                rw [if_pos ⟨show inn _ 0 3 from c4, Or.inr (Or.inr (Or.inr c26))⟩]
                rw [if_pos ⟨c8, c40⟩]
                exact ⟨show (-1000000000 : Int32) - nI 3 = -1000000003 from by decide, hC.er 3⟩
          · skip
            refine j_aload_n C 0 dX11_sheet_29 rfl ?_
            refine j_iconst C (v := (nI 1)) dX11_sheet_30 (by decide) ?_
            refine j_callV (As := [.int (nI 1)]) (rest := []) C vw11_90 (h_error 1 (by decide)) ⟨0, 11, _, _, rfl, rfl, rfl⟩ rfl (Nat.le_of_ble_eq_true rfl) dX11_sheet_31 (by decide) ?_
            rintro _ _ ⟨rfl, rfl⟩
            refine j_iret C dX11_sheet_34 ?_
            unfold sp_sheet
            rw [if_neg (fun h => h.2.elim c8 (fun h => h.elim c14 (fun h => h.elim c20 c26)))]
            exact ⟨show (-1000000000 : Int32) - nI 1 = -1000000001 from by decide, hC.er 1⟩
theorem nI_inj40 {a b : Nat} (h : nI a = nI b) (ha : a < 2 ^ 31) (hb : b < 2 ^ 31) : a = b := (nI_eq ha hb).1 h

theorem dX11_move_0 : decode cX11_move 0 = .ok (.iload_n 1, 1) := by decide +kernel
theorem dX11_move_1 : decode cX11_move 1 = .ok (.invokestatic 246, 3) := by decide +kernel
theorem dX11_move_4 : decode cX11_move 4 = .ok (.ifCond .eq 10, 3) := by decide +kernel
theorem dX11_move_7 : decode cX11_move 7 = .ok (.iload_n 3, 1) := by decide +kernel
theorem dX11_move_8 : decode cX11_move 8 = .ok (.invokestatic 246, 3) := by decide +kernel
theorem dX11_move_11 : decode cX11_move 11 = .ok (.ifCond .ne 9, 3) := by decide +kernel
theorem dX11_move_14 : decode cX11_move 14 = .ok (.aload_n 0, 1) := by decide +kernel
theorem dX11_move_15 : decode cX11_move 15 = .ok (.iconst 1, 1) := by decide +kernel
theorem dX11_move_16 : decode cX11_move 16 = .ok (.invokevirtual 90, 3) := by decide +kernel
theorem dX11_move_19 : decode cX11_move 19 = .ok (.ireturn, 1) := by decide +kernel
theorem dX11_move_20 : decode cX11_move 20 = .ok (.aload_n 0, 1) := by decide +kernel
theorem dX11_move_21 : decode cX11_move 21 = .ok (.getfield 29, 3) := by decide +kernel
theorem dX11_move_24 : decode cX11_move 24 = .ok (.iload_n 1, 1) := by decide +kernel
theorem dX11_move_25 : decode cX11_move 25 = .ok (.iaload, 1) := by decide +kernel
theorem dX11_move_26 : decode cX11_move 26 = .ok (.ifCond .eq 12, 3) := by decide +kernel
theorem dX11_move_29 : decode cX11_move 29 = .ok (.aload_n 0, 1) := by decide +kernel
theorem dX11_move_30 : decode cX11_move 30 = .ok (.getfield 29, 3) := by decide +kernel
theorem dX11_move_33 : decode cX11_move 33 = .ok (.iload_n 3, 1) := by decide +kernel
theorem dX11_move_34 : decode cX11_move 34 = .ok (.iaload, 1) := by decide +kernel
theorem dX11_move_35 : decode cX11_move 35 = .ok (.ifCond .ne 9, 3) := by decide +kernel
theorem dX11_move_38 : decode cX11_move 38 = .ok (.aload_n 0, 1) := by decide +kernel
theorem dX11_move_39 : decode cX11_move 39 = .ok (.iconst 2, 1) := by decide +kernel
theorem dX11_move_40 : decode cX11_move 40 = .ok (.invokevirtual 90, 3) := by decide +kernel
theorem dX11_move_43 : decode cX11_move 43 = .ok (.ireturn, 1) := by decide +kernel
theorem dX11_move_44 : decode cX11_move 44 = .ok (.aload_n 0, 1) := by decide +kernel
theorem dX11_move_45 : decode cX11_move 45 = .ok (.getfield 29, 3) := by decide +kernel
theorem dX11_move_48 : decode cX11_move 48 = .ok (.iload_n 1, 1) := by decide +kernel
theorem dX11_move_49 : decode cX11_move 49 = .ok (.iaload, 1) := by decide +kernel
theorem dX11_move_50 : decode cX11_move 50 = .ok (.aload_n 0, 1) := by decide +kernel
theorem dX11_move_51 : decode cX11_move 51 = .ok (.getfield 29, 3) := by decide +kernel
theorem dX11_move_54 : decode cX11_move 54 = .ok (.iload_n 3, 1) := by decide +kernel
theorem dX11_move_55 : decode cX11_move 55 = .ok (.iaload, 1) := by decide +kernel
theorem dX11_move_56 : decode cX11_move 56 = .ok (.if_icmp .eq 9, 3) := by decide +kernel
theorem dX11_move_59 : decode cX11_move 59 = .ok (.aload_n 0, 1) := by decide +kernel
theorem dX11_move_60 : decode cX11_move 60 = .ok (.iconst 5, 1) := by decide +kernel
theorem dX11_move_61 : decode cX11_move 61 = .ok (.invokevirtual 90, 3) := by decide +kernel
theorem dX11_move_64 : decode cX11_move 64 = .ok (.ireturn, 1) := by decide +kernel
theorem dX11_move_65 : decode cX11_move 65 = .ok (.aload_n 0, 1) := by decide +kernel
theorem dX11_move_66 : decode cX11_move 66 = .ok (.getfield 25, 3) := by decide +kernel
theorem dX11_move_69 : decode cX11_move 69 = .ok (.iload_n 1, 1) := by decide +kernel
theorem dX11_move_70 : decode cX11_move 70 = .ok (.aaload, 1) := by decide +kernel
theorem dX11_move_71 : decode cX11_move 71 = .ok (.iload_n 2, 1) := by decide +kernel
theorem dX11_move_72 : decode cX11_move 72 = .ok (.iload 5, 2) := by decide +kernel
theorem dX11_move_74 : decode cX11_move 74 = .ok (.invokevirtual 290, 3) := by decide +kernel
theorem dX11_move_77 : decode cX11_move 77 = .ok (.ifCond .eq 19, 3) := by decide +kernel
theorem dX11_move_80 : decode cX11_move 80 = .ok (.aload_n 0, 1) := by decide +kernel
theorem dX11_move_81 : decode cX11_move 81 = .ok (.getfield 25, 3) := by decide +kernel
theorem dX11_move_84 : decode cX11_move 84 = .ok (.iload_n 3, 1) := by decide +kernel
theorem dX11_move_85 : decode cX11_move 85 = .ok (.aaload, 1) := by decide +kernel
theorem dX11_move_86 : decode cX11_move 86 = .ok (.iload 4, 2) := by decide +kernel
theorem dX11_move_88 : decode cX11_move 88 = .ok (.iload 5, 2) := by decide +kernel
theorem dX11_move_90 : decode cX11_move 90 = .ok (.invokevirtual 290, 3) := by decide +kernel
theorem dX11_move_93 : decode cX11_move 93 = .ok (.ifCond .ne 9, 3) := by decide +kernel
theorem dX11_move_96 : decode cX11_move 96 = .ok (.aload_n 0, 1) := by decide +kernel
theorem dX11_move_97 : decode cX11_move 97 = .ok (.iconst 1, 1) := by decide +kernel
theorem dX11_move_98 : decode cX11_move 98 = .ok (.invokevirtual 90, 3) := by decide +kernel
theorem dX11_move_101 : decode cX11_move 101 = .ok (.ireturn, 1) := by decide +kernel
theorem dX11_move_102 : decode cX11_move 102 = .ok (.aload_n 0, 1) := by decide +kernel
theorem dX11_move_103 : decode cX11_move 103 = .ok (.getfield 25, 3) := by decide +kernel
theorem dX11_move_106 : decode cX11_move 106 = .ok (.iload_n 1, 1) := by decide +kernel
theorem dX11_move_107 : decode cX11_move 107 = .ok (.aaload, 1) := by decide +kernel
theorem dX11_move_108 : decode cX11_move 108 = .ok (.getfield 281, 3) := by decide +kernel
theorem dX11_move_111 : decode cX11_move 111 = .ok (.iload_n 2, 1) := by decide +kernel
theorem dX11_move_112 : decode cX11_move 112 = .ok (.aload_n 0, 1) := by decide +kernel
theorem dX11_move_113 : decode cX11_move 113 = .ok (.getfield 25, 3) := by decide +kernel
theorem dX11_move_116 : decode cX11_move 116 = .ok (.iload_n 3, 1) := by decide +kernel
theorem dX11_move_117 : decode cX11_move 117 = .ok (.aaload, 1) := by decide +kernel
theorem dX11_move_118 : decode cX11_move 118 = .ok (.getfield 281, 3) := by decide +kernel
theorem dX11_move_121 : decode cX11_move 121 = .ok (.iload 4, 2) := by decide +kernel
theorem dX11_move_123 : decode cX11_move 123 = .ok (.iload 5, 2) := by decide +kernel
theorem dX11_move_125 : decode cX11_move 125 = .ok (.invokestatic 293, 3) := by decide +kernel
theorem dX11_move_128 : decode cX11_move 128 = .ok (.iload 5, 2) := by decide +kernel
theorem dX11_move_130 : decode cX11_move 130 = .ok (.ireturn, 1) := by decide +kernel
set_option maxHeartbeats 2000000 in
set_option maxRecDepth 20000 in
theorem k_move {l : Launch} {D : va_G} {cI cG cW : ClassId} {q : Nat → Nat} {S : Nat → Int32} {X : Nat → Nat → Int32} {P : Nat → Nat} {s i t j n : Int32} {V row kept tried bf fd pk bo so sh mv tr : Nat → Int32} {nc np nw d nt nq : Nat} (hR : RKx row nc np nw d nt nq) (hC : CR (S, X, P) (sR V row kept tried bf fd pk bo so sh mv tr)) (hSh : ∀ s, s < 4 → (bo s = nI 0 ∨ bo s = nI 8 ∨ bo s = nI 16 ∨ bo s = nI 32) ∧ ∃ n, n ≤ 40 ∧ so s = nI n) : Ci l yX11_move cX11_move 6 (some .int) 3 D (tyL cI cG cW) (wC cI cG cW q) [.ref (q 0), .int s, .int i, .int t, .int j, .int n] (S, X, P) (fun r τ => r = (sp_move V row kept tried bf fd pk bo so sh mv tr s i t j n).1 ∧ CR τ (sp_move V row kept tried bf fd pk bo so sh mv tr s i t j n).2) := by
  refine Ci.of (by decide) (Nat.le_of_ble_eq_true rfl) ?_
  intro p_ e_ s_ m_ b_ M_ c_ A_ C
  replace C : Cx _ _ _ _ _ _ _ _ RX11 _ _ _ _ := C
  refine j_L [0, 1, 2, 3, 4, 5] [(0, .ref (q 0)), (1, .int s), (2, .int i), (3, .int t), (4, .int j), (5, .int n)] rfl ?_
  obtain ⟨hI, hW, ⟨e0, hd⟩, ⟨e4, ht⟩, ⟨e5, hq⟩, hB⟩ := id hR
  obtain ⟨⟨e2, hc2, hc10⟩, ⟨e3, hn6⟩, ⟨e8, hw8⟩, hP, hE, hLo, hT0, hT1⟩ := id hI
  have hIc := hI
  have hF : CF S X 0 row (X 44) nc np := by have h := hC.fld; rw [e2, e3, tN_nI (by omega), tN_nI (by omega)] at h; exact h
  have hK : CK S X 0 row nw nt nq := by have h := hC.kp; rw [e8, e4, e5, tN_nI (by omega), tN_nI (by omega), tN_nI (by omega)] at h; exact h
  have hS1 : S 1 = row 8 := hK.wrongs
  have hS5 : S 5 = row 2 := hF.cells
  have hS7 : S 7 = row 3 := hF.people
  refine j_iload_n C 1 dX11_move_0 rfl ?_
  refine j_callS (As := [.int s]) (rest := []) C sw11_246 (h_isSheet) rfl (Nat.le_of_ble_eq_true rfl) dX11_move_1 (by decide) ?_
  rintro _ _ ⟨rfl, rfl⟩
  refine j_if_eq C 14 dX11_move_4 (by decide) (fun c4 => ?_) (fun c4 => ?_)
  · replace c4 := bI_f c4
    refine j_aload_n C 0 dX11_move_14 rfl ?_
    refine j_iconst C (v := (nI 1)) dX11_move_15 (by decide) ?_
    refine j_callV (As := [.int (nI 1)]) (rest := []) C vw11_90 (h_error 1 (by decide)) ⟨0, 11, _, _, rfl, rfl, rfl⟩ rfl (Nat.le_of_ble_eq_true rfl) dX11_move_16 (by decide) ?_
    rintro _ _ ⟨rfl, rfl⟩
    refine j_iret C dX11_move_19 ?_
    unfold sp_move
    rw [if_neg (fun h => c4 h.1)]
    exact ⟨show (-1000000000 : Int32) - nI 1 = -1000000001 from by decide, hC.er 1⟩
  · replace c4 := bI_t c4
    obtain ⟨sn, gsn, hsn, rfl⟩ := inn_lit c4 (by omega)
    refine j_iload_n C 3 dX11_move_7 rfl ?_
    refine j_callS (As := [.int t]) (rest := []) C sw11_246 (h_isSheet) rfl (Nat.le_of_ble_eq_true rfl) dX11_move_8 (by decide) ?_
    rintro _ _ ⟨rfl, rfl⟩
    refine j_if_ne C 20 dX11_move_11 (by decide) (fun c11 => ?_) (fun c11 => ?_)
    · replace c11 := bI_t c11
      obtain ⟨tn, gtn, htn, rfl⟩ := inn_lit c11 (by omega)
      rcases (show sn = 0 ∨ sn = 1 ∨ sn = 2 ∨ sn = 3 by omega) with rfl | rfl | rfl | rfl
      · obtain ⟨-, za, hza, esa⟩ := hSh 0 (by omega)
        have hsa : S 29 = nI za := (hC.shs 0 (by omega)).trans esa
        rcases (show tn = 0 ∨ tn = 1 ∨ tn = 2 ∨ tn = 3 by omega) with rfl | rfl | rfl | rfl
        · obtain ⟨-, zb, hzb, esb⟩ := hSh 0 (by omega)
          have hsb : S 29 = nI zb := (hC.shs 0 (by omega)).trans esb
          refine j_aload_n C 0 dX11_move_20 rfl ?_
          refine j_get C (v := .ref (q 34)) 0 7 rfl rfl inlC11 (by decide) kf11_29 rfl dX11_move_21 ?_
          refine j_iload_n C 1 dX11_move_24 rfl ?_
          refine j_ialdN C 34 0 rfl rfl 0 rfl (by omega) (by decide) dX11_move_25 ?_
          refine j_v (bo 0) (hC.shb 0 (by omega)) ?_
          refine j_if_eq C 38 dX11_move_26 (by decide) (fun c26 => ?_) (fun c26 => ?_)
          · skip
            refine j_aload_n C 0 dX11_move_38 rfl ?_
            refine j_iconst C (v := (nI 2)) dX11_move_39 (by decide) ?_
            refine j_callV (As := [.int (nI 2)]) (rest := []) C vw11_90 (h_error 2 (by decide)) ⟨0, 11, _, _, rfl, rfl, rfl⟩ rfl (Nat.le_of_ble_eq_true rfl) dX11_move_40 (by decide) ?_
            rintro _ _ ⟨rfl, rfl⟩
            refine j_iret C dX11_move_43 ?_
            unfold sp_move
            rw [if_pos ⟨show inn (nI 0) 0 3 from c4, show inn (nI 0) 0 3 from c11⟩, tN_nI (n := 0) (by decide)]
            rw [if_pos (Or.inl c26)]
            exact ⟨show (-1000000000 : Int32) - nI 2 = -1000000002 from by decide, hC.er 2⟩
          · skip
            refine j_aload_n C 0 dX11_move_29 rfl ?_
            refine j_get C (v := .ref (q 34)) 0 7 rfl rfl inlC11 (by decide) kf11_29 rfl dX11_move_30 ?_
            refine j_iload_n C 3 dX11_move_33 rfl ?_
            refine j_ialdN C 34 0 rfl rfl 0 rfl (by omega) (by decide) dX11_move_34 ?_
            refine j_v (bo 0) (hC.shb 0 (by omega)) ?_
            refine j_if_ne C 44 dX11_move_35 (by decide) (fun c35 => ?_) (fun c35 => ?_)
            · skip
              refine j_aload_n C 0 dX11_move_44 rfl ?_
              refine j_get C (v := .ref (q 34)) 0 7 rfl rfl inlC11 (by decide) kf11_29 rfl dX11_move_45 ?_
              refine j_iload_n C 1 dX11_move_48 rfl ?_
              refine j_ialdN C 34 0 rfl rfl 0 rfl (by omega) (by decide) dX11_move_49 ?_
              refine j_v (bo 0) (hC.shb 0 (by omega)) ?_
              refine j_aload_n C 0 dX11_move_50 rfl ?_
              refine j_get C (v := .ref (q 34)) 0 7 rfl rfl inlC11 (by decide) kf11_29 rfl dX11_move_51 ?_
              refine j_iload_n C 3 dX11_move_54 rfl ?_
              refine j_ialdN C 34 0 rfl rfl 0 rfl (by omega) (by decide) dX11_move_55 ?_
              refine j_v (bo 0) (hC.shb 0 (by omega)) ?_
              refine j_icmp_eq C 65 dX11_move_56 (by decide) (fun c56 => ?_) (fun c56 => ?_)
              · skip
                refine j_aload_n C 0 dX11_move_65 rfl ?_
                refine j_get C (v := .ref (q 33)) 0 6 rfl rfl inlC11 (by decide) kf11_25 rfl dX11_move_66 ?_
                refine j_iload_n C 1 dX11_move_69 rfl ?_
                refine j_aaldN C 33 2 rfl rfl 0 rfl (by decide) (by decide) rfl dX11_move_70 ?_
                refine j_iload_n C 2 dX11_move_71 rfl ?_
                refine j_iload C 5 dX11_move_72 rfl ?_
                refine j_callVN (As := [.int i, .int n]) (rest := []) C vn11_290 (h_hasPart_10) ⟨21, 8, _, _, rfl, rfl, rfl⟩ rfl (Nat.le_of_ble_eq_true rfl) dX11_move_74 (by decide) ?_
                rintro _ _ ⟨rfl, rfl⟩
                refine j_v (bI (¬ n < 0 ∧ ¬ i < 0 ∧ ¬ nI za < i ∧ ¬ nI za - i < n)) (by rw [hsa]) ?_
                refine j_if_eq C 96 dX11_move_77 (by decide) (fun c77 => ?_) (fun c77 => ?_)
                · replace c77 := bI_f c77
                  refine j_aload_n C 0 dX11_move_96 rfl ?_
                  refine j_iconst C (v := (nI 1)) dX11_move_97 (by decide) ?_
                  refine j_callV (As := [.int (nI 1)]) (rest := []) C vw11_90 (h_error 1 (by decide)) ⟨0, 11, _, _, rfl, rfl, rfl⟩ rfl (Nat.le_of_ble_eq_true rfl) dX11_move_98 (by decide) ?_
                  rintro _ _ ⟨rfl, rfl⟩
                  refine j_iret C dX11_move_101 ?_
                  unfold sp_move
                  rw [if_pos ⟨show inn (nI 0) 0 3 from c4, show inn (nI 0) 0 3 from c11⟩, tN_nI (n := 0) (by decide)]
                  rw [if_neg (fun h => h.elim c26 c26)]
                  rw [if_neg (fun h => h rfl)]
                  rw [esa]
                  rw [if_pos (Classical.byContradiction (fun h => c77 ⟨fun g => h (Or.inl g), fun g => h (Or.inr (Or.inl g)), (part_iff hza (fun g => h (Or.inl g)) (fun g => h (Or.inr (Or.inl g)))).2 (fun g => h (Or.inr (Or.inr (Or.inr (Or.inl g)))))⟩))]
                  exact ⟨show (-1000000000 : Int32) - nI 1 = -1000000001 from by decide, hC.er 1⟩
                · replace c77 := bI_t c77
                  refine j_aload_n C 0 dX11_move_80 rfl ?_
                  refine j_get C (v := .ref (q 33)) 0 6 rfl rfl inlC11 (by decide) kf11_25 rfl dX11_move_81 ?_
                  refine j_iload_n C 3 dX11_move_84 rfl ?_
                  refine j_aaldN C 33 2 rfl rfl 0 rfl (by decide) (by decide) rfl dX11_move_85 ?_
                  refine j_iload C 4 dX11_move_86 rfl ?_
                  refine j_iload C 5 dX11_move_88 rfl ?_
                  refine j_callVN (As := [.int j, .int n]) (rest := []) C vn11_290 (h_hasPart_10) ⟨21, 8, _, _, rfl, rfl, rfl⟩ rfl (Nat.le_of_ble_eq_true rfl) dX11_move_90 (by decide) ?_
                  rintro _ _ ⟨rfl, rfl⟩
                  refine j_v (bI (¬ n < 0 ∧ ¬ j < 0 ∧ ¬ nI zb < j ∧ ¬ nI zb - j < n)) (by rw [hsb]) ?_
                  refine j_if_ne C 102 dX11_move_93 (by decide) (fun c93 => ?_) (fun c93 => ?_)
                  · replace c93 := bI_t c93
                    obtain ⟨ii, nn, rfl, rfl, hin⟩ := part_nat hza c77
                    obtain ⟨jj, n2, rfl, en2, hjn⟩ := part_nat hzb c93
                    have en3 : nn = n2 := nI_inj40 en2 (by omega) (by omega)
                    subst en3
                    refine j_aload_n C 0 dX11_move_102 rfl ?_
                    refine j_get C (v := .ref (q 33)) 0 6 rfl rfl inlC11 (by decide) kf11_25 rfl dX11_move_103 ?_
                    refine j_iload_n C 1 dX11_move_106 rfl ?_
                    refine j_aaldN C 33 2 rfl rfl 0 rfl (by decide) (by decide) rfl dX11_move_107 ?_
                    refine j_getN C (v := .ref (q 82)) 21 0 rfl rfl inlC8 (by decide) kf11_281 rfl dX11_move_108 ?_
                    refine j_iload_n C 2 dX11_move_111 rfl ?_
                    refine j_aload_n C 0 dX11_move_112 rfl ?_
                    refine j_get C (v := .ref (q 33)) 0 6 rfl rfl inlC11 (by decide) kf11_25 rfl dX11_move_113 ?_
                    refine j_iload_n C 3 dX11_move_116 rfl ?_
                    refine j_aaldN C 33 2 rfl rfl 0 rfl (by decide) (by decide) rfl dX11_move_117 ?_
                    refine j_getN C (v := .ref (q 82)) 21 0 rfl rfl inlC8 (by decide) kf11_281 rfl dX11_move_118 ?_
                    refine j_iload C 4 dX11_move_121 rfl ?_
                    refine j_iload C 5 dX11_move_123 rfl ?_
                    refine j_copy (rest := []) C 82 82 0 ac11_293 rfl rfl rfl ii jj nn (by omega) (by omega) (by decide) (by decide) (by decide) (Nat.le_of_ble_eq_true rfl) dX11_move_125 (S, va_up X 82 (va_cpy (X 82) (X 82) ii jj nn), P) rfl ?_
                    refine j_iload C 5 dX11_move_128 rfl ?_
                    refine j_iret C dX11_move_130 ?_
                    unfold sp_move
                    rw [if_pos ⟨show inn (nI 0) 0 3 from c4, show inn (nI 0) 0 3 from c11⟩, tN_nI (n := 0) (by decide)]
                    rw [if_neg (fun h => h.elim c26 c26)]
                    rw [if_neg (fun h => h rfl)]
                    rw [esa]
                    rw [if_neg (fun h => h.elim c77.1 (fun h => h.elim c77.2.1 (fun h => h.elim c93.2.1 (fun h => h.elim (fun g => (part_iff hza c77.1 c77.2.1).1 c77.2.2 g) (fun g => (part_iff hzb c93.1 c93.2.1).1 c93.2.2 (by rw [← esb, esa]; exact g)))))), tN_nI (n := ii) (by omega), tN_nI (n := jj) (by omega), tN_nI (n := nn) (by omega)]
                    exact ⟨rfl, hC.mov hSh 0 0 (by omega) (by omega) ii jj nn za zb esa hza (by omega) esb hzb (by omega)⟩
                  · replace c93 := bI_f c93
                    refine j_aload_n C 0 dX11_move_96 rfl ?_
                    refine j_iconst C (v := (nI 1)) dX11_move_97 (by decide) ?_
                    refine j_callV (As := [.int (nI 1)]) (rest := []) C vw11_90 (h_error 1 (by decide)) ⟨0, 11, _, _, rfl, rfl, rfl⟩ rfl (Nat.le_of_ble_eq_true rfl) dX11_move_98 (by decide) ?_
                    rintro _ _ ⟨rfl, rfl⟩
                    refine j_iret C dX11_move_101 ?_
                    unfold sp_move
                    rw [if_pos ⟨show inn (nI 0) 0 3 from c4, show inn (nI 0) 0 3 from c11⟩, tN_nI (n := 0) (by decide)]
                    rw [if_neg (fun h => h.elim c26 c26)]
                    rw [if_neg (fun h => h rfl)]
                    rw [esa]
                    rw [if_pos (Classical.byContradiction (fun h => c93 ⟨fun g => h (Or.inl g), fun g => h (Or.inr (Or.inr (Or.inl g))), (part_iff hzb (fun g => h (Or.inl g)) (fun g => h (Or.inr (Or.inr (Or.inl g))))).2 (fun g => h (Or.inr (Or.inr (Or.inr (Or.inr (by rw [← esa, esb]; exact g))))))⟩))]
                    exact ⟨show (-1000000000 : Int32) - nI 1 = -1000000001 from by decide, hC.er 1⟩
              · skip
                refine j_aload_n C 0 dX11_move_59 rfl ?_
                refine j_iconst C (v := (nI 5)) dX11_move_60 (by decide) ?_
                refine j_callV (As := [.int (nI 5)]) (rest := []) C vw11_90 (h_error 5 (by decide)) ⟨0, 11, _, _, rfl, rfl, rfl⟩ rfl (Nat.le_of_ble_eq_true rfl) dX11_move_61 (by decide) ?_
                rintro _ _ ⟨rfl, rfl⟩
                refine j_iret C dX11_move_64 ?_
                unfold sp_move
                rw [if_pos ⟨show inn (nI 0) 0 3 from c4, show inn (nI 0) 0 3 from c11⟩, tN_nI (n := 0) (by decide)]
                rw [if_neg (fun h => h.elim c26 c26)]
                rw [if_pos c56]
                exact ⟨show (-1000000000 : Int32) - nI 5 = -1000000005 from by decide, hC.er 5⟩
            · skip
              exact absurd c35 c26
        · obtain ⟨-, zb, hzb, esb⟩ := hSh 1 (by omega)
          have hsb : S 30 = nI zb := (hC.shs 1 (by omega)).trans esb
          refine j_aload_n C 0 dX11_move_20 rfl ?_
          refine j_get C (v := .ref (q 34)) 0 7 rfl rfl inlC11 (by decide) kf11_29 rfl dX11_move_21 ?_
          refine j_iload_n C 1 dX11_move_24 rfl ?_
          refine j_ialdN C 34 0 rfl rfl 0 rfl (by omega) (by decide) dX11_move_25 ?_
          refine j_v (bo 0) (hC.shb 0 (by omega)) ?_
          refine j_if_eq C 38 dX11_move_26 (by decide) (fun c26 => ?_) (fun c26 => ?_)
          · skip
            refine j_aload_n C 0 dX11_move_38 rfl ?_
            refine j_iconst C (v := (nI 2)) dX11_move_39 (by decide) ?_
            refine j_callV (As := [.int (nI 2)]) (rest := []) C vw11_90 (h_error 2 (by decide)) ⟨0, 11, _, _, rfl, rfl, rfl⟩ rfl (Nat.le_of_ble_eq_true rfl) dX11_move_40 (by decide) ?_
            rintro _ _ ⟨rfl, rfl⟩
            refine j_iret C dX11_move_43 ?_
            unfold sp_move
            rw [if_pos ⟨show inn (nI 0) 0 3 from c4, show inn (nI 1) 0 3 from c11⟩, tN_nI (n := 0) (by decide), tN_nI (n := 1) (by decide)]
            rw [if_pos (Or.inl c26)]
            exact ⟨show (-1000000000 : Int32) - nI 2 = -1000000002 from by decide, hC.er 2⟩
          · skip
            refine j_aload_n C 0 dX11_move_29 rfl ?_
            refine j_get C (v := .ref (q 34)) 0 7 rfl rfl inlC11 (by decide) kf11_29 rfl dX11_move_30 ?_
            refine j_iload_n C 3 dX11_move_33 rfl ?_
            refine j_ialdN C 34 0 rfl rfl 1 rfl (by omega) (by decide) dX11_move_34 ?_
            refine j_v (bo 1) (hC.shb 1 (by omega)) ?_
            refine j_if_ne C 44 dX11_move_35 (by decide) (fun c35 => ?_) (fun c35 => ?_)
            · skip
              refine j_aload_n C 0 dX11_move_44 rfl ?_
              refine j_get C (v := .ref (q 34)) 0 7 rfl rfl inlC11 (by decide) kf11_29 rfl dX11_move_45 ?_
              refine j_iload_n C 1 dX11_move_48 rfl ?_
              refine j_ialdN C 34 0 rfl rfl 0 rfl (by omega) (by decide) dX11_move_49 ?_
              refine j_v (bo 0) (hC.shb 0 (by omega)) ?_
              refine j_aload_n C 0 dX11_move_50 rfl ?_
              refine j_get C (v := .ref (q 34)) 0 7 rfl rfl inlC11 (by decide) kf11_29 rfl dX11_move_51 ?_
              refine j_iload_n C 3 dX11_move_54 rfl ?_
              refine j_ialdN C 34 0 rfl rfl 1 rfl (by omega) (by decide) dX11_move_55 ?_
              refine j_v (bo 1) (hC.shb 1 (by omega)) ?_
              refine j_icmp_eq C 65 dX11_move_56 (by decide) (fun c56 => ?_) (fun c56 => ?_)
              · skip
                refine j_aload_n C 0 dX11_move_65 rfl ?_
                refine j_get C (v := .ref (q 33)) 0 6 rfl rfl inlC11 (by decide) kf11_25 rfl dX11_move_66 ?_
                refine j_iload_n C 1 dX11_move_69 rfl ?_
                refine j_aaldN C 33 2 rfl rfl 0 rfl (by decide) (by decide) rfl dX11_move_70 ?_
                refine j_iload_n C 2 dX11_move_71 rfl ?_
                refine j_iload C 5 dX11_move_72 rfl ?_
                refine j_callVN (As := [.int i, .int n]) (rest := []) C vn11_290 (h_hasPart_10) ⟨21, 8, _, _, rfl, rfl, rfl⟩ rfl (Nat.le_of_ble_eq_true rfl) dX11_move_74 (by decide) ?_
                rintro _ _ ⟨rfl, rfl⟩
                refine j_v (bI (¬ n < 0 ∧ ¬ i < 0 ∧ ¬ nI za < i ∧ ¬ nI za - i < n)) (by rw [hsa]) ?_
                refine j_if_eq C 96 dX11_move_77 (by decide) (fun c77 => ?_) (fun c77 => ?_)
                · replace c77 := bI_f c77
                  refine j_aload_n C 0 dX11_move_96 rfl ?_
                  refine j_iconst C (v := (nI 1)) dX11_move_97 (by decide) ?_
                  refine j_callV (As := [.int (nI 1)]) (rest := []) C vw11_90 (h_error 1 (by decide)) ⟨0, 11, _, _, rfl, rfl, rfl⟩ rfl (Nat.le_of_ble_eq_true rfl) dX11_move_98 (by decide) ?_
                  rintro _ _ ⟨rfl, rfl⟩
                  refine j_iret C dX11_move_101 ?_
                  unfold sp_move
                  rw [if_pos ⟨show inn (nI 0) 0 3 from c4, show inn (nI 1) 0 3 from c11⟩, tN_nI (n := 0) (by decide), tN_nI (n := 1) (by decide)]
                  rw [if_neg (fun h => h.elim c26 c35)]
                  rw [if_neg (fun h => h c56)]
                  rw [esa, esb]
                  rw [if_pos (Classical.byContradiction (fun h => c77 ⟨fun g => h (Or.inl g), fun g => h (Or.inr (Or.inl g)), (part_iff hza (fun g => h (Or.inl g)) (fun g => h (Or.inr (Or.inl g)))).2 (fun g => h (Or.inr (Or.inr (Or.inr (Or.inl g)))))⟩))]
                  exact ⟨show (-1000000000 : Int32) - nI 1 = -1000000001 from by decide, hC.er 1⟩
                · replace c77 := bI_t c77
                  refine j_aload_n C 0 dX11_move_80 rfl ?_
                  refine j_get C (v := .ref (q 33)) 0 6 rfl rfl inlC11 (by decide) kf11_25 rfl dX11_move_81 ?_
                  refine j_iload_n C 3 dX11_move_84 rfl ?_
                  refine j_aaldN C 33 2 rfl rfl 1 rfl (by decide) (by decide) rfl dX11_move_85 ?_
                  refine j_iload C 4 dX11_move_86 rfl ?_
                  refine j_iload C 5 dX11_move_88 rfl ?_
                  refine j_callVN (As := [.int j, .int n]) (rest := []) C vn11_290 (h_hasPart_11) ⟨22, 8, _, _, rfl, rfl, rfl⟩ rfl (Nat.le_of_ble_eq_true rfl) dX11_move_90 (by decide) ?_
                  rintro _ _ ⟨rfl, rfl⟩
                  refine j_v (bI (¬ n < 0 ∧ ¬ j < 0 ∧ ¬ nI zb < j ∧ ¬ nI zb - j < n)) (by rw [hsb]) ?_
                  refine j_if_ne C 102 dX11_move_93 (by decide) (fun c93 => ?_) (fun c93 => ?_)
                  · replace c93 := bI_t c93
                    obtain ⟨ii, nn, rfl, rfl, hin⟩ := part_nat hza c77
                    obtain ⟨jj, n2, rfl, en2, hjn⟩ := part_nat hzb c93
                    have en3 : nn = n2 := nI_inj40 en2 (by omega) (by omega)
                    subst en3
                    refine j_aload_n C 0 dX11_move_102 rfl ?_
                    refine j_get C (v := .ref (q 33)) 0 6 rfl rfl inlC11 (by decide) kf11_25 rfl dX11_move_103 ?_
                    refine j_iload_n C 1 dX11_move_106 rfl ?_
                    refine j_aaldN C 33 2 rfl rfl 0 rfl (by decide) (by decide) rfl dX11_move_107 ?_
                    refine j_getN C (v := .ref (q 82)) 21 0 rfl rfl inlC8 (by decide) kf11_281 rfl dX11_move_108 ?_
                    refine j_iload_n C 2 dX11_move_111 rfl ?_
                    refine j_aload_n C 0 dX11_move_112 rfl ?_
                    refine j_get C (v := .ref (q 33)) 0 6 rfl rfl inlC11 (by decide) kf11_25 rfl dX11_move_113 ?_
                    refine j_iload_n C 3 dX11_move_116 rfl ?_
                    refine j_aaldN C 33 2 rfl rfl 1 rfl (by decide) (by decide) rfl dX11_move_117 ?_
                    refine j_getN C (v := .ref (q 83)) 22 0 rfl rfl inlC8 (by decide) kf11_281 rfl dX11_move_118 ?_
                    refine j_iload C 4 dX11_move_121 rfl ?_
                    refine j_iload C 5 dX11_move_123 rfl ?_
                    refine j_copy (rest := []) C 82 83 0 ac11_293 rfl rfl rfl ii jj nn (by omega) (by omega) (by decide) (by decide) (by decide) (Nat.le_of_ble_eq_true rfl) dX11_move_125 (S, va_up X 83 (va_cpy (X 82) (X 83) ii jj nn), P) rfl ?_
                    refine j_iload C 5 dX11_move_128 rfl ?_
                    refine j_iret C dX11_move_130 ?_
                    unfold sp_move
                    rw [if_pos ⟨show inn (nI 0) 0 3 from c4, show inn (nI 1) 0 3 from c11⟩, tN_nI (n := 0) (by decide), tN_nI (n := 1) (by decide)]
                    rw [if_neg (fun h => h.elim c26 c35)]
                    rw [if_neg (fun h => h c56)]
                    rw [esa, esb]
                    rw [if_neg (fun h => h.elim c77.1 (fun h => h.elim c77.2.1 (fun h => h.elim c93.2.1 (fun h => h.elim (fun g => (part_iff hza c77.1 c77.2.1).1 c77.2.2 g) (fun g => (part_iff hzb c93.1 c93.2.1).1 c93.2.2 g))))), tN_nI (n := ii) (by omega), tN_nI (n := jj) (by omega), tN_nI (n := nn) (by omega)]
                    exact ⟨rfl, hC.mov hSh 0 1 (by omega) (by omega) ii jj nn za zb esa hza (by omega) esb hzb (by omega)⟩
                  · replace c93 := bI_f c93
                    refine j_aload_n C 0 dX11_move_96 rfl ?_
                    refine j_iconst C (v := (nI 1)) dX11_move_97 (by decide) ?_
                    refine j_callV (As := [.int (nI 1)]) (rest := []) C vw11_90 (h_error 1 (by decide)) ⟨0, 11, _, _, rfl, rfl, rfl⟩ rfl (Nat.le_of_ble_eq_true rfl) dX11_move_98 (by decide) ?_
                    rintro _ _ ⟨rfl, rfl⟩
                    refine j_iret C dX11_move_101 ?_
                    unfold sp_move
                    rw [if_pos ⟨show inn (nI 0) 0 3 from c4, show inn (nI 1) 0 3 from c11⟩, tN_nI (n := 0) (by decide), tN_nI (n := 1) (by decide)]
                    rw [if_neg (fun h => h.elim c26 c35)]
                    rw [if_neg (fun h => h c56)]
                    rw [esa, esb]
                    rw [if_pos (Classical.byContradiction (fun h => c93 ⟨fun g => h (Or.inl g), fun g => h (Or.inr (Or.inr (Or.inl g))), (part_iff hzb (fun g => h (Or.inl g)) (fun g => h (Or.inr (Or.inr (Or.inl g))))).2 (fun g => h (Or.inr (Or.inr (Or.inr (Or.inr g)))))⟩))]
                    exact ⟨show (-1000000000 : Int32) - nI 1 = -1000000001 from by decide, hC.er 1⟩
              · skip
                refine j_aload_n C 0 dX11_move_59 rfl ?_
                refine j_iconst C (v := (nI 5)) dX11_move_60 (by decide) ?_
                refine j_callV (As := [.int (nI 5)]) (rest := []) C vw11_90 (h_error 5 (by decide)) ⟨0, 11, _, _, rfl, rfl, rfl⟩ rfl (Nat.le_of_ble_eq_true rfl) dX11_move_61 (by decide) ?_
                rintro _ _ ⟨rfl, rfl⟩
                refine j_iret C dX11_move_64 ?_
                unfold sp_move
                rw [if_pos ⟨show inn (nI 0) 0 3 from c4, show inn (nI 1) 0 3 from c11⟩, tN_nI (n := 0) (by decide), tN_nI (n := 1) (by decide)]
                rw [if_neg (fun h => h.elim c26 c35)]
                rw [if_pos c56]
                exact ⟨show (-1000000000 : Int32) - nI 5 = -1000000005 from by decide, hC.er 5⟩
            · skip
              refine j_aload_n C 0 dX11_move_38 rfl ?_
              refine j_iconst C (v := (nI 2)) dX11_move_39 (by decide) ?_
              refine j_callV (As := [.int (nI 2)]) (rest := []) C vw11_90 (h_error 2 (by decide)) ⟨0, 11, _, _, rfl, rfl, rfl⟩ rfl (Nat.le_of_ble_eq_true rfl) dX11_move_40 (by decide) ?_
              rintro _ _ ⟨rfl, rfl⟩
              refine j_iret C dX11_move_43 ?_
              unfold sp_move
              rw [if_pos ⟨show inn (nI 0) 0 3 from c4, show inn (nI 1) 0 3 from c11⟩, tN_nI (n := 0) (by decide), tN_nI (n := 1) (by decide)]
              rw [if_pos (Or.inr c35)]
              exact ⟨show (-1000000000 : Int32) - nI 2 = -1000000002 from by decide, hC.er 2⟩
        · obtain ⟨-, zb, hzb, esb⟩ := hSh 2 (by omega)
          have hsb : S 31 = nI zb := (hC.shs 2 (by omega)).trans esb
          refine j_aload_n C 0 dX11_move_20 rfl ?_
          refine j_get C (v := .ref (q 34)) 0 7 rfl rfl inlC11 (by decide) kf11_29 rfl dX11_move_21 ?_
          refine j_iload_n C 1 dX11_move_24 rfl ?_
          refine j_ialdN C 34 0 rfl rfl 0 rfl (by omega) (by decide) dX11_move_25 ?_
          refine j_v (bo 0) (hC.shb 0 (by omega)) ?_
          refine j_if_eq C 38 dX11_move_26 (by decide) (fun c26 => ?_) (fun c26 => ?_)
          · skip
            refine j_aload_n C 0 dX11_move_38 rfl ?_
            refine j_iconst C (v := (nI 2)) dX11_move_39 (by decide) ?_
            refine j_callV (As := [.int (nI 2)]) (rest := []) C vw11_90 (h_error 2 (by decide)) ⟨0, 11, _, _, rfl, rfl, rfl⟩ rfl (Nat.le_of_ble_eq_true rfl) dX11_move_40 (by decide) ?_
            rintro _ _ ⟨rfl, rfl⟩
            refine j_iret C dX11_move_43 ?_
            unfold sp_move
            rw [if_pos ⟨show inn (nI 0) 0 3 from c4, show inn (nI 2) 0 3 from c11⟩, tN_nI (n := 0) (by decide), tN_nI (n := 2) (by decide)]
            rw [if_pos (Or.inl c26)]
            exact ⟨show (-1000000000 : Int32) - nI 2 = -1000000002 from by decide, hC.er 2⟩
          · skip
            refine j_aload_n C 0 dX11_move_29 rfl ?_
            refine j_get C (v := .ref (q 34)) 0 7 rfl rfl inlC11 (by decide) kf11_29 rfl dX11_move_30 ?_
            refine j_iload_n C 3 dX11_move_33 rfl ?_
            refine j_ialdN C 34 0 rfl rfl 2 rfl (by omega) (by decide) dX11_move_34 ?_
            refine j_v (bo 2) (hC.shb 2 (by omega)) ?_
            refine j_if_ne C 44 dX11_move_35 (by decide) (fun c35 => ?_) (fun c35 => ?_)
            · skip
              refine j_aload_n C 0 dX11_move_44 rfl ?_
              refine j_get C (v := .ref (q 34)) 0 7 rfl rfl inlC11 (by decide) kf11_29 rfl dX11_move_45 ?_
              refine j_iload_n C 1 dX11_move_48 rfl ?_
              refine j_ialdN C 34 0 rfl rfl 0 rfl (by omega) (by decide) dX11_move_49 ?_
              refine j_v (bo 0) (hC.shb 0 (by omega)) ?_
              refine j_aload_n C 0 dX11_move_50 rfl ?_
              refine j_get C (v := .ref (q 34)) 0 7 rfl rfl inlC11 (by decide) kf11_29 rfl dX11_move_51 ?_
              refine j_iload_n C 3 dX11_move_54 rfl ?_
              refine j_ialdN C 34 0 rfl rfl 2 rfl (by omega) (by decide) dX11_move_55 ?_
              refine j_v (bo 2) (hC.shb 2 (by omega)) ?_
              refine j_icmp_eq C 65 dX11_move_56 (by decide) (fun c56 => ?_) (fun c56 => ?_)
              · skip
                refine j_aload_n C 0 dX11_move_65 rfl ?_
                refine j_get C (v := .ref (q 33)) 0 6 rfl rfl inlC11 (by decide) kf11_25 rfl dX11_move_66 ?_
                refine j_iload_n C 1 dX11_move_69 rfl ?_
                refine j_aaldN C 33 2 rfl rfl 0 rfl (by decide) (by decide) rfl dX11_move_70 ?_
                refine j_iload_n C 2 dX11_move_71 rfl ?_
                refine j_iload C 5 dX11_move_72 rfl ?_
                refine j_callVN (As := [.int i, .int n]) (rest := []) C vn11_290 (h_hasPart_10) ⟨21, 8, _, _, rfl, rfl, rfl⟩ rfl (Nat.le_of_ble_eq_true rfl) dX11_move_74 (by decide) ?_
                rintro _ _ ⟨rfl, rfl⟩
                refine j_v (bI (¬ n < 0 ∧ ¬ i < 0 ∧ ¬ nI za < i ∧ ¬ nI za - i < n)) (by rw [hsa]) ?_
                refine j_if_eq C 96 dX11_move_77 (by decide) (fun c77 => ?_) (fun c77 => ?_)
                · replace c77 := bI_f c77
                  refine j_aload_n C 0 dX11_move_96 rfl ?_
                  refine j_iconst C (v := (nI 1)) dX11_move_97 (by decide) ?_
                  refine j_callV (As := [.int (nI 1)]) (rest := []) C vw11_90 (h_error 1 (by decide)) ⟨0, 11, _, _, rfl, rfl, rfl⟩ rfl (Nat.le_of_ble_eq_true rfl) dX11_move_98 (by decide) ?_
                  rintro _ _ ⟨rfl, rfl⟩
                  refine j_iret C dX11_move_101 ?_
                  unfold sp_move
                  rw [if_pos ⟨show inn (nI 0) 0 3 from c4, show inn (nI 2) 0 3 from c11⟩, tN_nI (n := 0) (by decide), tN_nI (n := 2) (by decide)]
                  rw [if_neg (fun h => h.elim c26 c35)]
                  rw [if_neg (fun h => h c56)]
                  rw [esa, esb]
                  rw [if_pos (Classical.byContradiction (fun h => c77 ⟨fun g => h (Or.inl g), fun g => h (Or.inr (Or.inl g)), (part_iff hza (fun g => h (Or.inl g)) (fun g => h (Or.inr (Or.inl g)))).2 (fun g => h (Or.inr (Or.inr (Or.inr (Or.inl g)))))⟩))]
                  exact ⟨show (-1000000000 : Int32) - nI 1 = -1000000001 from by decide, hC.er 1⟩
                · replace c77 := bI_t c77
                  refine j_aload_n C 0 dX11_move_80 rfl ?_
                  refine j_get C (v := .ref (q 33)) 0 6 rfl rfl inlC11 (by decide) kf11_25 rfl dX11_move_81 ?_
                  refine j_iload_n C 3 dX11_move_84 rfl ?_
                  refine j_aaldN C 33 2 rfl rfl 2 rfl (by decide) (by decide) rfl dX11_move_85 ?_
                  refine j_iload C 4 dX11_move_86 rfl ?_
                  refine j_iload C 5 dX11_move_88 rfl ?_
                  refine j_callVN (As := [.int j, .int n]) (rest := []) C vn11_290 (h_hasPart_12) ⟨23, 8, _, _, rfl, rfl, rfl⟩ rfl (Nat.le_of_ble_eq_true rfl) dX11_move_90 (by decide) ?_
                  rintro _ _ ⟨rfl, rfl⟩
                  refine j_v (bI (¬ n < 0 ∧ ¬ j < 0 ∧ ¬ nI zb < j ∧ ¬ nI zb - j < n)) (by rw [hsb]) ?_
                  refine j_if_ne C 102 dX11_move_93 (by decide) (fun c93 => ?_) (fun c93 => ?_)
                  · replace c93 := bI_t c93
                    obtain ⟨ii, nn, rfl, rfl, hin⟩ := part_nat hza c77
                    obtain ⟨jj, n2, rfl, en2, hjn⟩ := part_nat hzb c93
                    have en3 : nn = n2 := nI_inj40 en2 (by omega) (by omega)
                    subst en3
                    refine j_aload_n C 0 dX11_move_102 rfl ?_
                    refine j_get C (v := .ref (q 33)) 0 6 rfl rfl inlC11 (by decide) kf11_25 rfl dX11_move_103 ?_
                    refine j_iload_n C 1 dX11_move_106 rfl ?_
                    refine j_aaldN C 33 2 rfl rfl 0 rfl (by decide) (by decide) rfl dX11_move_107 ?_
                    refine j_getN C (v := .ref (q 82)) 21 0 rfl rfl inlC8 (by decide) kf11_281 rfl dX11_move_108 ?_
                    refine j_iload_n C 2 dX11_move_111 rfl ?_
                    refine j_aload_n C 0 dX11_move_112 rfl ?_
                    refine j_get C (v := .ref (q 33)) 0 6 rfl rfl inlC11 (by decide) kf11_25 rfl dX11_move_113 ?_
                    refine j_iload_n C 3 dX11_move_116 rfl ?_
                    refine j_aaldN C 33 2 rfl rfl 2 rfl (by decide) (by decide) rfl dX11_move_117 ?_
                    refine j_getN C (v := .ref (q 84)) 23 0 rfl rfl inlC8 (by decide) kf11_281 rfl dX11_move_118 ?_
                    refine j_iload C 4 dX11_move_121 rfl ?_
                    refine j_iload C 5 dX11_move_123 rfl ?_
                    refine j_copy (rest := []) C 82 84 0 ac11_293 rfl rfl rfl ii jj nn (by omega) (by omega) (by decide) (by decide) (by decide) (Nat.le_of_ble_eq_true rfl) dX11_move_125 (S, va_up X 84 (va_cpy (X 82) (X 84) ii jj nn), P) rfl ?_
                    refine j_iload C 5 dX11_move_128 rfl ?_
                    refine j_iret C dX11_move_130 ?_
                    unfold sp_move
                    rw [if_pos ⟨show inn (nI 0) 0 3 from c4, show inn (nI 2) 0 3 from c11⟩, tN_nI (n := 0) (by decide), tN_nI (n := 2) (by decide)]
                    rw [if_neg (fun h => h.elim c26 c35)]
                    rw [if_neg (fun h => h c56)]
                    rw [esa, esb]
                    rw [if_neg (fun h => h.elim c77.1 (fun h => h.elim c77.2.1 (fun h => h.elim c93.2.1 (fun h => h.elim (fun g => (part_iff hza c77.1 c77.2.1).1 c77.2.2 g) (fun g => (part_iff hzb c93.1 c93.2.1).1 c93.2.2 g))))), tN_nI (n := ii) (by omega), tN_nI (n := jj) (by omega), tN_nI (n := nn) (by omega)]
                    exact ⟨rfl, hC.mov hSh 0 2 (by omega) (by omega) ii jj nn za zb esa hza (by omega) esb hzb (by omega)⟩
                  · replace c93 := bI_f c93
                    refine j_aload_n C 0 dX11_move_96 rfl ?_
                    refine j_iconst C (v := (nI 1)) dX11_move_97 (by decide) ?_
                    refine j_callV (As := [.int (nI 1)]) (rest := []) C vw11_90 (h_error 1 (by decide)) ⟨0, 11, _, _, rfl, rfl, rfl⟩ rfl (Nat.le_of_ble_eq_true rfl) dX11_move_98 (by decide) ?_
                    rintro _ _ ⟨rfl, rfl⟩
                    refine j_iret C dX11_move_101 ?_
                    unfold sp_move
                    rw [if_pos ⟨show inn (nI 0) 0 3 from c4, show inn (nI 2) 0 3 from c11⟩, tN_nI (n := 0) (by decide), tN_nI (n := 2) (by decide)]
                    rw [if_neg (fun h => h.elim c26 c35)]
                    rw [if_neg (fun h => h c56)]
                    rw [esa, esb]
                    rw [if_pos (Classical.byContradiction (fun h => c93 ⟨fun g => h (Or.inl g), fun g => h (Or.inr (Or.inr (Or.inl g))), (part_iff hzb (fun g => h (Or.inl g)) (fun g => h (Or.inr (Or.inr (Or.inl g))))).2 (fun g => h (Or.inr (Or.inr (Or.inr (Or.inr g)))))⟩))]
                    exact ⟨show (-1000000000 : Int32) - nI 1 = -1000000001 from by decide, hC.er 1⟩
              · skip
                refine j_aload_n C 0 dX11_move_59 rfl ?_
                refine j_iconst C (v := (nI 5)) dX11_move_60 (by decide) ?_
                refine j_callV (As := [.int (nI 5)]) (rest := []) C vw11_90 (h_error 5 (by decide)) ⟨0, 11, _, _, rfl, rfl, rfl⟩ rfl (Nat.le_of_ble_eq_true rfl) dX11_move_61 (by decide) ?_
                rintro _ _ ⟨rfl, rfl⟩
                refine j_iret C dX11_move_64 ?_
                unfold sp_move
                rw [if_pos ⟨show inn (nI 0) 0 3 from c4, show inn (nI 2) 0 3 from c11⟩, tN_nI (n := 0) (by decide), tN_nI (n := 2) (by decide)]
                rw [if_neg (fun h => h.elim c26 c35)]
                rw [if_pos c56]
                exact ⟨show (-1000000000 : Int32) - nI 5 = -1000000005 from by decide, hC.er 5⟩
            · skip
              refine j_aload_n C 0 dX11_move_38 rfl ?_
              refine j_iconst C (v := (nI 2)) dX11_move_39 (by decide) ?_
              refine j_callV (As := [.int (nI 2)]) (rest := []) C vw11_90 (h_error 2 (by decide)) ⟨0, 11, _, _, rfl, rfl, rfl⟩ rfl (Nat.le_of_ble_eq_true rfl) dX11_move_40 (by decide) ?_
              rintro _ _ ⟨rfl, rfl⟩
              refine j_iret C dX11_move_43 ?_
              unfold sp_move
              rw [if_pos ⟨show inn (nI 0) 0 3 from c4, show inn (nI 2) 0 3 from c11⟩, tN_nI (n := 0) (by decide), tN_nI (n := 2) (by decide)]
              rw [if_pos (Or.inr c35)]
              exact ⟨show (-1000000000 : Int32) - nI 2 = -1000000002 from by decide, hC.er 2⟩
        · obtain ⟨-, zb, hzb, esb⟩ := hSh 3 (by omega)
          have hsb : S 32 = nI zb := (hC.shs 3 (by omega)).trans esb
          refine j_aload_n C 0 dX11_move_20 rfl ?_
          refine j_get C (v := .ref (q 34)) 0 7 rfl rfl inlC11 (by decide) kf11_29 rfl dX11_move_21 ?_
          refine j_iload_n C 1 dX11_move_24 rfl ?_
          refine j_ialdN C 34 0 rfl rfl 0 rfl (by omega) (by decide) dX11_move_25 ?_
          refine j_v (bo 0) (hC.shb 0 (by omega)) ?_
          refine j_if_eq C 38 dX11_move_26 (by decide) (fun c26 => ?_) (fun c26 => ?_)
          · skip
            refine j_aload_n C 0 dX11_move_38 rfl ?_
            refine j_iconst C (v := (nI 2)) dX11_move_39 (by decide) ?_
            refine j_callV (As := [.int (nI 2)]) (rest := []) C vw11_90 (h_error 2 (by decide)) ⟨0, 11, _, _, rfl, rfl, rfl⟩ rfl (Nat.le_of_ble_eq_true rfl) dX11_move_40 (by decide) ?_
            rintro _ _ ⟨rfl, rfl⟩
            refine j_iret C dX11_move_43 ?_
            unfold sp_move
            rw [if_pos ⟨show inn (nI 0) 0 3 from c4, show inn (nI 3) 0 3 from c11⟩, tN_nI (n := 0) (by decide), tN_nI (n := 3) (by decide)]
            rw [if_pos (Or.inl c26)]
            exact ⟨show (-1000000000 : Int32) - nI 2 = -1000000002 from by decide, hC.er 2⟩
          · skip
            refine j_aload_n C 0 dX11_move_29 rfl ?_
            refine j_get C (v := .ref (q 34)) 0 7 rfl rfl inlC11 (by decide) kf11_29 rfl dX11_move_30 ?_
            refine j_iload_n C 3 dX11_move_33 rfl ?_
            refine j_ialdN C 34 0 rfl rfl 3 rfl (by omega) (by decide) dX11_move_34 ?_
            refine j_v (bo 3) (hC.shb 3 (by omega)) ?_
            refine j_if_ne C 44 dX11_move_35 (by decide) (fun c35 => ?_) (fun c35 => ?_)
            · skip
              refine j_aload_n C 0 dX11_move_44 rfl ?_
              refine j_get C (v := .ref (q 34)) 0 7 rfl rfl inlC11 (by decide) kf11_29 rfl dX11_move_45 ?_
              refine j_iload_n C 1 dX11_move_48 rfl ?_
              refine j_ialdN C 34 0 rfl rfl 0 rfl (by omega) (by decide) dX11_move_49 ?_
              refine j_v (bo 0) (hC.shb 0 (by omega)) ?_
              refine j_aload_n C 0 dX11_move_50 rfl ?_
              refine j_get C (v := .ref (q 34)) 0 7 rfl rfl inlC11 (by decide) kf11_29 rfl dX11_move_51 ?_
              refine j_iload_n C 3 dX11_move_54 rfl ?_
              refine j_ialdN C 34 0 rfl rfl 3 rfl (by omega) (by decide) dX11_move_55 ?_
              refine j_v (bo 3) (hC.shb 3 (by omega)) ?_
              refine j_icmp_eq C 65 dX11_move_56 (by decide) (fun c56 => ?_) (fun c56 => ?_)
              · skip
                refine j_aload_n C 0 dX11_move_65 rfl ?_
                refine j_get C (v := .ref (q 33)) 0 6 rfl rfl inlC11 (by decide) kf11_25 rfl dX11_move_66 ?_
                refine j_iload_n C 1 dX11_move_69 rfl ?_
                refine j_aaldN C 33 2 rfl rfl 0 rfl (by decide) (by decide) rfl dX11_move_70 ?_
                refine j_iload_n C 2 dX11_move_71 rfl ?_
                refine j_iload C 5 dX11_move_72 rfl ?_
                refine j_callVN (As := [.int i, .int n]) (rest := []) C vn11_290 (h_hasPart_10) ⟨21, 8, _, _, rfl, rfl, rfl⟩ rfl (Nat.le_of_ble_eq_true rfl) dX11_move_74 (by decide) ?_
                rintro _ _ ⟨rfl, rfl⟩
                refine j_v (bI (¬ n < 0 ∧ ¬ i < 0 ∧ ¬ nI za < i ∧ ¬ nI za - i < n)) (by rw [hsa]) ?_
                refine j_if_eq C 96 dX11_move_77 (by decide) (fun c77 => ?_) (fun c77 => ?_)
                · replace c77 := bI_f c77
                  refine j_aload_n C 0 dX11_move_96 rfl ?_
                  refine j_iconst C (v := (nI 1)) dX11_move_97 (by decide) ?_
                  refine j_callV (As := [.int (nI 1)]) (rest := []) C vw11_90 (h_error 1 (by decide)) ⟨0, 11, _, _, rfl, rfl, rfl⟩ rfl (Nat.le_of_ble_eq_true rfl) dX11_move_98 (by decide) ?_
                  rintro _ _ ⟨rfl, rfl⟩
                  refine j_iret C dX11_move_101 ?_
                  unfold sp_move
                  rw [if_pos ⟨show inn (nI 0) 0 3 from c4, show inn (nI 3) 0 3 from c11⟩, tN_nI (n := 0) (by decide), tN_nI (n := 3) (by decide)]
                  rw [if_neg (fun h => h.elim c26 c35)]
                  rw [if_neg (fun h => h c56)]
                  rw [esa, esb]
                  rw [if_pos (Classical.byContradiction (fun h => c77 ⟨fun g => h (Or.inl g), fun g => h (Or.inr (Or.inl g)), (part_iff hza (fun g => h (Or.inl g)) (fun g => h (Or.inr (Or.inl g)))).2 (fun g => h (Or.inr (Or.inr (Or.inr (Or.inl g)))))⟩))]
                  exact ⟨show (-1000000000 : Int32) - nI 1 = -1000000001 from by decide, hC.er 1⟩
                · replace c77 := bI_t c77
                  refine j_aload_n C 0 dX11_move_80 rfl ?_
                  refine j_get C (v := .ref (q 33)) 0 6 rfl rfl inlC11 (by decide) kf11_25 rfl dX11_move_81 ?_
                  refine j_iload_n C 3 dX11_move_84 rfl ?_
                  refine j_aaldN C 33 2 rfl rfl 3 rfl (by decide) (by decide) rfl dX11_move_85 ?_
                  refine j_iload C 4 dX11_move_86 rfl ?_
                  refine j_iload C 5 dX11_move_88 rfl ?_
                  refine j_callVN (As := [.int j, .int n]) (rest := []) C vn11_290 (h_hasPart_13) ⟨24, 8, _, _, rfl, rfl, rfl⟩ rfl (Nat.le_of_ble_eq_true rfl) dX11_move_90 (by decide) ?_
                  rintro _ _ ⟨rfl, rfl⟩
                  refine j_v (bI (¬ n < 0 ∧ ¬ j < 0 ∧ ¬ nI zb < j ∧ ¬ nI zb - j < n)) (by rw [hsb]) ?_
                  refine j_if_ne C 102 dX11_move_93 (by decide) (fun c93 => ?_) (fun c93 => ?_)
                  · replace c93 := bI_t c93
                    obtain ⟨ii, nn, rfl, rfl, hin⟩ := part_nat hza c77
                    obtain ⟨jj, n2, rfl, en2, hjn⟩ := part_nat hzb c93
                    have en3 : nn = n2 := nI_inj40 en2 (by omega) (by omega)
                    subst en3
                    refine j_aload_n C 0 dX11_move_102 rfl ?_
                    refine j_get C (v := .ref (q 33)) 0 6 rfl rfl inlC11 (by decide) kf11_25 rfl dX11_move_103 ?_
                    refine j_iload_n C 1 dX11_move_106 rfl ?_
                    refine j_aaldN C 33 2 rfl rfl 0 rfl (by decide) (by decide) rfl dX11_move_107 ?_
                    refine j_getN C (v := .ref (q 82)) 21 0 rfl rfl inlC8 (by decide) kf11_281 rfl dX11_move_108 ?_
                    refine j_iload_n C 2 dX11_move_111 rfl ?_
                    refine j_aload_n C 0 dX11_move_112 rfl ?_
                    refine j_get C (v := .ref (q 33)) 0 6 rfl rfl inlC11 (by decide) kf11_25 rfl dX11_move_113 ?_
                    refine j_iload_n C 3 dX11_move_116 rfl ?_
                    refine j_aaldN C 33 2 rfl rfl 3 rfl (by decide) (by decide) rfl dX11_move_117 ?_
                    refine j_getN C (v := .ref (q 85)) 24 0 rfl rfl inlC8 (by decide) kf11_281 rfl dX11_move_118 ?_
                    refine j_iload C 4 dX11_move_121 rfl ?_
                    refine j_iload C 5 dX11_move_123 rfl ?_
                    refine j_copy (rest := []) C 82 85 0 ac11_293 rfl rfl rfl ii jj nn (by omega) (by omega) (by decide) (by decide) (by decide) (Nat.le_of_ble_eq_true rfl) dX11_move_125 (S, va_up X 85 (va_cpy (X 82) (X 85) ii jj nn), P) rfl ?_
                    refine j_iload C 5 dX11_move_128 rfl ?_
                    refine j_iret C dX11_move_130 ?_
                    unfold sp_move
                    rw [if_pos ⟨show inn (nI 0) 0 3 from c4, show inn (nI 3) 0 3 from c11⟩, tN_nI (n := 0) (by decide), tN_nI (n := 3) (by decide)]
                    rw [if_neg (fun h => h.elim c26 c35)]
                    rw [if_neg (fun h => h c56)]
                    rw [esa, esb]
                    rw [if_neg (fun h => h.elim c77.1 (fun h => h.elim c77.2.1 (fun h => h.elim c93.2.1 (fun h => h.elim (fun g => (part_iff hza c77.1 c77.2.1).1 c77.2.2 g) (fun g => (part_iff hzb c93.1 c93.2.1).1 c93.2.2 g))))), tN_nI (n := ii) (by omega), tN_nI (n := jj) (by omega), tN_nI (n := nn) (by omega)]
                    exact ⟨rfl, hC.mov hSh 0 3 (by omega) (by omega) ii jj nn za zb esa hza (by omega) esb hzb (by omega)⟩
                  · replace c93 := bI_f c93
                    refine j_aload_n C 0 dX11_move_96 rfl ?_
                    refine j_iconst C (v := (nI 1)) dX11_move_97 (by decide) ?_
                    refine j_callV (As := [.int (nI 1)]) (rest := []) C vw11_90 (h_error 1 (by decide)) ⟨0, 11, _, _, rfl, rfl, rfl⟩ rfl (Nat.le_of_ble_eq_true rfl) dX11_move_98 (by decide) ?_
                    rintro _ _ ⟨rfl, rfl⟩
                    refine j_iret C dX11_move_101 ?_
                    unfold sp_move
                    rw [if_pos ⟨show inn (nI 0) 0 3 from c4, show inn (nI 3) 0 3 from c11⟩, tN_nI (n := 0) (by decide), tN_nI (n := 3) (by decide)]
                    rw [if_neg (fun h => h.elim c26 c35)]
                    rw [if_neg (fun h => h c56)]
                    rw [esa, esb]
                    rw [if_pos (Classical.byContradiction (fun h => c93 ⟨fun g => h (Or.inl g), fun g => h (Or.inr (Or.inr (Or.inl g))), (part_iff hzb (fun g => h (Or.inl g)) (fun g => h (Or.inr (Or.inr (Or.inl g))))).2 (fun g => h (Or.inr (Or.inr (Or.inr (Or.inr g)))))⟩))]
                    exact ⟨show (-1000000000 : Int32) - nI 1 = -1000000001 from by decide, hC.er 1⟩
              · skip
                refine j_aload_n C 0 dX11_move_59 rfl ?_
                refine j_iconst C (v := (nI 5)) dX11_move_60 (by decide) ?_
                refine j_callV (As := [.int (nI 5)]) (rest := []) C vw11_90 (h_error 5 (by decide)) ⟨0, 11, _, _, rfl, rfl, rfl⟩ rfl (Nat.le_of_ble_eq_true rfl) dX11_move_61 (by decide) ?_
                rintro _ _ ⟨rfl, rfl⟩
                refine j_iret C dX11_move_64 ?_
                unfold sp_move
                rw [if_pos ⟨show inn (nI 0) 0 3 from c4, show inn (nI 3) 0 3 from c11⟩, tN_nI (n := 0) (by decide), tN_nI (n := 3) (by decide)]
                rw [if_neg (fun h => h.elim c26 c35)]
                rw [if_pos c56]
                exact ⟨show (-1000000000 : Int32) - nI 5 = -1000000005 from by decide, hC.er 5⟩
            · skip
              refine j_aload_n C 0 dX11_move_38 rfl ?_
              refine j_iconst C (v := (nI 2)) dX11_move_39 (by decide) ?_
              refine j_callV (As := [.int (nI 2)]) (rest := []) C vw11_90 (h_error 2 (by decide)) ⟨0, 11, _, _, rfl, rfl, rfl⟩ rfl (Nat.le_of_ble_eq_true rfl) dX11_move_40 (by decide) ?_
              rintro _ _ ⟨rfl, rfl⟩
              refine j_iret C dX11_move_43 ?_
              unfold sp_move
              rw [if_pos ⟨show inn (nI 0) 0 3 from c4, show inn (nI 3) 0 3 from c11⟩, tN_nI (n := 0) (by decide), tN_nI (n := 3) (by decide)]
              rw [if_pos (Or.inr c35)]
              exact ⟨show (-1000000000 : Int32) - nI 2 = -1000000002 from by decide, hC.er 2⟩
      · obtain ⟨-, za, hza, esa⟩ := hSh 1 (by omega)
        have hsa : S 30 = nI za := (hC.shs 1 (by omega)).trans esa
        rcases (show tn = 0 ∨ tn = 1 ∨ tn = 2 ∨ tn = 3 by omega) with rfl | rfl | rfl | rfl
        · obtain ⟨-, zb, hzb, esb⟩ := hSh 0 (by omega)
          have hsb : S 29 = nI zb := (hC.shs 0 (by omega)).trans esb
          refine j_aload_n C 0 dX11_move_20 rfl ?_
          refine j_get C (v := .ref (q 34)) 0 7 rfl rfl inlC11 (by decide) kf11_29 rfl dX11_move_21 ?_
          refine j_iload_n C 1 dX11_move_24 rfl ?_
          refine j_ialdN C 34 0 rfl rfl 1 rfl (by omega) (by decide) dX11_move_25 ?_
          refine j_v (bo 1) (hC.shb 1 (by omega)) ?_
          refine j_if_eq C 38 dX11_move_26 (by decide) (fun c26 => ?_) (fun c26 => ?_)
          · skip
            refine j_aload_n C 0 dX11_move_38 rfl ?_
            refine j_iconst C (v := (nI 2)) dX11_move_39 (by decide) ?_
            refine j_callV (As := [.int (nI 2)]) (rest := []) C vw11_90 (h_error 2 (by decide)) ⟨0, 11, _, _, rfl, rfl, rfl⟩ rfl (Nat.le_of_ble_eq_true rfl) dX11_move_40 (by decide) ?_
            rintro _ _ ⟨rfl, rfl⟩
            refine j_iret C dX11_move_43 ?_
            unfold sp_move
            rw [if_pos ⟨show inn (nI 1) 0 3 from c4, show inn (nI 0) 0 3 from c11⟩, tN_nI (n := 1) (by decide), tN_nI (n := 0) (by decide)]
            rw [if_pos (Or.inl c26)]
            exact ⟨show (-1000000000 : Int32) - nI 2 = -1000000002 from by decide, hC.er 2⟩
          · skip
            refine j_aload_n C 0 dX11_move_29 rfl ?_
            refine j_get C (v := .ref (q 34)) 0 7 rfl rfl inlC11 (by decide) kf11_29 rfl dX11_move_30 ?_
            refine j_iload_n C 3 dX11_move_33 rfl ?_
            refine j_ialdN C 34 0 rfl rfl 0 rfl (by omega) (by decide) dX11_move_34 ?_
            refine j_v (bo 0) (hC.shb 0 (by omega)) ?_
            refine j_if_ne C 44 dX11_move_35 (by decide) (fun c35 => ?_) (fun c35 => ?_)
            · skip
              refine j_aload_n C 0 dX11_move_44 rfl ?_
              refine j_get C (v := .ref (q 34)) 0 7 rfl rfl inlC11 (by decide) kf11_29 rfl dX11_move_45 ?_
              refine j_iload_n C 1 dX11_move_48 rfl ?_
              refine j_ialdN C 34 0 rfl rfl 1 rfl (by omega) (by decide) dX11_move_49 ?_
              refine j_v (bo 1) (hC.shb 1 (by omega)) ?_
              refine j_aload_n C 0 dX11_move_50 rfl ?_
              refine j_get C (v := .ref (q 34)) 0 7 rfl rfl inlC11 (by decide) kf11_29 rfl dX11_move_51 ?_
              refine j_iload_n C 3 dX11_move_54 rfl ?_
              refine j_ialdN C 34 0 rfl rfl 0 rfl (by omega) (by decide) dX11_move_55 ?_
              refine j_v (bo 0) (hC.shb 0 (by omega)) ?_
              refine j_icmp_eq C 65 dX11_move_56 (by decide) (fun c56 => ?_) (fun c56 => ?_)
              · skip
                refine j_aload_n C 0 dX11_move_65 rfl ?_
                refine j_get C (v := .ref (q 33)) 0 6 rfl rfl inlC11 (by decide) kf11_25 rfl dX11_move_66 ?_
                refine j_iload_n C 1 dX11_move_69 rfl ?_
                refine j_aaldN C 33 2 rfl rfl 1 rfl (by decide) (by decide) rfl dX11_move_70 ?_
                refine j_iload_n C 2 dX11_move_71 rfl ?_
                refine j_iload C 5 dX11_move_72 rfl ?_
                refine j_callVN (As := [.int i, .int n]) (rest := []) C vn11_290 (h_hasPart_11) ⟨22, 8, _, _, rfl, rfl, rfl⟩ rfl (Nat.le_of_ble_eq_true rfl) dX11_move_74 (by decide) ?_
                rintro _ _ ⟨rfl, rfl⟩
                refine j_v (bI (¬ n < 0 ∧ ¬ i < 0 ∧ ¬ nI za < i ∧ ¬ nI za - i < n)) (by rw [hsa]) ?_
                refine j_if_eq C 96 dX11_move_77 (by decide) (fun c77 => ?_) (fun c77 => ?_)
                · replace c77 := bI_f c77
                  refine j_aload_n C 0 dX11_move_96 rfl ?_
                  refine j_iconst C (v := (nI 1)) dX11_move_97 (by decide) ?_
                  refine j_callV (As := [.int (nI 1)]) (rest := []) C vw11_90 (h_error 1 (by decide)) ⟨0, 11, _, _, rfl, rfl, rfl⟩ rfl (Nat.le_of_ble_eq_true rfl) dX11_move_98 (by decide) ?_
                  rintro _ _ ⟨rfl, rfl⟩
                  refine j_iret C dX11_move_101 ?_
                  unfold sp_move
                  rw [if_pos ⟨show inn (nI 1) 0 3 from c4, show inn (nI 0) 0 3 from c11⟩, tN_nI (n := 1) (by decide), tN_nI (n := 0) (by decide)]
                  rw [if_neg (fun h => h.elim c26 c35)]
                  rw [if_neg (fun h => h c56)]
                  rw [esa, esb]
                  rw [if_pos (Classical.byContradiction (fun h => c77 ⟨fun g => h (Or.inl g), fun g => h (Or.inr (Or.inl g)), (part_iff hza (fun g => h (Or.inl g)) (fun g => h (Or.inr (Or.inl g)))).2 (fun g => h (Or.inr (Or.inr (Or.inr (Or.inl g)))))⟩))]
                  exact ⟨show (-1000000000 : Int32) - nI 1 = -1000000001 from by decide, hC.er 1⟩
                · replace c77 := bI_t c77
                  refine j_aload_n C 0 dX11_move_80 rfl ?_
                  refine j_get C (v := .ref (q 33)) 0 6 rfl rfl inlC11 (by decide) kf11_25 rfl dX11_move_81 ?_
                  refine j_iload_n C 3 dX11_move_84 rfl ?_
                  refine j_aaldN C 33 2 rfl rfl 0 rfl (by decide) (by decide) rfl dX11_move_85 ?_
                  refine j_iload C 4 dX11_move_86 rfl ?_
                  refine j_iload C 5 dX11_move_88 rfl ?_
                  refine j_callVN (As := [.int j, .int n]) (rest := []) C vn11_290 (h_hasPart_10) ⟨21, 8, _, _, rfl, rfl, rfl⟩ rfl (Nat.le_of_ble_eq_true rfl) dX11_move_90 (by decide) ?_
                  rintro _ _ ⟨rfl, rfl⟩
                  refine j_v (bI (¬ n < 0 ∧ ¬ j < 0 ∧ ¬ nI zb < j ∧ ¬ nI zb - j < n)) (by rw [hsb]) ?_
                  refine j_if_ne C 102 dX11_move_93 (by decide) (fun c93 => ?_) (fun c93 => ?_)
                  · replace c93 := bI_t c93
                    obtain ⟨ii, nn, rfl, rfl, hin⟩ := part_nat hza c77
                    obtain ⟨jj, n2, rfl, en2, hjn⟩ := part_nat hzb c93
                    have en3 : nn = n2 := nI_inj40 en2 (by omega) (by omega)
                    subst en3
                    refine j_aload_n C 0 dX11_move_102 rfl ?_
                    refine j_get C (v := .ref (q 33)) 0 6 rfl rfl inlC11 (by decide) kf11_25 rfl dX11_move_103 ?_
                    refine j_iload_n C 1 dX11_move_106 rfl ?_
                    refine j_aaldN C 33 2 rfl rfl 1 rfl (by decide) (by decide) rfl dX11_move_107 ?_
                    refine j_getN C (v := .ref (q 83)) 22 0 rfl rfl inlC8 (by decide) kf11_281 rfl dX11_move_108 ?_
                    refine j_iload_n C 2 dX11_move_111 rfl ?_
                    refine j_aload_n C 0 dX11_move_112 rfl ?_
                    refine j_get C (v := .ref (q 33)) 0 6 rfl rfl inlC11 (by decide) kf11_25 rfl dX11_move_113 ?_
                    refine j_iload_n C 3 dX11_move_116 rfl ?_
                    refine j_aaldN C 33 2 rfl rfl 0 rfl (by decide) (by decide) rfl dX11_move_117 ?_
                    refine j_getN C (v := .ref (q 82)) 21 0 rfl rfl inlC8 (by decide) kf11_281 rfl dX11_move_118 ?_
                    refine j_iload C 4 dX11_move_121 rfl ?_
                    refine j_iload C 5 dX11_move_123 rfl ?_
                    refine j_copy (rest := []) C 83 82 0 ac11_293 rfl rfl rfl ii jj nn (by omega) (by omega) (by decide) (by decide) (by decide) (Nat.le_of_ble_eq_true rfl) dX11_move_125 (S, va_up X 82 (va_cpy (X 83) (X 82) ii jj nn), P) rfl ?_
                    refine j_iload C 5 dX11_move_128 rfl ?_
                    refine j_iret C dX11_move_130 ?_
                    unfold sp_move
                    rw [if_pos ⟨show inn (nI 1) 0 3 from c4, show inn (nI 0) 0 3 from c11⟩, tN_nI (n := 1) (by decide), tN_nI (n := 0) (by decide)]
                    rw [if_neg (fun h => h.elim c26 c35)]
                    rw [if_neg (fun h => h c56)]
                    rw [esa, esb]
                    rw [if_neg (fun h => h.elim c77.1 (fun h => h.elim c77.2.1 (fun h => h.elim c93.2.1 (fun h => h.elim (fun g => (part_iff hza c77.1 c77.2.1).1 c77.2.2 g) (fun g => (part_iff hzb c93.1 c93.2.1).1 c93.2.2 g))))), tN_nI (n := ii) (by omega), tN_nI (n := jj) (by omega), tN_nI (n := nn) (by omega)]
                    exact ⟨rfl, hC.mov hSh 1 0 (by omega) (by omega) ii jj nn za zb esa hza (by omega) esb hzb (by omega)⟩
                  · replace c93 := bI_f c93
                    refine j_aload_n C 0 dX11_move_96 rfl ?_
                    refine j_iconst C (v := (nI 1)) dX11_move_97 (by decide) ?_
                    refine j_callV (As := [.int (nI 1)]) (rest := []) C vw11_90 (h_error 1 (by decide)) ⟨0, 11, _, _, rfl, rfl, rfl⟩ rfl (Nat.le_of_ble_eq_true rfl) dX11_move_98 (by decide) ?_
                    rintro _ _ ⟨rfl, rfl⟩
                    refine j_iret C dX11_move_101 ?_
                    unfold sp_move
                    rw [if_pos ⟨show inn (nI 1) 0 3 from c4, show inn (nI 0) 0 3 from c11⟩, tN_nI (n := 1) (by decide), tN_nI (n := 0) (by decide)]
                    rw [if_neg (fun h => h.elim c26 c35)]
                    rw [if_neg (fun h => h c56)]
                    rw [esa, esb]
                    rw [if_pos (Classical.byContradiction (fun h => c93 ⟨fun g => h (Or.inl g), fun g => h (Or.inr (Or.inr (Or.inl g))), (part_iff hzb (fun g => h (Or.inl g)) (fun g => h (Or.inr (Or.inr (Or.inl g))))).2 (fun g => h (Or.inr (Or.inr (Or.inr (Or.inr g)))))⟩))]
                    exact ⟨show (-1000000000 : Int32) - nI 1 = -1000000001 from by decide, hC.er 1⟩
              · skip
                refine j_aload_n C 0 dX11_move_59 rfl ?_
                refine j_iconst C (v := (nI 5)) dX11_move_60 (by decide) ?_
                refine j_callV (As := [.int (nI 5)]) (rest := []) C vw11_90 (h_error 5 (by decide)) ⟨0, 11, _, _, rfl, rfl, rfl⟩ rfl (Nat.le_of_ble_eq_true rfl) dX11_move_61 (by decide) ?_
                rintro _ _ ⟨rfl, rfl⟩
                refine j_iret C dX11_move_64 ?_
                unfold sp_move
                rw [if_pos ⟨show inn (nI 1) 0 3 from c4, show inn (nI 0) 0 3 from c11⟩, tN_nI (n := 1) (by decide), tN_nI (n := 0) (by decide)]
                rw [if_neg (fun h => h.elim c26 c35)]
                rw [if_pos c56]
                exact ⟨show (-1000000000 : Int32) - nI 5 = -1000000005 from by decide, hC.er 5⟩
            · skip
              refine j_aload_n C 0 dX11_move_38 rfl ?_
              refine j_iconst C (v := (nI 2)) dX11_move_39 (by decide) ?_
              refine j_callV (As := [.int (nI 2)]) (rest := []) C vw11_90 (h_error 2 (by decide)) ⟨0, 11, _, _, rfl, rfl, rfl⟩ rfl (Nat.le_of_ble_eq_true rfl) dX11_move_40 (by decide) ?_
              rintro _ _ ⟨rfl, rfl⟩
              refine j_iret C dX11_move_43 ?_
              unfold sp_move
              rw [if_pos ⟨show inn (nI 1) 0 3 from c4, show inn (nI 0) 0 3 from c11⟩, tN_nI (n := 1) (by decide), tN_nI (n := 0) (by decide)]
              rw [if_pos (Or.inr c35)]
              exact ⟨show (-1000000000 : Int32) - nI 2 = -1000000002 from by decide, hC.er 2⟩
        · obtain ⟨-, zb, hzb, esb⟩ := hSh 1 (by omega)
          have hsb : S 30 = nI zb := (hC.shs 1 (by omega)).trans esb
          refine j_aload_n C 0 dX11_move_20 rfl ?_
          refine j_get C (v := .ref (q 34)) 0 7 rfl rfl inlC11 (by decide) kf11_29 rfl dX11_move_21 ?_
          refine j_iload_n C 1 dX11_move_24 rfl ?_
          refine j_ialdN C 34 0 rfl rfl 1 rfl (by omega) (by decide) dX11_move_25 ?_
          refine j_v (bo 1) (hC.shb 1 (by omega)) ?_
          refine j_if_eq C 38 dX11_move_26 (by decide) (fun c26 => ?_) (fun c26 => ?_)
          · skip
            refine j_aload_n C 0 dX11_move_38 rfl ?_
            refine j_iconst C (v := (nI 2)) dX11_move_39 (by decide) ?_
            refine j_callV (As := [.int (nI 2)]) (rest := []) C vw11_90 (h_error 2 (by decide)) ⟨0, 11, _, _, rfl, rfl, rfl⟩ rfl (Nat.le_of_ble_eq_true rfl) dX11_move_40 (by decide) ?_
            rintro _ _ ⟨rfl, rfl⟩
            refine j_iret C dX11_move_43 ?_
            unfold sp_move
            rw [if_pos ⟨show inn (nI 1) 0 3 from c4, show inn (nI 1) 0 3 from c11⟩, tN_nI (n := 1) (by decide)]
            rw [if_pos (Or.inl c26)]
            exact ⟨show (-1000000000 : Int32) - nI 2 = -1000000002 from by decide, hC.er 2⟩
          · skip
            refine j_aload_n C 0 dX11_move_29 rfl ?_
            refine j_get C (v := .ref (q 34)) 0 7 rfl rfl inlC11 (by decide) kf11_29 rfl dX11_move_30 ?_
            refine j_iload_n C 3 dX11_move_33 rfl ?_
            refine j_ialdN C 34 0 rfl rfl 1 rfl (by omega) (by decide) dX11_move_34 ?_
            refine j_v (bo 1) (hC.shb 1 (by omega)) ?_
            refine j_if_ne C 44 dX11_move_35 (by decide) (fun c35 => ?_) (fun c35 => ?_)
            · skip
              refine j_aload_n C 0 dX11_move_44 rfl ?_
              refine j_get C (v := .ref (q 34)) 0 7 rfl rfl inlC11 (by decide) kf11_29 rfl dX11_move_45 ?_
              refine j_iload_n C 1 dX11_move_48 rfl ?_
              refine j_ialdN C 34 0 rfl rfl 1 rfl (by omega) (by decide) dX11_move_49 ?_
              refine j_v (bo 1) (hC.shb 1 (by omega)) ?_
              refine j_aload_n C 0 dX11_move_50 rfl ?_
              refine j_get C (v := .ref (q 34)) 0 7 rfl rfl inlC11 (by decide) kf11_29 rfl dX11_move_51 ?_
              refine j_iload_n C 3 dX11_move_54 rfl ?_
              refine j_ialdN C 34 0 rfl rfl 1 rfl (by omega) (by decide) dX11_move_55 ?_
              refine j_v (bo 1) (hC.shb 1 (by omega)) ?_
              refine j_icmp_eq C 65 dX11_move_56 (by decide) (fun c56 => ?_) (fun c56 => ?_)
              · skip
                refine j_aload_n C 0 dX11_move_65 rfl ?_
                refine j_get C (v := .ref (q 33)) 0 6 rfl rfl inlC11 (by decide) kf11_25 rfl dX11_move_66 ?_
                refine j_iload_n C 1 dX11_move_69 rfl ?_
                refine j_aaldN C 33 2 rfl rfl 1 rfl (by decide) (by decide) rfl dX11_move_70 ?_
                refine j_iload_n C 2 dX11_move_71 rfl ?_
                refine j_iload C 5 dX11_move_72 rfl ?_
                refine j_callVN (As := [.int i, .int n]) (rest := []) C vn11_290 (h_hasPart_11) ⟨22, 8, _, _, rfl, rfl, rfl⟩ rfl (Nat.le_of_ble_eq_true rfl) dX11_move_74 (by decide) ?_
                rintro _ _ ⟨rfl, rfl⟩
                refine j_v (bI (¬ n < 0 ∧ ¬ i < 0 ∧ ¬ nI za < i ∧ ¬ nI za - i < n)) (by rw [hsa]) ?_
                refine j_if_eq C 96 dX11_move_77 (by decide) (fun c77 => ?_) (fun c77 => ?_)
                · replace c77 := bI_f c77
                  refine j_aload_n C 0 dX11_move_96 rfl ?_
                  refine j_iconst C (v := (nI 1)) dX11_move_97 (by decide) ?_
                  refine j_callV (As := [.int (nI 1)]) (rest := []) C vw11_90 (h_error 1 (by decide)) ⟨0, 11, _, _, rfl, rfl, rfl⟩ rfl (Nat.le_of_ble_eq_true rfl) dX11_move_98 (by decide) ?_
                  rintro _ _ ⟨rfl, rfl⟩
                  refine j_iret C dX11_move_101 ?_
                  unfold sp_move
                  rw [if_pos ⟨show inn (nI 1) 0 3 from c4, show inn (nI 1) 0 3 from c11⟩, tN_nI (n := 1) (by decide)]
                  rw [if_neg (fun h => h.elim c26 c26)]
                  rw [if_neg (fun h => h rfl)]
                  rw [esa]
                  rw [if_pos (Classical.byContradiction (fun h => c77 ⟨fun g => h (Or.inl g), fun g => h (Or.inr (Or.inl g)), (part_iff hza (fun g => h (Or.inl g)) (fun g => h (Or.inr (Or.inl g)))).2 (fun g => h (Or.inr (Or.inr (Or.inr (Or.inl g)))))⟩))]
                  exact ⟨show (-1000000000 : Int32) - nI 1 = -1000000001 from by decide, hC.er 1⟩
                · replace c77 := bI_t c77
                  refine j_aload_n C 0 dX11_move_80 rfl ?_
                  refine j_get C (v := .ref (q 33)) 0 6 rfl rfl inlC11 (by decide) kf11_25 rfl dX11_move_81 ?_
                  refine j_iload_n C 3 dX11_move_84 rfl ?_
                  refine j_aaldN C 33 2 rfl rfl 1 rfl (by decide) (by decide) rfl dX11_move_85 ?_
                  refine j_iload C 4 dX11_move_86 rfl ?_
                  refine j_iload C 5 dX11_move_88 rfl ?_
                  refine j_callVN (As := [.int j, .int n]) (rest := []) C vn11_290 (h_hasPart_11) ⟨22, 8, _, _, rfl, rfl, rfl⟩ rfl (Nat.le_of_ble_eq_true rfl) dX11_move_90 (by decide) ?_
                  rintro _ _ ⟨rfl, rfl⟩
                  refine j_v (bI (¬ n < 0 ∧ ¬ j < 0 ∧ ¬ nI zb < j ∧ ¬ nI zb - j < n)) (by rw [hsb]) ?_
                  refine j_if_ne C 102 dX11_move_93 (by decide) (fun c93 => ?_) (fun c93 => ?_)
                  · replace c93 := bI_t c93
                    obtain ⟨ii, nn, rfl, rfl, hin⟩ := part_nat hza c77
                    obtain ⟨jj, n2, rfl, en2, hjn⟩ := part_nat hzb c93
                    have en3 : nn = n2 := nI_inj40 en2 (by omega) (by omega)
                    subst en3
                    refine j_aload_n C 0 dX11_move_102 rfl ?_
                    refine j_get C (v := .ref (q 33)) 0 6 rfl rfl inlC11 (by decide) kf11_25 rfl dX11_move_103 ?_
                    refine j_iload_n C 1 dX11_move_106 rfl ?_
                    refine j_aaldN C 33 2 rfl rfl 1 rfl (by decide) (by decide) rfl dX11_move_107 ?_
                    refine j_getN C (v := .ref (q 83)) 22 0 rfl rfl inlC8 (by decide) kf11_281 rfl dX11_move_108 ?_
                    refine j_iload_n C 2 dX11_move_111 rfl ?_
                    refine j_aload_n C 0 dX11_move_112 rfl ?_
                    refine j_get C (v := .ref (q 33)) 0 6 rfl rfl inlC11 (by decide) kf11_25 rfl dX11_move_113 ?_
                    refine j_iload_n C 3 dX11_move_116 rfl ?_
                    refine j_aaldN C 33 2 rfl rfl 1 rfl (by decide) (by decide) rfl dX11_move_117 ?_
                    refine j_getN C (v := .ref (q 83)) 22 0 rfl rfl inlC8 (by decide) kf11_281 rfl dX11_move_118 ?_
                    refine j_iload C 4 dX11_move_121 rfl ?_
                    refine j_iload C 5 dX11_move_123 rfl ?_
                    refine j_copy (rest := []) C 83 83 0 ac11_293 rfl rfl rfl ii jj nn (by omega) (by omega) (by decide) (by decide) (by decide) (Nat.le_of_ble_eq_true rfl) dX11_move_125 (S, va_up X 83 (va_cpy (X 83) (X 83) ii jj nn), P) rfl ?_
                    refine j_iload C 5 dX11_move_128 rfl ?_
                    refine j_iret C dX11_move_130 ?_
                    unfold sp_move
                    rw [if_pos ⟨show inn (nI 1) 0 3 from c4, show inn (nI 1) 0 3 from c11⟩, tN_nI (n := 1) (by decide)]
                    rw [if_neg (fun h => h.elim c26 c26)]
                    rw [if_neg (fun h => h rfl)]
                    rw [esa]
                    rw [if_neg (fun h => h.elim c77.1 (fun h => h.elim c77.2.1 (fun h => h.elim c93.2.1 (fun h => h.elim (fun g => (part_iff hza c77.1 c77.2.1).1 c77.2.2 g) (fun g => (part_iff hzb c93.1 c93.2.1).1 c93.2.2 (by rw [← esb, esa]; exact g)))))), tN_nI (n := ii) (by omega), tN_nI (n := jj) (by omega), tN_nI (n := nn) (by omega)]
                    exact ⟨rfl, hC.mov hSh 1 1 (by omega) (by omega) ii jj nn za zb esa hza (by omega) esb hzb (by omega)⟩
                  · replace c93 := bI_f c93
                    refine j_aload_n C 0 dX11_move_96 rfl ?_
                    refine j_iconst C (v := (nI 1)) dX11_move_97 (by decide) ?_
                    refine j_callV (As := [.int (nI 1)]) (rest := []) C vw11_90 (h_error 1 (by decide)) ⟨0, 11, _, _, rfl, rfl, rfl⟩ rfl (Nat.le_of_ble_eq_true rfl) dX11_move_98 (by decide) ?_
                    rintro _ _ ⟨rfl, rfl⟩
                    refine j_iret C dX11_move_101 ?_
                    unfold sp_move
                    rw [if_pos ⟨show inn (nI 1) 0 3 from c4, show inn (nI 1) 0 3 from c11⟩, tN_nI (n := 1) (by decide)]
                    rw [if_neg (fun h => h.elim c26 c26)]
                    rw [if_neg (fun h => h rfl)]
                    rw [esa]
                    rw [if_pos (Classical.byContradiction (fun h => c93 ⟨fun g => h (Or.inl g), fun g => h (Or.inr (Or.inr (Or.inl g))), (part_iff hzb (fun g => h (Or.inl g)) (fun g => h (Or.inr (Or.inr (Or.inl g))))).2 (fun g => h (Or.inr (Or.inr (Or.inr (Or.inr (by rw [← esa, esb]; exact g))))))⟩))]
                    exact ⟨show (-1000000000 : Int32) - nI 1 = -1000000001 from by decide, hC.er 1⟩
              · skip
                refine j_aload_n C 0 dX11_move_59 rfl ?_
                refine j_iconst C (v := (nI 5)) dX11_move_60 (by decide) ?_
                refine j_callV (As := [.int (nI 5)]) (rest := []) C vw11_90 (h_error 5 (by decide)) ⟨0, 11, _, _, rfl, rfl, rfl⟩ rfl (Nat.le_of_ble_eq_true rfl) dX11_move_61 (by decide) ?_
                rintro _ _ ⟨rfl, rfl⟩
                refine j_iret C dX11_move_64 ?_
                unfold sp_move
                rw [if_pos ⟨show inn (nI 1) 0 3 from c4, show inn (nI 1) 0 3 from c11⟩, tN_nI (n := 1) (by decide)]
                rw [if_neg (fun h => h.elim c26 c26)]
                rw [if_pos c56]
                exact ⟨show (-1000000000 : Int32) - nI 5 = -1000000005 from by decide, hC.er 5⟩
            · skip
              exact absurd c35 c26
        · obtain ⟨-, zb, hzb, esb⟩ := hSh 2 (by omega)
          have hsb : S 31 = nI zb := (hC.shs 2 (by omega)).trans esb
          refine j_aload_n C 0 dX11_move_20 rfl ?_
          refine j_get C (v := .ref (q 34)) 0 7 rfl rfl inlC11 (by decide) kf11_29 rfl dX11_move_21 ?_
          refine j_iload_n C 1 dX11_move_24 rfl ?_
          refine j_ialdN C 34 0 rfl rfl 1 rfl (by omega) (by decide) dX11_move_25 ?_
          refine j_v (bo 1) (hC.shb 1 (by omega)) ?_
          refine j_if_eq C 38 dX11_move_26 (by decide) (fun c26 => ?_) (fun c26 => ?_)
          · skip
            refine j_aload_n C 0 dX11_move_38 rfl ?_
            refine j_iconst C (v := (nI 2)) dX11_move_39 (by decide) ?_
            refine j_callV (As := [.int (nI 2)]) (rest := []) C vw11_90 (h_error 2 (by decide)) ⟨0, 11, _, _, rfl, rfl, rfl⟩ rfl (Nat.le_of_ble_eq_true rfl) dX11_move_40 (by decide) ?_
            rintro _ _ ⟨rfl, rfl⟩
            refine j_iret C dX11_move_43 ?_
            unfold sp_move
            rw [if_pos ⟨show inn (nI 1) 0 3 from c4, show inn (nI 2) 0 3 from c11⟩, tN_nI (n := 1) (by decide), tN_nI (n := 2) (by decide)]
            rw [if_pos (Or.inl c26)]
            exact ⟨show (-1000000000 : Int32) - nI 2 = -1000000002 from by decide, hC.er 2⟩
          · skip
            refine j_aload_n C 0 dX11_move_29 rfl ?_
            refine j_get C (v := .ref (q 34)) 0 7 rfl rfl inlC11 (by decide) kf11_29 rfl dX11_move_30 ?_
            refine j_iload_n C 3 dX11_move_33 rfl ?_
            refine j_ialdN C 34 0 rfl rfl 2 rfl (by omega) (by decide) dX11_move_34 ?_
            refine j_v (bo 2) (hC.shb 2 (by omega)) ?_
            refine j_if_ne C 44 dX11_move_35 (by decide) (fun c35 => ?_) (fun c35 => ?_)
            · skip
              refine j_aload_n C 0 dX11_move_44 rfl ?_
              refine j_get C (v := .ref (q 34)) 0 7 rfl rfl inlC11 (by decide) kf11_29 rfl dX11_move_45 ?_
              refine j_iload_n C 1 dX11_move_48 rfl ?_
              refine j_ialdN C 34 0 rfl rfl 1 rfl (by omega) (by decide) dX11_move_49 ?_
              refine j_v (bo 1) (hC.shb 1 (by omega)) ?_
              refine j_aload_n C 0 dX11_move_50 rfl ?_
              refine j_get C (v := .ref (q 34)) 0 7 rfl rfl inlC11 (by decide) kf11_29 rfl dX11_move_51 ?_
              refine j_iload_n C 3 dX11_move_54 rfl ?_
              refine j_ialdN C 34 0 rfl rfl 2 rfl (by omega) (by decide) dX11_move_55 ?_
              refine j_v (bo 2) (hC.shb 2 (by omega)) ?_
              refine j_icmp_eq C 65 dX11_move_56 (by decide) (fun c56 => ?_) (fun c56 => ?_)
              · skip
                refine j_aload_n C 0 dX11_move_65 rfl ?_
                refine j_get C (v := .ref (q 33)) 0 6 rfl rfl inlC11 (by decide) kf11_25 rfl dX11_move_66 ?_
                refine j_iload_n C 1 dX11_move_69 rfl ?_
                refine j_aaldN C 33 2 rfl rfl 1 rfl (by decide) (by decide) rfl dX11_move_70 ?_
                refine j_iload_n C 2 dX11_move_71 rfl ?_
                refine j_iload C 5 dX11_move_72 rfl ?_
                refine j_callVN (As := [.int i, .int n]) (rest := []) C vn11_290 (h_hasPart_11) ⟨22, 8, _, _, rfl, rfl, rfl⟩ rfl (Nat.le_of_ble_eq_true rfl) dX11_move_74 (by decide) ?_
                rintro _ _ ⟨rfl, rfl⟩
                refine j_v (bI (¬ n < 0 ∧ ¬ i < 0 ∧ ¬ nI za < i ∧ ¬ nI za - i < n)) (by rw [hsa]) ?_
                refine j_if_eq C 96 dX11_move_77 (by decide) (fun c77 => ?_) (fun c77 => ?_)
                · replace c77 := bI_f c77
                  refine j_aload_n C 0 dX11_move_96 rfl ?_
                  refine j_iconst C (v := (nI 1)) dX11_move_97 (by decide) ?_
                  refine j_callV (As := [.int (nI 1)]) (rest := []) C vw11_90 (h_error 1 (by decide)) ⟨0, 11, _, _, rfl, rfl, rfl⟩ rfl (Nat.le_of_ble_eq_true rfl) dX11_move_98 (by decide) ?_
                  rintro _ _ ⟨rfl, rfl⟩
                  refine j_iret C dX11_move_101 ?_
                  unfold sp_move
                  rw [if_pos ⟨show inn (nI 1) 0 3 from c4, show inn (nI 2) 0 3 from c11⟩, tN_nI (n := 1) (by decide), tN_nI (n := 2) (by decide)]
                  rw [if_neg (fun h => h.elim c26 c35)]
                  rw [if_neg (fun h => h c56)]
                  rw [esa, esb]
                  rw [if_pos (Classical.byContradiction (fun h => c77 ⟨fun g => h (Or.inl g), fun g => h (Or.inr (Or.inl g)), (part_iff hza (fun g => h (Or.inl g)) (fun g => h (Or.inr (Or.inl g)))).2 (fun g => h (Or.inr (Or.inr (Or.inr (Or.inl g)))))⟩))]
                  exact ⟨show (-1000000000 : Int32) - nI 1 = -1000000001 from by decide, hC.er 1⟩
                · replace c77 := bI_t c77
                  refine j_aload_n C 0 dX11_move_80 rfl ?_
                  refine j_get C (v := .ref (q 33)) 0 6 rfl rfl inlC11 (by decide) kf11_25 rfl dX11_move_81 ?_
                  refine j_iload_n C 3 dX11_move_84 rfl ?_
                  refine j_aaldN C 33 2 rfl rfl 2 rfl (by decide) (by decide) rfl dX11_move_85 ?_
                  refine j_iload C 4 dX11_move_86 rfl ?_
                  refine j_iload C 5 dX11_move_88 rfl ?_
                  refine j_callVN (As := [.int j, .int n]) (rest := []) C vn11_290 (h_hasPart_12) ⟨23, 8, _, _, rfl, rfl, rfl⟩ rfl (Nat.le_of_ble_eq_true rfl) dX11_move_90 (by decide) ?_
                  rintro _ _ ⟨rfl, rfl⟩
                  refine j_v (bI (¬ n < 0 ∧ ¬ j < 0 ∧ ¬ nI zb < j ∧ ¬ nI zb - j < n)) (by rw [hsb]) ?_
                  refine j_if_ne C 102 dX11_move_93 (by decide) (fun c93 => ?_) (fun c93 => ?_)
                  · replace c93 := bI_t c93
                    obtain ⟨ii, nn, rfl, rfl, hin⟩ := part_nat hza c77
                    obtain ⟨jj, n2, rfl, en2, hjn⟩ := part_nat hzb c93
                    have en3 : nn = n2 := nI_inj40 en2 (by omega) (by omega)
                    subst en3
                    refine j_aload_n C 0 dX11_move_102 rfl ?_
                    refine j_get C (v := .ref (q 33)) 0 6 rfl rfl inlC11 (by decide) kf11_25 rfl dX11_move_103 ?_
                    refine j_iload_n C 1 dX11_move_106 rfl ?_
                    refine j_aaldN C 33 2 rfl rfl 1 rfl (by decide) (by decide) rfl dX11_move_107 ?_
                    refine j_getN C (v := .ref (q 83)) 22 0 rfl rfl inlC8 (by decide) kf11_281 rfl dX11_move_108 ?_
                    refine j_iload_n C 2 dX11_move_111 rfl ?_
                    refine j_aload_n C 0 dX11_move_112 rfl ?_
                    refine j_get C (v := .ref (q 33)) 0 6 rfl rfl inlC11 (by decide) kf11_25 rfl dX11_move_113 ?_
                    refine j_iload_n C 3 dX11_move_116 rfl ?_
                    refine j_aaldN C 33 2 rfl rfl 2 rfl (by decide) (by decide) rfl dX11_move_117 ?_
                    refine j_getN C (v := .ref (q 84)) 23 0 rfl rfl inlC8 (by decide) kf11_281 rfl dX11_move_118 ?_
                    refine j_iload C 4 dX11_move_121 rfl ?_
                    refine j_iload C 5 dX11_move_123 rfl ?_
                    refine j_copy (rest := []) C 83 84 0 ac11_293 rfl rfl rfl ii jj nn (by omega) (by omega) (by decide) (by decide) (by decide) (Nat.le_of_ble_eq_true rfl) dX11_move_125 (S, va_up X 84 (va_cpy (X 83) (X 84) ii jj nn), P) rfl ?_
                    refine j_iload C 5 dX11_move_128 rfl ?_
                    refine j_iret C dX11_move_130 ?_
                    unfold sp_move
                    rw [if_pos ⟨show inn (nI 1) 0 3 from c4, show inn (nI 2) 0 3 from c11⟩, tN_nI (n := 1) (by decide), tN_nI (n := 2) (by decide)]
                    rw [if_neg (fun h => h.elim c26 c35)]
                    rw [if_neg (fun h => h c56)]
                    rw [esa, esb]
                    rw [if_neg (fun h => h.elim c77.1 (fun h => h.elim c77.2.1 (fun h => h.elim c93.2.1 (fun h => h.elim (fun g => (part_iff hza c77.1 c77.2.1).1 c77.2.2 g) (fun g => (part_iff hzb c93.1 c93.2.1).1 c93.2.2 g))))), tN_nI (n := ii) (by omega), tN_nI (n := jj) (by omega), tN_nI (n := nn) (by omega)]
                    exact ⟨rfl, hC.mov hSh 1 2 (by omega) (by omega) ii jj nn za zb esa hza (by omega) esb hzb (by omega)⟩
                  · replace c93 := bI_f c93
                    refine j_aload_n C 0 dX11_move_96 rfl ?_
                    refine j_iconst C (v := (nI 1)) dX11_move_97 (by decide) ?_
                    refine j_callV (As := [.int (nI 1)]) (rest := []) C vw11_90 (h_error 1 (by decide)) ⟨0, 11, _, _, rfl, rfl, rfl⟩ rfl (Nat.le_of_ble_eq_true rfl) dX11_move_98 (by decide) ?_
                    rintro _ _ ⟨rfl, rfl⟩
                    refine j_iret C dX11_move_101 ?_
                    unfold sp_move
                    rw [if_pos ⟨show inn (nI 1) 0 3 from c4, show inn (nI 2) 0 3 from c11⟩, tN_nI (n := 1) (by decide), tN_nI (n := 2) (by decide)]
                    rw [if_neg (fun h => h.elim c26 c35)]
                    rw [if_neg (fun h => h c56)]
                    rw [esa, esb]
                    rw [if_pos (Classical.byContradiction (fun h => c93 ⟨fun g => h (Or.inl g), fun g => h (Or.inr (Or.inr (Or.inl g))), (part_iff hzb (fun g => h (Or.inl g)) (fun g => h (Or.inr (Or.inr (Or.inl g))))).2 (fun g => h (Or.inr (Or.inr (Or.inr (Or.inr g)))))⟩))]
                    exact ⟨show (-1000000000 : Int32) - nI 1 = -1000000001 from by decide, hC.er 1⟩
              · skip
                refine j_aload_n C 0 dX11_move_59 rfl ?_
                refine j_iconst C (v := (nI 5)) dX11_move_60 (by decide) ?_
                refine j_callV (As := [.int (nI 5)]) (rest := []) C vw11_90 (h_error 5 (by decide)) ⟨0, 11, _, _, rfl, rfl, rfl⟩ rfl (Nat.le_of_ble_eq_true rfl) dX11_move_61 (by decide) ?_
                rintro _ _ ⟨rfl, rfl⟩
                refine j_iret C dX11_move_64 ?_
                unfold sp_move
                rw [if_pos ⟨show inn (nI 1) 0 3 from c4, show inn (nI 2) 0 3 from c11⟩, tN_nI (n := 1) (by decide), tN_nI (n := 2) (by decide)]
                rw [if_neg (fun h => h.elim c26 c35)]
                rw [if_pos c56]
                exact ⟨show (-1000000000 : Int32) - nI 5 = -1000000005 from by decide, hC.er 5⟩
            · skip
              refine j_aload_n C 0 dX11_move_38 rfl ?_
              refine j_iconst C (v := (nI 2)) dX11_move_39 (by decide) ?_
              refine j_callV (As := [.int (nI 2)]) (rest := []) C vw11_90 (h_error 2 (by decide)) ⟨0, 11, _, _, rfl, rfl, rfl⟩ rfl (Nat.le_of_ble_eq_true rfl) dX11_move_40 (by decide) ?_
              rintro _ _ ⟨rfl, rfl⟩
              refine j_iret C dX11_move_43 ?_
              unfold sp_move
              rw [if_pos ⟨show inn (nI 1) 0 3 from c4, show inn (nI 2) 0 3 from c11⟩, tN_nI (n := 1) (by decide), tN_nI (n := 2) (by decide)]
              rw [if_pos (Or.inr c35)]
              exact ⟨show (-1000000000 : Int32) - nI 2 = -1000000002 from by decide, hC.er 2⟩
        · obtain ⟨-, zb, hzb, esb⟩ := hSh 3 (by omega)
          have hsb : S 32 = nI zb := (hC.shs 3 (by omega)).trans esb
          refine j_aload_n C 0 dX11_move_20 rfl ?_
          refine j_get C (v := .ref (q 34)) 0 7 rfl rfl inlC11 (by decide) kf11_29 rfl dX11_move_21 ?_
          refine j_iload_n C 1 dX11_move_24 rfl ?_
          refine j_ialdN C 34 0 rfl rfl 1 rfl (by omega) (by decide) dX11_move_25 ?_
          refine j_v (bo 1) (hC.shb 1 (by omega)) ?_
          refine j_if_eq C 38 dX11_move_26 (by decide) (fun c26 => ?_) (fun c26 => ?_)
          · skip
            refine j_aload_n C 0 dX11_move_38 rfl ?_
            refine j_iconst C (v := (nI 2)) dX11_move_39 (by decide) ?_
            refine j_callV (As := [.int (nI 2)]) (rest := []) C vw11_90 (h_error 2 (by decide)) ⟨0, 11, _, _, rfl, rfl, rfl⟩ rfl (Nat.le_of_ble_eq_true rfl) dX11_move_40 (by decide) ?_
            rintro _ _ ⟨rfl, rfl⟩
            refine j_iret C dX11_move_43 ?_
            unfold sp_move
            rw [if_pos ⟨show inn (nI 1) 0 3 from c4, show inn (nI 3) 0 3 from c11⟩, tN_nI (n := 1) (by decide), tN_nI (n := 3) (by decide)]
            rw [if_pos (Or.inl c26)]
            exact ⟨show (-1000000000 : Int32) - nI 2 = -1000000002 from by decide, hC.er 2⟩
          · skip
            refine j_aload_n C 0 dX11_move_29 rfl ?_
            refine j_get C (v := .ref (q 34)) 0 7 rfl rfl inlC11 (by decide) kf11_29 rfl dX11_move_30 ?_
            refine j_iload_n C 3 dX11_move_33 rfl ?_
            refine j_ialdN C 34 0 rfl rfl 3 rfl (by omega) (by decide) dX11_move_34 ?_
            refine j_v (bo 3) (hC.shb 3 (by omega)) ?_
            refine j_if_ne C 44 dX11_move_35 (by decide) (fun c35 => ?_) (fun c35 => ?_)
            · skip
              refine j_aload_n C 0 dX11_move_44 rfl ?_
              refine j_get C (v := .ref (q 34)) 0 7 rfl rfl inlC11 (by decide) kf11_29 rfl dX11_move_45 ?_
              refine j_iload_n C 1 dX11_move_48 rfl ?_
              refine j_ialdN C 34 0 rfl rfl 1 rfl (by omega) (by decide) dX11_move_49 ?_
              refine j_v (bo 1) (hC.shb 1 (by omega)) ?_
              refine j_aload_n C 0 dX11_move_50 rfl ?_
              refine j_get C (v := .ref (q 34)) 0 7 rfl rfl inlC11 (by decide) kf11_29 rfl dX11_move_51 ?_
              refine j_iload_n C 3 dX11_move_54 rfl ?_
              refine j_ialdN C 34 0 rfl rfl 3 rfl (by omega) (by decide) dX11_move_55 ?_
              refine j_v (bo 3) (hC.shb 3 (by omega)) ?_
              refine j_icmp_eq C 65 dX11_move_56 (by decide) (fun c56 => ?_) (fun c56 => ?_)
              · skip
                refine j_aload_n C 0 dX11_move_65 rfl ?_
                refine j_get C (v := .ref (q 33)) 0 6 rfl rfl inlC11 (by decide) kf11_25 rfl dX11_move_66 ?_
                refine j_iload_n C 1 dX11_move_69 rfl ?_
                refine j_aaldN C 33 2 rfl rfl 1 rfl (by decide) (by decide) rfl dX11_move_70 ?_
                refine j_iload_n C 2 dX11_move_71 rfl ?_
                refine j_iload C 5 dX11_move_72 rfl ?_
                refine j_callVN (As := [.int i, .int n]) (rest := []) C vn11_290 (h_hasPart_11) ⟨22, 8, _, _, rfl, rfl, rfl⟩ rfl (Nat.le_of_ble_eq_true rfl) dX11_move_74 (by decide) ?_
                rintro _ _ ⟨rfl, rfl⟩
                refine j_v (bI (¬ n < 0 ∧ ¬ i < 0 ∧ ¬ nI za < i ∧ ¬ nI za - i < n)) (by rw [hsa]) ?_
                refine j_if_eq C 96 dX11_move_77 (by decide) (fun c77 => ?_) (fun c77 => ?_)
                · replace c77 := bI_f c77
                  refine j_aload_n C 0 dX11_move_96 rfl ?_
                  refine j_iconst C (v := (nI 1)) dX11_move_97 (by decide) ?_
                  refine j_callV (As := [.int (nI 1)]) (rest := []) C vw11_90 (h_error 1 (by decide)) ⟨0, 11, _, _, rfl, rfl, rfl⟩ rfl (Nat.le_of_ble_eq_true rfl) dX11_move_98 (by decide) ?_
                  rintro _ _ ⟨rfl, rfl⟩
                  refine j_iret C dX11_move_101 ?_
                  unfold sp_move
                  rw [if_pos ⟨show inn (nI 1) 0 3 from c4, show inn (nI 3) 0 3 from c11⟩, tN_nI (n := 1) (by decide), tN_nI (n := 3) (by decide)]
                  rw [if_neg (fun h => h.elim c26 c35)]
                  rw [if_neg (fun h => h c56)]
                  rw [esa, esb]
                  rw [if_pos (Classical.byContradiction (fun h => c77 ⟨fun g => h (Or.inl g), fun g => h (Or.inr (Or.inl g)), (part_iff hza (fun g => h (Or.inl g)) (fun g => h (Or.inr (Or.inl g)))).2 (fun g => h (Or.inr (Or.inr (Or.inr (Or.inl g)))))⟩))]
                  exact ⟨show (-1000000000 : Int32) - nI 1 = -1000000001 from by decide, hC.er 1⟩
                · replace c77 := bI_t c77
                  refine j_aload_n C 0 dX11_move_80 rfl ?_
                  refine j_get C (v := .ref (q 33)) 0 6 rfl rfl inlC11 (by decide) kf11_25 rfl dX11_move_81 ?_
                  refine j_iload_n C 3 dX11_move_84 rfl ?_
                  refine j_aaldN C 33 2 rfl rfl 3 rfl (by decide) (by decide) rfl dX11_move_85 ?_
                  refine j_iload C 4 dX11_move_86 rfl ?_
                  refine j_iload C 5 dX11_move_88 rfl ?_
                  refine j_callVN (As := [.int j, .int n]) (rest := []) C vn11_290 (h_hasPart_13) ⟨24, 8, _, _, rfl, rfl, rfl⟩ rfl (Nat.le_of_ble_eq_true rfl) dX11_move_90 (by decide) ?_
                  rintro _ _ ⟨rfl, rfl⟩
                  refine j_v (bI (¬ n < 0 ∧ ¬ j < 0 ∧ ¬ nI zb < j ∧ ¬ nI zb - j < n)) (by rw [hsb]) ?_
                  refine j_if_ne C 102 dX11_move_93 (by decide) (fun c93 => ?_) (fun c93 => ?_)
                  · replace c93 := bI_t c93
                    obtain ⟨ii, nn, rfl, rfl, hin⟩ := part_nat hza c77
                    obtain ⟨jj, n2, rfl, en2, hjn⟩ := part_nat hzb c93
                    have en3 : nn = n2 := nI_inj40 en2 (by omega) (by omega)
                    subst en3
                    refine j_aload_n C 0 dX11_move_102 rfl ?_
                    refine j_get C (v := .ref (q 33)) 0 6 rfl rfl inlC11 (by decide) kf11_25 rfl dX11_move_103 ?_
                    refine j_iload_n C 1 dX11_move_106 rfl ?_
                    refine j_aaldN C 33 2 rfl rfl 1 rfl (by decide) (by decide) rfl dX11_move_107 ?_
                    refine j_getN C (v := .ref (q 83)) 22 0 rfl rfl inlC8 (by decide) kf11_281 rfl dX11_move_108 ?_
                    refine j_iload_n C 2 dX11_move_111 rfl ?_
                    refine j_aload_n C 0 dX11_move_112 rfl ?_
                    refine j_get C (v := .ref (q 33)) 0 6 rfl rfl inlC11 (by decide) kf11_25 rfl dX11_move_113 ?_
                    refine j_iload_n C 3 dX11_move_116 rfl ?_
                    refine j_aaldN C 33 2 rfl rfl 3 rfl (by decide) (by decide) rfl dX11_move_117 ?_
                    refine j_getN C (v := .ref (q 85)) 24 0 rfl rfl inlC8 (by decide) kf11_281 rfl dX11_move_118 ?_
                    refine j_iload C 4 dX11_move_121 rfl ?_
                    refine j_iload C 5 dX11_move_123 rfl ?_
                    refine j_copy (rest := []) C 83 85 0 ac11_293 rfl rfl rfl ii jj nn (by omega) (by omega) (by decide) (by decide) (by decide) (Nat.le_of_ble_eq_true rfl) dX11_move_125 (S, va_up X 85 (va_cpy (X 83) (X 85) ii jj nn), P) rfl ?_
                    refine j_iload C 5 dX11_move_128 rfl ?_
                    refine j_iret C dX11_move_130 ?_
                    unfold sp_move
                    rw [if_pos ⟨show inn (nI 1) 0 3 from c4, show inn (nI 3) 0 3 from c11⟩, tN_nI (n := 1) (by decide), tN_nI (n := 3) (by decide)]
                    rw [if_neg (fun h => h.elim c26 c35)]
                    rw [if_neg (fun h => h c56)]
                    rw [esa, esb]
                    rw [if_neg (fun h => h.elim c77.1 (fun h => h.elim c77.2.1 (fun h => h.elim c93.2.1 (fun h => h.elim (fun g => (part_iff hza c77.1 c77.2.1).1 c77.2.2 g) (fun g => (part_iff hzb c93.1 c93.2.1).1 c93.2.2 g))))), tN_nI (n := ii) (by omega), tN_nI (n := jj) (by omega), tN_nI (n := nn) (by omega)]
                    exact ⟨rfl, hC.mov hSh 1 3 (by omega) (by omega) ii jj nn za zb esa hza (by omega) esb hzb (by omega)⟩
                  · replace c93 := bI_f c93
                    refine j_aload_n C 0 dX11_move_96 rfl ?_
                    refine j_iconst C (v := (nI 1)) dX11_move_97 (by decide) ?_
                    refine j_callV (As := [.int (nI 1)]) (rest := []) C vw11_90 (h_error 1 (by decide)) ⟨0, 11, _, _, rfl, rfl, rfl⟩ rfl (Nat.le_of_ble_eq_true rfl) dX11_move_98 (by decide) ?_
                    rintro _ _ ⟨rfl, rfl⟩
                    refine j_iret C dX11_move_101 ?_
                    unfold sp_move
                    rw [if_pos ⟨show inn (nI 1) 0 3 from c4, show inn (nI 3) 0 3 from c11⟩, tN_nI (n := 1) (by decide), tN_nI (n := 3) (by decide)]
                    rw [if_neg (fun h => h.elim c26 c35)]
                    rw [if_neg (fun h => h c56)]
                    rw [esa, esb]
                    rw [if_pos (Classical.byContradiction (fun h => c93 ⟨fun g => h (Or.inl g), fun g => h (Or.inr (Or.inr (Or.inl g))), (part_iff hzb (fun g => h (Or.inl g)) (fun g => h (Or.inr (Or.inr (Or.inl g))))).2 (fun g => h (Or.inr (Or.inr (Or.inr (Or.inr g)))))⟩))]
                    exact ⟨show (-1000000000 : Int32) - nI 1 = -1000000001 from by decide, hC.er 1⟩
              · skip
                refine j_aload_n C 0 dX11_move_59 rfl ?_
                refine j_iconst C (v := (nI 5)) dX11_move_60 (by decide) ?_
                refine j_callV (As := [.int (nI 5)]) (rest := []) C vw11_90 (h_error 5 (by decide)) ⟨0, 11, _, _, rfl, rfl, rfl⟩ rfl (Nat.le_of_ble_eq_true rfl) dX11_move_61 (by decide) ?_
                rintro _ _ ⟨rfl, rfl⟩
                refine j_iret C dX11_move_64 ?_
                unfold sp_move
                rw [if_pos ⟨show inn (nI 1) 0 3 from c4, show inn (nI 3) 0 3 from c11⟩, tN_nI (n := 1) (by decide), tN_nI (n := 3) (by decide)]
                rw [if_neg (fun h => h.elim c26 c35)]
                rw [if_pos c56]
                exact ⟨show (-1000000000 : Int32) - nI 5 = -1000000005 from by decide, hC.er 5⟩
            · skip
              refine j_aload_n C 0 dX11_move_38 rfl ?_
              refine j_iconst C (v := (nI 2)) dX11_move_39 (by decide) ?_
              refine j_callV (As := [.int (nI 2)]) (rest := []) C vw11_90 (h_error 2 (by decide)) ⟨0, 11, _, _, rfl, rfl, rfl⟩ rfl (Nat.le_of_ble_eq_true rfl) dX11_move_40 (by decide) ?_
              rintro _ _ ⟨rfl, rfl⟩
              refine j_iret C dX11_move_43 ?_
              unfold sp_move
              rw [if_pos ⟨show inn (nI 1) 0 3 from c4, show inn (nI 3) 0 3 from c11⟩, tN_nI (n := 1) (by decide), tN_nI (n := 3) (by decide)]
              rw [if_pos (Or.inr c35)]
              exact ⟨show (-1000000000 : Int32) - nI 2 = -1000000002 from by decide, hC.er 2⟩
      · obtain ⟨-, za, hza, esa⟩ := hSh 2 (by omega)
        have hsa : S 31 = nI za := (hC.shs 2 (by omega)).trans esa
        rcases (show tn = 0 ∨ tn = 1 ∨ tn = 2 ∨ tn = 3 by omega) with rfl | rfl | rfl | rfl
        · obtain ⟨-, zb, hzb, esb⟩ := hSh 0 (by omega)
          have hsb : S 29 = nI zb := (hC.shs 0 (by omega)).trans esb
          refine j_aload_n C 0 dX11_move_20 rfl ?_
          refine j_get C (v := .ref (q 34)) 0 7 rfl rfl inlC11 (by decide) kf11_29 rfl dX11_move_21 ?_
          refine j_iload_n C 1 dX11_move_24 rfl ?_
          refine j_ialdN C 34 0 rfl rfl 2 rfl (by omega) (by decide) dX11_move_25 ?_
          refine j_v (bo 2) (hC.shb 2 (by omega)) ?_
          refine j_if_eq C 38 dX11_move_26 (by decide) (fun c26 => ?_) (fun c26 => ?_)
          · skip
            refine j_aload_n C 0 dX11_move_38 rfl ?_
            refine j_iconst C (v := (nI 2)) dX11_move_39 (by decide) ?_
            refine j_callV (As := [.int (nI 2)]) (rest := []) C vw11_90 (h_error 2 (by decide)) ⟨0, 11, _, _, rfl, rfl, rfl⟩ rfl (Nat.le_of_ble_eq_true rfl) dX11_move_40 (by decide) ?_
            rintro _ _ ⟨rfl, rfl⟩
            refine j_iret C dX11_move_43 ?_
            unfold sp_move
            rw [if_pos ⟨show inn (nI 2) 0 3 from c4, show inn (nI 0) 0 3 from c11⟩, tN_nI (n := 2) (by decide), tN_nI (n := 0) (by decide)]
            rw [if_pos (Or.inl c26)]
            exact ⟨show (-1000000000 : Int32) - nI 2 = -1000000002 from by decide, hC.er 2⟩
          · skip
            refine j_aload_n C 0 dX11_move_29 rfl ?_
            refine j_get C (v := .ref (q 34)) 0 7 rfl rfl inlC11 (by decide) kf11_29 rfl dX11_move_30 ?_
            refine j_iload_n C 3 dX11_move_33 rfl ?_
            refine j_ialdN C 34 0 rfl rfl 0 rfl (by omega) (by decide) dX11_move_34 ?_
            refine j_v (bo 0) (hC.shb 0 (by omega)) ?_
            refine j_if_ne C 44 dX11_move_35 (by decide) (fun c35 => ?_) (fun c35 => ?_)
            · skip
              refine j_aload_n C 0 dX11_move_44 rfl ?_
              refine j_get C (v := .ref (q 34)) 0 7 rfl rfl inlC11 (by decide) kf11_29 rfl dX11_move_45 ?_
              refine j_iload_n C 1 dX11_move_48 rfl ?_
              refine j_ialdN C 34 0 rfl rfl 2 rfl (by omega) (by decide) dX11_move_49 ?_
              refine j_v (bo 2) (hC.shb 2 (by omega)) ?_
              refine j_aload_n C 0 dX11_move_50 rfl ?_
              refine j_get C (v := .ref (q 34)) 0 7 rfl rfl inlC11 (by decide) kf11_29 rfl dX11_move_51 ?_
              refine j_iload_n C 3 dX11_move_54 rfl ?_
              refine j_ialdN C 34 0 rfl rfl 0 rfl (by omega) (by decide) dX11_move_55 ?_
              refine j_v (bo 0) (hC.shb 0 (by omega)) ?_
              refine j_icmp_eq C 65 dX11_move_56 (by decide) (fun c56 => ?_) (fun c56 => ?_)
              · skip
                refine j_aload_n C 0 dX11_move_65 rfl ?_
                refine j_get C (v := .ref (q 33)) 0 6 rfl rfl inlC11 (by decide) kf11_25 rfl dX11_move_66 ?_
                refine j_iload_n C 1 dX11_move_69 rfl ?_
                refine j_aaldN C 33 2 rfl rfl 2 rfl (by decide) (by decide) rfl dX11_move_70 ?_
                refine j_iload_n C 2 dX11_move_71 rfl ?_
                refine j_iload C 5 dX11_move_72 rfl ?_
                refine j_callVN (As := [.int i, .int n]) (rest := []) C vn11_290 (h_hasPart_12) ⟨23, 8, _, _, rfl, rfl, rfl⟩ rfl (Nat.le_of_ble_eq_true rfl) dX11_move_74 (by decide) ?_
                rintro _ _ ⟨rfl, rfl⟩
                refine j_v (bI (¬ n < 0 ∧ ¬ i < 0 ∧ ¬ nI za < i ∧ ¬ nI za - i < n)) (by rw [hsa]) ?_
                refine j_if_eq C 96 dX11_move_77 (by decide) (fun c77 => ?_) (fun c77 => ?_)
                · replace c77 := bI_f c77
                  refine j_aload_n C 0 dX11_move_96 rfl ?_
                  refine j_iconst C (v := (nI 1)) dX11_move_97 (by decide) ?_
                  refine j_callV (As := [.int (nI 1)]) (rest := []) C vw11_90 (h_error 1 (by decide)) ⟨0, 11, _, _, rfl, rfl, rfl⟩ rfl (Nat.le_of_ble_eq_true rfl) dX11_move_98 (by decide) ?_
                  rintro _ _ ⟨rfl, rfl⟩
                  refine j_iret C dX11_move_101 ?_
                  unfold sp_move
                  rw [if_pos ⟨show inn (nI 2) 0 3 from c4, show inn (nI 0) 0 3 from c11⟩, tN_nI (n := 2) (by decide), tN_nI (n := 0) (by decide)]
                  rw [if_neg (fun h => h.elim c26 c35)]
                  rw [if_neg (fun h => h c56)]
                  rw [esa, esb]
                  rw [if_pos (Classical.byContradiction (fun h => c77 ⟨fun g => h (Or.inl g), fun g => h (Or.inr (Or.inl g)), (part_iff hza (fun g => h (Or.inl g)) (fun g => h (Or.inr (Or.inl g)))).2 (fun g => h (Or.inr (Or.inr (Or.inr (Or.inl g)))))⟩))]
                  exact ⟨show (-1000000000 : Int32) - nI 1 = -1000000001 from by decide, hC.er 1⟩
                · replace c77 := bI_t c77
                  refine j_aload_n C 0 dX11_move_80 rfl ?_
                  refine j_get C (v := .ref (q 33)) 0 6 rfl rfl inlC11 (by decide) kf11_25 rfl dX11_move_81 ?_
                  refine j_iload_n C 3 dX11_move_84 rfl ?_
                  refine j_aaldN C 33 2 rfl rfl 0 rfl (by decide) (by decide) rfl dX11_move_85 ?_
                  refine j_iload C 4 dX11_move_86 rfl ?_
                  refine j_iload C 5 dX11_move_88 rfl ?_
                  refine j_callVN (As := [.int j, .int n]) (rest := []) C vn11_290 (h_hasPart_10) ⟨21, 8, _, _, rfl, rfl, rfl⟩ rfl (Nat.le_of_ble_eq_true rfl) dX11_move_90 (by decide) ?_
                  rintro _ _ ⟨rfl, rfl⟩
                  refine j_v (bI (¬ n < 0 ∧ ¬ j < 0 ∧ ¬ nI zb < j ∧ ¬ nI zb - j < n)) (by rw [hsb]) ?_
                  refine j_if_ne C 102 dX11_move_93 (by decide) (fun c93 => ?_) (fun c93 => ?_)
                  · replace c93 := bI_t c93
                    obtain ⟨ii, nn, rfl, rfl, hin⟩ := part_nat hza c77
                    obtain ⟨jj, n2, rfl, en2, hjn⟩ := part_nat hzb c93
                    have en3 : nn = n2 := nI_inj40 en2 (by omega) (by omega)
                    subst en3
                    refine j_aload_n C 0 dX11_move_102 rfl ?_
                    refine j_get C (v := .ref (q 33)) 0 6 rfl rfl inlC11 (by decide) kf11_25 rfl dX11_move_103 ?_
                    refine j_iload_n C 1 dX11_move_106 rfl ?_
                    refine j_aaldN C 33 2 rfl rfl 2 rfl (by decide) (by decide) rfl dX11_move_107 ?_
                    refine j_getN C (v := .ref (q 84)) 23 0 rfl rfl inlC8 (by decide) kf11_281 rfl dX11_move_108 ?_
                    refine j_iload_n C 2 dX11_move_111 rfl ?_
                    refine j_aload_n C 0 dX11_move_112 rfl ?_
                    refine j_get C (v := .ref (q 33)) 0 6 rfl rfl inlC11 (by decide) kf11_25 rfl dX11_move_113 ?_
                    refine j_iload_n C 3 dX11_move_116 rfl ?_
                    refine j_aaldN C 33 2 rfl rfl 0 rfl (by decide) (by decide) rfl dX11_move_117 ?_
                    refine j_getN C (v := .ref (q 82)) 21 0 rfl rfl inlC8 (by decide) kf11_281 rfl dX11_move_118 ?_
                    refine j_iload C 4 dX11_move_121 rfl ?_
                    refine j_iload C 5 dX11_move_123 rfl ?_
                    refine j_copy (rest := []) C 84 82 0 ac11_293 rfl rfl rfl ii jj nn (by omega) (by omega) (by decide) (by decide) (by decide) (Nat.le_of_ble_eq_true rfl) dX11_move_125 (S, va_up X 82 (va_cpy (X 84) (X 82) ii jj nn), P) rfl ?_
                    refine j_iload C 5 dX11_move_128 rfl ?_
                    refine j_iret C dX11_move_130 ?_
                    unfold sp_move
                    rw [if_pos ⟨show inn (nI 2) 0 3 from c4, show inn (nI 0) 0 3 from c11⟩, tN_nI (n := 2) (by decide), tN_nI (n := 0) (by decide)]
                    rw [if_neg (fun h => h.elim c26 c35)]
                    rw [if_neg (fun h => h c56)]
                    rw [esa, esb]
                    rw [if_neg (fun h => h.elim c77.1 (fun h => h.elim c77.2.1 (fun h => h.elim c93.2.1 (fun h => h.elim (fun g => (part_iff hza c77.1 c77.2.1).1 c77.2.2 g) (fun g => (part_iff hzb c93.1 c93.2.1).1 c93.2.2 g))))), tN_nI (n := ii) (by omega), tN_nI (n := jj) (by omega), tN_nI (n := nn) (by omega)]
                    exact ⟨rfl, hC.mov hSh 2 0 (by omega) (by omega) ii jj nn za zb esa hza (by omega) esb hzb (by omega)⟩
                  · replace c93 := bI_f c93
                    refine j_aload_n C 0 dX11_move_96 rfl ?_
                    refine j_iconst C (v := (nI 1)) dX11_move_97 (by decide) ?_
                    refine j_callV (As := [.int (nI 1)]) (rest := []) C vw11_90 (h_error 1 (by decide)) ⟨0, 11, _, _, rfl, rfl, rfl⟩ rfl (Nat.le_of_ble_eq_true rfl) dX11_move_98 (by decide) ?_
                    rintro _ _ ⟨rfl, rfl⟩
                    refine j_iret C dX11_move_101 ?_
                    unfold sp_move
                    rw [if_pos ⟨show inn (nI 2) 0 3 from c4, show inn (nI 0) 0 3 from c11⟩, tN_nI (n := 2) (by decide), tN_nI (n := 0) (by decide)]
                    rw [if_neg (fun h => h.elim c26 c35)]
                    rw [if_neg (fun h => h c56)]
                    rw [esa, esb]
                    rw [if_pos (Classical.byContradiction (fun h => c93 ⟨fun g => h (Or.inl g), fun g => h (Or.inr (Or.inr (Or.inl g))), (part_iff hzb (fun g => h (Or.inl g)) (fun g => h (Or.inr (Or.inr (Or.inl g))))).2 (fun g => h (Or.inr (Or.inr (Or.inr (Or.inr g)))))⟩))]
                    exact ⟨show (-1000000000 : Int32) - nI 1 = -1000000001 from by decide, hC.er 1⟩
              · skip
                refine j_aload_n C 0 dX11_move_59 rfl ?_
                refine j_iconst C (v := (nI 5)) dX11_move_60 (by decide) ?_
                refine j_callV (As := [.int (nI 5)]) (rest := []) C vw11_90 (h_error 5 (by decide)) ⟨0, 11, _, _, rfl, rfl, rfl⟩ rfl (Nat.le_of_ble_eq_true rfl) dX11_move_61 (by decide) ?_
                rintro _ _ ⟨rfl, rfl⟩
                refine j_iret C dX11_move_64 ?_
                unfold sp_move
                rw [if_pos ⟨show inn (nI 2) 0 3 from c4, show inn (nI 0) 0 3 from c11⟩, tN_nI (n := 2) (by decide), tN_nI (n := 0) (by decide)]
                rw [if_neg (fun h => h.elim c26 c35)]
                rw [if_pos c56]
                exact ⟨show (-1000000000 : Int32) - nI 5 = -1000000005 from by decide, hC.er 5⟩
            · skip
              refine j_aload_n C 0 dX11_move_38 rfl ?_
              refine j_iconst C (v := (nI 2)) dX11_move_39 (by decide) ?_
              refine j_callV (As := [.int (nI 2)]) (rest := []) C vw11_90 (h_error 2 (by decide)) ⟨0, 11, _, _, rfl, rfl, rfl⟩ rfl (Nat.le_of_ble_eq_true rfl) dX11_move_40 (by decide) ?_
              rintro _ _ ⟨rfl, rfl⟩
              refine j_iret C dX11_move_43 ?_
              unfold sp_move
              rw [if_pos ⟨show inn (nI 2) 0 3 from c4, show inn (nI 0) 0 3 from c11⟩, tN_nI (n := 2) (by decide), tN_nI (n := 0) (by decide)]
              rw [if_pos (Or.inr c35)]
              exact ⟨show (-1000000000 : Int32) - nI 2 = -1000000002 from by decide, hC.er 2⟩
        · obtain ⟨-, zb, hzb, esb⟩ := hSh 1 (by omega)
          have hsb : S 30 = nI zb := (hC.shs 1 (by omega)).trans esb
          refine j_aload_n C 0 dX11_move_20 rfl ?_
          refine j_get C (v := .ref (q 34)) 0 7 rfl rfl inlC11 (by decide) kf11_29 rfl dX11_move_21 ?_
          refine j_iload_n C 1 dX11_move_24 rfl ?_
          refine j_ialdN C 34 0 rfl rfl 2 rfl (by omega) (by decide) dX11_move_25 ?_
          refine j_v (bo 2) (hC.shb 2 (by omega)) ?_
          refine j_if_eq C 38 dX11_move_26 (by decide) (fun c26 => ?_) (fun c26 => ?_)
          · skip
            refine j_aload_n C 0 dX11_move_38 rfl ?_
            refine j_iconst C (v := (nI 2)) dX11_move_39 (by decide) ?_
            refine j_callV (As := [.int (nI 2)]) (rest := []) C vw11_90 (h_error 2 (by decide)) ⟨0, 11, _, _, rfl, rfl, rfl⟩ rfl (Nat.le_of_ble_eq_true rfl) dX11_move_40 (by decide) ?_
            rintro _ _ ⟨rfl, rfl⟩
            refine j_iret C dX11_move_43 ?_
            unfold sp_move
            rw [if_pos ⟨show inn (nI 2) 0 3 from c4, show inn (nI 1) 0 3 from c11⟩, tN_nI (n := 2) (by decide), tN_nI (n := 1) (by decide)]
            rw [if_pos (Or.inl c26)]
            exact ⟨show (-1000000000 : Int32) - nI 2 = -1000000002 from by decide, hC.er 2⟩
          · skip
            refine j_aload_n C 0 dX11_move_29 rfl ?_
            refine j_get C (v := .ref (q 34)) 0 7 rfl rfl inlC11 (by decide) kf11_29 rfl dX11_move_30 ?_
            refine j_iload_n C 3 dX11_move_33 rfl ?_
            refine j_ialdN C 34 0 rfl rfl 1 rfl (by omega) (by decide) dX11_move_34 ?_
            refine j_v (bo 1) (hC.shb 1 (by omega)) ?_
            refine j_if_ne C 44 dX11_move_35 (by decide) (fun c35 => ?_) (fun c35 => ?_)
            · skip
              refine j_aload_n C 0 dX11_move_44 rfl ?_
              refine j_get C (v := .ref (q 34)) 0 7 rfl rfl inlC11 (by decide) kf11_29 rfl dX11_move_45 ?_
              refine j_iload_n C 1 dX11_move_48 rfl ?_
              refine j_ialdN C 34 0 rfl rfl 2 rfl (by omega) (by decide) dX11_move_49 ?_
              refine j_v (bo 2) (hC.shb 2 (by omega)) ?_
              refine j_aload_n C 0 dX11_move_50 rfl ?_
              refine j_get C (v := .ref (q 34)) 0 7 rfl rfl inlC11 (by decide) kf11_29 rfl dX11_move_51 ?_
              refine j_iload_n C 3 dX11_move_54 rfl ?_
              refine j_ialdN C 34 0 rfl rfl 1 rfl (by omega) (by decide) dX11_move_55 ?_
              refine j_v (bo 1) (hC.shb 1 (by omega)) ?_
              refine j_icmp_eq C 65 dX11_move_56 (by decide) (fun c56 => ?_) (fun c56 => ?_)
              · skip
                refine j_aload_n C 0 dX11_move_65 rfl ?_
                refine j_get C (v := .ref (q 33)) 0 6 rfl rfl inlC11 (by decide) kf11_25 rfl dX11_move_66 ?_
                refine j_iload_n C 1 dX11_move_69 rfl ?_
                refine j_aaldN C 33 2 rfl rfl 2 rfl (by decide) (by decide) rfl dX11_move_70 ?_
                refine j_iload_n C 2 dX11_move_71 rfl ?_
                refine j_iload C 5 dX11_move_72 rfl ?_
                refine j_callVN (As := [.int i, .int n]) (rest := []) C vn11_290 (h_hasPart_12) ⟨23, 8, _, _, rfl, rfl, rfl⟩ rfl (Nat.le_of_ble_eq_true rfl) dX11_move_74 (by decide) ?_
                rintro _ _ ⟨rfl, rfl⟩
                refine j_v (bI (¬ n < 0 ∧ ¬ i < 0 ∧ ¬ nI za < i ∧ ¬ nI za - i < n)) (by rw [hsa]) ?_
                refine j_if_eq C 96 dX11_move_77 (by decide) (fun c77 => ?_) (fun c77 => ?_)
                · replace c77 := bI_f c77
                  refine j_aload_n C 0 dX11_move_96 rfl ?_
                  refine j_iconst C (v := (nI 1)) dX11_move_97 (by decide) ?_
                  refine j_callV (As := [.int (nI 1)]) (rest := []) C vw11_90 (h_error 1 (by decide)) ⟨0, 11, _, _, rfl, rfl, rfl⟩ rfl (Nat.le_of_ble_eq_true rfl) dX11_move_98 (by decide) ?_
                  rintro _ _ ⟨rfl, rfl⟩
                  refine j_iret C dX11_move_101 ?_
                  unfold sp_move
                  rw [if_pos ⟨show inn (nI 2) 0 3 from c4, show inn (nI 1) 0 3 from c11⟩, tN_nI (n := 2) (by decide), tN_nI (n := 1) (by decide)]
                  rw [if_neg (fun h => h.elim c26 c35)]
                  rw [if_neg (fun h => h c56)]
                  rw [esa, esb]
                  rw [if_pos (Classical.byContradiction (fun h => c77 ⟨fun g => h (Or.inl g), fun g => h (Or.inr (Or.inl g)), (part_iff hza (fun g => h (Or.inl g)) (fun g => h (Or.inr (Or.inl g)))).2 (fun g => h (Or.inr (Or.inr (Or.inr (Or.inl g)))))⟩))]
                  exact ⟨show (-1000000000 : Int32) - nI 1 = -1000000001 from by decide, hC.er 1⟩
                · replace c77 := bI_t c77
                  refine j_aload_n C 0 dX11_move_80 rfl ?_
                  refine j_get C (v := .ref (q 33)) 0 6 rfl rfl inlC11 (by decide) kf11_25 rfl dX11_move_81 ?_
                  refine j_iload_n C 3 dX11_move_84 rfl ?_
                  refine j_aaldN C 33 2 rfl rfl 1 rfl (by decide) (by decide) rfl dX11_move_85 ?_
                  refine j_iload C 4 dX11_move_86 rfl ?_
                  refine j_iload C 5 dX11_move_88 rfl ?_
                  refine j_callVN (As := [.int j, .int n]) (rest := []) C vn11_290 (h_hasPart_11) ⟨22, 8, _, _, rfl, rfl, rfl⟩ rfl (Nat.le_of_ble_eq_true rfl) dX11_move_90 (by decide) ?_
                  rintro _ _ ⟨rfl, rfl⟩
                  refine j_v (bI (¬ n < 0 ∧ ¬ j < 0 ∧ ¬ nI zb < j ∧ ¬ nI zb - j < n)) (by rw [hsb]) ?_
                  refine j_if_ne C 102 dX11_move_93 (by decide) (fun c93 => ?_) (fun c93 => ?_)
                  · replace c93 := bI_t c93
                    obtain ⟨ii, nn, rfl, rfl, hin⟩ := part_nat hza c77
                    obtain ⟨jj, n2, rfl, en2, hjn⟩ := part_nat hzb c93
                    have en3 : nn = n2 := nI_inj40 en2 (by omega) (by omega)
                    subst en3
                    refine j_aload_n C 0 dX11_move_102 rfl ?_
                    refine j_get C (v := .ref (q 33)) 0 6 rfl rfl inlC11 (by decide) kf11_25 rfl dX11_move_103 ?_
                    refine j_iload_n C 1 dX11_move_106 rfl ?_
                    refine j_aaldN C 33 2 rfl rfl 2 rfl (by decide) (by decide) rfl dX11_move_107 ?_
                    refine j_getN C (v := .ref (q 84)) 23 0 rfl rfl inlC8 (by decide) kf11_281 rfl dX11_move_108 ?_
                    refine j_iload_n C 2 dX11_move_111 rfl ?_
                    refine j_aload_n C 0 dX11_move_112 rfl ?_
                    refine j_get C (v := .ref (q 33)) 0 6 rfl rfl inlC11 (by decide) kf11_25 rfl dX11_move_113 ?_
                    refine j_iload_n C 3 dX11_move_116 rfl ?_
                    refine j_aaldN C 33 2 rfl rfl 1 rfl (by decide) (by decide) rfl dX11_move_117 ?_
                    refine j_getN C (v := .ref (q 83)) 22 0 rfl rfl inlC8 (by decide) kf11_281 rfl dX11_move_118 ?_
                    refine j_iload C 4 dX11_move_121 rfl ?_
                    refine j_iload C 5 dX11_move_123 rfl ?_
                    refine j_copy (rest := []) C 84 83 0 ac11_293 rfl rfl rfl ii jj nn (by omega) (by omega) (by decide) (by decide) (by decide) (Nat.le_of_ble_eq_true rfl) dX11_move_125 (S, va_up X 83 (va_cpy (X 84) (X 83) ii jj nn), P) rfl ?_
                    refine j_iload C 5 dX11_move_128 rfl ?_
                    refine j_iret C dX11_move_130 ?_
                    unfold sp_move
                    rw [if_pos ⟨show inn (nI 2) 0 3 from c4, show inn (nI 1) 0 3 from c11⟩, tN_nI (n := 2) (by decide), tN_nI (n := 1) (by decide)]
                    rw [if_neg (fun h => h.elim c26 c35)]
                    rw [if_neg (fun h => h c56)]
                    rw [esa, esb]
                    rw [if_neg (fun h => h.elim c77.1 (fun h => h.elim c77.2.1 (fun h => h.elim c93.2.1 (fun h => h.elim (fun g => (part_iff hza c77.1 c77.2.1).1 c77.2.2 g) (fun g => (part_iff hzb c93.1 c93.2.1).1 c93.2.2 g))))), tN_nI (n := ii) (by omega), tN_nI (n := jj) (by omega), tN_nI (n := nn) (by omega)]
                    exact ⟨rfl, hC.mov hSh 2 1 (by omega) (by omega) ii jj nn za zb esa hza (by omega) esb hzb (by omega)⟩
                  · replace c93 := bI_f c93
                    refine j_aload_n C 0 dX11_move_96 rfl ?_
                    refine j_iconst C (v := (nI 1)) dX11_move_97 (by decide) ?_
                    refine j_callV (As := [.int (nI 1)]) (rest := []) C vw11_90 (h_error 1 (by decide)) ⟨0, 11, _, _, rfl, rfl, rfl⟩ rfl (Nat.le_of_ble_eq_true rfl) dX11_move_98 (by decide) ?_
                    rintro _ _ ⟨rfl, rfl⟩
                    refine j_iret C dX11_move_101 ?_
                    unfold sp_move
                    rw [if_pos ⟨show inn (nI 2) 0 3 from c4, show inn (nI 1) 0 3 from c11⟩, tN_nI (n := 2) (by decide), tN_nI (n := 1) (by decide)]
                    rw [if_neg (fun h => h.elim c26 c35)]
                    rw [if_neg (fun h => h c56)]
                    rw [esa, esb]
                    rw [if_pos (Classical.byContradiction (fun h => c93 ⟨fun g => h (Or.inl g), fun g => h (Or.inr (Or.inr (Or.inl g))), (part_iff hzb (fun g => h (Or.inl g)) (fun g => h (Or.inr (Or.inr (Or.inl g))))).2 (fun g => h (Or.inr (Or.inr (Or.inr (Or.inr g)))))⟩))]
                    exact ⟨show (-1000000000 : Int32) - nI 1 = -1000000001 from by decide, hC.er 1⟩
              · skip
                refine j_aload_n C 0 dX11_move_59 rfl ?_
                refine j_iconst C (v := (nI 5)) dX11_move_60 (by decide) ?_
                refine j_callV (As := [.int (nI 5)]) (rest := []) C vw11_90 (h_error 5 (by decide)) ⟨0, 11, _, _, rfl, rfl, rfl⟩ rfl (Nat.le_of_ble_eq_true rfl) dX11_move_61 (by decide) ?_
                rintro _ _ ⟨rfl, rfl⟩
                refine j_iret C dX11_move_64 ?_
                unfold sp_move
                rw [if_pos ⟨show inn (nI 2) 0 3 from c4, show inn (nI 1) 0 3 from c11⟩, tN_nI (n := 2) (by decide), tN_nI (n := 1) (by decide)]
                rw [if_neg (fun h => h.elim c26 c35)]
                rw [if_pos c56]
                exact ⟨show (-1000000000 : Int32) - nI 5 = -1000000005 from by decide, hC.er 5⟩
            · skip
              refine j_aload_n C 0 dX11_move_38 rfl ?_
              refine j_iconst C (v := (nI 2)) dX11_move_39 (by decide) ?_
              refine j_callV (As := [.int (nI 2)]) (rest := []) C vw11_90 (h_error 2 (by decide)) ⟨0, 11, _, _, rfl, rfl, rfl⟩ rfl (Nat.le_of_ble_eq_true rfl) dX11_move_40 (by decide) ?_
              rintro _ _ ⟨rfl, rfl⟩
              refine j_iret C dX11_move_43 ?_
              unfold sp_move
              rw [if_pos ⟨show inn (nI 2) 0 3 from c4, show inn (nI 1) 0 3 from c11⟩, tN_nI (n := 2) (by decide), tN_nI (n := 1) (by decide)]
              rw [if_pos (Or.inr c35)]
              exact ⟨show (-1000000000 : Int32) - nI 2 = -1000000002 from by decide, hC.er 2⟩
        · obtain ⟨-, zb, hzb, esb⟩ := hSh 2 (by omega)
          have hsb : S 31 = nI zb := (hC.shs 2 (by omega)).trans esb
          refine j_aload_n C 0 dX11_move_20 rfl ?_
          refine j_get C (v := .ref (q 34)) 0 7 rfl rfl inlC11 (by decide) kf11_29 rfl dX11_move_21 ?_
          refine j_iload_n C 1 dX11_move_24 rfl ?_
          refine j_ialdN C 34 0 rfl rfl 2 rfl (by omega) (by decide) dX11_move_25 ?_
          refine j_v (bo 2) (hC.shb 2 (by omega)) ?_
          refine j_if_eq C 38 dX11_move_26 (by decide) (fun c26 => ?_) (fun c26 => ?_)
          · skip
            refine j_aload_n C 0 dX11_move_38 rfl ?_
            refine j_iconst C (v := (nI 2)) dX11_move_39 (by decide) ?_
            refine j_callV (As := [.int (nI 2)]) (rest := []) C vw11_90 (h_error 2 (by decide)) ⟨0, 11, _, _, rfl, rfl, rfl⟩ rfl (Nat.le_of_ble_eq_true rfl) dX11_move_40 (by decide) ?_
            rintro _ _ ⟨rfl, rfl⟩
            refine j_iret C dX11_move_43 ?_
            unfold sp_move
            rw [if_pos ⟨show inn (nI 2) 0 3 from c4, show inn (nI 2) 0 3 from c11⟩, tN_nI (n := 2) (by decide)]
            rw [if_pos (Or.inl c26)]
            exact ⟨show (-1000000000 : Int32) - nI 2 = -1000000002 from by decide, hC.er 2⟩
          · skip
            refine j_aload_n C 0 dX11_move_29 rfl ?_
            refine j_get C (v := .ref (q 34)) 0 7 rfl rfl inlC11 (by decide) kf11_29 rfl dX11_move_30 ?_
            refine j_iload_n C 3 dX11_move_33 rfl ?_
            refine j_ialdN C 34 0 rfl rfl 2 rfl (by omega) (by decide) dX11_move_34 ?_
            refine j_v (bo 2) (hC.shb 2 (by omega)) ?_
            refine j_if_ne C 44 dX11_move_35 (by decide) (fun c35 => ?_) (fun c35 => ?_)
            · skip
              refine j_aload_n C 0 dX11_move_44 rfl ?_
              refine j_get C (v := .ref (q 34)) 0 7 rfl rfl inlC11 (by decide) kf11_29 rfl dX11_move_45 ?_
              refine j_iload_n C 1 dX11_move_48 rfl ?_
              refine j_ialdN C 34 0 rfl rfl 2 rfl (by omega) (by decide) dX11_move_49 ?_
              refine j_v (bo 2) (hC.shb 2 (by omega)) ?_
              refine j_aload_n C 0 dX11_move_50 rfl ?_
              refine j_get C (v := .ref (q 34)) 0 7 rfl rfl inlC11 (by decide) kf11_29 rfl dX11_move_51 ?_
              refine j_iload_n C 3 dX11_move_54 rfl ?_
              refine j_ialdN C 34 0 rfl rfl 2 rfl (by omega) (by decide) dX11_move_55 ?_
              refine j_v (bo 2) (hC.shb 2 (by omega)) ?_
              refine j_icmp_eq C 65 dX11_move_56 (by decide) (fun c56 => ?_) (fun c56 => ?_)
              · skip
                refine j_aload_n C 0 dX11_move_65 rfl ?_
                refine j_get C (v := .ref (q 33)) 0 6 rfl rfl inlC11 (by decide) kf11_25 rfl dX11_move_66 ?_
                refine j_iload_n C 1 dX11_move_69 rfl ?_
                refine j_aaldN C 33 2 rfl rfl 2 rfl (by decide) (by decide) rfl dX11_move_70 ?_
                refine j_iload_n C 2 dX11_move_71 rfl ?_
                refine j_iload C 5 dX11_move_72 rfl ?_
                refine j_callVN (As := [.int i, .int n]) (rest := []) C vn11_290 (h_hasPart_12) ⟨23, 8, _, _, rfl, rfl, rfl⟩ rfl (Nat.le_of_ble_eq_true rfl) dX11_move_74 (by decide) ?_
                rintro _ _ ⟨rfl, rfl⟩
                refine j_v (bI (¬ n < 0 ∧ ¬ i < 0 ∧ ¬ nI za < i ∧ ¬ nI za - i < n)) (by rw [hsa]) ?_
                refine j_if_eq C 96 dX11_move_77 (by decide) (fun c77 => ?_) (fun c77 => ?_)
                · replace c77 := bI_f c77
                  refine j_aload_n C 0 dX11_move_96 rfl ?_
                  refine j_iconst C (v := (nI 1)) dX11_move_97 (by decide) ?_
                  refine j_callV (As := [.int (nI 1)]) (rest := []) C vw11_90 (h_error 1 (by decide)) ⟨0, 11, _, _, rfl, rfl, rfl⟩ rfl (Nat.le_of_ble_eq_true rfl) dX11_move_98 (by decide) ?_
                  rintro _ _ ⟨rfl, rfl⟩
                  refine j_iret C dX11_move_101 ?_
                  unfold sp_move
                  rw [if_pos ⟨show inn (nI 2) 0 3 from c4, show inn (nI 2) 0 3 from c11⟩, tN_nI (n := 2) (by decide)]
                  rw [if_neg (fun h => h.elim c26 c26)]
                  rw [if_neg (fun h => h rfl)]
                  rw [esa]
                  rw [if_pos (Classical.byContradiction (fun h => c77 ⟨fun g => h (Or.inl g), fun g => h (Or.inr (Or.inl g)), (part_iff hza (fun g => h (Or.inl g)) (fun g => h (Or.inr (Or.inl g)))).2 (fun g => h (Or.inr (Or.inr (Or.inr (Or.inl g)))))⟩))]
                  exact ⟨show (-1000000000 : Int32) - nI 1 = -1000000001 from by decide, hC.er 1⟩
                · replace c77 := bI_t c77
                  refine j_aload_n C 0 dX11_move_80 rfl ?_
                  refine j_get C (v := .ref (q 33)) 0 6 rfl rfl inlC11 (by decide) kf11_25 rfl dX11_move_81 ?_
                  refine j_iload_n C 3 dX11_move_84 rfl ?_
                  refine j_aaldN C 33 2 rfl rfl 2 rfl (by decide) (by decide) rfl dX11_move_85 ?_
                  refine j_iload C 4 dX11_move_86 rfl ?_
                  refine j_iload C 5 dX11_move_88 rfl ?_
                  refine j_callVN (As := [.int j, .int n]) (rest := []) C vn11_290 (h_hasPart_12) ⟨23, 8, _, _, rfl, rfl, rfl⟩ rfl (Nat.le_of_ble_eq_true rfl) dX11_move_90 (by decide) ?_
                  rintro _ _ ⟨rfl, rfl⟩
                  refine j_v (bI (¬ n < 0 ∧ ¬ j < 0 ∧ ¬ nI zb < j ∧ ¬ nI zb - j < n)) (by rw [hsb]) ?_
                  refine j_if_ne C 102 dX11_move_93 (by decide) (fun c93 => ?_) (fun c93 => ?_)
                  · replace c93 := bI_t c93
                    obtain ⟨ii, nn, rfl, rfl, hin⟩ := part_nat hza c77
                    obtain ⟨jj, n2, rfl, en2, hjn⟩ := part_nat hzb c93
                    have en3 : nn = n2 := nI_inj40 en2 (by omega) (by omega)
                    subst en3
                    refine j_aload_n C 0 dX11_move_102 rfl ?_
                    refine j_get C (v := .ref (q 33)) 0 6 rfl rfl inlC11 (by decide) kf11_25 rfl dX11_move_103 ?_
                    refine j_iload_n C 1 dX11_move_106 rfl ?_
                    refine j_aaldN C 33 2 rfl rfl 2 rfl (by decide) (by decide) rfl dX11_move_107 ?_
                    refine j_getN C (v := .ref (q 84)) 23 0 rfl rfl inlC8 (by decide) kf11_281 rfl dX11_move_108 ?_
                    refine j_iload_n C 2 dX11_move_111 rfl ?_
                    refine j_aload_n C 0 dX11_move_112 rfl ?_
                    refine j_get C (v := .ref (q 33)) 0 6 rfl rfl inlC11 (by decide) kf11_25 rfl dX11_move_113 ?_
                    refine j_iload_n C 3 dX11_move_116 rfl ?_
                    refine j_aaldN C 33 2 rfl rfl 2 rfl (by decide) (by decide) rfl dX11_move_117 ?_
                    refine j_getN C (v := .ref (q 84)) 23 0 rfl rfl inlC8 (by decide) kf11_281 rfl dX11_move_118 ?_
                    refine j_iload C 4 dX11_move_121 rfl ?_
                    refine j_iload C 5 dX11_move_123 rfl ?_
                    refine j_copy (rest := []) C 84 84 0 ac11_293 rfl rfl rfl ii jj nn (by omega) (by omega) (by decide) (by decide) (by decide) (Nat.le_of_ble_eq_true rfl) dX11_move_125 (S, va_up X 84 (va_cpy (X 84) (X 84) ii jj nn), P) rfl ?_
                    refine j_iload C 5 dX11_move_128 rfl ?_
                    refine j_iret C dX11_move_130 ?_
                    unfold sp_move
                    rw [if_pos ⟨show inn (nI 2) 0 3 from c4, show inn (nI 2) 0 3 from c11⟩, tN_nI (n := 2) (by decide)]
                    rw [if_neg (fun h => h.elim c26 c26)]
                    rw [if_neg (fun h => h rfl)]
                    rw [esa]
                    rw [if_neg (fun h => h.elim c77.1 (fun h => h.elim c77.2.1 (fun h => h.elim c93.2.1 (fun h => h.elim (fun g => (part_iff hza c77.1 c77.2.1).1 c77.2.2 g) (fun g => (part_iff hzb c93.1 c93.2.1).1 c93.2.2 (by rw [← esb, esa]; exact g)))))), tN_nI (n := ii) (by omega), tN_nI (n := jj) (by omega), tN_nI (n := nn) (by omega)]
                    exact ⟨rfl, hC.mov hSh 2 2 (by omega) (by omega) ii jj nn za zb esa hza (by omega) esb hzb (by omega)⟩
                  · replace c93 := bI_f c93
                    refine j_aload_n C 0 dX11_move_96 rfl ?_
                    refine j_iconst C (v := (nI 1)) dX11_move_97 (by decide) ?_
                    refine j_callV (As := [.int (nI 1)]) (rest := []) C vw11_90 (h_error 1 (by decide)) ⟨0, 11, _, _, rfl, rfl, rfl⟩ rfl (Nat.le_of_ble_eq_true rfl) dX11_move_98 (by decide) ?_
                    rintro _ _ ⟨rfl, rfl⟩
                    refine j_iret C dX11_move_101 ?_
                    unfold sp_move
                    rw [if_pos ⟨show inn (nI 2) 0 3 from c4, show inn (nI 2) 0 3 from c11⟩, tN_nI (n := 2) (by decide)]
                    rw [if_neg (fun h => h.elim c26 c26)]
                    rw [if_neg (fun h => h rfl)]
                    rw [esa]
                    rw [if_pos (Classical.byContradiction (fun h => c93 ⟨fun g => h (Or.inl g), fun g => h (Or.inr (Or.inr (Or.inl g))), (part_iff hzb (fun g => h (Or.inl g)) (fun g => h (Or.inr (Or.inr (Or.inl g))))).2 (fun g => h (Or.inr (Or.inr (Or.inr (Or.inr (by rw [← esa, esb]; exact g))))))⟩))]
                    exact ⟨show (-1000000000 : Int32) - nI 1 = -1000000001 from by decide, hC.er 1⟩
              · skip
                refine j_aload_n C 0 dX11_move_59 rfl ?_
                refine j_iconst C (v := (nI 5)) dX11_move_60 (by decide) ?_
                refine j_callV (As := [.int (nI 5)]) (rest := []) C vw11_90 (h_error 5 (by decide)) ⟨0, 11, _, _, rfl, rfl, rfl⟩ rfl (Nat.le_of_ble_eq_true rfl) dX11_move_61 (by decide) ?_
                rintro _ _ ⟨rfl, rfl⟩
                refine j_iret C dX11_move_64 ?_
                unfold sp_move
                rw [if_pos ⟨show inn (nI 2) 0 3 from c4, show inn (nI 2) 0 3 from c11⟩, tN_nI (n := 2) (by decide)]
                rw [if_neg (fun h => h.elim c26 c26)]
                rw [if_pos c56]
                exact ⟨show (-1000000000 : Int32) - nI 5 = -1000000005 from by decide, hC.er 5⟩
            · skip
              exact absurd c35 c26
        · obtain ⟨-, zb, hzb, esb⟩ := hSh 3 (by omega)
          have hsb : S 32 = nI zb := (hC.shs 3 (by omega)).trans esb
          refine j_aload_n C 0 dX11_move_20 rfl ?_
          refine j_get C (v := .ref (q 34)) 0 7 rfl rfl inlC11 (by decide) kf11_29 rfl dX11_move_21 ?_
          refine j_iload_n C 1 dX11_move_24 rfl ?_
          refine j_ialdN C 34 0 rfl rfl 2 rfl (by omega) (by decide) dX11_move_25 ?_
          refine j_v (bo 2) (hC.shb 2 (by omega)) ?_
          refine j_if_eq C 38 dX11_move_26 (by decide) (fun c26 => ?_) (fun c26 => ?_)
          · skip
            refine j_aload_n C 0 dX11_move_38 rfl ?_
            refine j_iconst C (v := (nI 2)) dX11_move_39 (by decide) ?_
            refine j_callV (As := [.int (nI 2)]) (rest := []) C vw11_90 (h_error 2 (by decide)) ⟨0, 11, _, _, rfl, rfl, rfl⟩ rfl (Nat.le_of_ble_eq_true rfl) dX11_move_40 (by decide) ?_
            rintro _ _ ⟨rfl, rfl⟩
            refine j_iret C dX11_move_43 ?_
            unfold sp_move
            rw [if_pos ⟨show inn (nI 2) 0 3 from c4, show inn (nI 3) 0 3 from c11⟩, tN_nI (n := 2) (by decide), tN_nI (n := 3) (by decide)]
            rw [if_pos (Or.inl c26)]
            exact ⟨show (-1000000000 : Int32) - nI 2 = -1000000002 from by decide, hC.er 2⟩
          · skip
            refine j_aload_n C 0 dX11_move_29 rfl ?_
            refine j_get C (v := .ref (q 34)) 0 7 rfl rfl inlC11 (by decide) kf11_29 rfl dX11_move_30 ?_
            refine j_iload_n C 3 dX11_move_33 rfl ?_
            refine j_ialdN C 34 0 rfl rfl 3 rfl (by omega) (by decide) dX11_move_34 ?_
            refine j_v (bo 3) (hC.shb 3 (by omega)) ?_
            refine j_if_ne C 44 dX11_move_35 (by decide) (fun c35 => ?_) (fun c35 => ?_)
            · skip
              refine j_aload_n C 0 dX11_move_44 rfl ?_
              refine j_get C (v := .ref (q 34)) 0 7 rfl rfl inlC11 (by decide) kf11_29 rfl dX11_move_45 ?_
              refine j_iload_n C 1 dX11_move_48 rfl ?_
              refine j_ialdN C 34 0 rfl rfl 2 rfl (by omega) (by decide) dX11_move_49 ?_
              refine j_v (bo 2) (hC.shb 2 (by omega)) ?_
              refine j_aload_n C 0 dX11_move_50 rfl ?_
              refine j_get C (v := .ref (q 34)) 0 7 rfl rfl inlC11 (by decide) kf11_29 rfl dX11_move_51 ?_
              refine j_iload_n C 3 dX11_move_54 rfl ?_
              refine j_ialdN C 34 0 rfl rfl 3 rfl (by omega) (by decide) dX11_move_55 ?_
              refine j_v (bo 3) (hC.shb 3 (by omega)) ?_
              refine j_icmp_eq C 65 dX11_move_56 (by decide) (fun c56 => ?_) (fun c56 => ?_)
              · skip
                refine j_aload_n C 0 dX11_move_65 rfl ?_
                refine j_get C (v := .ref (q 33)) 0 6 rfl rfl inlC11 (by decide) kf11_25 rfl dX11_move_66 ?_
                refine j_iload_n C 1 dX11_move_69 rfl ?_
                refine j_aaldN C 33 2 rfl rfl 2 rfl (by decide) (by decide) rfl dX11_move_70 ?_
                refine j_iload_n C 2 dX11_move_71 rfl ?_
                refine j_iload C 5 dX11_move_72 rfl ?_
                refine j_callVN (As := [.int i, .int n]) (rest := []) C vn11_290 (h_hasPart_12) ⟨23, 8, _, _, rfl, rfl, rfl⟩ rfl (Nat.le_of_ble_eq_true rfl) dX11_move_74 (by decide) ?_
                rintro _ _ ⟨rfl, rfl⟩
                refine j_v (bI (¬ n < 0 ∧ ¬ i < 0 ∧ ¬ nI za < i ∧ ¬ nI za - i < n)) (by rw [hsa]) ?_
                refine j_if_eq C 96 dX11_move_77 (by decide) (fun c77 => ?_) (fun c77 => ?_)
                · replace c77 := bI_f c77
                  refine j_aload_n C 0 dX11_move_96 rfl ?_
                  refine j_iconst C (v := (nI 1)) dX11_move_97 (by decide) ?_
                  refine j_callV (As := [.int (nI 1)]) (rest := []) C vw11_90 (h_error 1 (by decide)) ⟨0, 11, _, _, rfl, rfl, rfl⟩ rfl (Nat.le_of_ble_eq_true rfl) dX11_move_98 (by decide) ?_
                  rintro _ _ ⟨rfl, rfl⟩
                  refine j_iret C dX11_move_101 ?_
                  unfold sp_move
                  rw [if_pos ⟨show inn (nI 2) 0 3 from c4, show inn (nI 3) 0 3 from c11⟩, tN_nI (n := 2) (by decide), tN_nI (n := 3) (by decide)]
                  rw [if_neg (fun h => h.elim c26 c35)]
                  rw [if_neg (fun h => h c56)]
                  rw [esa, esb]
                  rw [if_pos (Classical.byContradiction (fun h => c77 ⟨fun g => h (Or.inl g), fun g => h (Or.inr (Or.inl g)), (part_iff hza (fun g => h (Or.inl g)) (fun g => h (Or.inr (Or.inl g)))).2 (fun g => h (Or.inr (Or.inr (Or.inr (Or.inl g)))))⟩))]
                  exact ⟨show (-1000000000 : Int32) - nI 1 = -1000000001 from by decide, hC.er 1⟩
                · replace c77 := bI_t c77
                  refine j_aload_n C 0 dX11_move_80 rfl ?_
                  refine j_get C (v := .ref (q 33)) 0 6 rfl rfl inlC11 (by decide) kf11_25 rfl dX11_move_81 ?_
                  refine j_iload_n C 3 dX11_move_84 rfl ?_
                  refine j_aaldN C 33 2 rfl rfl 3 rfl (by decide) (by decide) rfl dX11_move_85 ?_
                  refine j_iload C 4 dX11_move_86 rfl ?_
                  refine j_iload C 5 dX11_move_88 rfl ?_
                  refine j_callVN (As := [.int j, .int n]) (rest := []) C vn11_290 (h_hasPart_13) ⟨24, 8, _, _, rfl, rfl, rfl⟩ rfl (Nat.le_of_ble_eq_true rfl) dX11_move_90 (by decide) ?_
                  rintro _ _ ⟨rfl, rfl⟩
                  refine j_v (bI (¬ n < 0 ∧ ¬ j < 0 ∧ ¬ nI zb < j ∧ ¬ nI zb - j < n)) (by rw [hsb]) ?_
                  refine j_if_ne C 102 dX11_move_93 (by decide) (fun c93 => ?_) (fun c93 => ?_)
                  · replace c93 := bI_t c93
                    obtain ⟨ii, nn, rfl, rfl, hin⟩ := part_nat hza c77
                    obtain ⟨jj, n2, rfl, en2, hjn⟩ := part_nat hzb c93
                    have en3 : nn = n2 := nI_inj40 en2 (by omega) (by omega)
                    subst en3
                    refine j_aload_n C 0 dX11_move_102 rfl ?_
                    refine j_get C (v := .ref (q 33)) 0 6 rfl rfl inlC11 (by decide) kf11_25 rfl dX11_move_103 ?_
                    refine j_iload_n C 1 dX11_move_106 rfl ?_
                    refine j_aaldN C 33 2 rfl rfl 2 rfl (by decide) (by decide) rfl dX11_move_107 ?_
                    refine j_getN C (v := .ref (q 84)) 23 0 rfl rfl inlC8 (by decide) kf11_281 rfl dX11_move_108 ?_
                    refine j_iload_n C 2 dX11_move_111 rfl ?_
                    refine j_aload_n C 0 dX11_move_112 rfl ?_
                    refine j_get C (v := .ref (q 33)) 0 6 rfl rfl inlC11 (by decide) kf11_25 rfl dX11_move_113 ?_
                    refine j_iload_n C 3 dX11_move_116 rfl ?_
                    refine j_aaldN C 33 2 rfl rfl 3 rfl (by decide) (by decide) rfl dX11_move_117 ?_
                    refine j_getN C (v := .ref (q 85)) 24 0 rfl rfl inlC8 (by decide) kf11_281 rfl dX11_move_118 ?_
                    refine j_iload C 4 dX11_move_121 rfl ?_
                    refine j_iload C 5 dX11_move_123 rfl ?_
                    refine j_copy (rest := []) C 84 85 0 ac11_293 rfl rfl rfl ii jj nn (by omega) (by omega) (by decide) (by decide) (by decide) (Nat.le_of_ble_eq_true rfl) dX11_move_125 (S, va_up X 85 (va_cpy (X 84) (X 85) ii jj nn), P) rfl ?_
                    refine j_iload C 5 dX11_move_128 rfl ?_
                    refine j_iret C dX11_move_130 ?_
                    unfold sp_move
                    rw [if_pos ⟨show inn (nI 2) 0 3 from c4, show inn (nI 3) 0 3 from c11⟩, tN_nI (n := 2) (by decide), tN_nI (n := 3) (by decide)]
                    rw [if_neg (fun h => h.elim c26 c35)]
                    rw [if_neg (fun h => h c56)]
                    rw [esa, esb]
                    rw [if_neg (fun h => h.elim c77.1 (fun h => h.elim c77.2.1 (fun h => h.elim c93.2.1 (fun h => h.elim (fun g => (part_iff hza c77.1 c77.2.1).1 c77.2.2 g) (fun g => (part_iff hzb c93.1 c93.2.1).1 c93.2.2 g))))), tN_nI (n := ii) (by omega), tN_nI (n := jj) (by omega), tN_nI (n := nn) (by omega)]
                    exact ⟨rfl, hC.mov hSh 2 3 (by omega) (by omega) ii jj nn za zb esa hza (by omega) esb hzb (by omega)⟩
                  · replace c93 := bI_f c93
                    refine j_aload_n C 0 dX11_move_96 rfl ?_
                    refine j_iconst C (v := (nI 1)) dX11_move_97 (by decide) ?_
                    refine j_callV (As := [.int (nI 1)]) (rest := []) C vw11_90 (h_error 1 (by decide)) ⟨0, 11, _, _, rfl, rfl, rfl⟩ rfl (Nat.le_of_ble_eq_true rfl) dX11_move_98 (by decide) ?_
                    rintro _ _ ⟨rfl, rfl⟩
                    refine j_iret C dX11_move_101 ?_
                    unfold sp_move
                    rw [if_pos ⟨show inn (nI 2) 0 3 from c4, show inn (nI 3) 0 3 from c11⟩, tN_nI (n := 2) (by decide), tN_nI (n := 3) (by decide)]
                    rw [if_neg (fun h => h.elim c26 c35)]
                    rw [if_neg (fun h => h c56)]
                    rw [esa, esb]
                    rw [if_pos (Classical.byContradiction (fun h => c93 ⟨fun g => h (Or.inl g), fun g => h (Or.inr (Or.inr (Or.inl g))), (part_iff hzb (fun g => h (Or.inl g)) (fun g => h (Or.inr (Or.inr (Or.inl g))))).2 (fun g => h (Or.inr (Or.inr (Or.inr (Or.inr g)))))⟩))]
                    exact ⟨show (-1000000000 : Int32) - nI 1 = -1000000001 from by decide, hC.er 1⟩
              · skip
                refine j_aload_n C 0 dX11_move_59 rfl ?_
                refine j_iconst C (v := (nI 5)) dX11_move_60 (by decide) ?_
                refine j_callV (As := [.int (nI 5)]) (rest := []) C vw11_90 (h_error 5 (by decide)) ⟨0, 11, _, _, rfl, rfl, rfl⟩ rfl (Nat.le_of_ble_eq_true rfl) dX11_move_61 (by decide) ?_
                rintro _ _ ⟨rfl, rfl⟩
                refine j_iret C dX11_move_64 ?_
                unfold sp_move
                rw [if_pos ⟨show inn (nI 2) 0 3 from c4, show inn (nI 3) 0 3 from c11⟩, tN_nI (n := 2) (by decide), tN_nI (n := 3) (by decide)]
                rw [if_neg (fun h => h.elim c26 c35)]
                rw [if_pos c56]
                exact ⟨show (-1000000000 : Int32) - nI 5 = -1000000005 from by decide, hC.er 5⟩
            · skip
              refine j_aload_n C 0 dX11_move_38 rfl ?_
              refine j_iconst C (v := (nI 2)) dX11_move_39 (by decide) ?_
              refine j_callV (As := [.int (nI 2)]) (rest := []) C vw11_90 (h_error 2 (by decide)) ⟨0, 11, _, _, rfl, rfl, rfl⟩ rfl (Nat.le_of_ble_eq_true rfl) dX11_move_40 (by decide) ?_
              rintro _ _ ⟨rfl, rfl⟩
              refine j_iret C dX11_move_43 ?_
              unfold sp_move
              rw [if_pos ⟨show inn (nI 2) 0 3 from c4, show inn (nI 3) 0 3 from c11⟩, tN_nI (n := 2) (by decide), tN_nI (n := 3) (by decide)]
              rw [if_pos (Or.inr c35)]
              exact ⟨show (-1000000000 : Int32) - nI 2 = -1000000002 from by decide, hC.er 2⟩
      · obtain ⟨-, za, hza, esa⟩ := hSh 3 (by omega)
        have hsa : S 32 = nI za := (hC.shs 3 (by omega)).trans esa
        rcases (show tn = 0 ∨ tn = 1 ∨ tn = 2 ∨ tn = 3 by omega) with rfl | rfl | rfl | rfl
        · obtain ⟨-, zb, hzb, esb⟩ := hSh 0 (by omega)
          have hsb : S 29 = nI zb := (hC.shs 0 (by omega)).trans esb
          refine j_aload_n C 0 dX11_move_20 rfl ?_
          refine j_get C (v := .ref (q 34)) 0 7 rfl rfl inlC11 (by decide) kf11_29 rfl dX11_move_21 ?_
          refine j_iload_n C 1 dX11_move_24 rfl ?_
          refine j_ialdN C 34 0 rfl rfl 3 rfl (by omega) (by decide) dX11_move_25 ?_
          refine j_v (bo 3) (hC.shb 3 (by omega)) ?_
          refine j_if_eq C 38 dX11_move_26 (by decide) (fun c26 => ?_) (fun c26 => ?_)
          · skip
            refine j_aload_n C 0 dX11_move_38 rfl ?_
            refine j_iconst C (v := (nI 2)) dX11_move_39 (by decide) ?_
            refine j_callV (As := [.int (nI 2)]) (rest := []) C vw11_90 (h_error 2 (by decide)) ⟨0, 11, _, _, rfl, rfl, rfl⟩ rfl (Nat.le_of_ble_eq_true rfl) dX11_move_40 (by decide) ?_
            rintro _ _ ⟨rfl, rfl⟩
            refine j_iret C dX11_move_43 ?_
            unfold sp_move
            rw [if_pos ⟨show inn (nI 3) 0 3 from c4, show inn (nI 0) 0 3 from c11⟩, tN_nI (n := 3) (by decide), tN_nI (n := 0) (by decide)]
            rw [if_pos (Or.inl c26)]
            exact ⟨show (-1000000000 : Int32) - nI 2 = -1000000002 from by decide, hC.er 2⟩
          · skip
            refine j_aload_n C 0 dX11_move_29 rfl ?_
            refine j_get C (v := .ref (q 34)) 0 7 rfl rfl inlC11 (by decide) kf11_29 rfl dX11_move_30 ?_
            refine j_iload_n C 3 dX11_move_33 rfl ?_
            refine j_ialdN C 34 0 rfl rfl 0 rfl (by omega) (by decide) dX11_move_34 ?_
            refine j_v (bo 0) (hC.shb 0 (by omega)) ?_
            refine j_if_ne C 44 dX11_move_35 (by decide) (fun c35 => ?_) (fun c35 => ?_)
            · skip
              refine j_aload_n C 0 dX11_move_44 rfl ?_
              refine j_get C (v := .ref (q 34)) 0 7 rfl rfl inlC11 (by decide) kf11_29 rfl dX11_move_45 ?_
              refine j_iload_n C 1 dX11_move_48 rfl ?_
              refine j_ialdN C 34 0 rfl rfl 3 rfl (by omega) (by decide) dX11_move_49 ?_
              refine j_v (bo 3) (hC.shb 3 (by omega)) ?_
              refine j_aload_n C 0 dX11_move_50 rfl ?_
              refine j_get C (v := .ref (q 34)) 0 7 rfl rfl inlC11 (by decide) kf11_29 rfl dX11_move_51 ?_
              refine j_iload_n C 3 dX11_move_54 rfl ?_
              refine j_ialdN C 34 0 rfl rfl 0 rfl (by omega) (by decide) dX11_move_55 ?_
              refine j_v (bo 0) (hC.shb 0 (by omega)) ?_
              refine j_icmp_eq C 65 dX11_move_56 (by decide) (fun c56 => ?_) (fun c56 => ?_)
              · skip
                refine j_aload_n C 0 dX11_move_65 rfl ?_
                refine j_get C (v := .ref (q 33)) 0 6 rfl rfl inlC11 (by decide) kf11_25 rfl dX11_move_66 ?_
                refine j_iload_n C 1 dX11_move_69 rfl ?_
                refine j_aaldN C 33 2 rfl rfl 3 rfl (by decide) (by decide) rfl dX11_move_70 ?_
                refine j_iload_n C 2 dX11_move_71 rfl ?_
                refine j_iload C 5 dX11_move_72 rfl ?_
                refine j_callVN (As := [.int i, .int n]) (rest := []) C vn11_290 (h_hasPart_13) ⟨24, 8, _, _, rfl, rfl, rfl⟩ rfl (Nat.le_of_ble_eq_true rfl) dX11_move_74 (by decide) ?_
                rintro _ _ ⟨rfl, rfl⟩
                refine j_v (bI (¬ n < 0 ∧ ¬ i < 0 ∧ ¬ nI za < i ∧ ¬ nI za - i < n)) (by rw [hsa]) ?_
                refine j_if_eq C 96 dX11_move_77 (by decide) (fun c77 => ?_) (fun c77 => ?_)
                · replace c77 := bI_f c77
                  refine j_aload_n C 0 dX11_move_96 rfl ?_
                  refine j_iconst C (v := (nI 1)) dX11_move_97 (by decide) ?_
                  refine j_callV (As := [.int (nI 1)]) (rest := []) C vw11_90 (h_error 1 (by decide)) ⟨0, 11, _, _, rfl, rfl, rfl⟩ rfl (Nat.le_of_ble_eq_true rfl) dX11_move_98 (by decide) ?_
                  rintro _ _ ⟨rfl, rfl⟩
                  refine j_iret C dX11_move_101 ?_
                  unfold sp_move
                  rw [if_pos ⟨show inn (nI 3) 0 3 from c4, show inn (nI 0) 0 3 from c11⟩, tN_nI (n := 3) (by decide), tN_nI (n := 0) (by decide)]
                  rw [if_neg (fun h => h.elim c26 c35)]
                  rw [if_neg (fun h => h c56)]
                  rw [esa, esb]
                  rw [if_pos (Classical.byContradiction (fun h => c77 ⟨fun g => h (Or.inl g), fun g => h (Or.inr (Or.inl g)), (part_iff hza (fun g => h (Or.inl g)) (fun g => h (Or.inr (Or.inl g)))).2 (fun g => h (Or.inr (Or.inr (Or.inr (Or.inl g)))))⟩))]
                  exact ⟨show (-1000000000 : Int32) - nI 1 = -1000000001 from by decide, hC.er 1⟩
                · replace c77 := bI_t c77
                  refine j_aload_n C 0 dX11_move_80 rfl ?_
                  refine j_get C (v := .ref (q 33)) 0 6 rfl rfl inlC11 (by decide) kf11_25 rfl dX11_move_81 ?_
                  refine j_iload_n C 3 dX11_move_84 rfl ?_
                  refine j_aaldN C 33 2 rfl rfl 0 rfl (by decide) (by decide) rfl dX11_move_85 ?_
                  refine j_iload C 4 dX11_move_86 rfl ?_
                  refine j_iload C 5 dX11_move_88 rfl ?_
                  refine j_callVN (As := [.int j, .int n]) (rest := []) C vn11_290 (h_hasPart_10) ⟨21, 8, _, _, rfl, rfl, rfl⟩ rfl (Nat.le_of_ble_eq_true rfl) dX11_move_90 (by decide) ?_
                  rintro _ _ ⟨rfl, rfl⟩
                  refine j_v (bI (¬ n < 0 ∧ ¬ j < 0 ∧ ¬ nI zb < j ∧ ¬ nI zb - j < n)) (by rw [hsb]) ?_
                  refine j_if_ne C 102 dX11_move_93 (by decide) (fun c93 => ?_) (fun c93 => ?_)
                  · replace c93 := bI_t c93
                    obtain ⟨ii, nn, rfl, rfl, hin⟩ := part_nat hza c77
                    obtain ⟨jj, n2, rfl, en2, hjn⟩ := part_nat hzb c93
                    have en3 : nn = n2 := nI_inj40 en2 (by omega) (by omega)
                    subst en3
                    refine j_aload_n C 0 dX11_move_102 rfl ?_
                    refine j_get C (v := .ref (q 33)) 0 6 rfl rfl inlC11 (by decide) kf11_25 rfl dX11_move_103 ?_
                    refine j_iload_n C 1 dX11_move_106 rfl ?_
                    refine j_aaldN C 33 2 rfl rfl 3 rfl (by decide) (by decide) rfl dX11_move_107 ?_
                    refine j_getN C (v := .ref (q 85)) 24 0 rfl rfl inlC8 (by decide) kf11_281 rfl dX11_move_108 ?_
                    refine j_iload_n C 2 dX11_move_111 rfl ?_
                    refine j_aload_n C 0 dX11_move_112 rfl ?_
                    refine j_get C (v := .ref (q 33)) 0 6 rfl rfl inlC11 (by decide) kf11_25 rfl dX11_move_113 ?_
                    refine j_iload_n C 3 dX11_move_116 rfl ?_
                    refine j_aaldN C 33 2 rfl rfl 0 rfl (by decide) (by decide) rfl dX11_move_117 ?_
                    refine j_getN C (v := .ref (q 82)) 21 0 rfl rfl inlC8 (by decide) kf11_281 rfl dX11_move_118 ?_
                    refine j_iload C 4 dX11_move_121 rfl ?_
                    refine j_iload C 5 dX11_move_123 rfl ?_
                    refine j_copy (rest := []) C 85 82 0 ac11_293 rfl rfl rfl ii jj nn (by omega) (by omega) (by decide) (by decide) (by decide) (Nat.le_of_ble_eq_true rfl) dX11_move_125 (S, va_up X 82 (va_cpy (X 85) (X 82) ii jj nn), P) rfl ?_
                    refine j_iload C 5 dX11_move_128 rfl ?_
                    refine j_iret C dX11_move_130 ?_
                    unfold sp_move
                    rw [if_pos ⟨show inn (nI 3) 0 3 from c4, show inn (nI 0) 0 3 from c11⟩, tN_nI (n := 3) (by decide), tN_nI (n := 0) (by decide)]
                    rw [if_neg (fun h => h.elim c26 c35)]
                    rw [if_neg (fun h => h c56)]
                    rw [esa, esb]
                    rw [if_neg (fun h => h.elim c77.1 (fun h => h.elim c77.2.1 (fun h => h.elim c93.2.1 (fun h => h.elim (fun g => (part_iff hza c77.1 c77.2.1).1 c77.2.2 g) (fun g => (part_iff hzb c93.1 c93.2.1).1 c93.2.2 g))))), tN_nI (n := ii) (by omega), tN_nI (n := jj) (by omega), tN_nI (n := nn) (by omega)]
                    exact ⟨rfl, hC.mov hSh 3 0 (by omega) (by omega) ii jj nn za zb esa hza (by omega) esb hzb (by omega)⟩
                  · replace c93 := bI_f c93
                    refine j_aload_n C 0 dX11_move_96 rfl ?_
                    refine j_iconst C (v := (nI 1)) dX11_move_97 (by decide) ?_
                    refine j_callV (As := [.int (nI 1)]) (rest := []) C vw11_90 (h_error 1 (by decide)) ⟨0, 11, _, _, rfl, rfl, rfl⟩ rfl (Nat.le_of_ble_eq_true rfl) dX11_move_98 (by decide) ?_
                    rintro _ _ ⟨rfl, rfl⟩
                    refine j_iret C dX11_move_101 ?_
                    unfold sp_move
                    rw [if_pos ⟨show inn (nI 3) 0 3 from c4, show inn (nI 0) 0 3 from c11⟩, tN_nI (n := 3) (by decide), tN_nI (n := 0) (by decide)]
                    rw [if_neg (fun h => h.elim c26 c35)]
                    rw [if_neg (fun h => h c56)]
                    rw [esa, esb]
                    rw [if_pos (Classical.byContradiction (fun h => c93 ⟨fun g => h (Or.inl g), fun g => h (Or.inr (Or.inr (Or.inl g))), (part_iff hzb (fun g => h (Or.inl g)) (fun g => h (Or.inr (Or.inr (Or.inl g))))).2 (fun g => h (Or.inr (Or.inr (Or.inr (Or.inr g)))))⟩))]
                    exact ⟨show (-1000000000 : Int32) - nI 1 = -1000000001 from by decide, hC.er 1⟩
              · skip
                refine j_aload_n C 0 dX11_move_59 rfl ?_
                refine j_iconst C (v := (nI 5)) dX11_move_60 (by decide) ?_
                refine j_callV (As := [.int (nI 5)]) (rest := []) C vw11_90 (h_error 5 (by decide)) ⟨0, 11, _, _, rfl, rfl, rfl⟩ rfl (Nat.le_of_ble_eq_true rfl) dX11_move_61 (by decide) ?_
                rintro _ _ ⟨rfl, rfl⟩
                refine j_iret C dX11_move_64 ?_
                unfold sp_move
                rw [if_pos ⟨show inn (nI 3) 0 3 from c4, show inn (nI 0) 0 3 from c11⟩, tN_nI (n := 3) (by decide), tN_nI (n := 0) (by decide)]
                rw [if_neg (fun h => h.elim c26 c35)]
                rw [if_pos c56]
                exact ⟨show (-1000000000 : Int32) - nI 5 = -1000000005 from by decide, hC.er 5⟩
            · skip
              refine j_aload_n C 0 dX11_move_38 rfl ?_
              refine j_iconst C (v := (nI 2)) dX11_move_39 (by decide) ?_
              refine j_callV (As := [.int (nI 2)]) (rest := []) C vw11_90 (h_error 2 (by decide)) ⟨0, 11, _, _, rfl, rfl, rfl⟩ rfl (Nat.le_of_ble_eq_true rfl) dX11_move_40 (by decide) ?_
              rintro _ _ ⟨rfl, rfl⟩
              refine j_iret C dX11_move_43 ?_
              unfold sp_move
              rw [if_pos ⟨show inn (nI 3) 0 3 from c4, show inn (nI 0) 0 3 from c11⟩, tN_nI (n := 3) (by decide), tN_nI (n := 0) (by decide)]
              rw [if_pos (Or.inr c35)]
              exact ⟨show (-1000000000 : Int32) - nI 2 = -1000000002 from by decide, hC.er 2⟩
        · obtain ⟨-, zb, hzb, esb⟩ := hSh 1 (by omega)
          have hsb : S 30 = nI zb := (hC.shs 1 (by omega)).trans esb
          refine j_aload_n C 0 dX11_move_20 rfl ?_
          refine j_get C (v := .ref (q 34)) 0 7 rfl rfl inlC11 (by decide) kf11_29 rfl dX11_move_21 ?_
          refine j_iload_n C 1 dX11_move_24 rfl ?_
          refine j_ialdN C 34 0 rfl rfl 3 rfl (by omega) (by decide) dX11_move_25 ?_
          refine j_v (bo 3) (hC.shb 3 (by omega)) ?_
          refine j_if_eq C 38 dX11_move_26 (by decide) (fun c26 => ?_) (fun c26 => ?_)
          · skip
            refine j_aload_n C 0 dX11_move_38 rfl ?_
            refine j_iconst C (v := (nI 2)) dX11_move_39 (by decide) ?_
            refine j_callV (As := [.int (nI 2)]) (rest := []) C vw11_90 (h_error 2 (by decide)) ⟨0, 11, _, _, rfl, rfl, rfl⟩ rfl (Nat.le_of_ble_eq_true rfl) dX11_move_40 (by decide) ?_
            rintro _ _ ⟨rfl, rfl⟩
            refine j_iret C dX11_move_43 ?_
            unfold sp_move
            rw [if_pos ⟨show inn (nI 3) 0 3 from c4, show inn (nI 1) 0 3 from c11⟩, tN_nI (n := 3) (by decide), tN_nI (n := 1) (by decide)]
            rw [if_pos (Or.inl c26)]
            exact ⟨show (-1000000000 : Int32) - nI 2 = -1000000002 from by decide, hC.er 2⟩
          · skip
            refine j_aload_n C 0 dX11_move_29 rfl ?_
            refine j_get C (v := .ref (q 34)) 0 7 rfl rfl inlC11 (by decide) kf11_29 rfl dX11_move_30 ?_
            refine j_iload_n C 3 dX11_move_33 rfl ?_
            refine j_ialdN C 34 0 rfl rfl 1 rfl (by omega) (by decide) dX11_move_34 ?_
            refine j_v (bo 1) (hC.shb 1 (by omega)) ?_
            refine j_if_ne C 44 dX11_move_35 (by decide) (fun c35 => ?_) (fun c35 => ?_)
            · skip
              refine j_aload_n C 0 dX11_move_44 rfl ?_
              refine j_get C (v := .ref (q 34)) 0 7 rfl rfl inlC11 (by decide) kf11_29 rfl dX11_move_45 ?_
              refine j_iload_n C 1 dX11_move_48 rfl ?_
              refine j_ialdN C 34 0 rfl rfl 3 rfl (by omega) (by decide) dX11_move_49 ?_
              refine j_v (bo 3) (hC.shb 3 (by omega)) ?_
              refine j_aload_n C 0 dX11_move_50 rfl ?_
              refine j_get C (v := .ref (q 34)) 0 7 rfl rfl inlC11 (by decide) kf11_29 rfl dX11_move_51 ?_
              refine j_iload_n C 3 dX11_move_54 rfl ?_
              refine j_ialdN C 34 0 rfl rfl 1 rfl (by omega) (by decide) dX11_move_55 ?_
              refine j_v (bo 1) (hC.shb 1 (by omega)) ?_
              refine j_icmp_eq C 65 dX11_move_56 (by decide) (fun c56 => ?_) (fun c56 => ?_)
              · skip
                refine j_aload_n C 0 dX11_move_65 rfl ?_
                refine j_get C (v := .ref (q 33)) 0 6 rfl rfl inlC11 (by decide) kf11_25 rfl dX11_move_66 ?_
                refine j_iload_n C 1 dX11_move_69 rfl ?_
                refine j_aaldN C 33 2 rfl rfl 3 rfl (by decide) (by decide) rfl dX11_move_70 ?_
                refine j_iload_n C 2 dX11_move_71 rfl ?_
                refine j_iload C 5 dX11_move_72 rfl ?_
                refine j_callVN (As := [.int i, .int n]) (rest := []) C vn11_290 (h_hasPart_13) ⟨24, 8, _, _, rfl, rfl, rfl⟩ rfl (Nat.le_of_ble_eq_true rfl) dX11_move_74 (by decide) ?_
                rintro _ _ ⟨rfl, rfl⟩
                refine j_v (bI (¬ n < 0 ∧ ¬ i < 0 ∧ ¬ nI za < i ∧ ¬ nI za - i < n)) (by rw [hsa]) ?_
                refine j_if_eq C 96 dX11_move_77 (by decide) (fun c77 => ?_) (fun c77 => ?_)
                · replace c77 := bI_f c77
                  refine j_aload_n C 0 dX11_move_96 rfl ?_
                  refine j_iconst C (v := (nI 1)) dX11_move_97 (by decide) ?_
                  refine j_callV (As := [.int (nI 1)]) (rest := []) C vw11_90 (h_error 1 (by decide)) ⟨0, 11, _, _, rfl, rfl, rfl⟩ rfl (Nat.le_of_ble_eq_true rfl) dX11_move_98 (by decide) ?_
                  rintro _ _ ⟨rfl, rfl⟩
                  refine j_iret C dX11_move_101 ?_
                  unfold sp_move
                  rw [if_pos ⟨show inn (nI 3) 0 3 from c4, show inn (nI 1) 0 3 from c11⟩, tN_nI (n := 3) (by decide), tN_nI (n := 1) (by decide)]
                  rw [if_neg (fun h => h.elim c26 c35)]
                  rw [if_neg (fun h => h c56)]
                  rw [esa, esb]
                  rw [if_pos (Classical.byContradiction (fun h => c77 ⟨fun g => h (Or.inl g), fun g => h (Or.inr (Or.inl g)), (part_iff hza (fun g => h (Or.inl g)) (fun g => h (Or.inr (Or.inl g)))).2 (fun g => h (Or.inr (Or.inr (Or.inr (Or.inl g)))))⟩))]
                  exact ⟨show (-1000000000 : Int32) - nI 1 = -1000000001 from by decide, hC.er 1⟩
                · replace c77 := bI_t c77
                  refine j_aload_n C 0 dX11_move_80 rfl ?_
                  refine j_get C (v := .ref (q 33)) 0 6 rfl rfl inlC11 (by decide) kf11_25 rfl dX11_move_81 ?_
                  refine j_iload_n C 3 dX11_move_84 rfl ?_
                  refine j_aaldN C 33 2 rfl rfl 1 rfl (by decide) (by decide) rfl dX11_move_85 ?_
                  refine j_iload C 4 dX11_move_86 rfl ?_
                  refine j_iload C 5 dX11_move_88 rfl ?_
                  refine j_callVN (As := [.int j, .int n]) (rest := []) C vn11_290 (h_hasPart_11) ⟨22, 8, _, _, rfl, rfl, rfl⟩ rfl (Nat.le_of_ble_eq_true rfl) dX11_move_90 (by decide) ?_
                  rintro _ _ ⟨rfl, rfl⟩
                  refine j_v (bI (¬ n < 0 ∧ ¬ j < 0 ∧ ¬ nI zb < j ∧ ¬ nI zb - j < n)) (by rw [hsb]) ?_
                  refine j_if_ne C 102 dX11_move_93 (by decide) (fun c93 => ?_) (fun c93 => ?_)
                  · replace c93 := bI_t c93
                    obtain ⟨ii, nn, rfl, rfl, hin⟩ := part_nat hza c77
                    obtain ⟨jj, n2, rfl, en2, hjn⟩ := part_nat hzb c93
                    have en3 : nn = n2 := nI_inj40 en2 (by omega) (by omega)
                    subst en3
                    refine j_aload_n C 0 dX11_move_102 rfl ?_
                    refine j_get C (v := .ref (q 33)) 0 6 rfl rfl inlC11 (by decide) kf11_25 rfl dX11_move_103 ?_
                    refine j_iload_n C 1 dX11_move_106 rfl ?_
                    refine j_aaldN C 33 2 rfl rfl 3 rfl (by decide) (by decide) rfl dX11_move_107 ?_
                    refine j_getN C (v := .ref (q 85)) 24 0 rfl rfl inlC8 (by decide) kf11_281 rfl dX11_move_108 ?_
                    refine j_iload_n C 2 dX11_move_111 rfl ?_
                    refine j_aload_n C 0 dX11_move_112 rfl ?_
                    refine j_get C (v := .ref (q 33)) 0 6 rfl rfl inlC11 (by decide) kf11_25 rfl dX11_move_113 ?_
                    refine j_iload_n C 3 dX11_move_116 rfl ?_
                    refine j_aaldN C 33 2 rfl rfl 1 rfl (by decide) (by decide) rfl dX11_move_117 ?_
                    refine j_getN C (v := .ref (q 83)) 22 0 rfl rfl inlC8 (by decide) kf11_281 rfl dX11_move_118 ?_
                    refine j_iload C 4 dX11_move_121 rfl ?_
                    refine j_iload C 5 dX11_move_123 rfl ?_
                    refine j_copy (rest := []) C 85 83 0 ac11_293 rfl rfl rfl ii jj nn (by omega) (by omega) (by decide) (by decide) (by decide) (Nat.le_of_ble_eq_true rfl) dX11_move_125 (S, va_up X 83 (va_cpy (X 85) (X 83) ii jj nn), P) rfl ?_
                    refine j_iload C 5 dX11_move_128 rfl ?_
                    refine j_iret C dX11_move_130 ?_
                    unfold sp_move
                    rw [if_pos ⟨show inn (nI 3) 0 3 from c4, show inn (nI 1) 0 3 from c11⟩, tN_nI (n := 3) (by decide), tN_nI (n := 1) (by decide)]
                    rw [if_neg (fun h => h.elim c26 c35)]
                    rw [if_neg (fun h => h c56)]
                    rw [esa, esb]
                    rw [if_neg (fun h => h.elim c77.1 (fun h => h.elim c77.2.1 (fun h => h.elim c93.2.1 (fun h => h.elim (fun g => (part_iff hza c77.1 c77.2.1).1 c77.2.2 g) (fun g => (part_iff hzb c93.1 c93.2.1).1 c93.2.2 g))))), tN_nI (n := ii) (by omega), tN_nI (n := jj) (by omega), tN_nI (n := nn) (by omega)]
                    exact ⟨rfl, hC.mov hSh 3 1 (by omega) (by omega) ii jj nn za zb esa hza (by omega) esb hzb (by omega)⟩
                  · replace c93 := bI_f c93
                    refine j_aload_n C 0 dX11_move_96 rfl ?_
                    refine j_iconst C (v := (nI 1)) dX11_move_97 (by decide) ?_
                    refine j_callV (As := [.int (nI 1)]) (rest := []) C vw11_90 (h_error 1 (by decide)) ⟨0, 11, _, _, rfl, rfl, rfl⟩ rfl (Nat.le_of_ble_eq_true rfl) dX11_move_98 (by decide) ?_
                    rintro _ _ ⟨rfl, rfl⟩
                    refine j_iret C dX11_move_101 ?_
                    unfold sp_move
                    rw [if_pos ⟨show inn (nI 3) 0 3 from c4, show inn (nI 1) 0 3 from c11⟩, tN_nI (n := 3) (by decide), tN_nI (n := 1) (by decide)]
                    rw [if_neg (fun h => h.elim c26 c35)]
                    rw [if_neg (fun h => h c56)]
                    rw [esa, esb]
                    rw [if_pos (Classical.byContradiction (fun h => c93 ⟨fun g => h (Or.inl g), fun g => h (Or.inr (Or.inr (Or.inl g))), (part_iff hzb (fun g => h (Or.inl g)) (fun g => h (Or.inr (Or.inr (Or.inl g))))).2 (fun g => h (Or.inr (Or.inr (Or.inr (Or.inr g)))))⟩))]
                    exact ⟨show (-1000000000 : Int32) - nI 1 = -1000000001 from by decide, hC.er 1⟩
              · skip
                refine j_aload_n C 0 dX11_move_59 rfl ?_
                refine j_iconst C (v := (nI 5)) dX11_move_60 (by decide) ?_
                refine j_callV (As := [.int (nI 5)]) (rest := []) C vw11_90 (h_error 5 (by decide)) ⟨0, 11, _, _, rfl, rfl, rfl⟩ rfl (Nat.le_of_ble_eq_true rfl) dX11_move_61 (by decide) ?_
                rintro _ _ ⟨rfl, rfl⟩
                refine j_iret C dX11_move_64 ?_
                unfold sp_move
                rw [if_pos ⟨show inn (nI 3) 0 3 from c4, show inn (nI 1) 0 3 from c11⟩, tN_nI (n := 3) (by decide), tN_nI (n := 1) (by decide)]
                rw [if_neg (fun h => h.elim c26 c35)]
                rw [if_pos c56]
                exact ⟨show (-1000000000 : Int32) - nI 5 = -1000000005 from by decide, hC.er 5⟩
            · skip
              refine j_aload_n C 0 dX11_move_38 rfl ?_
              refine j_iconst C (v := (nI 2)) dX11_move_39 (by decide) ?_
              refine j_callV (As := [.int (nI 2)]) (rest := []) C vw11_90 (h_error 2 (by decide)) ⟨0, 11, _, _, rfl, rfl, rfl⟩ rfl (Nat.le_of_ble_eq_true rfl) dX11_move_40 (by decide) ?_
              rintro _ _ ⟨rfl, rfl⟩
              refine j_iret C dX11_move_43 ?_
              unfold sp_move
              rw [if_pos ⟨show inn (nI 3) 0 3 from c4, show inn (nI 1) 0 3 from c11⟩, tN_nI (n := 3) (by decide), tN_nI (n := 1) (by decide)]
              rw [if_pos (Or.inr c35)]
              exact ⟨show (-1000000000 : Int32) - nI 2 = -1000000002 from by decide, hC.er 2⟩
        · obtain ⟨-, zb, hzb, esb⟩ := hSh 2 (by omega)
          have hsb : S 31 = nI zb := (hC.shs 2 (by omega)).trans esb
          refine j_aload_n C 0 dX11_move_20 rfl ?_
          refine j_get C (v := .ref (q 34)) 0 7 rfl rfl inlC11 (by decide) kf11_29 rfl dX11_move_21 ?_
          refine j_iload_n C 1 dX11_move_24 rfl ?_
          refine j_ialdN C 34 0 rfl rfl 3 rfl (by omega) (by decide) dX11_move_25 ?_
          refine j_v (bo 3) (hC.shb 3 (by omega)) ?_
          refine j_if_eq C 38 dX11_move_26 (by decide) (fun c26 => ?_) (fun c26 => ?_)
          · skip
            refine j_aload_n C 0 dX11_move_38 rfl ?_
            refine j_iconst C (v := (nI 2)) dX11_move_39 (by decide) ?_
            refine j_callV (As := [.int (nI 2)]) (rest := []) C vw11_90 (h_error 2 (by decide)) ⟨0, 11, _, _, rfl, rfl, rfl⟩ rfl (Nat.le_of_ble_eq_true rfl) dX11_move_40 (by decide) ?_
            rintro _ _ ⟨rfl, rfl⟩
            refine j_iret C dX11_move_43 ?_
            unfold sp_move
            rw [if_pos ⟨show inn (nI 3) 0 3 from c4, show inn (nI 2) 0 3 from c11⟩, tN_nI (n := 3) (by decide), tN_nI (n := 2) (by decide)]
            rw [if_pos (Or.inl c26)]
            exact ⟨show (-1000000000 : Int32) - nI 2 = -1000000002 from by decide, hC.er 2⟩
          · skip
            refine j_aload_n C 0 dX11_move_29 rfl ?_
            refine j_get C (v := .ref (q 34)) 0 7 rfl rfl inlC11 (by decide) kf11_29 rfl dX11_move_30 ?_
            refine j_iload_n C 3 dX11_move_33 rfl ?_
            refine j_ialdN C 34 0 rfl rfl 2 rfl (by omega) (by decide) dX11_move_34 ?_
            refine j_v (bo 2) (hC.shb 2 (by omega)) ?_
            refine j_if_ne C 44 dX11_move_35 (by decide) (fun c35 => ?_) (fun c35 => ?_)
            · skip
              refine j_aload_n C 0 dX11_move_44 rfl ?_
              refine j_get C (v := .ref (q 34)) 0 7 rfl rfl inlC11 (by decide) kf11_29 rfl dX11_move_45 ?_
              refine j_iload_n C 1 dX11_move_48 rfl ?_
              refine j_ialdN C 34 0 rfl rfl 3 rfl (by omega) (by decide) dX11_move_49 ?_
              refine j_v (bo 3) (hC.shb 3 (by omega)) ?_
              refine j_aload_n C 0 dX11_move_50 rfl ?_
              refine j_get C (v := .ref (q 34)) 0 7 rfl rfl inlC11 (by decide) kf11_29 rfl dX11_move_51 ?_
              refine j_iload_n C 3 dX11_move_54 rfl ?_
              refine j_ialdN C 34 0 rfl rfl 2 rfl (by omega) (by decide) dX11_move_55 ?_
              refine j_v (bo 2) (hC.shb 2 (by omega)) ?_
              refine j_icmp_eq C 65 dX11_move_56 (by decide) (fun c56 => ?_) (fun c56 => ?_)
              · skip
                refine j_aload_n C 0 dX11_move_65 rfl ?_
                refine j_get C (v := .ref (q 33)) 0 6 rfl rfl inlC11 (by decide) kf11_25 rfl dX11_move_66 ?_
                refine j_iload_n C 1 dX11_move_69 rfl ?_
                refine j_aaldN C 33 2 rfl rfl 3 rfl (by decide) (by decide) rfl dX11_move_70 ?_
                refine j_iload_n C 2 dX11_move_71 rfl ?_
                refine j_iload C 5 dX11_move_72 rfl ?_
                refine j_callVN (As := [.int i, .int n]) (rest := []) C vn11_290 (h_hasPart_13) ⟨24, 8, _, _, rfl, rfl, rfl⟩ rfl (Nat.le_of_ble_eq_true rfl) dX11_move_74 (by decide) ?_
                rintro _ _ ⟨rfl, rfl⟩
                refine j_v (bI (¬ n < 0 ∧ ¬ i < 0 ∧ ¬ nI za < i ∧ ¬ nI za - i < n)) (by rw [hsa]) ?_
                refine j_if_eq C 96 dX11_move_77 (by decide) (fun c77 => ?_) (fun c77 => ?_)
                · replace c77 := bI_f c77
                  refine j_aload_n C 0 dX11_move_96 rfl ?_
                  refine j_iconst C (v := (nI 1)) dX11_move_97 (by decide) ?_
                  refine j_callV (As := [.int (nI 1)]) (rest := []) C vw11_90 (h_error 1 (by decide)) ⟨0, 11, _, _, rfl, rfl, rfl⟩ rfl (Nat.le_of_ble_eq_true rfl) dX11_move_98 (by decide) ?_
                  rintro _ _ ⟨rfl, rfl⟩
                  refine j_iret C dX11_move_101 ?_
                  unfold sp_move
                  rw [if_pos ⟨show inn (nI 3) 0 3 from c4, show inn (nI 2) 0 3 from c11⟩, tN_nI (n := 3) (by decide), tN_nI (n := 2) (by decide)]
                  rw [if_neg (fun h => h.elim c26 c35)]
                  rw [if_neg (fun h => h c56)]
                  rw [esa, esb]
                  rw [if_pos (Classical.byContradiction (fun h => c77 ⟨fun g => h (Or.inl g), fun g => h (Or.inr (Or.inl g)), (part_iff hza (fun g => h (Or.inl g)) (fun g => h (Or.inr (Or.inl g)))).2 (fun g => h (Or.inr (Or.inr (Or.inr (Or.inl g)))))⟩))]
                  exact ⟨show (-1000000000 : Int32) - nI 1 = -1000000001 from by decide, hC.er 1⟩
                · replace c77 := bI_t c77
                  refine j_aload_n C 0 dX11_move_80 rfl ?_
                  refine j_get C (v := .ref (q 33)) 0 6 rfl rfl inlC11 (by decide) kf11_25 rfl dX11_move_81 ?_
                  refine j_iload_n C 3 dX11_move_84 rfl ?_
                  refine j_aaldN C 33 2 rfl rfl 2 rfl (by decide) (by decide) rfl dX11_move_85 ?_
                  refine j_iload C 4 dX11_move_86 rfl ?_
                  refine j_iload C 5 dX11_move_88 rfl ?_
                  refine j_callVN (As := [.int j, .int n]) (rest := []) C vn11_290 (h_hasPart_12) ⟨23, 8, _, _, rfl, rfl, rfl⟩ rfl (Nat.le_of_ble_eq_true rfl) dX11_move_90 (by decide) ?_
                  rintro _ _ ⟨rfl, rfl⟩
                  refine j_v (bI (¬ n < 0 ∧ ¬ j < 0 ∧ ¬ nI zb < j ∧ ¬ nI zb - j < n)) (by rw [hsb]) ?_
                  refine j_if_ne C 102 dX11_move_93 (by decide) (fun c93 => ?_) (fun c93 => ?_)
                  · replace c93 := bI_t c93
                    obtain ⟨ii, nn, rfl, rfl, hin⟩ := part_nat hza c77
                    obtain ⟨jj, n2, rfl, en2, hjn⟩ := part_nat hzb c93
                    have en3 : nn = n2 := nI_inj40 en2 (by omega) (by omega)
                    subst en3
                    refine j_aload_n C 0 dX11_move_102 rfl ?_
                    refine j_get C (v := .ref (q 33)) 0 6 rfl rfl inlC11 (by decide) kf11_25 rfl dX11_move_103 ?_
                    refine j_iload_n C 1 dX11_move_106 rfl ?_
                    refine j_aaldN C 33 2 rfl rfl 3 rfl (by decide) (by decide) rfl dX11_move_107 ?_
                    refine j_getN C (v := .ref (q 85)) 24 0 rfl rfl inlC8 (by decide) kf11_281 rfl dX11_move_108 ?_
                    refine j_iload_n C 2 dX11_move_111 rfl ?_
                    refine j_aload_n C 0 dX11_move_112 rfl ?_
                    refine j_get C (v := .ref (q 33)) 0 6 rfl rfl inlC11 (by decide) kf11_25 rfl dX11_move_113 ?_
                    refine j_iload_n C 3 dX11_move_116 rfl ?_
                    refine j_aaldN C 33 2 rfl rfl 2 rfl (by decide) (by decide) rfl dX11_move_117 ?_
                    refine j_getN C (v := .ref (q 84)) 23 0 rfl rfl inlC8 (by decide) kf11_281 rfl dX11_move_118 ?_
                    refine j_iload C 4 dX11_move_121 rfl ?_
                    refine j_iload C 5 dX11_move_123 rfl ?_
                    refine j_copy (rest := []) C 85 84 0 ac11_293 rfl rfl rfl ii jj nn (by omega) (by omega) (by decide) (by decide) (by decide) (Nat.le_of_ble_eq_true rfl) dX11_move_125 (S, va_up X 84 (va_cpy (X 85) (X 84) ii jj nn), P) rfl ?_
                    refine j_iload C 5 dX11_move_128 rfl ?_
                    refine j_iret C dX11_move_130 ?_
                    unfold sp_move
                    rw [if_pos ⟨show inn (nI 3) 0 3 from c4, show inn (nI 2) 0 3 from c11⟩, tN_nI (n := 3) (by decide), tN_nI (n := 2) (by decide)]
                    rw [if_neg (fun h => h.elim c26 c35)]
                    rw [if_neg (fun h => h c56)]
                    rw [esa, esb]
                    rw [if_neg (fun h => h.elim c77.1 (fun h => h.elim c77.2.1 (fun h => h.elim c93.2.1 (fun h => h.elim (fun g => (part_iff hza c77.1 c77.2.1).1 c77.2.2 g) (fun g => (part_iff hzb c93.1 c93.2.1).1 c93.2.2 g))))), tN_nI (n := ii) (by omega), tN_nI (n := jj) (by omega), tN_nI (n := nn) (by omega)]
                    exact ⟨rfl, hC.mov hSh 3 2 (by omega) (by omega) ii jj nn za zb esa hza (by omega) esb hzb (by omega)⟩
                  · replace c93 := bI_f c93
                    refine j_aload_n C 0 dX11_move_96 rfl ?_
                    refine j_iconst C (v := (nI 1)) dX11_move_97 (by decide) ?_
                    refine j_callV (As := [.int (nI 1)]) (rest := []) C vw11_90 (h_error 1 (by decide)) ⟨0, 11, _, _, rfl, rfl, rfl⟩ rfl (Nat.le_of_ble_eq_true rfl) dX11_move_98 (by decide) ?_
                    rintro _ _ ⟨rfl, rfl⟩
                    refine j_iret C dX11_move_101 ?_
                    unfold sp_move
                    rw [if_pos ⟨show inn (nI 3) 0 3 from c4, show inn (nI 2) 0 3 from c11⟩, tN_nI (n := 3) (by decide), tN_nI (n := 2) (by decide)]
                    rw [if_neg (fun h => h.elim c26 c35)]
                    rw [if_neg (fun h => h c56)]
                    rw [esa, esb]
                    rw [if_pos (Classical.byContradiction (fun h => c93 ⟨fun g => h (Or.inl g), fun g => h (Or.inr (Or.inr (Or.inl g))), (part_iff hzb (fun g => h (Or.inl g)) (fun g => h (Or.inr (Or.inr (Or.inl g))))).2 (fun g => h (Or.inr (Or.inr (Or.inr (Or.inr g)))))⟩))]
                    exact ⟨show (-1000000000 : Int32) - nI 1 = -1000000001 from by decide, hC.er 1⟩
              · skip
                refine j_aload_n C 0 dX11_move_59 rfl ?_
                refine j_iconst C (v := (nI 5)) dX11_move_60 (by decide) ?_
                refine j_callV (As := [.int (nI 5)]) (rest := []) C vw11_90 (h_error 5 (by decide)) ⟨0, 11, _, _, rfl, rfl, rfl⟩ rfl (Nat.le_of_ble_eq_true rfl) dX11_move_61 (by decide) ?_
                rintro _ _ ⟨rfl, rfl⟩
                refine j_iret C dX11_move_64 ?_
                unfold sp_move
                rw [if_pos ⟨show inn (nI 3) 0 3 from c4, show inn (nI 2) 0 3 from c11⟩, tN_nI (n := 3) (by decide), tN_nI (n := 2) (by decide)]
                rw [if_neg (fun h => h.elim c26 c35)]
                rw [if_pos c56]
                exact ⟨show (-1000000000 : Int32) - nI 5 = -1000000005 from by decide, hC.er 5⟩
            · skip
              refine j_aload_n C 0 dX11_move_38 rfl ?_
              refine j_iconst C (v := (nI 2)) dX11_move_39 (by decide) ?_
              refine j_callV (As := [.int (nI 2)]) (rest := []) C vw11_90 (h_error 2 (by decide)) ⟨0, 11, _, _, rfl, rfl, rfl⟩ rfl (Nat.le_of_ble_eq_true rfl) dX11_move_40 (by decide) ?_
              rintro _ _ ⟨rfl, rfl⟩
              refine j_iret C dX11_move_43 ?_
              unfold sp_move
              rw [if_pos ⟨show inn (nI 3) 0 3 from c4, show inn (nI 2) 0 3 from c11⟩, tN_nI (n := 3) (by decide), tN_nI (n := 2) (by decide)]
              rw [if_pos (Or.inr c35)]
              exact ⟨show (-1000000000 : Int32) - nI 2 = -1000000002 from by decide, hC.er 2⟩
        · obtain ⟨-, zb, hzb, esb⟩ := hSh 3 (by omega)
          have hsb : S 32 = nI zb := (hC.shs 3 (by omega)).trans esb
          refine j_aload_n C 0 dX11_move_20 rfl ?_
          refine j_get C (v := .ref (q 34)) 0 7 rfl rfl inlC11 (by decide) kf11_29 rfl dX11_move_21 ?_
          refine j_iload_n C 1 dX11_move_24 rfl ?_
          refine j_ialdN C 34 0 rfl rfl 3 rfl (by omega) (by decide) dX11_move_25 ?_
          refine j_v (bo 3) (hC.shb 3 (by omega)) ?_
          refine j_if_eq C 38 dX11_move_26 (by decide) (fun c26 => ?_) (fun c26 => ?_)
          · skip
            refine j_aload_n C 0 dX11_move_38 rfl ?_
            refine j_iconst C (v := (nI 2)) dX11_move_39 (by decide) ?_
            refine j_callV (As := [.int (nI 2)]) (rest := []) C vw11_90 (h_error 2 (by decide)) ⟨0, 11, _, _, rfl, rfl, rfl⟩ rfl (Nat.le_of_ble_eq_true rfl) dX11_move_40 (by decide) ?_
            rintro _ _ ⟨rfl, rfl⟩
            refine j_iret C dX11_move_43 ?_
            unfold sp_move
            rw [if_pos ⟨show inn (nI 3) 0 3 from c4, show inn (nI 3) 0 3 from c11⟩, tN_nI (n := 3) (by decide)]
            rw [if_pos (Or.inl c26)]
            exact ⟨show (-1000000000 : Int32) - nI 2 = -1000000002 from by decide, hC.er 2⟩
          · skip
            refine j_aload_n C 0 dX11_move_29 rfl ?_
            refine j_get C (v := .ref (q 34)) 0 7 rfl rfl inlC11 (by decide) kf11_29 rfl dX11_move_30 ?_
            refine j_iload_n C 3 dX11_move_33 rfl ?_
            refine j_ialdN C 34 0 rfl rfl 3 rfl (by omega) (by decide) dX11_move_34 ?_
            refine j_v (bo 3) (hC.shb 3 (by omega)) ?_
            refine j_if_ne C 44 dX11_move_35 (by decide) (fun c35 => ?_) (fun c35 => ?_)
            · skip
              refine j_aload_n C 0 dX11_move_44 rfl ?_
              refine j_get C (v := .ref (q 34)) 0 7 rfl rfl inlC11 (by decide) kf11_29 rfl dX11_move_45 ?_
              refine j_iload_n C 1 dX11_move_48 rfl ?_
              refine j_ialdN C 34 0 rfl rfl 3 rfl (by omega) (by decide) dX11_move_49 ?_
              refine j_v (bo 3) (hC.shb 3 (by omega)) ?_
              refine j_aload_n C 0 dX11_move_50 rfl ?_
              refine j_get C (v := .ref (q 34)) 0 7 rfl rfl inlC11 (by decide) kf11_29 rfl dX11_move_51 ?_
              refine j_iload_n C 3 dX11_move_54 rfl ?_
              refine j_ialdN C 34 0 rfl rfl 3 rfl (by omega) (by decide) dX11_move_55 ?_
              refine j_v (bo 3) (hC.shb 3 (by omega)) ?_
              refine j_icmp_eq C 65 dX11_move_56 (by decide) (fun c56 => ?_) (fun c56 => ?_)
              · skip
                refine j_aload_n C 0 dX11_move_65 rfl ?_
                refine j_get C (v := .ref (q 33)) 0 6 rfl rfl inlC11 (by decide) kf11_25 rfl dX11_move_66 ?_
                refine j_iload_n C 1 dX11_move_69 rfl ?_
                refine j_aaldN C 33 2 rfl rfl 3 rfl (by decide) (by decide) rfl dX11_move_70 ?_
                refine j_iload_n C 2 dX11_move_71 rfl ?_
                refine j_iload C 5 dX11_move_72 rfl ?_
                refine j_callVN (As := [.int i, .int n]) (rest := []) C vn11_290 (h_hasPart_13) ⟨24, 8, _, _, rfl, rfl, rfl⟩ rfl (Nat.le_of_ble_eq_true rfl) dX11_move_74 (by decide) ?_
                rintro _ _ ⟨rfl, rfl⟩
                refine j_v (bI (¬ n < 0 ∧ ¬ i < 0 ∧ ¬ nI za < i ∧ ¬ nI za - i < n)) (by rw [hsa]) ?_
                refine j_if_eq C 96 dX11_move_77 (by decide) (fun c77 => ?_) (fun c77 => ?_)
                · replace c77 := bI_f c77
                  refine j_aload_n C 0 dX11_move_96 rfl ?_
                  refine j_iconst C (v := (nI 1)) dX11_move_97 (by decide) ?_
                  refine j_callV (As := [.int (nI 1)]) (rest := []) C vw11_90 (h_error 1 (by decide)) ⟨0, 11, _, _, rfl, rfl, rfl⟩ rfl (Nat.le_of_ble_eq_true rfl) dX11_move_98 (by decide) ?_
                  rintro _ _ ⟨rfl, rfl⟩
                  refine j_iret C dX11_move_101 ?_
                  unfold sp_move
                  rw [if_pos ⟨show inn (nI 3) 0 3 from c4, show inn (nI 3) 0 3 from c11⟩, tN_nI (n := 3) (by decide)]
                  rw [if_neg (fun h => h.elim c26 c26)]
                  rw [if_neg (fun h => h rfl)]
                  rw [esa]
                  rw [if_pos (Classical.byContradiction (fun h => c77 ⟨fun g => h (Or.inl g), fun g => h (Or.inr (Or.inl g)), (part_iff hza (fun g => h (Or.inl g)) (fun g => h (Or.inr (Or.inl g)))).2 (fun g => h (Or.inr (Or.inr (Or.inr (Or.inl g)))))⟩))]
                  exact ⟨show (-1000000000 : Int32) - nI 1 = -1000000001 from by decide, hC.er 1⟩
                · replace c77 := bI_t c77
                  refine j_aload_n C 0 dX11_move_80 rfl ?_
                  refine j_get C (v := .ref (q 33)) 0 6 rfl rfl inlC11 (by decide) kf11_25 rfl dX11_move_81 ?_
                  refine j_iload_n C 3 dX11_move_84 rfl ?_
                  refine j_aaldN C 33 2 rfl rfl 3 rfl (by decide) (by decide) rfl dX11_move_85 ?_
                  refine j_iload C 4 dX11_move_86 rfl ?_
                  refine j_iload C 5 dX11_move_88 rfl ?_
                  refine j_callVN (As := [.int j, .int n]) (rest := []) C vn11_290 (h_hasPart_13) ⟨24, 8, _, _, rfl, rfl, rfl⟩ rfl (Nat.le_of_ble_eq_true rfl) dX11_move_90 (by decide) ?_
                  rintro _ _ ⟨rfl, rfl⟩
                  refine j_v (bI (¬ n < 0 ∧ ¬ j < 0 ∧ ¬ nI zb < j ∧ ¬ nI zb - j < n)) (by rw [hsb]) ?_
                  refine j_if_ne C 102 dX11_move_93 (by decide) (fun c93 => ?_) (fun c93 => ?_)
                  · replace c93 := bI_t c93
                    obtain ⟨ii, nn, rfl, rfl, hin⟩ := part_nat hza c77
                    obtain ⟨jj, n2, rfl, en2, hjn⟩ := part_nat hzb c93
                    have en3 : nn = n2 := nI_inj40 en2 (by omega) (by omega)
                    subst en3
                    refine j_aload_n C 0 dX11_move_102 rfl ?_
                    refine j_get C (v := .ref (q 33)) 0 6 rfl rfl inlC11 (by decide) kf11_25 rfl dX11_move_103 ?_
                    refine j_iload_n C 1 dX11_move_106 rfl ?_
                    refine j_aaldN C 33 2 rfl rfl 3 rfl (by decide) (by decide) rfl dX11_move_107 ?_
                    refine j_getN C (v := .ref (q 85)) 24 0 rfl rfl inlC8 (by decide) kf11_281 rfl dX11_move_108 ?_
                    refine j_iload_n C 2 dX11_move_111 rfl ?_
                    refine j_aload_n C 0 dX11_move_112 rfl ?_
                    refine j_get C (v := .ref (q 33)) 0 6 rfl rfl inlC11 (by decide) kf11_25 rfl dX11_move_113 ?_
                    refine j_iload_n C 3 dX11_move_116 rfl ?_
                    refine j_aaldN C 33 2 rfl rfl 3 rfl (by decide) (by decide) rfl dX11_move_117 ?_
                    refine j_getN C (v := .ref (q 85)) 24 0 rfl rfl inlC8 (by decide) kf11_281 rfl dX11_move_118 ?_
                    refine j_iload C 4 dX11_move_121 rfl ?_
                    refine j_iload C 5 dX11_move_123 rfl ?_
                    refine j_copy (rest := []) C 85 85 0 ac11_293 rfl rfl rfl ii jj nn (by omega) (by omega) (by decide) (by decide) (by decide) (Nat.le_of_ble_eq_true rfl) dX11_move_125 (S, va_up X 85 (va_cpy (X 85) (X 85) ii jj nn), P) rfl ?_
                    refine j_iload C 5 dX11_move_128 rfl ?_
                    refine j_iret C dX11_move_130 ?_
                    unfold sp_move
                    rw [if_pos ⟨show inn (nI 3) 0 3 from c4, show inn (nI 3) 0 3 from c11⟩, tN_nI (n := 3) (by decide)]
                    rw [if_neg (fun h => h.elim c26 c26)]
                    rw [if_neg (fun h => h rfl)]
                    rw [esa]
                    rw [if_neg (fun h => h.elim c77.1 (fun h => h.elim c77.2.1 (fun h => h.elim c93.2.1 (fun h => h.elim (fun g => (part_iff hza c77.1 c77.2.1).1 c77.2.2 g) (fun g => (part_iff hzb c93.1 c93.2.1).1 c93.2.2 (by rw [← esb, esa]; exact g)))))), tN_nI (n := ii) (by omega), tN_nI (n := jj) (by omega), tN_nI (n := nn) (by omega)]
                    exact ⟨rfl, hC.mov hSh 3 3 (by omega) (by omega) ii jj nn za zb esa hza (by omega) esb hzb (by omega)⟩
                  · replace c93 := bI_f c93
                    refine j_aload_n C 0 dX11_move_96 rfl ?_
                    refine j_iconst C (v := (nI 1)) dX11_move_97 (by decide) ?_
                    refine j_callV (As := [.int (nI 1)]) (rest := []) C vw11_90 (h_error 1 (by decide)) ⟨0, 11, _, _, rfl, rfl, rfl⟩ rfl (Nat.le_of_ble_eq_true rfl) dX11_move_98 (by decide) ?_
                    rintro _ _ ⟨rfl, rfl⟩
                    refine j_iret C dX11_move_101 ?_
                    unfold sp_move
                    rw [if_pos ⟨show inn (nI 3) 0 3 from c4, show inn (nI 3) 0 3 from c11⟩, tN_nI (n := 3) (by decide)]
                    rw [if_neg (fun h => h.elim c26 c26)]
                    rw [if_neg (fun h => h rfl)]
                    rw [esa]
                    rw [if_pos (Classical.byContradiction (fun h => c93 ⟨fun g => h (Or.inl g), fun g => h (Or.inr (Or.inr (Or.inl g))), (part_iff hzb (fun g => h (Or.inl g)) (fun g => h (Or.inr (Or.inr (Or.inl g))))).2 (fun g => h (Or.inr (Or.inr (Or.inr (Or.inr (by rw [← esa, esb]; exact g))))))⟩))]
                    exact ⟨show (-1000000000 : Int32) - nI 1 = -1000000001 from by decide, hC.er 1⟩
              · skip
                refine j_aload_n C 0 dX11_move_59 rfl ?_
                refine j_iconst C (v := (nI 5)) dX11_move_60 (by decide) ?_
                refine j_callV (As := [.int (nI 5)]) (rest := []) C vw11_90 (h_error 5 (by decide)) ⟨0, 11, _, _, rfl, rfl, rfl⟩ rfl (Nat.le_of_ble_eq_true rfl) dX11_move_61 (by decide) ?_
                rintro _ _ ⟨rfl, rfl⟩
                refine j_iret C dX11_move_64 ?_
                unfold sp_move
                rw [if_pos ⟨show inn (nI 3) 0 3 from c4, show inn (nI 3) 0 3 from c11⟩, tN_nI (n := 3) (by decide)]
                rw [if_neg (fun h => h.elim c26 c26)]
                rw [if_pos c56]
                exact ⟨show (-1000000000 : Int32) - nI 5 = -1000000005 from by decide, hC.er 5⟩
            · skip
              exact absurd c35 c26
    · replace c11 := bI_f c11
      refine j_aload_n C 0 dX11_move_14 rfl ?_
      refine j_iconst C (v := (nI 1)) dX11_move_15 (by decide) ?_
      refine j_callV (As := [.int (nI 1)]) (rest := []) C vw11_90 (h_error 1 (by decide)) ⟨0, 11, _, _, rfl, rfl, rfl⟩ rfl (Nat.le_of_ble_eq_true rfl) dX11_move_16 (by decide) ?_
      rintro _ _ ⟨rfl, rfl⟩
      refine j_iret C dX11_move_19 ?_
      unfold sp_move
      rw [if_neg (fun h => c11 h.2)]
      exact ⟨show (-1000000000 : Int32) - nI 1 = -1000000001 from by decide, hC.er 1⟩

/-! The class's public calls: first ones. -/
theorem CF.cg {S S' : Nat → Int32} {X X' : Nat → Nat → Int32} {f : Nat} {row row' w w' : Nat → Int32} {nc np : Nat} (h : CF S X f row w nc np) (hS : ∀ k, 5 + 3 * f ≤ k → k ≤ 7 + 3 * f → S' k = S k) (hX : ∀ k, 36 + 10 * f ≤ k → k ≤ 43 + 10 * f → X' k = X k) (hw : ∀ p, p < np → X' (44 + 10 * f) p = w' p) (hr : ∀ k, k = 0 ∨ k = 2 ∨ k = 3 ∨ (10 ≤ k ∧ k < 66) → row' k = row k) (hc : nc ≤ 10) (hn : np ≤ 6) : CF S' X' f row' w' nc np := by
  refine ⟨?_, ?_, ?_, fun c hc => ?_, fun c hc => ?_, fun j hj p hp => ?_, hw⟩
  · rw [hS _ (by omega) (by omega), hr 2 (by omega)]; exact h.cells
  · rw [hS _ (by omega) (by omega), hr 0 (by omega)]; exact h.dawn
  · rw [hS _ (by omega) (by omega), hr 3 (by omega)]; exact h.people
  · rw [hX _ (by omega) (by omega), hr _ (by omega)]; exact h.ears c hc
  · rw [hX _ (by omega) (by omega), hr _ (by omega)]; exact h.low c hc
  · rw [hX _ (by omega) (by omega), hr _ (by omega)]; exact h.per j hj p hp
theorem CF.st {S S' : Nat → Int32} {X X' : Nat → Nat → Int32} {f : Nat} {row : Nat → Int32} {nc np : Nat} (h : CF S X f row (X (44 + 10 * f)) nc np) (hS : ∀ k, 5 + 3 * f ≤ k → k ≤ 7 + 3 * f → S' k = S k) (hX : ∀ k, 36 + 10 * f ≤ k → k ≤ 44 + 10 * f → X' k = X k) : CF S' X' f row (X' (44 + 10 * f)) nc np := by
  refine ⟨?_, ?_, ?_, fun c hc => ?_, fun c hc => ?_, fun j hj p hp => ?_, fun _ _ => rfl⟩
  · rw [hS _ (by omega) (by omega)]; exact h.cells
  · rw [hS _ (by omega) (by omega)]; exact h.dawn
  · rw [hS _ (by omega) (by omega)]; exact h.people
  · rw [hX _ (by omega) (by omega)]; exact h.ears c hc
  · rw [hX _ (by omega) (by omega)]; exact h.low c hc
  · rw [hX _ (by omega) (by omega)]; exact h.per j hj p hp
theorem CK.st {S S' : Nat → Int32} {X X' : Nat → Nat → Int32} {u : Nat} {row : Nat → Int32} {nw nt nq : Nat} (h : CK S X u row nw nt nq) (hS : ∀ k, (1 + 2 * u ≤ k ∧ k ≤ 2 + 2 * u) ∨ (19 + 2 * u ≤ k ∧ k ≤ 20 + 2 * u) → S' k = S k) (hX : ∀ k, (66 + 3 * u ≤ k ∧ k < 69 + 3 * u) ∨ (72 + 2 * u ≤ k ∧ k ≤ 73 + 2 * u) → X' k = X k) : CK S' X' u row nw nt nq := by
  refine ⟨?_, ?_, fun j hj i hi => ?_, ?_, fun i hi => ?_, ?_, fun i hi => ?_⟩
  · rw [hS _ (by omega)]; exact h.wrongs
  · rw [hS _ (by omega)]; exact h.z
  · rw [hX _ (by omega)]; exact h.wr j hj i hi
  · rw [hS _ (by omega)]; exact h.tsz
  · rw [hX _ (by omega)]; exact h.tape i hi
  · rw [hS _ (by omega)]; exact h.qsz
  · rw [hX _ (by omega)]; exact h.wait i hi
theorem CLaw.st {S S' : Nat → Int32} {X X' : Nat → Nat → Int32} {lam : Nat} {row row' : Nat → Int32} {u : Nat} (h : CLaw S X lam row u) (hu : u ≤ 1) (hS : S' (23 + lam) = S (23 + lam)) (hX : X' (76 + lam) = X (76 + lam)) (hr : ∀ k, (6 ≤ k ∧ k ≤ 7) ∨ 160 ≤ k → row' k = row k) : CLaw S' X' lam row' u := by
  have ht : txF row' u = txF row u := by funext k; exact hr _ (by omega)
  unfold CLaw
  rw [hS, hX, ht, hr (6 + u) (by omega)]; exact h
def RsS (S' S : Nat → Int32) : Prop := ∀ k, k = 0 ∨ k = 3 ∨ k = 4 ∨ (8 ≤ k ∧ k ≤ 10) ∨ k = 21 ∨ k = 22 ∨ k = 25 ∨ k = 26 ∨ 28 ≤ k → S' k = S k
def RsX (X' X : Nat → Nat → Int32) : Prop := ∀ k, k = 34 ∨ k = 35 ∨ (46 ≤ k ∧ k ≤ 55) ∨ (69 ≤ k ∧ k ≤ 71) ∨ k = 74 ∨ k = 75 ∨ k = 78 ∨ k = 79 ∨ (81 ≤ k ∧ k ≤ 85) → X' k = X k
/-- a call that changes what is now, and nothing else -/
theorem CR.now {S S' : Nat → Int32} {X X' : Nat → Nat → Int32} {P P' : Nat → Nat} {V row row' kept tried bf fd pk bo so sh mv tr : Nat → Int32} (h : CR (S, X, P) (sR V row kept tried bf fd pk bo so sh mv tr)) (hS : RsS S' S) (hX : RsX X' X) (h1 : CF S' X' 0 row' (X' 44) (tN (row' 2)) (tN (row' 3))) (h2 : CK S' X' 0 row' (tN (row' 8)) (tN (row' 4)) (tN (row' 5))) (h3 : CLaw S' X' 0 row' 0) (h4 : CLaw S' X' 1 row' 1) : CR (S', X', P') (sR V row' kept tried bf fd pk bo so sh mv tr) := by
  refine ⟨h1, h2, h3, h4, fun g => ?_, ?_, fun k hk => ?_, ?_, fun k hk => ?_, fun s hs => ?_, fun s hs => ?_, fun s hs i hi => ?_⟩
  · obtain ⟨a, b, c, d⟩ := h.img g
    exact ⟨CF.st (f := 1) a (fun k _ _ => hS k (by omega)) (fun k _ _ => hX k (by omega)), b.st (fun k _ => hS k (by omega)) (fun k _ => hX k (by omega)), c.st (by omega) (hS _ (by omega)) (hX _ (by omega)) (fun _ _ => rfl), d.st (by omega) (hS _ (by omega)) (hX _ (by omega)) (fun _ _ => rfl)⟩
  · exact (hS 0 (by omega)).trans h.ims
  · exact (congrFun (hX 35 (by omega)) k).trans (h.err k hk)
  · exact (hS 28 (by omega)).trans h.bsz
  · exact (congrFun (hX 81 (by omega)) k).trans (h.bod k hk)
  · exact (congrFun (hX 34 (by omega)) s).trans (h.shb s hs)
  · exact (hS (29 + s) (by omega)).trans (h.shs s hs)
  · exact (congrFun (hX (82 + s) (by omega)) i).trans (h.shi s hs i hi)

theorem CK.setZ {S : Nat → Int32} {X : Nat → Nat → Int32} {row : Nat → Int32} {nw nt nq : Nat} (h : CK S X 0 row nw nt nq) (hq : nw ≤ 8) (v : Int32) : CK (upd S 2 v) X 0 (upd row 1 v) nw nt nq := by
  refine ⟨?_, ?_, fun j hj i hi => ?_, ?_, fun i hi => ?_, ?_, fun i hi => ?_⟩
  · rw [pk_un (by omega), pk_un (by omega)]; exact h.wrongs
  · rw [pk_us, pk_us]
  · rw [pk_un (by omega)]; exact h.wr j hj i hi
  · rw [pk_un (by omega), pk_un (by omega)]; exact h.tsz
  · rw [pk_un (by omega)]; exact h.tape i hi
  · rw [pk_un (by omega), pk_un (by omega)]; exact h.qsz
  · rw [pk_un (by omega)]; exact h.wait i hi
theorem CK.setB {S : Nat → Int32} {X : Nat → Nat → Int32} {row : Nat → Int32} {nw nt nq : Nat} (h : CK S X 0 row nw nt nq) (hq : nw ≤ 8) (i : Nat) (hi : i < nw) (j : Nat) (hj : j < 3) (v : Int32) : CK S (va_up X (66 + j) (upd (X (66 + j)) i v)) 0 (upd row (66 + 3 * i + j) v) nw nt nq := by
  refine ⟨?_, ?_, fun a ha b hb => ?_, ?_, fun b hb => ?_, ?_, fun b hb => ?_⟩
  · rw [pk_un (by omega)]; exact h.wrongs
  · rw [pk_un (by omega)]; exact h.z
  · by_cases e : a = j
    · subst e
      show va_up X (66 + a) (upd (X (66 + a)) i v) (66 + a) b = _
      rw [va_s]
      by_cases g : b = i
      · subst g; rw [pk_us, pk_us]
      · rw [pk_un g, pk_un (by omega)]; exact h.wr a ha b hb
    · rw [va_n (by omega), pk_un (by omega)]; exact h.wr a ha b hb
  · rw [pk_un (by omega)]; exact h.tsz
  · rw [va_n (by omega), pk_un (by omega)]; exact h.tape b hb
  · rw [pk_un (by omega)]; exact h.qsz
  · rw [va_n (by omega), pk_un (by omega)]; exact h.wait b hb
theorem CR.nowx {S S' : Nat → Int32} {X X' : Nat → Nat → Int32} {P P' : Nat → Nat} {V row row' kept tried bf fd pk bo so sh mv tr : Nat → Int32} {nc np nw nt nq : Nat} (h : CR (S, X, P) (sR V row kept tried bf fd pk bo so sh mv tr)) (hS : RsS S' S) (hX : RsX X' X) (e2 : row' 2 = nI nc) (e3 : row' 3 = nI np) (e8 : row' 8 = nI nw) (e4 : row' 4 = nI nt) (e5 : row' 5 = nI nq) (hb : nc ≤ 10 ∧ np ≤ 6 ∧ nw ≤ 8 ∧ nt ≤ 50 ∧ nq ≤ 20) (h1 : CF S' X' 0 row' (X' 44) nc np) (h2 : CK S' X' 0 row' nw nt nq) (h3 : CLaw S' X' 0 row' 0) (h4 : CLaw S' X' 1 row' 1) : CR (S', X', P') (sR V row' kept tried bf fd pk bo so sh mv tr) := by
  refine h.now hS hX ?_ ?_ h3 h4
  · rw [e2, e3, tN_nI (by omega), tN_nI (by omega)]; exact h1
  · rw [e8, e4, e5, tN_nI (by omega), tN_nI (by omega), tN_nI (by omega)]; exact h2
theorem tN_le {x : Int32} {n M : Nat} (e : x = nI n) (h : n ≤ M) (hM : M < 2 ^ 31) : tN x ≤ M := by rw [e, tN_nI (by omega)]; exact h

theorem dX11_seed_0 : decode cX11_seed 0 = .ok (.aload_n 0, 1) := by decide +kernel
theorem dX11_seed_1 : decode cX11_seed 1 = .ok (.getfield 75, 3) := by decide +kernel
theorem dX11_seed_4 : decode cX11_seed 4 = .ok (.getfield 262, 3) := by decide +kernel
theorem dX11_seed_7 : decode cX11_seed 7 = .ok (.istore_n 2, 1) := by decide +kernel
theorem dX11_seed_8 : decode cX11_seed 8 = .ok (.aload_n 0, 1) := by decide +kernel
theorem dX11_seed_9 : decode cX11_seed 9 = .ok (.getfield 75, 3) := by decide +kernel
theorem dX11_seed_12 : decode cX11_seed 12 = .ok (.iload_n 1, 1) := by decide +kernel
theorem dX11_seed_13 : decode cX11_seed 13 = .ok (.putfield 262, 3) := by decide +kernel
theorem dX11_seed_16 : decode cX11_seed 16 = .ok (.iload_n 2, 1) := by decide +kernel
theorem dX11_seed_17 : decode cX11_seed 17 = .ok (.ireturn, 1) := by decide +kernel
set_option maxHeartbeats 2000000 in
set_option maxRecDepth 20000 in
theorem k_seed {l : Launch} {D : va_G} {cI cG cW : ClassId} {q : Nat → Nat} {S : Nat → Int32} {X : Nat → Nat → Int32} {P : Nat → Nat} {v : Int32} {V row kept tried bf fd pk bo so sh mv tr : Nat → Int32} {nc np nw d nt nq : Nat} (hR : RKx row nc np nw d nt nq) (hC : CR (S, X, P) (sR V row kept tried bf fd pk bo so sh mv tr)) : Ci l yX11_seed cX11_seed 3 (some .int) 1 D (tyL cI cG cW) (wC cI cG cW q) [.ref (q 0), .int v] (S, X, P) (fun r τ => r = (sp_seed V row kept tried bf fd pk bo so sh mv tr v).1 ∧ CR τ (sp_seed V row kept tried bf fd pk bo so sh mv tr v).2) := by
  refine Ci.of (by decide) (Nat.le_of_ble_eq_true rfl) ?_
  intro p_ e_ s_ m_ b_ M_ c_ A_ C
  replace C : Cx _ _ _ _ _ _ _ _ RX11 _ _ _ _ := C
  refine j_L [0, 1] [(0, .ref (q 0)), (1, .int v)] rfl ?_
  obtain ⟨hI, hW, ⟨e0, hd⟩, ⟨e4, ht⟩, ⟨e5, hq⟩, hB⟩ := id hR
  obtain ⟨⟨e2, hc2, hc10⟩, ⟨e3, hn6⟩, ⟨e8, hw8⟩, hP, hE, hLo, hT0, hT1⟩ := id hI
  have hIc := hI
  have hF : CF S X 0 row (X 44) nc np := by have h := hC.fld; rw [e2, e3, tN_nI (by omega), tN_nI (by omega)] at h; exact h
  have hK : CK S X 0 row nw nt nq := by have h := hC.kp; rw [e8, e4, e5, tN_nI (by omega), tN_nI (by omega), tN_nI (by omega)] at h; exact h
  have hS1 : S 1 = row 8 := hK.wrongs
  have hS5 : S 5 = row 2 := hF.cells
  have hS7 : S 7 = row 3 := hF.people
  refine j_aload_n C 0 dX11_seed_0 rfl ?_
  refine j_get C (v := .ref (q 1)) 0 1 rfl rfl inlC11 (by decide) kf11_75 rfl dX11_seed_1 ?_
  refine j_getN C (v := .int (S 2)) 1 7 rfl rfl inlC3 (by decide) kf11_262 rfl dX11_seed_4 ?_
  refine j_istore_n C [(2, .int (S 2)), (0, .ref (q 0)), (1, .int v)] dX11_seed_7 (by decide) rfl ?_
  refine j_aload_n C 1 dX11_seed_8 rfl ?_
  refine j_get C (v := .ref (q 1)) 0 1 rfl rfl inlC11 (by decide) kf11_75 rfl dX11_seed_9 ?_
  refine j_iload_n C 2 dX11_seed_12 rfl ?_
  refine j_putN C 1 7 rfl rfl inlC3 tyX3 tyX3_ok nmX3 (by decide) kf11_262 rfl (ty := .int) (by decide +kernel) rfl rfl (Nat.le_of_ble_eq_true rfl) dX11_seed_13 (upd S 2 v, X, P) rfl ?_
  refine j_iload_n C 0 dX11_seed_16 rfl ?_
  refine j_iret C dX11_seed_17 ?_
  unfold sp_seed
  exact ⟨hK.z, hC.now (fun k hk => pk_un (by omega)) (fun k hk => rfl) (hC.fld.cg (fun k _ _ => pk_un (by omega)) (fun k _ _ => rfl) (fun _ _ => rfl) (fun k hk => pk_un (by omega)) (tN_le e2 hc10 (by omega)) (tN_le e3 hn6 (by omega))) (hC.kp.setZ (tN_le e8 hw8 (by omega)) v) (hC.l0.st (by omega) (pk_un (by omega)) rfl (fun k hk => pk_un (by omega))) (hC.l1.st (by omega) (pk_un (by omega)) rfl (fun k hk => pk_un (by omega)))⟩
theorem dX11_ofWrong_0 : decode cX11_ofWrong 0 = .ok (.aload_n 0, 1) := by decide +kernel
theorem dX11_ofWrong_1 : decode cX11_ofWrong 1 = .ok (.iload_n 1, 1) := by decide +kernel
theorem dX11_ofWrong_2 : decode cX11_ofWrong 2 = .ok (.invokevirtual 170, 3) := by decide +kernel
theorem dX11_ofWrong_5 : decode cX11_ofWrong 5 = .ok (.ifCond .eq 12, 3) := by decide +kernel
theorem dX11_ofWrong_8 : decode cX11_ofWrong 8 = .ok (.iload_n 2, 1) := by decide +kernel
theorem dX11_ofWrong_9 : decode cX11_ofWrong 9 = .ok (.iconst 0, 1) := by decide +kernel
theorem dX11_ofWrong_10 : decode cX11_ofWrong 10 = .ok (.iconst 2, 1) := by decide +kernel
theorem dX11_ofWrong_11 : decode cX11_ofWrong 11 = .ok (.invokestatic 86, 3) := by decide +kernel
theorem dX11_ofWrong_14 : decode cX11_ofWrong 14 = .ok (.ifCond .ne 9, 3) := by decide +kernel
theorem dX11_ofWrong_17 : decode cX11_ofWrong 17 = .ok (.aload_n 0, 1) := by decide +kernel
theorem dX11_ofWrong_18 : decode cX11_ofWrong 18 = .ok (.iconst 1, 1) := by decide +kernel
theorem dX11_ofWrong_19 : decode cX11_ofWrong 19 = .ok (.invokevirtual 90, 3) := by decide +kernel
theorem dX11_ofWrong_22 : decode cX11_ofWrong 22 = .ok (.ireturn, 1) := by decide +kernel
theorem dX11_ofWrong_23 : decode cX11_ofWrong 23 = .ok (.iload_n 2, 1) := by decide +kernel
theorem dX11_ofWrong_24 : decode cX11_ofWrong 24 = .ok (.lookupswitch 48 #[(0, 28), (1, 38)], 28) := by decide +kernel
theorem dX11_ofWrong_52 : decode cX11_ofWrong 52 = .ok (.aload_n 0, 1) := by decide +kernel
theorem dX11_ofWrong_53 : decode cX11_ofWrong 53 = .ok (.getfield 75, 3) := by decide +kernel
theorem dX11_ofWrong_56 : decode cX11_ofWrong 56 = .ok (.getfield 173, 3) := by decide +kernel
theorem dX11_ofWrong_59 : decode cX11_ofWrong 59 = .ok (.iload_n 1, 1) := by decide +kernel
theorem dX11_ofWrong_60 : decode cX11_ofWrong 60 = .ok (.iaload, 1) := by decide +kernel
theorem dX11_ofWrong_61 : decode cX11_ofWrong 61 = .ok (.ireturn, 1) := by decide +kernel
theorem dX11_ofWrong_62 : decode cX11_ofWrong 62 = .ok (.aload_n 0, 1) := by decide +kernel
theorem dX11_ofWrong_63 : decode cX11_ofWrong 63 = .ok (.getfield 75, 3) := by decide +kernel
theorem dX11_ofWrong_66 : decode cX11_ofWrong 66 = .ok (.getfield 176, 3) := by decide +kernel
theorem dX11_ofWrong_69 : decode cX11_ofWrong 69 = .ok (.iload_n 1, 1) := by decide +kernel
theorem dX11_ofWrong_70 : decode cX11_ofWrong 70 = .ok (.iaload, 1) := by decide +kernel
theorem dX11_ofWrong_71 : decode cX11_ofWrong 71 = .ok (.ireturn, 1) := by decide +kernel
theorem dX11_ofWrong_72 : decode cX11_ofWrong 72 = .ok (.aload_n 0, 1) := by decide +kernel
theorem dX11_ofWrong_73 : decode cX11_ofWrong 73 = .ok (.getfield 75, 3) := by decide +kernel
theorem dX11_ofWrong_76 : decode cX11_ofWrong 76 = .ok (.getfield 179, 3) := by decide +kernel
theorem dX11_ofWrong_79 : decode cX11_ofWrong 79 = .ok (.iload_n 1, 1) := by decide +kernel
theorem dX11_ofWrong_80 : decode cX11_ofWrong 80 = .ok (.iaload, 1) := by decide +kernel
theorem dX11_ofWrong_81 : decode cX11_ofWrong 81 = .ok (.ireturn, 1) := by decide +kernel
set_option maxHeartbeats 2000000 in
set_option maxRecDepth 20000 in
theorem k_ofWrong {l : Launch} {D : va_G} {cI cG cW : ClassId} {q : Nat → Nat} {S : Nat → Int32} {X : Nat → Nat → Int32} {P : Nat → Nat} {w what : Int32} {V row kept tried bf fd pk bo so sh mv tr : Nat → Int32} {nc np nw d nt nq : Nat} (hR : RKx row nc np nw d nt nq) (hC : CR (S, X, P) (sR V row kept tried bf fd pk bo so sh mv tr)) : Ci l yX11_ofWrong cX11_ofWrong 3 (some .int) 3 D (tyL cI cG cW) (wC cI cG cW q) [.ref (q 0), .int w, .int what] (S, X, P) (fun r τ => r = (sp_ofWrong V row kept tried bf fd pk bo so sh mv tr w what).1 ∧ CR τ (sp_ofWrong V row kept tried bf fd pk bo so sh mv tr w what).2) := by
  refine Ci.of (by decide) (Nat.le_of_ble_eq_true rfl) ?_
  intro p_ e_ s_ m_ b_ M_ c_ A_ C
  replace C : Cx _ _ _ _ _ _ _ _ RX11 _ _ _ _ := C
  refine j_L [0, 1, 2] [(0, .ref (q 0)), (1, .int w), (2, .int what)] rfl ?_
  obtain ⟨hI, hW, ⟨e0, hd⟩, ⟨e4, ht⟩, ⟨e5, hq⟩, hB⟩ := id hR
  obtain ⟨⟨e2, hc2, hc10⟩, ⟨e3, hn6⟩, ⟨e8, hw8⟩, hP, hE, hLo, hT0, hT1⟩ := id hI
  have hIc := hI
  have hF : CF S X 0 row (X 44) nc np := by have h := hC.fld; rw [e2, e3, tN_nI (by omega), tN_nI (by omega)] at h; exact h
  have hK : CK S X 0 row nw nt nq := by have h := hC.kp; rw [e8, e4, e5, tN_nI (by omega), tN_nI (by omega), tN_nI (by omega)] at h; exact h
  have hS1 : S 1 = row 8 := hK.wrongs
  have hS5 : S 5 = row 2 := hF.cells
  have hS7 : S 7 = row 3 := hF.people
  refine j_aload_n C 0 dX11_ofWrong_0 rfl ?_
  refine j_iload_n C 1 dX11_ofWrong_1 rfl ?_
  refine j_callV (As := [.int w]) (rest := []) C vw11_170 (h_isWrong) ⟨0, 11, _, _, rfl, rfl, rfl⟩ rfl (Nat.le_of_ble_eq_true rfl) dX11_ofWrong_2 (by decide) ?_
  rintro _ _ ⟨rfl, rfl⟩
  refine j_v (bI (inn w 0 (row 8 - 1))) (by rw [hS1]) ?_
  refine j_if_eq C 17 dX11_ofWrong_5 (by decide) (fun c5 => ?_) (fun c5 => ?_)
  · replace c5 := bI_f c5
    refine j_aload_n C 0 dX11_ofWrong_17 rfl ?_
    refine j_iconst C (v := (nI 1)) dX11_ofWrong_18 (by decide) ?_
    refine j_callV (As := [.int (nI 1)]) (rest := []) C vw11_90 (h_error 1 (by decide)) ⟨0, 11, _, _, rfl, rfl, rfl⟩ rfl (Nat.le_of_ble_eq_true rfl) dX11_ofWrong_19 (by decide) ?_
    rintro _ _ ⟨rfl, rfl⟩
    refine j_iret C dX11_ofWrong_22 ?_
    unfold sp_ofWrong
    rw [if_neg (fun h => c5 h.1)]
    exact ⟨show (-1000000000 : Int32) - nI 1 = -1000000001 from by decide, hC.er 1⟩
  · replace c5 := bI_t c5
    obtain ⟨wi, hwi, rfl⟩ := inn_row c5 e8 (by omega)
    refine j_iload_n C 2 dX11_ofWrong_8 rfl ?_
    refine j_iconst C (v := (nI 0)) dX11_ofWrong_9 (by decide) ?_
    refine j_iconst C (v := (nI 2)) dX11_ofWrong_10 (by decide) ?_
    refine j_callS (As := [.int what, .int (nI 0), .int (nI 2)]) (rest := []) C sw11_86 (h_within) rfl (Nat.le_of_ble_eq_true rfl) dX11_ofWrong_11 (by decide) ?_
    rintro _ _ ⟨rfl, rfl⟩
    refine j_if_ne C 23 dX11_ofWrong_14 (by decide) (fun c14 => ?_) (fun c14 => ?_)
    · replace c14 := bI_t c14
      obtain ⟨wn, gwn, hwn, rfl⟩ := inn_lit c14 (by omega)
      refine j_iload_n C 2 dX11_ofWrong_23 rfl ?_
      rcases (show wn = 0 ∨ wn = 1 ∨ wn = 2 by omega) with rfl | rfl | rfl
      · refine j_lookup C (off := 28) 52 dX11_ofWrong_24 (by decide) (by decide) (by decide) ?_
        refine j_aload_n C 0 dX11_ofWrong_52 rfl ?_
        refine j_get C (v := .ref (q 1)) 0 1 rfl rfl inlC11 (by decide) kf11_75 rfl dX11_ofWrong_53 ?_
        refine j_getN C (v := .ref (q 66)) 1 2 rfl rfl inlC3 (by decide) kf11_173 rfl dX11_ofWrong_56 ?_
        refine j_iload_n C 1 dX11_ofWrong_59 rfl ?_
        refine j_ialdN C 66 0 rfl rfl wi rfl (by omega) (by decide) dX11_ofWrong_60 ?_
        refine j_v (row (66 + 3 * wi + 0)) (hK.wr 0 (by omega) wi (by omega)) ?_
        refine j_iret C dX11_ofWrong_61 ?_
        unfold sp_ofWrong
        rw [if_pos ⟨c5, c14⟩, tN_nI (n := wi) (by omega), tN_nI (n := 0) (by decide)]
        exact ⟨rfl, hC⟩
      · refine j_lookup C (off := 38) 62 dX11_ofWrong_24 (by decide) (by decide) (by decide) ?_
        refine j_aload_n C 0 dX11_ofWrong_62 rfl ?_
        refine j_get C (v := .ref (q 1)) 0 1 rfl rfl inlC11 (by decide) kf11_75 rfl dX11_ofWrong_63 ?_
        refine j_getN C (v := .ref (q 67)) 1 3 rfl rfl inlC3 (by decide) kf11_176 rfl dX11_ofWrong_66 ?_
        refine j_iload_n C 1 dX11_ofWrong_69 rfl ?_
        refine j_ialdN C 67 0 rfl rfl wi rfl (by omega) (by decide) dX11_ofWrong_70 ?_
        refine j_v (row (66 + 3 * wi + 1)) (hK.wr 1 (by omega) wi (by omega)) ?_
        refine j_iret C dX11_ofWrong_71 ?_
        unfold sp_ofWrong
        rw [if_pos ⟨c5, c14⟩, tN_nI (n := wi) (by omega), tN_nI (n := 1) (by decide)]
        exact ⟨rfl, hC⟩
      · refine j_lookup C (off := 48) 72 dX11_ofWrong_24 (by decide) (by decide) (by decide) ?_
        refine j_aload_n C 0 dX11_ofWrong_72 rfl ?_
        refine j_get C (v := .ref (q 1)) 0 1 rfl rfl inlC11 (by decide) kf11_75 rfl dX11_ofWrong_73 ?_
        refine j_getN C (v := .ref (q 68)) 1 4 rfl rfl inlC3 (by decide) kf11_179 rfl dX11_ofWrong_76 ?_
        refine j_iload_n C 1 dX11_ofWrong_79 rfl ?_
        refine j_ialdN C 68 0 rfl rfl wi rfl (by omega) (by decide) dX11_ofWrong_80 ?_
        refine j_v (row (66 + 3 * wi + 2)) (hK.wr 2 (by omega) wi (by omega)) ?_
        refine j_iret C dX11_ofWrong_81 ?_
        unfold sp_ofWrong
        rw [if_pos ⟨c5, c14⟩, tN_nI (n := wi) (by omega), tN_nI (n := 2) (by decide)]
        exact ⟨rfl, hC⟩
    · replace c14 := bI_f c14
      refine j_aload_n C 0 dX11_ofWrong_17 rfl ?_
      refine j_iconst C (v := (nI 1)) dX11_ofWrong_18 (by decide) ?_
      refine j_callV (As := [.int (nI 1)]) (rest := []) C vw11_90 (h_error 1 (by decide)) ⟨0, 11, _, _, rfl, rfl, rfl⟩ rfl (Nat.le_of_ble_eq_true rfl) dX11_ofWrong_19 (by decide) ?_
      rintro _ _ ⟨rfl, rfl⟩
      refine j_iret C dX11_ofWrong_22 ?_
      unfold sp_ofWrong
      rw [if_neg (fun h => c14 h.2)]
      exact ⟨show (-1000000000 : Int32) - nI 1 = -1000000001 from by decide, hC.er 1⟩
theorem dX11_borrow_0 : decode cX11_borrow 0 = .ok (.aload_n 0, 1) := by decide +kernel
theorem dX11_borrow_1 : decode cX11_borrow 1 = .ok (.iload_n 1, 1) := by decide +kernel
theorem dX11_borrow_2 : decode cX11_borrow 2 = .ok (.invokevirtual 170, 3) := by decide +kernel
theorem dX11_borrow_5 : decode cX11_borrow 5 = .ok (.ifCond .eq 24, 3) := by decide +kernel
theorem dX11_borrow_8 : decode cX11_borrow 8 = .ok (.aload_n 0, 1) := by decide +kernel
theorem dX11_borrow_9 : decode cX11_borrow 9 = .ok (.iload_n 2, 1) := by decide +kernel
theorem dX11_borrow_10 : decode cX11_borrow 10 = .ok (.invokevirtual 123, 3) := by decide +kernel
theorem dX11_borrow_13 : decode cX11_borrow 13 = .ok (.ifCond .eq 16, 3) := by decide +kernel
theorem dX11_borrow_16 : decode cX11_borrow 16 = .ok (.aload_n 0, 1) := by decide +kernel
theorem dX11_borrow_17 : decode cX11_borrow 17 = .ok (.getfield 75, 3) := by decide +kernel
theorem dX11_borrow_20 : decode cX11_borrow 20 = .ok (.getfield 176, 3) := by decide +kernel
theorem dX11_borrow_23 : decode cX11_borrow 23 = .ok (.iload_n 1, 1) := by decide +kernel
theorem dX11_borrow_24 : decode cX11_borrow 24 = .ok (.iaload, 1) := by decide +kernel
theorem dX11_borrow_25 : decode cX11_borrow 25 = .ok (.iload_n 2, 1) := by decide +kernel
theorem dX11_borrow_26 : decode cX11_borrow 26 = .ok (.if_icmp .ne 9, 3) := by decide +kernel
theorem dX11_borrow_29 : decode cX11_borrow 29 = .ok (.aload_n 0, 1) := by decide +kernel
theorem dX11_borrow_30 : decode cX11_borrow 30 = .ok (.iconst 1, 1) := by decide +kernel
theorem dX11_borrow_31 : decode cX11_borrow 31 = .ok (.invokevirtual 90, 3) := by decide +kernel
theorem dX11_borrow_34 : decode cX11_borrow 34 = .ok (.ireturn, 1) := by decide +kernel
theorem dX11_borrow_35 : decode cX11_borrow 35 = .ok (.aload_n 0, 1) := by decide +kernel
theorem dX11_borrow_36 : decode cX11_borrow 36 = .ok (.getfield 75, 3) := by decide +kernel
theorem dX11_borrow_39 : decode cX11_borrow 39 = .ok (.getfield 173, 3) := by decide +kernel
theorem dX11_borrow_42 : decode cX11_borrow 42 = .ok (.iload_n 1, 1) := by decide +kernel
theorem dX11_borrow_43 : decode cX11_borrow 43 = .ok (.iaload, 1) := by decide +kernel
theorem dX11_borrow_44 : decode cX11_borrow 44 = .ok (.istore_n 3, 1) := by decide +kernel
theorem dX11_borrow_45 : decode cX11_borrow 45 = .ok (.aload_n 0, 1) := by decide +kernel
theorem dX11_borrow_46 : decode cX11_borrow 46 = .ok (.getfield 75, 3) := by decide +kernel
theorem dX11_borrow_49 : decode cX11_borrow 49 = .ok (.getfield 173, 3) := by decide +kernel
theorem dX11_borrow_52 : decode cX11_borrow 52 = .ok (.iload_n 1, 1) := by decide +kernel
theorem dX11_borrow_53 : decode cX11_borrow 53 = .ok (.iload_n 2, 1) := by decide +kernel
theorem dX11_borrow_54 : decode cX11_borrow 54 = .ok (.iastore, 1) := by decide +kernel
theorem dX11_borrow_55 : decode cX11_borrow 55 = .ok (.iload_n 3, 1) := by decide +kernel
theorem dX11_borrow_56 : decode cX11_borrow 56 = .ok (.ireturn, 1) := by decide +kernel
set_option maxHeartbeats 2000000 in
set_option maxRecDepth 20000 in
theorem k_borrow {l : Launch} {D : va_G} {cI cG cW : ClassId} {q : Nat → Nat} {S : Nat → Int32} {X : Nat → Nat → Int32} {P : Nat → Nat} {w b : Int32} {V row kept tried bf fd pk bo so sh mv tr : Nat → Int32} {nc np nw d nt nq : Nat} (hR : RKx row nc np nw d nt nq) (hC : CR (S, X, P) (sR V row kept tried bf fd pk bo so sh mv tr)) : Ci l yX11_borrow cX11_borrow 4 (some .int) 3 D (tyL cI cG cW) (wC cI cG cW q) [.ref (q 0), .int w, .int b] (S, X, P) (fun r τ => r = (sp_borrow V row kept tried bf fd pk bo so sh mv tr w b).1 ∧ CR τ (sp_borrow V row kept tried bf fd pk bo so sh mv tr w b).2) := by
  refine Ci.of (by decide) (Nat.le_of_ble_eq_true rfl) ?_
  intro p_ e_ s_ m_ b_ M_ c_ A_ C
  replace C : Cx _ _ _ _ _ _ _ _ RX11 _ _ _ _ := C
  refine j_L [0, 1, 2] [(0, .ref (q 0)), (1, .int w), (2, .int b)] rfl ?_
  obtain ⟨hI, hW, ⟨e0, hd⟩, ⟨e4, ht⟩, ⟨e5, hq⟩, hB⟩ := id hR
  obtain ⟨⟨e2, hc2, hc10⟩, ⟨e3, hn6⟩, ⟨e8, hw8⟩, hP, hE, hLo, hT0, hT1⟩ := id hI
  have hIc := hI
  have hF : CF S X 0 row (X 44) nc np := by have h := hC.fld; rw [e2, e3, tN_nI (by omega), tN_nI (by omega)] at h; exact h
  have hK : CK S X 0 row nw nt nq := by have h := hC.kp; rw [e8, e4, e5, tN_nI (by omega), tN_nI (by omega), tN_nI (by omega)] at h; exact h
  have hS1 : S 1 = row 8 := hK.wrongs
  have hS5 : S 5 = row 2 := hF.cells
  have hS7 : S 7 = row 3 := hF.people
  refine j_aload_n C 0 dX11_borrow_0 rfl ?_
  refine j_iload_n C 1 dX11_borrow_1 rfl ?_
  refine j_callV (As := [.int w]) (rest := []) C vw11_170 (h_isWrong) ⟨0, 11, _, _, rfl, rfl, rfl⟩ rfl (Nat.le_of_ble_eq_true rfl) dX11_borrow_2 (by decide) ?_
  rintro _ _ ⟨rfl, rfl⟩
  refine j_v (bI (inn w 0 (row 8 - 1))) (by rw [hS1]) ?_
  refine j_if_eq C 29 dX11_borrow_5 (by decide) (fun c5 => ?_) (fun c5 => ?_)
  · replace c5 := bI_f c5
    refine j_aload_n C 0 dX11_borrow_29 rfl ?_
    refine j_iconst C (v := (nI 1)) dX11_borrow_30 (by decide) ?_
    refine j_callV (As := [.int (nI 1)]) (rest := []) C vw11_90 (h_error 1 (by decide)) ⟨0, 11, _, _, rfl, rfl, rfl⟩ rfl (Nat.le_of_ble_eq_true rfl) dX11_borrow_31 (by decide) ?_
    rintro _ _ ⟨rfl, rfl⟩
    refine j_iret C dX11_borrow_34 ?_
    unfold sp_borrow
    rw [if_neg (fun h => c5 h.1)]
    exact ⟨show (-1000000000 : Int32) - nI 1 = -1000000001 from by decide, hC.er 1⟩
  · replace c5 := bI_t c5
    obtain ⟨wi, hwi, rfl⟩ := inn_row c5 e8 (by omega)
    refine j_aload_n C 0 dX11_borrow_8 rfl ?_
    refine j_iload_n C 2 dX11_borrow_9 rfl ?_
    refine j_callV (As := [.int b]) (rest := []) C vw11_123 (h_isPerson) ⟨0, 11, _, _, rfl, rfl, rfl⟩ rfl (Nat.le_of_ble_eq_true rfl) dX11_borrow_10 (by decide) ?_
    rintro _ _ ⟨rfl, rfl⟩
    refine j_v (bI (inn b 0 (row 3 - 1))) (by rw [hS7]) ?_
    refine j_if_eq C 29 dX11_borrow_13 (by decide) (fun c13 => ?_) (fun c13 => ?_)
    · replace c13 := bI_f c13
      refine j_aload_n C 0 dX11_borrow_29 rfl ?_
      refine j_iconst C (v := (nI 1)) dX11_borrow_30 (by decide) ?_
      refine j_callV (As := [.int (nI 1)]) (rest := []) C vw11_90 (h_error 1 (by decide)) ⟨0, 11, _, _, rfl, rfl, rfl⟩ rfl (Nat.le_of_ble_eq_true rfl) dX11_borrow_31 (by decide) ?_
      rintro _ _ ⟨rfl, rfl⟩
      refine j_iret C dX11_borrow_34 ?_
      unfold sp_borrow
      rw [if_neg (fun h => c13 h.2.1)]
      exact ⟨show (-1000000000 : Int32) - nI 1 = -1000000001 from by decide, hC.er 1⟩
    · replace c13 := bI_t c13
      refine j_aload_n C 0 dX11_borrow_16 rfl ?_
      refine j_get C (v := .ref (q 1)) 0 1 rfl rfl inlC11 (by decide) kf11_75 rfl dX11_borrow_17 ?_
      refine j_getN C (v := .ref (q 67)) 1 3 rfl rfl inlC3 (by decide) kf11_176 rfl dX11_borrow_20 ?_
      refine j_iload_n C 1 dX11_borrow_23 rfl ?_
      refine j_ialdN C 67 0 rfl rfl wi rfl (by omega) (by decide) dX11_borrow_24 ?_
      refine j_v (row (66 + 3 * wi + 1)) (hK.wr 1 (by omega) wi (by omega)) ?_
      refine j_iload_n C 2 dX11_borrow_25 rfl ?_
      refine j_icmp_ne C 35 dX11_borrow_26 (by decide) (fun c26 => ?_) (fun c26 => ?_)
      · skip
        refine j_aload_n C 0 dX11_borrow_35 rfl ?_
        refine j_get C (v := .ref (q 1)) 0 1 rfl rfl inlC11 (by decide) kf11_75 rfl dX11_borrow_36 ?_
        refine j_getN C (v := .ref (q 66)) 1 2 rfl rfl inlC3 (by decide) kf11_173 rfl dX11_borrow_39 ?_
        refine j_iload_n C 1 dX11_borrow_42 rfl ?_
        refine j_ialdN C 66 0 rfl rfl wi rfl (by omega) (by decide) dX11_borrow_43 ?_
        refine j_v (row (66 + 3 * wi + 0)) (hK.wr 0 (by omega) wi (by omega)) ?_
        refine j_istore_n C [(3, .int (row (66 + 3 * wi + 0))), (0, .ref (q 0)), (1, .int (nI wi)), (2, .int b)] dX11_borrow_44 (by decide) rfl ?_
        refine j_aload_n C 1 dX11_borrow_45 rfl ?_
        refine j_get C (v := .ref (q 1)) 0 1 rfl rfl inlC11 (by decide) kf11_75 rfl dX11_borrow_46 ?_
        refine j_getN C (v := .ref (q 66)) 1 2 rfl rfl inlC3 (by decide) kf11_173 rfl dX11_borrow_49 ?_
        refine j_iload_n C 2 dX11_borrow_52 rfl ?_
        refine j_iload_n C 3 dX11_borrow_53 rfl ?_
        refine j_iastN C 66 0 rfl rfl wi rfl (by omega) (by decide) dX11_borrow_54 (S, va_up X 66 (upd (X 66) wi b), P) rfl ?_
        refine j_iload_n C 0 dX11_borrow_55 rfl ?_
        refine j_iret C dX11_borrow_56 ?_
        unfold sp_borrow
        rw [tN_nI (n := wi) (by omega)]
        rw [if_pos ⟨c5, c13, c26⟩]
        exact ⟨rfl, hC.nowx (fun k hk => rfl) (fun k hk => va_n (by omega)) ((pk_un (by omega)).trans e2) ((pk_un (by omega)).trans e3) ((pk_un (by omega)).trans e8) ((pk_un (by omega)).trans e4) ((pk_un (by omega)).trans e5) ⟨hc10, hn6, hw8, ht, hq⟩ (hF.cg (fun k _ _ => rfl) (fun k _ _ => va_n (by omega)) (fun _ _ => rfl) (fun k hk => pk_un (by omega)) hc10 hn6) (hK.setB hw8 wi hwi 0 (by omega) b) (hC.l0.st (by omega) rfl (va_n (by omega)) (fun k hk => pk_un (by omega))) (hC.l1.st (by omega) rfl (va_n (by omega)) (fun k hk => pk_un (by omega)))⟩
      · skip
        refine j_aload_n C 0 dX11_borrow_29 rfl ?_
        refine j_iconst C (v := (nI 1)) dX11_borrow_30 (by decide) ?_
        refine j_callV (As := [.int (nI 1)]) (rest := []) C vw11_90 (h_error 1 (by decide)) ⟨0, 11, _, _, rfl, rfl, rfl⟩ rfl (Nat.le_of_ble_eq_true rfl) dX11_borrow_31 (by decide) ?_
        rintro _ _ ⟨rfl, rfl⟩
        refine j_iret C dX11_borrow_34 ?_
        unfold sp_borrow
        rw [tN_nI (n := wi) (by omega)]
        rw [if_neg (fun h => h.2.2 c26)]
        exact ⟨show (-1000000000 : Int32) - nI 1 = -1000000001 from by decide, hC.er 1⟩

/-! The class's thoughts: what is imagined, and what comes of it. -/
theorem le_tr {a b c : Int32} (h : a ≤ b) (g : b ≤ c) : a ≤ c := by rw [Int32.le_iff_toInt_le] at *; omega
theorem le_rf (a : Int32) : a ≤ a := by rw [Int32.le_iff_toInt_le]; omega
theorem pick_h {row : Nat → Int32} {nc np nw p j : Nat} {w : Int32} (hI : Iv row nc np nw) (hp : p < np) : pickF row np w p (30 + 6 * j + 5) = row (30 + 6 * j + 5) := by
  obtain ⟨⟨e2, hc2, hc10⟩, -, -, hP, -⟩ := id hI
  obtain ⟨-, -, ⟨a, ha, ea⟩, -⟩ := hP p hp
  rw [pickF_eq ea (by omega), pk_un (by omega), pk_un (by omega)]
theorem go_h {row : Nat → Int32} {p j : Nat} : goF row p (30 + 6 * j + 5) = row (30 + 6 * j + 5) := by
  unfold goF
  by_cases h : inn (row (30 + 6 * p + 2) + row (30 + 6 * p + 3)) 0 (row 2 - 1)
  · rw [if_pos h, pk_un (by omega)]
  · rw [if_neg h, pk_un (by omega)]
theorem et_h {row : Nat → Int32} {nc np nw p j : Nat} (hI : Iv row nc np nw) (hp : p < np) : row (30 + 6 * j + 5) ≤ etF row p (30 + 6 * j + 5) := by
  obtain ⟨-, -, -, hP, -⟩ := id hI
  obtain ⟨-, -, -, -, ⟨b, hb, eb⟩, ⟨h, hh, eh⟩⟩ := hP p hp
  obtain ⟨t, ht, et⟩ := eatF_nI hI hp
  rw [etF_eq et eb eh ht hb hh]
  by_cases c : b < t ∧ h < 9999
  · rw [if_pos c]
    by_cases e : j = p
    · subst e; rw [pk_us, eh, nI_leI (by omega) (by omega)]; omega
    · rw [pk_un (by omega), pk_un (by omega)]; exact le_rf _
  · rw [if_neg c, pk_un (by omega)]; exact le_rf _
theorem dawn_h {row : Nat → Int32} {nc np nw : Nat} (w : Nat → Int32) (hI : Iv row nc np nw) (j : Nat) : row (30 + 6 * j + 5) ≤ dawnF np w row (30 + 6 * j + 5) := by
  have h1 : IF row nc np nw (pksF np w row np) ∧ pksF np w row np (30 + 6 * j + 5) = row (30 + 6 * j + 5) :=
    itN_inv (f := fun p r => pickF r np (w p) p) (fun r => IF row nc np nw r ∧ r (30 + 6 * j + 5) = row (30 + 6 * j + 5)) (N := np) (fun i x hi h => ⟨⟨pickF_Iv h.1.1 hi, (pickF_FR h.1.1 hi).tr h.1.2⟩, (pick_h h.1.1 hi).trans h.2⟩) np row (Nat.le_refl _) ⟨⟨hI, FR.rf⟩, rfl⟩
  have hn6 : np ≤ 6 := hI.2.1.2
  have h2 : IF row nc np nw (itN (fun p r => goF r p) np (pksF np w row np)) ∧ itN (fun p r => goF r p) np (pksF np w row np) (30 + 6 * j + 5) = row (30 + 6 * j + 5) :=
    itN_inv (f := fun p r => goF r p) (fun r => IF row nc np nw r ∧ r (30 + 6 * j + 5) = row (30 + 6 * j + 5)) (N := np) (fun i x hi h => ⟨⟨goF_Iv h.1.1 hi, (goF_FR (by omega)).tr h.1.2⟩, go_h.trans h.2⟩) np _ (Nat.le_refl _) h1
  have h3 : IF row nc np nw (itN (fun p r => etF r p) np (itN (fun p r => goF r p) np (pksF np w row np))) ∧ row (30 + 6 * j + 5) ≤ itN (fun p r => etF r p) np (itN (fun p r => goF r p) np (pksF np w row np)) (30 + 6 * j + 5) :=
    itN_inv (f := fun p r => etF r p) (fun r => IF row nc np nw r ∧ row (30 + 6 * j + 5) ≤ r (30 + 6 * j + 5)) (N := np) (fun i x hi h => ⟨⟨etF_Iv h.1.1 hi, (etF_FR (by omega)).tr h.1.2⟩, le_tr h.2 (et_h h.1.1 hi)⟩) np _ (Nat.le_refl _) ⟨h2.1, by rw [h2.2]; exact le_rf _⟩
  show _ ≤ upd _ 0 _ (30 + 6 * j + 5)
  rw [pk_un (by omega)]; exact h3.2
theorem dawns_h {row : Nat → Int32} {nc np nw : Nat} (w : Nat → Int32) (hI : Iv row nc np nw) (j : Nat) {i n : Nat} (h : i ≤ n) : dawnsF np w row i (30 + 6 * j + 5) ≤ dawnsF np w row n (30 + 6 * j + 5) := by
  induction n with
  | zero => obtain rfl : i = 0 := by omega
            exact le_rf _
  | succ n ih =>
    by_cases e : i = n + 1
    · subst e; exact le_rf _
    · exact le_tr (ih (by omega)) (dawn_h w (dawns_IF w hI n).1 j)
/-- a thought touches its own field and the laws' stacks alone -/
def FrT (S' : Nat → Int32) (X' : Nat → Nat → Int32) (S : Nat → Int32) (X : Nat → Nat → Int32) : Prop := (∀ k, (k < 11 ∨ 14 ≤ k) → S' k = S k) ∧ ∀ k, (k < 56 ∨ 66 ≤ k) → ¬ k = 86 → ¬ k = 87 → X' k = X k
theorem FrT.rf {S : Nat → Int32} {X : Nat → Nat → Int32} : FrT S X S X := ⟨fun _ _ => rfl, fun _ _ _ _ => rfl⟩
theorem FrT.tr {S1 S2 S3 : Nat → Int32} {X1 X2 X3 : Nat → Nat → Int32} (h : FrT S1 X1 S2 X2) (g : FrT S2 X2 S3 X3) : FrT S1 X1 S3 X3 := ⟨fun k hk => (h.1 k hk).trans (g.1 k hk), fun k a b c => (h.2 k a b c).trans (g.2 k a b c)⟩
theorem FrT.dn {S' S : Nat → Int32} {X' X : Nat → Nat → Int32} (h : FrD 2 S' S) (g : FrX 2 X' X) : FrT S' X' S X := ⟨fun k hk => h k (by omega), fun k a b c => g k (by omega) b c⟩
theorem FrT.up {S' S : Nat → Int32} {X' X : Nat → Nat → Int32} {k : Nat} {g : Nat → Int32} (h : FrT S' X' S X) (hk : 56 ≤ k ∧ k < 66) : FrT S' (va_up X' k g) S X := ⟨h.1, fun j a b c => (va_n (by omega)).trans (h.2 j a b c)⟩
theorem CF.ft {S S' : Nat → Int32} {X X' : Nat → Nat → Int32} {row w : Nat → Int32} {nc np : Nat} (h : CF S X 0 row w nc np) (g : FrT S' X' S X) : CF S' X' 0 row w nc np := by
  refine ⟨?_, ?_, ?_, fun c hc => ?_, fun c hc => ?_, fun j hj p hp => ?_, fun p hp => ?_⟩
  · rw [g.1 _ (by omega)]; exact h.cells
  · rw [g.1 _ (by omega)]; exact h.dawn
  · rw [g.1 _ (by omega)]; exact h.people
  · rw [g.2 _ (by omega) (by omega) (by omega)]; exact h.ears c hc
  · rw [g.2 _ (by omega) (by omega) (by omega)]; exact h.low c hc
  · rw [g.2 _ (by omega) (by omega) (by omega)]; exact h.per j hj p hp
  · rw [g.2 _ (by omega) (by omega) (by omega)]; exact h.weighs p hp
theorem CK.ft {S S' : Nat → Int32} {X X' : Nat → Nat → Int32} {row : Nat → Int32} {nw nt nq : Nat} (h : CK S X 0 row nw nt nq) (g : FrT S' X' S X) : CK S' X' 0 row nw nt nq :=
  h.st (fun k hk => g.1 k (by omega)) (fun k hk => g.2 k (by omega) (by omega) (by omega))
theorem CLaw.ft {S S' : Nat → Int32} {X X' : Nat → Nat → Int32} {lam : Nat} {row row' : Nat → Int32} {u : Nat} (h : CLaw S X lam row u) (hl : lam ≤ 1) (hu : u ≤ 1) (g : FrT S' X' S X) (hR : FR row' row) : CLaw S' X' lam row' u :=
  h.st hu (g.1 _ (by omega)) (g.2 _ (by omega) (by omega) (by omega)) (fun k hk => hR k (by omega))
theorem CR.th {S S' : Nat → Int32} {X X' : Nat → Nat → Int32} {P P' : Nat → Nat} {V row kept tried bf fd pk bo so sh mv tr : Nat → Int32} (h : CR (S, X, P) (sR V row kept tried bf fd pk bo so sh mv tr)) (g : FrT S' X' S X) : CR (S', X', P') (sR V row kept tried bf fd pk bo so sh mv tr) := by
  refine h.now (fun k hk => g.1 k (by omega)) (fun k hk => g.2 k (by omega) (by omega) (by omega)) ?_ (CK.ft h.kp g) (CLaw.ft h.l0 (by omega) (by omega) g FR.rf) (CLaw.ft h.l1 (by omega) (by omega) g FR.rf)
  have e : X' 44 = X 44 := g.2 44 (by omega) (by omega) (by omega)
  rw [e]; exact CF.ft h.fld g
/-- what weighs on each, the wrongs of a set forgiven -/
def wtF (row : Nat → Int32) (nw : Nat) (s : Int32) : Nat → Int32 := fun p => sumW row s p (nI 0) nw + bdF row p
theorem sumW_s (row : Nat → Int32) (par : Int32) (p : Nat) (s : Int32) (n : Nat) : sumW row par p s n = sumW row par p (nI 0) n + s := by
  induction n with
  | zero => show s = nI 0 + s; exact (Int32.zero_add s).symm
  | succ n ih => unfold sumW; rw [ih]; exact add_rc _ _ _
theorem wv_wt {V row : Nat → Int32} {nw p : Nat} (h18 : ¬ nI p = V 18) (h16 : ¬ nI p = V 16) : wv V row nw p = wtF row nw (V 15) p := by
  unfold wv wS wtF bdF
  rw [if_neg h18, if_neg h16]
  by_cases e : row (30 + 6 * p + 0) = nI 6
  · rw [if_pos e, if_pos e]
  · rw [if_neg e, if_neg e]; exact (Int32.add_zero _).symm
theorem nI_m1 {p : Nat} (h : p < 2 ^ 31) : ¬ nI p = -1 := fun e => by
  have := congrArg Int32.toInt e
  rw [nI_toInt h] at this
  have h2 : (-1 : Int32).toInt = -1 := by decide
  omega

theorem dX11_imagine_0 : decode cX11_imagine 0 = .ok (.aload_n 0, 1) := by decide +kernel
theorem dX11_imagine_1 : decode cX11_imagine 1 = .ok (.getfield 79, 3) := by decide +kernel
theorem dX11_imagine_4 : decode cX11_imagine 4 = .ok (.aload_n 0, 1) := by decide +kernel
theorem dX11_imagine_5 : decode cX11_imagine 5 = .ok (.getfield 75, 3) := by decide +kernel
theorem dX11_imagine_8 : decode cX11_imagine 8 = .ok (.getfield 94, 3) := by decide +kernel
theorem dX11_imagine_11 : decode cX11_imagine 11 = .ok (.invokevirtual 310, 3) := by decide +kernel
theorem dX11_imagine_14 : decode cX11_imagine 14 = .ok (.aload_n 0, 1) := by decide +kernel
theorem dX11_imagine_15 : decode cX11_imagine 15 = .ok (.getfield 75, 3) := by decide +kernel
theorem dX11_imagine_18 : decode cX11_imagine 18 = .ok (.aload_n 0, 1) := by decide +kernel
theorem dX11_imagine_19 : decode cX11_imagine 19 = .ok (.getfield 79, 3) := by decide +kernel
theorem dX11_imagine_22 : decode cX11_imagine 22 = .ok (.iload_n 1, 1) := by decide +kernel
theorem dX11_imagine_23 : decode cX11_imagine 23 = .ok (.invokevirtual 126, 3) := by decide +kernel
theorem dX11_imagine_26 : decode cX11_imagine 26 = .ok (.return_, 1) := by decide +kernel
set_option maxHeartbeats 2000000 in
set_option maxRecDepth 20000 in
theorem h_imagine {l : Launch} {D : va_G} {cI cG cW : ClassId} {q : Nat → Nat} {S : Nat → Int32} {X : Nat → Nat → Int32} {P : Nat → Nat} {row w : Nat → Int32} {nc np : Nat} (hF : CF S X 0 row w nc np) {nw nt nq : Nat} (hI : Iv row nc np nw) (hK : CK S X 0 row nw nt nq) (hW : Iw row np nw) (s : Nat) (hs : s < 256) : Cv l yX11_imagine cX11_imagine 2 none 5 D (tyL cI cG cW) (wC cI cG cW q) [.ref (q 0), .int (nI s)] (S, X, P) (fun τ => ∃ S' X', τ = (S', X', P) ∧ CF S' X' 2 row (wtF row nw (nI s)) nc np ∧ FrT S' X' S X) := by
  refine Cv.of (by decide) (Nat.le_of_ble_eq_true rfl) ?_
  intro p_ e_ s_ m_ b_ M_ c_ A_ C
  replace C : Cx _ _ _ _ _ _ _ _ RX11 _ _ _ _ := C
  refine j_L [0, 1] [(0, .ref (q 0)), (1, .int (nI s))] rfl ?_
  obtain ⟨⟨e2, hc2, hc10⟩, ⟨e3, hn6⟩, ⟨e8, hw8⟩, -⟩ := id hI
  refine j_aload_n C 0 dX11_imagine_0 rfl ?_
  refine j_get C (v := .ref (q 5)) 0 3 rfl rfl inlC11 (by decide) kf11_79 rfl dX11_imagine_1 ?_
  refine j_aload_n C 0 dX11_imagine_4 rfl ?_
  refine j_get C (v := .ref (q 1)) 0 1 rfl rfl inlC11 (by decide) kf11_75 rfl dX11_imagine_5 ?_
  refine j_getN C (v := .ref (q 3)) 1 0 rfl rfl inlC3 (by decide) kf11_94 rfl dX11_imagine_8 ?_
  refine j_callVNv (As := [.ref (q 3)]) (rest := []) C vn11_310 (h_fcopy_2_0 hF hc10 hn6) ⟨5, 1, _, _, rfl, rfl, rfl⟩ rfl (Nat.le_of_ble_eq_true rfl) dX11_imagine_11 (by decide) ?_
  rintro _ ⟨S1, X1, rfl, hG, hFr⟩
  refine j_aload_n C 0 dX11_imagine_14 rfl ?_
  refine j_get C (v := .ref (q 1)) 0 1 rfl rfl inlC11 (by decide) kf11_75 rfl dX11_imagine_15 ?_
  refine j_aload_n C 0 dX11_imagine_18 rfl ?_
  refine j_get C (v := .ref (q 5)) 0 3 rfl rfl inlC11 (by decide) kf11_79 rfl dX11_imagine_19 ?_
  refine j_iload_n C 1 dX11_imagine_22 rfl ?_
  refine j_callVNv (As := [.ref (q 5), .int (nI s)]) (rest := []) C vn11_126 (h_weigh_2 hG hI (hK.st (fun k hk => hFr.1 k (by omega)) (fun k hk => hFr.2 k (by omega))) hW s hs) ⟨1, 3, _, _, rfl, rfl, rfl⟩ rfl (Nat.le_of_ble_eq_true rfl) dX11_imagine_23 (by decide) ?_
  rintro _ ⟨g, rfl, hg⟩
  refine j_vret C dX11_imagine_26 ?_
  exact ⟨_, _, rfl, hG.setW hg, fun k hk => hFr.1 k (by omega), fun k a b c => (va_n (by omega)).trans (hFr.2 k (by omega))⟩
theorem dX11_staysFed_0 : decode cX11_staysFed 0 = .ok (.aload_n 0, 1) := by decide +kernel
theorem dX11_staysFed_1 : decode cX11_staysFed 1 = .ok (.getfield 75, 3) := by decide +kernel
theorem dX11_staysFed_4 : decode cX11_staysFed 4 = .ok (.getfield 94, 3) := by decide +kernel
theorem dX11_staysFed_7 : decode cX11_staysFed 7 = .ok (.getfield 145, 3) := by decide +kernel
theorem dX11_staysFed_10 : decode cX11_staysFed 10 = .ok (.iload_n 1, 1) := by decide +kernel
theorem dX11_staysFed_11 : decode cX11_staysFed 11 = .ok (.iaload, 1) := by decide +kernel
theorem dX11_staysFed_12 : decode cX11_staysFed 12 = .ok (.istore_n 3, 1) := by decide +kernel
theorem dX11_staysFed_13 : decode cX11_staysFed 13 = .ok (.iconst 0, 1) := by decide +kernel
theorem dX11_staysFed_14 : decode cX11_staysFed 14 = .ok (.istore 4, 2) := by decide +kernel
theorem dX11_staysFed_16 : decode cX11_staysFed 16 = .ok (.iload 4, 2) := by decide +kernel
theorem dX11_staysFed_18 : decode cX11_staysFed 18 = .ok (.iload_n 2, 1) := by decide +kernel
theorem dX11_staysFed_19 : decode cX11_staysFed 19 = .ok (.if_icmp .ge 31, 3) := by decide +kernel
theorem dX11_staysFed_22 : decode cX11_staysFed 22 = .ok (.aload_n 0, 1) := by decide +kernel
theorem dX11_staysFed_23 : decode cX11_staysFed 23 = .ok (.getfield 79, 3) := by decide +kernel
theorem dX11_staysFed_26 : decode cX11_staysFed 26 = .ok (.invokevirtual 215, 3) := by decide +kernel
theorem dX11_staysFed_29 : decode cX11_staysFed 29 = .ok (.aload_n 0, 1) := by decide +kernel
theorem dX11_staysFed_30 : decode cX11_staysFed 30 = .ok (.getfield 79, 3) := by decide +kernel
theorem dX11_staysFed_33 : decode cX11_staysFed 33 = .ok (.getfield 145, 3) := by decide +kernel
theorem dX11_staysFed_36 : decode cX11_staysFed 36 = .ok (.iload_n 1, 1) := by decide +kernel
theorem dX11_staysFed_37 : decode cX11_staysFed 37 = .ok (.iaload, 1) := by decide +kernel
theorem dX11_staysFed_38 : decode cX11_staysFed 38 = .ok (.iload_n 3, 1) := by decide +kernel
theorem dX11_staysFed_39 : decode cX11_staysFed 39 = .ok (.if_icmp .le 5, 3) := by decide +kernel
theorem dX11_staysFed_42 : decode cX11_staysFed 42 = .ok (.iconst 0, 1) := by decide +kernel
theorem dX11_staysFed_43 : decode cX11_staysFed 43 = .ok (.ireturn, 1) := by decide +kernel
theorem dX11_staysFed_44 : decode cX11_staysFed 44 = .ok (.iinc 4 1, 3) := by decide +kernel
theorem dX11_staysFed_47 : decode cX11_staysFed 47 = .ok (.goto (-31), 3) := by decide +kernel
theorem dX11_staysFed_50 : decode cX11_staysFed 50 = .ok (.iconst 1, 1) := by decide +kernel
theorem dX11_staysFed_51 : decode cX11_staysFed 51 = .ok (.ireturn, 1) := by decide +kernel
set_option maxHeartbeats 2000000 in
set_option maxRecDepth 20000 in
theorem h_staysFed {l : Launch} {D : va_G} {cI cG cW : ClassId} {q : Nat → Nat} {S : Nat → Int32} {X : Nat → Nat → Int32} {P : Nat → Nat} {row w : Nat → Int32} {nc np nw : Nat} (hI : Iv row nc np nw) {w0 : Nat → Int32} (hF : CF S X 0 row w0 nc np) (hF2 : CF S X 2 row w nc np) (hL0 : CLaw S X 0 row 0) (hL1 : CLaw S X 1 row 1) (p n : Nat) (hp : p < np) (hn : n < 1000) : Ci l yX11_staysFed cX11_staysFed 5 (some .boolean) 8 D (tyL cI cG cW) (wC cI cG cW q) [.ref (q 0), .int (nI p), .int (nI n)] (S, X, P) (fun r τ => ∃ S' X', τ = (S', X', P) ∧ FrT S' X' S X ∧ r = bI (¬ row (30 + 6 * p + 5) < dawnsF np w row n (30 + 6 * p + 5))) := by
  refine Ci.of (by decide) (Nat.le_of_ble_eq_true rfl) ?_
  intro p_ e_ s_ m_ b_ M_ c_ A_ C
  replace C : Cx _ _ _ _ _ _ _ _ RX11 _ _ _ _ := C
  refine j_L [0, 1, 2] [(0, .ref (q 0)), (1, .int (nI p)), (2, .int (nI n))] rfl ?_
  obtain ⟨⟨e2, hc2, hc10⟩, ⟨e3, hn6⟩, ⟨e8, hw8⟩, -⟩ := id hI
  refine j_aload_n C 0 dX11_staysFed_0 rfl ?_
  refine j_get C (v := .ref (q 1)) 0 1 rfl rfl inlC11 (by decide) kf11_75 rfl dX11_staysFed_1 ?_
  refine j_getN C (v := .ref (q 3)) 1 0 rfl rfl inlC3 (by decide) kf11_94 rfl dX11_staysFed_4 ?_
  refine j_getN C (v := .ref (q 43)) 3 10 rfl rfl inlC1 (by decide) kf11_145 rfl dX11_staysFed_7 ?_
  refine j_iload_n C 1 dX11_staysFed_10 rfl ?_
  refine j_ialdN C 43 0 rfl rfl p rfl (by omega) (by decide) dX11_staysFed_11 ?_
  refine j_v (row (30 + 6 * p + 5)) (hF.per 5 (by omega) p (by omega)) ?_
  refine j_istore_n C [(3, .int (row (30 + 6 * p + 5))), (0, .ref (q 0)), (1, .int (nI p)), (2, .int (nI n))] dX11_staysFed_12 (by decide) rfl ?_
  refine j_iconst C (v := (nI 0)) dX11_staysFed_13 (by decide) ?_
  refine j_istore C [(4, .int (nI 0)), (3, .int (row (30 + 6 * p + 5))), (0, .ref (q 0)), (1, .int (nI p)), (2, .int (nI n))] dX11_staysFed_14 (by decide) rfl ?_
  refine j_L [2, 3, 4, 1, 0] [(0, .ref (q 0)), (1, .int (nI p)), (2, .int (nI n)), (3, .int (row (30 + 6 * p + 5))), (4, .int (nI 0))] rfl ?_
  refine j_loop (X := Nat × (Nat → Int32) × (Nat → Nat → Int32)) (fun (z : Nat × (Nat → Int32) × (Nat → Nat → Int32)) => match z with | (i, T, Y) => i ≤ n ∧ CF T Y 2 (dawnsF np w row i) w nc np ∧ FrT T Y S X ∧ ¬ row (30 + 6 * p + 5) < dawnsF np w row i (30 + 6 * p + 5)) (fun (z : Nat × (Nat → Int32) × (Nat → Nat → Int32)) => match z with | (i, T, Y) => n - i) (fun (z : Nat × (Nat → Int32) × (Nat → Nat → Int32)) => match z with | (i, T, Y) => (T, Y, P)) (fun (z : Nat × (Nat → Int32) × (Nat → Nat → Int32)) => match z with | (i, T, Y) => [(0, .ref (q 0)), (1, .int (nI p)), (2, .int (nI n)), (3, .int (row (30 + 6 * p + 5))), (4, .int (nI i))]) (0, S, X) (⟨Nat.zero_le _, hF2, FrT.rf, lnl (le_rf _)⟩) rfl rfl ?_
  rintro ⟨i, T, Y⟩ ⟨hi, hG, hT, hs⟩ ih
  try dsimp only at ih ⊢
  have hIF := dawns_IF w hI i
  refine j_iload C 4 dX11_staysFed_16 rfl ?_
  refine j_iload_n C 2 dX11_staysFed_18 rfl ?_
  refine j_icmp_ge C 50 dX11_staysFed_19 (by decide) (fun c19 => ?_) (fun c19 => ?_)
  · rw [nI_leI (by omega) (by omega)] at c19
    refine j_iconst C (v := (nI 1)) dX11_staysFed_50 (by decide) ?_
    refine j_zret C dX11_staysFed_51 (by decide) ?_
    exact ⟨_, _, rfl, hT, bI1 (by rw [show n = i by omega]; exact hs)⟩
  · rw [nI_leI (by omega) (by omega)] at c19
    refine j_aload_n C 0 dX11_staysFed_22 rfl ?_
    refine j_get C (v := .ref (q 5)) 0 3 rfl rfl inlC11 (by decide) kf11_79 rfl dX11_staysFed_23 ?_
    refine j_callVNv (As := []) (rest := []) C vn11_215 (h_pass_2 hG hIF.1 (hL0.ft (by omega) (by omega) hT hIF.2) (hL1.ft (by omega) (by omega) hT hIF.2)) ⟨5, 1, _, _, rfl, rfl, rfl⟩ rfl (Nat.le_of_ble_eq_true rfl) dX11_staysFed_26 (by decide) ?_
    rintro _ ⟨T1, Y1, rfl, hG1, hD1, hX1, hk1⟩
    refine j_aload_n C 0 dX11_staysFed_29 rfl ?_
    refine j_get C (v := .ref (q 5)) 0 3 rfl rfl inlC11 (by decide) kf11_79 rfl dX11_staysFed_30 ?_
    refine j_getN C (v := .ref (q 63)) 5 10 rfl rfl inlC1 (by decide) kf11_145 rfl dX11_staysFed_33 ?_
    refine j_iload_n C 1 dX11_staysFed_36 rfl ?_
    refine j_ialdN C 63 0 rfl rfl p rfl (by omega) (by decide) dX11_staysFed_37 ?_
    refine j_v (dawnsF np w row (i + 1) (30 + 6 * p + 5)) (hG1.per 5 (by omega) p (by omega)) ?_
    refine j_iload_n C 3 dX11_staysFed_38 rfl ?_
    refine j_icmp_le C 44 dX11_staysFed_39 (by decide) (fun c39 => ?_) (fun c39 => ?_)
    · skip
      refine j_iinc C (v := (nI (i + 1))) 4 [(4, .int (nI (i + 1))), (0, .ref (q 0)), (1, .int (nI p)), (2, .int (nI n)), (3, .int (row (30 + 6 * p + 5)))] dX11_staysFed_44 rfl (nI_1 _) (by decide) rfl ?_
      refine j_goto C 16 dX11_staysFed_47 (by decide) ?_
      refine j_L [1, 2, 3, 4, 0] [(0, .ref (q 0)), (1, .int (nI p)), (2, .int (nI n)), (3, .int (row (30 + 6 * p + 5))), (4, .int (nI (i + 1)))] rfl ?_
      exact ih (i + 1, T1, Y1) (⟨by dsimp only; omega, hG1, (FrT.dn hD1 hX1).tr hT, lnl c39⟩) (by dsimp only; omega)
    · skip
      refine j_iconst C (v := (nI 0)) dX11_staysFed_42 (by decide) ?_
      refine j_zret C dX11_staysFed_43 (by decide) ?_
      refine ⟨_, _, rfl, (FrT.dn hD1 hX1).tr hT, bI0 (fun h => h ?_)⟩
      have h1 := nle c39
      have h2 := dawns_h w hI p (i := i + 1) (n := n) (by omega)
      rw [Int32.lt_iff_toInt_lt] at h1 ⊢; rw [Int32.le_iff_toInt_le] at h2; omega
theorem dX11_allStayFed_0 : decode cX11_allStayFed 0 = .ok (.aload_n 0, 1) := by decide +kernel
theorem dX11_allStayFed_1 : decode cX11_allStayFed 1 = .ok (.iload_n 1, 1) := by decide +kernel
theorem dX11_allStayFed_2 : decode cX11_allStayFed 2 = .ok (.invokevirtual 225, 3) := by decide +kernel
theorem dX11_allStayFed_5 : decode cX11_allStayFed 5 = .ok (.iconst 0, 1) := by decide +kernel
theorem dX11_allStayFed_6 : decode cX11_allStayFed 6 = .ok (.istore_n 3, 1) := by decide +kernel
theorem dX11_allStayFed_7 : decode cX11_allStayFed 7 = .ok (.iload_n 3, 1) := by decide +kernel
theorem dX11_allStayFed_8 : decode cX11_allStayFed 8 = .ok (.iload_n 2, 1) := by decide +kernel
theorem dX11_allStayFed_9 : decode cX11_allStayFed 9 = .ok (.if_icmp .ge 35, 3) := by decide +kernel
theorem dX11_allStayFed_12 : decode cX11_allStayFed 12 = .ok (.aload_n 0, 1) := by decide +kernel
theorem dX11_allStayFed_13 : decode cX11_allStayFed 13 = .ok (.getfield 79, 3) := by decide +kernel
theorem dX11_allStayFed_16 : decode cX11_allStayFed 16 = .ok (.invokevirtual 215, 3) := by decide +kernel
theorem dX11_allStayFed_19 : decode cX11_allStayFed 19 = .ok (.aload_n 0, 1) := by decide +kernel
theorem dX11_allStayFed_20 : decode cX11_allStayFed 20 = .ok (.getfield 79, 3) := by decide +kernel
theorem dX11_allStayFed_23 : decode cX11_allStayFed 23 = .ok (.aload_n 0, 1) := by decide +kernel
theorem dX11_allStayFed_24 : decode cX11_allStayFed 24 = .ok (.getfield 75, 3) := by decide +kernel
theorem dX11_allStayFed_27 : decode cX11_allStayFed 27 = .ok (.getfield 94, 3) := by decide +kernel
theorem dX11_allStayFed_30 : decode cX11_allStayFed 30 = .ok (.invokevirtual 228, 3) := by decide +kernel
theorem dX11_allStayFed_33 : decode cX11_allStayFed 33 = .ok (.ifCond .lt 5, 3) := by decide +kernel
theorem dX11_allStayFed_36 : decode cX11_allStayFed 36 = .ok (.iconst 0, 1) := by decide +kernel
theorem dX11_allStayFed_37 : decode cX11_allStayFed 37 = .ok (.ireturn, 1) := by decide +kernel
theorem dX11_allStayFed_38 : decode cX11_allStayFed 38 = .ok (.iinc 3 1, 3) := by decide +kernel
theorem dX11_allStayFed_41 : decode cX11_allStayFed 41 = .ok (.goto (-34), 3) := by decide +kernel
theorem dX11_allStayFed_44 : decode cX11_allStayFed 44 = .ok (.iconst 1, 1) := by decide +kernel
theorem dX11_allStayFed_45 : decode cX11_allStayFed 45 = .ok (.ireturn, 1) := by decide +kernel
set_option maxHeartbeats 2000000 in
set_option maxRecDepth 20000 in
theorem h_allStayFed {l : Launch} {D : va_G} {cI cG cW : ClassId} {q : Nat → Nat} {S : Nat → Int32} {X : Nat → Nat → Int32} {P : Nat → Nat} {row w : Nat → Int32} {nc np : Nat} (hF : CF S X 0 row w nc np) {nw nt nq : Nat} (hI : Iv row nc np nw) (hK : CK S X 0 row nw nt nq) (hW : Iw row np nw) (hL0 : CLaw S X 0 row 0) (hL1 : CLaw S X 1 row 1) (s n : Nat) (hs : s < 256) (hn : n < 1000) : Ci l yX11_allStayFed cX11_allStayFed 4 (some .boolean) 8 D (tyL cI cG cW) (wC cI cG cW q) [.ref (q 0), .int (nI s), .int (nI n)] (S, X, P) (fun r τ => ∃ S' X', τ = (S', X', P) ∧ FrT S' X' S X ∧ r = bI (∀ p, p < np → ¬ row (30 + 6 * p + 5) < dawnsF np (wtF row nw (nI s)) row n (30 + 6 * p + 5))) := by
  refine Ci.of (by decide) (Nat.le_of_ble_eq_true rfl) ?_
  intro p_ e_ s_ m_ b_ M_ c_ A_ C
  replace C : Cx _ _ _ _ _ _ _ _ RX11 _ _ _ _ := C
  refine j_L [0, 1, 2] [(0, .ref (q 0)), (1, .int (nI s)), (2, .int (nI n))] rfl ?_
  obtain ⟨⟨e2, hc2, hc10⟩, ⟨e3, hn6⟩, ⟨e8, hw8⟩, -⟩ := id hI
  refine j_aload_n C 0 dX11_allStayFed_0 rfl ?_
  refine j_iload_n C 1 dX11_allStayFed_1 rfl ?_
  refine j_callVv (As := [.int (nI s)]) (rest := []) C vw11_225 (h_imagine hF hI hK hW s hs) ⟨0, 11, _, _, rfl, rfl, rfl⟩ rfl (Nat.le_of_ble_eq_true rfl) dX11_allStayFed_2 (by decide) ?_
  rintro _ ⟨S0, X0, rfl, hF2, hT0⟩
  refine j_iconst C (v := (nI 0)) dX11_allStayFed_5 (by decide) ?_
  refine j_istore_n C [(3, .int (nI 0)), (0, .ref (q 0)), (1, .int (nI s)), (2, .int (nI n))] dX11_allStayFed_6 (by decide) rfl ?_
  refine j_L [1, 2, 3, 0] [(0, .ref (q 0)), (1, .int (nI s)), (2, .int (nI n)), (3, .int (nI 0))] rfl ?_
  refine j_loop (X := Nat × (Nat → Int32) × (Nat → Nat → Int32)) (fun (z : Nat × (Nat → Int32) × (Nat → Nat → Int32)) => match z with | (i, T, Y) => i ≤ n ∧ CF T Y 2 (dawnsF np (wtF row nw (nI s)) row i) (wtF row nw (nI s)) nc np ∧ FrT T Y S X ∧ ∀ p, p < np → ¬ row (30 + 6 * p + 5) < dawnsF np (wtF row nw (nI s)) row i (30 + 6 * p + 5)) (fun (z : Nat × (Nat → Int32) × (Nat → Nat → Int32)) => match z with | (i, T, Y) => n - i) (fun (z : Nat × (Nat → Int32) × (Nat → Nat → Int32)) => match z with | (i, T, Y) => (T, Y, P)) (fun (z : Nat × (Nat → Int32) × (Nat → Nat → Int32)) => match z with | (i, T, Y) => [(0, .ref (q 0)), (1, .int (nI s)), (2, .int (nI n)), (3, .int (nI i))]) (0, S0, X0) (⟨Nat.zero_le _, hF2, hT0, fun _ _ => lnl (le_rf _)⟩) rfl rfl ?_
  rintro ⟨i, T, Y⟩ ⟨hi, hG, hT, hs2⟩ ih
  try dsimp only at ih ⊢
  have hIF := dawns_IF (wtF row nw (nI s)) hI i
  refine j_iload_n C 3 dX11_allStayFed_7 rfl ?_
  refine j_iload_n C 2 dX11_allStayFed_8 rfl ?_
  refine j_icmp_ge C 44 dX11_allStayFed_9 (by decide) (fun c9 => ?_) (fun c9 => ?_)
  · rw [nI_leI (by omega) (by omega)] at c9
    refine j_iconst C (v := (nI 1)) dX11_allStayFed_44 (by decide) ?_
    refine j_zret C dX11_allStayFed_45 (by decide) ?_
    exact ⟨_, _, rfl, hT, bI1 (by rw [show n = i by omega]; exact hs2)⟩
  · rw [nI_leI (by omega) (by omega)] at c9
    refine j_aload_n C 0 dX11_allStayFed_12 rfl ?_
    refine j_get C (v := .ref (q 5)) 0 3 rfl rfl inlC11 (by decide) kf11_79 rfl dX11_allStayFed_13 ?_
    refine j_callVNv (As := []) (rest := []) C vn11_215 (h_pass_2 hG hIF.1 (hL0.ft (by omega) (by omega) hT hIF.2) (hL1.ft (by omega) (by omega) hT hIF.2)) ⟨5, 1, _, _, rfl, rfl, rfl⟩ rfl (Nat.le_of_ble_eq_true rfl) dX11_allStayFed_16 (by decide) ?_
    rintro _ ⟨T1, Y1, rfl, hG1, hD1, hX1, hk1⟩
    have hIF1 := dawns_IF (wtF row nw (nI s)) hI (i + 1)
    refine j_aload_n C 0 dX11_allStayFed_19 rfl ?_
    refine j_get C (v := .ref (q 5)) 0 3 rfl rfl inlC11 (by decide) kf11_79 rfl dX11_allStayFed_20 ?_
    refine j_aload_n C 0 dX11_allStayFed_23 rfl ?_
    refine j_get C (v := .ref (q 1)) 0 1 rfl rfl inlC11 (by decide) kf11_75 rfl dX11_allStayFed_24 ?_
    refine j_getN C (v := .ref (q 3)) 1 0 rfl rfl inlC3 (by decide) kf11_94 rfl dX11_allStayFed_27 ?_
    refine j_callVN (As := [.ref (q 3)]) (rest := []) C vn11_228 (h_fht (hF.ft ((FrT.dn hD1 hX1).tr hT)) e3 hn6 hG1 (hIF1.1.2.1.1)) ⟨5, 1, _, _, rfl, rfl, rfl⟩ rfl (Nat.le_of_ble_eq_true rfl) dX11_allStayFed_30 (by decide) ?_
    rintro _ _ ⟨hr, rfl⟩
    rcases hr with ⟨z, hz, rfl, hz1, hz2⟩ | ⟨rfl, hr2⟩
    · refine j_if_lt C 38 dX11_allStayFed_33 (by decide) (fun c33 => ?_) (fun c33 => ?_)
      · rw [show (0 : Int32) = nI 0 from rfl, nI_ltI (by omega) (by omega)] at c33
        exfalso; omega
      · rw [show (0 : Int32) = nI 0 from rfl, nI_ltI (by omega) (by omega)] at c33
        refine j_iconst C (v := (nI 0)) dX11_allStayFed_36 (by decide) ?_
        refine j_zret C dX11_allStayFed_37 (by decide) ?_
        refine ⟨_, _, rfl, (FrT.dn hD1 hX1).tr hT, bI0 (fun h => h z hz ?_)⟩
        have h2 := dawns_h (wtF row nw (nI s)) hI z (i := i + 1) (n := n) (by omega)
        have h1 : row (30 + 6 * z + 5) < dawnsF np (wtF row nw (nI s)) row (i + 1) (30 + 6 * z + 5) := hz1
        rw [Int32.lt_iff_toInt_lt] at h1 ⊢; rw [Int32.le_iff_toInt_le] at h2; omega
    · refine j_if_lt C 38 dX11_allStayFed_33 (by decide) (fun c33 => ?_) (fun c33 => ?_)
      · skip
        refine j_iinc C (v := (nI (i + 1))) 3 [(3, .int (nI (i + 1))), (0, .ref (q 0)), (1, .int (nI s)), (2, .int (nI n))] dX11_allStayFed_38 rfl (nI_1 _) (by decide) rfl ?_
        refine j_goto C 7 dX11_allStayFed_41 (by decide) ?_
        refine j_L [1, 2, 3, 0] [(0, .ref (q 0)), (1, .int (nI s)), (2, .int (nI n)), (3, .int (nI (i + 1)))] rfl ?_
        exact ih (i + 1, T1, Y1) (⟨by dsimp only; omega, hG1, (FrT.dn hD1 hX1).tr hT, hr2⟩) (by dsimp only; omega)
      · skip
        exact absurd (by decide) c33
theorem dX11_picksAsTold_0 : decode cX11_picksAsTold 0 = .ok (.iconst 0, 1) := by decide +kernel
theorem dX11_picksAsTold_1 : decode cX11_picksAsTold 1 = .ok (.istore_n 3, 1) := by decide +kernel
theorem dX11_picksAsTold_2 : decode cX11_picksAsTold 2 = .ok (.iload_n 3, 1) := by decide +kernel
theorem dX11_picksAsTold_3 : decode cX11_picksAsTold 3 = .ok (.aload_n 2, 1) := by decide +kernel
theorem dX11_picksAsTold_4 : decode cX11_picksAsTold 4 = .ok (.getfield 188, 3) := by decide +kernel
theorem dX11_picksAsTold_7 : decode cX11_picksAsTold 7 = .ok (.if_icmp .ge 36, 3) := by decide +kernel
theorem dX11_picksAsTold_10 : decode cX11_picksAsTold 10 = .ok (.aload_n 0, 1) := by decide +kernel
theorem dX11_picksAsTold_11 : decode cX11_picksAsTold 11 = .ok (.getfield 79, 3) := by decide +kernel
theorem dX11_picksAsTold_14 : decode cX11_picksAsTold 14 = .ok (.invokevirtual 215, 3) := by decide +kernel
theorem dX11_picksAsTold_17 : decode cX11_picksAsTold 17 = .ok (.aload_n 0, 1) := by decide +kernel
theorem dX11_picksAsTold_18 : decode cX11_picksAsTold 18 = .ok (.getfield 79, 3) := by decide +kernel
theorem dX11_picksAsTold_21 : decode cX11_picksAsTold 21 = .ok (.getfield 312, 3) := by decide +kernel
theorem dX11_picksAsTold_24 : decode cX11_picksAsTold 24 = .ok (.iload_n 1, 1) := by decide +kernel
theorem dX11_picksAsTold_25 : decode cX11_picksAsTold 25 = .ok (.iaload, 1) := by decide +kernel
theorem dX11_picksAsTold_26 : decode cX11_picksAsTold 26 = .ok (.aload_n 2, 1) := by decide +kernel
theorem dX11_picksAsTold_27 : decode cX11_picksAsTold 27 = .ok (.getfield 281, 3) := by decide +kernel
theorem dX11_picksAsTold_30 : decode cX11_picksAsTold 30 = .ok (.iload_n 3, 1) := by decide +kernel
theorem dX11_picksAsTold_31 : decode cX11_picksAsTold 31 = .ok (.iaload, 1) := by decide +kernel
theorem dX11_picksAsTold_32 : decode cX11_picksAsTold 32 = .ok (.if_icmp .eq 5, 3) := by decide +kernel
theorem dX11_picksAsTold_35 : decode cX11_picksAsTold 35 = .ok (.iconst 0, 1) := by decide +kernel
theorem dX11_picksAsTold_36 : decode cX11_picksAsTold 36 = .ok (.ireturn, 1) := by decide +kernel
theorem dX11_picksAsTold_37 : decode cX11_picksAsTold 37 = .ok (.iinc 3 1, 3) := by decide +kernel
theorem dX11_picksAsTold_40 : decode cX11_picksAsTold 40 = .ok (.goto (-38), 3) := by decide +kernel
theorem dX11_picksAsTold_43 : decode cX11_picksAsTold 43 = .ok (.iconst 1, 1) := by decide +kernel
theorem dX11_picksAsTold_44 : decode cX11_picksAsTold 44 = .ok (.ireturn, 1) := by decide +kernel
set_option maxHeartbeats 2000000 in
set_option maxRecDepth 20000 in
theorem h_picksAsTold_0 {l : Launch} {D : va_G} {cI cG cW : ClassId} {q : Nat → Nat} {S : Nat → Int32} {X : Nat → Nat → Int32} {P : Nat → Nat} {row w : Nat → Int32} {nc np nw : Nat} (hI : Iv row nc np nw) (hF2 : CF S X 2 row w nc np) (hL0 : CLaw S X 0 row 0) (hL1 : CLaw S X 1 row 1) (p zz : Nat) (hp : p < np) (hz : S 29 = nI zz) (hz4 : zz ≤ 40) : Ci l yX11_picksAsTold cX11_picksAsTold 4 (some .boolean) 8 D (tyL cI cG cW) (wC cI cG cW q) [.ref (q 0), .int (nI p), .ref (q 21)] (S, X, P) (fun r τ => ∃ S' X', τ = (S', X', P) ∧ FrT S' X' S X ∧ r = bI (∀ k, k < zz → pickV (pksF np w (dawnsF np w row k) p) np (w p) p = X 82 k)) := by
  refine Ci.of (by decide) (Nat.le_of_ble_eq_true rfl) ?_
  intro p_ e_ s_ m_ b_ M_ c_ A_ C
  replace C : Cx _ _ _ _ _ _ _ _ RX11 _ _ _ _ := C
  refine j_L [0, 1, 2] [(0, .ref (q 0)), (1, .int (nI p)), (2, .ref (q 21))] rfl ?_
  obtain ⟨⟨e2, hc2, hc10⟩, ⟨e3, hn6⟩, ⟨e8, hw8⟩, -⟩ := id hI
  refine j_iconst C (v := (nI 0)) dX11_picksAsTold_0 (by decide) ?_
  refine j_istore_n C [(3, .int (nI 0)), (0, .ref (q 0)), (1, .int (nI p)), (2, .ref (q 21))] dX11_picksAsTold_1 (by decide) rfl ?_
  refine j_L [1, 2, 3, 0] [(0, .ref (q 0)), (1, .int (nI p)), (2, .ref (q 21)), (3, .int (nI 0))] rfl ?_
  refine j_loop (X := Nat × (Nat → Int32) × (Nat → Nat → Int32)) (fun (z : Nat × (Nat → Int32) × (Nat → Nat → Int32)) => match z with | (i, T, Y) => i ≤ zz ∧ CF T Y 2 (dawnsF np w row i) w nc np ∧ FrT T Y S X ∧ ∀ k, k < i → pickV (pksF np w (dawnsF np w row k) p) np (w p) p = X 82 k) (fun (z : Nat × (Nat → Int32) × (Nat → Nat → Int32)) => match z with | (i, T, Y) => zz - i) (fun (z : Nat × (Nat → Int32) × (Nat → Nat → Int32)) => match z with | (i, T, Y) => (T, Y, P)) (fun (z : Nat × (Nat → Int32) × (Nat → Nat → Int32)) => match z with | (i, T, Y) => [(0, .ref (q 0)), (1, .int (nI p)), (2, .ref (q 21)), (3, .int (nI i))]) (0, S, X) (⟨Nat.zero_le _, hF2, FrT.rf, fun k h => absurd h (Nat.not_lt_zero _)⟩) rfl rfl ?_
  rintro ⟨i, T, Y⟩ ⟨hi, hG, hT, hs⟩ ih
  try dsimp only at ih ⊢
  have hIF := dawns_IF w hI i
  refine j_iload_n C 3 dX11_picksAsTold_2 rfl ?_
  refine j_aload_n C 2 dX11_picksAsTold_3 rfl ?_
  refine j_getN C (v := .int (T 29)) 21 1 rfl rfl inlC8 (by decide) kf11_188 rfl dX11_picksAsTold_4 ?_
  refine j_v (nI zz) ((hT.1 29 (by omega)).trans hz) ?_
  refine j_icmp_ge C 43 dX11_picksAsTold_7 (by decide) (fun c7 => ?_) (fun c7 => ?_)
  · rw [nI_leI (by omega) (by omega)] at c7
    refine j_iconst C (v := (nI 1)) dX11_picksAsTold_43 (by decide) ?_
    refine j_zret C dX11_picksAsTold_44 (by decide) ?_
    exact ⟨_, _, rfl, hT, bI1 (by rw [show zz = i by omega]; exact hs)⟩
  · rw [nI_leI (by omega) (by omega)] at c7
    refine j_aload_n C 0 dX11_picksAsTold_10 rfl ?_
    refine j_get C (v := .ref (q 5)) 0 3 rfl rfl inlC11 (by decide) kf11_79 rfl dX11_picksAsTold_11 ?_
    refine j_callVNv (As := []) (rest := []) C vn11_215 (h_pass_2 hG hIF.1 (hL0.ft (by omega) (by omega) hT hIF.2) (hL1.ft (by omega) (by omega) hT hIF.2)) ⟨5, 1, _, _, rfl, rfl, rfl⟩ rfl (Nat.le_of_ble_eq_true rfl) dX11_picksAsTold_14 (by decide) ?_
    rintro _ ⟨T1, Y1, rfl, hG1, hD1, hX1, hk1⟩
    refine j_aload_n C 0 dX11_picksAsTold_17 rfl ?_
    refine j_get C (v := .ref (q 5)) 0 3 rfl rfl inlC11 (by decide) kf11_79 rfl dX11_picksAsTold_18 ?_
    refine j_getN C (v := .ref (q 65)) 5 12 rfl rfl inlC1 (by decide) kf11_312 rfl dX11_picksAsTold_21 ?_
    refine j_iload_n C 1 dX11_picksAsTold_24 rfl ?_
    refine j_ialdN C 65 0 rfl rfl p rfl (by omega) (by decide) dX11_picksAsTold_25 ?_
    refine j_v (pickV (pksF np w (dawnsF np w row i) p) np (w p) p) (hk1 p hp) ?_
    refine j_aload_n C 2 dX11_picksAsTold_26 rfl ?_
    refine j_getN C (v := .ref (q 82)) 21 0 rfl rfl inlC8 (by decide) kf11_281 rfl dX11_picksAsTold_27 ?_
    refine j_iload_n C 3 dX11_picksAsTold_30 rfl ?_
    refine j_ialdN C 82 0 rfl rfl i rfl (by omega) (by decide) dX11_picksAsTold_31 ?_
    refine j_v (X 82 i) (congrFun (((FrT.dn hD1 hX1).tr hT).2 82 (by omega) (by omega) (by omega)) i) ?_
    refine j_icmp_eq C 37 dX11_picksAsTold_32 (by decide) (fun c32 => ?_) (fun c32 => ?_)
    · skip
      refine j_iinc C (v := (nI (i + 1))) 3 [(3, .int (nI (i + 1))), (0, .ref (q 0)), (1, .int (nI p)), (2, .ref (q 21))] dX11_picksAsTold_37 rfl (nI_1 _) (by decide) rfl ?_
      refine j_goto C 2 dX11_picksAsTold_40 (by decide) ?_
      refine j_L [1, 2, 3, 0] [(0, .ref (q 0)), (1, .int (nI p)), (2, .ref (q 21)), (3, .int (nI (i + 1)))] rfl ?_
      exact ih (i + 1, T1, Y1) (⟨by dsimp only; omega, hG1, (FrT.dn hD1 hX1).tr hT, fun k hk => by
      by_cases e : k = i
      · subst e; exact c32
      · exact hs k (by dsimp only at hk; omega)⟩) (by dsimp only; omega)
    · skip
      refine j_iconst C (v := (nI 0)) dX11_picksAsTold_35 (by decide) ?_
      refine j_zret C dX11_picksAsTold_36 (by decide) ?_
      exact ⟨_, _, rfl, (FrT.dn hD1 hX1).tr hT, bI0 (fun h => c32 (h i (by omega)))⟩
set_option maxHeartbeats 2000000 in
set_option maxRecDepth 20000 in
theorem h_picksAsTold_1 {l : Launch} {D : va_G} {cI cG cW : ClassId} {q : Nat → Nat} {S : Nat → Int32} {X : Nat → Nat → Int32} {P : Nat → Nat} {row w : Nat → Int32} {nc np nw : Nat} (hI : Iv row nc np nw) (hF2 : CF S X 2 row w nc np) (hL0 : CLaw S X 0 row 0) (hL1 : CLaw S X 1 row 1) (p zz : Nat) (hp : p < np) (hz : S 30 = nI zz) (hz4 : zz ≤ 40) : Ci l yX11_picksAsTold cX11_picksAsTold 4 (some .boolean) 8 D (tyL cI cG cW) (wC cI cG cW q) [.ref (q 0), .int (nI p), .ref (q 22)] (S, X, P) (fun r τ => ∃ S' X', τ = (S', X', P) ∧ FrT S' X' S X ∧ r = bI (∀ k, k < zz → pickV (pksF np w (dawnsF np w row k) p) np (w p) p = X 83 k)) := by
  refine Ci.of (by decide) (Nat.le_of_ble_eq_true rfl) ?_
  intro p_ e_ s_ m_ b_ M_ c_ A_ C
  replace C : Cx _ _ _ _ _ _ _ _ RX11 _ _ _ _ := C
  refine j_L [0, 1, 2] [(0, .ref (q 0)), (1, .int (nI p)), (2, .ref (q 22))] rfl ?_
  obtain ⟨⟨e2, hc2, hc10⟩, ⟨e3, hn6⟩, ⟨e8, hw8⟩, -⟩ := id hI
  refine j_iconst C (v := (nI 0)) dX11_picksAsTold_0 (by decide) ?_
  refine j_istore_n C [(3, .int (nI 0)), (0, .ref (q 0)), (1, .int (nI p)), (2, .ref (q 22))] dX11_picksAsTold_1 (by decide) rfl ?_
  refine j_L [1, 2, 3, 0] [(0, .ref (q 0)), (1, .int (nI p)), (2, .ref (q 22)), (3, .int (nI 0))] rfl ?_
  refine j_loop (X := Nat × (Nat → Int32) × (Nat → Nat → Int32)) (fun (z : Nat × (Nat → Int32) × (Nat → Nat → Int32)) => match z with | (i, T, Y) => i ≤ zz ∧ CF T Y 2 (dawnsF np w row i) w nc np ∧ FrT T Y S X ∧ ∀ k, k < i → pickV (pksF np w (dawnsF np w row k) p) np (w p) p = X 83 k) (fun (z : Nat × (Nat → Int32) × (Nat → Nat → Int32)) => match z with | (i, T, Y) => zz - i) (fun (z : Nat × (Nat → Int32) × (Nat → Nat → Int32)) => match z with | (i, T, Y) => (T, Y, P)) (fun (z : Nat × (Nat → Int32) × (Nat → Nat → Int32)) => match z with | (i, T, Y) => [(0, .ref (q 0)), (1, .int (nI p)), (2, .ref (q 22)), (3, .int (nI i))]) (0, S, X) (⟨Nat.zero_le _, hF2, FrT.rf, fun k h => absurd h (Nat.not_lt_zero _)⟩) rfl rfl ?_
  rintro ⟨i, T, Y⟩ ⟨hi, hG, hT, hs⟩ ih
  try dsimp only at ih ⊢
  have hIF := dawns_IF w hI i
  refine j_iload_n C 3 dX11_picksAsTold_2 rfl ?_
  refine j_aload_n C 2 dX11_picksAsTold_3 rfl ?_
  refine j_getN C (v := .int (T 30)) 22 1 rfl rfl inlC8 (by decide) kf11_188 rfl dX11_picksAsTold_4 ?_
  refine j_v (nI zz) ((hT.1 30 (by omega)).trans hz) ?_
  refine j_icmp_ge C 43 dX11_picksAsTold_7 (by decide) (fun c7 => ?_) (fun c7 => ?_)
  · rw [nI_leI (by omega) (by omega)] at c7
    refine j_iconst C (v := (nI 1)) dX11_picksAsTold_43 (by decide) ?_
    refine j_zret C dX11_picksAsTold_44 (by decide) ?_
    exact ⟨_, _, rfl, hT, bI1 (by rw [show zz = i by omega]; exact hs)⟩
  · rw [nI_leI (by omega) (by omega)] at c7
    refine j_aload_n C 0 dX11_picksAsTold_10 rfl ?_
    refine j_get C (v := .ref (q 5)) 0 3 rfl rfl inlC11 (by decide) kf11_79 rfl dX11_picksAsTold_11 ?_
    refine j_callVNv (As := []) (rest := []) C vn11_215 (h_pass_2 hG hIF.1 (hL0.ft (by omega) (by omega) hT hIF.2) (hL1.ft (by omega) (by omega) hT hIF.2)) ⟨5, 1, _, _, rfl, rfl, rfl⟩ rfl (Nat.le_of_ble_eq_true rfl) dX11_picksAsTold_14 (by decide) ?_
    rintro _ ⟨T1, Y1, rfl, hG1, hD1, hX1, hk1⟩
    refine j_aload_n C 0 dX11_picksAsTold_17 rfl ?_
    refine j_get C (v := .ref (q 5)) 0 3 rfl rfl inlC11 (by decide) kf11_79 rfl dX11_picksAsTold_18 ?_
    refine j_getN C (v := .ref (q 65)) 5 12 rfl rfl inlC1 (by decide) kf11_312 rfl dX11_picksAsTold_21 ?_
    refine j_iload_n C 1 dX11_picksAsTold_24 rfl ?_
    refine j_ialdN C 65 0 rfl rfl p rfl (by omega) (by decide) dX11_picksAsTold_25 ?_
    refine j_v (pickV (pksF np w (dawnsF np w row i) p) np (w p) p) (hk1 p hp) ?_
    refine j_aload_n C 2 dX11_picksAsTold_26 rfl ?_
    refine j_getN C (v := .ref (q 83)) 22 0 rfl rfl inlC8 (by decide) kf11_281 rfl dX11_picksAsTold_27 ?_
    refine j_iload_n C 3 dX11_picksAsTold_30 rfl ?_
    refine j_ialdN C 83 0 rfl rfl i rfl (by omega) (by decide) dX11_picksAsTold_31 ?_
    refine j_v (X 83 i) (congrFun (((FrT.dn hD1 hX1).tr hT).2 83 (by omega) (by omega) (by omega)) i) ?_
    refine j_icmp_eq C 37 dX11_picksAsTold_32 (by decide) (fun c32 => ?_) (fun c32 => ?_)
    · skip
      refine j_iinc C (v := (nI (i + 1))) 3 [(3, .int (nI (i + 1))), (0, .ref (q 0)), (1, .int (nI p)), (2, .ref (q 22))] dX11_picksAsTold_37 rfl (nI_1 _) (by decide) rfl ?_
      refine j_goto C 2 dX11_picksAsTold_40 (by decide) ?_
      refine j_L [1, 2, 3, 0] [(0, .ref (q 0)), (1, .int (nI p)), (2, .ref (q 22)), (3, .int (nI (i + 1)))] rfl ?_
      exact ih (i + 1, T1, Y1) (⟨by dsimp only; omega, hG1, (FrT.dn hD1 hX1).tr hT, fun k hk => by
      by_cases e : k = i
      · subst e; exact c32
      · exact hs k (by dsimp only at hk; omega)⟩) (by dsimp only; omega)
    · skip
      refine j_iconst C (v := (nI 0)) dX11_picksAsTold_35 (by decide) ?_
      refine j_zret C dX11_picksAsTold_36 (by decide) ?_
      exact ⟨_, _, rfl, (FrT.dn hD1 hX1).tr hT, bI0 (fun h => c32 (h i (by omega)))⟩
set_option maxHeartbeats 2000000 in
set_option maxRecDepth 20000 in
theorem h_picksAsTold_2 {l : Launch} {D : va_G} {cI cG cW : ClassId} {q : Nat → Nat} {S : Nat → Int32} {X : Nat → Nat → Int32} {P : Nat → Nat} {row w : Nat → Int32} {nc np nw : Nat} (hI : Iv row nc np nw) (hF2 : CF S X 2 row w nc np) (hL0 : CLaw S X 0 row 0) (hL1 : CLaw S X 1 row 1) (p zz : Nat) (hp : p < np) (hz : S 31 = nI zz) (hz4 : zz ≤ 40) : Ci l yX11_picksAsTold cX11_picksAsTold 4 (some .boolean) 8 D (tyL cI cG cW) (wC cI cG cW q) [.ref (q 0), .int (nI p), .ref (q 23)] (S, X, P) (fun r τ => ∃ S' X', τ = (S', X', P) ∧ FrT S' X' S X ∧ r = bI (∀ k, k < zz → pickV (pksF np w (dawnsF np w row k) p) np (w p) p = X 84 k)) := by
  refine Ci.of (by decide) (Nat.le_of_ble_eq_true rfl) ?_
  intro p_ e_ s_ m_ b_ M_ c_ A_ C
  replace C : Cx _ _ _ _ _ _ _ _ RX11 _ _ _ _ := C
  refine j_L [0, 1, 2] [(0, .ref (q 0)), (1, .int (nI p)), (2, .ref (q 23))] rfl ?_
  obtain ⟨⟨e2, hc2, hc10⟩, ⟨e3, hn6⟩, ⟨e8, hw8⟩, -⟩ := id hI
  refine j_iconst C (v := (nI 0)) dX11_picksAsTold_0 (by decide) ?_
  refine j_istore_n C [(3, .int (nI 0)), (0, .ref (q 0)), (1, .int (nI p)), (2, .ref (q 23))] dX11_picksAsTold_1 (by decide) rfl ?_
  refine j_L [1, 2, 3, 0] [(0, .ref (q 0)), (1, .int (nI p)), (2, .ref (q 23)), (3, .int (nI 0))] rfl ?_
  refine j_loop (X := Nat × (Nat → Int32) × (Nat → Nat → Int32)) (fun (z : Nat × (Nat → Int32) × (Nat → Nat → Int32)) => match z with | (i, T, Y) => i ≤ zz ∧ CF T Y 2 (dawnsF np w row i) w nc np ∧ FrT T Y S X ∧ ∀ k, k < i → pickV (pksF np w (dawnsF np w row k) p) np (w p) p = X 84 k) (fun (z : Nat × (Nat → Int32) × (Nat → Nat → Int32)) => match z with | (i, T, Y) => zz - i) (fun (z : Nat × (Nat → Int32) × (Nat → Nat → Int32)) => match z with | (i, T, Y) => (T, Y, P)) (fun (z : Nat × (Nat → Int32) × (Nat → Nat → Int32)) => match z with | (i, T, Y) => [(0, .ref (q 0)), (1, .int (nI p)), (2, .ref (q 23)), (3, .int (nI i))]) (0, S, X) (⟨Nat.zero_le _, hF2, FrT.rf, fun k h => absurd h (Nat.not_lt_zero _)⟩) rfl rfl ?_
  rintro ⟨i, T, Y⟩ ⟨hi, hG, hT, hs⟩ ih
  try dsimp only at ih ⊢
  have hIF := dawns_IF w hI i
  refine j_iload_n C 3 dX11_picksAsTold_2 rfl ?_
  refine j_aload_n C 2 dX11_picksAsTold_3 rfl ?_
  refine j_getN C (v := .int (T 31)) 23 1 rfl rfl inlC8 (by decide) kf11_188 rfl dX11_picksAsTold_4 ?_
  refine j_v (nI zz) ((hT.1 31 (by omega)).trans hz) ?_
  refine j_icmp_ge C 43 dX11_picksAsTold_7 (by decide) (fun c7 => ?_) (fun c7 => ?_)
  · rw [nI_leI (by omega) (by omega)] at c7
    refine j_iconst C (v := (nI 1)) dX11_picksAsTold_43 (by decide) ?_
    refine j_zret C dX11_picksAsTold_44 (by decide) ?_
    exact ⟨_, _, rfl, hT, bI1 (by rw [show zz = i by omega]; exact hs)⟩
  · rw [nI_leI (by omega) (by omega)] at c7
    refine j_aload_n C 0 dX11_picksAsTold_10 rfl ?_
    refine j_get C (v := .ref (q 5)) 0 3 rfl rfl inlC11 (by decide) kf11_79 rfl dX11_picksAsTold_11 ?_
    refine j_callVNv (As := []) (rest := []) C vn11_215 (h_pass_2 hG hIF.1 (hL0.ft (by omega) (by omega) hT hIF.2) (hL1.ft (by omega) (by omega) hT hIF.2)) ⟨5, 1, _, _, rfl, rfl, rfl⟩ rfl (Nat.le_of_ble_eq_true rfl) dX11_picksAsTold_14 (by decide) ?_
    rintro _ ⟨T1, Y1, rfl, hG1, hD1, hX1, hk1⟩
    refine j_aload_n C 0 dX11_picksAsTold_17 rfl ?_
    refine j_get C (v := .ref (q 5)) 0 3 rfl rfl inlC11 (by decide) kf11_79 rfl dX11_picksAsTold_18 ?_
    refine j_getN C (v := .ref (q 65)) 5 12 rfl rfl inlC1 (by decide) kf11_312 rfl dX11_picksAsTold_21 ?_
    refine j_iload_n C 1 dX11_picksAsTold_24 rfl ?_
    refine j_ialdN C 65 0 rfl rfl p rfl (by omega) (by decide) dX11_picksAsTold_25 ?_
    refine j_v (pickV (pksF np w (dawnsF np w row i) p) np (w p) p) (hk1 p hp) ?_
    refine j_aload_n C 2 dX11_picksAsTold_26 rfl ?_
    refine j_getN C (v := .ref (q 84)) 23 0 rfl rfl inlC8 (by decide) kf11_281 rfl dX11_picksAsTold_27 ?_
    refine j_iload_n C 3 dX11_picksAsTold_30 rfl ?_
    refine j_ialdN C 84 0 rfl rfl i rfl (by omega) (by decide) dX11_picksAsTold_31 ?_
    refine j_v (X 84 i) (congrFun (((FrT.dn hD1 hX1).tr hT).2 84 (by omega) (by omega) (by omega)) i) ?_
    refine j_icmp_eq C 37 dX11_picksAsTold_32 (by decide) (fun c32 => ?_) (fun c32 => ?_)
    · skip
      refine j_iinc C (v := (nI (i + 1))) 3 [(3, .int (nI (i + 1))), (0, .ref (q 0)), (1, .int (nI p)), (2, .ref (q 23))] dX11_picksAsTold_37 rfl (nI_1 _) (by decide) rfl ?_
      refine j_goto C 2 dX11_picksAsTold_40 (by decide) ?_
      refine j_L [1, 2, 3, 0] [(0, .ref (q 0)), (1, .int (nI p)), (2, .ref (q 23)), (3, .int (nI (i + 1)))] rfl ?_
      exact ih (i + 1, T1, Y1) (⟨by dsimp only; omega, hG1, (FrT.dn hD1 hX1).tr hT, fun k hk => by
      by_cases e : k = i
      · subst e; exact c32
      · exact hs k (by dsimp only at hk; omega)⟩) (by dsimp only; omega)
    · skip
      refine j_iconst C (v := (nI 0)) dX11_picksAsTold_35 (by decide) ?_
      refine j_zret C dX11_picksAsTold_36 (by decide) ?_
      exact ⟨_, _, rfl, (FrT.dn hD1 hX1).tr hT, bI0 (fun h => c32 (h i (by omega)))⟩
set_option maxHeartbeats 2000000 in
set_option maxRecDepth 20000 in
theorem h_picksAsTold_3 {l : Launch} {D : va_G} {cI cG cW : ClassId} {q : Nat → Nat} {S : Nat → Int32} {X : Nat → Nat → Int32} {P : Nat → Nat} {row w : Nat → Int32} {nc np nw : Nat} (hI : Iv row nc np nw) (hF2 : CF S X 2 row w nc np) (hL0 : CLaw S X 0 row 0) (hL1 : CLaw S X 1 row 1) (p zz : Nat) (hp : p < np) (hz : S 32 = nI zz) (hz4 : zz ≤ 40) : Ci l yX11_picksAsTold cX11_picksAsTold 4 (some .boolean) 8 D (tyL cI cG cW) (wC cI cG cW q) [.ref (q 0), .int (nI p), .ref (q 24)] (S, X, P) (fun r τ => ∃ S' X', τ = (S', X', P) ∧ FrT S' X' S X ∧ r = bI (∀ k, k < zz → pickV (pksF np w (dawnsF np w row k) p) np (w p) p = X 85 k)) := by
  refine Ci.of (by decide) (Nat.le_of_ble_eq_true rfl) ?_
  intro p_ e_ s_ m_ b_ M_ c_ A_ C
  replace C : Cx _ _ _ _ _ _ _ _ RX11 _ _ _ _ := C
  refine j_L [0, 1, 2] [(0, .ref (q 0)), (1, .int (nI p)), (2, .ref (q 24))] rfl ?_
  obtain ⟨⟨e2, hc2, hc10⟩, ⟨e3, hn6⟩, ⟨e8, hw8⟩, -⟩ := id hI
  refine j_iconst C (v := (nI 0)) dX11_picksAsTold_0 (by decide) ?_
  refine j_istore_n C [(3, .int (nI 0)), (0, .ref (q 0)), (1, .int (nI p)), (2, .ref (q 24))] dX11_picksAsTold_1 (by decide) rfl ?_
  refine j_L [1, 2, 3, 0] [(0, .ref (q 0)), (1, .int (nI p)), (2, .ref (q 24)), (3, .int (nI 0))] rfl ?_
  refine j_loop (X := Nat × (Nat → Int32) × (Nat → Nat → Int32)) (fun (z : Nat × (Nat → Int32) × (Nat → Nat → Int32)) => match z with | (i, T, Y) => i ≤ zz ∧ CF T Y 2 (dawnsF np w row i) w nc np ∧ FrT T Y S X ∧ ∀ k, k < i → pickV (pksF np w (dawnsF np w row k) p) np (w p) p = X 85 k) (fun (z : Nat × (Nat → Int32) × (Nat → Nat → Int32)) => match z with | (i, T, Y) => zz - i) (fun (z : Nat × (Nat → Int32) × (Nat → Nat → Int32)) => match z with | (i, T, Y) => (T, Y, P)) (fun (z : Nat × (Nat → Int32) × (Nat → Nat → Int32)) => match z with | (i, T, Y) => [(0, .ref (q 0)), (1, .int (nI p)), (2, .ref (q 24)), (3, .int (nI i))]) (0, S, X) (⟨Nat.zero_le _, hF2, FrT.rf, fun k h => absurd h (Nat.not_lt_zero _)⟩) rfl rfl ?_
  rintro ⟨i, T, Y⟩ ⟨hi, hG, hT, hs⟩ ih
  try dsimp only at ih ⊢
  have hIF := dawns_IF w hI i
  refine j_iload_n C 3 dX11_picksAsTold_2 rfl ?_
  refine j_aload_n C 2 dX11_picksAsTold_3 rfl ?_
  refine j_getN C (v := .int (T 32)) 24 1 rfl rfl inlC8 (by decide) kf11_188 rfl dX11_picksAsTold_4 ?_
  refine j_v (nI zz) ((hT.1 32 (by omega)).trans hz) ?_
  refine j_icmp_ge C 43 dX11_picksAsTold_7 (by decide) (fun c7 => ?_) (fun c7 => ?_)
  · rw [nI_leI (by omega) (by omega)] at c7
    refine j_iconst C (v := (nI 1)) dX11_picksAsTold_43 (by decide) ?_
    refine j_zret C dX11_picksAsTold_44 (by decide) ?_
    exact ⟨_, _, rfl, hT, bI1 (by rw [show zz = i by omega]; exact hs)⟩
  · rw [nI_leI (by omega) (by omega)] at c7
    refine j_aload_n C 0 dX11_picksAsTold_10 rfl ?_
    refine j_get C (v := .ref (q 5)) 0 3 rfl rfl inlC11 (by decide) kf11_79 rfl dX11_picksAsTold_11 ?_
    refine j_callVNv (As := []) (rest := []) C vn11_215 (h_pass_2 hG hIF.1 (hL0.ft (by omega) (by omega) hT hIF.2) (hL1.ft (by omega) (by omega) hT hIF.2)) ⟨5, 1, _, _, rfl, rfl, rfl⟩ rfl (Nat.le_of_ble_eq_true rfl) dX11_picksAsTold_14 (by decide) ?_
    rintro _ ⟨T1, Y1, rfl, hG1, hD1, hX1, hk1⟩
    refine j_aload_n C 0 dX11_picksAsTold_17 rfl ?_
    refine j_get C (v := .ref (q 5)) 0 3 rfl rfl inlC11 (by decide) kf11_79 rfl dX11_picksAsTold_18 ?_
    refine j_getN C (v := .ref (q 65)) 5 12 rfl rfl inlC1 (by decide) kf11_312 rfl dX11_picksAsTold_21 ?_
    refine j_iload_n C 1 dX11_picksAsTold_24 rfl ?_
    refine j_ialdN C 65 0 rfl rfl p rfl (by omega) (by decide) dX11_picksAsTold_25 ?_
    refine j_v (pickV (pksF np w (dawnsF np w row i) p) np (w p) p) (hk1 p hp) ?_
    refine j_aload_n C 2 dX11_picksAsTold_26 rfl ?_
    refine j_getN C (v := .ref (q 85)) 24 0 rfl rfl inlC8 (by decide) kf11_281 rfl dX11_picksAsTold_27 ?_
    refine j_iload_n C 3 dX11_picksAsTold_30 rfl ?_
    refine j_ialdN C 85 0 rfl rfl i rfl (by omega) (by decide) dX11_picksAsTold_31 ?_
    refine j_v (X 85 i) (congrFun (((FrT.dn hD1 hX1).tr hT).2 85 (by omega) (by omega) (by omega)) i) ?_
    refine j_icmp_eq C 37 dX11_picksAsTold_32 (by decide) (fun c32 => ?_) (fun c32 => ?_)
    · skip
      refine j_iinc C (v := (nI (i + 1))) 3 [(3, .int (nI (i + 1))), (0, .ref (q 0)), (1, .int (nI p)), (2, .ref (q 24))] dX11_picksAsTold_37 rfl (nI_1 _) (by decide) rfl ?_
      refine j_goto C 2 dX11_picksAsTold_40 (by decide) ?_
      refine j_L [1, 2, 3, 0] [(0, .ref (q 0)), (1, .int (nI p)), (2, .ref (q 24)), (3, .int (nI (i + 1)))] rfl ?_
      exact ih (i + 1, T1, Y1) (⟨by dsimp only; omega, hG1, (FrT.dn hD1 hX1).tr hT, fun k hk => by
      by_cases e : k = i
      · subst e; exact c32
      · exact hs k (by dsimp only at hk; omega)⟩) (by dsimp only; omega)
    · skip
      refine j_iconst C (v := (nI 0)) dX11_picksAsTold_35 (by decide) ?_
      refine j_zret C dX11_picksAsTold_36 (by decide) ?_
      exact ⟨_, _, rfl, (FrT.dn hD1 hX1).tr hT, bI0 (fun h => c32 (h i (by omega)))⟩
theorem dX11_greatestShared_0 : decode cX11_greatestShared 0 = .ok (.iload_n 0, 1) := by decide +kernel
theorem dX11_greatestShared_1 : decode cX11_greatestShared 1 = .ok (.istore_n 2, 1) := by decide +kernel
theorem dX11_greatestShared_2 : decode cX11_greatestShared 2 = .ok (.iload_n 1, 1) := by decide +kernel
theorem dX11_greatestShared_3 : decode cX11_greatestShared 3 = .ok (.istore_n 3, 1) := by decide +kernel
theorem dX11_greatestShared_4 : decode cX11_greatestShared 4 = .ok (.iconst 0, 1) := by decide +kernel
theorem dX11_greatestShared_5 : decode cX11_greatestShared 5 = .ok (.istore 4, 2) := by decide +kernel
theorem dX11_greatestShared_7 : decode cX11_greatestShared 7 = .ok (.iload 4, 2) := by decide +kernel
theorem dX11_greatestShared_9 : decode cX11_greatestShared 9 = .ok (.bipush 100, 2) := by decide +kernel
theorem dX11_greatestShared_11 : decode cX11_greatestShared 11 = .ok (.if_icmp .ge 23, 3) := by decide +kernel
theorem dX11_greatestShared_14 : decode cX11_greatestShared 14 = .ok (.iload_n 3, 1) := by decide +kernel
theorem dX11_greatestShared_15 : decode cX11_greatestShared 15 = .ok (.ifCond .eq 19, 3) := by decide +kernel
theorem dX11_greatestShared_18 : decode cX11_greatestShared 18 = .ok (.iload_n 2, 1) := by decide +kernel
theorem dX11_greatestShared_19 : decode cX11_greatestShared 19 = .ok (.iload_n 3, 1) := by decide +kernel
theorem dX11_greatestShared_20 : decode cX11_greatestShared 20 = .ok (.irem, 1) := by decide +kernel
theorem dX11_greatestShared_21 : decode cX11_greatestShared 21 = .ok (.istore 5, 2) := by decide +kernel
theorem dX11_greatestShared_23 : decode cX11_greatestShared 23 = .ok (.iload_n 3, 1) := by decide +kernel
theorem dX11_greatestShared_24 : decode cX11_greatestShared 24 = .ok (.istore_n 2, 1) := by decide +kernel
theorem dX11_greatestShared_25 : decode cX11_greatestShared 25 = .ok (.iload 5, 2) := by decide +kernel
theorem dX11_greatestShared_27 : decode cX11_greatestShared 27 = .ok (.istore_n 3, 1) := by decide +kernel
theorem dX11_greatestShared_28 : decode cX11_greatestShared 28 = .ok (.iinc 4 1, 3) := by decide +kernel
theorem dX11_greatestShared_31 : decode cX11_greatestShared 31 = .ok (.goto (-24), 3) := by decide +kernel
theorem dX11_greatestShared_34 : decode cX11_greatestShared 34 = .ok (.iload_n 2, 1) := by decide +kernel
theorem dX11_greatestShared_35 : decode cX11_greatestShared 35 = .ok (.ireturn, 1) := by decide +kernel
set_option maxHeartbeats 2000000 in
set_option maxRecDepth 20000 in
theorem h_gshared {l : Launch} {D : va_G} {cI cG cW : ClassId} {q : Nat → Nat} {S : Nat → Int32} {X : Nat → Nat → Int32} {P : Nat → Nat} (a b : Nat) (ha : a ≤ 8) (hb : b ≤ 8) : Ci l yX11_greatestShared cX11_greatestShared 6 (some .int) 0 D (tyL cI cG cW) (wC cI cG cW q) [.int (nI a), .int (nI b)] (S, X, P) (fun r τ => r = nI (Nat.gcd b a) ∧ τ = (S, X, P)) := by
  refine Ci.of (by decide) (Nat.le_of_ble_eq_true rfl) ?_
  intro p_ e_ s_ m_ b_ M_ c_ A_ C
  replace C : Cx _ _ _ _ _ _ _ _ RX11 _ _ _ _ := C
  refine j_L [0, 1] [(0, .int (nI a)), (1, .int (nI b))] rfl ?_
  refine j_iload_n C 0 dX11_greatestShared_0 rfl ?_
  refine j_istore_n C [(2, .int (nI a)), (0, .int (nI a)), (1, .int (nI b))] dX11_greatestShared_1 (by decide) rfl ?_
  refine j_iload_n C 2 dX11_greatestShared_2 rfl ?_
  refine j_istore_n C [(3, .int (nI b)), (2, .int (nI a)), (0, .int (nI a)), (1, .int (nI b))] dX11_greatestShared_3 (by decide) rfl ?_
  refine j_iconst C (v := (nI 0)) dX11_greatestShared_4 (by decide) ?_
  refine j_istore C [(4, .int (nI 0)), (3, .int (nI b)), (2, .int (nI a)), (0, .int (nI a)), (1, .int (nI b))] dX11_greatestShared_5 (by decide) rfl ?_
  refine j_L [3, 4, 2, 1, 0] [(0, .int (nI a)), (1, .int (nI b)), (2, .int (nI a)), (3, .int (nI b)), (4, .int (nI 0))] rfl ?_
  refine j_loop (X := Nat × Nat × Nat) (fun (z : Nat × Nat × Nat) => match z with | (x, y, i) => x ≤ 8 ∧ i + y ≤ 8 ∧ Nat.gcd y x = Nat.gcd b a) (fun (z : Nat × Nat × Nat) => match z with | (x, y, i) => y) (fun (z : Nat × Nat × Nat) => match z with | (x, y, i) => (S, X, P)) (fun (z : Nat × Nat × Nat) => match z with | (x, y, i) => [(0, .int (nI a)), (1, .int (nI b)), (2, .int (nI x)), (3, .int (nI y)), (4, .int (nI i))]) (a, b, 0) (⟨ha, by omega, rfl⟩) rfl rfl ?_
  rintro ⟨x, y, i⟩ ⟨hx, hy, hg⟩ ih
  try dsimp only at ih ⊢
  refine j_iload C 4 dX11_greatestShared_7 rfl ?_
  refine j_bipush C (v := (nI 100)) dX11_greatestShared_9 (by decide) ?_
  refine j_icmp_ge C 34 dX11_greatestShared_11 (by decide) (fun c11 => ?_) (fun c11 => ?_)
  · rw [nI_leI (by omega) (by omega)] at c11
    exfalso; omega
  · rw [nI_leI (by omega) (by omega)] at c11
    refine j_iload_n C 3 dX11_greatestShared_14 rfl ?_
    refine j_if_eq C 34 dX11_greatestShared_15 (by decide) (fun c15 => ?_) (fun c15 => ?_)
    · rw [show (0 : Int32) = nI 0 from rfl, nI_eq (by omega) (by omega)] at c15
      refine j_iload_n C 2 dX11_greatestShared_34 rfl ?_
      refine j_iret C dX11_greatestShared_35 ?_
      refine ⟨?_, rfl⟩
      rw [← hg, show y = 0 from c15, Nat.gcd_zero_left]
    · rw [show (0 : Int32) = nI 0 from rfl, nI_eq (by omega) (by omega)] at c15
      have hnz : ¬ nI y = 0 := nI_ne0 (by omega) (by omega)
      refine j_iload_n C 2 dX11_greatestShared_18 rfl ?_
      refine j_iload_n C 3 dX11_greatestShared_19 rfl ?_
      refine j_irem C dX11_greatestShared_20 (by assumption) ?_
      refine j_v (nI (x % y)) (pk_rem (by omega) (by omega) (by omega)) ?_
      refine j_istore C [(5, .int (nI (x % y))), (0, .int (nI a)), (1, .int (nI b)), (2, .int (nI x)), (3, .int (nI y)), (4, .int (nI i))] dX11_greatestShared_21 (by decide) rfl ?_
      refine j_iload_n C 4 dX11_greatestShared_23 rfl ?_
      refine j_istore_n C [(2, .int (nI y)), (5, .int (nI (x % y))), (0, .int (nI a)), (1, .int (nI b)), (3, .int (nI y)), (4, .int (nI i))] dX11_greatestShared_24 (by decide) rfl ?_
      refine j_iload C 1 dX11_greatestShared_25 rfl ?_
      refine j_istore_n C [(3, .int (nI (x % y))), (2, .int (nI y)), (5, .int (nI (x % y))), (0, .int (nI a)), (1, .int (nI b)), (4, .int (nI i))] dX11_greatestShared_27 (by decide) rfl ?_
      refine j_iinc C (v := (nI (i + 1))) 5 [(4, .int (nI (i + 1))), (3, .int (nI (x % y))), (2, .int (nI y)), (5, .int (nI (x % y))), (0, .int (nI a)), (1, .int (nI b))] dX11_greatestShared_28 rfl (nI_1 _) (by decide) rfl ?_
      refine j_goto C 7 dX11_greatestShared_31 (by decide) ?_
      refine j_L [4, 5, 2, 1, 0] [(0, .int (nI a)), (1, .int (nI b)), (2, .int (nI y)), (3, .int (nI (x % y))), (4, .int (nI (i + 1)))] rfl ?_
      exact ih (y, x % y, i + 1) (⟨by dsimp only; omega, by dsimp only; have := Nat.mod_lt x (show y > 0 by omega); omega, by dsimp only; rw [← Nat.gcd_rec]; exact hg⟩) (by dsimp only; exact Nat.mod_lt x (by omega))
def drwU (z : Int32) : Int32 := z * 1103515245 + nI 12345
def drwT (z : Int32) : Int32 := ((drwU z).toUInt32 >>> ((nI 8).toUInt32 &&& Int32.toUInt32 31)).toInt32
theorem h_drawU {l : Launch} {D : va_G} {cI cG cW : ClassId} {q : Nat → Nat} {S : Nat → Int32} {X : Nat → Nat → Int32} {P : Nat → Nat} {z : Int32} (hz : S 2 = z) : Ci l yX3_draw cX3_draw 1 (some .int) 0 D (tyL cI cG cW) (wC cI cG cW q) [.ref (q 1)] (S, X, P) (fun r τ => r = drwT z ∧ τ = (upd S 2 (drwU z), X, P)) := by
  subst hz
  exact h_draw.mono (fun r τ h => h)
theorem dX3_drawWay_0 : decode cX3_drawWay 0 = .ok (.aload_n 0, 1) := by decide +kernel
theorem dX3_drawWay_1 : decode cX3_drawWay 1 = .ok (.getfield 40, 3) := by decide +kernel
theorem dX3_drawWay_4 : decode cX3_drawWay 4 = .ok (.getfield 77, 3) := by decide +kernel
theorem dX3_drawWay_7 : decode cX3_drawWay 7 = .ok (.ifCond .le 33, 3) := by decide +kernel
theorem dX3_drawWay_10 : decode cX3_drawWay 10 = .ok (.aload_n 0, 1) := by decide +kernel
theorem dX3_drawWay_11 : decode cX3_drawWay 11 = .ok (.invokevirtual 88, 3) := by decide +kernel
theorem dX3_drawWay_14 : decode cX3_drawWay 14 = .ok (.aload_n 0, 1) := by decide +kernel
theorem dX3_drawWay_15 : decode cX3_drawWay 15 = .ok (.getfield 40, 3) := by decide +kernel
theorem dX3_drawWay_18 : decode cX3_drawWay 18 = .ok (.getfield 77, 3) := by decide +kernel
theorem dX3_drawWay_21 : decode cX3_drawWay 21 = .ok (.irem, 1) := by decide +kernel
theorem dX3_drawWay_22 : decode cX3_drawWay 22 = .ok (.istore_n 1, 1) := by decide +kernel
theorem dX3_drawWay_23 : decode cX3_drawWay 23 = .ok (.aload_n 0, 1) := by decide +kernel
theorem dX3_drawWay_24 : decode cX3_drawWay 24 = .ok (.getfield 40, 3) := by decide +kernel
theorem dX3_drawWay_27 : decode cX3_drawWay 27 = .ok (.getfield 92, 3) := by decide +kernel
theorem dX3_drawWay_30 : decode cX3_drawWay 30 = .ok (.iload_n 1, 1) := by decide +kernel
theorem dX3_drawWay_31 : decode cX3_drawWay 31 = .ok (.aload_n 0, 1) := by decide +kernel
theorem dX3_drawWay_32 : decode cX3_drawWay 32 = .ok (.invokevirtual 88, 3) := by decide +kernel
theorem dX3_drawWay_35 : decode cX3_drawWay 35 = .ok (.iconst 3, 1) := by decide +kernel
theorem dX3_drawWay_36 : decode cX3_drawWay 36 = .ok (.irem, 1) := by decide +kernel
theorem dX3_drawWay_37 : decode cX3_drawWay 37 = .ok (.iconst 1, 1) := by decide +kernel
theorem dX3_drawWay_38 : decode cX3_drawWay 38 = .ok (.isub, 1) := by decide +kernel
theorem dX3_drawWay_39 : decode cX3_drawWay 39 = .ok (.iastore, 1) := by decide +kernel
theorem dX3_drawWay_40 : decode cX3_drawWay 40 = .ok (.return_, 1) := by decide +kernel
set_option maxHeartbeats 2000000 in
set_option maxRecDepth 20000 in
theorem h_drawWay {l : Launch} {D : va_G} {cI cG cW : ClassId} {q : Nat → Nat} {S : Nat → Int32} {X : Nat → Nat → Int32} {P : Nat → Nat} {row w : Nat → Int32} {nc np : Nat} (hF : CF S X 0 row w nc np) {nw : Nat} (hI : Iv row nc np nw) (hz : S 2 = row 1) : Cv l yX3_drawWay cX3_drawWay 2 none 1 D (tyL cI cG cW) (wC cI cG cW q) [.ref (q 1)] (S, X, P) (fun τ => ∃ S' X', τ = (S', X', P) ∧ CF S' X' 0 (losG np row) w nc np ∧ S' 2 = losG np row 1 ∧ (∀ k, ¬ k = 2 → S' k = S k) ∧ FrX 0 X' X) := by
  refine Cv.of (by decide) (Nat.le_of_ble_eq_true rfl) ?_
  intro p_ e_ s_ m_ b_ M_ c_ A_ C
  replace C : Cx _ _ _ _ _ _ _ _ RX3 _ _ _ _ := C
  refine j_L [0] [(0, .ref (q 1))] rfl ?_
  obtain ⟨⟨e2, hc2, hc10⟩, ⟨e3, hn6⟩, ⟨e8, hw8⟩, -⟩ := id hI
  refine j_aload_n C 0 dX3_drawWay_0 rfl ?_
  refine j_get C (v := .ref (q 3)) 1 0 rfl rfl inlC3 (by decide) kf3_40 rfl dX3_drawWay_1 ?_
  refine j_getN C (v := .int (S 7)) 3 4 rfl rfl inlC1 (by decide) kf3_77 rfl dX3_drawWay_4 ?_
  refine j_v (nI np) (hF.people.trans e3) ?_
  refine j_if_le C 40 dX3_drawWay_7 (by decide) (fun c7 => ?_) (fun c7 => ?_)
  · rw [show (0 : Int32) = nI 0 from rfl, nI_leI (by omega) (by omega)] at c7
    refine j_vret C dX3_drawWay_40 ?_
    have h0 : np = 0 := by omega
    refine ⟨_, _, rfl, ?_, ?_, fun k hk => rfl, FrX.rf⟩
    · unfold losG; rw [if_pos h0]; exact hF
    · unfold losG; rw [if_pos h0]; exact hz
  · rw [show (0 : Int32) = nI 0 from rfl, nI_leI (by omega) (by omega)] at c7
    have hnz : ¬ nI np = 0 := nI_ne0 (by omega) (by omega)
    refine j_aload_n C 0 dX3_drawWay_10 rfl ?_
    refine j_callV (As := []) (rest := []) C vw3_88 (h_drawU hz) ⟨1, 3, _, _, rfl, rfl, rfl⟩ rfl (Nat.le_of_ble_eq_true rfl) dX3_drawWay_11 (by decide) ?_
    rintro _ _ ⟨rfl, rfl⟩
    refine j_aload_n C 0 dX3_drawWay_14 rfl ?_
    refine j_get C (v := .ref (q 3)) 1 0 rfl rfl inlC3 (by decide) kf3_40 rfl dX3_drawWay_15 ?_
    refine j_getN C (v := .int (S 7)) 3 4 rfl rfl inlC1 (by decide) kf3_77 rfl dX3_drawWay_18 ?_
    refine j_v (nI np) (hF.people.trans e3) ?_
    refine j_irem C dX3_drawWay_21 (by assumption) ?_
    obtain ⟨pi, hpi, epi⟩ := drw_lt row (b := np) (by omega) (by omega)
    refine j_v (nI pi) epi ?_
    refine j_istore_n C [(1, .int (nI pi)), (0, .ref (q 1))] dX3_drawWay_22 (by decide) rfl ?_
    refine j_aload_n C 1 dX3_drawWay_23 rfl ?_
    refine j_get C (v := .ref (q 3)) 1 0 rfl rfl inlC3 (by decide) kf3_40 rfl dX3_drawWay_24 ?_
    refine j_getN C (v := .ref (q 41)) 3 8 rfl rfl inlC1 (by decide) kf3_92 rfl dX3_drawWay_27 ?_
    refine j_iload_n C 0 dX3_drawWay_30 rfl ?_
    refine j_aload_n C 1 dX3_drawWay_31 rfl ?_
    refine j_callV (As := []) (rest := [.int (nI pi), .ref (q 41)]) C vw3_88 (h_drawU pk_us) ⟨1, 3, _, _, rfl, rfl, rfl⟩ rfl (Nat.le_of_ble_eq_true rfl) dX3_drawWay_32 (by decide) ?_
    rintro _ _ ⟨rfl, rfl⟩
    rw [upd_uu]
    refine j_iconst C (v := (nI 3)) dX3_drawWay_35 (by decide) ?_
    refine j_irem C dX3_drawWay_36 (by decide) ?_
    refine j_iconst C (v := (nI 1)) dX3_drawWay_37 (by decide) ?_
    refine j_isub C dX3_drawWay_38 ?_
    refine j_iastN C 41 0 rfl rfl pi rfl (by omega) (by decide) dX3_drawWay_39 (upd S 2 (drwU (drwU (row 1))), va_up X 41 (upd (X 41) pi (((drwT (drwU (row 1))) - (drwT (drwU (row 1))) / (nI 3) * (nI 3)) - (nI 1))), P) rfl ?_
    refine j_vret C dX3_drawWay_40 ?_
    refine ⟨_, _, rfl, ?_, ?_, fun k hk => pk_un hk, FrX.rf.up (by omega)⟩
    · unfold losG; rw [if_neg (by omega), epi, tN_nI (by omega)]
      exact CF.setP (hF.cg (S' := upd S 2 (drwU (drwU (row 1)))) (X' := X) (row' := drwF (drwF row)) (w' := w) (fun k _ _ => pk_un (by omega)) (fun k _ _ => rfl) hF.weighs (fun k hk => (pk_un (by omega)).trans (pk_un (by omega))) hc10 hn6) hc10 3 (by omega) pi _
    · unfold losG; rw [if_neg (by omega), pk_us, pk_un (by omega)]; unfold drwF; rw [pk_us, pk_us]; rfl

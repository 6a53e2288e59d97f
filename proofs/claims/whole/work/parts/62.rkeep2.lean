/-! What each call leaves of the reference's state is again one: the others. -/
section RIT
variable {M : Nat} {V row row' kept tried bf fd pk bo so sh mv tr : Nat → Int32} {nc np nw d nt nq : Nat}
theorem ri_seed {v : Int32} (h : RI M (sR V row kept tried bf fd pk bo so sh mv tr)) : RI (M + 1) (sp_seed V row kept tried bf fd pk bo so sh mv tr v).2 := by
  unfold sp_seed
  refine h.rw1 ?_
  obtain ⟨nc, np, nw, d, nt, nq, hR⟩ := h.1
  have hI := hR.1
  exact ⟨nc, np, nw, d, nt, nq, hR.ch (hI.same ⟨(pk_un (by omega)).trans hI.2.2.1.1, hI.2.2.1.2⟩ (fun k hk => pk_un (by omega))) (fun k hk => pk_un (by omega))⟩
theorem byt_255 (w : Int64) (i : Nat) : ∃ b, b ≤ 255 ∧ bytF8 w i = nI b := by
  unfold bytF8
  have h1 : ∀ x : BitVec 64, (BitVec.signExtend 32 (x &&& 255#64)).toNat ≤ 255 := fun x => by
    have h2 : (x &&& 255#64).toNat ≤ 255 := by
      rw [BitVec.toNat_and]; exact Nat.and_le_right
    have h3 : BitVec.signExtend 32 (x &&& 255#64) = BitVec.setWidth 32 (x &&& 255#64) := BitVec.signExtend_eq_setWidth_of_le _ (by omega)
    rw [h3, BitVec.toNat_setWidth]
    omega
  obtain ⟨y, hy⟩ : ∃ y, y = ((w >>> ((nI (8 * i)).toInt64 &&& 63)) &&& 255).toInt32 := ⟨_, rfl⟩
  have h4 : y.toBitVec.toNat ≤ 255 := by rw [hy]; exact h1 _
  rw [← hy]
  refine ⟨y.toBitVec.toNat, h4, ?_⟩
  apply Int32.toBitVec_inj.mp
  apply BitVec.eq_of_toNat_eq
  show y.toBitVec.toNat = y.toBitVec.toNat % 2 ^ 32
  omega
theorem ri_feed {w : Int64} {n : Int32} (h : RI M (sR V row kept tried bf fd pk bo so sh mv tr)) : RI (M + 1) (sp_feed V row kept tried bf fd pk bo so sh mv tr w n).2 := by
  unfold sp_feed
  by_cases c1 : inn n (nI 1) (nI 8)
  · rw [if_pos c1]
    by_cases c2 : row 4 + n ≤ nI 50
    · rw [if_pos c2]
      refine h.rw1 ?_
      obtain ⟨nc, np, nw, d, nt, nq, hR⟩ := h.1
      obtain ⟨hI, hW, ⟨e0, hd⟩, ⟨e4, ht⟩, ⟨e5, hq⟩, hB⟩ := id hR
      have h8 := hI.2.2.1
      obtain ⟨j, -, hj, rfl⟩ := inn_lit c1 (by omega)
      rw [e4, nI_add, nI_leI (by omega) (by omega)] at c2
      rw [e4, tN_nI (by omega), tN_nI (by omega)]
      have fo : ∀ k, ¬ k = 4 → k < 90 ∨ 90 + (nt + j) ≤ k → fdF row w nt j k = row k := fun k a b => fdF_o a b
      have fb : ∀ i, i ≤ 8 → nt + i ≤ 50 → ∀ k, k < nt + i → ∃ b, b ≤ 255 ∧ fdF row w nt i (90 + k) = nI b := by
        intro i
        induction i with
        | zero => intro _ _ k hk; exact hB k hk
        | succ i ih =>
          intro h1 h2 k hk
          unfold fdF
          rw [pk_un (by omega)]
          by_cases e : k = nt + i
          · subst e; rw [pk_us]; exact byt_255 w i
          · rw [pk_un (by omega)]; exact ih (by omega) (by omega) k (by omega)
      refine ⟨nc, np, nw, d, nt + j, nq, hI.same ⟨(fo 8 (by omega) (by omega)).trans h8.1, h8.2⟩ (fun k hk => fo k (by omega) (by omega)), fun i hi => ?_, ⟨(fo 0 (by omega) (by omega)).trans e0, hd⟩, ⟨fdF_4 e4 j, c2⟩, ⟨(fo 5 (by omega) (by omega)).trans e5, hq⟩, fun k hk => fb j hj c2 k hk⟩
      rw [fo _ (by omega) (by omega), fo _ (by omega) (by omega), fo _ (by omega) (by omega)]; exact hW i hi
    · rw [if_neg c2]; exact h.er
  · rw [if_neg c1]; exact h.er
theorem RKx.t0 (hR : RKx row nc np nw d nt nq) (hI : Iv row' nc np nw) (h4 : row' 4 = nI 0) (hf : ∀ k, k = 0 ∨ k = 5 ∨ (66 ≤ k ∧ k < 90) → row' k = row k) : RKx row' nc np nw d 0 nq := by
  obtain ⟨-, hW, ⟨e0, hd⟩, -, ⟨e5, hq⟩, -⟩ := id hR
  have h8 := hI.2.2.1.2
  refine ⟨hI, fun i hi => ?_, ⟨(hf 0 (by omega)).trans e0, hd⟩, ⟨h4, by omega⟩, ⟨(hf 5 (by omega)).trans e5, hq⟩, fun k hk => absurd hk (Nat.not_lt_zero _)⟩
  rw [hf _ (by omega), hf _ (by omega), hf _ (by omega)]; exact hW i hi
theorem ri_text {use : Int32} (h : RI M (sR V row kept tried bf fd pk bo so sh mv tr)) : RI (M + 1) (sp_text V row kept tried bf fd pk bo so sh mv tr use).2 := by
  unfold sp_text
  by_cases c1 : inn use (nI 0) (nI 1)
  · rw [if_pos c1]
    obtain ⟨nc, np, nw, d, nt, nq, hR⟩ := h.1
    obtain ⟨hI, hW, ⟨e0, hd⟩, ⟨e4, ht⟩, ⟨e5, hq⟩, hB⟩ := id hR
    obtain ⟨⟨e2, hc2, hc10⟩, ⟨e3, hn6⟩, ⟨e8, hw8⟩, hP, hE, hL, hT0, hT1⟩ := id hI
    obtain ⟨u, -, hu, rfl⟩ := inn_lit c1 (by omega)
    rw [tN_nI (n := u) (by omega), e4, tN_nI (n := nt) (by omega)]
    by_cases c2 : (readF (tapF row) nt u).1 = true ∧ (readF (tapF row) nt u).2.1 = nt
    · rw [if_pos c2]
      refine h.rw1 ⟨nc, np, nw, d, 0, nq, hR.t0 ?_ pk_us (fun k hk => newT_o (by omega) (by omega) (by omega))⟩
      have fo : ∀ k, ¬ k = 4 → ¬ k = 6 + u → k < 160 → newT row u k = row k := fun k a b c => newT_o a b (by omega)
      have hnew : txtOK (newT row u) u := by
        have e : readF (txF (newT row u) u) nt u = readF (tapF row) nt u := readF_congr (fun k hk => newT_t hu (by omega))
        exact Or.inr ⟨nt, ht, (newT_6 hu).trans e4, by rw [e]; exact c2.1, by rw [e]; exact c2.2⟩
      have hold : ∀ v, v ≤ 1 → ¬ v = u → txtOK row v → txtOK (newT row u) v := fun v hv hne hT => by
        have e6 : newT row u (6 + v) = row (6 + v) := fo _ (by omega) (by omega) (by omega)
        rcases hT with hT | ⟨n, g1, g2, g3, g4⟩
        · exact Or.inl (e6.trans hT)
        · have e : readF (txF (newT row u) v) n v = readF (txF row v) n v := readF_congr (fun k hk => newT_o (by omega) (by omega) (by omega))
          exact Or.inr ⟨n, g1, e6.trans g2, by rw [e]; exact g3, by rw [e]; exact g4⟩
      refine ⟨⟨(fo 2 (by omega) (by omega) (by omega)).trans e2, hc2, hc10⟩, ⟨(fo 3 (by omega) (by omega) (by omega)).trans e3, hn6⟩, ⟨(fo 8 (by omega) (by omega) (by omega)).trans e8, hw8⟩, fun p hp => (hP p hp).c (fun j hj => fo _ (by omega) (by omega) (by omega)), fun c hc => ?_, fun c hc => ?_, ?_, ?_⟩
      · rw [fo _ (by omega) (by omega) (by omega)]; exact hE c hc
      · rw [fo _ (by omega) (by omega) (by omega)]; exact hL c hc
      · by_cases e : 0 = u
        · subst e; exact hnew
        · exact hold 0 (by omega) e hT0
      · by_cases e : 1 = u
        · subst e; exact hnew
        · exact hold 1 (by omega) e hT1
    · rw [if_neg c2]
      exact h.rw1 ⟨nc, np, nw, d, 0, nq, hR.t0 (hI.same ⟨(pk_un (by omega)).trans e8, hw8⟩ (fun k hk => pk_un (by omega))) pk_us (fun k hk => pk_un (by omega))⟩
  · rw [if_neg c1]; exact h.er
theorem pick_z0 {p : Nat} {w : Int32} (hI : Iv row nc np nw) (hp : p < np) : pickF row np w p 0 = row 0 := by
  obtain ⟨-, -, ⟨a, ha, ea⟩, -⟩ := hI.2.2.2.1 p hp
  have hc := hI.1.2.2
  rw [pickF_eq ea (by omega), pk_un (by omega), pk_un (by omega)]
theorem go_z0 {p : Nat} : goF row p 0 = row 0 := by
  unfold goF
  by_cases h : inn (row (30 + 6 * p + 2) + row (30 + 6 * p + 3)) 0 (row 2 - 1)
  · rw [if_pos h, pk_un (by omega)]
  · rw [if_neg h, pk_un (by omega)]
theorem et_z0 {p : Nat} : etF row p 0 = row 0 := by
  unfold etF
  by_cases h : eatF row p ≤ row (30 + 6 * p + 4)
  · rw [if_pos h, pk_un (by omega)]
  · rw [if_neg h, pk_un (by omega), pk_un (by omega)]
theorem dawn_0 (w : Nat → Int32) (hI : Iv row nc np nw) : dawnF np w row 0 = row 0 + nI 1 := by
  have h1 : IF row nc np nw (pksF np w row np) ∧ pksF np w row np 0 = row 0 :=
    itN_inv (f := fun p r => pickF r np (w p) p) (fun r => IF row nc np nw r ∧ r 0 = row 0) (N := np) (fun i x hi h => ⟨⟨pickF_Iv h.1.1 hi, (pickF_FR h.1.1 hi).tr h.1.2⟩, (pick_z0 h.1.1 hi).trans h.2⟩) np row (Nat.le_refl _) ⟨⟨hI, FR.rf⟩, rfl⟩
  have h2 : itN (fun p r => goF r p) np (pksF np w row np) 0 = row 0 :=
    itN_inv (f := fun p r => goF r p) (fun r => r 0 = row 0) (N := np) (fun i x _ h => go_z0.trans h) np _ (Nat.le_refl _) h1.2
  have h3 : itN (fun p r => etF r p) np (itN (fun p r => goF r p) np (pksF np w row np)) 0 = row 0 :=
    itN_inv (f := fun p r => etF r p) (fun r => r 0 = row 0) (N := np) (fun i x _ h => et_z0.trans h) np _ (Nat.le_refl _) h2
  show upd _ 0 _ 0 = _
  rw [pk_us, h3]
theorem dawns_0 (w : Nat → Int32) (hI : Iv row nc np nw) (e0 : row 0 = nI d) (n : Nat) : dawnsF np w row n 0 = nI (d + n) := by
  induction n with
  | zero => exact e0
  | succ n ih => rw [dawnsF_s, dawn_0 w (dawns_IF w hI n).1, ih, nI_add]; rfl
theorem RKx.dw (hR : RKx row nc np nw d nt nq) {d' : Nat} (hI : Iv row' nc np nw) (h0 : row' 0 = nI d') (hd : d' ≤ 9999) (hf : FR1 row' row) : RKx row' nc np nw d' nt nq := by
  obtain ⟨-, hW, -, ⟨e4, ht⟩, ⟨e5, hq⟩, hB⟩ := id hR
  refine ⟨hI, fun i hi => ?_, ⟨h0, hd⟩, ⟨(hf 4 (by omega)).trans e4, ht⟩, ⟨(hf 5 (by omega)).trans e5, hq⟩, fun k hk => ?_⟩
  · rw [hf _ (by omega), hf _ (by omega), hf _ (by omega)]; exact hW i hi
  · rw [hf _ (by omega)]; exact hB k hk
theorem ri_dawns {n : Int32} (h : RI M (sR V row kept tried bf fd pk bo so sh mv tr)) : RI (M + 1) (sp_dawns V row kept tried bf fd pk bo so sh mv tr n).2 := by
  unfold sp_dawns
  by_cases c1 : inn n (nI 1) (nI 60)
  · rw [if_pos c1]
    by_cases c2 : row 0 + n ≤ nI 9999
    · rw [if_pos c2]
      obtain ⟨nc, np, nw, d, nt, nq, hR⟩ := h.1
      obtain ⟨hI, hW, ⟨e0, hd⟩, -⟩ := id hR
      obtain ⟨-, ⟨e3, hn6⟩, ⟨e8, hw8⟩, -⟩ := id hI
      obtain ⟨j, -, hj, rfl⟩ := inn_lit c1 (by omega)
      rw [e0, nI_add, nI_leI (by omega) (by omega)] at c2
      rw [tN_nI (n := j) (by omega), dw_eq e3 e8 hn6 hw8]
      exact h.rw1 ⟨nc, np, nw, d + j, nt, nq, hR.dw (dawns_IF _ hI j).1 (dawns_0 _ hI e0 j) c2 (dawns_IF _ hI j).2.one⟩
    · rw [if_neg c2]; exact h.er
  · rw [if_neg c1]; exact h.er
theorem losG_0 (row : Nat → Int32) (np : Nat) : losG np row 0 = row 0 := by
  unfold losG
  by_cases e : np = 0
  · rw [if_pos e]
  · rw [if_neg e]; unfold drwF; rw [pk_un (by omega), pk_un (by omega), pk_un (by omega)]
theorem ri_loose {n : Int32} (h : RI M (sR V row kept tried bf fd pk bo so sh mv tr)) : RI (M + 1) (sp_loose V row kept tried bf fd pk bo so sh mv tr n).2 := by
  unfold sp_loose
  by_cases c1 : inn n (nI 1) (nI 40)
  · rw [if_pos c1]
    by_cases c2 : row 0 + n ≤ nI 9999
    · rw [if_pos c2]
      obtain ⟨nc, np, nw, d, nt, nq, hR⟩ := h.1
      obtain ⟨hI, hW, ⟨e0, hd⟩, -⟩ := id hR
      obtain ⟨-, ⟨e3, hn6⟩, ⟨e8, hw8⟩, -⟩ := id hI
      obtain ⟨j, -, hj, rfl⟩ := inn_lit c1 (by omega)
      rw [e0, nI_add, nI_leI (by omega) (by omega)] at c2
      rw [tN_nI (n := j) (by omega), e3, e8, tN_nI (n := np) (by omega), tN_nI (n := nw) (by omega)]
      have key : ∀ i, itN (fun _ r => losF V np nw r) i row 0 = nI (d + i) ∧ FR1 (itN (fun _ r => losF V np nw r) i row) row := by
        intro i
        induction i with
        | zero => exact ⟨e0, fun _ _ => rfl⟩
        | succ i ih =>
          have hL := loss_ok (V := V) hI i
          have hO := losG_ok (V := V) hL.1
          have hs : itN (fun _ r => losF V np nw r) (i + 1) row = dawnF np (wv V row nw) (losG np (itN (fun _ r => losF V np nw r) i row)) := by
            show losF V np nw (itN (fun _ r => losF V np nw r) i row) = _
            rw [losF_eq, hL.2]
          have hQ := dawn_IF (wv V row nw) hO.1
          rw [hs]
          refine ⟨?_, hQ.2.one.tr ((losG_FR1 _ hn6).tr ih.2)⟩
          rw [dawn_0 _ hO.1, losG_0, ih.1, nI_add]; rfl
      exact h.rw1 ⟨nc, np, nw, d + j, nt, nq, hR.dw (loss_ok (V := V) hI j).1 (key j).1 c2 (key j).2⟩
    · rw [if_neg c2]; exact h.er
  · rw [if_neg c1]; exact h.er
theorem ri_ears {s : Int32} (h : RI M (sR V row kept tried bf fd pk bo so sh mv tr)) : RI (M + 1) (sp_ears V row kept tried bf fd pk bo so sh mv tr s).2 := by
  unfold sp_ears
  by_cases c1 : inn s 0 3
  · rw [if_pos c1]
    by_cases c2 : bo (tN s) = 0
    · rw [if_pos c2]; exact h.er
    · rw [if_neg c2]
      obtain ⟨nc, np, nw, d, nt, nq, hR⟩ := h.1
      obtain ⟨hI, -⟩ := id hR
      obtain ⟨⟨e2, hc2, hc10⟩, ⟨e3, hn6⟩, ⟨e8, hw8⟩, hP, hE, hL, -⟩ := id hI
      obtain ⟨z, hz⟩ : ∃ z, z = lsF (earP row so sh (tN s)) 41 0 := ⟨_, rfl⟩
      rw [← hz]
      have key : ∀ f k, (∀ m, m < lsF (earP row so sh (tN s)) f k → k ≤ m → ¬ earP row so sh (tN s) m) := by
        intro f
        induction f with
        | zero => intro k m hm hk; unfold lsF at hm; omega
        | succ f ih =>
          intro k m hm hk
          unfold lsF at hm
          by_cases e : earP row so sh (tN s) k
          · rw [if_pos e] at hm; omega
          · rw [if_neg e] at hm
            by_cases e2 : m = k
            · subst e2; exact e
            · exact ih (k + 1) m hm (by omega)
      have hnp : ∀ m, m < z → ¬ earP row so sh (tN s) m := fun m hm => key 41 0 m (by rw [← hz]; exact hm) (Nat.zero_le _)
      have hb : ∀ m, m < z → m < nc ∧ ∃ e, e ≤ 999 ∧ sh (40 * tN s + m) = nI e := fun m hm => by
        have h1 := Classical.not_not.1 (hnp m hm)
        rw [e2, tN_nI (by omega)] at h1
        obtain ⟨x, -, hx, ex⟩ := inn_lit h1.2.2 (by omega)
        exact ⟨h1.2.1, x, hx, ex⟩
      have hz10 : z ≤ 10 := by
        by_cases e : z ≤ 10
        · exact e
        · have := (hb 10 (by omega)).1; omega
      have fo : ∀ k, k < 10 ∨ 20 ≤ k → earG row sh (tN s) z k = row k := fun k hk => earG_o hz10 hk
      refine h.rw1 ⟨nc, np, nw, d, nt, nq, hR.ch (hI.mk2 ⟨(fo 2 (by omega)).trans e2, hc2, hc10⟩ ⟨(fo 3 (by omega)).trans e3, hn6⟩ ⟨(fo 8 (by omega)).trans e8, hw8⟩ (fun p hp => (hP p hp).c (fun j hj => fo _ (by omega))) (fun c hc => ?_) (fun c hc => ?_) (fun k hk => fo k (by omega))) (fun k hk => fo k (by omega))⟩
      · by_cases e : c < z
        · unfold earG
          rw [if_pos (by omega), show 10 + c - 10 = c by omega]
          exact (hb c e).2
        · unfold earG
          rw [if_neg (by omega)]; exact hE c hc
      · rw [fo _ (by omega)]; exact hL c hc
  · rw [if_neg c1]; exact h.er
theorem ri_tell {v : Int32} (h : RI M (sR V row kept tried bf fd pk bo so sh mv tr)) : RI (M + 1) (sp_tell V row kept tried bf fd pk bo so sh mv tr v).2 := by
  unfold sp_tell
  by_cases c1 : row 5 = nI 20
  · rw [if_pos c1]; exact h.er
  · rw [if_neg c1]
    obtain ⟨nc, np, nw, d, nt, nq, hR⟩ := h.1
    obtain ⟨hI, hW, ⟨e0, hd⟩, ⟨e4, ht⟩, ⟨e5, hq⟩, hB⟩ := id hR
    have h8 := hI.2.2.1
    rw [e5, nI_eq (by omega) (by omega)] at c1
    rw [e5, tN_nI (by omega), nI_add]
    have fo : ∀ k, ¬ k = 5 → ¬ k = 140 + nq → upd (upd row (140 + nq) v) 5 (nI (nq + 1)) k = row k := fun k a b => (pk_un a).trans (pk_un b)
    refine h.rw1 ⟨nc, np, nw, d, nt, nq + 1, hI.same ⟨(fo 8 (by omega) (by omega)).trans h8.1, h8.2⟩ (fun k hk => fo k (by omega) (by omega)), fun i hi => ?_, ⟨(fo 0 (by omega) (by omega)).trans e0, hd⟩, ⟨(fo 4 (by omega) (by omega)).trans e4, ht⟩, ⟨pk_us, by omega⟩, fun k hk => ?_⟩
    · rw [fo _ (by omega) (by omega), fo _ (by omega) (by omega), fo _ (by omega) (by omega)]; exact hW i hi
    · rw [fo _ (by omega) (by omega)]; exact hB k hk
theorem ri_check (h : RI M (sR V row kept tried bf fd pk bo so sh mv tr)) : RI (M + 1) (sp_check V row kept tried bf fd pk bo so sh mv tr).2 := by
  unfold sp_check
  obtain ⟨nc, np, nw, d, nt, nq, hR⟩ := h.1
  obtain ⟨hI, hW, ⟨e0, hd⟩, ⟨e4, ht⟩, ⟨e5, hq⟩, hB⟩ := id hR
  have h8 := hI.2.2.1
  have fo : ∀ k, ¬ k = 5 → upd row 5 (nI 0) k = row k := fun k a => pk_un a
  refine h.rw1 ⟨nc, np, nw, d, nt, 0, hI.same ⟨(fo 8 (by omega)).trans h8.1, h8.2⟩ (fun k hk => fo k (by omega)), fun i hi => ?_, ⟨(fo 0 (by omega)).trans e0, hd⟩, ⟨(fo 4 (by omega)).trans e4, ht⟩, ⟨pk_us, by omega⟩, fun k hk => ?_⟩
  · rw [fo _ (by omega), fo _ (by omega), fo _ (by omega)]; exact hW i hi
  · rw [fo _ (by omega)]; exact hB k hk
theorem ri_image (h : RI M (sR V row kept tried bf fd pk bo so sh mv tr)) (hM : M < 3000) : RI (M + 1) (sp_image V row kept tried bf fd pk bo so sh mv tr).2 := by
  unfold sp_image
  obtain ⟨g1, ⟨im, h1, h5, h4, h6⟩, ⟨v15, v16, v18⟩, g4, ⟨t, ht, e26⟩⟩ := h
  refine ⟨g1, ⟨im + 1, by omega, ?_, ?_, fun _ => g1⟩, ⟨?_, ?_, ?_⟩, g4, ⟨t, ht, ?_⟩⟩
  · rw [pk_us, h5, nI_add]
  · rw [pk_un (by omega), pk_us]; unfold bI; rw [if_pos (by omega)]; rfl
  · rw [pk_un (by omega), pk_un (by omega)]; exact v15
  · rw [pk_un (by omega), pk_un (by omega)]; exact v16
  · rw [pk_un (by omega), pk_un (by omega)]; exact v18
  · rw [pk_un (by omega), pk_un (by omega)]; exact e26
theorem ri_restore (h : RI M (sR V row kept tried bf fd pk bo so sh mv tr)) : RI (M + 1) (sp_restore V row kept tried bf fd pk bo so sh mv tr).2 := by
  unfold sp_restore
  by_cases c1 : V 4 = 0
  · rw [if_pos c1]; exact h.er
  · rw [if_neg c1]
    obtain ⟨im, h1, h5, h4, h6⟩ := h.2.1
    refine h.rw1 (h6 ?_)
    by_cases e : 0 < im
    · exact e
    · exfalso; apply c1; rw [h4]; unfold bI; rw [if_neg e]
theorem ri_sheet {s b n : Int32} (h : RI M (sR V row kept tried bf fd pk bo so sh mv tr)) : RI (M + 1) (sp_sheet V row kept tried bf fd pk bo so sh mv tr s b n).2 := by
  unfold sp_sheet
  by_cases c1 : inn s 0 3 ∧ (b = 0 ∨ b = nI 8 ∨ b = nI 16 ∨ b = nI 32)
  · rw [if_pos c1]
    by_cases c2 : ¬ b = 0 ∧ ¬ 0 ≤ n
    · rw [if_pos c2]; exact h.er
    · rw [if_neg c2]
      by_cases c3 : ¬ b = 0 ∧ ¬ n ≤ nI 40
      · rw [if_pos c3]; exact h.er
      · rw [if_neg c3]
        obtain ⟨g1, ⟨im, h1, h2⟩, g3, g4, g5⟩ := h
        refine ⟨g1, ⟨im, by omega, h2⟩, g3, fun a ha => ?_, g5⟩
        by_cases e : a = tN s
        · subst e
          rw [pk_us, pk_us]
          refine ⟨c1.2, ?_⟩
          by_cases e0 : b = 0
          · rw [if_pos e0]; exact ⟨0, by omega, rfl⟩
          · rw [if_neg e0]
            have h0 : 0 ≤ n := Classical.byContradiction (fun g => c2 ⟨e0, g⟩)
            have h40 : n ≤ nI 40 := Classical.byContradiction (fun g => c3 ⟨e0, g⟩)
            obtain ⟨x, -, hx, ex⟩ := inn_lit (a := 0) (b := 40) (x := n) ⟨h0, h40⟩ (by omega)
            exact ⟨x, hx, ex⟩
        · rw [pk_un e, pk_un e]; exact g4 a ha
  · rw [if_neg c1]; exact h.er
theorem vt_len : ∀ k, k ≤ 6 → ∀ a, a ≤ 3 → (vocT k a).length ≤ 40 := by decide +kernel
theorem ri_voice {p act x : Int32} (h : RI M (sR V row kept tried bf fd pk bo so sh mv tr)) : RI (M + 1) (sp_voice V row kept tried bf fd pk bo so sh mv tr p act x).2 := by
  unfold sp_voice
  by_cases c1 : inn p 0 (row 3 - 1) ∧ inn act (nI 0) (nI 3)
  · rw [if_pos c1]
    obtain ⟨g1, ⟨im, h1, h5, h4, h6⟩, ⟨v15, v16, v18⟩, g4, -⟩ := h
    obtain ⟨nc, np, nw, d, nt, nq, hR⟩ := id g1
    obtain ⟨-, ⟨e3, hn6⟩, -, hP, -⟩ := hR.1
    obtain ⟨j, hj, rfl⟩ := inn_row c1.1 e3 (by omega)
    obtain ⟨a, -, ha, rfl⟩ := inn_lit c1.2 (by omega)
    obtain ⟨⟨k, hk, ek⟩, -⟩ := hP j hj
    rw [tN_nI (n := j) (by omega), ek, tN_nI (n := k) (by omega), tN_nI (n := a) (by omega)]
    refine ⟨g1, ⟨im, by omega, ?_, ?_, h6⟩, ⟨?_, ?_, ?_⟩, g4, ⟨_, vt_len k hk a ha, pk_us⟩⟩
    · rw [pk_un (by omega)]; exact h5
    · rw [pk_un (by omega)]; exact h4
    · rw [pk_un (by omega)]; exact v15
    · rw [pk_un (by omega)]; exact v16
    · rw [pk_un (by omega)]; exact v18
  · rw [if_neg c1]; exact h.er
theorem ri_ofCell {c what : Int32} (h : RI M (sR V row kept tried bf fd pk bo so sh mv tr)) : RI (M + 1) (sp_ofCell V row kept tried bf fd pk bo so sh mv tr c what).2 := by
  unfold sp_ofCell
  repeat' split
  all_goals first | exact h.er | exact h.up | exact h.shx
theorem ri_ofPerson {p what : Int32} (h : RI M (sR V row kept tried bf fd pk bo so sh mv tr)) : RI (M + 1) (sp_ofPerson V row kept tried bf fd pk bo so sh mv tr p what).2 := by
  unfold sp_ofPerson
  repeat' split
  all_goals first | exact h.er | exact h.up | exact h.shx
theorem ri_as {p kind : Int32} (h : RI M (sR V row kept tried bf fd pk bo so sh mv tr)) : RI (M + 1) (sp_as V row kept tried bf fd pk bo so sh mv tr p kind).2 := by
  unfold sp_as
  repeat' split
  all_goals first | exact h.er | exact h.up | exact h.shx
theorem ri_ofWrong {w what : Int32} (h : RI M (sR V row kept tried bf fd pk bo so sh mv tr)) : RI (M + 1) (sp_ofWrong V row kept tried bf fd pk bo so sh mv tr w what).2 := by
  unfold sp_ofWrong
  repeat' split
  all_goals first | exact h.er | exact h.up | exact h.shx
theorem ri_law {use a b c : Int32} (h : RI M (sR V row kept tried bf fd pk bo so sh mv tr)) : RI (M + 1) (sp_law V row kept tried bf fd pk bo so sh mv tr use a b c).2 := by
  unfold sp_law
  repeat' split
  all_goals first | exact h.er | exact h.up | exact h.shx
theorem ri_then {n p what : Int32} (h : RI M (sR V row kept tried bf fd pk bo so sh mv tr)) : RI (M + 1) (sp_then V row kept tried bf fd pk bo so sh mv tr n p what).2 := by
  unfold sp_then
  repeat' split
  all_goals first | exact h.er | exact h.up | exact h.shx
theorem ri_upright {what : Int32} (h : RI M (sR V row kept tried bf fd pk bo so sh mv tr)) : RI (M + 1) (sp_upright V row kept tried bf fd pk bo so sh mv tr what).2 := by
  unfold sp_upright
  repeat' split
  all_goals first | exact h.er | exact h.up | exact h.shx
theorem ri_adds {p n : Int32} (h : RI M (sR V row kept tried bf fd pk bo so sh mv tr)) : RI (M + 1) (sp_adds V row kept tried bf fd pk bo so sh mv tr p n).2 := by
  unfold sp_adds
  repeat' split
  all_goals first | exact h.er | exact h.up | exact h.shx
theorem ri_pardons {n : Int32} (h : RI M (sR V row kept tried bf fd pk bo so sh mv tr)) : RI (M + 1) (sp_pardons V row kept tried bf fd pk bo so sh mv tr n).2 := by
  unfold sp_pardons
  repeat' split
  all_goals first | exact h.er | exact h.up | exact h.shx
theorem ri_starves {n : Int32} (h : RI M (sR V row kept tried bf fd pk bo so sh mv tr)) : RI (M + 1) (sp_starves V row kept tried bf fd pk bo so sh mv tr n).2 := by
  unfold sp_starves
  repeat' split
  all_goals first | exact h.er | exact h.up | exact h.shx
theorem ri_best {p n what : Int32} (h : RI M (sR V row kept tried bf fd pk bo so sh mv tr)) : RI (M + 1) (sp_best V row kept tried bf fd pk bo so sh mv tr p n what).2 := by
  unfold sp_best
  repeat' split
  all_goals first | exact h.er | exact h.up | exact h.shx
theorem ri_brings {s p what : Int32} (h : RI M (sR V row kept tried bf fd pk bo so sh mv tr)) : RI (M + 1) (sp_brings V row kept tried bf fd pk bo so sh mv tr s p what).2 := by
  unfold sp_brings
  repeat' split
  all_goals first | exact h.er | exact h.up | exact h.shx
theorem ri_shares {n what : Int32} (h : RI M (sR V row kept tried bf fd pk bo so sh mv tr)) : RI (M + 1) (sp_shares V row kept tried bf fd pk bo so sh mv tr n what).2 := by
  unfold sp_shares
  repeat' split
  all_goals first | exact h.er | exact h.up | exact h.shx
theorem ri_odds {p n part : Int32} (h : RI M (sR V row kept tried bf fd pk bo so sh mv tr)) : RI (M + 1) (sp_odds V row kept tried bf fd pk bo so sh mv tr p n part).2 := by
  unfold sp_odds
  repeat' split
  all_goals first | exact h.er | exact h.up | exact h.shx
theorem ri_trace {i : Int32} (h : RI M (sR V row kept tried bf fd pk bo so sh mv tr)) : RI (M + 1) (sp_trace V row kept tried bf fd pk bo so sh mv tr i).2 := by
  unfold sp_trace
  repeat' split
  all_goals first | exact h.er | exact h.up | exact h.shx
theorem ri_put {s i v : Int32} (h : RI M (sR V row kept tried bf fd pk bo so sh mv tr)) : RI (M + 1) (sp_put V row kept tried bf fd pk bo so sh mv tr s i v).2 := by
  unfold sp_put
  repeat' split
  all_goals first | exact h.er | exact h.up | exact h.shx
theorem ri_move {s i t j n : Int32} (h : RI M (sR V row kept tried bf fd pk bo so sh mv tr)) : RI (M + 1) (sp_move V row kept tried bf fd pk bo so sh mv tr s i t j n).2 := by
  unfold sp_move
  repeat' split
  all_goals first | exact h.er | exact h.up | exact h.shx
theorem ri_judge {s : Int32} (h : RI M (sR V row kept tried bf fd pk bo so sh mv tr)) : RI (M + 1) (sp_judge V row kept tried bf fd pk bo so sh mv tr s).2 := by
  unfold sp_judge
  repeat' split
  all_goals first | exact h.er | exact h.up | exact h.shx
theorem ri_count {what : Int32} (h : RI M (sR V row kept tried bf fd pk bo so sh mv tr)) : RI (M + 1) (sp_count V row kept tried bf fd pk bo so sh mv tr what).2 := by
  unfold sp_count
  repeat' split
  all_goals first | exact h.er | exact h.up | exact h.shx
theorem ri_told {k : Int32} (h : RI M (sR V row kept tried bf fd pk bo so sh mv tr)) : RI (M + 1) (sp_told V row kept tried bf fd pk bo so sh mv tr k).2 := by
  unfold sp_told
  repeat' split
  all_goals first | exact h.er | exact h.up | exact h.shx
end RIT

/-! What each call leaves of the reference's state is again one. -/
section RIS
variable {M : Nat} {V row row' kept tried bf fd pk bo so sh mv tr : Nat → Int32} {nc np nw d nt nq : Nat}
theorem RI.up (h : RI M (sR V row kept tried bf fd pk bo so sh mv tr)) : RI (M + 1) (sR V row kept tried bf fd pk bo so sh mv tr) := by
  obtain ⟨g1, ⟨im, h1, h2⟩, g3, g4, g5⟩ := h
  exact ⟨g1, ⟨im, by omega, h2⟩, g3, g4, g5⟩
theorem RI.er (h : RI M (sR V row kept tried bf fd pk bo so sh mv tr)) {fd' : Nat → Int32} : RI (M + 1) (sR V row kept tried bf fd' pk bo so sh mv tr) := h.up
theorem RI.shx (h : RI M (sR V row kept tried bf fd pk bo so sh mv tr)) {sh' : Nat → Int32} : RI (M + 1) (sR V row kept tried bf fd pk bo so sh' mv tr) := h.up
theorem RI.rw1 (h : RI M (sR V row kept tried bf fd pk bo so sh mv tr)) (hR : RK row') : RI (M + 1) (sR V row' kept tried bf fd pk bo so sh mv tr) := by
  obtain ⟨g1, ⟨im, h1, h2⟩, g3, g4, g5⟩ := h
  exact ⟨hR, ⟨im, by omega, h2⟩, g3, g4, g5⟩
theorem txtOK.c {u : Nat} (h : txtOK row u) (hu : u ≤ 1) (ht : ∀ k, k = 6 ∨ k = 7 ∨ (160 ≤ k ∧ k < 260) → row' k = row k) : txtOK row' u := by
  have e6 : row' (6 + u) = row (6 + u) := ht _ (by omega)
  rcases h with h | ⟨n, h1, h2, h3, h4⟩
  · exact Or.inl (e6.trans h)
  · have e : readF (txF row' u) n u = readF (txF row u) n u := readF_congr (fun k hk => ht _ (by omega))
    exact Or.inr ⟨n, h1, e6.trans h2, by rw [e]; exact h3, by rw [e]; exact h4⟩
theorem Iv.mk2 {nc' np' nw' : Nat} (hI : Iv row nc np nw) (h2 : row' 2 = nI nc' ∧ 2 ≤ nc' ∧ nc' ≤ 10) (h3 : row' 3 = nI np' ∧ np' ≤ 6) (h8 : row' 8 = nI nw' ∧ nw' ≤ 8) (hP : ∀ p, p < np' → IvP row' nc' p) (hE : ∀ c, c < nc' → ∃ e, e ≤ 999 ∧ row' (10 + c) = nI e) (hL : ∀ c, c < nc' → ∃ w, w ≤ 9 ∧ row' (20 + c) = nI w) (ht : ∀ k, k = 6 ∨ k = 7 ∨ (160 ≤ k ∧ k < 260) → row' k = row k) : Iv row' nc' np' nw' :=
  ⟨h2, h3, h8, hP, hE, hL, hI.2.2.2.2.2.2.1.c (by omega) ht, hI.2.2.2.2.2.2.2.c (by omega) ht⟩
theorem IvP.c {p : Nat} (h : IvP row nc p) (hr : ∀ j, j < 6 → row' (30 + 6 * p + j) = row (30 + 6 * p + j)) : IvP row' nc p := by
  obtain ⟨h0, h1, h2, h3, h4, h5⟩ := h
  refine ⟨?_, ?_, ?_, ?_, ?_, ?_⟩
  · rw [hr 0 (by omega)]; exact h0
  · rw [hr 1 (by omega)]; exact h1
  · rw [hr 2 (by omega)]; exact h2
  · rw [hr 3 (by omega)]; exact h3
  · rw [hr 4 (by omega)]; exact h4
  · rw [hr 5 (by omega)]; exact h5
theorem RKx.ch (hR : RKx row nc np nw d nt nq) (hI : Iv row' nc np nw) (hf : ∀ k, k = 0 ∨ k = 4 ∨ k = 5 ∨ (66 ≤ k ∧ k < 140) → row' k = row k) : RKx row' nc np nw d nt nq := by
  obtain ⟨-, hW, ⟨e0, hd⟩, ⟨e4, ht⟩, ⟨e5, hq⟩, hB⟩ := id hR
  have h8 := hI.2.2.1.2
  refine ⟨hI, fun i hi => ?_, ⟨(hf 0 (by omega)).trans e0, hd⟩, ⟨(hf 4 (by omega)).trans e4, ht⟩, ⟨(hf 5 (by omega)).trans e5, hq⟩, fun k hk => ?_⟩
  · rw [hf _ (by omega), hf _ (by omega), hf _ (by omega)]; exact hW i hi
  · rw [hf _ (by omega)]; exact hB k hk
-- rows that stand still
theorem fill_v (row : Nat → Int32) (n : Nat) (hn : n ≤ 10) (k : Nat) : fillF row n k = if 10 ≤ k ∧ k < 10 + n then nI 20 else if 20 ≤ k ∧ k < 20 + n then nI 1 else row k := by
  induction n with
  | zero => rw [if_neg (by omega), if_neg (by omega)]; rfl
  | succ n ih =>
    show upd (upd (fillF row n) (10 + n) (nI 20)) (20 + n) (nI 1) k = _
    by_cases e : k = 20 + n
    · subst e; rw [pk_us, if_neg (by omega), if_pos (by omega)]
    · rw [pk_un e]
      by_cases e2 : k = 10 + n
      · subst e2; rw [pk_us, if_pos (by omega)]
      · rw [pk_un e2, ih (by omega)]
        by_cases c1 : 10 ≤ k ∧ k < 10 + n
        · rw [if_pos c1, if_pos (by omega)]
        · rw [if_neg c1, if_neg (c := 10 ≤ k ∧ k < 10 + (n + 1)) (by omega)]
          by_cases c2 : 20 ≤ k ∧ k < 20 + n
          · rw [if_pos c2, if_pos (by omega)]
          · rw [if_neg c2, if_neg (by omega)]
theorem ri_field {n : Int32} (h : RI M (sR V row kept tried bf fd pk bo so sh mv tr)) : RI (M + 1) (sp_field V row kept tried bf fd pk bo so sh mv tr n).2 := by
  unfold sp_field
  by_cases c1 : inn n (nI 2) (nI 10)
  · rw [if_pos c1]
    by_cases c2 : row 3 ≤ 0
    · rw [if_pos c2]
      refine h.rw1 ?_
      obtain ⟨nc, np, nw, d, nt, nq, hR⟩ := h.1
      obtain ⟨hI, hW, ⟨e0, hd⟩, ⟨e4, ht⟩, ⟨e5, hq⟩, hB⟩ := id hR
      obtain ⟨⟨e2, hc2, hc10⟩, ⟨e3, hn6⟩, ⟨e8, hw8⟩, -⟩ := id hI
      obtain ⟨j, hj1, hj2, rfl⟩ := inn_lit c1 (by omega)
      have hn0 : np = 0 := by
        rw [e3, show (0 : Int32) = nI 0 from rfl, nI_leI (by omega) (by omega)] at c2; omega
      subst hn0
      have hw0 : nw = 0 := by
        by_cases e : nw = 0
        · exact e
        · obtain ⟨⟨b, hb, -⟩, -⟩ := hW 0 (by omega); omega
      subst hw0
      have fv : ∀ k, ¬ k = 2 → k < 10 ∨ 30 ≤ k → upd (fillF row 10) 2 (nI j) k = row k := fun k a b => by
        rw [pk_un a, fill_v row 10 (by omega), if_neg (by omega), if_neg (by omega)]
      refine ⟨j, 0, 0, d, nt, nq, ?_, fun i hi => absurd hi (Nat.not_lt_zero _), ⟨(fv 0 (by omega) (by omega)).trans e0, hd⟩, ⟨(fv 4 (by omega) (by omega)).trans e4, ht⟩, ⟨(fv 5 (by omega) (by omega)).trans e5, hq⟩, fun k hk => ?_⟩
      · refine hI.mk2 ⟨pk_us, hj1, hj2⟩ ⟨(fv 3 (by omega) (by omega)).trans e3, by omega⟩ ⟨(fv 8 (by omega) (by omega)).trans e8, by omega⟩ (fun p hp => absurd hp (Nat.not_lt_zero _)) (fun c hc => ⟨20, by omega, ?_⟩) (fun c hc => ⟨1, by omega, ?_⟩) (fun k hk => fv k (by omega) (by omega))
        · rw [pk_un (by omega), fill_v row 10 (by omega), if_pos (by omega)]
        · rw [pk_un (by omega), fill_v row 10 (by omega), if_neg (by omega), if_pos (by omega)]
      · rw [fv _ (by omega) (by omega)]; exact hB k hk
    · rw [if_neg c2]; exact h.er
  · rw [if_neg c1]; exact h.er
theorem ri_lay {c what v : Int32} (h : RI M (sR V row kept tried bf fd pk bo so sh mv tr)) : RI (M + 1) (sp_lay V row kept tried bf fd pk bo so sh mv tr c what v).2 := by
  unfold sp_lay
  by_cases c1 : inn c 0 (row 2 - 1) ∧ inn what (nI 0) (nI 1) ∧ inn v (nI 0) (if what = 0 then nI 999 else nI 9)
  · rw [if_pos c1]
    refine h.rw1 ?_
    obtain ⟨nc, np, nw, d, nt, nq, hR⟩ := h.1
    obtain ⟨hI, hW, ⟨e0, hd⟩, ⟨e4, ht⟩, ⟨e5, hq⟩, hB⟩ := id hR
    obtain ⟨⟨e2, hc2, hc10⟩, ⟨e3, hn6⟩, ⟨e8, hw8⟩, hP, hE, hL, -⟩ := id hI
    obtain ⟨hc, -, hv⟩ := c1
    obtain ⟨j, hj, rfl⟩ := inn_row hc e2 (by omega)
    rw [tN_nI (n := j) (by omega)]
    by_cases c2 : what = 0
    · rw [if_pos c2] at hv ⊢
      obtain ⟨x, -, hx, rfl⟩ := inn_lit hv (by omega)
      refine ⟨nc, np, nw, d, nt, nq, hR.ch (hI.mk2 ⟨(pk_un (by omega)).trans e2, hc2, hc10⟩ ⟨(pk_un (by omega)).trans e3, hn6⟩ ⟨(pk_un (by omega)).trans e8, hw8⟩ (fun p hp => (hP p hp).c (fun j hj => pk_un (by omega))) (fun c hc => ?_) (fun c hc => ?_) (fun k hk => pk_un (by omega))) (fun k hk => pk_un (by omega))⟩
      · by_cases e : c = j
        · subst e; exact ⟨x, hx, pk_us⟩
        · rw [pk_un (by omega)]; exact hE c hc
      · rw [pk_un (by omega)]; exact hL c hc
    · rw [if_neg c2] at hv ⊢
      obtain ⟨x, -, hx, rfl⟩ := inn_lit hv (by omega)
      refine ⟨nc, np, nw, d, nt, nq, hR.ch (hI.mk2 ⟨(pk_un (by omega)).trans e2, hc2, hc10⟩ ⟨(pk_un (by omega)).trans e3, hn6⟩ ⟨(pk_un (by omega)).trans e8, hw8⟩ (fun p hp => (hP p hp).c (fun j hj => pk_un (by omega))) (fun c hc => ?_) (fun c hc => ?_) (fun k hk => pk_un (by omega))) (fun k hk => pk_un (by omega))⟩
      · rw [pk_un (by omega)]; exact hE c hc
      · by_cases e : c = j
        · subst e; exact ⟨x, hx, pk_us⟩
        · rw [pk_un (by omega)]; exact hL c hc
  · rw [if_neg c1]; exact h.er
theorem km_ok : ∀ k, k < 70 → nI k / nI 10 = nI (k / 10) ∧ rem (nI k) (nI 10) = nI (k % 10) := by decide +kernel
theorem ri_person {km c : Int32} (h : RI M (sR V row kept tried bf fd pk bo so sh mv tr)) : RI (M + 1) (sp_person V row kept tried bf fd pk bo so sh mv tr km c).2 := by
  unfold sp_person
  by_cases c1 : inn km (nI 0) (nI 69) ∧ inn c 0 (row 2 - 1)
  · rw [if_pos c1]
    by_cases c2 : row 3 = nI 6
    · rw [if_pos c2]; exact h.er
    · rw [if_neg c2]
      refine h.rw1 ?_
      obtain ⟨nc, np, nw, d, nt, nq, hR⟩ := h.1
      obtain ⟨hI, hW, ⟨e0, hd⟩, ⟨e4, ht⟩, ⟨e5, hq⟩, hB⟩ := id hR
      obtain ⟨⟨e2, hc2, hc10⟩, ⟨e3, hn6⟩, ⟨e8, hw8⟩, hP, hE, hL, -⟩ := id hI
      obtain ⟨k, -, hk, rfl⟩ := inn_lit c1.1 (by omega)
      obtain ⟨j, hj, rfl⟩ := inn_row c1.2 e2 (by omega)
      rw [e3, nI_eq (by omega) (by omega)] at c2
      rw [e3, tN_nI (by omega)]
      have fv : ∀ k', ¬ k' = 3 → (k' < 30 + 6 * np ∨ 36 + 6 * np ≤ k') → persF row np (nI k) (nI j) k' = row k' := fun k' a b => by
        unfold persF
        rw [pk_un a, pk_un (by omega), pk_un (by omega), pk_un (by omega), pk_un (by omega), pk_un (by omega), pk_un (by omega)]
      have f3 : persF row np (nI k) (nI j) 3 = nI (np + 1) := by
        unfold persF; rw [pk_us, e3, nI_add]
      refine ⟨nc, np + 1, nw, d, nt, nq, ?_, fun i hi => ?_, ⟨(fv 0 (by omega) (by omega)).trans e0, hd⟩, ⟨(fv 4 (by omega) (by omega)).trans e4, ht⟩, ⟨(fv 5 (by omega) (by omega)).trans e5, hq⟩, fun k hk => ?_⟩
      · refine hI.mk2 ⟨(fv 2 (by omega) (by omega)).trans e2, hc2, hc10⟩ ⟨f3, by omega⟩ ⟨(fv 8 (by omega) (by omega)).trans e8, hw8⟩ (fun p hp => ?_) (fun c hc => ?_) (fun c hc => ?_) (fun k hk => fv k (by omega) (by omega))
        · by_cases e : p = np
          · subst e
            unfold persF
            obtain ⟨q1, q2⟩ := km_ok k (by omega)
            refine ⟨⟨k / 10, by omega, ?_⟩, ⟨k % 10, by omega, ?_⟩, ⟨j, hj, ?_⟩, Or.inr (Or.inl ?_), ⟨0, by omega, ?_⟩, ⟨0, by omega, ?_⟩⟩
            · rw [pk_un (by omega), pk_un (by omega), pk_un (by omega), pk_un (by omega), pk_un (by omega), pk_un (by omega), pk_us, q1]
            · rw [pk_un (by omega), pk_un (by omega), pk_un (by omega), pk_un (by omega), pk_un (by omega), pk_us, q2]
            · rw [pk_un (by omega), pk_un (by omega), pk_un (by omega), pk_un (by omega), pk_us]
            · rw [pk_un (by omega), pk_un (by omega), pk_un (by omega), pk_us]; rfl
            · rw [pk_un (by omega), pk_un (by omega), pk_us]
            · rw [pk_un (by omega), pk_us]
          · exact (hP p (by omega)).c (fun j hj => fv _ (by omega) (by omega))
        · rw [fv _ (by omega) (by omega)]; exact hE c hc
        · rw [fv _ (by omega) (by omega)]; exact hL c hc
      · rw [fv _ (by omega) (by omega), fv _ (by omega) (by omega), fv _ (by omega) (by omega)]
        obtain ⟨⟨b, hb, eb⟩, ⟨t, ht, et⟩, hw⟩ := hW i hi
        exact ⟨⟨b, by omega, eb⟩, ⟨t, by omega, et⟩, hw⟩
      · rw [fv _ (by omega) (by omega)]; exact hB k hk
  · rw [if_neg c1]; exact h.er
/-- one number of one person -/
theorem Iv.per {p j : Nat} {v : Int32} (hI : Iv row nc np nw) (hp : p < np) (hj : j < 6) (hv : (j = 0 → ∃ k, k ≤ 6 ∧ v = nI k) ∧ (j = 1 → ∃ m, m ≤ 9 ∧ v = nI m) ∧ (j = 2 → ∃ a, a < nc ∧ v = nI a) ∧ (j = 3 → v = -1 ∨ v = 0 ∨ v = 1) ∧ (j = 4 → ∃ b, b ≤ 9999 ∧ v = nI b) ∧ (j = 5 → ∃ h, h ≤ 9999 ∧ v = nI h)) : Iv (upd row (30 + 6 * p + j) v) nc np nw := by
  obtain ⟨⟨e2, hc2, hc10⟩, ⟨e3, hn6⟩, ⟨e8, hw8⟩, hP, hE, hL, -⟩ := id hI
  refine hI.mk2 ⟨(pk_un (by omega)).trans e2, hc2, hc10⟩ ⟨(pk_un (by omega)).trans e3, hn6⟩ ⟨(pk_un (by omega)).trans e8, hw8⟩ (fun p' hp' => ?_) (fun c hc => ?_) (fun c hc => ?_) (fun k hk => pk_un (by omega))
  · by_cases e : p' = p
    · subst e
      obtain ⟨h0, h1, h2, h3, h4, h5⟩ := hP p' hp'
      obtain ⟨v0, v1, v2, v3, v4, v5⟩ := hv
      refine ⟨?_, ?_, ?_, ?_, ?_, ?_⟩
      · by_cases g : j = 0
        · subst g; rw [pk_us]; exact v0 rfl
        · rw [pk_un (by omega)]; exact h0
      · by_cases g : j = 1
        · subst g; rw [pk_us]; exact v1 rfl
        · rw [pk_un (by omega)]; exact h1
      · by_cases g : j = 2
        · subst g; rw [pk_us]; exact v2 rfl
        · rw [pk_un (by omega)]; exact h2
      · by_cases g : j = 3
        · subst g; rw [pk_us]; exact v3 rfl
        · rw [pk_un (by omega)]; exact h3
      · by_cases g : j = 4
        · subst g; rw [pk_us]; exact v4 rfl
        · rw [pk_un (by omega)]; exact h4
      · by_cases g : j = 5
        · subst g; rw [pk_us]; exact v5 rfl
        · rw [pk_un (by omega)]; exact h5
    · exact (hP p' hp').c (fun i hi => pk_un (by omega))
  · rw [pk_un (by omega)]; exact hE c hc
  · rw [pk_un (by omega)]; exact hL c hc
theorem way_3 {v : Int32} (h : inn v (-1) (nI 1)) : v = -1 ∨ v = 0 ∨ v = 1 := by
  obtain ⟨h1, h2⟩ := h
  rw [Int32.le_iff_toInt_le] at h1 h2
  have e1 : (-1 : Int32).toInt = -1 := by decide
  have e2 : (nI 1).toInt = 1 := by decide
  have e3 : (0 : Int32).toInt = 0 := by decide
  rw [e1] at h1; rw [e2] at h2
  rcases (show v.toInt = -1 ∨ v.toInt = 0 ∨ v.toInt = 1 by omega) with h | h | h
  · exact Or.inl (Int32.toInt_inj.mp (h.trans e1.symm))
  · exact Or.inr (Or.inl (Int32.toInt_inj.mp (h.trans e3.symm)))
  · exact Or.inr (Or.inr (Int32.toInt_inj.mp (h.trans e2.symm)))
theorem ri_change {p what v : Int32} (h : RI M (sR V row kept tried bf fd pk bo so sh mv tr)) : RI (M + 1) (sp_change V row kept tried bf fd pk bo so sh mv tr p what v).2 := by
  unfold sp_change
  by_cases c1 : inn p 0 (row 3 - 1) ∧ chOK row what v
  · rw [if_pos c1]
    refine h.rw1 ?_
    obtain ⟨nc, np, nw, d, nt, nq, hR⟩ := h.1
    obtain ⟨hI, -⟩ := id hR
    obtain ⟨⟨e2, hc2, hc10⟩, ⟨e3, hn6⟩, -⟩ := id hI
    obtain ⟨j, hj, rfl⟩ := inn_row c1.1 e3 (by omega)
    rw [tN_nI (n := j) (by omega)]
    rcases c1.2 with ⟨rfl, hv⟩ | ⟨rfl, hv⟩ | ⟨rfl, hv⟩
    · obtain ⟨a, ha, rfl⟩ := inn_row hv e2 (by omega)
      rw [show (0 : Int32) = nI 0 from rfl, tN_nI (n := 0) (by omega)]
      exact ⟨nc, np, nw, d, nt, nq, hR.ch (hI.per hj (by omega) ⟨fun h => by omega, fun h => by omega, fun _ => ⟨a, ha, rfl⟩, fun h => by omega, fun h => by omega, fun h => by omega⟩) (fun k hk => pk_un (by omega))⟩
    · rw [tN_nI (n := 1) (by omega)]
      exact ⟨nc, np, nw, d, nt, nq, hR.ch (hI.per (j := 2 + 1) hj (by omega) ⟨fun h => by omega, fun h => by omega, fun h => by omega, fun _ => way_3 hv, fun h => by omega, fun h => by omega⟩) (fun k hk => pk_un (by omega))⟩
    · obtain ⟨a, -, ha, rfl⟩ := inn_lit hv (by omega)
      rw [tN_nI (n := 2) (by omega)]
      exact ⟨nc, np, nw, d, nt, nq, hR.ch (hI.per (j := 2 + 2) hj (by omega) ⟨fun h => by omega, fun h => by omega, fun h => by omega, fun h => by omega, fun _ => ⟨a, ha, rfl⟩, fun h => by omega⟩) (fun k hk => pk_un (by omega))⟩
  · rw [if_neg c1]; exact h.er
theorem ri_become {p km : Int32} (h : RI M (sR V row kept tried bf fd pk bo so sh mv tr)) : RI (M + 1) (sp_become V row kept tried bf fd pk bo so sh mv tr p km).2 := by
  unfold sp_become
  by_cases c1 : inn p 0 (row 3 - 1) ∧ inn km (nI 0) (nI 69)
  · rw [if_pos c1]
    refine h.rw1 ?_
    obtain ⟨nc, np, nw, d, nt, nq, hR⟩ := h.1
    obtain ⟨hI, -⟩ := id hR
    obtain ⟨-, ⟨e3, hn6⟩, -⟩ := id hI
    obtain ⟨j, hj, rfl⟩ := inn_row c1.1 e3 (by omega)
    obtain ⟨k, -, hk, rfl⟩ := inn_lit c1.2 (by omega)
    obtain ⟨q1, q2⟩ := km_ok k (by omega)
    rw [tN_nI (n := j) (by omega), q1, q2]
    have hI1 := hI.per (p := j) (j := 1) (v := nI (k % 10)) hj (by omega) ⟨fun h => by omega, fun _ => ⟨_, by omega, rfl⟩, fun h => by omega, fun h => by omega, fun h => by omega, fun h => by omega⟩
    exact ⟨nc, np, nw, d, nt, nq, hR.ch (hI1.per (p := j) (j := 0) hj (by omega) ⟨fun _ => ⟨k / 10, by omega, rfl⟩, fun h => by omega, fun h => by omega, fun h => by omega, fun h => by omega, fun h => by omega⟩) (fun k hk => (pk_un (by omega)).trans (pk_un (by omega)))⟩
  · rw [if_neg c1]; exact h.er
theorem Iv.same {nw' : Nat} (hI : Iv row nc np nw) (h8 : row' 8 = nI nw' ∧ nw' ≤ 8) (hr : ∀ k, k = 2 ∨ k = 3 ∨ k = 6 ∨ k = 7 ∨ (10 ≤ k ∧ k < 66) ∨ (160 ≤ k ∧ k < 260) → row' k = row k) : Iv row' nc np nw' := by
  obtain ⟨⟨e2, hc2, hc10⟩, ⟨e3, hn6⟩, -, hP, hE, hL, -⟩ := id hI
  refine hI.mk2 ⟨(hr 2 (by omega)).trans e2, hc2, hc10⟩ ⟨(hr 3 (by omega)).trans e3, hn6⟩ h8 (fun p hp => (hP p hp).c (fun j hj => hr _ (by omega))) (fun c hc => ?_) (fun c hc => ?_) (fun k hk => hr k (by omega))
  · rw [hr _ (by omega)]; exact hE c hc
  · rw [hr _ (by omega)]; exact hL c hc
theorem ri_wrong {b t w : Int32} (h : RI M (sR V row kept tried bf fd pk bo so sh mv tr)) : RI (M + 1) (sp_wrong V row kept tried bf fd pk bo so sh mv tr b t w).2 := by
  unfold sp_wrong
  by_cases c1 : inn b 0 (row 3 - 1) ∧ inn t 0 (row 3 - 1) ∧ ¬ b = t ∧ inn w (nI 1) (nI 20)
  · rw [if_pos c1]
    by_cases c2 : row 8 = nI 8
    · rw [if_pos c2]; exact h.er
    · rw [if_neg c2]
      refine h.rw1 ?_
      obtain ⟨nc, np, nw, d, nt, nq, hR⟩ := h.1
      obtain ⟨hI, hW, ⟨e0, hd⟩, ⟨e4, ht⟩, ⟨e5, hq⟩, hB⟩ := id hR
      obtain ⟨⟨e2, hc2, hc10⟩, ⟨e3, hn6⟩, ⟨e8, hw8⟩, hP, hE, hL, -⟩ := id hI
      obtain ⟨c3, c4, -, c5⟩ := c1
      obtain ⟨jb, hjb, rfl⟩ := inn_row c3 e3 (by omega)
      obtain ⟨jt, hjt, rfl⟩ := inn_row c4 e3 (by omega)
      obtain ⟨jw, hjw, hjw2, rfl⟩ := inn_lit c5 (by omega)
      rw [e8, nI_eq (by omega) (by omega)] at c2
      rw [e8, tN_nI (by omega), nI_add]
      have fv : ∀ k, ¬ k = 8 → (k < 66 + 3 * nw ∨ 69 + 3 * nw ≤ k) → upd (upd (upd (upd row (66 + 3 * nw) (nI jb)) (66 + 3 * nw + 1) (nI jt)) (66 + 3 * nw + 2) (nI jw)) 8 (nI (nw + 1)) k = row k := fun k a b => by
        rw [pk_un a, pk_un (by omega), pk_un (by omega), pk_un (by omega)]
      refine ⟨nc, np, nw + 1, d, nt, nq, hI.same ⟨pk_us, by omega⟩ (fun k hk => fv k (by omega) (by omega)), fun i hi => ?_, ⟨(fv 0 (by omega) (by omega)).trans e0, hd⟩, ⟨(fv 4 (by omega) (by omega)).trans e4, ht⟩, ⟨(fv 5 (by omega) (by omega)).trans e5, hq⟩, fun k hk => ?_⟩
      · by_cases e : i = nw
        · subst e
          refine ⟨⟨jb, hjb, ?_⟩, ⟨jt, hjt, ?_⟩, ⟨jw, hjw, hjw2, ?_⟩⟩
          · rw [pk_un (by omega), pk_un (by omega), pk_un (by omega), pk_us]
          · rw [pk_un (by omega), pk_un (by omega), pk_us]
          · rw [pk_un (by omega), pk_us]
        · rw [fv _ (by omega) (by omega), fv _ (by omega) (by omega), fv _ (by omega) (by omega)]; exact hW i (by omega)
      · rw [fv _ (by omega) (by omega)]; exact hB k hk
  · rw [if_neg c1]; exact h.er
theorem ri_forgive {w : Int32} (h : RI M (sR V row kept tried bf fd pk bo so sh mv tr)) : RI (M + 1) (sp_forgive V row kept tried bf fd pk bo so sh mv tr w).2 := by
  unfold sp_forgive
  by_cases c1 : inn w 0 (row 8 - 1)
  · rw [if_pos c1]
    refine h.rw1 ?_
    obtain ⟨nc, np, nw, d, nt, nq, hR⟩ := h.1
    obtain ⟨hI, hW, ⟨e0, hd⟩, ⟨e4, ht⟩, ⟨e5, hq⟩, hB⟩ := id hR
    obtain ⟨⟨e2, hc2, hc10⟩, ⟨e3, hn6⟩, ⟨e8, hw8⟩, hP, hE, hL, -⟩ := id hI
    obtain ⟨j, hj, rfl⟩ := inn_row c1 e8 (by omega)
    rw [tN_nI (n := j) (by omega), e8, tN_nI (by omega)]
    have fv : ∀ k, ¬ k = 8 → (k < 66 ∨ 90 ≤ k) → forgF row j nw k = row k := fun k a b => by
      unfold forgF; rw [if_neg (by omega), if_neg a]
    have f8 : forgF row j nw 8 = nI (nw - 1) := by
      unfold forgF; rw [if_neg (by omega), if_pos rfl, e8, pk_sub (by omega)]
    refine ⟨nc, np, nw - 1, d, nt, nq, hI.same ⟨f8, by omega⟩ (fun k hk => fv k (by omega) (by omega)), fun i hi => ?_, ⟨(fv 0 (by omega) (by omega)).trans e0, hd⟩, ⟨(fv 4 (by omega) (by omega)).trans e4, ht⟩, ⟨(fv 5 (by omega) (by omega)).trans e5, hq⟩, fun k hk => ?_⟩
    · by_cases e : j ≤ i
      · unfold forgF
        rw [if_pos (by omega), if_pos (by omega), if_pos (by omega)]
        have := hW (i + 1) (by omega)
        rw [show 66 + 3 * i + 3 = 66 + 3 * (i + 1) by omega, show 66 + 3 * i + 1 + 3 = 66 + 3 * (i + 1) + 1 by omega, show 66 + 3 * i + 2 + 3 = 66 + 3 * (i + 1) + 2 by omega]
        exact this
      · unfold forgF
        rw [if_neg (by omega), if_neg (by omega), if_neg (by omega), if_neg (by omega), if_neg (by omega), if_neg (by omega)]
        exact hW i (by omega)
    · rw [fv _ (by omega) (by omega)]; exact hB k hk
  · rw [if_neg c1]; exact h.er
theorem ri_borrow {w b : Int32} (h : RI M (sR V row kept tried bf fd pk bo so sh mv tr)) : RI (M + 1) (sp_borrow V row kept tried bf fd pk bo so sh mv tr w b).2 := by
  unfold sp_borrow
  by_cases c1 : inn w 0 (row 8 - 1) ∧ inn b 0 (row 3 - 1) ∧ ¬ row (66 + 3 * tN w + 1) = b
  · rw [if_pos c1]
    refine h.rw1 ?_
    obtain ⟨nc, np, nw, d, nt, nq, hR⟩ := h.1
    obtain ⟨hI, hW, ⟨e0, hd⟩, ⟨e4, ht⟩, ⟨e5, hq⟩, hB⟩ := id hR
    obtain ⟨⟨e2, hc2, hc10⟩, ⟨e3, hn6⟩, ⟨e8, hw8⟩, hP, hE, hL, -⟩ := id hI
    obtain ⟨j, hj, rfl⟩ := inn_row c1.1 e8 (by omega)
    obtain ⟨jb, hjb, rfl⟩ := inn_row c1.2.1 e3 (by omega)
    rw [tN_nI (n := j) (by omega)]
    have fv : ∀ k, ¬ k = 66 + 3 * j → upd row (66 + 3 * j) (nI jb) k = row k := fun k a => pk_un a
    refine ⟨nc, np, nw, d, nt, nq, hI.same ⟨(fv 8 (by omega)).trans e8, hw8⟩ (fun k hk => fv k (by omega)), fun i hi => ?_, ⟨(fv 0 (by omega)).trans e0, hd⟩, ⟨(fv 4 (by omega)).trans e4, ht⟩, ⟨(fv 5 (by omega)).trans e5, hq⟩, fun k hk => ?_⟩
    · obtain ⟨h1, h2, h3⟩ := hW i hi
      refine ⟨?_, ?_, ?_⟩
      · by_cases e : i = j
        · subst e; exact ⟨jb, hjb, pk_us⟩
        · rw [fv _ (by omega)]; exact h1
      · rw [fv _ (by omega)]; exact h2
      · rw [fv _ (by omega)]; exact h3
    · rw [fv _ (by omega)]; exact hB k hk
  · rw [if_neg c1]; exact h.er
end RIS

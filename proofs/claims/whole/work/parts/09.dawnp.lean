/-! What a dawn keeps: pure rows over the spec's words. -/
theorem hld_nI (x : Int32) (M : Nat) (hM : M < 2 ^ 31) : ∃ t, t ≤ M ∧ hld x (nI 0) (nI M) = nI t := by
  unfold hld
  by_cases h1 : x < nI 0
  · exact ⟨0, Nat.zero_le _, by rw [if_pos h1]⟩
  · rw [if_neg h1]
    by_cases h2 : nI M < x
    · exact ⟨M, Nat.le_refl _, by rw [if_pos h2]⟩
    · rw [if_neg h2]
      obtain ⟨j, hj, e⟩ := nI_of (x := x) h1
      subst e
      rw [nI_ltI hM hj] at h2
      exact ⟨j, by omega, rfl⟩
theorem lawF_nI (row : Nat → Int32) (u : Nat) (a b c : Int32) : ∃ t, t ≤ 99 ∧ lawF row u a b c = nI t := by
  unfold lawF
  by_cases hu : u = 0
  · rw [if_pos hu (t := nI 9)]
    obtain ⟨t, h1, h2⟩ := hld_nI (if 0 ≤ row (6 + u) then topF (exF a b c (readF (txF row u) (tN (row (6 + u))) u).2.2 []) else if u = 0 then a / nI 2 else a + nI 1) 9 (by omega)
    exact ⟨t, by omega, h2⟩
  · rw [if_neg hu (e := nI 99)]
    obtain ⟨t, h1, h2⟩ := hld_nI (if 0 ≤ row (6 + u) then topF (exF a b c (readF (txF row u) (tN (row (6 + u))) u).2.2 []) else if u = 0 then a / nI 2 else a + nI 1) 99 (by omega)
    exact ⟨t, by omega, h2⟩
/-- what dawns leave as it is -/
def FR (r' r : Nat → Int32) : Prop := ∀ k, (k ≠ 0 ∧ k < 10) ∨ (20 ≤ k ∧ k < 30) ∨ 66 ≤ k ∨ (∃ p, k = 30 + 6 * p + 0) ∨ (∃ p, k = 30 + 6 * p + 1) → r' k = r k
theorem FR.rf {r : Nat → Int32} : FR r r := fun _ _ => rfl
theorem FR.tr {a b c : Nat → Int32} (h : FR a b) (g : FR b c) : FR a c := fun k hk => (h k hk).trans (g k hk)
theorem FR_e {r : Nat → Int32} {i : Nat} {x : Int32} (hi : i = 0 ∨ 10 ≤ i ∧ i < 20) : FR (upd r i x) r := by
  intro k hk
  rw [pk_un]
  rintro rfl
  rcases hk with h | h | h | ⟨p, h⟩ | ⟨p, h⟩ <;> omega
theorem FR_p {r : Nat → Int32} {p j : Nat} {x : Int32} (hp : p < 6) (h2 : 2 ≤ j) (h6 : j < 6) : FR (upd r (30 + 6 * p + j) x) r := by
  intro k hk
  rw [pk_un]
  rintro rfl
  rcases hk with h | h | h | ⟨p, h⟩ | ⟨p, h⟩ <;> omega
theorem FR.tx {r' r : Nat → Int32} (h : FR r' r) (u : Nat) : txF r' u = txF r u := by
  funext k; exact h _ (by omega)
theorem FR.txt {r' r : Nat → Int32} (h : FR r' r) {u : Nat} (hu : u ≤ 1) (g : txtOK r u) : txtOK r' u := by
  unfold txtOK
  rw [h.tx u, h (6 + u) (by omega)]
  exact g
theorem FR.law {r' r : Nat → Int32} (h : FR r' r) {u : Nat} (hu : u ≤ 1) (a b c : Int32) : lawF r' u a b c = lawF r u a b c := by
  unfold lawF
  rw [h.tx u, h (6 + u) (by omega)]
theorem FR_sumW {r' r : Nat → Int32} (h : FR r' r) (par : Int32) (p : Nat) (s : Int32) (n : Nat) : sumW r' par p s n = sumW r par p s n := by
  induction n with
  | zero => rfl
  | succ n ih => unfold sumW; rw [ih, h (66 + 3 * n) (by omega), h (66 + 3 * n + 2) (by omega)]
theorem FR_wS {r' r : Nat → Int32} (h : FR r' r) (V : Nat → Int32) (nw p : Nat) : wS V r' nw p = wS V r nw p := by
  unfold wS
  rw [FR_sumW h, h (30 + 6 * p + 0) (Or.inr (Or.inr (Or.inr (Or.inl ⟨p, rfl⟩)))), h (30 + 6 * p + 1) (Or.inr (Or.inr (Or.inr (Or.inr ⟨p, rfl⟩))))]
theorem Iv_of {r' r : Nat → Int32} {nc np nw : Nat} (hI : Iv r nc np nw) (hF : FR r' r) (hP : ∀ p, p < np → (∃ a, a < nc ∧ r' (30 + 6 * p + 2) = nI a) ∧ (r' (30 + 6 * p + 3) = -1 ∨ r' (30 + 6 * p + 3) = 0 ∨ r' (30 + 6 * p + 3) = 1) ∧ (∃ b, b ≤ 9999 ∧ r' (30 + 6 * p + 4) = nI b) ∧ (∃ h, h ≤ 9999 ∧ r' (30 + 6 * p + 5) = nI h)) (hE : ∀ c, c < nc → ∃ e, e ≤ 999 ∧ r' (10 + c) = nI e) : Iv r' nc np nw := by
  obtain ⟨⟨e2, g2, g10⟩, ⟨e3, g6⟩, ⟨e8, g8⟩, hP0, hE0, hL0, hT0, hT1⟩ := hI
  refine ⟨⟨?_, g2, g10⟩, ⟨?_, g6⟩, ⟨?_, g8⟩, fun p hp => ?_, hE, fun c hc => ?_, hF.txt (by omega) hT0, hF.txt (by omega) hT1⟩
  · rw [hF 2 (by omega)]; exact e2
  · rw [hF 3 (by omega)]; exact e3
  · rw [hF 8 (by omega)]; exact e8
  · obtain ⟨h0, h1, -⟩ := hP0 p hp
    obtain ⟨k2, k3, k4, k5⟩ := hP p hp
    refine ⟨?_, ?_, k2, k3, k4, k5⟩
    · rw [hF (30 + 6 * p + 0) (Or.inr (Or.inr (Or.inr (Or.inl ⟨p, rfl⟩))))]; exact h0
    · rw [hF (30 + 6 * p + 1) (Or.inr (Or.inr (Or.inr (Or.inr ⟨p, rfl⟩))))]; exact h1
  · rw [hF (20 + c) (by omega)]; exact hL0 c hc
theorem pickV_eq {row : Nat → Int32} {np p a : Nat} {w : Int32} (ea : row (30 + 6 * p + 2) = nI a) (ha : a < 2 ^ 31) : pickV row np w p = if row (10 + a) < (if row (20 + a) ≤ bendF row np w p then lawF row 1 (bendF row np w p) (row (10 + a)) (row (30 + 6 * p + 1)) else nI 0) then row (10 + a) else (if row (20 + a) ≤ bendF row np w p then lawF row 1 (bendF row np w p) (row (10 + a)) (row (30 + 6 * p + 1)) else nI 0) := by
  unfold pickV; rw [ea, tN_nI ha]
theorem pickF_eq {row : Nat → Int32} {np p a : Nat} {w : Int32} (ea : row (30 + 6 * p + 2) = nI a) (ha : a < 2 ^ 31) : pickF row np w p = upd (upd row (10 + a) (row (10 + a) - pickV row np w p)) (30 + 6 * p + 4) (hld (row (30 + 6 * p + 4) + pickV row np w p) (nI 0) (nI 9999)) := by
  unfold pickF; rw [ea, tN_nI ha]
/-- one picks no more than lie there -/
theorem pickV_le {row : Nat → Int32} {np p a e : Nat} {w : Int32} (ea : row (30 + 6 * p + 2) = nI a) (ha : a < 2 ^ 31) (ee : row (10 + a) = nI e) (he : e < 2 ^ 31) : ∃ t, t ≤ e ∧ pickV row np w p = nI t := by
  rw [pickV_eq ea ha, ee]
  have key : ∀ t : Nat, t ≤ 99 → ∃ t', t' ≤ e ∧ (if nI e < nI t then nI e else nI t) = nI t' := by
    intro t ht
    by_cases h : nI e < nI t
    · exact ⟨e, Nat.le_refl _, by rw [if_pos h]⟩
    · refine ⟨t, ?_, by rw [if_neg h]⟩
      rw [nI_ltI he (by omega)] at h
      omega
  by_cases hb : row (20 + a) ≤ bendF row np w p
  · rw [if_pos hb]
    obtain ⟨t, ht, et⟩ := lawF_nI row 1 (bendF row np w p) (nI e) (row (30 + 6 * p + 1))
    rw [et]
    exact key t ht
  · rw [if_neg hb]
    exact key 0 (by omega)
theorem pickF_FR {row : Nat → Int32} {np p nc nw : Nat} {w : Int32} (hI : Iv row nc np nw) (hp : p < np) : FR (pickF row np w p) row := by
  obtain ⟨⟨e2, g2, g10⟩, ⟨e3, g6⟩, ⟨e8, g8⟩, hP0, hE0, hL0, hT0, hT1⟩ := hI
  obtain ⟨-, -, ⟨a, ha, ea⟩, -⟩ := hP0 p hp
  rw [pickF_eq ea (by omega)]
  exact (FR_p (by omega) (by omega) (by omega)).tr (FR_e (by omega))
theorem pickF_Iv {row : Nat → Int32} {np p nc nw : Nat} {w : Int32} (hI : Iv row nc np nw) (hp : p < np) : Iv (pickF row np w p) nc np nw := by
  refine Iv_of hI (pickF_FR hI hp) ?_ ?_
  all_goals obtain ⟨⟨e2, g2, g10⟩, ⟨e3, g6⟩, ⟨e8, g8⟩, hP0, hE0, hL0, hT0, hT1⟩ := hI
  all_goals obtain ⟨-, -, ⟨a, ha, ea⟩, -⟩ := hP0 p hp
  · intro p' hp'
    obtain ⟨-, -, k2, k3, k4, k5⟩ := hP0 p' hp'
    rw [pickF_eq ea (by omega)]
    refine ⟨?_, ?_, ?_, ?_⟩
    · rw [pk_un (by omega), pk_un (by omega)]; exact k2
    · rw [pk_un (by omega), pk_un (by omega)]; exact k3
    · by_cases e : p' = p
      · subst e; rw [pk_us]; obtain ⟨t, h1, h2⟩ := hld_nI (row (30 + 6 * p' + 4) + pickV row np w p') 9999 (by omega); exact ⟨t, h1, h2⟩
      · rw [pk_un (by omega), pk_un (by omega)]; exact k4
    · rw [pk_un (by omega), pk_un (by omega)]; exact k5
  · intro c hc
    rw [pickF_eq ea (by omega), pk_un (by omega)]
    by_cases e : c = a
    · subst e
      obtain ⟨e, he, ee⟩ := hE0 c hc
      obtain ⟨t, h1, h2⟩ := pickV_le (np := np) (w := w) ea (by omega) ee (by omega)
      rw [pk_us, h2, ee, pk_sub h1]
      exact ⟨e - t, by omega, rfl⟩
    · rw [pk_un (by omega)]; exact hE0 c hc
theorem goF_FR {row : Nat → Int32} {p : Nat} (hp : p < 6) : FR (goF row p) row := by
  unfold goF
  split
  · exact FR_p hp (by omega) (by omega)
  · exact FR_p hp (by omega) (by omega)
theorem goF_Iv {row : Nat → Int32} {np p nc nw : Nat} (hI : Iv row nc np nw) (hp : p < np) : Iv (goF row p) nc np nw := by
  have hp6 : p < 6 := by have := hI.2.1.2; omega
  refine Iv_of hI (goF_FR hp6) ?_ ?_
  all_goals obtain ⟨⟨e2, g2, g10⟩, ⟨e3, g6⟩, ⟨e8, g8⟩, hP0, hE0, hL0, hT0, hT1⟩ := hI
  · intro p' hp'
    obtain ⟨-, -, k2, k3, k4, k5⟩ := hP0 p' hp'
    unfold goF
    split
    · rename_i hin
      refine ⟨?_, ?_, ?_, ?_⟩
      · by_cases e : p' = p
        · subst e
          rw [pk_us]
          obtain ⟨h1, h2⟩ := hin
          rw [e2, show (1 : Int32) = nI 1 from rfl, pk_sub (by omega)] at h2
          obtain ⟨j, hj, ej⟩ := nI_of (x := row (30 + 6 * p' + 2) + row (30 + 6 * p' + 3)) (lnl h1)
          rw [ej] at h2 ⊢
          rw [nI_leI hj (by omega)] at h2
          exact ⟨j, by omega, rfl⟩
        · rw [pk_un (by omega)]; exact k2
      · rw [pk_un (by omega)]; exact k3
      · rw [pk_un (by omega)]; exact k4
      · rw [pk_un (by omega)]; exact k5
    · refine ⟨?_, ?_, ?_, ?_⟩
      · rw [pk_un (by omega)]; exact k2
      · by_cases e : p' = p
        · subst e
          rw [pk_us]
          rcases k3 with h | h | h <;> rw [h] <;> decide
        · rw [pk_un (by omega)]; exact k3
      · rw [pk_un (by omega)]; exact k4
      · rw [pk_un (by omega)]; exact k5
  · intro c hc
    unfold goF
    split <;> (rw [pk_un (by omega)]; exact hE0 c hc)
theorem eatF_nI {row : Nat → Int32} {np p nc nw : Nat} (hI : Iv row nc np nw) (hp : p < np) : ∃ t, t ≤ 3 ∧ eatF row p = nI t := by
  obtain ⟨-, -, -, hP0, -⟩ := hI
  obtain ⟨⟨k, hk, ek⟩, ⟨m, hm, em⟩, -⟩ := hP0 p hp
  rw [eatF_eq ek hk, em]
  unfold eatK
  by_cases h1 : k = 1 ∨ k = 4
  · exact ⟨1, by omega, by rw [if_pos h1]⟩
  · rw [if_neg h1]
    by_cases h2 : k = 5
    · exact ⟨3, by omega, by rw [if_pos h2]⟩
    · rw [if_neg h2]
      by_cases h3 : k = 6
      · rw [if_pos h3]
        refine ⟨2 + m % 2, by omega, ?_⟩
        unfold rem
        rw [pk_rem (by omega) (by omega) (by omega), nI_add]
      · exact ⟨2, by omega, by rw [if_neg h3]⟩
theorem etF_FR {row : Nat → Int32} {p : Nat} (hp : p < 6) : FR (etF row p) row := by
  unfold etF
  split
  · exact FR_p hp (by omega) (by omega)
  · exact (FR_p hp (by omega) (by omega)).tr (FR_p hp (by omega) (by omega))
theorem etF_Iv {row : Nat → Int32} {np p nc nw : Nat} (hI : Iv row nc np nw) (hp : p < np) : Iv (etF row p) nc np nw := by
  have hp6 : p < 6 := by have := hI.2.1.2; omega
  obtain ⟨t, ht, et⟩ := eatF_nI hI hp
  refine Iv_of hI (etF_FR hp6) ?_ ?_
  all_goals obtain ⟨⟨e2, g2, g10⟩, ⟨e3, g6⟩, ⟨e8, g8⟩, hP0, hE0, hL0, hT0, hT1⟩ := hI
  · intro p' hp'
    obtain ⟨-, -, k2, k3, k4, k5⟩ := hP0 p' hp'
    unfold etF
    split
    · rename_i hle
      refine ⟨?_, ?_, ?_, ?_⟩
      · rw [pk_un (by omega)]; exact k2
      · rw [pk_un (by omega)]; exact k3
      · by_cases e : p' = p
        · subst e
          obtain ⟨b, hb, eb⟩ := k4
          rw [pk_us, eb, et]
          rw [eb, et, nI_leI (by omega) (by omega)] at hle
          exact ⟨b - t, by omega, pk_sub hle⟩
        · rw [pk_un (by omega)]; exact k4
      · rw [pk_un (by omega)]; exact k5
    · refine ⟨?_, ?_, ?_, ?_⟩
      · rw [pk_un (by omega), pk_un (by omega)]; exact k2
      · rw [pk_un (by omega), pk_un (by omega)]; exact k3
      · by_cases e : p' = p
        · subst e
          rw [pk_un (by omega), pk_us]
          exact ⟨0, by omega, rfl⟩
        · rw [pk_un (by omega), pk_un (by omega)]; exact k4
      · by_cases e : p' = p
        · subst e
          rw [pk_us]
          obtain ⟨t, h1, h2⟩ := hld_nI (row (30 + 6 * p' + 5) + nI 1) 9999 (by omega)
          exact ⟨t, h1, h2⟩
        · rw [pk_un (by omega), pk_un (by omega)]; exact k5
  · intro c hc
    unfold etF
    split
    · rw [pk_un (by omega)]; exact hE0 c hc
    · rw [pk_un (by omega), pk_un (by omega)]; exact hE0 c hc
theorem itN_inv {α : Type} {f : Nat → α → α} (I : α → Prop) {N : Nat} (hs : ∀ i x, i < N → I x → I (f i x)) : ∀ n x, n ≤ N → I x → I (itN f n x) := by
  intro n
  induction n with
  | zero => intro x _ h; exact h
  | succ n ih => intro x hn h; exact hs n _ (by omega) (ih x (by omega) h)
/-- both at once: the row's kind, and what is left as it was -/
def IF (r0 : Nat → Int32) (nc np nw : Nat) (r : Nat → Int32) : Prop := Iv r nc np nw ∧ FR r r0
theorem pks_IF {row : Nat → Int32} {nc np nw : Nat} (w : Nat → Int32) (hI : Iv row nc np nw) (n : Nat) (hn : n ≤ np) : IF row nc np nw (pksF np w row n) :=
  itN_inv (IF row nc np nw) (N := np) (fun i x hi h => ⟨pickF_Iv h.1 hi, (pickF_FR h.1 hi).tr h.2⟩) n row hn ⟨hI, FR.rf⟩
theorem go_IF {r0 row : Nat → Int32} {nc np nw : Nat} (hI : IF r0 nc np nw row) (n : Nat) (hn : n ≤ np) : IF r0 nc np nw (itN (fun p r => goF r p) n row) :=
  itN_inv (IF r0 nc np nw) (N := np) (fun i x hi h => ⟨goF_Iv h.1 hi, (goF_FR (by have := h.1.2.1.2; omega)).tr h.2⟩) n row hn hI
theorem et_IF {r0 row : Nat → Int32} {nc np nw : Nat} (hI : IF r0 nc np nw row) (n : Nat) (hn : n ≤ np) : IF r0 nc np nw (itN (fun p r => etF r p) n row) :=
  itN_inv (IF r0 nc np nw) (N := np) (fun i x hi h => ⟨etF_Iv h.1 hi, (etF_FR (by have := h.1.2.1.2; omega)).tr h.2⟩) n row hn hI
theorem Iv_0 {row : Nat → Int32} {nc np nw : Nat} {x : Int32} (hI : Iv row nc np nw) : Iv (upd row 0 x) nc np nw := by
  refine Iv_of hI (FR_e (by omega)) ?_ ?_
  · intro p hp
    obtain ⟨-, -, k2, k3, k4, k5⟩ := hI.2.2.2.1 p hp
    refine ⟨?_, ?_, ?_, ?_⟩ <;> rw [pk_un (by omega)] <;> assumption
  · intro c hc
    rw [pk_un (by omega)]
    exact hI.2.2.2.2.1 c hc
theorem dawn_IF {row : Nat → Int32} {nc np nw : Nat} (w : Nat → Int32) (hI : Iv row nc np nw) : IF row nc np nw (dawnF np w row) := by
  have h := et_IF (go_IF (pks_IF w hI np (Nat.le_refl _)) np (Nat.le_refl _)) np (Nat.le_refl _)
  exact ⟨Iv_0 h.1, (FR_e (by omega)).tr h.2⟩
theorem dawns_IF {row : Nat → Int32} {nc np nw : Nat} (w : Nat → Int32) (hI : Iv row nc np nw) (n : Nat) : IF row nc np nw (dawnsF np w row n) :=
  itN_inv (IF row nc np nw) (N := n) (fun i x hi h => ⟨(dawn_IF w h.1).1, (dawn_IF w h.1).2.tr h.2⟩) n row (Nat.le_refl _) ⟨hI, FR.rf⟩
def wv (V row : Nat → Int32) (nw : Nat) : Nat → Int32 := fun p => wS V row nw p
theorem wv_eq {V1 V r' r : Nat → Int32} (nw : Nat) (h : VE V1 V) (g : FR r' r) : wv V1 r' nw = wv V r nw := by
  funext p; unfold wv; rw [wS_VE h, FR_wS g]
def hunF (row tr : Nat → Int32) : Nat → Int32
  | 0 => 0
  | n + 1 => hunF row tr n ||| (if tr (30 + 6 * n + 5) < row (30 + 6 * n + 5) then nI 1 <<< (nI n &&& 31) else nI 0)

/-! The reader of texts: pure rows. -/
section PRS
variable {b : Nat → Int32} {n u f lvl op k : Nat} {code : List Int32}
theorem prs_no (h : ¬ lvF (bytF b n k) = lvl) : prs b n u (f + 1) lvl true op k code = (true, k, code) := by
  rw [prs, if_neg h]
theorem prs_lf (h : lvF (bytF b n k) = lvl) (g : (prs b n u f (lvl + 1) false op (k + 1) code).1 = false) : prs b n u (f + 1) lvl true op k code = prs b n u f (lvl + 1) false op (k + 1) code := by
  rw [prs, if_pos h, if_neg (by rw [g]; decide)]
theorem prs_lt (h : lvF (bytF b n k) = lvl) (h2 : ¬ lvl = 2) (g : (prs b n u f (lvl + 1) false op (k + 1) code).1 = true) : prs b n u (f + 1) lvl true op k code = prs b n u f lvl true op (prs b n u f (lvl + 1) false op (k + 1) code).2.1 ((prs b n u f (lvl + 1) false op (k + 1) code).2.2 ++ [-(bytF b n k)]) := by
  rw [prs, if_pos h, if_pos g, if_neg h2]
theorem prs_l2 (h : lvF (bytF b n k) = 2) (g : (prs b n u f 3 false op (k + 1) code).1 = true) : prs b n u (f + 1) 2 true op k code = (true, (prs b n u f 3 false op (k + 1) code).2.1, (prs b n u f 3 false op (k + 1) code).2.2 ++ [-(bytF b n k)]) := by
  rw [prs, if_pos h, if_pos g, if_pos rfl]
theorem prs_ut (h5 : ¬ lvl = 5) (g : (prs b n u f (lvl + 1) false op k code).1 = true) : prs b n u (f + 1) lvl false op k code = prs b n u f lvl true op (prs b n u f (lvl + 1) false op k code).2.1 (prs b n u f (lvl + 1) false op k code).2.2 := by
  rw [prs, if_neg h5, if_pos g]
theorem prs_uf (h5 : ¬ lvl = 5) (g : (prs b n u f (lvl + 1) false op k code).1 = false) : prs b n u (f + 1) lvl false op k code = prs b n u f (lvl + 1) false op k code := by
  rw [prs, if_neg h5, if_neg (by rw [g]; decide)]
theorem prs_num (h : inn (bytF b n k) 48 57) : prs b n u (f + 1) 5 false op k code = (true, (numF b n 4 k 0).1, code ++ [(numF b n 4 k 0).2]) := by
  rw [prs, if_pos rfl, if_pos h]
theorem prs_full (h : ¬ inn (bytF b n k) 48 57) (g : bytF b n k = 33 ∨ bytF b n k = 40) (h5 : op = 5) : prs b n u (f + 1) 5 false op k code = (false, k, code) := by
  rw [prs, if_pos rfl, if_neg h]
  rcases g with g | g
  · rw [if_pos g, if_pos h5]
  · rw [if_neg (by rw [g]; decide), if_pos g, if_pos h5]
theorem prs_not (h : ¬ inn (bytF b n k) 48 57) (g : bytF b n k = 33) (h5 : ¬ op = 5) : prs b n u (f + 1) 5 false op k code = ((prs b n u f 5 false (op + 1) (k + 1) code).1, (prs b n u f 5 false (op + 1) (k + 1) code).2.1, (prs b n u f 5 false (op + 1) (k + 1) code).2.2 ++ [-33]) := by
  rw [prs, if_pos rfl, if_neg h, if_pos g, if_neg h5]
theorem prs_pt (h : ¬ inn (bytF b n k) 48 57) (g : bytF b n k = 40) (h5 : ¬ op = 5) (c : (prs b n u f 0 false (op + 1) (k + 1) code).1 = true ∧ bytF b n (prs b n u f 0 false (op + 1) (k + 1) code).2.1 = 41) : prs b n u (f + 1) 5 false op k code = (true, (prs b n u f 0 false (op + 1) (k + 1) code).2.1 + 1, (prs b n u f 0 false (op + 1) (k + 1) code).2.2) := by
  rw [prs, if_pos rfl, if_neg h, if_neg (by rw [g]; decide), if_pos g, if_neg h5, if_pos c]
theorem prs_pf (h : ¬ inn (bytF b n k) 48 57) (g : bytF b n k = 40) (h5 : ¬ op = 5) (c : ¬ ((prs b n u f 0 false (op + 1) (k + 1) code).1 = true ∧ bytF b n (prs b n u f 0 false (op + 1) (k + 1) code).2.1 = 41)) : prs b n u (f + 1) 5 false op k code = (false, (prs b n u f 0 false (op + 1) (k + 1) code).2) := by
  rw [prs, if_pos rfl, if_neg h, if_neg (by rw [g]; decide), if_pos g, if_neg h5, if_neg c]
theorem prs_nam (h : ¬ inn (bytF b n k) 48 57) (g1 : ¬ bytF b n k = 33) (g2 : ¬ bytF b n k = 40) (hn : namF u (bytF b n k) < 3) : prs b n u (f + 1) 5 false op k code = (true, k + 1, code ++ [-1 - nI (namF u (bytF b n k))]) := by
  rw [prs, if_pos rfl, if_neg h, if_neg g1, if_neg g2, if_pos hn]
theorem prs_bad (h : ¬ inn (bytF b n k) 48 57) (g1 : ¬ bytF b n k = 33) (g2 : ¬ bytF b n k = 40) (hn : ¬ namF u (bytF b n k) < 3) : prs b n u (f + 1) 5 false op k code = (false, k, code) := by
  rw [prs, if_pos rfl, if_neg h, if_neg g1, if_neg g2, if_neg hn]
/-- where a byte is no end, there is one -/
theorem byt_lt (h : ¬ bytF b n k = -1) : k < n := by
  unfold bytF at h
  split at h
  · assumption
  · exact absurd rfl h
theorem numF_pr (F k : Nat) (v : Int32) (hk : k ≤ n) : k ≤ (numF b n F k v).1 ∧ (numF b n F k v).1 ≤ n ∧ (inn (bytF b n k) 48 57 → 0 < F → k < (numF b n F k v).1) := by
  induction F generalizing k v with
  | zero => exact ⟨Nat.le_refl _, hk, fun _ h => absurd h (Nat.lt_irrefl _)⟩
  | succ F ih =>
    unfold numF
    by_cases h : inn (bytF b n k) 48 57
    · rw [if_pos h]
      have hl : k < n := byt_lt (fun e => by rw [e] at h; exact absurd h.1 (by decide))
      obtain ⟨h1, h2, -⟩ := ih (k + 1) (nI 10 * v + bytF b n k - nI 48) (by omega)
      exact ⟨by omega, h2, fun _ _ => by omega⟩
    · rw [if_neg h]
      exact ⟨Nat.le_refl _, hk, fun g => absurd g h⟩
/-- the reader's place goes on and stays within the text -/
theorem prs_pr (f : Nat) : ∀ (lvl : Nat) (q : Bool) (op k : Nat) (code : List Int32), lvl ≤ 5 → (q = true → lvl ≤ 4) → k ≤ n → k ≤ (prs b n u f lvl q op k code).2.1 ∧ (prs b n u f lvl q op k code).2.1 ≤ n ∧ (q = false → (prs b n u f lvl q op k code).1 = true → k < (prs b n u f lvl q op k code).2.1) := by
  induction f with
  | zero => intro lvl q op k code _ _ hk; exact ⟨Nat.le_refl _, hk, fun _ h => by unfold prs at h; cases h⟩
  | succ f ih =>
    intro lvl q op k code h5 h4 hk
    cases q with
    | true =>
      have h4 := h4 rfl
      by_cases h : lvF (bytF b n k) = lvl
      · have hl : k < n := byt_lt (fun e => by
          rw [e, show lvF (-1) = 5 from by decide] at h
          omega)
        obtain ⟨i1, i2, -⟩ := ih (lvl + 1) false op (k + 1) code (by omega) (fun h => by cases h) (by omega)
        cases g : (prs b n u f (lvl + 1) false op (k + 1) code).1 with
        | false => rw [prs_lf h g]; exact ⟨by omega, i2, fun h => by cases h⟩
        | true =>
          by_cases h2 : lvl = 2
          · subst h2; rw [prs_l2 h g]; exact ⟨Nat.le_trans (Nat.le_succ k) i1, i2, fun h => by cases h⟩
          · rw [prs_lt h h2 g]
            obtain ⟨j1, j2, -⟩ := ih lvl true op (prs b n u f (lvl + 1) false op (k + 1) code).2.1 ((prs b n u f (lvl + 1) false op (k + 1) code).2.2 ++ [-(bytF b n k)]) h5 (fun _ => h4) i2
            exact ⟨by omega, j2, fun h => by cases h⟩
      · rw [prs_no h]; exact ⟨Nat.le_refl _, hk, fun h => by cases h⟩
    | false =>
      by_cases hv : lvl = 5
      · subst hv
        by_cases h : inn (bytF b n k) 48 57
        · rw [prs_num h]
          obtain ⟨j1, j2, j3⟩ := numF_pr (b := b) (n := n) 4 k 0 hk
          exact ⟨j1, j2, fun _ _ => j3 h (by omega)⟩
        · by_cases g : bytF b n k = 33
          · have hl : k < n := byt_lt (by rw [g]; decide)
            by_cases ho : op = 5
            · rw [prs_full h (Or.inl g) ho]; exact ⟨Nat.le_refl _, hk, fun _ h => by cases h⟩
            · rw [prs_not h g ho]
              obtain ⟨j1, j2, j3⟩ := ih 5 false (op + 1) (k + 1) code (Nat.le_refl _) (fun h => by cases h) (by omega)
              exact ⟨by dsimp only; omega, j2, fun _ hh => by dsimp only; omega⟩
          · by_cases g2 : bytF b n k = 40
            · have hl : k < n := byt_lt (by rw [g2]; decide)
              by_cases ho : op = 5
              · rw [prs_full h (Or.inr g2) ho]; exact ⟨Nat.le_refl _, hk, fun _ h => by cases h⟩
              · obtain ⟨j1, j2, j3⟩ := ih 0 false (op + 1) (k + 1) code (by omega) (fun h => by cases h) (by omega)
                by_cases c : (prs b n u f 0 false (op + 1) (k + 1) code).1 = true ∧ bytF b n (prs b n u f 0 false (op + 1) (k + 1) code).2.1 = 41
                · rw [prs_pt h g2 ho c]
                  have hl2 := byt_lt (b := b) (n := n) (k := (prs b n u f 0 false (op + 1) (k + 1) code).2.1) (by rw [c.2]; decide)
                  exact ⟨by dsimp only; omega, by dsimp only; omega, fun _ _ => by dsimp only; omega⟩
                · rw [prs_pf h g2 ho c]
                  exact ⟨by dsimp only; omega, j2, fun _ hh => by cases hh⟩
            · by_cases hn : namF u (bytF b n k) < 3
              · have hl : k < n := byt_lt (fun e => by
                  rw [e] at hn
                  have : namF u (-1) = 3 := by
                    unfold namF
                    by_cases hu : u = 0
                    · rw [if_pos hu, if_pos hu, if_pos hu]; decide
                    · rw [if_neg hu, if_neg hu, if_neg hu]; decide
                  omega)
                rw [prs_nam h g g2 hn]; exact ⟨by dsimp only; omega, by dsimp only; omega, fun _ _ => by dsimp only; omega⟩
              · rw [prs_bad h g g2 hn]; exact ⟨Nat.le_refl _, hk, fun _ h => by cases h⟩
      · obtain ⟨i1, i2, i3⟩ := ih (lvl + 1) false op k code (by omega) (fun h => by cases h) hk
        cases g : (prs b n u f (lvl + 1) false op k code).1 with
        | false => rw [prs_uf hv g]; exact ⟨i1, i2, fun _ hh => by rw [g] at hh; cases hh⟩
        | true =>
          rw [prs_ut hv g]
          obtain ⟨j1, j2, -⟩ := ih lvl true op (prs b n u f (lvl + 1) false op k code).2.1 (prs b n u f (lvl + 1) false op k code).2.2 h5 (fun _ => by omega) i2
          have := i3 rfl g
          exact ⟨by omega, j2, fun _ _ => by omega⟩
end PRS
theorem exF_app (a b c : Int32) (l1 l2 st : List Int32) : exF a b c (l1 ++ l2) st = (exF a b c l1 st).bind (exF a b c l2) := by
  induction l1 generalizing st with
  | nil => rfl
  | cons s r ih =>
    show (stF a b c s st).bind (exF a b c (r ++ l2)) = _
    unfold exF
    cases h : stF a b c s st with
    | none => rfl
    | some x => exact ih x
/-- the steps of a part leave its value on the stack -/
def Seg (a b c : Int32) (seg : List Int32) (v : Int32) : Prop := ∀ st, exF a b c seg st = some (v :: st)
theorem Seg.num {a b c v : Int32} (h : 0 ≤ v) : Seg a b c [v] v := by
  intro st
  have h3 : (-3 : Int32) ≤ v := by
    rw [Int32.le_iff_toInt_le] at h ⊢
    have e1 : (-3 : Int32).toInt = -3 := by decide
    have e2 : (0 : Int32).toInt = 0 := by decide
    omega
  show (stF a b c v st).bind (exF a b c []) = _
  unfold stF
  rw [if_pos h3, if_pos h]
  rfl
def nmV (a b c : Int32) (i : Nat) : Int32 := if i = 0 then a else if i = 1 then b else c
theorem Seg.nam (a b c : Int32) {i : Nat} (h : i < 3) : Seg a b c [-1 - nI i] (nmV a b c i) := by
  intro st
  rcases (show i = 0 ∨ i = 1 ∨ i = 2 by omega) with rfl | rfl | rfl
  · show (stF a b c (-1 - nI 0) st).bind (exF a b c []) = _
    unfold stF
    rw [if_pos (by decide), if_neg (by decide), if_pos (by decide)]
    rfl
  · show (stF a b c (-1 - nI 1) st).bind (exF a b c []) = _
    unfold stF
    rw [if_pos (by decide), if_neg (by decide), if_neg (by decide), if_pos (by decide)]
    rfl
  · show (stF a b c (-1 - nI 2) st).bind (exF a b c []) = _
    unfold stF
    rw [if_pos (by decide), if_neg (by decide), if_neg (by decide), if_neg (by decide)]
    rfl
theorem Seg.not {a b c v : Int32} {seg : List Int32} (h : Seg a b c seg v) : Seg a b c (seg ++ [-33]) (bI (v = 0)) := by
  intro st
  rw [exF_app, h st]
  rfl
theorem Seg.join {a b c v w : Int32} {s1 s2 : List Int32} {sg : Int32} (h : Seg a b c s1 v) (g : Seg a b c s2 w) (h1 : ¬ -3 ≤ -sg) (h2 : ¬ -sg = -33) (h3 : - -sg = sg) : Seg a b c (s1 ++ s2 ++ [-sg]) (joinF sg v w) := by
  intro st
  rw [exF_app, exF_app, h st]
  show ((exF a b c s2 (v :: st)).bind (exF a b c [-sg])) = _
  rw [g (v :: st)]
  show (stF a b c (-sg) (w :: v :: st)).bind (exF a b c []) = _
  unfold stF
  rw [if_neg h1, if_neg h2]
  show (some (joinF (- -sg) v w :: st)).bind _ = _
  rw [h3]
  rfl

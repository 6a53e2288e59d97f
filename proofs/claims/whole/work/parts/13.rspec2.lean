/-! The spec of the other calls. -/
/-- the first from k on for which P holds; behind f of them none -/
def lsF (P : Nat → Prop) [DecidablePred P] : Nat → Nat → Nat
  | 0, k => k
  | f + 1, k => if P k then k else lsF P f (k + 1)
theorem lsF_at {P : Nat → Prop} [DecidablePred P] {i : Nat} : ∀ {f k : Nat}, k ≤ i → i ≤ k + f → (∀ j, k ≤ j → j < i → ¬ P j) → (P i ∨ i = k + f) → lsF P f k = i := by
  intro f
  induction f with
  | zero => intro k h1 h2 _ _; unfold lsF; omega
  | succ f ih =>
    intro k h1 h2 h3 h4
    unfold lsF
    by_cases e : k = i
    · subst e
      rcases h4 with h4 | h4
      · rw [if_pos h4]
      · omega
    · rw [if_neg (h3 k (Nat.le_refl _) (by omega))]
      exact ih (by omega) (by omega) (fun j hj => h3 j (by omega)) (by rcases h4 with h | h; exact Or.inl h; exact Or.inr (by omega))
theorem VE.up {V1 V : Nat → Int32} {k : Nat} {x : Int32} (h : VE V1 V) : VE (upd V1 k x) (upd V k x) := fun j hj => by
  by_cases e : j = k
  · subst e; rw [pk_us, pk_us]
  · rw [pk_un e, pk_un e]; exact h j hj
theorem VE.ov {V1 V : Nat → Int32} {k : Nat} {x y : Int32} (h : VE V1 (upd V k x)) : VE (upd V1 k y) (upd V k y) := fun j hj => by
  by_cases e : j = k
  · subst e; rw [pk_us, pk_us]
  · have := h j hj; rw [pk_un e, pk_un e]; rw [pk_un e] at this; exact this
theorem upd_self {V : Nat → Int32} {k : Nat} {x : Int32} (h : V k = x) : upd V k x = V := by
  funext j; by_cases e : j = k
  · subst e; rw [pk_us, h]
  · rw [pk_un e]
theorem upd_upd {V : Nat → Int32} {k : Nat} {x y : Int32} : upd (upd V k x) k y = upd V k y := by
  funext j; by_cases e : j = k
  · subst e; rw [pk_us, pk_us]
  · rw [pk_un e, pk_un e, pk_un e]
def sp_seed (V row kept tried bf fd pk bo so sh mv tr : Nat → Int32) (v : Int32) : Int32 × RS := (row 1, sR V (upd row 1 v) kept tried bf fd pk bo so sh mv tr)
def sp_trace (V row kept tried bf fd pk bo so sh mv tr : Nat → Int32) (i : Int32) : Int32 × RS := if inn i (nI 0) (V 26 - nI 1) then (tr (tN i), sR V row kept tried bf fd pk bo so sh mv tr) else er V row kept tried bf fd pk bo so sh mv tr (-1000000002) 2
def zroF (sh : Nat → Int32) (s n : Nat) : Nat → Int32 := fun k => if 40 * s ≤ k ∧ k < 40 * s + n then nI 0 else sh k
def sp_sheet (V row kept tried bf fd pk bo so sh mv tr : Nat → Int32) (s b n : Int32) : Int32 × RS := if inn s 0 3 ∧ (b = 0 ∨ b = nI 8 ∨ b = nI 16 ∨ b = nI 32) then (if ¬ b = 0 ∧ ¬ 0 ≤ n then er V row kept tried bf fd pk bo so sh mv tr (-1000000003) 3 else if ¬ b = 0 ∧ ¬ n ≤ nI 40 then er V row kept tried bf fd pk bo so sh mv tr (-1000000001) 1 else (nI 1, sR V row kept tried bf fd pk (upd bo (tN s) b) (upd so (tN s) (if b = 0 then nI 0 else n)) (zroF sh (tN s) 40) mv tr)) else er V row kept tried bf fd pk bo so sh mv tr (-1000000001) 1
def narF (b v : Int32) : Int32 := if b = nI 8 then v.toInt8.toInt32 else if b = nI 16 then v.toInt16.toInt32 else v
def sp_put (V row kept tried bf fd pk bo so sh mv tr : Nat → Int32) (s i v : Int32) : Int32 × RS := if inn s 0 3 then (if bo (tN s) = 0 then er V row kept tried bf fd pk bo so sh mv tr (-1000000002) 2 else if inn i (nI 0) (so (tN s) - nI 1) then (nI 1, sR V row kept tried bf fd pk bo so (upd sh (40 * tN s + tN i) (narF (bo (tN s)) v)) mv tr) else er V row kept tried bf fd pk bo so sh mv tr (-1000000001) 1) else er V row kept tried bf fd pk bo so sh mv tr (-1000000001) 1
def mvF (sh : Nat → Int32) (a b n : Nat) : Nat → Int32 := fun k => if b ≤ k ∧ k < b + n then sh (a + (k - b)) else sh k
def sp_move (V row kept tried bf fd pk bo so sh mv tr : Nat → Int32) (s i t j n : Int32) : Int32 × RS := if inn s 0 3 ∧ inn t 0 3 then (if bo (tN s) = 0 ∨ bo (tN t) = 0 then er V row kept tried bf fd pk bo so sh mv tr (-1000000002) 2 else if ¬ bo (tN s) = bo (tN t) then er V row kept tried bf fd pk bo so sh mv tr (-1000000005) 5 else if n < 0 ∨ i < 0 ∨ j < 0 ∨ so (tN s) - n < i ∨ so (tN t) - n < j then er V row kept tried bf fd pk bo so sh mv tr (-1000000001) 1 else (n, sR V row kept tried bf fd pk bo so (mvF sh (40 * tN s + tN i) (40 * tN t + tN j) (tN n)) mv tr)) else er V row kept tried bf fd pk bo so sh mv tr (-1000000001) 1
abbrev earP (row so sh : Nat → Int32) (s n : Nat) : Prop := ¬ (n < tN (so s) ∧ n < tN (row 2) ∧ inn (sh (40 * s + n)) (nI 0) (nI 999))
def earG (row sh : Nat → Int32) (s n : Nat) : Nat → Int32 := fun j => if 10 ≤ j ∧ j < 10 + n then sh (40 * s + (j - 10)) else row j
def sp_ears (V row kept tried bf fd pk bo so sh mv tr : Nat → Int32) (s : Int32) : Int32 × RS := if inn s 0 3 then (if bo (tN s) = 0 then er V row kept tried bf fd pk bo so sh mv tr (-1000000002) 2 else (nI (lsF (earP row so sh (tN s)) 41 0), sR V (earG row sh (tN s) (lsF (earP row so sh (tN s)) 41 0)) kept tried bf fd pk bo so sh mv tr)) else er V row kept tried bf fd pk bo so sh mv tr (-1000000001) 1
abbrev judP (row so sh : Nat → Int32) (s n : Nat) : Prop := ¬ (n < tN (row 3) ∧ n < tN (so s) ∧ sh (40 * s + n) = row (30 + 6 * n + 4))
def sp_judge (V row kept tried bf fd pk bo so sh mv tr : Nat → Int32) (s : Int32) : Int32 × RS := if inn s 0 3 then (if bo (tN s) = 0 then er V row kept tried bf fd pk bo so sh mv tr (-1000000002) 2 else (if lsF (judP row so sh (tN s)) 7 0 = tN (row 3) ∧ lsF (judP row so sh (tN s)) 7 0 = tN (so (tN s)) then -1 else nI (lsF (judP row so sh (tN s)) 7 0), sR V row kept tried bf fd pk bo so sh mv tr)) else er V row kept tried bf fd pk bo so sh mv tr (-1000000001) 1
def sp_image (V row kept tried bf fd pk bo so sh mv tr : Nat → Int32) : Int32 × RS := (V 5 + nI 1, sR (upd (upd V 4 (nI 1)) 5 (V 5 + nI 1)) row row tried bf fd pk bo so sh mv tr)
def sp_restore (V row kept tried bf fd pk bo so sh mv tr : Nat → Int32) : Int32 × RS := if V 4 = 0 then er V row kept tried bf fd pk bo so sh mv tr (-1000000002) 2 else (kept 0, sR V kept kept tried bf fd pk bo so sh mv tr)
def sp_tell (V row kept tried bf fd pk bo so sh mv tr : Nat → Int32) (v : Int32) : Int32 × RS := if row 5 = nI 20 then er V row kept tried bf fd pk bo so sh mv tr (-1000000004) 4 else (row 5 + nI 1, sR V (upd (upd row (140 + tN (row 5)) v) 5 (row 5 + nI 1)) kept tried bf fd pk bo so sh mv tr)
abbrev chkP (V row : Nat → Int32) (k : Nat) : Prop := ¬ sumF (dawnsF (tN (row 3)) (wv V row (tN (row 8))) (upd row 5 (nI 0)) (k + 1)) 4 (tN (row 3)) = row (140 + k)
def sp_check (V row kept tried bf fd pk bo so sh mv tr : Nat → Int32) : Int32 × RS := (if lsF (chkP V row) (tN (row 5)) 0 = tN (row 5) then nI 0 else nI (1 + lsF (chkP V row) (tN (row 5)) 0), sR V (upd row 5 (nI 0)) kept tried bf fd pk bo so sh mv tr)
def cntF (V row : Nat → Int32) (w : Nat) : Int32 := if w = 0 then row 2 else if w = 1 then row 3 else if w = 2 then row 8 else if w = 3 then row 0 else if w = 4 then earF row (tN (row 2)) else if w = 5 then sumF row 4 (tN (row 3)) else if w = 6 then sumF row 5 (tN (row 3)) else if w = 7 then row 4 else if w = 8 then row 5 else if w = 9 then V 26 else row 1
def sp_count (V row kept tried bf fd pk bo so sh mv tr : Nat → Int32) (what : Int32) : Int32 × RS := if inn what (nI 0) (nI 10) then (cntF V row (tN what), sR V row kept tried bf fd pk bo so sh mv tr) else er V row kept tried bf fd pk bo so sh mv tr (-1000000001) 1
def sp_told (V row kept tried bf fd pk bo so sh mv tr : Nat → Int32) (k : Int32) : Int32 × RS := if inn k (nI 1) (nI 5) then (fd (tN k), sR V row kept tried bf fd pk bo so sh mv tr) else er V row kept tried bf fd pk bo so sh mv tr (-1000000001) 1
abbrev dwF (V row : Nat → Int32) (n : Nat) : Nat → Int32 := dawnsF (tN (row 3)) (wv V row (tN (row 8))) row n
def sp_dawns (V row kept tried bf fd pk bo so sh mv tr : Nat → Int32) (n : Int32) : Int32 × RS := if inn n (nI 1) (nI 60) then (if row 0 + n ≤ nI 9999 then (sumF (dwF V row (tN n)) 4 (tN (row 3)), sR V (dwF V row (tN n)) kept tried bf fd pk bo so sh mv tr) else er V row kept tried bf fd pk bo so sh mv tr (-1000000003) 3) else er V row kept tried bf fd pk bo so sh mv tr (-1000000001) 1
def drwF (row : Nat → Int32) : Nat → Int32 := upd row 1 (row 1 * 1103515245 + nI 12345)
def drwV (row : Nat → Int32) (b : Nat) : Int32 := rem (((row 1 * 1103515245 + nI 12345).toUInt32 >>> ((nI 8).toUInt32 &&& Int32.toUInt32 31)).toInt32) (nI b)
def losF (V : Nat → Int32) (np nw : Nat) (row : Nat → Int32) : Nat → Int32 := dawnF np (wv V row nw) (if np = 0 then row else upd (drwF (drwF row)) (30 + 6 * tN (drwV row np) + 3) (drwV (drwF row) 3 - nI 1))
def sp_loose (V row kept tried bf fd pk bo so sh mv tr : Nat → Int32) (n : Int32) : Int32 × RS := if inn n (nI 1) (nI 40) then (if row 0 + n ≤ nI 9999 then (sumF (itN (fun _ r => losF V (tN (row 3)) (tN (row 8)) r) (tN n) row) 4 (tN (row 3)), sR V (itN (fun _ r => losF V (tN (row 3)) (tN (row 8)) r) (tN n) row) kept tried bf fd pk bo so sh mv tr) else er V row kept tried bf fd pk bo so sh mv tr (-1000000003) 3) else er V row kept tried bf fd pk bo so sh mv tr (-1000000001) 1
def sp_then (V row kept tried bf fd pk bo so sh mv tr : Nat → Int32) (n p what : Int32) : Int32 × RS := if inn n (nI 0) (nI 60) ∧ inn p 0 (row 3 - 1) ∧ inn what (nI 0) (nI 1) then (dwF V row (tN n) (30 + 6 * tN p + (4 + tN what)), sR V row kept tried bf fd pk bo so sh mv tr) else er V row kept tried bf fd pk bo so sh mv tr (-1000000001) 1
/-- one is hungrier behind n dawns -/
abbrev hgP (V row : Nat → Int32) (n p : Nat) : Prop := row (30 + 6 * p + 5) < dwF V row n (30 + 6 * p + 5)
abbrev uprP (V row : Nat → Int32) (n : Nat) : Prop := ∃ p, p < tN (row 3) ∧ hgP V row n p
def shrF (row : Nat → Int32) (n : Int32) : Nat → Int32
  | 0 => sumF row 4 (tN (row 3))
  | p + 1 => shrF row n p - (if n * eatF row p < shrF row n p then n * eatF row p else shrF row n p)
def shrG (row : Nat → Int32) (n : Int32) (p : Nat) : Int32 := if n * eatF row p < shrF row n p then n * eatF row p else shrF row n p
def sp_shares (V row kept tried bf fd pk bo so sh mv tr : Nat → Int32) (n what : Int32) : Int32 × RS := if inn n (nI 1) (nI 30) ∧ inn what (-1) (row 3 - nI 1) then (if 0 ≤ what then shrG row n (tN what) else shrF row n (tN (row 3)), sR V row kept tried bf fd pk bo so sh mv tr) else er V row kept tried bf fd pk bo so sh mv tr (-1000000001) 1


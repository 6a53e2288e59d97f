/-! What both do, over the reference's row of numbers (the spec's own words). -/
def tN (x : Int32) : Nat := x.toNatClampNeg
def whoF (row : Nat → Int32) (c : Int32) : Nat → Int32
  | 0 => 0
  | n + 1 => whoF row c n ||| (if row (30 + 6 * n + 2) = c then nI 1 <<< (nI n &&& 31) else nI 0)
def besF (row : Nat → Int32) (p : Nat) : Nat → Int32
  | 0 => -1
  | n + 1 => besF row p n + (if row (30 + 6 * n + 2) = row (30 + 6 * p + 2) then nI 1 else nI 0)
def sumW (row : Nat → Int32) (par : Int32) (p : Nat) (s : Int32) : Nat → Int32
  | 0 => s
  | n + 1 => sumW row par p s n + (if row (66 + 3 * n) = nI p ∧ (par >>> (nI n &&& 31)) &&& nI 1 = 0 then row (66 + 3 * n + 2) else nI 0)
def wS (V row : Nat → Int32) (nw p : Nat) : Int32 :=
  if nI p = V 18 then V 19 else
    if row (30 + 6 * p + 0) = nI 6 then sumW row (V 15) p (if nI p = V 16 then V 17 else nI 0) nw + row (30 + 6 * p + 1) else sumW row (V 15) p (if nI p = V 16 then V 17 else nI 0) nw
def rem (x y : Int32) : Int32 := x - x / y * y
def bendK (k : Nat) (v less m : Int32) : Int32 :=
  if k = 1 then less else if k = 4 then less + nI 1 else if k = 2 then nI 0 else if k = 5 then m / nI 2 else if k = 3 ∨ k = 6 then v + rem m (nI 3) else v
def eatK (k : Nat) (m : Int32) : Int32 := if k = 1 ∨ k = 4 then nI 1 else if k = 5 then nI 3 else if k = 6 then nI 2 + rem m (nI 2) else nI 2
/-- levels of the signs -/
def lvF (c : Int32) : Nat := if c = 124 then 0 else if c = 38 then 1 else if c = 60 ∨ c = 61 ∨ c = 62 then 2 else if c = 43 ∨ c = 45 then 3 else if c = 42 ∨ c = 47 ∨ c = 37 then 4 else 5
def bytF (b : Nat → Int32) (n k : Nat) : Int32 := if k < n then b k else -1
/-- digits from a place on, at most f of them: the place behind them, the number -/
def numF (b : Nat → Int32) (n : Nat) : Nat → Nat → Int32 → Nat × Int32
  | 0, k, v => (k, v)
  | f + 1, k, v => if inn (bytF b n k) 48 57 then numF b n f (k + 1) (nI 10 * v + bytF b n k - nI 48) else (k, v)
/-- the place of a byte among the names of a use, 3: none -/
def namF (u : Nat) (c : Int32) : Nat := if c = (if u = 0 then 119 else 98) then 0 else if c = (if u = 0 then 109 else 101) then 1 else if c = (if u = 0 then 100 else 109) then 2 else 3
/-- the reader of texts: level (5: a unit), whether it stands behind a part, how many are open, the place, the steps so far -/
def prs (b : Nat → Int32) (n u : Nat) : Nat → Nat → Bool → Nat → Nat → List Int32 → Bool × Nat × List Int32
  | 0, _, _, _, k, code => (false, k, code)
  | f + 1, lvl, false, op, k, code =>
    if lvl = 5 then
      if inn (bytF b n k) 48 57 then (true, (numF b n 4 k 0).1, code ++ [(numF b n 4 k 0).2])
      else if bytF b n k = 33 then
        if op = 5 then (false, k, code) else
          ((prs b n u f 5 false (op + 1) (k + 1) code).1, (prs b n u f 5 false (op + 1) (k + 1) code).2.1, (prs b n u f 5 false (op + 1) (k + 1) code).2.2 ++ [-33])
      else if bytF b n k = 40 then
        if op = 5 then (false, k, code) else
          if (prs b n u f 0 false (op + 1) (k + 1) code).1 = true ∧ bytF b n (prs b n u f 0 false (op + 1) (k + 1) code).2.1 = 41 then (true, (prs b n u f 0 false (op + 1) (k + 1) code).2.1 + 1, (prs b n u f 0 false (op + 1) (k + 1) code).2.2)
          else (false, (prs b n u f 0 false (op + 1) (k + 1) code).2)
      else if namF u (bytF b n k) < 3 then (true, k + 1, code ++ [-1 - nI (namF u (bytF b n k))])
      else (false, k, code)
    else
      if (prs b n u f (lvl + 1) false op k code).1 = true then prs b n u f lvl true op (prs b n u f (lvl + 1) false op k code).2.1 (prs b n u f (lvl + 1) false op k code).2.2
      else prs b n u f (lvl + 1) false op k code
  | f + 1, lvl, true, op, k, code =>
    if lvF (bytF b n k) = lvl then
      if (prs b n u f (lvl + 1) false op (k + 1) code).1 = true then
        if lvl = 2 then (true, (prs b n u f (lvl + 1) false op (k + 1) code).2.1, (prs b n u f (lvl + 1) false op (k + 1) code).2.2 ++ [-(bytF b n k)])
        else prs b n u f lvl true op (prs b n u f (lvl + 1) false op (k + 1) code).2.1 ((prs b n u f (lvl + 1) false op (k + 1) code).2.2 ++ [-(bytF b n k)])
      else prs b n u f (lvl + 1) false op (k + 1) code
    else (true, k, code)
def joinF (sg a b : Int32) : Int32 :=
  if sg = 124 then bI (a ≠ 0 ∨ b ≠ 0) else if sg = 38 then bI (a ≠ 0 ∧ b ≠ 0) else if sg = 60 then bI (a < b) else if sg = 61 then bI (a = b) else if sg = 62 then bI (b < a)
  else if sg = 43 then a + b else if sg = 45 then a - b else if sg = 42 then a * b else if sg = 47 then (if b = 0 then 0 else a / b) else if sg = 37 then (if b = 0 then 0 else rem a b) else 0
/-- one step of the law over a stack; none: it lacks numbers -/
def stF (a b c s : Int32) : List Int32 → Option (List Int32)
  | st => if -3 ≤ s then some ((if 0 ≤ s then s else if s = -1 then a else if s = -2 then b else c) :: st)
    else if s = -33 then (match st with | x :: r => some (bI (x = 0) :: r) | _ => none)
    else (match st with | y :: x :: r => some (joinF (-s) x y :: r) | _ => none)
def exF (a b c : Int32) : List Int32 → List Int32 → Option (List Int32)
  | [], st => some st
  | s :: r, st => (stF a b c s st).bind (exF a b c r)
def topF : Option (List Int32) → Int32
  | some (x :: _) => x
  | _ => 0
abbrev txF (row : Nat → Int32) (u : Nat) : Nat → Int32 := fun k => row (160 + 50 * u + k)
def readF (b : Nat → Int32) (n u : Nat) : Bool × Nat × List Int32 := prs b n u 1000 0 false 0 0 []
def lawF (row : Nat → Int32) (u : Nat) (a b c : Int32) : Int32 :=
  hld (if 0 ≤ row (6 + u) then topF (exF a b c (readF (txF row u) (tN (row (6 + u))) u).2.2 []) else if u = 0 then a / nI 2 else a + nI 1) (nI 0) (if u = 0 then nI 9 else nI 99)
def txtOK (row : Nat → Int32) (u : Nat) : Prop := row (6 + u) = -1 ∨ ∃ n : Nat, n ≤ 50 ∧ row (6 + u) = nI n ∧ (readF (txF row u) n u).1 = true ∧ (readF (txF row u) n u).2.1 = n
def lessF (v bs : Int32) : Int32 := if 0 < bs ∧ 0 < v then v - nI 1 else v
def bendF (row : Nat → Int32) (np : Nat) (w : Int32) (p : Nat) : Int32 :=
  bendK (tN (row (30 + 6 * p + 0))) (lawF row 0 w (row (30 + 6 * p + 1)) (row 0)) (lessF (lawF row 0 w (row (30 + 6 * p + 1)) (row 0)) (besF row p np)) (row (30 + 6 * p + 1))
def eatF (row : Nat → Int32) (p : Nat) : Int32 := eatK (tN (row (30 + 6 * p + 0))) (row (30 + 6 * p + 1))
def pickV (row : Nat → Int32) (np : Nat) (w : Int32) (p : Nat) : Int32 :=
  let a := tN (row (30 + 6 * p + 2))
  let v := if row (20 + a) ≤ bendF row np w p then lawF row 1 (bendF row np w p) (row (10 + a)) (row (30 + 6 * p + 1)) else nI 0
  if row (10 + a) < v then row (10 + a) else v
def pickF (row : Nat → Int32) (np : Nat) (w : Int32) (p : Nat) : Nat → Int32 :=
  upd (upd row (10 + tN (row (30 + 6 * p + 2))) (row (10 + tN (row (30 + 6 * p + 2))) - pickV row np w p)) (30 + 6 * p + 4) (hld (row (30 + 6 * p + 4) + pickV row np w p) (nI 0) (nI 9999))
def goF (row : Nat → Int32) (p : Nat) : Nat → Int32 :=
  if inn (row (30 + 6 * p + 2) + row (30 + 6 * p + 3)) 0 (row 2 - 1) then upd row (30 + 6 * p + 2) (row (30 + 6 * p + 2) + row (30 + 6 * p + 3)) else upd row (30 + 6 * p + 3) (-(row (30 + 6 * p + 3)))
def etF (row : Nat → Int32) (p : Nat) : Nat → Int32 :=
  if eatF row p ≤ row (30 + 6 * p + 4) then upd row (30 + 6 * p + 4) (row (30 + 6 * p + 4) - eatF row p)
  else upd (upd row (30 + 6 * p + 4) (nI 0)) (30 + 6 * p + 5) (hld (row (30 + 6 * p + 5) + nI 1) (nI 0) (nI 9999))
def pksF (np : Nat) (w : Nat → Int32) (row : Nat → Int32) (n : Nat) : Nat → Int32 := itN (fun p r => pickF r np (w p) p) n row
def dawnF (np : Nat) (w : Nat → Int32) (row : Nat → Int32) : Nat → Int32 :=
  let r3 := itN (fun p r => etF r p) np (itN (fun p r => goF r p) np (pksF np w row np))
  upd r3 0 (r3 0 + nI 1)
def dawnsF (np : Nat) (w : Nat → Int32) (row : Nat → Int32) (n : Nat) : Nat → Int32 := itN (fun _ r => dawnF np w r) n row
def sumF (row : Nat → Int32) (j : Nat) : Nat → Int32
  | 0 => 0
  | n + 1 => sumF row j n + row (30 + 6 * n + j)
def IvP (row : Nat → Int32) (nc p : Nat) : Prop := (∃ k, k ≤ 6 ∧ row (30 + 6 * p + 0) = nI k) ∧ (∃ m, m ≤ 9 ∧ row (30 + 6 * p + 1) = nI m) ∧ (∃ a, a < nc ∧ row (30 + 6 * p + 2) = nI a) ∧ (row (30 + 6 * p + 3) = -1 ∨ row (30 + 6 * p + 3) = 0 ∨ row (30 + 6 * p + 3) = 1) ∧ (∃ b, b ≤ 9999 ∧ row (30 + 6 * p + 4) = nI b) ∧ (∃ h, h ≤ 9999 ∧ row (30 + 6 * p + 5) = nI h)
def Iv (row : Nat → Int32) (nc np nw : Nat) : Prop := (row 2 = nI nc ∧ 2 ≤ nc ∧ nc ≤ 10) ∧ (row 3 = nI np ∧ np ≤ 6) ∧ (row 8 = nI nw ∧ nw ≤ 8) ∧ (∀ p, p < np → IvP row nc p) ∧ (∀ c, c < nc → ∃ e, e ≤ 999 ∧ row (10 + c) = nI e) ∧ (∀ c, c < nc → ∃ w, w ≤ 9 ∧ row (20 + c) = nI w) ∧ txtOK row 0 ∧ txtOK row 1
/-- the reader's own numbers may change -/
def VE (V1 V : Nat → Int32) : Prop := ∀ k, k < 7 ∨ 14 < k → V1 k = V k
theorem VE.rf {V : Nat → Int32} : VE V V := fun _ _ => rfl
theorem VE.tr {V1 V2 V3 : Nat → Int32} (h : VE V1 V2) (g : VE V2 V3) : VE V1 V3 := fun k hk => (h k hk).trans (g k hk)
theorem inn_row {x r : Int32} {n : Nat} (h : inn x 0 (r - 1)) (e : r = nI n) (hn : n < 2 ^ 30) : ∃ j, j < n ∧ x = nI j := by
  subst e
  obtain ⟨h1, h2⟩ := h
  obtain ⟨j, hj, rfl⟩ := nI_of (x := x) (lnl h1)
  refine ⟨j, ?_, rfl⟩
  have h3 := pk_sub_toInt (a := n) (b := 1) hn (by omega)
  rw [Int32.le_iff_toInt_le, show (1 : Int32) = nI 1 from rfl, h3, nI_toInt hj] at h2
  omega
theorem inn_lit {x : Int32} {a b : Nat} (h : inn x (nI a) (nI b)) (hb : a ≤ b ∧ b < 2 ^ 31) : ∃ j, a ≤ j ∧ j ≤ b ∧ x = nI j := by
  obtain ⟨h1, h2⟩ := h
  have h0 : ¬ x < 0 := by
    rw [Int32.le_iff_toInt_le, nI_toInt (by omega)] at h1
    rw [Int32.lt_iff_toInt_lt]
    show ¬ x.toInt < 0
    omega
  obtain ⟨j, hj, rfl⟩ := nI_of (x := x) h0
  rw [nI_leI (by omega) hj] at h1
  rw [nI_leI hj (by omega)] at h2
  exact ⟨j, h1, h2, rfl⟩
theorem tN_nI {n : Nat} (h : n < 2 ^ 31) : tN (nI n) = n := nI_clamp h


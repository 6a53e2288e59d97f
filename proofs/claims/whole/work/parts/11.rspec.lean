/-! What each call answers and does: the spec of the public calls over the reference's state. -/
/-- the wrongs -/
def Iw (row : Nat → Int32) (np nw : Nat) : Prop := ∀ i, i < nw → (∃ b, b < np ∧ row (66 + 3 * i) = nI b) ∧ (∃ t, t < np ∧ row (66 + 3 * i + 1) = nI t) ∧ (∃ w, 1 ≤ w ∧ w ≤ 20 ∧ row (66 + 3 * i + 2) = nI w)
def RKx (row : Nat → Int32) (nc np nw d nt nq : Nat) : Prop := Iv row nc np nw ∧ Iw row np nw ∧ (row 0 = nI d ∧ d ≤ 9999) ∧ (row 4 = nI nt ∧ nt ≤ 50) ∧ (row 5 = nI nq ∧ nq ≤ 20) ∧ ∀ k, k < nt → ∃ b, b ≤ 255 ∧ row (90 + k) = nI b
def RK (row : Nat → Int32) : Prop := ∃ nc np nw d nt nq, RKx row nc np nw d nt nq
/-- the reference's state between calls, behind at most M of them -/
def RI (M : Nat) (σ : RS) : Prop := match σ with
  | (V, row, kept, tried, bf, fd, pk, bo, so, sh, mv, tr) => RK row ∧ (∃ im, im ≤ M ∧ V 5 = nI im ∧ V 4 = bI (0 < im) ∧ (0 < im → RK kept)) ∧ (V 15 = 0 ∧ V 16 = -1 ∧ V 18 = -1) ∧ (∀ s, s < 4 → (bo s = nI 0 ∨ bo s = nI 8 ∨ bo s = nI 16 ∨ bo s = nI 32) ∧ ∃ n, n ≤ 40 ∧ so s = nI n) ∧ ∃ t, t ≤ 40 ∧ V 26 = nI t
/-- alike in what later calls can see -/
def EQ (σ τ : RS) : Prop := match σ, τ with
  | (V, row, kept, _, _, fd, _, bo, so, sh, _, tr), (V', row', kept', _, _, fd', _, bo', so', sh', _, tr') => row = row' ∧ kept = kept' ∧ fd = fd' ∧ bo = bo' ∧ so = so' ∧ sh = sh' ∧ tr = tr' ∧ V 4 = V' 4 ∧ V 5 = V' 5 ∧ V 15 = V' 15 ∧ V 16 = V' 16 ∧ V 18 = V' 18 ∧ V 26 = V' 26
theorem EQ.rf {σ : RS} : EQ σ σ := ⟨rfl, rfl, rfl, rfl, rfl, rfl, rfl, rfl, rfl, rfl, rfl, rfl, rfl⟩
theorem EQ.ve {V V1 row kept tried bf fd pk bo so sh mv tr tried' bf' pk' mv' : Nat → Int32} (h : VE V1 V) : EQ (sR V1 row kept tried' bf' fd pk' bo so sh mv' tr) (sR V row kept tried bf fd pk bo so sh mv tr) := ⟨rfl, rfl, rfl, rfl, rfl, rfl, rfl, h 4 (by omega), h 5 (by omega), h 15 (by omega), h 16 (by omega), h 18 (by omega), h 26 (by omega)⟩
theorem RI.eq {M : Nat} {σ τ : RS} (h : RI M τ) (e : EQ σ τ) : RI M σ := by
  obtain ⟨V, row, kept, tried, bf, fd, pk, bo, so, sh, mv, tr⟩ := σ
  obtain ⟨V', row', kept', tried', bf', fd', pk', bo', so', sh', mv', tr'⟩ := τ
  obtain ⟨rfl, rfl, rfl, rfl, rfl, rfl, rfl, h4, h5, h15, h16, h18, h26⟩ := e
  obtain ⟨g1, g2, g3, g4, g5⟩ := h
  refine ⟨g1, ?_, ?_, g4, ?_⟩
  · rw [h4, h5]; exact g2
  · rw [h15, h16, h18]; exact g3
  · rw [h26]; exact g5
def er (V row kept tried bf fd pk bo so sh mv tr : Nat → Int32) (e : Int32) (k : Nat) : Int32 × RS := (e, sR V row kept tried bf (ue fd k) pk bo so sh mv tr)
def fillF (row : Nat → Int32) (n : Nat) : Nat → Int32 := itN (fun c r => upd (upd r (10 + c) (nI 20)) (20 + c) (nI 1)) n row
def sp_field (V row kept tried bf fd pk bo so sh mv tr : Nat → Int32) (n : Int32) : Int32 × RS := if inn n (nI 2) (nI 10) then (if row 3 ≤ 0 then (row 2, sR V (upd (fillF row 10) 2 n) kept tried bf fd pk bo so sh mv tr) else er V row kept tried bf fd pk bo so sh mv tr (-1000000003) 3) else er V row kept tried bf fd pk bo so sh mv tr (-1000000001) 1
def sp_lay (V row kept tried bf fd pk bo so sh mv tr : Nat → Int32) (c what v : Int32) : Int32 × RS := if inn c 0 (row 2 - 1) ∧ inn what (nI 0) (nI 1) ∧ inn v (nI 0) (if what = 0 then nI 999 else nI 9) then (row ((if what = 0 then 10 else 20) + tN c), sR V (upd row ((if what = 0 then 10 else 20) + tN c) v) kept tried bf fd pk bo so sh mv tr) else er V row kept tried bf fd pk bo so sh mv tr (-1000000001) 1
def sp_ofCell (V row kept tried bf fd pk bo so sh mv tr : Nat → Int32) (c what : Int32) : Int32 × RS := if inn c 0 (row 2 - 1) ∧ inn what (nI 0) (nI 2) then (if what = 0 then row (10 + tN c) else if what = nI 1 then row (20 + tN c) else whoF row c (tN (row 3)), sR V row kept tried bf fd pk bo so sh mv tr) else er V row kept tried bf fd pk bo so sh mv tr (-1000000001) 1
def persF (row : Nat → Int32) (p : Nat) (km c : Int32) : Nat → Int32 := upd (upd (upd (upd (upd (upd (upd row (30 + 6 * p + 0) (km / nI 10)) (30 + 6 * p + 1) (rem km (nI 10))) (30 + 6 * p + 2) c) (30 + 6 * p + 3) (nI 0)) (30 + 6 * p + 4) (nI 0)) (30 + 6 * p + 5) (nI 0)) 3 (row 3 + nI 1)
def sp_person (V row kept tried bf fd pk bo so sh mv tr : Nat → Int32) (km c : Int32) : Int32 × RS := if inn km (nI 0) (nI 69) ∧ inn c 0 (row 2 - 1) then (if row 3 = nI 6 then er V row kept tried bf fd pk bo so sh mv tr (-1000000004) 4 else (row 3, sR V (persF row (tN (row 3)) km c) kept tried bf fd pk bo so sh mv tr)) else er V row kept tried bf fd pk bo so sh mv tr (-1000000001) 1
def ofPF (V row : Nat → Int32) (p w : Nat) : Int32 := if w = 6 then wS V row (tN (row 8)) p else if w = 7 then bendF row (tN (row 3)) (wS V row (tN (row 8)) p) p else if w = 8 then eatF row p else row (30 + 6 * p + w)
def sp_ofPerson (V row kept tried bf fd pk bo so sh mv tr : Nat → Int32) (p what : Int32) : Int32 × RS := if inn p 0 (row 3 - 1) ∧ inn what (nI 0) (nI 8) then (ofPF V row (tN p) (tN what), sR V row kept tried bf fd pk bo so sh mv tr) else er V row kept tried bf fd pk bo so sh mv tr (-1000000001) 1
abbrev chOK (row : Nat → Int32) (what v : Int32) : Prop := (what = 0 ∧ inn v 0 (row 2 - 1)) ∨ (what = nI 1 ∧ inn v (-1) (nI 1)) ∨ (what = nI 2 ∧ inn v (nI 0) (nI 9999))
def sp_change (V row kept tried bf fd pk bo so sh mv tr : Nat → Int32) (p what v : Int32) : Int32 × RS := if inn p 0 (row 3 - 1) ∧ chOK row what v then (row (30 + 6 * tN p + 2 + tN what), sR V (upd row (30 + 6 * tN p + 2 + tN what) v) kept tried bf fd pk bo so sh mv tr) else er V row kept tried bf fd pk bo so sh mv tr (-1000000001) 1
def sp_become (V row kept tried bf fd pk bo so sh mv tr : Nat → Int32) (p km : Int32) : Int32 × RS := if inn p 0 (row 3 - 1) ∧ inn km (nI 0) (nI 69) then (row (30 + 6 * tN p + 0), sR V (upd (upd row (30 + 6 * tN p + 1) (rem km (nI 10))) (30 + 6 * tN p + 0) (km / nI 10)) kept tried bf fd pk bo so sh mv tr) else er V row kept tried bf fd pk bo so sh mv tr (-1000000001) 1
abbrev undF (k a : Nat) : Prop := a = k ∨ (k ≠ 0 ∧ a = 0) ∨ (4 ≤ k ∧ a + 3 = k)
def sp_wrong (V row kept tried bf fd pk bo so sh mv tr : Nat → Int32) (b t w : Int32) : Int32 × RS := if inn b 0 (row 3 - 1) ∧ inn t 0 (row 3 - 1) ∧ ¬ b = t ∧ inn w (nI 1) (nI 20) then (if row 8 = nI 8 then er V row kept tried bf fd pk bo so sh mv tr (-1000000004) 4 else (row 8, sR V (upd (upd (upd (upd row (66 + 3 * tN (row 8)) b) (66 + 3 * tN (row 8) + 1) t) (66 + 3 * tN (row 8) + 2) w) 8 (row 8 + nI 1)) kept tried bf fd pk bo so sh mv tr)) else er V row kept tried bf fd pk bo so sh mv tr (-1000000001) 1
def sp_ofWrong (V row kept tried bf fd pk bo so sh mv tr : Nat → Int32) (w what : Int32) : Int32 × RS := if inn w 0 (row 8 - 1) ∧ inn what (nI 0) (nI 2) then (row (66 + 3 * tN w + tN what), sR V row kept tried bf fd pk bo so sh mv tr) else er V row kept tried bf fd pk bo so sh mv tr (-1000000001) 1
def forgF (row : Nat → Int32) (w n : Nat) : Nat → Int32 := fun k => if 66 + 3 * w ≤ k ∧ k < 66 + 3 * (n - 1) then row (k + 3) else if k = 8 then row 8 - nI 1 else row k
def sp_forgive (V row kept tried bf fd pk bo so sh mv tr : Nat → Int32) (w : Int32) : Int32 × RS := if inn w 0 (row 8 - 1) then (row 8 - nI 1, sR V (forgF row (tN w) (tN (row 8))) kept tried bf fd pk bo so sh mv tr) else er V row kept tried bf fd pk bo so sh mv tr (-1000000001) 1
def sp_borrow (V row kept tried bf fd pk bo so sh mv tr : Nat → Int32) (w b : Int32) : Int32 × RS := if inn w 0 (row 8 - 1) ∧ inn b 0 (row 3 - 1) ∧ ¬ row (66 + 3 * tN w + 1) = b then (row (66 + 3 * tN w), sR V (upd row (66 + 3 * tN w) b) kept tried bf fd pk bo so sh mv tr) else er V row kept tried bf fd pk bo so sh mv tr (-1000000001) 1


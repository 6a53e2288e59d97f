/-! The class's fields: cells, people, dawns. -/
theorem va_s {X : Nat → Nat → Int32} {k : Nat} {g : Nat → Int32} : va_up X k g k = g := by simp [va_up]
theorem va_n {X : Nat → Nat → Int32} {k j : Nat} {g : Nat → Int32} (h : ¬ j = k) : va_up X k g j = X j := by simp [va_up, h]
/-- a field of the class holds what the reference's row says, and what weighs -/
def CF (S : Nat → Int32) (X : Nat → Nat → Int32) (f : Nat) (row w : Nat → Int32) (nc np : Nat) : Prop :=
  (S (5 + 3 * f) = row 2) ∧ (S (6 + 3 * f) = row 0) ∧ (S (7 + 3 * f) = row 3) ∧ (∀ c, c < nc → X (36 + 10 * f) c = row (10 + c)) ∧ (∀ c, c < nc → X (37 + 10 * f) c = row (20 + c)) ∧ (∀ j, j < 6 → ∀ p, p < np → X (38 + 10 * f + j) p = row (30 + 6 * p + j)) ∧ (∀ p, p < np → X (44 + 10 * f) p = w p)
theorem CF.cells {S : Nat → Int32} {X : Nat → Nat → Int32} {f : Nat} {row w : Nat → Int32} {nc np : Nat} (h : CF S X f row w nc np) : S (5 + 3 * f) = row 2 := h.1
theorem CF.dawn {S : Nat → Int32} {X : Nat → Nat → Int32} {f : Nat} {row w : Nat → Int32} {nc np : Nat} (h : CF S X f row w nc np) : S (6 + 3 * f) = row 0 := h.2.1
theorem CF.people {S : Nat → Int32} {X : Nat → Nat → Int32} {f : Nat} {row w : Nat → Int32} {nc np : Nat} (h : CF S X f row w nc np) : S (7 + 3 * f) = row 3 := h.2.2.1
theorem CF.ears {S : Nat → Int32} {X : Nat → Nat → Int32} {f : Nat} {row w : Nat → Int32} {nc np : Nat} (h : CF S X f row w nc np) : ∀ c, c < nc → X (36 + 10 * f) c = row (10 + c) := h.2.2.2.1
theorem CF.low {S : Nat → Int32} {X : Nat → Nat → Int32} {f : Nat} {row w : Nat → Int32} {nc np : Nat} (h : CF S X f row w nc np) : ∀ c, c < nc → X (37 + 10 * f) c = row (20 + c) := h.2.2.2.2.1
theorem CF.per {S : Nat → Int32} {X : Nat → Nat → Int32} {f : Nat} {row w : Nat → Int32} {nc np : Nat} (h : CF S X f row w nc np) : ∀ j, j < 6 → ∀ p, p < np → X (38 + 10 * f + j) p = row (30 + 6 * p + j) := h.2.2.2.2.2.1
theorem CF.weighs {S : Nat → Int32} {X : Nat → Nat → Int32} {f : Nat} {row w : Nat → Int32} {nc np : Nat} (h : CF S X f row w nc np) : ∀ p, p < np → X (44 + 10 * f) p = w p := h.2.2.2.2.2.2
theorem CF.oth {S : Nat → Int32} {X : Nat → Nat → Int32} {f : Nat} {row w : Nat → Int32} {nc np k : Nat} {g : Nat → Int32} (h : CF S X f row w nc np) (hk : k < 36 + 10 * f ∨ 45 + 10 * f ≤ k) : CF S (va_up X k g) f row w nc np := by
  refine ⟨h.cells, h.dawn, h.people, fun c hc => ?_, fun c hc => ?_, fun j hj p hp => ?_, fun p hp => ?_⟩
  · rw [va_n (by omega)]; exact h.ears c hc
  · rw [va_n (by omega)]; exact h.low c hc
  · rw [va_n (by omega)]; exact h.per j hj p hp
  · rw [va_n (by omega)]; exact h.weighs p hp
theorem CF.setE {S : Nat → Int32} {X : Nat → Nat → Int32} {f : Nat} {row w : Nat → Int32} {nc np : Nat} (h : CF S X f row w nc np) (hc10 : nc ≤ 10) (a : Nat) (ha : a < nc) (e : Int32) : CF S (va_up X (36 + 10 * f) (upd (X (36 + 10 * f)) a e)) f (upd row (10 + a) e) w nc np := by
  refine ⟨?_, ?_, ?_, fun c hc => ?_, fun c hc => ?_, fun j hj p hp => ?_, fun p hp => ?_⟩
  · rw [pk_un (by omega)]; exact h.cells
  · rw [pk_un (by omega)]; exact h.dawn
  · rw [pk_un (by omega)]; exact h.people
  · rw [va_s]
    by_cases ec : c = a
    · subst ec; rw [pk_us, pk_us]
    · rw [pk_un ec, pk_un (by omega)]; exact h.ears c hc
  · rw [va_n (by omega), pk_un (by omega)]; exact h.low c hc
  · rw [va_n (by omega), pk_un (by omega)]; exact h.per j hj p hp
  · rw [va_n (by omega)]; exact h.weighs p hp
theorem CF.setP {S : Nat → Int32} {X : Nat → Nat → Int32} {f : Nat} {row w : Nat → Int32} {nc np : Nat} (h : CF S X f row w nc np) (hc10 : nc ≤ 10) (i : Nat) (hi : i < 6) (p : Nat) (v : Int32) : CF S (va_up X (38 + 10 * f + i) (upd (X (38 + 10 * f + i)) p v)) f (upd row (30 + 6 * p + i) v) w nc np := by
  refine ⟨?_, ?_, ?_, fun c hc => ?_, fun c hc => ?_, fun j hj o ho => ?_, fun o ho => ?_⟩
  · rw [pk_un (by omega)]; exact h.cells
  · rw [pk_un (by omega)]; exact h.dawn
  · rw [pk_un (by omega)]; exact h.people
  · rw [va_n (by omega), pk_un (by omega)]; exact h.ears c hc
  · rw [va_n (by omega), pk_un (by omega)]; exact h.low c hc
  · by_cases ej : j = i
    · subst ej
      rw [va_s]
      by_cases eo : o = p
      · subst eo; rw [pk_us, pk_us]
      · rw [pk_un eo, pk_un (by omega)]; exact h.per j hj o ho
    · rw [va_n (by omega), pk_un (by omega)]; exact h.per j hj o ho
  · rw [va_n (by omega)]; exact h.weighs o ho
theorem CLaw.oth {S : Nat → Int32} {X : Nat → Nat → Int32} {lam : Nat} {row : Nat → Int32} {u k : Nat} {g : Nat → Int32} (h : CLaw S X lam row u) (hk : ¬ 76 + lam = k) : CLaw S (va_up X k g) lam row u := by
  unfold CLaw
  rw [va_n hk]; exact h
theorem who_bes {row : Nat → Int32} {np p : Nat} (hp : p < np) (hn : np ≤ 6) : whoF row (row (30 + 6 * p + 2)) np = nI 1 <<< (nI p &&& 31) ↔ ¬ 0 < besF row p np := by
  have key : ∀ c0 c1 c2 c3 c4 c5 : Bool, ∀ P Q : Fin 7, P.val < Q.val →
      ((List.range Q.val).foldl (fun (a : Int32) i => a ||| (if (if i = P.val then true else [c0, c1, c2, c3, c4, c5].getD i false) = true then nI 1 <<< (nI i &&& 31) else nI 0)) 0 = nI 1 <<< (nI P.val &&& 31) ↔ ¬ 0 < (List.range Q.val).foldl (fun (a : Int32) i => a + (if (if i = P.val then true else [c0, c1, c2, c3, c4, c5].getD i false) = true then nI 1 else nI 0)) (-1)) := by
    decide +kernel
  have hw : ∀ n (d : Nat → Bool), (∀ i, i < n → (d i = true ↔ row (30 + 6 * i + 2) = row (30 + 6 * p + 2))) → whoF row (row (30 + 6 * p + 2)) n = (List.range n).foldl (fun (a : Int32) i => a ||| (if d i = true then nI 1 <<< (nI i &&& 31) else nI 0)) 0 := by
    intro n d
    induction n with
    | zero => intro _; rfl
    | succ n ih =>
      intro h
      rw [whoF, ih (fun i hi => h i (by omega)), List.range_succ, List.foldl_append]
      show _ = _ ||| _
      congr 1
      by_cases e : row (30 + 6 * n + 2) = row (30 + 6 * p + 2)
      · rw [if_pos e, if_pos ((h n (by omega)).2 e)]
      · rw [if_neg e, if_neg (fun g => e ((h n (by omega)).1 g))]
  have hb : ∀ n (d : Nat → Bool), (∀ i, i < n → (d i = true ↔ row (30 + 6 * i + 2) = row (30 + 6 * p + 2))) → besF row p n = (List.range n).foldl (fun (a : Int32) i => a + (if d i = true then nI 1 else nI 0)) (-1) := by
    intro n d
    induction n with
    | zero => intro _; rfl
    | succ n ih =>
      intro h
      rw [besF, ih (fun i hi => h i (by omega)), List.range_succ, List.foldl_append]
      show _ = _ + _
      congr 1
      by_cases e : row (30 + 6 * n + 2) = row (30 + 6 * p + 2)
      · rw [if_pos e, if_pos ((h n (by omega)).2 e)]
      · rw [if_neg e, if_neg (fun g => e ((h n (by omega)).1 g))]
  let D : Nat → Bool := fun i => decide (row (30 + 6 * i + 2) = row (30 + 6 * p + 2))
  have hD : ∀ i, i < np → ((if i = p then true else [D 0, D 1, D 2, D 3, D 4, D 5].getD i false) = true ↔ row (30 + 6 * i + 2) = row (30 + 6 * p + 2)) := by
    intro i hi
    by_cases e : i = p
    · subst e; simp
    · rw [if_neg e]
      rcases (show i = 0 ∨ i = 1 ∨ i = 2 ∨ i = 3 ∨ i = 4 ∨ i = 5 by omega) with rfl | rfl | rfl | rfl | rfl | rfl <;> exact decide_eq_true_iff
  rw [hw np _ hD, hb np _ hD]
  exact key (D 0) (D 1) (D 2) (D 3) (D 4) (D 5) ⟨p, by omega⟩ ⟨np, by omega⟩ hp
theorem less_z {v z bs : Int32} {t : Nat} (hv : v = nI t) (ht : t ≤ 99) (hz : z = 0 ↔ ¬ 0 < bs) : (if z = 0 then v else if nI 0 < v - nI 1 then v - nI 1 else nI 0) = lessF v bs := by
  have key : ∀ t : Fin 100, (if nI 0 < nI t.val - nI 1 then nI t.val - nI 1 else nI 0) = (if 0 < nI t.val then nI t.val - nI 1 else nI t.val) := by decide +kernel
  have k1 := key ⟨t, by omega⟩
  unfold lessF
  by_cases h : z = 0
  · rw [if_pos h, if_neg (c := 0 < bs ∧ 0 < v) (fun g => hz.1 h g.1)]
  · have hb : 0 < bs := Classical.byContradiction (fun g => h (hz.2 g))
    rw [if_neg h, hv]
    rw [k1]
    by_cases h0 : 0 < nI t
    · rw [if_pos h0, if_pos (c := 0 < bs ∧ 0 < nI t) ⟨hb, h0⟩]
    · rw [if_neg h0, if_neg (c := 0 < bs ∧ 0 < nI t) (fun g => h0 g.2)]


/-! The reference's leaves. -/
def bI (p : Prop) [Decidable p] : Int32 := if p then 1 else 0
theorem bI_f {p : Prop} [Decidable p] (h : bI p = 0) : ¬ p := fun hp => by simp [bI, hp] at h
theorem bI_t {p : Prop} [Decidable p] (h : ¬ bI p = 0) : p := by
  by_cases hp : p
  · exact hp
  · simp [bI, hp] at h
theorem bI_01 (p : Prop) [Decidable p] : bI p = 0 ∨ bI p = 1 := by
  by_cases hp : p <;> simp [bI, hp]
theorem bI1 {p : Prop} [Decidable p] (h : p) : (1 : Int32) = bI p := by simp [bI, h]
theorem bI0 {p : Prop} [Decidable p] (h : ¬ p) : (0 : Int32) = bI p := by simp [bI, h]
/-- a value is between two -/
abbrev inn (v a b : Int32) : Prop := a ≤ v ∧ v ≤ b
def ue (f : Nat → Int32) (k : Nat) : Nat → Int32 := upd f k (f k + 1)
theorem nlt {a b : Int32} (h : ¬ a < b) : b ≤ a := by
  rw [Int32.le_iff_toInt_le]; rw [Int32.lt_iff_toInt_lt] at h; omega
theorem ltn {a b : Int32} (h : a < b) : ¬ b ≤ a := by
  rw [Int32.le_iff_toInt_le]; rw [Int32.lt_iff_toInt_lt] at h; omega
theorem nle {a b : Int32} (h : ¬ a ≤ b) : b < a := by
  rw [Int32.lt_iff_toInt_lt]; rw [Int32.le_iff_toInt_le] at h; omega
theorem lnl {a b : Int32} (h : b ≤ a) : ¬ a < b := by
  rw [Int32.lt_iff_toInt_lt]; rw [Int32.le_iff_toInt_le] at h; omega
/-- held within two numbers -/
def hld (v a b : Int32) : Int32 := if v < a then a else if b < v then b else v
def itN {α : Type} (f : Nat → α → α) : Nat → α → α
  | 0, x => x
  | n + 1, x => f n (itN f n x)
/-- a world's row is only what stands below its length -/
theorem cell_ext {cA : ClassId} {n : Nat} {f g : Nat → Int32} (h : ∀ j, j < n → f j = g j) : vp_cell cA (n, .inl f) = vp_cell cA (n, .inl g) := by
  show arrV cA n (fun j => .int (f j)) = arrV cA n (fun j => .int (g j))
  unfold arrV
  congr 1
  congr 1
  funext j
  exact congrArg Value.int (h j.val j.isLt)
theorem upd_fill {f g : Nat → Int32} {i : Nat} (h : ∀ j, j < i → g j = f j) : ∀ j, j < i + 1 → upd g i (f i) j = f j := by
  intro j hj
  by_cases e : j = i
  · subst e; simp [upd]
  · simp [upd, e]; exact h j (by omega)

theorem wR_adr {cI : ClassId} {o : Nat} {q : Nat → Nat} {σ τ : RS} {k : Nat} {x : Nat × va_E} (h : (wR cI o q σ)[k]? = some x) : ∃ y, (wR cI o q τ)[k]? = some y ∧ y.1 = x.1 := by
  match k, h with
  | 0, h | 1, h | 2, h | 3, h | 4, h | 5, h | 6, h | 7, h | 8, h | 9, h | 10, h | 11, h => cases h; exact ⟨_, rfl, rfl⟩
  | n + 12, h => cases h

theorem re_row {p : Program} {l : Launch} {e : Env} {R : Room} {s : State} {m : MethodId} {args : Array Value} {below : List Frame} {meth : Method} {c : Code} {Q : State → Prop} {nL : Nat} {D : va_G} {A : Nat → Prop} {pc : Nat} {L : List (Nat × Value)} {st : List Value} {cI : ClassId} {o : Nat} {q : Nat → Nat} {V row kept tried bf fd pk bo so sh mv tr : Nat → Int32} (g : Nat → Int32) (h : ∀ j, j < 260 → row j = g j) (kk : JJ p l e R s m args below meth c Q nL D A (wR cI o q) (sR V g kept tried bf fd pk bo so sh mv tr) pc L st) : JJ p l e R s m args below meth c Q nL D A (wR cI o q) (sR V row kept tried bf fd pk bo so sh mv tr) pc L st := by
  intro H locs ls hP hD hS hl
  refine kk H locs ls (fun k w hk => ?_) ⟨fun i j x y hx hy hxy => ?_, fun k w hk => ?_⟩ hS hl
  · by_cases e : k = 1
    · subst e
      cases hk
      have := hP 1 _ rfl
      show H[q 0]? = some (vp_cell _ _)
      rw [← cell_ext h]
      exact this
    · refine hP k w ?_
      rw [← hk]
      match k, e with
      | 0, _ | 1, _ | 2, _ | 3, _ | 4, _ | 5, _ | 6, _ | 7, _ | 8, _ | 9, _ | 10, _ | 11, _ => first | rfl | (exact absurd rfl (by assumption))
      | n + 12, _ => rfl
  · have e1 := wR_adr (τ := (sR V row kept tried bf fd pk bo so sh mv tr)) hx
    have e2 := wR_adr (τ := (sR V row kept tried bf fd pk bo so sh mv tr)) hy
    obtain ⟨x', e1, f1⟩ := e1
    obtain ⟨y', e2, f2⟩ := e2
    exact hD.1 i j x' y' e1 e2 (by rw [f1, f2]; exact hxy)
  · obtain ⟨x', e1, f1⟩ := wR_adr (τ := (sR V row kept tried bf fd pk bo so sh mv tr)) hk
    rw [← f1]
    exact hD.2 k x' e1

theorem re_kept {p : Program} {l : Launch} {e : Env} {R : Room} {s : State} {m : MethodId} {args : Array Value} {below : List Frame} {meth : Method} {c : Code} {Q : State → Prop} {nL : Nat} {D : va_G} {A : Nat → Prop} {pc : Nat} {L : List (Nat × Value)} {st : List Value} {cI : ClassId} {o : Nat} {q : Nat → Nat} {V row kept tried bf fd pk bo so sh mv tr : Nat → Int32} (g : Nat → Int32) (h : ∀ j, j < 260 → kept j = g j) (kk : JJ p l e R s m args below meth c Q nL D A (wR cI o q) (sR V row g tried bf fd pk bo so sh mv tr) pc L st) : JJ p l e R s m args below meth c Q nL D A (wR cI o q) (sR V row kept tried bf fd pk bo so sh mv tr) pc L st := by
  intro H locs ls hP hD hS hl
  refine kk H locs ls (fun k w hk => ?_) ⟨fun i j x y hx hy hxy => ?_, fun k w hk => ?_⟩ hS hl
  · by_cases e : k = 2
    · subst e
      cases hk
      have := hP 2 _ rfl
      show H[q 1]? = some (vp_cell _ _)
      rw [← cell_ext h]
      exact this
    · refine hP k w ?_
      rw [← hk]
      match k, e with
      | 0, _ | 1, _ | 2, _ | 3, _ | 4, _ | 5, _ | 6, _ | 7, _ | 8, _ | 9, _ | 10, _ | 11, _ => first | rfl | (exact absurd rfl (by assumption))
      | n + 12, _ => rfl
  · have e1 := wR_adr (τ := (sR V row kept tried bf fd pk bo so sh mv tr)) hx
    have e2 := wR_adr (τ := (sR V row kept tried bf fd pk bo so sh mv tr)) hy
    obtain ⟨x', e1, f1⟩ := e1
    obtain ⟨y', e2, f2⟩ := e2
    exact hD.1 i j x' y' e1 e2 (by rw [f1, f2]; exact hxy)
  · obtain ⟨x', e1, f1⟩ := wR_adr (τ := (sR V row kept tried bf fd pk bo so sh mv tr)) hk
    rw [← f1]
    exact hD.2 k x' e1

theorem re_tried {p : Program} {l : Launch} {e : Env} {R : Room} {s : State} {m : MethodId} {args : Array Value} {below : List Frame} {meth : Method} {c : Code} {Q : State → Prop} {nL : Nat} {D : va_G} {A : Nat → Prop} {pc : Nat} {L : List (Nat × Value)} {st : List Value} {cI : ClassId} {o : Nat} {q : Nat → Nat} {V row kept tried bf fd pk bo so sh mv tr : Nat → Int32} (g : Nat → Int32) (h : ∀ j, j < 260 → tried j = g j) (kk : JJ p l e R s m args below meth c Q nL D A (wR cI o q) (sR V row kept g bf fd pk bo so sh mv tr) pc L st) : JJ p l e R s m args below meth c Q nL D A (wR cI o q) (sR V row kept tried bf fd pk bo so sh mv tr) pc L st := by
  intro H locs ls hP hD hS hl
  refine kk H locs ls (fun k w hk => ?_) ⟨fun i j x y hx hy hxy => ?_, fun k w hk => ?_⟩ hS hl
  · by_cases e : k = 3
    · subst e
      cases hk
      have := hP 3 _ rfl
      show H[q 2]? = some (vp_cell _ _)
      rw [← cell_ext h]
      exact this
    · refine hP k w ?_
      rw [← hk]
      match k, e with
      | 0, _ | 1, _ | 2, _ | 3, _ | 4, _ | 5, _ | 6, _ | 7, _ | 8, _ | 9, _ | 10, _ | 11, _ => first | rfl | (exact absurd rfl (by assumption))
      | n + 12, _ => rfl
  · have e1 := wR_adr (τ := (sR V row kept tried bf fd pk bo so sh mv tr)) hx
    have e2 := wR_adr (τ := (sR V row kept tried bf fd pk bo so sh mv tr)) hy
    obtain ⟨x', e1, f1⟩ := e1
    obtain ⟨y', e2, f2⟩ := e2
    exact hD.1 i j x' y' e1 e2 (by rw [f1, f2]; exact hxy)
  · obtain ⟨x', e1, f1⟩ := wR_adr (τ := (sR V row kept tried bf fd pk bo so sh mv tr)) hk
    rw [← f1]
    exact hD.2 k x' e1

theorem re_bf {p : Program} {l : Launch} {e : Env} {R : Room} {s : State} {m : MethodId} {args : Array Value} {below : List Frame} {meth : Method} {c : Code} {Q : State → Prop} {nL : Nat} {D : va_G} {A : Nat → Prop} {pc : Nat} {L : List (Nat × Value)} {st : List Value} {cI : ClassId} {o : Nat} {q : Nat → Nat} {V row kept tried bf fd pk bo so sh mv tr : Nat → Int32} (g : Nat → Int32) (h : ∀ j, j < 260 → bf j = g j) (kk : JJ p l e R s m args below meth c Q nL D A (wR cI o q) (sR V row kept tried g fd pk bo so sh mv tr) pc L st) : JJ p l e R s m args below meth c Q nL D A (wR cI o q) (sR V row kept tried bf fd pk bo so sh mv tr) pc L st := by
  intro H locs ls hP hD hS hl
  refine kk H locs ls (fun k w hk => ?_) ⟨fun i j x y hx hy hxy => ?_, fun k w hk => ?_⟩ hS hl
  · by_cases e : k = 4
    · subst e
      cases hk
      have := hP 4 _ rfl
      show H[q 3]? = some (vp_cell _ _)
      rw [← cell_ext h]
      exact this
    · refine hP k w ?_
      rw [← hk]
      match k, e with
      | 0, _ | 1, _ | 2, _ | 3, _ | 4, _ | 5, _ | 6, _ | 7, _ | 8, _ | 9, _ | 10, _ | 11, _ => first | rfl | (exact absurd rfl (by assumption))
      | n + 12, _ => rfl
  · have e1 := wR_adr (τ := (sR V row kept tried bf fd pk bo so sh mv tr)) hx
    have e2 := wR_adr (τ := (sR V row kept tried bf fd pk bo so sh mv tr)) hy
    obtain ⟨x', e1, f1⟩ := e1
    obtain ⟨y', e2, f2⟩ := e2
    exact hD.1 i j x' y' e1 e2 (by rw [f1, f2]; exact hxy)
  · obtain ⟨x', e1, f1⟩ := wR_adr (τ := (sR V row kept tried bf fd pk bo so sh mv tr)) hk
    rw [← f1]
    exact hD.2 k x' e1

theorem re_fd {p : Program} {l : Launch} {e : Env} {R : Room} {s : State} {m : MethodId} {args : Array Value} {below : List Frame} {meth : Method} {c : Code} {Q : State → Prop} {nL : Nat} {D : va_G} {A : Nat → Prop} {pc : Nat} {L : List (Nat × Value)} {st : List Value} {cI : ClassId} {o : Nat} {q : Nat → Nat} {V row kept tried bf fd pk bo so sh mv tr : Nat → Int32} (g : Nat → Int32) (h : ∀ j, j < 6 → fd j = g j) (kk : JJ p l e R s m args below meth c Q nL D A (wR cI o q) (sR V row kept tried bf g pk bo so sh mv tr) pc L st) : JJ p l e R s m args below meth c Q nL D A (wR cI o q) (sR V row kept tried bf fd pk bo so sh mv tr) pc L st := by
  intro H locs ls hP hD hS hl
  refine kk H locs ls (fun k w hk => ?_) ⟨fun i j x y hx hy hxy => ?_, fun k w hk => ?_⟩ hS hl
  · by_cases e : k = 5
    · subst e
      cases hk
      have := hP 5 _ rfl
      show H[q 6]? = some (vp_cell _ _)
      rw [← cell_ext h]
      exact this
    · refine hP k w ?_
      rw [← hk]
      match k, e with
      | 0, _ | 1, _ | 2, _ | 3, _ | 4, _ | 5, _ | 6, _ | 7, _ | 8, _ | 9, _ | 10, _ | 11, _ => first | rfl | (exact absurd rfl (by assumption))
      | n + 12, _ => rfl
  · have e1 := wR_adr (τ := (sR V row kept tried bf fd pk bo so sh mv tr)) hx
    have e2 := wR_adr (τ := (sR V row kept tried bf fd pk bo so sh mv tr)) hy
    obtain ⟨x', e1, f1⟩ := e1
    obtain ⟨y', e2, f2⟩ := e2
    exact hD.1 i j x' y' e1 e2 (by rw [f1, f2]; exact hxy)
  · obtain ⟨x', e1, f1⟩ := wR_adr (τ := (sR V row kept tried bf fd pk bo so sh mv tr)) hk
    rw [← f1]
    exact hD.2 k x' e1

theorem re_pk {p : Program} {l : Launch} {e : Env} {R : Room} {s : State} {m : MethodId} {args : Array Value} {below : List Frame} {meth : Method} {c : Code} {Q : State → Prop} {nL : Nat} {D : va_G} {A : Nat → Prop} {pc : Nat} {L : List (Nat × Value)} {st : List Value} {cI : ClassId} {o : Nat} {q : Nat → Nat} {V row kept tried bf fd pk bo so sh mv tr : Nat → Int32} (g : Nat → Int32) (h : ∀ j, j < 6 → pk j = g j) (kk : JJ p l e R s m args below meth c Q nL D A (wR cI o q) (sR V row kept tried bf fd g bo so sh mv tr) pc L st) : JJ p l e R s m args below meth c Q nL D A (wR cI o q) (sR V row kept tried bf fd pk bo so sh mv tr) pc L st := by
  intro H locs ls hP hD hS hl
  refine kk H locs ls (fun k w hk => ?_) ⟨fun i j x y hx hy hxy => ?_, fun k w hk => ?_⟩ hS hl
  · by_cases e : k = 6
    · subst e
      cases hk
      have := hP 6 _ rfl
      show H[q 20]? = some (vp_cell _ _)
      rw [← cell_ext h]
      exact this
    · refine hP k w ?_
      rw [← hk]
      match k, e with
      | 0, _ | 1, _ | 2, _ | 3, _ | 4, _ | 5, _ | 6, _ | 7, _ | 8, _ | 9, _ | 10, _ | 11, _ => first | rfl | (exact absurd rfl (by assumption))
      | n + 12, _ => rfl
  · have e1 := wR_adr (τ := (sR V row kept tried bf fd pk bo so sh mv tr)) hx
    have e2 := wR_adr (τ := (sR V row kept tried bf fd pk bo so sh mv tr)) hy
    obtain ⟨x', e1, f1⟩ := e1
    obtain ⟨y', e2, f2⟩ := e2
    exact hD.1 i j x' y' e1 e2 (by rw [f1, f2]; exact hxy)
  · obtain ⟨x', e1, f1⟩ := wR_adr (τ := (sR V row kept tried bf fd pk bo so sh mv tr)) hk
    rw [← f1]
    exact hD.2 k x' e1

theorem re_bo {p : Program} {l : Launch} {e : Env} {R : Room} {s : State} {m : MethodId} {args : Array Value} {below : List Frame} {meth : Method} {c : Code} {Q : State → Prop} {nL : Nat} {D : va_G} {A : Nat → Prop} {pc : Nat} {L : List (Nat × Value)} {st : List Value} {cI : ClassId} {o : Nat} {q : Nat → Nat} {V row kept tried bf fd pk bo so sh mv tr : Nat → Int32} (g : Nat → Int32) (h : ∀ j, j < 4 → bo j = g j) (kk : JJ p l e R s m args below meth c Q nL D A (wR cI o q) (sR V row kept tried bf fd pk g so sh mv tr) pc L st) : JJ p l e R s m args below meth c Q nL D A (wR cI o q) (sR V row kept tried bf fd pk bo so sh mv tr) pc L st := by
  intro H locs ls hP hD hS hl
  refine kk H locs ls (fun k w hk => ?_) ⟨fun i j x y hx hy hxy => ?_, fun k w hk => ?_⟩ hS hl
  · by_cases e : k = 7
    · subst e
      cases hk
      have := hP 7 _ rfl
      show H[q 21]? = some (vp_cell _ _)
      rw [← cell_ext h]
      exact this
    · refine hP k w ?_
      rw [← hk]
      match k, e with
      | 0, _ | 1, _ | 2, _ | 3, _ | 4, _ | 5, _ | 6, _ | 7, _ | 8, _ | 9, _ | 10, _ | 11, _ => first | rfl | (exact absurd rfl (by assumption))
      | n + 12, _ => rfl
  · have e1 := wR_adr (τ := (sR V row kept tried bf fd pk bo so sh mv tr)) hx
    have e2 := wR_adr (τ := (sR V row kept tried bf fd pk bo so sh mv tr)) hy
    obtain ⟨x', e1, f1⟩ := e1
    obtain ⟨y', e2, f2⟩ := e2
    exact hD.1 i j x' y' e1 e2 (by rw [f1, f2]; exact hxy)
  · obtain ⟨x', e1, f1⟩ := wR_adr (τ := (sR V row kept tried bf fd pk bo so sh mv tr)) hk
    rw [← f1]
    exact hD.2 k x' e1

theorem re_so {p : Program} {l : Launch} {e : Env} {R : Room} {s : State} {m : MethodId} {args : Array Value} {below : List Frame} {meth : Method} {c : Code} {Q : State → Prop} {nL : Nat} {D : va_G} {A : Nat → Prop} {pc : Nat} {L : List (Nat × Value)} {st : List Value} {cI : ClassId} {o : Nat} {q : Nat → Nat} {V row kept tried bf fd pk bo so sh mv tr : Nat → Int32} (g : Nat → Int32) (h : ∀ j, j < 4 → so j = g j) (kk : JJ p l e R s m args below meth c Q nL D A (wR cI o q) (sR V row kept tried bf fd pk bo g sh mv tr) pc L st) : JJ p l e R s m args below meth c Q nL D A (wR cI o q) (sR V row kept tried bf fd pk bo so sh mv tr) pc L st := by
  intro H locs ls hP hD hS hl
  refine kk H locs ls (fun k w hk => ?_) ⟨fun i j x y hx hy hxy => ?_, fun k w hk => ?_⟩ hS hl
  · by_cases e : k = 8
    · subst e
      cases hk
      have := hP 8 _ rfl
      show H[q 22]? = some (vp_cell _ _)
      rw [← cell_ext h]
      exact this
    · refine hP k w ?_
      rw [← hk]
      match k, e with
      | 0, _ | 1, _ | 2, _ | 3, _ | 4, _ | 5, _ | 6, _ | 7, _ | 8, _ | 9, _ | 10, _ | 11, _ => first | rfl | (exact absurd rfl (by assumption))
      | n + 12, _ => rfl
  · have e1 := wR_adr (τ := (sR V row kept tried bf fd pk bo so sh mv tr)) hx
    have e2 := wR_adr (τ := (sR V row kept tried bf fd pk bo so sh mv tr)) hy
    obtain ⟨x', e1, f1⟩ := e1
    obtain ⟨y', e2, f2⟩ := e2
    exact hD.1 i j x' y' e1 e2 (by rw [f1, f2]; exact hxy)
  · obtain ⟨x', e1, f1⟩ := wR_adr (τ := (sR V row kept tried bf fd pk bo so sh mv tr)) hk
    rw [← f1]
    exact hD.2 k x' e1

theorem re_sh {p : Program} {l : Launch} {e : Env} {R : Room} {s : State} {m : MethodId} {args : Array Value} {below : List Frame} {meth : Method} {c : Code} {Q : State → Prop} {nL : Nat} {D : va_G} {A : Nat → Prop} {pc : Nat} {L : List (Nat × Value)} {st : List Value} {cI : ClassId} {o : Nat} {q : Nat → Nat} {V row kept tried bf fd pk bo so sh mv tr : Nat → Int32} (g : Nat → Int32) (h : ∀ j, j < 160 → sh j = g j) (kk : JJ p l e R s m args below meth c Q nL D A (wR cI o q) (sR V row kept tried bf fd pk bo so g mv tr) pc L st) : JJ p l e R s m args below meth c Q nL D A (wR cI o q) (sR V row kept tried bf fd pk bo so sh mv tr) pc L st := by
  intro H locs ls hP hD hS hl
  refine kk H locs ls (fun k w hk => ?_) ⟨fun i j x y hx hy hxy => ?_, fun k w hk => ?_⟩ hS hl
  · by_cases e : k = 9
    · subst e
      cases hk
      have := hP 9 _ rfl
      show H[q 23]? = some (vp_cell _ _)
      rw [← cell_ext h]
      exact this
    · refine hP k w ?_
      rw [← hk]
      match k, e with
      | 0, _ | 1, _ | 2, _ | 3, _ | 4, _ | 5, _ | 6, _ | 7, _ | 8, _ | 9, _ | 10, _ | 11, _ => first | rfl | (exact absurd rfl (by assumption))
      | n + 12, _ => rfl
  · have e1 := wR_adr (τ := (sR V row kept tried bf fd pk bo so sh mv tr)) hx
    have e2 := wR_adr (τ := (sR V row kept tried bf fd pk bo so sh mv tr)) hy
    obtain ⟨x', e1, f1⟩ := e1
    obtain ⟨y', e2, f2⟩ := e2
    exact hD.1 i j x' y' e1 e2 (by rw [f1, f2]; exact hxy)
  · obtain ⟨x', e1, f1⟩ := wR_adr (τ := (sR V row kept tried bf fd pk bo so sh mv tr)) hk
    rw [← f1]
    exact hD.2 k x' e1

theorem re_mv {p : Program} {l : Launch} {e : Env} {R : Room} {s : State} {m : MethodId} {args : Array Value} {below : List Frame} {meth : Method} {c : Code} {Q : State → Prop} {nL : Nat} {D : va_G} {A : Nat → Prop} {pc : Nat} {L : List (Nat × Value)} {st : List Value} {cI : ClassId} {o : Nat} {q : Nat → Nat} {V row kept tried bf fd pk bo so sh mv tr : Nat → Int32} (g : Nat → Int32) (h : ∀ j, j < 40 → mv j = g j) (kk : JJ p l e R s m args below meth c Q nL D A (wR cI o q) (sR V row kept tried bf fd pk bo so sh g tr) pc L st) : JJ p l e R s m args below meth c Q nL D A (wR cI o q) (sR V row kept tried bf fd pk bo so sh mv tr) pc L st := by
  intro H locs ls hP hD hS hl
  refine kk H locs ls (fun k w hk => ?_) ⟨fun i j x y hx hy hxy => ?_, fun k w hk => ?_⟩ hS hl
  · by_cases e : k = 10
    · subst e
      cases hk
      have := hP 10 _ rfl
      show H[q 24]? = some (vp_cell _ _)
      rw [← cell_ext h]
      exact this
    · refine hP k w ?_
      rw [← hk]
      match k, e with
      | 0, _ | 1, _ | 2, _ | 3, _ | 4, _ | 5, _ | 6, _ | 7, _ | 8, _ | 9, _ | 10, _ | 11, _ => first | rfl | (exact absurd rfl (by assumption))
      | n + 12, _ => rfl
  · have e1 := wR_adr (τ := (sR V row kept tried bf fd pk bo so sh mv tr)) hx
    have e2 := wR_adr (τ := (sR V row kept tried bf fd pk bo so sh mv tr)) hy
    obtain ⟨x', e1, f1⟩ := e1
    obtain ⟨y', e2, f2⟩ := e2
    exact hD.1 i j x' y' e1 e2 (by rw [f1, f2]; exact hxy)
  · obtain ⟨x', e1, f1⟩ := wR_adr (τ := (sR V row kept tried bf fd pk bo so sh mv tr)) hk
    rw [← f1]
    exact hD.2 k x' e1

theorem re_tr {p : Program} {l : Launch} {e : Env} {R : Room} {s : State} {m : MethodId} {args : Array Value} {below : List Frame} {meth : Method} {c : Code} {Q : State → Prop} {nL : Nat} {D : va_G} {A : Nat → Prop} {pc : Nat} {L : List (Nat × Value)} {st : List Value} {cI : ClassId} {o : Nat} {q : Nat → Nat} {V row kept tried bf fd pk bo so sh mv tr : Nat → Int32} (g : Nat → Int32) (h : ∀ j, j < 40 → tr j = g j) (kk : JJ p l e R s m args below meth c Q nL D A (wR cI o q) (sR V row kept tried bf fd pk bo so sh mv g) pc L st) : JJ p l e R s m args below meth c Q nL D A (wR cI o q) (sR V row kept tried bf fd pk bo so sh mv tr) pc L st := by
  intro H locs ls hP hD hS hl
  refine kk H locs ls (fun k w hk => ?_) ⟨fun i j x y hx hy hxy => ?_, fun k w hk => ?_⟩ hS hl
  · by_cases e : k = 11
    · subst e
      cases hk
      have := hP 11 _ rfl
      show H[q 25]? = some (vp_cell _ _)
      rw [← cell_ext h]
      exact this
    · refine hP k w ?_
      rw [← hk]
      match k, e with
      | 0, _ | 1, _ | 2, _ | 3, _ | 4, _ | 5, _ | 6, _ | 7, _ | 8, _ | 9, _ | 10, _ | 11, _ => first | rfl | (exact absurd rfl (by assumption))
      | n + 12, _ => rfl
  · have e1 := wR_adr (τ := (sR V row kept tried bf fd pk bo so sh mv tr)) hx
    have e2 := wR_adr (τ := (sR V row kept tried bf fd pk bo so sh mv tr)) hy
    obtain ⟨x', e1, f1⟩ := e1
    obtain ⟨y', e2, f2⟩ := e2
    exact hD.1 i j x' y' e1 e2 (by rw [f1, f2]; exact hxy)
  · obtain ⟨x', e1, f1⟩ := wR_adr (τ := (sR V row kept tried bf fd pk bo so sh mv tr)) hk
    rw [← f1]
    exact hD.2 k x' e1

theorem dX12_in_0 : decode cX12_in 0 = .ok (.iload_n 0, 1) := by decide +kernel
theorem dX12_in_1 : decode cX12_in 1 = .ok (.iload_n 1, 1) := by decide +kernel
theorem dX12_in_2 : decode cX12_in 2 = .ok (.if_icmp .lt 12, 3) := by decide +kernel
theorem dX12_in_5 : decode cX12_in 5 = .ok (.iload_n 0, 1) := by decide +kernel
theorem dX12_in_6 : decode cX12_in 6 = .ok (.iload_n 2, 1) := by decide +kernel
theorem dX12_in_7 : decode cX12_in 7 = .ok (.if_icmp .gt 7, 3) := by decide +kernel
theorem dX12_in_10 : decode cX12_in 10 = .ok (.iconst 1, 1) := by decide +kernel
theorem dX12_in_11 : decode cX12_in 11 = .ok (.goto 4, 3) := by decide +kernel
theorem dX12_in_14 : decode cX12_in 14 = .ok (.iconst 0, 1) := by decide +kernel
theorem dX12_in_15 : decode cX12_in 15 = .ok (.ireturn, 1) := by decide +kernel
set_option maxHeartbeats 2000000 in
set_option maxRecDepth 20000 in
theorem c_in {l : Launch} {D : va_G} {cI cG cW : ClassId} {S : Type} {Wd : S → va_W} {σ : S} {v a b : Int32} : Ci l yX12_in cX12_in 3 (some .boolean) 0 D (tyL cI cG cW) Wd [.int v, .int a, .int b] σ (fun r τ => r = bI (inn v a b) ∧ τ = σ) := by
  refine Ci.of (by decide) (Nat.le_of_ble_eq_true rfl) ?_
  intro p_ e_ s_ m_ b_ M_ c_ A_ C
  replace C : Cx _ _ _ _ _ _ _ _ RX12 _ _ _ _ := C
  refine j_L [0, 1, 2] [(0, .int v), (1, .int a), (2, .int b)] rfl ?_
  refine j_iload_n C 0 dX12_in_0 rfl ?_
  refine j_iload_n C 1 dX12_in_1 rfl ?_
  refine j_icmp_lt C 14 dX12_in_2 (by decide) (fun c2 => ?_) (fun c2 => ?_)
  · skip
    refine j_iconst C (v := (nI 0)) dX12_in_14 (by decide) ?_
    refine j_zret C dX12_in_15 (by decide) ?_
    exact ⟨bI0 (fun h => ltn c2 h.1), rfl⟩
  · skip
    refine j_iload_n C 0 dX12_in_5 rfl ?_
    refine j_iload_n C 2 dX12_in_6 rfl ?_
    refine j_icmp_gt C 14 dX12_in_7 (by decide) (fun c7 => ?_) (fun c7 => ?_)
    · skip
      refine j_iconst C (v := (nI 0)) dX12_in_14 (by decide) ?_
      refine j_zret C dX12_in_15 (by decide) ?_
      exact ⟨bI0 (fun h => ltn c7 h.2), rfl⟩
    · skip
      refine j_iconst C (v := (nI 1)) dX12_in_10 (by decide) ?_
      refine j_goto C 15 dX12_in_11 (by decide) ?_
      refine j_zret C dX12_in_15 (by decide) ?_
      exact ⟨bI1 ⟨nlt c2, nlt c7⟩, rfl⟩
theorem dX12_errs_0 : decode cX12_errs 0 = .ok (.aload_n 0, 1) := by decide +kernel
theorem dX12_errs_1 : decode cX12_errs 1 = .ok (.getfield 22, 3) := by decide +kernel
theorem dX12_errs_4 : decode cX12_errs 4 = .ok (.ldc 50, 2) := by decide +kernel
theorem dX12_errs_6 : decode cX12_errs 6 = .ok (.iload_n 1, 1) := by decide +kernel
theorem dX12_errs_7 : decode cX12_errs 7 = .ok (.isub, 1) := by decide +kernel
theorem dX12_errs_8 : decode cX12_errs 8 = .ok (.dup2, 1) := by decide +kernel
theorem dX12_errs_9 : decode cX12_errs 9 = .ok (.iaload, 1) := by decide +kernel
theorem dX12_errs_10 : decode cX12_errs 10 = .ok (.iconst 1, 1) := by decide +kernel
theorem dX12_errs_11 : decode cX12_errs 11 = .ok (.iadd, 1) := by decide +kernel
theorem dX12_errs_12 : decode cX12_errs 12 = .ok (.iastore, 1) := by decide +kernel
theorem dX12_errs_13 : decode cX12_errs 13 = .ok (.iload_n 1, 1) := by decide +kernel
theorem dX12_errs_14 : decode cX12_errs 14 = .ok (.ireturn, 1) := by decide +kernel
set_option maxHeartbeats 2000000 in
set_option maxRecDepth 20000 in
theorem c_errs {l : Launch} {D : va_G} {cI cG cW : ClassId} {o : Nat} {q : Nat → Nat} {V row kept tried bf fd pk bo so sh mv tr : Nat → Int32} {e : Int32} (k : Nat) (hk : k < 6) (he : (-1000000000) - e = nI k) : Ci l yX12_errs cX12_errs 2 (some .int) 0 D (tyL cI cG cW) (wR cI o q) [.ref o, .int e] (sR V row kept tried bf fd pk bo so sh mv tr) (fun r τ => r = e ∧ τ = sR V row kept tried bf (ue fd k) pk bo so sh mv tr) := by
  refine Ci.of (by decide) (Nat.le_of_ble_eq_true rfl) ?_
  intro p_ e_ s_ m_ b_ M_ c_ A_ C
  replace C : Cx _ _ _ _ _ _ _ _ RX12 _ _ _ _ := C
  refine j_L [0, 1] [(0, .ref o), (1, .int e)] rfl ?_
  refine j_aload_n C 0 dX12_errs_0 rfl ?_
  refine rg C (v := .ref (q 6)) 6 (by decide) kf12_22 rfl dX12_errs_1 ?_
  refine j_ldc C (-1000000000) dX12_errs_4 kc12_50 ?_
  refine j_iload_n C 1 dX12_errs_6 rfl ?_
  refine j_isub C dX12_errs_7 ?_
  refine j_v (nI k) he ?_
  refine j_dup2 C dX12_errs_8 rfl rfl ?_
  refine rl_fd C k rfl (by omega) dX12_errs_9 ?_
  refine j_iconst C (v := (nI 1)) dX12_errs_10 (by decide) ?_
  refine j_iadd C dX12_errs_11 ?_
  refine rs_fd C k rfl (by omega) dX12_errs_12 ?_
  refine j_iload_n C 1 dX12_errs_13 rfl ?_
  refine j_iret C dX12_errs_14 ?_
  exact ⟨rfl, by simp [ue, nI]⟩
theorem dX12_held_0 : decode cX12_held 0 = .ok (.iload_n 0, 1) := by decide +kernel
theorem dX12_held_1 : decode cX12_held 1 = .ok (.iload_n 1, 1) := by decide +kernel
theorem dX12_held_2 : decode cX12_held 2 = .ok (.if_icmp .ge 7, 3) := by decide +kernel
theorem dX12_held_5 : decode cX12_held 5 = .ok (.iload_n 1, 1) := by decide +kernel
theorem dX12_held_6 : decode cX12_held 6 = .ok (.goto 13, 3) := by decide +kernel
theorem dX12_held_9 : decode cX12_held 9 = .ok (.iload_n 0, 1) := by decide +kernel
theorem dX12_held_10 : decode cX12_held 10 = .ok (.iload_n 2, 1) := by decide +kernel
theorem dX12_held_11 : decode cX12_held 11 = .ok (.if_icmp .le 7, 3) := by decide +kernel
theorem dX12_held_14 : decode cX12_held 14 = .ok (.iload_n 2, 1) := by decide +kernel
theorem dX12_held_15 : decode cX12_held 15 = .ok (.goto 4, 3) := by decide +kernel
theorem dX12_held_18 : decode cX12_held 18 = .ok (.iload_n 0, 1) := by decide +kernel
theorem dX12_held_19 : decode cX12_held 19 = .ok (.ireturn, 1) := by decide +kernel
set_option maxHeartbeats 2000000 in
set_option maxRecDepth 20000 in
theorem c_held {l : Launch} {D : va_G} {cI cG cW : ClassId} {S : Type} {Wd : S → va_W} {σ : S} {v a b : Int32} : Ci l yX12_held cX12_held 3 (some .int) 0 D (tyL cI cG cW) Wd [.int v, .int a, .int b] σ (fun r τ => r = hld v a b ∧ τ = σ) := by
  refine Ci.of (by decide) (Nat.le_of_ble_eq_true rfl) ?_
  intro p_ e_ s_ m_ b_ M_ c_ A_ C
  replace C : Cx _ _ _ _ _ _ _ _ RX12 _ _ _ _ := C
  refine j_L [0, 1, 2] [(0, .int v), (1, .int a), (2, .int b)] rfl ?_
  refine j_iload_n C 0 dX12_held_0 rfl ?_
  refine j_iload_n C 1 dX12_held_1 rfl ?_
  refine j_icmp_ge C 9 dX12_held_2 (by decide) (fun c2 => ?_) (fun c2 => ?_)
  · skip
    refine j_iload_n C 0 dX12_held_9 rfl ?_
    refine j_iload_n C 2 dX12_held_10 rfl ?_
    refine j_icmp_le C 18 dX12_held_11 (by decide) (fun c11 => ?_) (fun c11 => ?_)
    · skip
      refine j_iload_n C 0 dX12_held_18 rfl ?_
      refine j_iret C dX12_held_19 ?_
      first | exact ⟨by unfold hld; rw [if_neg (lnl c2), if_neg (lnl c11)], rfl⟩ | exact ⟨by unfold hld; rw [if_neg (lnl c2), if_pos (nle c11)], rfl⟩ | exact ⟨by unfold hld; rw [if_pos (nle c2)], rfl⟩
    · skip
      refine j_iload_n C 2 dX12_held_14 rfl ?_
      refine j_goto C 19 dX12_held_15 (by decide) ?_
      refine j_iret C dX12_held_19 ?_
      first | exact ⟨by unfold hld; rw [if_neg (lnl c2), if_neg (lnl c11)], rfl⟩ | exact ⟨by unfold hld; rw [if_neg (lnl c2), if_pos (nle c11)], rfl⟩ | exact ⟨by unfold hld; rw [if_pos (nle c2)], rfl⟩
  · skip
    refine j_iload_n C 1 dX12_held_5 rfl ?_
    refine j_goto C 19 dX12_held_6 (by decide) ?_
    refine j_iret C dX12_held_19 ?_
    first | exact ⟨by unfold hld; rw [if_neg (lnl c2), if_neg (lnl c11)], rfl⟩ | exact ⟨by unfold hld; rw [if_neg (lnl c2), if_pos (nle c11)], rfl⟩ | exact ⟨by unfold hld; rw [if_pos (nle c2)], rfl⟩
theorem dX12_its_0 : decode cX12_its 0 = .ok (.aload_n 0, 1) := by decide +kernel
theorem dX12_its_1 : decode cX12_its 1 = .ok (.getfield 7, 3) := by decide +kernel
theorem dX12_its_4 : decode cX12_its 4 = .ok (.bipush 30, 2) := by decide +kernel
theorem dX12_its_6 : decode cX12_its 6 = .ok (.bipush 6, 2) := by decide +kernel
theorem dX12_its_8 : decode cX12_its 8 = .ok (.iload_n 1, 1) := by decide +kernel
theorem dX12_its_9 : decode cX12_its 9 = .ok (.imul, 1) := by decide +kernel
theorem dX12_its_10 : decode cX12_its 10 = .ok (.iadd, 1) := by decide +kernel
theorem dX12_its_11 : decode cX12_its 11 = .ok (.iload_n 2, 1) := by decide +kernel
theorem dX12_its_12 : decode cX12_its 12 = .ok (.iadd, 1) := by decide +kernel
theorem dX12_its_13 : decode cX12_its 13 = .ok (.iaload, 1) := by decide +kernel
theorem dX12_its_14 : decode cX12_its 14 = .ok (.ireturn, 1) := by decide +kernel
set_option maxHeartbeats 2000000 in
set_option maxRecDepth 20000 in
theorem c_its {l : Launch} {D : va_G} {cI cG cW : ClassId} {o : Nat} {q : Nat → Nat} {V row kept tried bf fd pk bo so sh mv tr : Nat → Int32} (p w : Nat) (h : 30 + 6 * p + w < 260) : Ci l yX12_its cX12_its 3 (some .int) 0 D (tyL cI cG cW) (wR cI o q) [.ref o, .int (nI p), .int (nI w)] (sR V row kept tried bf fd pk bo so sh mv tr) (fun r τ => r = row (30 + 6 * p + w) ∧ τ = sR V row kept tried bf fd pk bo so sh mv tr) := by
  refine Ci.of (by decide) (Nat.le_of_ble_eq_true rfl) ?_
  intro p_ e_ s_ m_ b_ M_ c_ A_ C
  replace C : Cx _ _ _ _ _ _ _ _ RX12 _ _ _ _ := C
  refine j_L [0, 1, 2] [(0, .ref o), (1, .int (nI p)), (2, .int (nI w))] rfl ?_
  refine j_aload_n C 0 dX12_its_0 rfl ?_
  refine rg C (v := .ref (q 0)) 0 (by decide) kf12_7 rfl dX12_its_1 ?_
  refine j_bipush C (v := (nI 30)) dX12_its_4 (by decide) ?_
  refine j_bipush C (v := (nI 6)) dX12_its_6 (by decide) ?_
  refine j_iload_n C 1 dX12_its_8 rfl ?_
  refine j_imulN C dX12_its_9 ?_
  refine j_iaddN C dX12_its_10 ?_
  refine j_iload_n C 2 dX12_its_11 rfl ?_
  refine j_iaddN C dX12_its_12 ?_
  refine rl_row C (30 + 6 * p + w) rfl (by omega) dX12_its_13 ?_
  refine j_iret C dX12_its_14 ?_
  exact ⟨rfl, rfl⟩
theorem dX12_gets_0 : decode cX12_gets 0 = .ok (.aload_n 0, 1) := by decide +kernel
theorem dX12_gets_1 : decode cX12_gets 1 = .ok (.getfield 7, 3) := by decide +kernel
theorem dX12_gets_4 : decode cX12_gets 4 = .ok (.bipush 30, 2) := by decide +kernel
theorem dX12_gets_6 : decode cX12_gets 6 = .ok (.bipush 6, 2) := by decide +kernel
theorem dX12_gets_8 : decode cX12_gets 8 = .ok (.iload_n 1, 1) := by decide +kernel
theorem dX12_gets_9 : decode cX12_gets 9 = .ok (.imul, 1) := by decide +kernel
theorem dX12_gets_10 : decode cX12_gets 10 = .ok (.iadd, 1) := by decide +kernel
theorem dX12_gets_11 : decode cX12_gets 11 = .ok (.iload_n 2, 1) := by decide +kernel
theorem dX12_gets_12 : decode cX12_gets 12 = .ok (.iadd, 1) := by decide +kernel
theorem dX12_gets_13 : decode cX12_gets 13 = .ok (.iload_n 3, 1) := by decide +kernel
theorem dX12_gets_14 : decode cX12_gets 14 = .ok (.iastore, 1) := by decide +kernel
theorem dX12_gets_15 : decode cX12_gets 15 = .ok (.return_, 1) := by decide +kernel
set_option maxHeartbeats 2000000 in
set_option maxRecDepth 20000 in
theorem c_gets {l : Launch} {D : va_G} {cI cG cW : ClassId} {o : Nat} {q : Nat → Nat} {V row kept tried bf fd pk bo so sh mv tr : Nat → Int32} (p w : Nat) {v : Int32} (h : 30 + 6 * p + w < 260) : Cv l yX12_gets cX12_gets 4 none 0 D (tyL cI cG cW) (wR cI o q) [.ref o, .int (nI p), .int (nI w), .int v] (sR V row kept tried bf fd pk bo so sh mv tr) (fun τ => τ = sR V (upd row (30 + 6 * p + w) v) kept tried bf fd pk bo so sh mv tr) := by
  refine Cv.of (by decide) (Nat.le_of_ble_eq_true rfl) ?_
  intro p_ e_ s_ m_ b_ M_ c_ A_ C
  replace C : Cx _ _ _ _ _ _ _ _ RX12 _ _ _ _ := C
  refine j_L [0, 1, 2, 3] [(0, .ref o), (1, .int (nI p)), (2, .int (nI w)), (3, .int v)] rfl ?_
  refine j_aload_n C 0 dX12_gets_0 rfl ?_
  refine rg C (v := .ref (q 0)) 0 (by decide) kf12_7 rfl dX12_gets_1 ?_
  refine j_bipush C (v := (nI 30)) dX12_gets_4 (by decide) ?_
  refine j_bipush C (v := (nI 6)) dX12_gets_6 (by decide) ?_
  refine j_iload_n C 1 dX12_gets_8 rfl ?_
  refine j_imulN C dX12_gets_9 ?_
  refine j_iaddN C dX12_gets_10 ?_
  refine j_iload_n C 2 dX12_gets_11 rfl ?_
  refine j_iaddN C dX12_gets_12 ?_
  refine j_iload_n C 3 dX12_gets_13 rfl ?_
  refine rs_row C (30 + 6 * p + w) rfl (by omega) dX12_gets_14 ?_
  refine j_vret C dX12_gets_15 ?_
  exact rfl
theorem dX12_becomes_0 : decode cX12_becomes 0 = .ok (.aload_n 0, 1) := by decide +kernel
theorem dX12_becomes_1 : decode cX12_becomes 1 = .ok (.getfield 7, 3) := by decide +kernel
theorem dX12_becomes_4 : decode cX12_becomes 4 = .ok (.iload_n 1, 1) := by decide +kernel
theorem dX12_becomes_5 : decode cX12_becomes 5 = .ok (.iaload, 1) := by decide +kernel
theorem dX12_becomes_6 : decode cX12_becomes 6 = .ok (.istore_n 3, 1) := by decide +kernel
theorem dX12_becomes_7 : decode cX12_becomes 7 = .ok (.aload_n 0, 1) := by decide +kernel
theorem dX12_becomes_8 : decode cX12_becomes 8 = .ok (.getfield 7, 3) := by decide +kernel
theorem dX12_becomes_11 : decode cX12_becomes 11 = .ok (.iload_n 1, 1) := by decide +kernel
theorem dX12_becomes_12 : decode cX12_becomes 12 = .ok (.iload_n 2, 1) := by decide +kernel
theorem dX12_becomes_13 : decode cX12_becomes 13 = .ok (.iastore, 1) := by decide +kernel
theorem dX12_becomes_14 : decode cX12_becomes 14 = .ok (.iload_n 3, 1) := by decide +kernel
theorem dX12_becomes_15 : decode cX12_becomes 15 = .ok (.ireturn, 1) := by decide +kernel
set_option maxHeartbeats 2000000 in
set_option maxRecDepth 20000 in
theorem c_becomes {l : Launch} {D : va_G} {cI cG cW : ClassId} {o : Nat} {q : Nat → Nat} {V row kept tried bf fd pk bo so sh mv tr : Nat → Int32} (k : Nat) {v : Int32} (h : k < 260) : Ci l yX12_becomes cX12_becomes 4 (some .int) 0 D (tyL cI cG cW) (wR cI o q) [.ref o, .int (nI k), .int v] (sR V row kept tried bf fd pk bo so sh mv tr) (fun r τ => r = row k ∧ τ = sR V (upd row k v) kept tried bf fd pk bo so sh mv tr) := by
  refine Ci.of (by decide) (Nat.le_of_ble_eq_true rfl) ?_
  intro p_ e_ s_ m_ b_ M_ c_ A_ C
  replace C : Cx _ _ _ _ _ _ _ _ RX12 _ _ _ _ := C
  refine j_L [0, 1, 2] [(0, .ref o), (1, .int (nI k)), (2, .int v)] rfl ?_
  refine j_aload_n C 0 dX12_becomes_0 rfl ?_
  refine rg C (v := .ref (q 0)) 0 (by decide) kf12_7 rfl dX12_becomes_1 ?_
  refine j_iload_n C 1 dX12_becomes_4 rfl ?_
  refine rl_row C k rfl (by omega) dX12_becomes_5 ?_
  refine j_istore_n C [(3, .int (row k)), (0, .ref o), (1, .int (nI k)), (2, .int v)] dX12_becomes_6 (by decide) rfl ?_
  refine j_aload_n C 1 dX12_becomes_7 rfl ?_
  refine rg C (v := .ref (q 0)) 0 (by decide) kf12_7 rfl dX12_becomes_8 ?_
  refine j_iload_n C 2 dX12_becomes_11 rfl ?_
  refine j_iload_n C 3 dX12_becomes_12 rfl ?_
  refine rs_row C k rfl (by omega) dX12_becomes_13 ?_
  refine j_iload_n C 0 dX12_becomes_14 rfl ?_
  refine j_iret C dX12_becomes_15 ?_
  exact ⟨rfl, rfl⟩
theorem dX12_isCell_0 : decode cX12_isCell 0 = .ok (.iload_n 1, 1) := by decide +kernel
theorem dX12_isCell_1 : decode cX12_isCell 1 = .ok (.iconst 0, 1) := by decide +kernel
theorem dX12_isCell_2 : decode cX12_isCell 2 = .ok (.aload_n 0, 1) := by decide +kernel
theorem dX12_isCell_3 : decode cX12_isCell 3 = .ok (.getfield 7, 3) := by decide +kernel
theorem dX12_isCell_6 : decode cX12_isCell 6 = .ok (.iconst 2, 1) := by decide +kernel
theorem dX12_isCell_7 : decode cX12_isCell 7 = .ok (.iaload, 1) := by decide +kernel
theorem dX12_isCell_8 : decode cX12_isCell 8 = .ok (.iconst 1, 1) := by decide +kernel
theorem dX12_isCell_9 : decode cX12_isCell 9 = .ok (.isub, 1) := by decide +kernel
theorem dX12_isCell_10 : decode cX12_isCell 10 = .ok (.invokestatic 51, 3) := by decide +kernel
theorem dX12_isCell_13 : decode cX12_isCell 13 = .ok (.ireturn, 1) := by decide +kernel
set_option maxHeartbeats 2000000 in
set_option maxRecDepth 20000 in
theorem c_isCell {l : Launch} {D : va_G} {cI cG cW : ClassId} {o : Nat} {q : Nat → Nat} {V row kept tried bf fd pk bo so sh mv tr : Nat → Int32} {v : Int32} : Ci l yX12_isCell cX12_isCell 2 (some .boolean) 1 D (tyL cI cG cW) (wR cI o q) [.ref o, .int v] (sR V row kept tried bf fd pk bo so sh mv tr) (fun r τ => r = bI (inn v 0 (row 2 - 1)) ∧ τ = sR V row kept tried bf fd pk bo so sh mv tr) := by
  refine Ci.of (by decide) (Nat.le_of_ble_eq_true rfl) ?_
  intro p_ e_ s_ m_ b_ M_ c_ A_ C
  replace C : Cx _ _ _ _ _ _ _ _ RX12 _ _ _ _ := C
  refine j_L [0, 1] [(0, .ref o), (1, .int v)] rfl ?_
  refine j_iload_n C 1 dX12_isCell_0 rfl ?_
  refine j_iconst C (v := (nI 0)) dX12_isCell_1 (by decide) ?_
  refine j_aload_n C 0 dX12_isCell_2 rfl ?_
  refine rg C (v := .ref (q 0)) 0 (by decide) kf12_7 rfl dX12_isCell_3 ?_
  refine j_iconst C (v := (nI 2)) dX12_isCell_6 (by decide) ?_
  refine rl_row C 2 rfl (by omega) dX12_isCell_7 ?_
  refine j_iconst C (v := (nI 1)) dX12_isCell_8 (by decide) ?_
  refine j_isub C dX12_isCell_9 ?_
  refine j_callS (As := [.int v, .int (nI 0), .int ((row 2) - (nI 1))]) (rest := []) C vw12_in (c_in) rfl (Nat.le_of_ble_eq_true rfl) dX12_isCell_10 (by decide) ?_
  rintro _ _ ⟨rfl, rfl⟩
  refine j_zret C dX12_isCell_13 (bI_01 _) ?_
  exact ⟨rfl, rfl⟩
theorem dX12_isPerson_0 : decode cX12_isPerson 0 = .ok (.iload_n 1, 1) := by decide +kernel
theorem dX12_isPerson_1 : decode cX12_isPerson 1 = .ok (.iconst 0, 1) := by decide +kernel
theorem dX12_isPerson_2 : decode cX12_isPerson 2 = .ok (.aload_n 0, 1) := by decide +kernel
theorem dX12_isPerson_3 : decode cX12_isPerson 3 = .ok (.getfield 7, 3) := by decide +kernel
theorem dX12_isPerson_6 : decode cX12_isPerson 6 = .ok (.iconst 3, 1) := by decide +kernel
theorem dX12_isPerson_7 : decode cX12_isPerson 7 = .ok (.iaload, 1) := by decide +kernel
theorem dX12_isPerson_8 : decode cX12_isPerson 8 = .ok (.iconst 1, 1) := by decide +kernel
theorem dX12_isPerson_9 : decode cX12_isPerson 9 = .ok (.isub, 1) := by decide +kernel
theorem dX12_isPerson_10 : decode cX12_isPerson 10 = .ok (.invokestatic 51, 3) := by decide +kernel
theorem dX12_isPerson_13 : decode cX12_isPerson 13 = .ok (.ireturn, 1) := by decide +kernel
set_option maxHeartbeats 2000000 in
set_option maxRecDepth 20000 in
theorem c_isPerson {l : Launch} {D : va_G} {cI cG cW : ClassId} {o : Nat} {q : Nat → Nat} {V row kept tried bf fd pk bo so sh mv tr : Nat → Int32} {v : Int32} : Ci l yX12_isPerson cX12_isPerson 2 (some .boolean) 1 D (tyL cI cG cW) (wR cI o q) [.ref o, .int v] (sR V row kept tried bf fd pk bo so sh mv tr) (fun r τ => r = bI (inn v 0 (row 3 - 1)) ∧ τ = sR V row kept tried bf fd pk bo so sh mv tr) := by
  refine Ci.of (by decide) (Nat.le_of_ble_eq_true rfl) ?_
  intro p_ e_ s_ m_ b_ M_ c_ A_ C
  replace C : Cx _ _ _ _ _ _ _ _ RX12 _ _ _ _ := C
  refine j_L [0, 1] [(0, .ref o), (1, .int v)] rfl ?_
  refine j_iload_n C 1 dX12_isPerson_0 rfl ?_
  refine j_iconst C (v := (nI 0)) dX12_isPerson_1 (by decide) ?_
  refine j_aload_n C 0 dX12_isPerson_2 rfl ?_
  refine rg C (v := .ref (q 0)) 0 (by decide) kf12_7 rfl dX12_isPerson_3 ?_
  refine j_iconst C (v := (nI 3)) dX12_isPerson_6 (by decide) ?_
  refine rl_row C 3 rfl (by omega) dX12_isPerson_7 ?_
  refine j_iconst C (v := (nI 1)) dX12_isPerson_8 (by decide) ?_
  refine j_isub C dX12_isPerson_9 ?_
  refine j_callS (As := [.int v, .int (nI 0), .int ((row 3) - (nI 1))]) (rest := []) C vw12_in (c_in) rfl (Nat.le_of_ble_eq_true rfl) dX12_isPerson_10 (by decide) ?_
  rintro _ _ ⟨rfl, rfl⟩
  refine j_zret C dX12_isPerson_13 (bI_01 _) ?_
  exact ⟨rfl, rfl⟩
theorem dX12_isWrong_0 : decode cX12_isWrong 0 = .ok (.iload_n 1, 1) := by decide +kernel
theorem dX12_isWrong_1 : decode cX12_isWrong 1 = .ok (.iconst 0, 1) := by decide +kernel
theorem dX12_isWrong_2 : decode cX12_isWrong 2 = .ok (.aload_n 0, 1) := by decide +kernel
theorem dX12_isWrong_3 : decode cX12_isWrong 3 = .ok (.getfield 7, 3) := by decide +kernel
theorem dX12_isWrong_6 : decode cX12_isWrong 6 = .ok (.bipush 8, 2) := by decide +kernel
theorem dX12_isWrong_8 : decode cX12_isWrong 8 = .ok (.iaload, 1) := by decide +kernel
theorem dX12_isWrong_9 : decode cX12_isWrong 9 = .ok (.iconst 1, 1) := by decide +kernel
theorem dX12_isWrong_10 : decode cX12_isWrong 10 = .ok (.isub, 1) := by decide +kernel
theorem dX12_isWrong_11 : decode cX12_isWrong 11 = .ok (.invokestatic 51, 3) := by decide +kernel
theorem dX12_isWrong_14 : decode cX12_isWrong 14 = .ok (.ireturn, 1) := by decide +kernel
set_option maxHeartbeats 2000000 in
set_option maxRecDepth 20000 in
theorem c_isWrong {l : Launch} {D : va_G} {cI cG cW : ClassId} {o : Nat} {q : Nat → Nat} {V row kept tried bf fd pk bo so sh mv tr : Nat → Int32} {v : Int32} : Ci l yX12_isWrong cX12_isWrong 2 (some .boolean) 1 D (tyL cI cG cW) (wR cI o q) [.ref o, .int v] (sR V row kept tried bf fd pk bo so sh mv tr) (fun r τ => r = bI (inn v 0 (row 8 - 1)) ∧ τ = sR V row kept tried bf fd pk bo so sh mv tr) := by
  refine Ci.of (by decide) (Nat.le_of_ble_eq_true rfl) ?_
  intro p_ e_ s_ m_ b_ M_ c_ A_ C
  replace C : Cx _ _ _ _ _ _ _ _ RX12 _ _ _ _ := C
  refine j_L [0, 1] [(0, .ref o), (1, .int v)] rfl ?_
  refine j_iload_n C 1 dX12_isWrong_0 rfl ?_
  refine j_iconst C (v := (nI 0)) dX12_isWrong_1 (by decide) ?_
  refine j_aload_n C 0 dX12_isWrong_2 rfl ?_
  refine rg C (v := .ref (q 0)) 0 (by decide) kf12_7 rfl dX12_isWrong_3 ?_
  refine j_bipush C (v := (nI 8)) dX12_isWrong_6 (by decide) ?_
  refine rl_row C 8 rfl (by omega) dX12_isWrong_8 ?_
  refine j_iconst C (v := (nI 1)) dX12_isWrong_9 (by decide) ?_
  refine j_isub C dX12_isWrong_10 ?_
  refine j_callS (As := [.int v, .int (nI 0), .int ((row 8) - (nI 1))]) (rest := []) C vw12_in (c_in) rfl (Nat.le_of_ble_eq_true rfl) dX12_isWrong_11 (by decide) ?_
  rintro _ _ ⟨rfl, rfl⟩
  refine j_zret C dX12_isWrong_14 (bI_01 _) ?_
  exact ⟨rfl, rfl⟩
theorem dX12_isDigit_0 : decode cX12_isDigit 0 = .ok (.iload_n 0, 1) := by decide +kernel
theorem dX12_isDigit_1 : decode cX12_isDigit 1 = .ok (.bipush 48, 2) := by decide +kernel
theorem dX12_isDigit_3 : decode cX12_isDigit 3 = .ok (.bipush 57, 2) := by decide +kernel
theorem dX12_isDigit_5 : decode cX12_isDigit 5 = .ok (.invokestatic 51, 3) := by decide +kernel
theorem dX12_isDigit_8 : decode cX12_isDigit 8 = .ok (.ireturn, 1) := by decide +kernel
set_option maxHeartbeats 2000000 in
set_option maxRecDepth 20000 in
theorem c_isDigit {l : Launch} {D : va_G} {cI cG cW : ClassId} {S : Type} {Wd : S → va_W} {σ : S} {v : Int32} : Ci l yX12_isDigit cX12_isDigit 1 (some .boolean) 1 D (tyL cI cG cW) Wd [.int v] σ (fun r τ => r = bI (inn v 48 57) ∧ τ = σ) := by
  refine Ci.of (by decide) (Nat.le_of_ble_eq_true rfl) ?_
  intro p_ e_ s_ m_ b_ M_ c_ A_ C
  replace C : Cx _ _ _ _ _ _ _ _ RX12 _ _ _ _ := C
  refine j_L [0] [(0, .int v)] rfl ?_
  refine j_iload_n C 0 dX12_isDigit_0 rfl ?_
  refine j_bipush C (v := (nI 48)) dX12_isDigit_1 (by decide) ?_
  refine j_bipush C (v := (nI 57)) dX12_isDigit_3 (by decide) ?_
  refine j_callS (As := [.int v, .int (nI 48), .int (nI 57)]) (rest := []) C vw12_in (c_in) rfl (Nat.le_of_ble_eq_true rfl) dX12_isDigit_5 (by decide) ?_
  rintro _ _ ⟨rfl, rfl⟩
  refine j_zret C dX12_isDigit_8 (bI_01 _) ?_
  exact ⟨rfl, rfl⟩
theorem dX12_isSheet_0 : decode cX12_isSheet 0 = .ok (.iload_n 0, 1) := by decide +kernel
theorem dX12_isSheet_1 : decode cX12_isSheet 1 = .ok (.iconst 0, 1) := by decide +kernel
theorem dX12_isSheet_2 : decode cX12_isSheet 2 = .ok (.iconst 3, 1) := by decide +kernel
theorem dX12_isSheet_3 : decode cX12_isSheet 3 = .ok (.invokestatic 51, 3) := by decide +kernel
theorem dX12_isSheet_6 : decode cX12_isSheet 6 = .ok (.ireturn, 1) := by decide +kernel
set_option maxHeartbeats 2000000 in
set_option maxRecDepth 20000 in
theorem c_isSheet {l : Launch} {D : va_G} {cI cG cW : ClassId} {S : Type} {Wd : S → va_W} {σ : S} {v : Int32} : Ci l yX12_isSheet cX12_isSheet 1 (some .boolean) 1 D (tyL cI cG cW) Wd [.int v] σ (fun r τ => r = bI (inn v 0 3) ∧ τ = σ) := by
  refine Ci.of (by decide) (Nat.le_of_ble_eq_true rfl) ?_
  intro p_ e_ s_ m_ b_ M_ c_ A_ C
  replace C : Cx _ _ _ _ _ _ _ _ RX12 _ _ _ _ := C
  refine j_L [0] [(0, .int v)] rfl ?_
  refine j_iload_n C 0 dX12_isSheet_0 rfl ?_
  refine j_iconst C (v := (nI 0)) dX12_isSheet_1 (by decide) ?_
  refine j_iconst C (v := (nI 3)) dX12_isSheet_2 (by decide) ?_
  refine j_callS (As := [.int v, .int (nI 0), .int (nI 3)]) (rest := []) C vw12_in (c_in) rfl (Nat.le_of_ble_eq_true rfl) dX12_isSheet_3 (by decide) ?_
  rintro _ _ ⟨rfl, rfl⟩
  refine j_zret C dX12_isSheet_6 (bI_01 _) ?_
  exact ⟨rfl, rfl⟩
theorem dX12_fails_0 : decode cX12_fails 0 = .ok (.aload_n 0, 1) := by decide +kernel
theorem dX12_fails_1 : decode cX12_fails 1 = .ok (.iconst 0, 1) := by decide +kernel
theorem dX12_fails_2 : decode cX12_fails 2 = .ok (.putfield 105, 3) := by decide +kernel
theorem dX12_fails_5 : decode cX12_fails 5 = .ok (.iconst 0, 1) := by decide +kernel
theorem dX12_fails_6 : decode cX12_fails 6 = .ok (.ireturn, 1) := by decide +kernel
set_option maxHeartbeats 2000000 in
set_option maxRecDepth 20000 in
theorem c_fails {l : Launch} {D : va_G} {cI cG cW : ClassId} {o : Nat} {q : Nat → Nat} {V row kept tried bf fd pk bo so sh mv tr : Nat → Int32}  : Ci l yX12_fails cX12_fails 1 (some .int) 0 D (tyL cI cG cW) (wR cI o q) [.ref o] (sR V row kept tried bf fd pk bo so sh mv tr) (fun r τ => r = 0 ∧ τ = sR (upd V 14 0) row kept tried bf fd pk bo so sh mv tr) := by
  refine Ci.of (by decide) (Nat.le_of_ble_eq_true rfl) ?_
  intro p_ e_ s_ m_ b_ M_ c_ A_ C
  replace C : Cx _ _ _ _ _ _ _ _ RX12 _ _ _ _ := C
  refine j_L [0] [(0, .ref o)] rfl ?_
  refine j_aload_n C 0 dX12_fails_0 rfl ?_
  refine j_iconst C (v := (nI 0)) dX12_fails_1 (by decide) ?_
  refine rp_14 C (by decide) kf12_105 dX12_fails_2 ?_
  refine j_iconst C (v := (nI 0)) dX12_fails_5 (by decide) ?_
  refine j_iret C dX12_fails_6 ?_
  exact ⟨rfl, rfl⟩
theorem dX12_moveAll_0 : decode cX12_moveAll 0 = .ok (.iconst 0, 1) := by decide +kernel
theorem dX12_moveAll_1 : decode cX12_moveAll 1 = .ok (.istore_n 3, 1) := by decide +kernel
theorem dX12_moveAll_2 : decode cX12_moveAll 2 = .ok (.iload_n 3, 1) := by decide +kernel
theorem dX12_moveAll_3 : decode cX12_moveAll 3 = .ok (.sipush 260, 3) := by decide +kernel
theorem dX12_moveAll_6 : decode cX12_moveAll 6 = .ok (.if_icmp .ge 15, 3) := by decide +kernel
theorem dX12_moveAll_9 : decode cX12_moveAll 9 = .ok (.aload_n 2, 1) := by decide +kernel
theorem dX12_moveAll_10 : decode cX12_moveAll 10 = .ok (.iload_n 3, 1) := by decide +kernel
theorem dX12_moveAll_11 : decode cX12_moveAll 11 = .ok (.aload_n 1, 1) := by decide +kernel
theorem dX12_moveAll_12 : decode cX12_moveAll 12 = .ok (.iload_n 3, 1) := by decide +kernel
theorem dX12_moveAll_13 : decode cX12_moveAll 13 = .ok (.iaload, 1) := by decide +kernel
theorem dX12_moveAll_14 : decode cX12_moveAll 14 = .ok (.iastore, 1) := by decide +kernel
theorem dX12_moveAll_15 : decode cX12_moveAll 15 = .ok (.iinc 3 1, 3) := by decide +kernel
theorem dX12_moveAll_18 : decode cX12_moveAll 18 = .ok (.goto (-16), 3) := by decide +kernel
theorem dX12_moveAll_21 : decode cX12_moveAll 21 = .ok (.return_, 1) := by decide +kernel
set_option maxHeartbeats 2000000 in
set_option maxRecDepth 20000 in
theorem c_moveAll_row_bf {l : Launch} {D : va_G} {cI cG cW : ClassId} {o : Nat} {q : Nat → Nat} {V row kept tried bf fd pk bo so sh mv tr : Nat → Int32}  : Cv l yX12_moveAll cX12_moveAll 4 none 0 D (tyL cI cG cW) (wR cI o q) [.ref o, .ref (q 0), .ref (q 3)] (sR V row kept tried bf fd pk bo so sh mv tr) (fun τ => τ = (sR V row kept tried row fd pk bo so sh mv tr)) := by
  refine Cv.of (by decide) (Nat.le_of_ble_eq_true rfl) ?_
  intro p_ e_ s_ m_ b_ M_ c_ A_ C
  replace C : Cx _ _ _ _ _ _ _ _ RX12 _ _ _ _ := C
  refine j_L [0, 1, 2] [(0, .ref o), (1, .ref (q 0)), (2, .ref (q 3))] rfl ?_
  refine j_iconst C (v := (nI 0)) dX12_moveAll_0 (by decide) ?_
  refine j_istore_n C [(3, .int (nI 0)), (0, .ref o), (1, .ref (q 0)), (2, .ref (q 3))] dX12_moveAll_1 (by decide) rfl ?_
  refine j_L [1, 2, 3, 0] [(0, .ref o), (1, .ref (q 0)), (2, .ref (q 3)), (3, .int (nI 0))] rfl ?_
  refine j_loop (X := Nat × (Nat → Int32)) (fun (z : Nat × (Nat → Int32)) => match z with | (i, g) => i ≤ 260 ∧ ∀ j, j < i → g j = row j) (fun (z : Nat × (Nat → Int32)) => match z with | (i, g) => 260 - i) (fun (z : Nat × (Nat → Int32)) => match z with | (i, g) => (sR V row kept tried g fd pk bo so sh mv tr)) (fun (z : Nat × (Nat → Int32)) => match z with | (i, g) => [(0, .ref o), (1, .ref (q 0)), (2, .ref (q 3)), (3, .int (nI i))]) (0, bf) (⟨by omega, fun j h => absurd h (Nat.not_lt_zero _)⟩) rfl rfl ?_
  rintro ⟨i, g⟩ ⟨hi, hg⟩ ih
  try dsimp only at ih ⊢
  refine j_iload_n C 3 dX12_moveAll_2 rfl ?_
  refine j_sipush C (v := (nI 260)) dX12_moveAll_3 (by decide) ?_
  refine j_icmp_ge C 21 dX12_moveAll_6 (by decide) (fun c6 => ?_) (fun c6 => ?_)
  · rw [nI_leI (by omega) (by omega)] at c6
    refine re_bf row (fun j h => hg j (by omega)) ?_
    refine j_vret C dX12_moveAll_21 ?_
    exact rfl
  · rw [nI_leI (by omega) (by omega)] at c6
    refine j_aload_n C 2 dX12_moveAll_9 rfl ?_
    refine j_iload_n C 3 dX12_moveAll_10 rfl ?_
    refine j_aload_n C 1 dX12_moveAll_11 rfl ?_
    refine j_iload_n C 3 dX12_moveAll_12 rfl ?_
    refine rl_row C i rfl (by omega) dX12_moveAll_13 ?_
    refine rs_bf C i rfl (by omega) dX12_moveAll_14 ?_
    refine j_iinc C (v := (nI (i + 1))) 3 [(3, .int (nI (i + 1))), (0, .ref o), (1, .ref (q 0)), (2, .ref (q 3))] dX12_moveAll_15 rfl (nI_1 _) (by decide) rfl ?_
    refine j_goto C 2 dX12_moveAll_18 (by decide) ?_
    refine j_L [1, 2, 3, 0] [(0, .ref o), (1, .ref (q 0)), (2, .ref (q 3)), (3, .int (nI (i + 1)))] rfl ?_
    exact ih (i + 1, upd g i (row i)) (⟨by dsimp only; omega, upd_fill hg⟩) (by dsimp only; omega)
set_option maxHeartbeats 2000000 in
set_option maxRecDepth 20000 in
theorem c_moveAll_bf_row {l : Launch} {D : va_G} {cI cG cW : ClassId} {o : Nat} {q : Nat → Nat} {V row kept tried bf fd pk bo so sh mv tr : Nat → Int32}  : Cv l yX12_moveAll cX12_moveAll 4 none 0 D (tyL cI cG cW) (wR cI o q) [.ref o, .ref (q 3), .ref (q 0)] (sR V row kept tried bf fd pk bo so sh mv tr) (fun τ => τ = (sR V bf kept tried bf fd pk bo so sh mv tr)) := by
  refine Cv.of (by decide) (Nat.le_of_ble_eq_true rfl) ?_
  intro p_ e_ s_ m_ b_ M_ c_ A_ C
  replace C : Cx _ _ _ _ _ _ _ _ RX12 _ _ _ _ := C
  refine j_L [0, 1, 2] [(0, .ref o), (1, .ref (q 3)), (2, .ref (q 0))] rfl ?_
  refine j_iconst C (v := (nI 0)) dX12_moveAll_0 (by decide) ?_
  refine j_istore_n C [(3, .int (nI 0)), (0, .ref o), (1, .ref (q 3)), (2, .ref (q 0))] dX12_moveAll_1 (by decide) rfl ?_
  refine j_L [1, 2, 3, 0] [(0, .ref o), (1, .ref (q 3)), (2, .ref (q 0)), (3, .int (nI 0))] rfl ?_
  refine j_loop (X := Nat × (Nat → Int32)) (fun (z : Nat × (Nat → Int32)) => match z with | (i, g) => i ≤ 260 ∧ ∀ j, j < i → g j = bf j) (fun (z : Nat × (Nat → Int32)) => match z with | (i, g) => 260 - i) (fun (z : Nat × (Nat → Int32)) => match z with | (i, g) => (sR V g kept tried bf fd pk bo so sh mv tr)) (fun (z : Nat × (Nat → Int32)) => match z with | (i, g) => [(0, .ref o), (1, .ref (q 3)), (2, .ref (q 0)), (3, .int (nI i))]) (0, row) (⟨by omega, fun j h => absurd h (Nat.not_lt_zero _)⟩) rfl rfl ?_
  rintro ⟨i, g⟩ ⟨hi, hg⟩ ih
  try dsimp only at ih ⊢
  refine j_iload_n C 3 dX12_moveAll_2 rfl ?_
  refine j_sipush C (v := (nI 260)) dX12_moveAll_3 (by decide) ?_
  refine j_icmp_ge C 21 dX12_moveAll_6 (by decide) (fun c6 => ?_) (fun c6 => ?_)
  · rw [nI_leI (by omega) (by omega)] at c6
    refine re_row bf (fun j h => hg j (by omega)) ?_
    refine j_vret C dX12_moveAll_21 ?_
    exact rfl
  · rw [nI_leI (by omega) (by omega)] at c6
    refine j_aload_n C 2 dX12_moveAll_9 rfl ?_
    refine j_iload_n C 3 dX12_moveAll_10 rfl ?_
    refine j_aload_n C 1 dX12_moveAll_11 rfl ?_
    refine j_iload_n C 3 dX12_moveAll_12 rfl ?_
    refine rl_bf C i rfl (by omega) dX12_moveAll_13 ?_
    refine rs_row C i rfl (by omega) dX12_moveAll_14 ?_
    refine j_iinc C (v := (nI (i + 1))) 3 [(3, .int (nI (i + 1))), (0, .ref o), (1, .ref (q 3)), (2, .ref (q 0))] dX12_moveAll_15 rfl (nI_1 _) (by decide) rfl ?_
    refine j_goto C 2 dX12_moveAll_18 (by decide) ?_
    refine j_L [1, 2, 3, 0] [(0, .ref o), (1, .ref (q 3)), (2, .ref (q 0)), (3, .int (nI (i + 1)))] rfl ?_
    exact ih (i + 1, upd g i (bf i)) (⟨by dsimp only; omega, upd_fill hg⟩) (by dsimp only; omega)
set_option maxHeartbeats 2000000 in
set_option maxRecDepth 20000 in
theorem c_moveAll_row_tried {l : Launch} {D : va_G} {cI cG cW : ClassId} {o : Nat} {q : Nat → Nat} {V row kept tried bf fd pk bo so sh mv tr : Nat → Int32}  : Cv l yX12_moveAll cX12_moveAll 4 none 0 D (tyL cI cG cW) (wR cI o q) [.ref o, .ref (q 0), .ref (q 2)] (sR V row kept tried bf fd pk bo so sh mv tr) (fun τ => τ = (sR V row kept row bf fd pk bo so sh mv tr)) := by
  refine Cv.of (by decide) (Nat.le_of_ble_eq_true rfl) ?_
  intro p_ e_ s_ m_ b_ M_ c_ A_ C
  replace C : Cx _ _ _ _ _ _ _ _ RX12 _ _ _ _ := C
  refine j_L [0, 1, 2] [(0, .ref o), (1, .ref (q 0)), (2, .ref (q 2))] rfl ?_
  refine j_iconst C (v := (nI 0)) dX12_moveAll_0 (by decide) ?_
  refine j_istore_n C [(3, .int (nI 0)), (0, .ref o), (1, .ref (q 0)), (2, .ref (q 2))] dX12_moveAll_1 (by decide) rfl ?_
  refine j_L [1, 2, 3, 0] [(0, .ref o), (1, .ref (q 0)), (2, .ref (q 2)), (3, .int (nI 0))] rfl ?_
  refine j_loop (X := Nat × (Nat → Int32)) (fun (z : Nat × (Nat → Int32)) => match z with | (i, g) => i ≤ 260 ∧ ∀ j, j < i → g j = row j) (fun (z : Nat × (Nat → Int32)) => match z with | (i, g) => 260 - i) (fun (z : Nat × (Nat → Int32)) => match z with | (i, g) => (sR V row kept g bf fd pk bo so sh mv tr)) (fun (z : Nat × (Nat → Int32)) => match z with | (i, g) => [(0, .ref o), (1, .ref (q 0)), (2, .ref (q 2)), (3, .int (nI i))]) (0, tried) (⟨by omega, fun j h => absurd h (Nat.not_lt_zero _)⟩) rfl rfl ?_
  rintro ⟨i, g⟩ ⟨hi, hg⟩ ih
  try dsimp only at ih ⊢
  refine j_iload_n C 3 dX12_moveAll_2 rfl ?_
  refine j_sipush C (v := (nI 260)) dX12_moveAll_3 (by decide) ?_
  refine j_icmp_ge C 21 dX12_moveAll_6 (by decide) (fun c6 => ?_) (fun c6 => ?_)
  · rw [nI_leI (by omega) (by omega)] at c6
    refine re_tried row (fun j h => hg j (by omega)) ?_
    refine j_vret C dX12_moveAll_21 ?_
    exact rfl
  · rw [nI_leI (by omega) (by omega)] at c6
    refine j_aload_n C 2 dX12_moveAll_9 rfl ?_
    refine j_iload_n C 3 dX12_moveAll_10 rfl ?_
    refine j_aload_n C 1 dX12_moveAll_11 rfl ?_
    refine j_iload_n C 3 dX12_moveAll_12 rfl ?_
    refine rl_row C i rfl (by omega) dX12_moveAll_13 ?_
    refine rs_tried C i rfl (by omega) dX12_moveAll_14 ?_
    refine j_iinc C (v := (nI (i + 1))) 3 [(3, .int (nI (i + 1))), (0, .ref o), (1, .ref (q 0)), (2, .ref (q 2))] dX12_moveAll_15 rfl (nI_1 _) (by decide) rfl ?_
    refine j_goto C 2 dX12_moveAll_18 (by decide) ?_
    refine j_L [1, 2, 3, 0] [(0, .ref o), (1, .ref (q 0)), (2, .ref (q 2)), (3, .int (nI (i + 1)))] rfl ?_
    exact ih (i + 1, upd g i (row i)) (⟨by dsimp only; omega, upd_fill hg⟩) (by dsimp only; omega)
set_option maxHeartbeats 2000000 in
set_option maxRecDepth 20000 in
theorem c_moveAll_tried_row {l : Launch} {D : va_G} {cI cG cW : ClassId} {o : Nat} {q : Nat → Nat} {V row kept tried bf fd pk bo so sh mv tr : Nat → Int32}  : Cv l yX12_moveAll cX12_moveAll 4 none 0 D (tyL cI cG cW) (wR cI o q) [.ref o, .ref (q 2), .ref (q 0)] (sR V row kept tried bf fd pk bo so sh mv tr) (fun τ => τ = (sR V tried kept tried bf fd pk bo so sh mv tr)) := by
  refine Cv.of (by decide) (Nat.le_of_ble_eq_true rfl) ?_
  intro p_ e_ s_ m_ b_ M_ c_ A_ C
  replace C : Cx _ _ _ _ _ _ _ _ RX12 _ _ _ _ := C
  refine j_L [0, 1, 2] [(0, .ref o), (1, .ref (q 2)), (2, .ref (q 0))] rfl ?_
  refine j_iconst C (v := (nI 0)) dX12_moveAll_0 (by decide) ?_
  refine j_istore_n C [(3, .int (nI 0)), (0, .ref o), (1, .ref (q 2)), (2, .ref (q 0))] dX12_moveAll_1 (by decide) rfl ?_
  refine j_L [1, 2, 3, 0] [(0, .ref o), (1, .ref (q 2)), (2, .ref (q 0)), (3, .int (nI 0))] rfl ?_
  refine j_loop (X := Nat × (Nat → Int32)) (fun (z : Nat × (Nat → Int32)) => match z with | (i, g) => i ≤ 260 ∧ ∀ j, j < i → g j = tried j) (fun (z : Nat × (Nat → Int32)) => match z with | (i, g) => 260 - i) (fun (z : Nat × (Nat → Int32)) => match z with | (i, g) => (sR V g kept tried bf fd pk bo so sh mv tr)) (fun (z : Nat × (Nat → Int32)) => match z with | (i, g) => [(0, .ref o), (1, .ref (q 2)), (2, .ref (q 0)), (3, .int (nI i))]) (0, row) (⟨by omega, fun j h => absurd h (Nat.not_lt_zero _)⟩) rfl rfl ?_
  rintro ⟨i, g⟩ ⟨hi, hg⟩ ih
  try dsimp only at ih ⊢
  refine j_iload_n C 3 dX12_moveAll_2 rfl ?_
  refine j_sipush C (v := (nI 260)) dX12_moveAll_3 (by decide) ?_
  refine j_icmp_ge C 21 dX12_moveAll_6 (by decide) (fun c6 => ?_) (fun c6 => ?_)
  · rw [nI_leI (by omega) (by omega)] at c6
    refine re_row tried (fun j h => hg j (by omega)) ?_
    refine j_vret C dX12_moveAll_21 ?_
    exact rfl
  · rw [nI_leI (by omega) (by omega)] at c6
    refine j_aload_n C 2 dX12_moveAll_9 rfl ?_
    refine j_iload_n C 3 dX12_moveAll_10 rfl ?_
    refine j_aload_n C 1 dX12_moveAll_11 rfl ?_
    refine j_iload_n C 3 dX12_moveAll_12 rfl ?_
    refine rl_tried C i rfl (by omega) dX12_moveAll_13 ?_
    refine rs_row C i rfl (by omega) dX12_moveAll_14 ?_
    refine j_iinc C (v := (nI (i + 1))) 3 [(3, .int (nI (i + 1))), (0, .ref o), (1, .ref (q 2)), (2, .ref (q 0))] dX12_moveAll_15 rfl (nI_1 _) (by decide) rfl ?_
    refine j_goto C 2 dX12_moveAll_18 (by decide) ?_
    refine j_L [1, 2, 3, 0] [(0, .ref o), (1, .ref (q 2)), (2, .ref (q 0)), (3, .int (nI (i + 1)))] rfl ?_
    exact ih (i + 1, upd g i (tried i)) (⟨by dsimp only; omega, upd_fill hg⟩) (by dsimp only; omega)
set_option maxHeartbeats 2000000 in
set_option maxRecDepth 20000 in
theorem c_moveAll_row_kept {l : Launch} {D : va_G} {cI cG cW : ClassId} {o : Nat} {q : Nat → Nat} {V row kept tried bf fd pk bo so sh mv tr : Nat → Int32}  : Cv l yX12_moveAll cX12_moveAll 4 none 0 D (tyL cI cG cW) (wR cI o q) [.ref o, .ref (q 0), .ref (q 1)] (sR V row kept tried bf fd pk bo so sh mv tr) (fun τ => τ = (sR V row row tried bf fd pk bo so sh mv tr)) := by
  refine Cv.of (by decide) (Nat.le_of_ble_eq_true rfl) ?_
  intro p_ e_ s_ m_ b_ M_ c_ A_ C
  replace C : Cx _ _ _ _ _ _ _ _ RX12 _ _ _ _ := C
  refine j_L [0, 1, 2] [(0, .ref o), (1, .ref (q 0)), (2, .ref (q 1))] rfl ?_
  refine j_iconst C (v := (nI 0)) dX12_moveAll_0 (by decide) ?_
  refine j_istore_n C [(3, .int (nI 0)), (0, .ref o), (1, .ref (q 0)), (2, .ref (q 1))] dX12_moveAll_1 (by decide) rfl ?_
  refine j_L [1, 2, 3, 0] [(0, .ref o), (1, .ref (q 0)), (2, .ref (q 1)), (3, .int (nI 0))] rfl ?_
  refine j_loop (X := Nat × (Nat → Int32)) (fun (z : Nat × (Nat → Int32)) => match z with | (i, g) => i ≤ 260 ∧ ∀ j, j < i → g j = row j) (fun (z : Nat × (Nat → Int32)) => match z with | (i, g) => 260 - i) (fun (z : Nat × (Nat → Int32)) => match z with | (i, g) => (sR V row g tried bf fd pk bo so sh mv tr)) (fun (z : Nat × (Nat → Int32)) => match z with | (i, g) => [(0, .ref o), (1, .ref (q 0)), (2, .ref (q 1)), (3, .int (nI i))]) (0, kept) (⟨by omega, fun j h => absurd h (Nat.not_lt_zero _)⟩) rfl rfl ?_
  rintro ⟨i, g⟩ ⟨hi, hg⟩ ih
  try dsimp only at ih ⊢
  refine j_iload_n C 3 dX12_moveAll_2 rfl ?_
  refine j_sipush C (v := (nI 260)) dX12_moveAll_3 (by decide) ?_
  refine j_icmp_ge C 21 dX12_moveAll_6 (by decide) (fun c6 => ?_) (fun c6 => ?_)
  · rw [nI_leI (by omega) (by omega)] at c6
    refine re_kept row (fun j h => hg j (by omega)) ?_
    refine j_vret C dX12_moveAll_21 ?_
    exact rfl
  · rw [nI_leI (by omega) (by omega)] at c6
    refine j_aload_n C 2 dX12_moveAll_9 rfl ?_
    refine j_iload_n C 3 dX12_moveAll_10 rfl ?_
    refine j_aload_n C 1 dX12_moveAll_11 rfl ?_
    refine j_iload_n C 3 dX12_moveAll_12 rfl ?_
    refine rl_row C i rfl (by omega) dX12_moveAll_13 ?_
    refine rs_kept C i rfl (by omega) dX12_moveAll_14 ?_
    refine j_iinc C (v := (nI (i + 1))) 3 [(3, .int (nI (i + 1))), (0, .ref o), (1, .ref (q 0)), (2, .ref (q 1))] dX12_moveAll_15 rfl (nI_1 _) (by decide) rfl ?_
    refine j_goto C 2 dX12_moveAll_18 (by decide) ?_
    refine j_L [1, 2, 3, 0] [(0, .ref o), (1, .ref (q 0)), (2, .ref (q 1)), (3, .int (nI (i + 1)))] rfl ?_
    exact ih (i + 1, upd g i (row i)) (⟨by dsimp only; omega, upd_fill hg⟩) (by dsimp only; omega)
set_option maxHeartbeats 2000000 in
set_option maxRecDepth 20000 in
theorem c_moveAll_kept_row {l : Launch} {D : va_G} {cI cG cW : ClassId} {o : Nat} {q : Nat → Nat} {V row kept tried bf fd pk bo so sh mv tr : Nat → Int32}  : Cv l yX12_moveAll cX12_moveAll 4 none 0 D (tyL cI cG cW) (wR cI o q) [.ref o, .ref (q 1), .ref (q 0)] (sR V row kept tried bf fd pk bo so sh mv tr) (fun τ => τ = (sR V kept kept tried bf fd pk bo so sh mv tr)) := by
  refine Cv.of (by decide) (Nat.le_of_ble_eq_true rfl) ?_
  intro p_ e_ s_ m_ b_ M_ c_ A_ C
  replace C : Cx _ _ _ _ _ _ _ _ RX12 _ _ _ _ := C
  refine j_L [0, 1, 2] [(0, .ref o), (1, .ref (q 1)), (2, .ref (q 0))] rfl ?_
  refine j_iconst C (v := (nI 0)) dX12_moveAll_0 (by decide) ?_
  refine j_istore_n C [(3, .int (nI 0)), (0, .ref o), (1, .ref (q 1)), (2, .ref (q 0))] dX12_moveAll_1 (by decide) rfl ?_
  refine j_L [1, 2, 3, 0] [(0, .ref o), (1, .ref (q 1)), (2, .ref (q 0)), (3, .int (nI 0))] rfl ?_
  refine j_loop (X := Nat × (Nat → Int32)) (fun (z : Nat × (Nat → Int32)) => match z with | (i, g) => i ≤ 260 ∧ ∀ j, j < i → g j = kept j) (fun (z : Nat × (Nat → Int32)) => match z with | (i, g) => 260 - i) (fun (z : Nat × (Nat → Int32)) => match z with | (i, g) => (sR V g kept tried bf fd pk bo so sh mv tr)) (fun (z : Nat × (Nat → Int32)) => match z with | (i, g) => [(0, .ref o), (1, .ref (q 1)), (2, .ref (q 0)), (3, .int (nI i))]) (0, row) (⟨by omega, fun j h => absurd h (Nat.not_lt_zero _)⟩) rfl rfl ?_
  rintro ⟨i, g⟩ ⟨hi, hg⟩ ih
  try dsimp only at ih ⊢
  refine j_iload_n C 3 dX12_moveAll_2 rfl ?_
  refine j_sipush C (v := (nI 260)) dX12_moveAll_3 (by decide) ?_
  refine j_icmp_ge C 21 dX12_moveAll_6 (by decide) (fun c6 => ?_) (fun c6 => ?_)
  · rw [nI_leI (by omega) (by omega)] at c6
    refine re_row kept (fun j h => hg j (by omega)) ?_
    refine j_vret C dX12_moveAll_21 ?_
    exact rfl
  · rw [nI_leI (by omega) (by omega)] at c6
    refine j_aload_n C 2 dX12_moveAll_9 rfl ?_
    refine j_iload_n C 3 dX12_moveAll_10 rfl ?_
    refine j_aload_n C 1 dX12_moveAll_11 rfl ?_
    refine j_iload_n C 3 dX12_moveAll_12 rfl ?_
    refine rl_kept C i rfl (by omega) dX12_moveAll_13 ?_
    refine rs_row C i rfl (by omega) dX12_moveAll_14 ?_
    refine j_iinc C (v := (nI (i + 1))) 3 [(3, .int (nI (i + 1))), (0, .ref o), (1, .ref (q 1)), (2, .ref (q 0))] dX12_moveAll_15 rfl (nI_1 _) (by decide) rfl ?_
    refine j_goto C 2 dX12_moveAll_18 (by decide) ?_
    refine j_L [1, 2, 3, 0] [(0, .ref o), (1, .ref (q 1)), (2, .ref (q 0)), (3, .int (nI (i + 1)))] rfl ?_
    exact ih (i + 1, upd g i (kept i)) (⟨by dsimp only; omega, upd_fill hg⟩) (by dsimp only; omega)

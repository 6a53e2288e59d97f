/-! The reader of texts: how many steps it lays, and what they are worth. -/
section PRL
variable {b : Nat → Int32} {n u : Nat}
theorem lv_mem {c : Int32} (h : lvF c ≤ 4) : c = 124 ∨ c = 38 ∨ c = 60 ∨ c = 61 ∨ c = 62 ∨ c = 43 ∨ c = 45 ∨ c = 42 ∨ c = 47 ∨ c = 37 := by
  unfold lvF at h
  by_cases h1 : c = 124
  · exact Or.inl h1
  rw [if_neg h1] at h
  by_cases h2 : c = 38
  · exact Or.inr (Or.inl h2)
  rw [if_neg h2] at h
  by_cases h3 : c = 60 ∨ c = 61 ∨ c = 62
  · rcases h3 with h | h | h
    · exact Or.inr (Or.inr (Or.inl h))
    · exact Or.inr (Or.inr (Or.inr (Or.inl h)))
    · exact Or.inr (Or.inr (Or.inr (Or.inr (Or.inl h))))
  rw [if_neg h3] at h
  by_cases h4 : c = 43 ∨ c = 45
  · rcases h4 with h | h
    · exact Or.inr (Or.inr (Or.inr (Or.inr (Or.inr (Or.inl h)))))
    · exact Or.inr (Or.inr (Or.inr (Or.inr (Or.inr (Or.inr (Or.inl h))))))
  rw [if_neg h4] at h
  by_cases h5 : c = 42 ∨ c = 47 ∨ c = 37
  · rcases h5 with h | h | h
    · exact Or.inr (Or.inr (Or.inr (Or.inr (Or.inr (Or.inr (Or.inr (Or.inl h)))))))
    · exact Or.inr (Or.inr (Or.inr (Or.inr (Or.inr (Or.inr (Or.inr (Or.inr (Or.inl h))))))))
    · exact Or.inr (Or.inr (Or.inr (Or.inr (Or.inr (Or.inr (Or.inr (Or.inr (Or.inr h))))))))
  rw [if_neg h5] at h
  omega
theorem lv_sg {c : Int32} (h : lvF c ≤ 4) : ¬ -3 ≤ -c ∧ ¬ -c = -33 ∧ - -c = c := by
  rcases lv_mem h with rfl | rfl | rfl | rfl | rfl | rfl | rfl | rfl | rfl | rfl <;> decide
theorem lv_2 {c : Int32} : lvF c = 2 ↔ c = 60 ∨ c = 61 ∨ c = 62 := by
  constructor
  · intro h
    rcases lv_mem (c := c) (by omega) with rfl | rfl | rfl | rfl | rfl | rfl | rfl | rfl | rfl | rfl <;> first | exact Or.inl rfl | exact Or.inr (Or.inl rfl) | exact Or.inr (Or.inr rfl) | exact absurd h (by decide)
  · rintro (rfl | rfl | rfl) <;> decide
theorem lvF_le (c : Int32) : lvF c ≤ 5 := by
  unfold lvF
  repeat (first | (split; first | omega | skip) | omega)
theorem nam_m1 (u : Nat) : namF u (-1) = 3 := by
  unfold namF
  by_cases hu : u = 0
  · rw [if_pos hu, if_pos hu, if_pos hu]; decide
  · rw [if_neg hu, if_neg hu, if_neg hu]; decide
theorem prs_len (f : Nat) : ∀ (lvl : Nat) (q : Bool) (op k : Nat) (code : List Int32), lvl ≤ 5 → (q = true → lvl ≤ 4) → k ≤ n → (prs b n u f lvl q op k code).2.2.length + k ≤ code.length + (prs b n u f lvl q op k code).2.1 := by
  induction f with
  | zero => intro lvl q op k code _ _ hk; exact Nat.le_refl _
  | succ f ih =>
    intro lvl q op k code h5 h4 hk
    cases q with
    | true =>
      have h4 := h4 rfl
      by_cases h : lvF (bytF b n k) = lvl
      · have hl : k < n := byt_lt (fun e => by
          rw [e, show lvF (-1) = 5 from by decide] at h
          omega)
        have i1 := ih (lvl + 1) false op (k + 1) code (by omega) (fun h => by cases h) (by omega)
        have i2 := (prs_pr (b := b) (n := n) (u := u) f (lvl + 1) false op (k + 1) code (by omega) (fun h => by cases h) (by omega)).2.1
        cases g : (prs b n u f (lvl + 1) false op (k + 1) code).1 with
        | false => rw [prs_lf h g]; omega
        | true =>
          by_cases h2 : lvl = 2
          · subst h2; rw [prs_l2 h g]
            show ((prs b n u f 3 false op (k + 1) code).2.2 ++ [-(bytF b n k)]).length + k ≤ code.length + (prs b n u f 3 false op (k + 1) code).2.1
            rw [List.length_append, List.length_singleton]
            have i3 : (prs b n u f 3 false op (k + 1) code).2.2.length + (k + 1) ≤ code.length + (prs b n u f 3 false op (k + 1) code).2.1 := i1
            omega
          · rw [prs_lt h h2 g]
            have j1 := ih lvl true op (prs b n u f (lvl + 1) false op (k + 1) code).2.1 ((prs b n u f (lvl + 1) false op (k + 1) code).2.2 ++ [-(bytF b n k)]) h5 (fun _ => h4) i2
            rw [List.length_append, List.length_singleton] at j1
            omega
      · rw [prs_no h]; exact Nat.le_refl _
    | false =>
      by_cases hv : lvl = 5
      · subst hv
        by_cases h : inn (bytF b n k) 48 57
        · rw [prs_num h]
          obtain ⟨j1, j2, j3⟩ := numF_pr (b := b) (n := n) 4 k 0 hk
          have j4 := j3 h (by omega)
          show (code ++ [(numF b n 4 k 0).2]).length + k ≤ code.length + (numF b n 4 k 0).1
          rw [List.length_append, List.length_singleton]; omega
        · by_cases g : bytF b n k = 33
          · have hl : k < n := byt_lt (by rw [g]; decide)
            by_cases ho : op = 5
            · rw [prs_full h (Or.inl g) ho]; exact Nat.le_refl _
            · rw [prs_not h g ho]
              have j1 := ih 5 false (op + 1) (k + 1) code (Nat.le_refl _) (fun h => by cases h) (by omega)
              show ((prs b n u f 5 false (op + 1) (k + 1) code).2.2 ++ [-33]).length + k ≤ code.length + (prs b n u f 5 false (op + 1) (k + 1) code).2.1
              rw [List.length_append, List.length_singleton]; omega
          · by_cases g2 : bytF b n k = 40
            · have hl : k < n := byt_lt (by rw [g2]; decide)
              by_cases ho : op = 5
              · rw [prs_full h (Or.inr g2) ho]; exact Nat.le_refl _
              · have j1 := ih 0 false (op + 1) (k + 1) code (by omega) (fun h => by cases h) (by omega)
                by_cases c : (prs b n u f 0 false (op + 1) (k + 1) code).1 = true ∧ bytF b n (prs b n u f 0 false (op + 1) (k + 1) code).2.1 = 41
                · rw [prs_pt h g2 ho c]; dsimp only; omega
                · rw [prs_pf h g2 ho c]; dsimp only; omega
            · by_cases hn : namF u (bytF b n k) < 3
              · rw [prs_nam h g g2 hn]
                show (code ++ [-1 - nI (namF u (bytF b n k))]).length + k ≤ code.length + (k + 1)
                rw [List.length_append, List.length_singleton]; omega
              · rw [prs_bad h g g2 hn]; exact Nat.le_refl _
      · have i1 := ih (lvl + 1) false op k code (by omega) (fun h => by cases h) hk
        have i2 := (prs_pr (b := b) (n := n) (u := u) f (lvl + 1) false op k code (by omega) (fun h => by cases h) hk).2.1
        cases g : (prs b n u f (lvl + 1) false op k code).1 with
        | false => rw [prs_uf hv g]; exact i1
        | true =>
          rw [prs_ut hv g]
          have j1 := ih lvl true op (prs b n u f (lvl + 1) false op k code).2.1 (prs b n u f (lvl + 1) false op k code).2.2 h5 (fun _ => by omega) i2
          omega
theorem prs_seg (x y z : Int32) (f : Nat) : ∀ (lvl : Nat) (q : Bool) (op k : Nat) (code : List Int32), lvl ≤ 5 → (q = true → lvl ≤ 4) → (prs b n u f lvl q op k code).1 = true → (q = false → ∃ seg v, (prs b n u f lvl q op k code).2.2 = code ++ seg ∧ Seg x y z seg v) ∧ (q = true → ∀ code0 seg0 v0, code = code0 ++ seg0 → Seg x y z seg0 v0 → ∃ seg v, (prs b n u f lvl q op k code).2.2 = code0 ++ seg ∧ Seg x y z seg v) := by
  induction f with
  | zero => intro lvl q op k code _ _ h; unfold prs at h; cases h
  | succ f ih =>
    intro lvl q op k code h5 h4 hres
    cases q with
    | true =>
      refine ⟨fun h => by (cases h), fun _ code0 seg0 v0 hc hs => ?_⟩
      have h4 := h4 rfl
      by_cases h : lvF (bytF b n k) = lvl
      · cases g : (prs b n u f (lvl + 1) false op (k + 1) code).1 with
        | false => rw [prs_lf h g, g] at hres; cases hres
        | true =>
          obtain ⟨seg1, v1, hc1, hs1⟩ := (ih (lvl + 1) false op (k + 1) code (by omega) (fun h => by cases h) g).1 rfl
          obtain ⟨k1, k2, k3⟩ := lv_sg (c := bytF b n k) (by omega)
          have hj := hs.join hs1 (sg := bytF b n k) k1 k2 k3
          have hcc : (prs b n u f (lvl + 1) false op (k + 1) code).2.2 ++ [-(bytF b n k)] = code0 ++ (seg0 ++ seg1 ++ [-(bytF b n k)]) := by
            rw [hc1, hc, List.append_assoc, List.append_assoc, List.append_assoc]
          by_cases h2 : lvl = 2
          · subst h2; rw [prs_l2 h g]; exact ⟨_, _, hcc, hj⟩
          · rw [prs_lt h h2 g] at hres ⊢
            exact (ih lvl true op _ _ h5 (fun _ => h4) hres).2 rfl code0 _ _ hcc hj
      · rw [prs_no h]; exact ⟨seg0, v0, hc, hs⟩
    | false =>
      refine ⟨fun _ => ?_, fun h => by (cases h)⟩
      by_cases hv : lvl = 5
      · subst hv
        by_cases h : inn (bytF b n k) 48 57
        · rw [prs_num h]; exact ⟨_, _, rfl, Seg.num (num_nn b n k)⟩
        · by_cases g : bytF b n k = 33
          · by_cases ho : op = 5
            · rw [prs_full h (Or.inl g) ho] at hres; cases hres
            · rw [prs_not h g ho] at hres ⊢
              obtain ⟨seg, v, hc, hs⟩ := (ih 5 false (op + 1) (k + 1) code (Nat.le_refl _) (fun h => by cases h) hres).1 rfl
              exact ⟨seg ++ [-33], _, by dsimp only; rw [hc, List.append_assoc], hs.not⟩
          · by_cases g2 : bytF b n k = 40
            · by_cases ho : op = 5
              · rw [prs_full h (Or.inr g2) ho] at hres; cases hres
              · by_cases c : (prs b n u f 0 false (op + 1) (k + 1) code).1 = true ∧ bytF b n (prs b n u f 0 false (op + 1) (k + 1) code).2.1 = 41
                · rw [prs_pt h g2 ho c]
                  exact (ih 0 false (op + 1) (k + 1) code (by omega) (fun h => by cases h) c.1).1 rfl
                · rw [prs_pf h g2 ho c] at hres; cases hres
            · by_cases hn : namF u (bytF b n k) < 3
              · rw [prs_nam h g g2 hn]; exact ⟨_, _, rfl, Seg.nam x y z hn⟩
              · rw [prs_bad h g g2 hn] at hres; cases hres
      · cases g : (prs b n u f (lvl + 1) false op k code).1 with
        | false => rw [prs_uf hv g, g] at hres; cases hres
        | true =>
          obtain ⟨seg1, v1, hc1, hs1⟩ := (ih (lvl + 1) false op k code (by omega) (fun h => by cases h) g).1 rfl
          rw [prs_ut hv g] at hres ⊢
          exact (ih lvl true op _ _ h5 (fun _ => by omega) hres).2 rfl code seg1 v1 hc1 hs1
end PRL

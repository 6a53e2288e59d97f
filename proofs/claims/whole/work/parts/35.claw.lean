/-! The class's laws: what a law's steps give. -/
theorem mm_hld (v : Int32) {M : Nat} (hM : M < 2 ^ 31) : (if nI 0 < (if nI M < v then nI M else v) then (if nI M < v then nI M else v) else nI 0) = hld v (nI 0) (nI M) := by
  unfold hld
  by_cases h1 : v < nI 0
  · rw [if_pos h1]
    have h2 : ¬ nI M < v := fun g => by
      rw [Int32.lt_iff_toInt_lt] at h1 g
      rw [nI_toInt hM] at g
      rw [nI_toInt (by omega)] at h1
      omega
    rw [if_neg h2, if_neg (fun g => by rw [Int32.lt_iff_toInt_lt] at h1 g; omega)]
  · rw [if_neg h1]
    by_cases h2 : nI M < v
    · rw [if_pos h2]
      by_cases h3 : nI 0 < nI M
      · rw [if_pos h3]
      · rw [if_neg h3]; rw [nI_ltI (by omega) hM] at h3; congr 1; omega
    · rw [if_neg h2]
      by_cases h3 : nI 0 < v
      · rw [if_pos h3]
      · rw [if_neg h3]
        apply Int32.toInt_inj.mp
        rw [Int32.lt_iff_toInt_lt] at h1 h3
        omega
/-- a law's row of steps is what the reader gives for the text of the use; no steps without a text -/
def CLaw (S : Nat → Int32) (X : Nat → Nat → Int32) (lam : Nat) (row : Nat → Int32) (u : Nat) : Prop :=
  (row (6 + u) = -1 ∧ S (23 + lam) = nI 0) ∨ ∃ n : Nat, n ≤ 50 ∧ row (6 + u) = nI n ∧ (∃ cd : List Int32, (readF (txF row u) n u).2.2 = cd ∧ S (23 + lam) = nI cd.length ∧ 0 < cd.length ∧ cd.length ≤ 50 ∧ (∀ j, j < cd.length → X (76 + lam) j = cd.getD j 0) ∧ ∀ a b c, ∃ v, exF a b c cd [] = some [v])
theorem take_s {cd : List Int32} {i : Nat} (h : i < cd.length) : cd.take (i + 1) = cd.take i ++ [cd.getD i 0] := by
  rw [List.take_succ, List.getD_eq_getElem?_getD, List.getElem?_eq_getElem h]; rfl
theorem ex_take {a b c : Int32} {cd l : List Int32} {i : Nat} {o : List Int32} (h : i < cd.length) (hl : exF a b c (cd.take i) [] = some l) (hx : exF a b c cd [] = some o) : ∃ l', stF a b c (cd.getD i 0) l = some l' ∧ exF a b c (cd.take (i + 1)) [] = some l' := by
  have e1 : cd = cd.take (i + 1) ++ cd.drop (i + 1) := (List.take_append_drop (i + 1) cd).symm
  rw [e1, exF_app] at hx
  cases hy : exF a b c (cd.take (i + 1)) [] with
  | none => rw [hy] at hx; cases hx
  | some l' =>
    refine ⟨l', ?_, rfl⟩
    rw [take_s h, exF_app, hl] at hy
    have hz : (stF a b c (cd.getD i 0) l).bind (exF a b c []) = some l' := hy
    cases hw : stF a b c (cd.getD i 0) l with
    | none => rw [hw] at hz; cases hz
    | some z => rw [hw] at hz; exact hz
/-- the stack's row holds the numbers, the lowest first -/
def StkR (g : Nat → Int32) (l : List Int32) : Prop := ∀ j, j < l.length → g j = l.getD (l.length - 1 - j) 0
theorem StkR.push {g : Nat → Int32} {l : List Int32} (h : StkR g l) (x : Int32) : StkR (upd g l.length x) (x :: l) := by
  intro j hj
  rw [List.length_cons] at hj
  by_cases e : j = l.length
  · subst e; rw [pk_us, List.length_cons, show l.length + 1 - 1 - l.length = 0 by omega]; rfl
  · rw [pk_un e, h j (by omega), List.length_cons, show l.length + 1 - 1 - j = (l.length - 1 - j) + 1 by omega]; rfl
theorem StkR.pop {g : Nat → Int32} {x : Int32} {l : List Int32} (h : StkR g (x :: l)) : StkR g l := by
  intro j hj
  rw [h j (by rw [List.length_cons]; omega), List.length_cons, show l.length + 1 - 1 - j = (l.length - 1 - j) + 1 by omega]; rfl
theorem StkR.top {g : Nat → Int32} {x : Int32} {l : List Int32} (h : StkR g (x :: l)) : g l.length = x := by
  rw [h l.length (by rw [List.length_cons]; omega), List.length_cons, show l.length + 1 - 1 - l.length = 0 by omega]; rfl

theorem dX4_joined_0 : decode cX4_joined 0 = .ok (.iload_n 0, 1) := by decide +kernel
theorem dX4_joined_1 : decode cX4_joined 1 = .ok (.lookupswitch 188 #[(37, 176), (38, 105), (42, 160), (43, 152), (45, 156), (47, 164), (60, 119), (61, 130), (62, 141), (124, 91)], 91) := by decide +kernel
theorem dX4_joined_92 : decode cX4_joined 92 = .ok (.iload_n 1, 1) := by decide +kernel
theorem dX4_joined_93 : decode cX4_joined 93 = .ok (.ifCond .ne 7, 3) := by decide +kernel
theorem dX4_joined_96 : decode cX4_joined 96 = .ok (.iload_n 2, 1) := by decide +kernel
theorem dX4_joined_97 : decode cX4_joined 97 = .ok (.ifCond .eq 7, 3) := by decide +kernel
theorem dX4_joined_100 : decode cX4_joined 100 = .ok (.iconst 1, 1) := by decide +kernel
theorem dX4_joined_101 : decode cX4_joined 101 = .ok (.goto 4, 3) := by decide +kernel
theorem dX4_joined_104 : decode cX4_joined 104 = .ok (.iconst 0, 1) := by decide +kernel
theorem dX4_joined_105 : decode cX4_joined 105 = .ok (.ireturn, 1) := by decide +kernel
theorem dX4_joined_106 : decode cX4_joined 106 = .ok (.iload_n 1, 1) := by decide +kernel
theorem dX4_joined_107 : decode cX4_joined 107 = .ok (.ifCond .eq 11, 3) := by decide +kernel
theorem dX4_joined_110 : decode cX4_joined 110 = .ok (.iload_n 2, 1) := by decide +kernel
theorem dX4_joined_111 : decode cX4_joined 111 = .ok (.ifCond .eq 7, 3) := by decide +kernel
theorem dX4_joined_114 : decode cX4_joined 114 = .ok (.iconst 1, 1) := by decide +kernel
theorem dX4_joined_115 : decode cX4_joined 115 = .ok (.goto 4, 3) := by decide +kernel
theorem dX4_joined_118 : decode cX4_joined 118 = .ok (.iconst 0, 1) := by decide +kernel
theorem dX4_joined_119 : decode cX4_joined 119 = .ok (.ireturn, 1) := by decide +kernel
theorem dX4_joined_120 : decode cX4_joined 120 = .ok (.iload_n 1, 1) := by decide +kernel
theorem dX4_joined_121 : decode cX4_joined 121 = .ok (.iload_n 2, 1) := by decide +kernel
theorem dX4_joined_122 : decode cX4_joined 122 = .ok (.if_icmp .ge 7, 3) := by decide +kernel
theorem dX4_joined_125 : decode cX4_joined 125 = .ok (.iconst 1, 1) := by decide +kernel
theorem dX4_joined_126 : decode cX4_joined 126 = .ok (.goto 4, 3) := by decide +kernel
theorem dX4_joined_129 : decode cX4_joined 129 = .ok (.iconst 0, 1) := by decide +kernel
theorem dX4_joined_130 : decode cX4_joined 130 = .ok (.ireturn, 1) := by decide +kernel
theorem dX4_joined_131 : decode cX4_joined 131 = .ok (.iload_n 1, 1) := by decide +kernel
theorem dX4_joined_132 : decode cX4_joined 132 = .ok (.iload_n 2, 1) := by decide +kernel
theorem dX4_joined_133 : decode cX4_joined 133 = .ok (.if_icmp .ne 7, 3) := by decide +kernel
theorem dX4_joined_136 : decode cX4_joined 136 = .ok (.iconst 1, 1) := by decide +kernel
theorem dX4_joined_137 : decode cX4_joined 137 = .ok (.goto 4, 3) := by decide +kernel
theorem dX4_joined_140 : decode cX4_joined 140 = .ok (.iconst 0, 1) := by decide +kernel
theorem dX4_joined_141 : decode cX4_joined 141 = .ok (.ireturn, 1) := by decide +kernel
theorem dX4_joined_142 : decode cX4_joined 142 = .ok (.iload_n 1, 1) := by decide +kernel
theorem dX4_joined_143 : decode cX4_joined 143 = .ok (.iload_n 2, 1) := by decide +kernel
theorem dX4_joined_144 : decode cX4_joined 144 = .ok (.if_icmp .le 7, 3) := by decide +kernel
theorem dX4_joined_147 : decode cX4_joined 147 = .ok (.iconst 1, 1) := by decide +kernel
theorem dX4_joined_148 : decode cX4_joined 148 = .ok (.goto 4, 3) := by decide +kernel
theorem dX4_joined_151 : decode cX4_joined 151 = .ok (.iconst 0, 1) := by decide +kernel
theorem dX4_joined_152 : decode cX4_joined 152 = .ok (.ireturn, 1) := by decide +kernel
theorem dX4_joined_153 : decode cX4_joined 153 = .ok (.iload_n 1, 1) := by decide +kernel
theorem dX4_joined_154 : decode cX4_joined 154 = .ok (.iload_n 2, 1) := by decide +kernel
theorem dX4_joined_155 : decode cX4_joined 155 = .ok (.iadd, 1) := by decide +kernel
theorem dX4_joined_156 : decode cX4_joined 156 = .ok (.ireturn, 1) := by decide +kernel
theorem dX4_joined_157 : decode cX4_joined 157 = .ok (.iload_n 1, 1) := by decide +kernel
theorem dX4_joined_158 : decode cX4_joined 158 = .ok (.iload_n 2, 1) := by decide +kernel
theorem dX4_joined_159 : decode cX4_joined 159 = .ok (.isub, 1) := by decide +kernel
theorem dX4_joined_160 : decode cX4_joined 160 = .ok (.ireturn, 1) := by decide +kernel
theorem dX4_joined_161 : decode cX4_joined 161 = .ok (.iload_n 1, 1) := by decide +kernel
theorem dX4_joined_162 : decode cX4_joined 162 = .ok (.iload_n 2, 1) := by decide +kernel
theorem dX4_joined_163 : decode cX4_joined 163 = .ok (.imul, 1) := by decide +kernel
theorem dX4_joined_164 : decode cX4_joined 164 = .ok (.ireturn, 1) := by decide +kernel
theorem dX4_joined_165 : decode cX4_joined 165 = .ok (.iload_n 2, 1) := by decide +kernel
theorem dX4_joined_166 : decode cX4_joined 166 = .ok (.ifCond .ne 7, 3) := by decide +kernel
theorem dX4_joined_169 : decode cX4_joined 169 = .ok (.iconst 0, 1) := by decide +kernel
theorem dX4_joined_170 : decode cX4_joined 170 = .ok (.goto 6, 3) := by decide +kernel
theorem dX4_joined_173 : decode cX4_joined 173 = .ok (.iload_n 1, 1) := by decide +kernel
theorem dX4_joined_174 : decode cX4_joined 174 = .ok (.iload_n 2, 1) := by decide +kernel
theorem dX4_joined_175 : decode cX4_joined 175 = .ok (.idiv, 1) := by decide +kernel
theorem dX4_joined_176 : decode cX4_joined 176 = .ok (.ireturn, 1) := by decide +kernel
theorem dX4_joined_177 : decode cX4_joined 177 = .ok (.iload_n 2, 1) := by decide +kernel
theorem dX4_joined_178 : decode cX4_joined 178 = .ok (.ifCond .ne 7, 3) := by decide +kernel
theorem dX4_joined_181 : decode cX4_joined 181 = .ok (.iconst 0, 1) := by decide +kernel
theorem dX4_joined_182 : decode cX4_joined 182 = .ok (.goto 6, 3) := by decide +kernel
theorem dX4_joined_185 : decode cX4_joined 185 = .ok (.iload_n 1, 1) := by decide +kernel
theorem dX4_joined_186 : decode cX4_joined 186 = .ok (.iload_n 2, 1) := by decide +kernel
theorem dX4_joined_187 : decode cX4_joined 187 = .ok (.irem, 1) := by decide +kernel
theorem dX4_joined_188 : decode cX4_joined 188 = .ok (.ireturn, 1) := by decide +kernel
theorem dX4_joined_189 : decode cX4_joined 189 = .ok (.iconst 0, 1) := by decide +kernel
theorem dX4_joined_190 : decode cX4_joined 190 = .ok (.ireturn, 1) := by decide +kernel
set_option maxHeartbeats 2000000 in
set_option maxRecDepth 20000 in
theorem h_joined {l : Launch} {D : va_G} {cI cG cW : ClassId} {q : Nat → Nat} {S : Nat → Int32} {X : Nat → Nat → Int32} {P : Nat → Nat} {sg a b : Int32} : Ci l yX4_joined cX4_joined 3 (some .int) 0 D (tyL cI cG cW) (wC cI cG cW q) [.int sg, .int a, .int b] (S, X, P) (fun r τ => r = joinF sg a b ∧ τ = (S, X, P)) := by
  refine Ci.of (by decide) (Nat.le_of_ble_eq_true rfl) ?_
  intro p_ e_ s_ m_ b_ M_ c_ A_ C
  replace C : Cx _ _ _ _ _ _ _ _ RX4 _ _ _ _ := C
  refine j_L [0, 1, 2] [(0, .int sg), (1, .int a), (2, .int b)] rfl ?_
  by_cases h37 : sg = nI 37
  · subst h37
    refine j_iload_n C 0 dX4_joined_0 rfl ?_
    · refine j_lookup C (off := 176) 177 dX4_joined_1 (by decide) (by decide) (by decide) ?_
      refine j_iload_n C 2 dX4_joined_177 rfl ?_
      refine j_if_ne C 185 dX4_joined_178 (by decide) (fun c178 => ?_) (fun c178 => ?_)
      · skip
        refine j_iload_n C 1 dX4_joined_185 rfl ?_
        refine j_iload_n C 2 dX4_joined_186 rfl ?_
        refine j_irem C dX4_joined_187 (by assumption) ?_
        refine j_iret C dX4_joined_188 ?_
        exact ⟨((join_37 a b).trans (if_neg c178)).symm, rfl⟩
      · skip
        refine j_iconst C (v := (nI 0)) dX4_joined_181 (by decide) ?_
        refine j_goto C 188 dX4_joined_182 (by decide) ?_
        refine j_iret C dX4_joined_188 ?_
        exact ⟨((join_37 a b).trans (if_pos c178)).symm, rfl⟩
  · by_cases h38 : sg = nI 38
    · subst h38
      refine j_iload_n C 0 dX4_joined_0 rfl ?_
      · refine j_lookup C (off := 105) 106 dX4_joined_1 (by decide) (by decide) (by decide) ?_
        refine j_iload_n C 1 dX4_joined_106 rfl ?_
        refine j_if_eq C 118 dX4_joined_107 (by decide) (fun c107 => ?_) (fun c107 => ?_)
        · skip
          refine j_iconst C (v := (nI 0)) dX4_joined_118 (by decide) ?_
          refine j_iret C dX4_joined_119 ?_
          exact ⟨(bI0 (fun h => h.1 c107)).trans (join_38 a b).symm, rfl⟩
        · skip
          refine j_iload_n C 2 dX4_joined_110 rfl ?_
          refine j_if_eq C 118 dX4_joined_111 (by decide) (fun c111 => ?_) (fun c111 => ?_)
          · skip
            refine j_iconst C (v := (nI 0)) dX4_joined_118 (by decide) ?_
            refine j_iret C dX4_joined_119 ?_
            exact ⟨(bI0 (fun h => h.2 c111)).trans (join_38 a b).symm, rfl⟩
          · skip
            refine j_iconst C (v := (nI 1)) dX4_joined_114 (by decide) ?_
            refine j_goto C 119 dX4_joined_115 (by decide) ?_
            refine j_iret C dX4_joined_119 ?_
            exact ⟨(bI1 ⟨c107, c111⟩).trans (join_38 a b).symm, rfl⟩
    · by_cases h42 : sg = nI 42
      · subst h42
        refine j_iload_n C 0 dX4_joined_0 rfl ?_
        · refine j_lookup C (off := 160) 161 dX4_joined_1 (by decide) (by decide) (by decide) ?_
          refine j_iload_n C 1 dX4_joined_161 rfl ?_
          refine j_iload_n C 2 dX4_joined_162 rfl ?_
          refine j_imul C dX4_joined_163 ?_
          refine j_iret C dX4_joined_164 ?_
          exact ⟨(join_42 a b).symm, rfl⟩
      · by_cases h43 : sg = nI 43
        · subst h43
          refine j_iload_n C 0 dX4_joined_0 rfl ?_
          · refine j_lookup C (off := 152) 153 dX4_joined_1 (by decide) (by decide) (by decide) ?_
            refine j_iload_n C 1 dX4_joined_153 rfl ?_
            refine j_iload_n C 2 dX4_joined_154 rfl ?_
            refine j_iadd C dX4_joined_155 ?_
            refine j_iret C dX4_joined_156 ?_
            exact ⟨(join_43 a b).symm, rfl⟩
        · by_cases h45 : sg = nI 45
          · subst h45
            refine j_iload_n C 0 dX4_joined_0 rfl ?_
            · refine j_lookup C (off := 156) 157 dX4_joined_1 (by decide) (by decide) (by decide) ?_
              refine j_iload_n C 1 dX4_joined_157 rfl ?_
              refine j_iload_n C 2 dX4_joined_158 rfl ?_
              refine j_isub C dX4_joined_159 ?_
              refine j_iret C dX4_joined_160 ?_
              exact ⟨(join_45 a b).symm, rfl⟩
          · by_cases h47 : sg = nI 47
            · subst h47
              refine j_iload_n C 0 dX4_joined_0 rfl ?_
              · refine j_lookup C (off := 164) 165 dX4_joined_1 (by decide) (by decide) (by decide) ?_
                refine j_iload_n C 2 dX4_joined_165 rfl ?_
                refine j_if_ne C 173 dX4_joined_166 (by decide) (fun c166 => ?_) (fun c166 => ?_)
                · skip
                  refine j_iload_n C 1 dX4_joined_173 rfl ?_
                  refine j_iload_n C 2 dX4_joined_174 rfl ?_
                  refine j_idiv C dX4_joined_175 (by assumption) ?_
                  refine j_iret C dX4_joined_176 ?_
                  exact ⟨((join_47 a b).trans (if_neg c166)).symm, rfl⟩
                · skip
                  refine j_iconst C (v := (nI 0)) dX4_joined_169 (by decide) ?_
                  refine j_goto C 176 dX4_joined_170 (by decide) ?_
                  refine j_iret C dX4_joined_176 ?_
                  exact ⟨((join_47 a b).trans (if_pos c166)).symm, rfl⟩
            · by_cases h60 : sg = nI 60
              · subst h60
                refine j_iload_n C 0 dX4_joined_0 rfl ?_
                · refine j_lookup C (off := 119) 120 dX4_joined_1 (by decide) (by decide) (by decide) ?_
                  refine j_iload_n C 1 dX4_joined_120 rfl ?_
                  refine j_iload_n C 2 dX4_joined_121 rfl ?_
                  refine j_icmp_ge C 129 dX4_joined_122 (by decide) (fun c122 => ?_) (fun c122 => ?_)
                  · skip
                    refine j_iconst C (v := (nI 0)) dX4_joined_129 (by decide) ?_
                    refine j_iret C dX4_joined_130 ?_
                    exact ⟨(bI0 (lnl c122)).trans (join_60 a b).symm, rfl⟩
                  · skip
                    refine j_iconst C (v := (nI 1)) dX4_joined_125 (by decide) ?_
                    refine j_goto C 130 dX4_joined_126 (by decide) ?_
                    refine j_iret C dX4_joined_130 ?_
                    exact ⟨(bI1 (nle c122)).trans (join_60 a b).symm, rfl⟩
              · by_cases h61 : sg = nI 61
                · subst h61
                  refine j_iload_n C 0 dX4_joined_0 rfl ?_
                  · refine j_lookup C (off := 130) 131 dX4_joined_1 (by decide) (by decide) (by decide) ?_
                    refine j_iload_n C 1 dX4_joined_131 rfl ?_
                    refine j_iload_n C 2 dX4_joined_132 rfl ?_
                    refine j_icmp_ne C 140 dX4_joined_133 (by decide) (fun c133 => ?_) (fun c133 => ?_)
                    · skip
                      refine j_iconst C (v := (nI 0)) dX4_joined_140 (by decide) ?_
                      refine j_iret C dX4_joined_141 ?_
                      exact ⟨(bI0 c133).trans (join_61 a b).symm, rfl⟩
                    · skip
                      refine j_iconst C (v := (nI 1)) dX4_joined_136 (by decide) ?_
                      refine j_goto C 141 dX4_joined_137 (by decide) ?_
                      refine j_iret C dX4_joined_141 ?_
                      exact ⟨(bI1 c133).trans (join_61 a b).symm, rfl⟩
                · by_cases h62 : sg = nI 62
                  · subst h62
                    refine j_iload_n C 0 dX4_joined_0 rfl ?_
                    · refine j_lookup C (off := 141) 142 dX4_joined_1 (by decide) (by decide) (by decide) ?_
                      refine j_iload_n C 1 dX4_joined_142 rfl ?_
                      refine j_iload_n C 2 dX4_joined_143 rfl ?_
                      refine j_icmp_le C 151 dX4_joined_144 (by decide) (fun c144 => ?_) (fun c144 => ?_)
                      · skip
                        refine j_iconst C (v := (nI 0)) dX4_joined_151 (by decide) ?_
                        refine j_iret C dX4_joined_152 ?_
                        exact ⟨(bI0 (lnl c144)).trans (join_62 a b).symm, rfl⟩
                      · skip
                        refine j_iconst C (v := (nI 1)) dX4_joined_147 (by decide) ?_
                        refine j_goto C 152 dX4_joined_148 (by decide) ?_
                        refine j_iret C dX4_joined_152 ?_
                        exact ⟨(bI1 (nle c144)).trans (join_62 a b).symm, rfl⟩
                  · by_cases h124 : sg = nI 124
                    · subst h124
                      refine j_iload_n C 0 dX4_joined_0 rfl ?_
                      · refine j_lookup C (off := 91) 92 dX4_joined_1 (by decide) (by decide) (by decide) ?_
                        refine j_iload_n C 1 dX4_joined_92 rfl ?_
                        refine j_if_ne C 100 dX4_joined_93 (by decide) (fun c93 => ?_) (fun c93 => ?_)
                        · skip
                          refine j_iconst C (v := (nI 1)) dX4_joined_100 (by decide) ?_
                          refine j_goto C 105 dX4_joined_101 (by decide) ?_
                          refine j_iret C dX4_joined_105 ?_
                          exact ⟨(bI1 (Or.inl c93)).trans (join_124 a b).symm, rfl⟩
                        · skip
                          refine j_iload_n C 2 dX4_joined_96 rfl ?_
                          refine j_if_eq C 104 dX4_joined_97 (by decide) (fun c97 => ?_) (fun c97 => ?_)
                          · skip
                            refine j_iconst C (v := (nI 0)) dX4_joined_104 (by decide) ?_
                            refine j_iret C dX4_joined_105 ?_
                            exact ⟨(bI0 (fun h => h.elim (fun g => g c93) (fun g => g c97))).trans (join_124 a b).symm, rfl⟩
                          · skip
                            refine j_iconst C (v := (nI 1)) dX4_joined_100 (by decide) ?_
                            refine j_goto C 105 dX4_joined_101 (by decide) ?_
                            refine j_iret C dX4_joined_105 ?_
                            exact ⟨(bI1 (Or.inr c97)).trans (join_124 a b).symm, rfl⟩
                    · refine j_iload_n C 0 dX4_joined_0 rfl ?_
                      refine j_lookup C (off := 188) 189 dX4_joined_1 (by decide) (show Op.lookupswitch.offset [(37, 176), (38, 105), (42, 160), (43, 152), (45, 156), (47, 164), (60, 119), (61, 130), (62, 141), (124, 91)] 188 _ = _ from by rw [lv_osw h37 (by decide), lv_osw h38 (by decide), lv_osw h42 (by decide), lv_osw h43 (by decide), lv_osw h45 (by decide), lv_osw h47 (by decide), lv_osw h60 (by decide), lv_osw h61 (by decide), lv_osw h62 (by decide), lv_osw h124 (by decide)]; rfl) (by decide) ?_
                      refine j_iconst C (v := (nI 0)) dX4_joined_189 (by decide) ?_
                      refine j_iret C dX4_joined_190 ?_
                      refine ⟨?_, rfl⟩
                      unfold joinF
                      rw [if_neg (show ¬ sg = 124 from h124), if_neg (show ¬ sg = 38 from h38), if_neg (show ¬ sg = 60 from h60), if_neg (show ¬ sg = 61 from h61), if_neg (show ¬ sg = 62 from h62), if_neg (show ¬ sg = 43 from h43), if_neg (show ¬ sg = 45 from h45), if_neg (show ¬ sg = 42 from h42), if_neg (show ¬ sg = 47 from h47), if_neg (show ¬ sg = 37 from h37)]
                      rfl
theorem dX4_levelOf_0 : decode cX4_levelOf 0 = .ok (.iload_n 0, 1) := by decide +kernel
theorem dX4_levelOf_1 : decode cX4_levelOf 1 = .ok (.lookupswitch 101 #[(37, 99), (38, 93), (42, 99), (43, 97), (45, 97), (47, 99), (60, 95), (61, 95), (62, 95), (124, 91)], 91) := by decide +kernel
theorem dX4_levelOf_92 : decode cX4_levelOf 92 = .ok (.iconst 0, 1) := by decide +kernel
theorem dX4_levelOf_93 : decode cX4_levelOf 93 = .ok (.ireturn, 1) := by decide +kernel
theorem dX4_levelOf_94 : decode cX4_levelOf 94 = .ok (.iconst 1, 1) := by decide +kernel
theorem dX4_levelOf_95 : decode cX4_levelOf 95 = .ok (.ireturn, 1) := by decide +kernel
theorem dX4_levelOf_96 : decode cX4_levelOf 96 = .ok (.iconst 2, 1) := by decide +kernel
theorem dX4_levelOf_97 : decode cX4_levelOf 97 = .ok (.ireturn, 1) := by decide +kernel
theorem dX4_levelOf_98 : decode cX4_levelOf 98 = .ok (.iconst 3, 1) := by decide +kernel
theorem dX4_levelOf_99 : decode cX4_levelOf 99 = .ok (.ireturn, 1) := by decide +kernel
theorem dX4_levelOf_100 : decode cX4_levelOf 100 = .ok (.iconst 4, 1) := by decide +kernel
theorem dX4_levelOf_101 : decode cX4_levelOf 101 = .ok (.ireturn, 1) := by decide +kernel
theorem dX4_levelOf_102 : decode cX4_levelOf 102 = .ok (.iconst 5, 1) := by decide +kernel
theorem dX4_levelOf_103 : decode cX4_levelOf 103 = .ok (.ireturn, 1) := by decide +kernel
set_option maxHeartbeats 2000000 in
set_option maxRecDepth 20000 in
theorem h_levelOf {l : Launch} {D : va_G} {cI cG cW : ClassId} {q : Nat → Nat} {S : Nat → Int32} {X : Nat → Nat → Int32} {P : Nat → Nat} {sg : Int32} : Ci l yX4_levelOf cX4_levelOf 1 (some .int) 0 D (tyL cI cG cW) (wC cI cG cW q) [.int sg] (S, X, P) (fun r τ => r = nI (lvF sg) ∧ τ = (S, X, P)) := by
  refine Ci.of (by decide) (Nat.le_of_ble_eq_true rfl) ?_
  intro p_ e_ s_ m_ b_ M_ c_ A_ C
  replace C : Cx _ _ _ _ _ _ _ _ RX4 _ _ _ _ := C
  refine j_L [0] [(0, .int sg)] rfl ?_
  by_cases h37 : sg = nI 37
  · subst h37
    refine j_iload_n C 0 dX4_levelOf_0 rfl ?_
    · refine j_lookup C (off := 99) 100 dX4_levelOf_1 (by decide) (by decide) (by decide) ?_
      refine j_iconst C (v := (nI 4)) dX4_levelOf_100 (by decide) ?_
      refine j_iret C dX4_levelOf_101 ?_
      exact ⟨by decide, rfl⟩
  · by_cases h38 : sg = nI 38
    · subst h38
      refine j_iload_n C 0 dX4_levelOf_0 rfl ?_
      · refine j_lookup C (off := 93) 94 dX4_levelOf_1 (by decide) (by decide) (by decide) ?_
        refine j_iconst C (v := (nI 1)) dX4_levelOf_94 (by decide) ?_
        refine j_iret C dX4_levelOf_95 ?_
        exact ⟨by decide, rfl⟩
    · by_cases h42 : sg = nI 42
      · subst h42
        refine j_iload_n C 0 dX4_levelOf_0 rfl ?_
        · refine j_lookup C (off := 99) 100 dX4_levelOf_1 (by decide) (by decide) (by decide) ?_
          refine j_iconst C (v := (nI 4)) dX4_levelOf_100 (by decide) ?_
          refine j_iret C dX4_levelOf_101 ?_
          exact ⟨by decide, rfl⟩
      · by_cases h43 : sg = nI 43
        · subst h43
          refine j_iload_n C 0 dX4_levelOf_0 rfl ?_
          · refine j_lookup C (off := 97) 98 dX4_levelOf_1 (by decide) (by decide) (by decide) ?_
            refine j_iconst C (v := (nI 3)) dX4_levelOf_98 (by decide) ?_
            refine j_iret C dX4_levelOf_99 ?_
            exact ⟨by decide, rfl⟩
        · by_cases h45 : sg = nI 45
          · subst h45
            refine j_iload_n C 0 dX4_levelOf_0 rfl ?_
            · refine j_lookup C (off := 97) 98 dX4_levelOf_1 (by decide) (by decide) (by decide) ?_
              refine j_iconst C (v := (nI 3)) dX4_levelOf_98 (by decide) ?_
              refine j_iret C dX4_levelOf_99 ?_
              exact ⟨by decide, rfl⟩
          · by_cases h47 : sg = nI 47
            · subst h47
              refine j_iload_n C 0 dX4_levelOf_0 rfl ?_
              · refine j_lookup C (off := 99) 100 dX4_levelOf_1 (by decide) (by decide) (by decide) ?_
                refine j_iconst C (v := (nI 4)) dX4_levelOf_100 (by decide) ?_
                refine j_iret C dX4_levelOf_101 ?_
                exact ⟨by decide, rfl⟩
            · by_cases h60 : sg = nI 60
              · subst h60
                refine j_iload_n C 0 dX4_levelOf_0 rfl ?_
                · refine j_lookup C (off := 95) 96 dX4_levelOf_1 (by decide) (by decide) (by decide) ?_
                  refine j_iconst C (v := (nI 2)) dX4_levelOf_96 (by decide) ?_
                  refine j_iret C dX4_levelOf_97 ?_
                  exact ⟨by decide, rfl⟩
              · by_cases h61 : sg = nI 61
                · subst h61
                  refine j_iload_n C 0 dX4_levelOf_0 rfl ?_
                  · refine j_lookup C (off := 95) 96 dX4_levelOf_1 (by decide) (by decide) (by decide) ?_
                    refine j_iconst C (v := (nI 2)) dX4_levelOf_96 (by decide) ?_
                    refine j_iret C dX4_levelOf_97 ?_
                    exact ⟨by decide, rfl⟩
                · by_cases h62 : sg = nI 62
                  · subst h62
                    refine j_iload_n C 0 dX4_levelOf_0 rfl ?_
                    · refine j_lookup C (off := 95) 96 dX4_levelOf_1 (by decide) (by decide) (by decide) ?_
                      refine j_iconst C (v := (nI 2)) dX4_levelOf_96 (by decide) ?_
                      refine j_iret C dX4_levelOf_97 ?_
                      exact ⟨by decide, rfl⟩
                  · by_cases h124 : sg = nI 124
                    · subst h124
                      refine j_iload_n C 0 dX4_levelOf_0 rfl ?_
                      · refine j_lookup C (off := 91) 92 dX4_levelOf_1 (by decide) (by decide) (by decide) ?_
                        refine j_iconst C (v := (nI 0)) dX4_levelOf_92 (by decide) ?_
                        refine j_iret C dX4_levelOf_93 ?_
                        exact ⟨by decide, rfl⟩
                    · refine j_iload_n C 0 dX4_levelOf_0 rfl ?_
                      refine j_lookup C (off := 101) 102 dX4_levelOf_1 (by decide) (show Op.lookupswitch.offset [(37, 99), (38, 93), (42, 99), (43, 97), (45, 97), (47, 99), (60, 95), (61, 95), (62, 95), (124, 91)] 101 _ = _ from by rw [lv_osw h37 (by decide), lv_osw h38 (by decide), lv_osw h42 (by decide), lv_osw h43 (by decide), lv_osw h45 (by decide), lv_osw h47 (by decide), lv_osw h60 (by decide), lv_osw h61 (by decide), lv_osw h62 (by decide), lv_osw h124 (by decide)]; rfl) (by decide) ?_
                      refine j_iconst C (v := (nI 5)) dX4_levelOf_102 (by decide) ?_
                      refine j_iret C dX4_levelOf_103 ?_
                      refine ⟨?_, rfl⟩
                      unfold lvF
                      rw [if_neg (show ¬ sg = 124 from h124), if_neg (show ¬ sg = 38 from h38), if_neg (show ¬ (sg = 60 ∨ sg = 61 ∨ sg = 62) from fun h => h.elim h60 (fun h => h.elim h61 h62)), if_neg (show ¬ (sg = 43 ∨ sg = 45) from fun h => h.elim h43 h45), if_neg (show ¬ (sg = 42 ∨ sg = 47 ∨ sg = 37) from fun h => h.elim h42 (fun h => h.elim h47 h37))]
theorem dX4_worked_0 : decode cX4_worked 0 = .ok (.iconst 0, 1) := by decide +kernel
theorem dX4_worked_1 : decode cX4_worked 1 = .ok (.istore 4, 2) := by decide +kernel
theorem dX4_worked_3 : decode cX4_worked 3 = .ok (.iconst 0, 1) := by decide +kernel
theorem dX4_worked_4 : decode cX4_worked 4 = .ok (.istore 5, 2) := by decide +kernel
theorem dX4_worked_6 : decode cX4_worked 6 = .ok (.iload 5, 2) := by decide +kernel
theorem dX4_worked_8 : decode cX4_worked 8 = .ok (.aload_n 0, 1) := by decide +kernel
theorem dX4_worked_9 : decode cX4_worked 9 = .ok (.getfield 14, 3) := by decide +kernel
theorem dX4_worked_12 : decode cX4_worked 12 = .ok (.getfield 40, 3) := by decide +kernel
theorem dX4_worked_15 : decode cX4_worked 15 = .ok (.if_icmp .ge 171, 3) := by decide +kernel
theorem dX4_worked_18 : decode cX4_worked 18 = .ok (.aload_n 0, 1) := by decide +kernel
theorem dX4_worked_19 : decode cX4_worked 19 = .ok (.getfield 14, 3) := by decide +kernel
theorem dX4_worked_22 : decode cX4_worked 22 = .ok (.getfield 56, 3) := by decide +kernel
theorem dX4_worked_25 : decode cX4_worked 25 = .ok (.iload 5, 2) := by decide +kernel
theorem dX4_worked_27 : decode cX4_worked 27 = .ok (.iaload, 1) := by decide +kernel
theorem dX4_worked_28 : decode cX4_worked 28 = .ok (.istore 6, 2) := by decide +kernel
theorem dX4_worked_30 : decode cX4_worked 30 = .ok (.iload 6, 2) := by decide +kernel
theorem dX4_worked_32 : decode cX4_worked 32 = .ok (.bipush (-3), 2) := by decide +kernel
theorem dX4_worked_34 : decode cX4_worked 34 = .ok (.if_icmp .lt 60, 3) := by decide +kernel
theorem dX4_worked_37 : decode cX4_worked 37 = .ok (.iload 4, 2) := by decide +kernel
theorem dX4_worked_39 : decode cX4_worked 39 = .ok (.aload_n 0, 1) := by decide +kernel
theorem dX4_worked_40 : decode cX4_worked 40 = .ok (.getfield 20, 3) := by decide +kernel
theorem dX4_worked_43 : decode cX4_worked 43 = .ok (.arraylength, 1) := by decide +kernel
theorem dX4_worked_44 : decode cX4_worked 44 = .ok (.if_icmp .lt 5, 3) := by decide +kernel
theorem dX4_worked_47 : decode cX4_worked 47 = .ok (.iconst 0, 1) := by decide +kernel
theorem dX4_worked_48 : decode cX4_worked 48 = .ok (.ireturn, 1) := by decide +kernel
theorem dX4_worked_49 : decode cX4_worked 49 = .ok (.aload_n 0, 1) := by decide +kernel
theorem dX4_worked_50 : decode cX4_worked 50 = .ok (.getfield 20, 3) := by decide +kernel
theorem dX4_worked_53 : decode cX4_worked 53 = .ok (.iload 4, 2) := by decide +kernel
theorem dX4_worked_55 : decode cX4_worked 55 = .ok (.iload 6, 2) := by decide +kernel
theorem dX4_worked_57 : decode cX4_worked 57 = .ok (.ifCond .lt 8, 3) := by decide +kernel
theorem dX4_worked_60 : decode cX4_worked 60 = .ok (.iload 6, 2) := by decide +kernel
theorem dX4_worked_62 : decode cX4_worked 62 = .ok (.goto 25, 3) := by decide +kernel
theorem dX4_worked_65 : decode cX4_worked 65 = .ok (.iload 6, 2) := by decide +kernel
theorem dX4_worked_67 : decode cX4_worked 67 = .ok (.iconst (-1), 1) := by decide +kernel
theorem dX4_worked_68 : decode cX4_worked 68 = .ok (.if_icmp .ne 7, 3) := by decide +kernel
theorem dX4_worked_71 : decode cX4_worked 71 = .ok (.iload_n 1, 1) := by decide +kernel
theorem dX4_worked_72 : decode cX4_worked 72 = .ok (.goto 15, 3) := by decide +kernel
theorem dX4_worked_75 : decode cX4_worked 75 = .ok (.iload 6, 2) := by decide +kernel
theorem dX4_worked_77 : decode cX4_worked 77 = .ok (.bipush (-2), 2) := by decide +kernel
theorem dX4_worked_79 : decode cX4_worked 79 = .ok (.if_icmp .ne 7, 3) := by decide +kernel
theorem dX4_worked_82 : decode cX4_worked 82 = .ok (.iload_n 2, 1) := by decide +kernel
theorem dX4_worked_83 : decode cX4_worked 83 = .ok (.goto 4, 3) := by decide +kernel
theorem dX4_worked_86 : decode cX4_worked 86 = .ok (.iload_n 3, 1) := by decide +kernel
theorem dX4_worked_87 : decode cX4_worked 87 = .ok (.iastore, 1) := by decide +kernel
theorem dX4_worked_88 : decode cX4_worked 88 = .ok (.iinc 4 1, 3) := by decide +kernel
theorem dX4_worked_91 : decode cX4_worked 91 = .ok (.goto 89, 3) := by decide +kernel
theorem dX4_worked_94 : decode cX4_worked 94 = .ok (.iload 6, 2) := by decide +kernel
theorem dX4_worked_96 : decode cX4_worked 96 = .ok (.bipush (-33), 2) := by decide +kernel
theorem dX4_worked_98 : decode cX4_worked 98 = .ok (.if_icmp .ne 40, 3) := by decide +kernel
theorem dX4_worked_101 : decode cX4_worked 101 = .ok (.iload 4, 2) := by decide +kernel
theorem dX4_worked_103 : decode cX4_worked 103 = .ok (.iconst 1, 1) := by decide +kernel
theorem dX4_worked_104 : decode cX4_worked 104 = .ok (.if_icmp .ge 5, 3) := by decide +kernel
theorem dX4_worked_107 : decode cX4_worked 107 = .ok (.iconst 0, 1) := by decide +kernel
theorem dX4_worked_108 : decode cX4_worked 108 = .ok (.ireturn, 1) := by decide +kernel
theorem dX4_worked_109 : decode cX4_worked 109 = .ok (.aload_n 0, 1) := by decide +kernel
theorem dX4_worked_110 : decode cX4_worked 110 = .ok (.getfield 20, 3) := by decide +kernel
theorem dX4_worked_113 : decode cX4_worked 113 = .ok (.iload 4, 2) := by decide +kernel
theorem dX4_worked_115 : decode cX4_worked 115 = .ok (.iconst 1, 1) := by decide +kernel
theorem dX4_worked_116 : decode cX4_worked 116 = .ok (.isub, 1) := by decide +kernel
theorem dX4_worked_117 : decode cX4_worked 117 = .ok (.aload_n 0, 1) := by decide +kernel
theorem dX4_worked_118 : decode cX4_worked 118 = .ok (.getfield 20, 3) := by decide +kernel
theorem dX4_worked_121 : decode cX4_worked 121 = .ok (.iload 4, 2) := by decide +kernel
theorem dX4_worked_123 : decode cX4_worked 123 = .ok (.iconst 1, 1) := by decide +kernel
theorem dX4_worked_124 : decode cX4_worked 124 = .ok (.isub, 1) := by decide +kernel
theorem dX4_worked_125 : decode cX4_worked 125 = .ok (.iaload, 1) := by decide +kernel
theorem dX4_worked_126 : decode cX4_worked 126 = .ok (.ifCond .ne 7, 3) := by decide +kernel
theorem dX4_worked_129 : decode cX4_worked 129 = .ok (.iconst 1, 1) := by decide +kernel
theorem dX4_worked_130 : decode cX4_worked 130 = .ok (.goto 4, 3) := by decide +kernel
theorem dX4_worked_133 : decode cX4_worked 133 = .ok (.iconst 0, 1) := by decide +kernel
theorem dX4_worked_134 : decode cX4_worked 134 = .ok (.iastore, 1) := by decide +kernel
theorem dX4_worked_135 : decode cX4_worked 135 = .ok (.goto 45, 3) := by decide +kernel
theorem dX4_worked_138 : decode cX4_worked 138 = .ok (.iload 4, 2) := by decide +kernel
theorem dX4_worked_140 : decode cX4_worked 140 = .ok (.iconst 2, 1) := by decide +kernel
theorem dX4_worked_141 : decode cX4_worked 141 = .ok (.if_icmp .ge 5, 3) := by decide +kernel
theorem dX4_worked_144 : decode cX4_worked 144 = .ok (.iconst 0, 1) := by decide +kernel
theorem dX4_worked_145 : decode cX4_worked 145 = .ok (.ireturn, 1) := by decide +kernel
theorem dX4_worked_146 : decode cX4_worked 146 = .ok (.iinc 4 (-1), 3) := by decide +kernel
theorem dX4_worked_149 : decode cX4_worked 149 = .ok (.aload_n 0, 1) := by decide +kernel
theorem dX4_worked_150 : decode cX4_worked 150 = .ok (.getfield 20, 3) := by decide +kernel
theorem dX4_worked_153 : decode cX4_worked 153 = .ok (.iload 4, 2) := by decide +kernel
theorem dX4_worked_155 : decode cX4_worked 155 = .ok (.iconst 1, 1) := by decide +kernel
theorem dX4_worked_156 : decode cX4_worked 156 = .ok (.isub, 1) := by decide +kernel
theorem dX4_worked_157 : decode cX4_worked 157 = .ok (.iload 6, 2) := by decide +kernel
theorem dX4_worked_159 : decode cX4_worked 159 = .ok (.ineg, 1) := by decide +kernel
theorem dX4_worked_160 : decode cX4_worked 160 = .ok (.aload_n 0, 1) := by decide +kernel
theorem dX4_worked_161 : decode cX4_worked 161 = .ok (.getfield 20, 3) := by decide +kernel
theorem dX4_worked_164 : decode cX4_worked 164 = .ok (.iload 4, 2) := by decide +kernel
theorem dX4_worked_166 : decode cX4_worked 166 = .ok (.iconst 1, 1) := by decide +kernel
theorem dX4_worked_167 : decode cX4_worked 167 = .ok (.isub, 1) := by decide +kernel
theorem dX4_worked_168 : decode cX4_worked 168 = .ok (.iaload, 1) := by decide +kernel
theorem dX4_worked_169 : decode cX4_worked 169 = .ok (.aload_n 0, 1) := by decide +kernel
theorem dX4_worked_170 : decode cX4_worked 170 = .ok (.getfield 20, 3) := by decide +kernel
theorem dX4_worked_173 : decode cX4_worked 173 = .ok (.iload 4, 2) := by decide +kernel
theorem dX4_worked_175 : decode cX4_worked 175 = .ok (.iaload, 1) := by decide +kernel
theorem dX4_worked_176 : decode cX4_worked 176 = .ok (.invokestatic 59, 3) := by decide +kernel
theorem dX4_worked_179 : decode cX4_worked 179 = .ok (.iastore, 1) := by decide +kernel
theorem dX4_worked_180 : decode cX4_worked 180 = .ok (.iinc 5 1, 3) := by decide +kernel
theorem dX4_worked_183 : decode cX4_worked 183 = .ok (.goto (-177), 3) := by decide +kernel
theorem dX4_worked_186 : decode cX4_worked 186 = .ok (.iload 4, 2) := by decide +kernel
theorem dX4_worked_188 : decode cX4_worked 188 = .ok (.ifCond .le 12, 3) := by decide +kernel
theorem dX4_worked_191 : decode cX4_worked 191 = .ok (.aload_n 0, 1) := by decide +kernel
theorem dX4_worked_192 : decode cX4_worked 192 = .ok (.getfield 20, 3) := by decide +kernel
theorem dX4_worked_195 : decode cX4_worked 195 = .ok (.iconst 0, 1) := by decide +kernel
theorem dX4_worked_196 : decode cX4_worked 196 = .ok (.iaload, 1) := by decide +kernel
theorem dX4_worked_197 : decode cX4_worked 197 = .ok (.goto 4, 3) := by decide +kernel
theorem dX4_worked_200 : decode cX4_worked 200 = .ok (.iconst 0, 1) := by decide +kernel
theorem dX4_worked_201 : decode cX4_worked 201 = .ok (.ireturn, 1) := by decide +kernel
set_option maxHeartbeats 2000000 in
set_option maxRecDepth 20000 in
theorem h_worked_0 {l : Launch} {D : va_G} {cI cG cW : ClassId} {q : Nat → Nat} {S : Nat → Int32} {X : Nat → Nat → Int32} {P : Nat → Nat} {a b c v : Int32} (cd : List Int32) (hsz : S 23 = nI cd.length) (hle : cd.length ≤ 50) (hcd : ∀ j, j < cd.length → X 76 j = cd.getD j 0) (hx : exF a b c cd [] = some [v]) : Ci l yX4_worked cX4_worked 7 (some .int) 3 D (tyL cI cG cW) (wC cI cG cW q) [.ref (q 6), .int a, .int b, .int c] (S, X, P) (fun r τ => r = v ∧ ∃ g, τ = (S, va_up X 86 g, P)) := by
  refine Ci.of (by decide) (Nat.le_of_ble_eq_true rfl) ?_
  intro p_ e_ s_ m_ b_ M_ c_ A_ C
  replace C : Cx _ _ _ _ _ _ _ _ RX4 _ _ _ _ := C
  refine j_L [0, 1, 2, 3] [(0, .ref (q 6)), (1, .int a), (2, .int b), (3, .int c)] rfl ?_
  refine j_iconst C (v := (nI 0)) dX4_worked_0 (by decide) ?_
  refine j_istore C [(4, .int (nI 0)), (0, .ref (q 6)), (1, .int a), (2, .int b), (3, .int c)] dX4_worked_1 (by decide) rfl ?_
  refine j_iconst C (v := (nI 0)) dX4_worked_3 (by decide) ?_
  refine j_istore C [(5, .int (nI 0)), (4, .int (nI 0)), (0, .ref (q 6)), (1, .int a), (2, .int b), (3, .int c)] dX4_worked_4 (by decide) rfl ?_
  refine j_wC (κ' := (S, va_up X 86 (X 86), P)) rfl ?_
  refine j_L [2, 3, 4, 5, 1, 0] [(0, .ref (q 6)), (1, .int a), (2, .int b), (3, .int c), (4, .int (nI 0)), (5, .int (nI 0))] rfl ?_
  refine j_loop (X := Nat × (List Int32) × (Nat → Int32)) (fun (z : Nat × (List Int32) × (Nat → Int32)) => match z with | (i, l, g) => i ≤ cd.length ∧ exF a b c (cd.take i) [] = some l ∧ l.length ≤ i ∧ StkR g l) (fun (z : Nat × (List Int32) × (Nat → Int32)) => match z with | (i, l, g) => cd.length - i) (fun (z : Nat × (List Int32) × (Nat → Int32)) => match z with | (i, l, g) => (S, va_up X 86 g, P)) (fun (z : Nat × (List Int32) × (Nat → Int32)) => match z with | (i, l, g) => [(0, .ref (q 6)), (1, .int a), (2, .int b), (3, .int c), (4, .int (nI l.length)), (5, .int (nI i))]) (0, [], X 86) (⟨Nat.zero_le _, rfl, Nat.le_refl _, fun j h => absurd h (Nat.not_lt_zero _)⟩) rfl rfl ?_
  rintro ⟨i, l, g⟩ ⟨hi, hl, hll, hg⟩ ih
  try dsimp only at ih ⊢
  refine j_iload C 5 dX4_worked_6 rfl ?_
  refine j_aload_n C 0 dX4_worked_8 rfl ?_
  refine j_get C (v := .ref (q 15)) 6 1 rfl rfl inlC4 (by decide) kf4_14 rfl dX4_worked_9 ?_
  refine j_getN C (v := .int (S 23)) 15 1 rfl rfl inlC8 (by decide) kf4_40 rfl dX4_worked_12 ?_
  refine j_v (nI cd.length) hsz ?_
  refine j_icmp_ge C 186 dX4_worked_15 (by decide) (fun c15 => ?_) (fun c15 => ?_)
  · rw [nI_leI (by omega) (by omega)] at c15
    obtain rfl : cd.length = i := by omega
    rw [List.take_length, hx] at hl
    obtain rfl : [v] = l := Option.some.inj hl
    refine j_L [0, 1, 2, 3, 4, 5] [(0, .ref (q 6)), (1, .int a), (2, .int b), (3, .int c), (4, .int (nI 1)), (5, .int (nI cd.length))] rfl ?_
    have hfin : g 0 = v := hg.top
    refine j_iload C 4 dX4_worked_186 rfl ?_
    refine j_if_le C 200 dX4_worked_188 (by decide) (fun c188 => ?_) (fun c188 => ?_)
    · rw [show (0 : Int32) = nI 0 from rfl, nI_leI (by omega) (by omega)] at c188
      exfalso; omega
    · rw [show (0 : Int32) = nI 0 from rfl, nI_leI (by omega) (by omega)] at c188
      refine j_aload_n C 0 dX4_worked_191 rfl ?_
      refine j_get C (v := .ref (q 86)) 6 2 rfl rfl inlC4 (by decide) kf4_20 rfl dX4_worked_192 ?_
      refine j_iconst C (v := (nI 0)) dX4_worked_195 (by decide) ?_
      refine j_ialdN C 86 0 rfl rfl 0 rfl (by omega) (by decide) dX4_worked_196 ?_
      refine j_v v (hfin) ?_
      refine j_goto C 201 dX4_worked_197 (by decide) ?_
      refine j_iret C dX4_worked_201 ?_
      exact ⟨rfl, g, rfl⟩
  · rw [nI_leI (by omega) (by omega)] at c15
    obtain ⟨l', hs1, hs2⟩ := ex_take (by omega) hl hx
    refine j_aload_n C 0 dX4_worked_18 rfl ?_
    refine j_get C (v := .ref (q 15)) 6 1 rfl rfl inlC4 (by decide) kf4_14 rfl dX4_worked_19 ?_
    refine j_getN C (v := .ref (q 76)) 15 0 rfl rfl inlC8 (by decide) kf4_56 rfl dX4_worked_22 ?_
    refine j_iload C 5 dX4_worked_25 rfl ?_
    refine j_ialdN C 76 0 rfl rfl i rfl (by omega) (by decide) dX4_worked_27 ?_
    refine j_v (cd.getD i 0) (hcd i (by omega)) ?_
    refine j_istore C [(6, .int (cd.getD i 0)), (0, .ref (q 6)), (1, .int a), (2, .int b), (3, .int c), (4, .int (nI l.length)), (5, .int (nI i))] dX4_worked_28 (by decide) rfl ?_
    refine j_iload C 0 dX4_worked_30 rfl ?_
    refine j_bipush C (v := (-3)) dX4_worked_32 (by decide) ?_
    refine j_icmp_lt C 94 dX4_worked_34 (by decide) (fun c34 => ?_) (fun c34 => ?_)
    · skip
      refine j_iload C 0 dX4_worked_94 rfl ?_
      refine j_bipush C (v := (-33)) dX4_worked_96 (by decide) ?_
      refine j_icmp_ne C 138 dX4_worked_98 (by decide) (fun c98 => ?_) (fun c98 => ?_)
      · skip
        obtain ⟨y0, x0, r0, e0, hs4⟩ : ∃ y x r, l = y :: x :: r ∧ l' = joinF (-(cd.getD i 0)) x y :: r := by
          have h0 := hs1
          rcases l with _ | ⟨y, _ | ⟨x, r⟩⟩ <;> unfold stF at h0 <;> rw [if_neg (ltn c34), if_neg c98] at h0
          · cases h0
          · cases h0
          · exact ⟨y, x, r, rfl, (Option.some.inj h0).symm⟩
        subst e0
        rw [List.length_cons, List.length_cons] at hll
        refine j_L [0, 1, 2, 3, 4, 5, 6] [(6, .int (cd.getD i 0)), (0, .ref (q 6)), (1, .int a), (2, .int b), (3, .int c), (4, .int (nI (r0.length + 1 + 1))), (5, .int (nI i))] rfl ?_
        refine j_iload C 5 dX4_worked_138 rfl ?_
        refine j_iconst C (v := (nI 2)) dX4_worked_140 (by decide) ?_
        refine j_icmp_ge C 146 dX4_worked_141 (by decide) (fun c141 => ?_) (fun c141 => ?_)
        · rw [nI_leI (by omega) (by omega)] at c141
          refine j_iinc C (v := nI (r0.length + 1)) 5 [(4, .int (nI (r0.length + 1))), (6, .int (cd.getD i 0)), (0, .ref (q 6)), (1, .int a), (2, .int b), (3, .int c), (5, .int (nI i))] dX4_worked_146 rfl (pk_m1 _) (by decide) rfl ?_
          refine j_aload_n C 2 dX4_worked_149 rfl ?_
          refine j_get C (v := .ref (q 86)) 6 2 rfl rfl inlC4 (by decide) kf4_20 rfl dX4_worked_150 ?_
          refine j_iload C 0 dX4_worked_153 rfl ?_
          refine j_iconst C (v := (nI 1)) dX4_worked_155 (by decide) ?_
          refine j_isubN C (by omega) dX4_worked_156 ?_
          refine j_iload C 1 dX4_worked_157 rfl ?_
          refine j_ineg C dX4_worked_159 ?_
          refine j_aload_n C 2 dX4_worked_160 rfl ?_
          refine j_get C (v := .ref (q 86)) 6 2 rfl rfl inlC4 (by decide) kf4_20 rfl dX4_worked_161 ?_
          refine j_iload C 0 dX4_worked_164 rfl ?_
          refine j_iconst C (v := (nI 1)) dX4_worked_166 (by decide) ?_
          refine j_isubN C (by omega) dX4_worked_167 ?_
          refine j_ialdN C 86 0 rfl rfl (r0.length + 1 - 1) rfl (by omega) (by decide) dX4_worked_168 ?_
          refine j_v x0 (hg.pop.top) ?_
          refine j_aload_n C 2 dX4_worked_169 rfl ?_
          refine j_get C (v := .ref (q 86)) 6 2 rfl rfl inlC4 (by decide) kf4_20 rfl dX4_worked_170 ?_
          refine j_iload C 0 dX4_worked_173 rfl ?_
          refine j_ialdN C 86 0 rfl rfl (r0.length + 1) rfl (by omega) (by decide) dX4_worked_175 ?_
          refine j_v y0 (hg.top) ?_
          refine j_callS (As := [.int (-(cd.getD i 0)), .int x0, .int y0]) (rest := [.int (nI (r0.length + 1 - 1)), .ref (q 86)]) C sw4_59 (h_joined) rfl (Nat.le_of_ble_eq_true rfl) dX4_worked_176 (by decide) ?_
          rintro _ _ ⟨rfl, rfl⟩
          refine j_iastN C 86 0 rfl rfl (r0.length + 1 - 1) rfl (by omega) (by decide) dX4_worked_179 (S, va_up X 86 (upd g (r0.length + 1 - 1) (joinF (-(cd.getD i 0)) x0 y0)), P) rfl ?_
          refine j_iinc C (v := (nI (i + 1))) 6 [(5, .int (nI (i + 1))), (4, .int (nI (r0.length + 1))), (6, .int (cd.getD i 0)), (0, .ref (q 6)), (1, .int a), (2, .int b), (3, .int c)] dX4_worked_180 rfl (nI_1 _) (by decide) rfl ?_
          refine j_goto C 6 dX4_worked_183 (by decide) ?_
          refine j_L [3, 4, 5, 6, 1, 0] [(0, .ref (q 6)), (1, .int a), (2, .int b), (3, .int c), (4, .int (nI (r0.length + 1))), (5, .int (nI (i + 1)))] rfl ?_
          exact ih (i + 1, joinF (-(cd.getD i 0)) x0 y0 :: r0, upd g (r0.length + 1 - 1) (joinF (-(cd.getD i 0)) x0 y0)) ⟨by dsimp only; omega, (by rw [hs2, hs4]), by dsimp only; simp only [List.length_cons] at *; omega, hg.pop.pop.push _⟩ (by dsimp only; omega)
        · rw [nI_leI (by omega) (by omega)] at c141
          exfalso; omega
      · skip
        have hs3 : stF a b c (-33) l = some l' := by rw [← c98]; exact hs1
        obtain ⟨x0, r0, rfl⟩ : ∃ x r, l = x :: r := by
          cases l with
          | nil => cases hs3
          | cons x r => exact ⟨x, r, rfl⟩
        rw [List.length_cons] at hll
        have hs4 : l' = bI (x0 = 0) :: r0 := (Option.some.inj hs3).symm
        refine j_L [0, 1, 2, 3, 4, 5, 6] [(6, .int (cd.getD i 0)), (0, .ref (q 6)), (1, .int a), (2, .int b), (3, .int c), (4, .int (nI (r0.length + 1))), (5, .int (nI i))] rfl ?_
        refine j_iload C 5 dX4_worked_101 rfl ?_
        refine j_iconst C (v := (nI 1)) dX4_worked_103 (by decide) ?_
        refine j_icmp_ge C 109 dX4_worked_104 (by decide) (fun c104 => ?_) (fun c104 => ?_)
        · rw [nI_leI (by omega) (by omega)] at c104
          refine j_aload_n C 1 dX4_worked_109 rfl ?_
          refine j_get C (v := .ref (q 86)) 6 2 rfl rfl inlC4 (by decide) kf4_20 rfl dX4_worked_110 ?_
          refine j_iload C 5 dX4_worked_113 rfl ?_
          refine j_iconst C (v := (nI 1)) dX4_worked_115 (by decide) ?_
          refine j_isubN C (by omega) dX4_worked_116 ?_
          refine j_aload_n C 1 dX4_worked_117 rfl ?_
          refine j_get C (v := .ref (q 86)) 6 2 rfl rfl inlC4 (by decide) kf4_20 rfl dX4_worked_118 ?_
          refine j_iload C 5 dX4_worked_121 rfl ?_
          refine j_iconst C (v := (nI 1)) dX4_worked_123 (by decide) ?_
          refine j_isubN C (by omega) dX4_worked_124 ?_
          refine j_ialdN C 86 0 rfl rfl (r0.length + 1 - 1) rfl (by omega) (by decide) dX4_worked_125 ?_
          refine j_v x0 (hg.top) ?_
          refine j_if_ne C 133 dX4_worked_126 (by decide) (fun c126 => ?_) (fun c126 => ?_)
          · skip
            refine j_iconst C (v := (nI 0)) dX4_worked_133 (by decide) ?_
            refine j_iastN C 86 0 rfl rfl (r0.length + 1 - 1) rfl (by omega) (by decide) dX4_worked_134 (S, va_up X 86 (upd g (r0.length + 1 - 1) (nI 0)), P) rfl ?_
            refine j_goto C 180 dX4_worked_135 (by decide) ?_
            have hv2 : (nI 0) = bI (x0 = 0) := bI0 c126
            have hst2 : StkR (upd g (r0.length + 1 - 1) (nI 0)) (bI (x0 = 0) :: r0) := by rw [hv2]; exact hg.pop.push _
            refine j_iinc C (v := (nI (i + 1))) 6 [(5, .int (nI (i + 1))), (6, .int (cd.getD i 0)), (0, .ref (q 6)), (1, .int a), (2, .int b), (3, .int c), (4, .int (nI (r0.length + 1)))] dX4_worked_180 rfl (nI_1 _) (by decide) rfl ?_
            refine j_goto C 6 dX4_worked_183 (by decide) ?_
            refine j_L [2, 3, 4, 5, 6, 0] [(0, .ref (q 6)), (1, .int a), (2, .int b), (3, .int c), (4, .int (nI (r0.length + 1))), (5, .int (nI (i + 1)))] rfl ?_
            exact ih (i + 1, bI (x0 = 0) :: r0, upd g (r0.length + 1 - 1) (nI 0)) ⟨by dsimp only; omega, (by rw [hs2, hs4]), by dsimp only; simp only [List.length_cons] at *; omega, hst2⟩ (by dsimp only; omega)
          · skip
            refine j_iconst C (v := (nI 1)) dX4_worked_129 (by decide) ?_
            refine j_goto C 134 dX4_worked_130 (by decide) ?_
            refine j_iastN C 86 0 rfl rfl (r0.length + 1 - 1) rfl (by omega) (by decide) dX4_worked_134 (S, va_up X 86 (upd g (r0.length + 1 - 1) (nI 1)), P) rfl ?_
            refine j_goto C 180 dX4_worked_135 (by decide) ?_
            have hv2 : (nI 1) = bI (x0 = 0) := bI1 c126
            have hst2 : StkR (upd g (r0.length + 1 - 1) (nI 1)) (bI (x0 = 0) :: r0) := by rw [hv2]; exact hg.pop.push _
            refine j_iinc C (v := (nI (i + 1))) 6 [(5, .int (nI (i + 1))), (6, .int (cd.getD i 0)), (0, .ref (q 6)), (1, .int a), (2, .int b), (3, .int c), (4, .int (nI (r0.length + 1)))] dX4_worked_180 rfl (nI_1 _) (by decide) rfl ?_
            refine j_goto C 6 dX4_worked_183 (by decide) ?_
            refine j_L [2, 3, 4, 5, 6, 0] [(0, .ref (q 6)), (1, .int a), (2, .int b), (3, .int c), (4, .int (nI (r0.length + 1))), (5, .int (nI (i + 1)))] rfl ?_
            exact ih (i + 1, bI (x0 = 0) :: r0, upd g (r0.length + 1 - 1) (nI 1)) ⟨by dsimp only; omega, (by rw [hs2, hs4]), by dsimp only; simp only [List.length_cons] at *; omega, hst2⟩ (by dsimp only; omega)
        · rw [nI_leI (by omega) (by omega)] at c104
          exfalso; omega
    · skip
      refine j_iload C 5 dX4_worked_37 rfl ?_
      refine j_aload_n C 1 dX4_worked_39 rfl ?_
      refine j_get C (v := .ref (q 86)) 6 2 rfl rfl inlC4 (by decide) kf4_20 rfl dX4_worked_40 ?_
      refine j_alen C 86 0 (nI 50) rfl rfl rfl dX4_worked_43 ?_
      refine j_icmp_lt C 49 dX4_worked_44 (by decide) (fun c44 => ?_) (fun c44 => ?_)
      · rw [nI_ltI (by omega) (by omega)] at c44
        refine j_aload_n C 1 dX4_worked_49 rfl ?_
        refine j_get C (v := .ref (q 86)) 6 2 rfl rfl inlC4 (by decide) kf4_20 rfl dX4_worked_50 ?_
        refine j_iload C 5 dX4_worked_53 rfl ?_
        refine j_iload C 0 dX4_worked_55 rfl ?_
        refine j_if_lt C 65 dX4_worked_57 (by decide) (fun c57 => ?_) (fun c57 => ?_)
        · skip
          refine j_iload C 0 dX4_worked_65 rfl ?_
          refine j_iconst C (v := (-1)) dX4_worked_67 (by decide) ?_
          refine j_icmp_ne C 75 dX4_worked_68 (by decide) (fun c68 => ?_) (fun c68 => ?_)
          · skip
            refine j_iload C 0 dX4_worked_75 rfl ?_
            refine j_bipush C (v := (-2)) dX4_worked_77 (by decide) ?_
            refine j_icmp_ne C 86 dX4_worked_79 (by decide) (fun c79 => ?_) (fun c79 => ?_)
            · skip
              refine j_iload_n C 4 dX4_worked_86 rfl ?_
              refine j_iastN C 86 0 rfl rfl l.length rfl (by omega) (by decide) dX4_worked_87 (S, va_up X 86 (upd g l.length c), P) rfl ?_
              refine j_iinc C (v := (nI (l.length + 1))) 5 [(4, .int (nI (l.length + 1))), (6, .int (cd.getD i 0)), (0, .ref (q 6)), (1, .int a), (2, .int b), (3, .int c), (5, .int (nI i))] dX4_worked_88 rfl (nI_1 _) (by decide) rfl ?_
              refine j_goto C 180 dX4_worked_91 (by decide) ?_
              have hs4 : l' = c :: l := by
                have h0 := hs1; unfold stF at h0; rw [if_pos (nlt c34), if_neg (ltn c57), if_neg c68, if_neg c79] at h0; exact (Option.some.inj h0).symm
              refine j_iinc C (v := (nI (i + 1))) 6 [(5, .int (nI (i + 1))), (4, .int (nI (l.length + 1))), (6, .int (cd.getD i 0)), (0, .ref (q 6)), (1, .int a), (2, .int b), (3, .int c)] dX4_worked_180 rfl (nI_1 _) (by decide) rfl ?_
              refine j_goto C 6 dX4_worked_183 (by decide) ?_
              refine j_L [3, 4, 5, 6, 1, 0] [(0, .ref (q 6)), (1, .int a), (2, .int b), (3, .int c), (4, .int (nI (l.length + 1))), (5, .int (nI (i + 1)))] rfl ?_
              exact ih (i + 1, c :: l, upd g l.length c) ⟨by dsimp only; omega, (by rw [hs2, hs4]), by dsimp only; simp only [List.length_cons] at *; omega, hg.push _⟩ (by dsimp only; omega)
            · skip
              refine j_iload_n C 3 dX4_worked_82 rfl ?_
              refine j_goto C 87 dX4_worked_83 (by decide) ?_
              refine j_iastN C 86 0 rfl rfl l.length rfl (by omega) (by decide) dX4_worked_87 (S, va_up X 86 (upd g l.length b), P) rfl ?_
              refine j_iinc C (v := (nI (l.length + 1))) 5 [(4, .int (nI (l.length + 1))), (6, .int (cd.getD i 0)), (0, .ref (q 6)), (1, .int a), (2, .int b), (3, .int c), (5, .int (nI i))] dX4_worked_88 rfl (nI_1 _) (by decide) rfl ?_
              refine j_goto C 180 dX4_worked_91 (by decide) ?_
              have hs4 : l' = b :: l := by
                have h0 := hs1; unfold stF at h0; rw [if_pos (nlt c34), if_neg (ltn c57), if_neg c68, if_pos c79] at h0; exact (Option.some.inj h0).symm
              refine j_iinc C (v := (nI (i + 1))) 6 [(5, .int (nI (i + 1))), (4, .int (nI (l.length + 1))), (6, .int (cd.getD i 0)), (0, .ref (q 6)), (1, .int a), (2, .int b), (3, .int c)] dX4_worked_180 rfl (nI_1 _) (by decide) rfl ?_
              refine j_goto C 6 dX4_worked_183 (by decide) ?_
              refine j_L [3, 4, 5, 6, 1, 0] [(0, .ref (q 6)), (1, .int a), (2, .int b), (3, .int c), (4, .int (nI (l.length + 1))), (5, .int (nI (i + 1)))] rfl ?_
              exact ih (i + 1, b :: l, upd g l.length b) ⟨by dsimp only; omega, (by rw [hs2, hs4]), by dsimp only; simp only [List.length_cons] at *; omega, hg.push _⟩ (by dsimp only; omega)
          · skip
            refine j_iload_n C 2 dX4_worked_71 rfl ?_
            refine j_goto C 87 dX4_worked_72 (by decide) ?_
            refine j_iastN C 86 0 rfl rfl l.length rfl (by omega) (by decide) dX4_worked_87 (S, va_up X 86 (upd g l.length a), P) rfl ?_
            refine j_iinc C (v := (nI (l.length + 1))) 5 [(4, .int (nI (l.length + 1))), (6, .int (cd.getD i 0)), (0, .ref (q 6)), (1, .int a), (2, .int b), (3, .int c), (5, .int (nI i))] dX4_worked_88 rfl (nI_1 _) (by decide) rfl ?_
            refine j_goto C 180 dX4_worked_91 (by decide) ?_
            have hs4 : l' = a :: l := by
              have h0 := hs1; unfold stF at h0; rw [if_pos (nlt c34), if_neg (ltn c57), if_pos c68] at h0; exact (Option.some.inj h0).symm
            refine j_iinc C (v := (nI (i + 1))) 6 [(5, .int (nI (i + 1))), (4, .int (nI (l.length + 1))), (6, .int (cd.getD i 0)), (0, .ref (q 6)), (1, .int a), (2, .int b), (3, .int c)] dX4_worked_180 rfl (nI_1 _) (by decide) rfl ?_
            refine j_goto C 6 dX4_worked_183 (by decide) ?_
            refine j_L [3, 4, 5, 6, 1, 0] [(0, .ref (q 6)), (1, .int a), (2, .int b), (3, .int c), (4, .int (nI (l.length + 1))), (5, .int (nI (i + 1)))] rfl ?_
            exact ih (i + 1, a :: l, upd g l.length a) ⟨by dsimp only; omega, (by rw [hs2, hs4]), by dsimp only; simp only [List.length_cons] at *; omega, hg.push _⟩ (by dsimp only; omega)
        · skip
          refine j_iload C 0 dX4_worked_60 rfl ?_
          refine j_goto C 87 dX4_worked_62 (by decide) ?_
          refine j_iastN C 86 0 rfl rfl l.length rfl (by omega) (by decide) dX4_worked_87 (S, va_up X 86 (upd g l.length (cd.getD i 0)), P) rfl ?_
          refine j_iinc C (v := (nI (l.length + 1))) 5 [(4, .int (nI (l.length + 1))), (6, .int (cd.getD i 0)), (0, .ref (q 6)), (1, .int a), (2, .int b), (3, .int c), (5, .int (nI i))] dX4_worked_88 rfl (nI_1 _) (by decide) rfl ?_
          refine j_goto C 180 dX4_worked_91 (by decide) ?_
          have hs4 : l' = (cd.getD i 0) :: l := by
            have h0 := hs1; unfold stF at h0; rw [if_pos (nlt c34), if_pos (nlt c57)] at h0; exact (Option.some.inj h0).symm
          refine j_iinc C (v := (nI (i + 1))) 6 [(5, .int (nI (i + 1))), (4, .int (nI (l.length + 1))), (6, .int (cd.getD i 0)), (0, .ref (q 6)), (1, .int a), (2, .int b), (3, .int c)] dX4_worked_180 rfl (nI_1 _) (by decide) rfl ?_
          refine j_goto C 6 dX4_worked_183 (by decide) ?_
          refine j_L [3, 4, 5, 6, 1, 0] [(0, .ref (q 6)), (1, .int a), (2, .int b), (3, .int c), (4, .int (nI (l.length + 1))), (5, .int (nI (i + 1)))] rfl ?_
          exact ih (i + 1, (cd.getD i 0) :: l, upd g l.length (cd.getD i 0)) ⟨by dsimp only; omega, (by rw [hs2, hs4]), by dsimp only; simp only [List.length_cons] at *; omega, hg.push _⟩ (by dsimp only; omega)
      · rw [nI_ltI (by omega) (by omega)] at c44
        exfalso; omega
set_option maxHeartbeats 2000000 in
set_option maxRecDepth 20000 in
theorem h_worked_1 {l : Launch} {D : va_G} {cI cG cW : ClassId} {q : Nat → Nat} {S : Nat → Int32} {X : Nat → Nat → Int32} {P : Nat → Nat} {a b c v : Int32} (cd : List Int32) (hsz : S 24 = nI cd.length) (hle : cd.length ≤ 50) (hcd : ∀ j, j < cd.length → X 77 j = cd.getD j 0) (hx : exF a b c cd [] = some [v]) : Ci l yX4_worked cX4_worked 7 (some .int) 3 D (tyL cI cG cW) (wC cI cG cW q) [.ref (q 7), .int a, .int b, .int c] (S, X, P) (fun r τ => r = v ∧ ∃ g, τ = (S, va_up X 87 g, P)) := by
  refine Ci.of (by decide) (Nat.le_of_ble_eq_true rfl) ?_
  intro p_ e_ s_ m_ b_ M_ c_ A_ C
  replace C : Cx _ _ _ _ _ _ _ _ RX4 _ _ _ _ := C
  refine j_L [0, 1, 2, 3] [(0, .ref (q 7)), (1, .int a), (2, .int b), (3, .int c)] rfl ?_
  refine j_iconst C (v := (nI 0)) dX4_worked_0 (by decide) ?_
  refine j_istore C [(4, .int (nI 0)), (0, .ref (q 7)), (1, .int a), (2, .int b), (3, .int c)] dX4_worked_1 (by decide) rfl ?_
  refine j_iconst C (v := (nI 0)) dX4_worked_3 (by decide) ?_
  refine j_istore C [(5, .int (nI 0)), (4, .int (nI 0)), (0, .ref (q 7)), (1, .int a), (2, .int b), (3, .int c)] dX4_worked_4 (by decide) rfl ?_
  refine j_wC (κ' := (S, va_up X 87 (X 87), P)) rfl ?_
  refine j_L [2, 3, 4, 5, 1, 0] [(0, .ref (q 7)), (1, .int a), (2, .int b), (3, .int c), (4, .int (nI 0)), (5, .int (nI 0))] rfl ?_
  refine j_loop (X := Nat × (List Int32) × (Nat → Int32)) (fun (z : Nat × (List Int32) × (Nat → Int32)) => match z with | (i, l, g) => i ≤ cd.length ∧ exF a b c (cd.take i) [] = some l ∧ l.length ≤ i ∧ StkR g l) (fun (z : Nat × (List Int32) × (Nat → Int32)) => match z with | (i, l, g) => cd.length - i) (fun (z : Nat × (List Int32) × (Nat → Int32)) => match z with | (i, l, g) => (S, va_up X 87 g, P)) (fun (z : Nat × (List Int32) × (Nat → Int32)) => match z with | (i, l, g) => [(0, .ref (q 7)), (1, .int a), (2, .int b), (3, .int c), (4, .int (nI l.length)), (5, .int (nI i))]) (0, [], X 87) (⟨Nat.zero_le _, rfl, Nat.le_refl _, fun j h => absurd h (Nat.not_lt_zero _)⟩) rfl rfl ?_
  rintro ⟨i, l, g⟩ ⟨hi, hl, hll, hg⟩ ih
  try dsimp only at ih ⊢
  refine j_iload C 5 dX4_worked_6 rfl ?_
  refine j_aload_n C 0 dX4_worked_8 rfl ?_
  refine j_get C (v := .ref (q 16)) 7 1 rfl rfl inlC4 (by decide) kf4_14 rfl dX4_worked_9 ?_
  refine j_getN C (v := .int (S 24)) 16 1 rfl rfl inlC8 (by decide) kf4_40 rfl dX4_worked_12 ?_
  refine j_v (nI cd.length) hsz ?_
  refine j_icmp_ge C 186 dX4_worked_15 (by decide) (fun c15 => ?_) (fun c15 => ?_)
  · rw [nI_leI (by omega) (by omega)] at c15
    obtain rfl : cd.length = i := by omega
    rw [List.take_length, hx] at hl
    obtain rfl : [v] = l := Option.some.inj hl
    refine j_L [0, 1, 2, 3, 4, 5] [(0, .ref (q 7)), (1, .int a), (2, .int b), (3, .int c), (4, .int (nI 1)), (5, .int (nI cd.length))] rfl ?_
    have hfin : g 0 = v := hg.top
    refine j_iload C 4 dX4_worked_186 rfl ?_
    refine j_if_le C 200 dX4_worked_188 (by decide) (fun c188 => ?_) (fun c188 => ?_)
    · rw [show (0 : Int32) = nI 0 from rfl, nI_leI (by omega) (by omega)] at c188
      exfalso; omega
    · rw [show (0 : Int32) = nI 0 from rfl, nI_leI (by omega) (by omega)] at c188
      refine j_aload_n C 0 dX4_worked_191 rfl ?_
      refine j_get C (v := .ref (q 87)) 7 2 rfl rfl inlC4 (by decide) kf4_20 rfl dX4_worked_192 ?_
      refine j_iconst C (v := (nI 0)) dX4_worked_195 (by decide) ?_
      refine j_ialdN C 87 0 rfl rfl 0 rfl (by omega) (by decide) dX4_worked_196 ?_
      refine j_v v (hfin) ?_
      refine j_goto C 201 dX4_worked_197 (by decide) ?_
      refine j_iret C dX4_worked_201 ?_
      exact ⟨rfl, g, rfl⟩
  · rw [nI_leI (by omega) (by omega)] at c15
    obtain ⟨l', hs1, hs2⟩ := ex_take (by omega) hl hx
    refine j_aload_n C 0 dX4_worked_18 rfl ?_
    refine j_get C (v := .ref (q 16)) 7 1 rfl rfl inlC4 (by decide) kf4_14 rfl dX4_worked_19 ?_
    refine j_getN C (v := .ref (q 77)) 16 0 rfl rfl inlC8 (by decide) kf4_56 rfl dX4_worked_22 ?_
    refine j_iload C 5 dX4_worked_25 rfl ?_
    refine j_ialdN C 77 0 rfl rfl i rfl (by omega) (by decide) dX4_worked_27 ?_
    refine j_v (cd.getD i 0) (hcd i (by omega)) ?_
    refine j_istore C [(6, .int (cd.getD i 0)), (0, .ref (q 7)), (1, .int a), (2, .int b), (3, .int c), (4, .int (nI l.length)), (5, .int (nI i))] dX4_worked_28 (by decide) rfl ?_
    refine j_iload C 0 dX4_worked_30 rfl ?_
    refine j_bipush C (v := (-3)) dX4_worked_32 (by decide) ?_
    refine j_icmp_lt C 94 dX4_worked_34 (by decide) (fun c34 => ?_) (fun c34 => ?_)
    · skip
      refine j_iload C 0 dX4_worked_94 rfl ?_
      refine j_bipush C (v := (-33)) dX4_worked_96 (by decide) ?_
      refine j_icmp_ne C 138 dX4_worked_98 (by decide) (fun c98 => ?_) (fun c98 => ?_)
      · skip
        obtain ⟨y0, x0, r0, e0, hs4⟩ : ∃ y x r, l = y :: x :: r ∧ l' = joinF (-(cd.getD i 0)) x y :: r := by
          have h0 := hs1
          rcases l with _ | ⟨y, _ | ⟨x, r⟩⟩ <;> unfold stF at h0 <;> rw [if_neg (ltn c34), if_neg c98] at h0
          · cases h0
          · cases h0
          · exact ⟨y, x, r, rfl, (Option.some.inj h0).symm⟩
        subst e0
        rw [List.length_cons, List.length_cons] at hll
        refine j_L [0, 1, 2, 3, 4, 5, 6] [(6, .int (cd.getD i 0)), (0, .ref (q 7)), (1, .int a), (2, .int b), (3, .int c), (4, .int (nI (r0.length + 1 + 1))), (5, .int (nI i))] rfl ?_
        refine j_iload C 5 dX4_worked_138 rfl ?_
        refine j_iconst C (v := (nI 2)) dX4_worked_140 (by decide) ?_
        refine j_icmp_ge C 146 dX4_worked_141 (by decide) (fun c141 => ?_) (fun c141 => ?_)
        · rw [nI_leI (by omega) (by omega)] at c141
          refine j_iinc C (v := nI (r0.length + 1)) 5 [(4, .int (nI (r0.length + 1))), (6, .int (cd.getD i 0)), (0, .ref (q 7)), (1, .int a), (2, .int b), (3, .int c), (5, .int (nI i))] dX4_worked_146 rfl (pk_m1 _) (by decide) rfl ?_
          refine j_aload_n C 2 dX4_worked_149 rfl ?_
          refine j_get C (v := .ref (q 87)) 7 2 rfl rfl inlC4 (by decide) kf4_20 rfl dX4_worked_150 ?_
          refine j_iload C 0 dX4_worked_153 rfl ?_
          refine j_iconst C (v := (nI 1)) dX4_worked_155 (by decide) ?_
          refine j_isubN C (by omega) dX4_worked_156 ?_
          refine j_iload C 1 dX4_worked_157 rfl ?_
          refine j_ineg C dX4_worked_159 ?_
          refine j_aload_n C 2 dX4_worked_160 rfl ?_
          refine j_get C (v := .ref (q 87)) 7 2 rfl rfl inlC4 (by decide) kf4_20 rfl dX4_worked_161 ?_
          refine j_iload C 0 dX4_worked_164 rfl ?_
          refine j_iconst C (v := (nI 1)) dX4_worked_166 (by decide) ?_
          refine j_isubN C (by omega) dX4_worked_167 ?_
          refine j_ialdN C 87 0 rfl rfl (r0.length + 1 - 1) rfl (by omega) (by decide) dX4_worked_168 ?_
          refine j_v x0 (hg.pop.top) ?_
          refine j_aload_n C 2 dX4_worked_169 rfl ?_
          refine j_get C (v := .ref (q 87)) 7 2 rfl rfl inlC4 (by decide) kf4_20 rfl dX4_worked_170 ?_
          refine j_iload C 0 dX4_worked_173 rfl ?_
          refine j_ialdN C 87 0 rfl rfl (r0.length + 1) rfl (by omega) (by decide) dX4_worked_175 ?_
          refine j_v y0 (hg.top) ?_
          refine j_callS (As := [.int (-(cd.getD i 0)), .int x0, .int y0]) (rest := [.int (nI (r0.length + 1 - 1)), .ref (q 87)]) C sw4_59 (h_joined) rfl (Nat.le_of_ble_eq_true rfl) dX4_worked_176 (by decide) ?_
          rintro _ _ ⟨rfl, rfl⟩
          refine j_iastN C 87 0 rfl rfl (r0.length + 1 - 1) rfl (by omega) (by decide) dX4_worked_179 (S, va_up X 87 (upd g (r0.length + 1 - 1) (joinF (-(cd.getD i 0)) x0 y0)), P) rfl ?_
          refine j_iinc C (v := (nI (i + 1))) 6 [(5, .int (nI (i + 1))), (4, .int (nI (r0.length + 1))), (6, .int (cd.getD i 0)), (0, .ref (q 7)), (1, .int a), (2, .int b), (3, .int c)] dX4_worked_180 rfl (nI_1 _) (by decide) rfl ?_
          refine j_goto C 6 dX4_worked_183 (by decide) ?_
          refine j_L [3, 4, 5, 6, 1, 0] [(0, .ref (q 7)), (1, .int a), (2, .int b), (3, .int c), (4, .int (nI (r0.length + 1))), (5, .int (nI (i + 1)))] rfl ?_
          exact ih (i + 1, joinF (-(cd.getD i 0)) x0 y0 :: r0, upd g (r0.length + 1 - 1) (joinF (-(cd.getD i 0)) x0 y0)) ⟨by dsimp only; omega, (by rw [hs2, hs4]), by dsimp only; simp only [List.length_cons] at *; omega, hg.pop.pop.push _⟩ (by dsimp only; omega)
        · rw [nI_leI (by omega) (by omega)] at c141
          exfalso; omega
      · skip
        have hs3 : stF a b c (-33) l = some l' := by rw [← c98]; exact hs1
        obtain ⟨x0, r0, rfl⟩ : ∃ x r, l = x :: r := by
          cases l with
          | nil => cases hs3
          | cons x r => exact ⟨x, r, rfl⟩
        rw [List.length_cons] at hll
        have hs4 : l' = bI (x0 = 0) :: r0 := (Option.some.inj hs3).symm
        refine j_L [0, 1, 2, 3, 4, 5, 6] [(6, .int (cd.getD i 0)), (0, .ref (q 7)), (1, .int a), (2, .int b), (3, .int c), (4, .int (nI (r0.length + 1))), (5, .int (nI i))] rfl ?_
        refine j_iload C 5 dX4_worked_101 rfl ?_
        refine j_iconst C (v := (nI 1)) dX4_worked_103 (by decide) ?_
        refine j_icmp_ge C 109 dX4_worked_104 (by decide) (fun c104 => ?_) (fun c104 => ?_)
        · rw [nI_leI (by omega) (by omega)] at c104
          refine j_aload_n C 1 dX4_worked_109 rfl ?_
          refine j_get C (v := .ref (q 87)) 7 2 rfl rfl inlC4 (by decide) kf4_20 rfl dX4_worked_110 ?_
          refine j_iload C 5 dX4_worked_113 rfl ?_
          refine j_iconst C (v := (nI 1)) dX4_worked_115 (by decide) ?_
          refine j_isubN C (by omega) dX4_worked_116 ?_
          refine j_aload_n C 1 dX4_worked_117 rfl ?_
          refine j_get C (v := .ref (q 87)) 7 2 rfl rfl inlC4 (by decide) kf4_20 rfl dX4_worked_118 ?_
          refine j_iload C 5 dX4_worked_121 rfl ?_
          refine j_iconst C (v := (nI 1)) dX4_worked_123 (by decide) ?_
          refine j_isubN C (by omega) dX4_worked_124 ?_
          refine j_ialdN C 87 0 rfl rfl (r0.length + 1 - 1) rfl (by omega) (by decide) dX4_worked_125 ?_
          refine j_v x0 (hg.top) ?_
          refine j_if_ne C 133 dX4_worked_126 (by decide) (fun c126 => ?_) (fun c126 => ?_)
          · skip
            refine j_iconst C (v := (nI 0)) dX4_worked_133 (by decide) ?_
            refine j_iastN C 87 0 rfl rfl (r0.length + 1 - 1) rfl (by omega) (by decide) dX4_worked_134 (S, va_up X 87 (upd g (r0.length + 1 - 1) (nI 0)), P) rfl ?_
            refine j_goto C 180 dX4_worked_135 (by decide) ?_
            have hv2 : (nI 0) = bI (x0 = 0) := bI0 c126
            have hst2 : StkR (upd g (r0.length + 1 - 1) (nI 0)) (bI (x0 = 0) :: r0) := by rw [hv2]; exact hg.pop.push _
            refine j_iinc C (v := (nI (i + 1))) 6 [(5, .int (nI (i + 1))), (6, .int (cd.getD i 0)), (0, .ref (q 7)), (1, .int a), (2, .int b), (3, .int c), (4, .int (nI (r0.length + 1)))] dX4_worked_180 rfl (nI_1 _) (by decide) rfl ?_
            refine j_goto C 6 dX4_worked_183 (by decide) ?_
            refine j_L [2, 3, 4, 5, 6, 0] [(0, .ref (q 7)), (1, .int a), (2, .int b), (3, .int c), (4, .int (nI (r0.length + 1))), (5, .int (nI (i + 1)))] rfl ?_
            exact ih (i + 1, bI (x0 = 0) :: r0, upd g (r0.length + 1 - 1) (nI 0)) ⟨by dsimp only; omega, (by rw [hs2, hs4]), by dsimp only; simp only [List.length_cons] at *; omega, hst2⟩ (by dsimp only; omega)
          · skip
            refine j_iconst C (v := (nI 1)) dX4_worked_129 (by decide) ?_
            refine j_goto C 134 dX4_worked_130 (by decide) ?_
            refine j_iastN C 87 0 rfl rfl (r0.length + 1 - 1) rfl (by omega) (by decide) dX4_worked_134 (S, va_up X 87 (upd g (r0.length + 1 - 1) (nI 1)), P) rfl ?_
            refine j_goto C 180 dX4_worked_135 (by decide) ?_
            have hv2 : (nI 1) = bI (x0 = 0) := bI1 c126
            have hst2 : StkR (upd g (r0.length + 1 - 1) (nI 1)) (bI (x0 = 0) :: r0) := by rw [hv2]; exact hg.pop.push _
            refine j_iinc C (v := (nI (i + 1))) 6 [(5, .int (nI (i + 1))), (6, .int (cd.getD i 0)), (0, .ref (q 7)), (1, .int a), (2, .int b), (3, .int c), (4, .int (nI (r0.length + 1)))] dX4_worked_180 rfl (nI_1 _) (by decide) rfl ?_
            refine j_goto C 6 dX4_worked_183 (by decide) ?_
            refine j_L [2, 3, 4, 5, 6, 0] [(0, .ref (q 7)), (1, .int a), (2, .int b), (3, .int c), (4, .int (nI (r0.length + 1))), (5, .int (nI (i + 1)))] rfl ?_
            exact ih (i + 1, bI (x0 = 0) :: r0, upd g (r0.length + 1 - 1) (nI 1)) ⟨by dsimp only; omega, (by rw [hs2, hs4]), by dsimp only; simp only [List.length_cons] at *; omega, hst2⟩ (by dsimp only; omega)
        · rw [nI_leI (by omega) (by omega)] at c104
          exfalso; omega
    · skip
      refine j_iload C 5 dX4_worked_37 rfl ?_
      refine j_aload_n C 1 dX4_worked_39 rfl ?_
      refine j_get C (v := .ref (q 87)) 7 2 rfl rfl inlC4 (by decide) kf4_20 rfl dX4_worked_40 ?_
      refine j_alen C 87 0 (nI 50) rfl rfl rfl dX4_worked_43 ?_
      refine j_icmp_lt C 49 dX4_worked_44 (by decide) (fun c44 => ?_) (fun c44 => ?_)
      · rw [nI_ltI (by omega) (by omega)] at c44
        refine j_aload_n C 1 dX4_worked_49 rfl ?_
        refine j_get C (v := .ref (q 87)) 7 2 rfl rfl inlC4 (by decide) kf4_20 rfl dX4_worked_50 ?_
        refine j_iload C 5 dX4_worked_53 rfl ?_
        refine j_iload C 0 dX4_worked_55 rfl ?_
        refine j_if_lt C 65 dX4_worked_57 (by decide) (fun c57 => ?_) (fun c57 => ?_)
        · skip
          refine j_iload C 0 dX4_worked_65 rfl ?_
          refine j_iconst C (v := (-1)) dX4_worked_67 (by decide) ?_
          refine j_icmp_ne C 75 dX4_worked_68 (by decide) (fun c68 => ?_) (fun c68 => ?_)
          · skip
            refine j_iload C 0 dX4_worked_75 rfl ?_
            refine j_bipush C (v := (-2)) dX4_worked_77 (by decide) ?_
            refine j_icmp_ne C 86 dX4_worked_79 (by decide) (fun c79 => ?_) (fun c79 => ?_)
            · skip
              refine j_iload_n C 4 dX4_worked_86 rfl ?_
              refine j_iastN C 87 0 rfl rfl l.length rfl (by omega) (by decide) dX4_worked_87 (S, va_up X 87 (upd g l.length c), P) rfl ?_
              refine j_iinc C (v := (nI (l.length + 1))) 5 [(4, .int (nI (l.length + 1))), (6, .int (cd.getD i 0)), (0, .ref (q 7)), (1, .int a), (2, .int b), (3, .int c), (5, .int (nI i))] dX4_worked_88 rfl (nI_1 _) (by decide) rfl ?_
              refine j_goto C 180 dX4_worked_91 (by decide) ?_
              have hs4 : l' = c :: l := by
                have h0 := hs1; unfold stF at h0; rw [if_pos (nlt c34), if_neg (ltn c57), if_neg c68, if_neg c79] at h0; exact (Option.some.inj h0).symm
              refine j_iinc C (v := (nI (i + 1))) 6 [(5, .int (nI (i + 1))), (4, .int (nI (l.length + 1))), (6, .int (cd.getD i 0)), (0, .ref (q 7)), (1, .int a), (2, .int b), (3, .int c)] dX4_worked_180 rfl (nI_1 _) (by decide) rfl ?_
              refine j_goto C 6 dX4_worked_183 (by decide) ?_
              refine j_L [3, 4, 5, 6, 1, 0] [(0, .ref (q 7)), (1, .int a), (2, .int b), (3, .int c), (4, .int (nI (l.length + 1))), (5, .int (nI (i + 1)))] rfl ?_
              exact ih (i + 1, c :: l, upd g l.length c) ⟨by dsimp only; omega, (by rw [hs2, hs4]), by dsimp only; simp only [List.length_cons] at *; omega, hg.push _⟩ (by dsimp only; omega)
            · skip
              refine j_iload_n C 3 dX4_worked_82 rfl ?_
              refine j_goto C 87 dX4_worked_83 (by decide) ?_
              refine j_iastN C 87 0 rfl rfl l.length rfl (by omega) (by decide) dX4_worked_87 (S, va_up X 87 (upd g l.length b), P) rfl ?_
              refine j_iinc C (v := (nI (l.length + 1))) 5 [(4, .int (nI (l.length + 1))), (6, .int (cd.getD i 0)), (0, .ref (q 7)), (1, .int a), (2, .int b), (3, .int c), (5, .int (nI i))] dX4_worked_88 rfl (nI_1 _) (by decide) rfl ?_
              refine j_goto C 180 dX4_worked_91 (by decide) ?_
              have hs4 : l' = b :: l := by
                have h0 := hs1; unfold stF at h0; rw [if_pos (nlt c34), if_neg (ltn c57), if_neg c68, if_pos c79] at h0; exact (Option.some.inj h0).symm
              refine j_iinc C (v := (nI (i + 1))) 6 [(5, .int (nI (i + 1))), (4, .int (nI (l.length + 1))), (6, .int (cd.getD i 0)), (0, .ref (q 7)), (1, .int a), (2, .int b), (3, .int c)] dX4_worked_180 rfl (nI_1 _) (by decide) rfl ?_
              refine j_goto C 6 dX4_worked_183 (by decide) ?_
              refine j_L [3, 4, 5, 6, 1, 0] [(0, .ref (q 7)), (1, .int a), (2, .int b), (3, .int c), (4, .int (nI (l.length + 1))), (5, .int (nI (i + 1)))] rfl ?_
              exact ih (i + 1, b :: l, upd g l.length b) ⟨by dsimp only; omega, (by rw [hs2, hs4]), by dsimp only; simp only [List.length_cons] at *; omega, hg.push _⟩ (by dsimp only; omega)
          · skip
            refine j_iload_n C 2 dX4_worked_71 rfl ?_
            refine j_goto C 87 dX4_worked_72 (by decide) ?_
            refine j_iastN C 87 0 rfl rfl l.length rfl (by omega) (by decide) dX4_worked_87 (S, va_up X 87 (upd g l.length a), P) rfl ?_
            refine j_iinc C (v := (nI (l.length + 1))) 5 [(4, .int (nI (l.length + 1))), (6, .int (cd.getD i 0)), (0, .ref (q 7)), (1, .int a), (2, .int b), (3, .int c), (5, .int (nI i))] dX4_worked_88 rfl (nI_1 _) (by decide) rfl ?_
            refine j_goto C 180 dX4_worked_91 (by decide) ?_
            have hs4 : l' = a :: l := by
              have h0 := hs1; unfold stF at h0; rw [if_pos (nlt c34), if_neg (ltn c57), if_pos c68] at h0; exact (Option.some.inj h0).symm
            refine j_iinc C (v := (nI (i + 1))) 6 [(5, .int (nI (i + 1))), (4, .int (nI (l.length + 1))), (6, .int (cd.getD i 0)), (0, .ref (q 7)), (1, .int a), (2, .int b), (3, .int c)] dX4_worked_180 rfl (nI_1 _) (by decide) rfl ?_
            refine j_goto C 6 dX4_worked_183 (by decide) ?_
            refine j_L [3, 4, 5, 6, 1, 0] [(0, .ref (q 7)), (1, .int a), (2, .int b), (3, .int c), (4, .int (nI (l.length + 1))), (5, .int (nI (i + 1)))] rfl ?_
            exact ih (i + 1, a :: l, upd g l.length a) ⟨by dsimp only; omega, (by rw [hs2, hs4]), by dsimp only; simp only [List.length_cons] at *; omega, hg.push _⟩ (by dsimp only; omega)
        · skip
          refine j_iload C 0 dX4_worked_60 rfl ?_
          refine j_goto C 87 dX4_worked_62 (by decide) ?_
          refine j_iastN C 87 0 rfl rfl l.length rfl (by omega) (by decide) dX4_worked_87 (S, va_up X 87 (upd g l.length (cd.getD i 0)), P) rfl ?_
          refine j_iinc C (v := (nI (l.length + 1))) 5 [(4, .int (nI (l.length + 1))), (6, .int (cd.getD i 0)), (0, .ref (q 7)), (1, .int a), (2, .int b), (3, .int c), (5, .int (nI i))] dX4_worked_88 rfl (nI_1 _) (by decide) rfl ?_
          refine j_goto C 180 dX4_worked_91 (by decide) ?_
          have hs4 : l' = (cd.getD i 0) :: l := by
            have h0 := hs1; unfold stF at h0; rw [if_pos (nlt c34), if_pos (nlt c57)] at h0; exact (Option.some.inj h0).symm
          refine j_iinc C (v := (nI (i + 1))) 6 [(5, .int (nI (i + 1))), (4, .int (nI (l.length + 1))), (6, .int (cd.getD i 0)), (0, .ref (q 7)), (1, .int a), (2, .int b), (3, .int c)] dX4_worked_180 rfl (nI_1 _) (by decide) rfl ?_
          refine j_goto C 6 dX4_worked_183 (by decide) ?_
          refine j_L [3, 4, 5, 6, 1, 0] [(0, .ref (q 7)), (1, .int a), (2, .int b), (3, .int c), (4, .int (nI (l.length + 1))), (5, .int (nI (i + 1)))] rfl ?_
          exact ih (i + 1, (cd.getD i 0) :: l, upd g l.length (cd.getD i 0)) ⟨by dsimp only; omega, (by rw [hs2, hs4]), by dsimp only; simp only [List.length_cons] at *; omega, hg.push _⟩ (by dsimp only; omega)
      · rw [nI_ltI (by omega) (by omega)] at c44
        exfalso; omega
theorem va_self {X : Nat → Nat → Int32} {k : Nat} : va_up X k (X k) = X := by
  funext j
  by_cases e : j = k
  · subst e; simp [va_up]
  · simp [va_up, e]
theorem law_no {row : Nat → Int32} {u : Nat} {a b c : Int32} (h : row (6 + u) = -1) : lawF row u a b c = hld (if u = 0 then a / nI 2 else a + nI 1) (nI 0) (if u = 0 then nI 9 else nI 99) := by
  unfold lawF; rw [h, if_neg (by decide)]
theorem law_yes {row : Nat → Int32} {u n : Nat} {a b c v : Int32} {cd : List Int32} (hn : n ≤ 50) (h : row (6 + u) = nI n) (hc : (readF (txF row u) n u).2.2 = cd) (hx : exF a b c cd [] = some [v]) : lawF row u a b c = hld v (nI 0) (if u = 0 then nI 9 else nI 99) := by
  unfold lawF; rw [h, if_pos (by rw [Int32.le_iff_toInt_le, nI_toInt (by omega)]; exact Int.natCast_nonneg n), tN_nI (by omega), hc, hx]; rfl

theorem dX4_gives_0 : decode cX4_gives 0 = .ok (.aload_n 0, 1) := by decide +kernel
theorem dX4_gives_1 : decode cX4_gives 1 = .ok (.getfield 14, 3) := by decide +kernel
theorem dX4_gives_4 : decode cX4_gives 4 = .ok (.getfield 40, 3) := by decide +kernel
theorem dX4_gives_7 : decode cX4_gives 7 = .ok (.ifCond .ne 24, 3) := by decide +kernel
theorem dX4_gives_10 : decode cX4_gives 10 = .ok (.aload_n 0, 1) := by decide +kernel
theorem dX4_gives_11 : decode cX4_gives 11 = .ok (.getfield 37, 3) := by decide +kernel
theorem dX4_gives_14 : decode cX4_gives 14 = .ok (.ifCond .ne 9, 3) := by decide +kernel
theorem dX4_gives_17 : decode cX4_gives 17 = .ok (.iload_n 1, 1) := by decide +kernel
theorem dX4_gives_18 : decode cX4_gives 18 = .ok (.iconst 2, 1) := by decide +kernel
theorem dX4_gives_19 : decode cX4_gives 19 = .ok (.idiv, 1) := by decide +kernel
theorem dX4_gives_20 : decode cX4_gives 20 = .ok (.goto 6, 3) := by decide +kernel
theorem dX4_gives_23 : decode cX4_gives 23 = .ok (.iload_n 1, 1) := by decide +kernel
theorem dX4_gives_24 : decode cX4_gives 24 = .ok (.iconst 1, 1) := by decide +kernel
theorem dX4_gives_25 : decode cX4_gives 25 = .ok (.iadd, 1) := by decide +kernel
theorem dX4_gives_26 : decode cX4_gives 26 = .ok (.istore 4, 2) := by decide +kernel
theorem dX4_gives_28 : decode cX4_gives 28 = .ok (.goto 12, 3) := by decide +kernel
theorem dX4_gives_31 : decode cX4_gives 31 = .ok (.aload_n 0, 1) := by decide +kernel
theorem dX4_gives_32 : decode cX4_gives 32 = .ok (.iload_n 1, 1) := by decide +kernel
theorem dX4_gives_33 : decode cX4_gives 33 = .ok (.iload_n 2, 1) := by decide +kernel
theorem dX4_gives_34 : decode cX4_gives 34 = .ok (.iload_n 3, 1) := by decide +kernel
theorem dX4_gives_35 : decode cX4_gives 35 = .ok (.invokevirtual 43, 3) := by decide +kernel
theorem dX4_gives_38 : decode cX4_gives 38 = .ok (.istore 4, 2) := by decide +kernel
theorem dX4_gives_40 : decode cX4_gives 40 = .ok (.iconst 0, 1) := by decide +kernel
theorem dX4_gives_41 : decode cX4_gives 41 = .ok (.iload 4, 2) := by decide +kernel
theorem dX4_gives_43 : decode cX4_gives 43 = .ok (.aload_n 0, 1) := by decide +kernel
theorem dX4_gives_44 : decode cX4_gives 44 = .ok (.getfield 37, 3) := by decide +kernel
theorem dX4_gives_47 : decode cX4_gives 47 = .ok (.ifCond .ne 8, 3) := by decide +kernel
theorem dX4_gives_50 : decode cX4_gives 50 = .ok (.bipush 9, 2) := by decide +kernel
theorem dX4_gives_52 : decode cX4_gives 52 = .ok (.goto 5, 3) := by decide +kernel
theorem dX4_gives_55 : decode cX4_gives 55 = .ok (.bipush 99, 2) := by decide +kernel
theorem dX4_gives_57 : decode cX4_gives 57 = .ok (.invokestatic 47, 3) := by decide +kernel
theorem dX4_gives_60 : decode cX4_gives 60 = .ok (.invokestatic 53, 3) := by decide +kernel
theorem dX4_gives_63 : decode cX4_gives 63 = .ok (.ireturn, 1) := by decide +kernel
set_option maxHeartbeats 2000000 in
set_option maxRecDepth 20000 in
theorem h_gives0_0 {l : Launch} {D : va_G} {cI cG cW : ClassId} {q : Nat → Nat} {S : Nat → Int32} {X : Nat → Nat → Int32} {P : Nat → Nat} {a b c : Int32} {row : Nat → Int32} (hrow : row (6 + 0) = -1) (hsz : S 23 = nI 0) : Ci l yX4_gives cX4_gives 5 (some .int) 4 D (tyL cI cG cW) (wC cI cG cW q) [.ref (q 6), .int a, .int b, .int c] (S, X, P) (fun r τ => r = lawF row 0 a b c ∧ ∃ g, τ = (S, va_up X 86 g, P)) := by
  refine Ci.of (by decide) (Nat.le_of_ble_eq_true rfl) ?_
  intro p_ e_ s_ m_ b_ M_ c_ A_ C
  replace C : Cx _ _ _ _ _ _ _ _ RX4 _ _ _ _ := C
  refine j_L [0, 1, 2, 3] [(0, .ref (q 6)), (1, .int a), (2, .int b), (3, .int c)] rfl ?_
  refine j_aload_n C 0 dX4_gives_0 rfl ?_
  refine j_get C (v := .ref (q 15)) 6 1 rfl rfl inlC4 (by decide) kf4_14 rfl dX4_gives_1 ?_
  refine j_getN C (v := .int (S 23)) 15 1 rfl rfl inlC8 (by decide) kf4_40 rfl dX4_gives_4 ?_
  refine j_v (nI 0) hsz ?_
  refine j_if_ne C 31 dX4_gives_7 (by decide) (fun c7 => ?_) (fun c7 => ?_)
  · rw [show (0 : Int32) = nI 0 from rfl, nI_eq (by omega) (by omega)] at c7
    exfalso; omega
  · rw [show (0 : Int32) = nI 0 from rfl, nI_eq (by omega) (by omega)] at c7
    refine j_aload_n C 0 dX4_gives_10 rfl ?_
    refine j_get C (v := .int (nI 0)) 6 0 rfl rfl inlC4 (by decide) kf4_37 rfl dX4_gives_11 ?_
    refine j_if_ne C 23 dX4_gives_14 (by decide) (fun c14 => ?_) (fun c14 => ?_)
    · rw [show (0 : Int32) = nI 0 from rfl, nI_eq (by omega) (by omega)] at c14
      exact absurd c7 c14
    · rw [show (0 : Int32) = nI 0 from rfl, nI_eq (by omega) (by omega)] at c14
      refine j_iload_n C 1 dX4_gives_17 rfl ?_
      refine j_iconst C (v := (nI 2)) dX4_gives_18 (by decide) ?_
      refine j_idiv C dX4_gives_19 (by decide) ?_
      refine j_goto C 26 dX4_gives_20 (by decide) ?_
      refine j_istore C [(4, .int (a / (nI 2))), (0, .ref (q 6)), (1, .int a), (2, .int b), (3, .int c)] dX4_gives_26 (by decide) rfl ?_
      refine j_goto C 40 dX4_gives_28 (by decide) ?_
      refine j_iconst C (v := (nI 0)) dX4_gives_40 (by decide) ?_
      refine j_iload C 0 dX4_gives_41 rfl ?_
      refine j_aload_n C 1 dX4_gives_43 rfl ?_
      refine j_get C (v := .int (nI 0)) 6 0 rfl rfl inlC4 (by decide) kf4_37 rfl dX4_gives_44 ?_
      refine j_if_ne C 55 dX4_gives_47 (by decide) (fun c47 => ?_) (fun c47 => ?_)
      · rw [show (0 : Int32) = nI 0 from rfl, nI_eq (by omega) (by omega)] at c47
        exact absurd c14 c47
      · rw [show (0 : Int32) = nI 0 from rfl, nI_eq (by omega) (by omega)] at c47
        refine j_bipush C (v := (nI 9)) dX4_gives_50 (by decide) ?_
        refine j_goto C 57 dX4_gives_52 (by decide) ?_
        refine j_mmin (rest := [.int (nI 0)]) C mn4_47 (by decide) (Nat.le_of_ble_eq_true rfl) dX4_gives_57 ?_
        refine j_mmax (rest := []) C mx4_53 (by decide) (Nat.le_of_ble_eq_true rfl) dX4_gives_60 ?_
        refine j_iret C dX4_gives_63 ?_
        exact ⟨(mm_hld _ (by decide)).trans (law_no hrow).symm, X 86, by rw [va_self]⟩
set_option maxHeartbeats 2000000 in
set_option maxRecDepth 20000 in
theorem h_gives1_0 {l : Launch} {D : va_G} {cI cG cW : ClassId} {q : Nat → Nat} {S : Nat → Int32} {X : Nat → Nat → Int32} {P : Nat → Nat} {a b c v : Int32} {row : Nat → Int32} {n : Nat} (hn : n ≤ 50) (hrow : row (6 + 0) = nI n) (cd : List Int32) (hc : (readF (txF row 0) n 0).2.2 = cd) (hsz : S 23 = nI cd.length) (h0 : 0 < cd.length) (hle : cd.length ≤ 50) (hcd : ∀ j, j < cd.length → X 76 j = cd.getD j 0) (hx : exF a b c cd [] = some [v]) : Ci l yX4_gives cX4_gives 5 (some .int) 4 D (tyL cI cG cW) (wC cI cG cW q) [.ref (q 6), .int a, .int b, .int c] (S, X, P) (fun r τ => r = lawF row 0 a b c ∧ ∃ g, τ = (S, va_up X 86 g, P)) := by
  refine Ci.of (by decide) (Nat.le_of_ble_eq_true rfl) ?_
  intro p_ e_ s_ m_ b_ M_ c_ A_ C
  replace C : Cx _ _ _ _ _ _ _ _ RX4 _ _ _ _ := C
  refine j_L [0, 1, 2, 3] [(0, .ref (q 6)), (1, .int a), (2, .int b), (3, .int c)] rfl ?_
  refine j_aload_n C 0 dX4_gives_0 rfl ?_
  refine j_get C (v := .ref (q 15)) 6 1 rfl rfl inlC4 (by decide) kf4_14 rfl dX4_gives_1 ?_
  refine j_getN C (v := .int (S 23)) 15 1 rfl rfl inlC8 (by decide) kf4_40 rfl dX4_gives_4 ?_
  refine j_v (nI cd.length) hsz ?_
  refine j_if_ne C 31 dX4_gives_7 (by decide) (fun c7 => ?_) (fun c7 => ?_)
  · rw [show (0 : Int32) = nI 0 from rfl, nI_eq (by omega) (by omega)] at c7
    refine j_aload_n C 0 dX4_gives_31 rfl ?_
    refine j_iload_n C 1 dX4_gives_32 rfl ?_
    refine j_iload_n C 2 dX4_gives_33 rfl ?_
    refine j_iload_n C 3 dX4_gives_34 rfl ?_
    refine j_callV (As := [.int a, .int b, .int c]) (rest := []) C vw4_43 (h_worked_0 cd hsz hle hcd hx) ⟨6, 4, _, _, rfl, rfl, rfl⟩ rfl (Nat.le_of_ble_eq_true rfl) dX4_gives_35 (by decide) ?_
    rintro r_ _ ⟨er_, g, rfl⟩
    refine j_v v er_ ?_
    refine j_istore C [(4, .int v), (0, .ref (q 6)), (1, .int a), (2, .int b), (3, .int c)] dX4_gives_38 (by decide) rfl ?_
    refine j_iconst C (v := (nI 0)) dX4_gives_40 (by decide) ?_
    refine j_iload C 0 dX4_gives_41 rfl ?_
    refine j_aload_n C 1 dX4_gives_43 rfl ?_
    refine j_get C (v := .int (nI 0)) 6 0 rfl rfl inlC4 (by decide) kf4_37 rfl dX4_gives_44 ?_
    refine j_if_ne C 55 dX4_gives_47 (by decide) (fun c47 => ?_) (fun c47 => ?_)
    · rw [show (0 : Int32) = nI 0 from rfl, nI_eq (by omega) (by omega)] at c47
      exfalso; omega
    · rw [show (0 : Int32) = nI 0 from rfl, nI_eq (by omega) (by omega)] at c47
      refine j_bipush C (v := (nI 9)) dX4_gives_50 (by decide) ?_
      refine j_goto C 57 dX4_gives_52 (by decide) ?_
      refine j_mmin (rest := [.int (nI 0)]) C mn4_47 (by decide) (Nat.le_of_ble_eq_true rfl) dX4_gives_57 ?_
      refine j_mmax (rest := []) C mx4_53 (by decide) (Nat.le_of_ble_eq_true rfl) dX4_gives_60 ?_
      refine j_iret C dX4_gives_63 ?_
      exact ⟨(mm_hld _ (by decide)).trans (law_yes hn hrow hc hx).symm, g, rfl⟩
  · rw [show (0 : Int32) = nI 0 from rfl, nI_eq (by omega) (by omega)] at c7
    exfalso; omega
theorem h_gives_0 {l : Launch} {D : va_G} {cI cG cW : ClassId} {q : Nat → Nat} {S : Nat → Int32} {X : Nat → Nat → Int32} {P : Nat → Nat} {a b c : Int32} {row : Nat → Int32} (h : CLaw S X 0 row 0) : Ci l yX4_gives cX4_gives 5 (some .int) 4 D (tyL cI cG cW) (wC cI cG cW q) [.ref (q 6), .int a, .int b, .int c] (S, X, P) (fun r τ => r = lawF row 0 a b c ∧ ∃ g, τ = (S, va_up X 86 g, P)) := by
  rcases h with ⟨h1, h2⟩ | ⟨n, hn, h1, cd, h2, h3, h4, h5, h6, h7⟩
  · exact h_gives0_0 h1 h2
  · obtain ⟨v, hv⟩ := h7 a b c
    exact h_gives1_0 hn h1 cd h2 h3 h4 h5 h6 hv
set_option maxHeartbeats 2000000 in
set_option maxRecDepth 20000 in
theorem h_gives0_1 {l : Launch} {D : va_G} {cI cG cW : ClassId} {q : Nat → Nat} {S : Nat → Int32} {X : Nat → Nat → Int32} {P : Nat → Nat} {a b c : Int32} {row : Nat → Int32} (hrow : row (6 + 1) = -1) (hsz : S 24 = nI 0) : Ci l yX4_gives cX4_gives 5 (some .int) 4 D (tyL cI cG cW) (wC cI cG cW q) [.ref (q 7), .int a, .int b, .int c] (S, X, P) (fun r τ => r = lawF row 1 a b c ∧ ∃ g, τ = (S, va_up X 87 g, P)) := by
  refine Ci.of (by decide) (Nat.le_of_ble_eq_true rfl) ?_
  intro p_ e_ s_ m_ b_ M_ c_ A_ C
  replace C : Cx _ _ _ _ _ _ _ _ RX4 _ _ _ _ := C
  refine j_L [0, 1, 2, 3] [(0, .ref (q 7)), (1, .int a), (2, .int b), (3, .int c)] rfl ?_
  refine j_aload_n C 0 dX4_gives_0 rfl ?_
  refine j_get C (v := .ref (q 16)) 7 1 rfl rfl inlC4 (by decide) kf4_14 rfl dX4_gives_1 ?_
  refine j_getN C (v := .int (S 24)) 16 1 rfl rfl inlC8 (by decide) kf4_40 rfl dX4_gives_4 ?_
  refine j_v (nI 0) hsz ?_
  refine j_if_ne C 31 dX4_gives_7 (by decide) (fun c7 => ?_) (fun c7 => ?_)
  · rw [show (0 : Int32) = nI 0 from rfl, nI_eq (by omega) (by omega)] at c7
    exfalso; omega
  · rw [show (0 : Int32) = nI 0 from rfl, nI_eq (by omega) (by omega)] at c7
    refine j_aload_n C 0 dX4_gives_10 rfl ?_
    refine j_get C (v := .int (nI 1)) 7 0 rfl rfl inlC4 (by decide) kf4_37 rfl dX4_gives_11 ?_
    refine j_if_ne C 23 dX4_gives_14 (by decide) (fun c14 => ?_) (fun c14 => ?_)
    · rw [show (0 : Int32) = nI 0 from rfl, nI_eq (by omega) (by omega)] at c14
      refine j_iload_n C 1 dX4_gives_23 rfl ?_
      refine j_iconst C (v := (nI 1)) dX4_gives_24 (by decide) ?_
      refine j_iadd C dX4_gives_25 ?_
      refine j_istore C [(4, .int (a + (nI 1))), (0, .ref (q 7)), (1, .int a), (2, .int b), (3, .int c)] dX4_gives_26 (by decide) rfl ?_
      refine j_goto C 40 dX4_gives_28 (by decide) ?_
      refine j_iconst C (v := (nI 0)) dX4_gives_40 (by decide) ?_
      refine j_iload C 0 dX4_gives_41 rfl ?_
      refine j_aload_n C 1 dX4_gives_43 rfl ?_
      refine j_get C (v := .int (nI 1)) 7 0 rfl rfl inlC4 (by decide) kf4_37 rfl dX4_gives_44 ?_
      refine j_if_ne C 55 dX4_gives_47 (by decide) (fun c47 => ?_) (fun c47 => ?_)
      · rw [show (0 : Int32) = nI 0 from rfl, nI_eq (by omega) (by omega)] at c47
        refine j_bipush C (v := (nI 99)) dX4_gives_55 (by decide) ?_
        refine j_mmin (rest := [.int (nI 0)]) C mn4_47 (by decide) (Nat.le_of_ble_eq_true rfl) dX4_gives_57 ?_
        refine j_mmax (rest := []) C mx4_53 (by decide) (Nat.le_of_ble_eq_true rfl) dX4_gives_60 ?_
        refine j_iret C dX4_gives_63 ?_
        exact ⟨(mm_hld _ (by decide)).trans (law_no hrow).symm, X 87, by rw [va_self]⟩
      · rw [show (0 : Int32) = nI 0 from rfl, nI_eq (by omega) (by omega)] at c47
        exact absurd c47 c14
    · rw [show (0 : Int32) = nI 0 from rfl, nI_eq (by omega) (by omega)] at c14
      exfalso; omega
set_option maxHeartbeats 2000000 in
set_option maxRecDepth 20000 in
theorem h_gives1_1 {l : Launch} {D : va_G} {cI cG cW : ClassId} {q : Nat → Nat} {S : Nat → Int32} {X : Nat → Nat → Int32} {P : Nat → Nat} {a b c v : Int32} {row : Nat → Int32} {n : Nat} (hn : n ≤ 50) (hrow : row (6 + 1) = nI n) (cd : List Int32) (hc : (readF (txF row 1) n 1).2.2 = cd) (hsz : S 24 = nI cd.length) (h0 : 0 < cd.length) (hle : cd.length ≤ 50) (hcd : ∀ j, j < cd.length → X 77 j = cd.getD j 0) (hx : exF a b c cd [] = some [v]) : Ci l yX4_gives cX4_gives 5 (some .int) 4 D (tyL cI cG cW) (wC cI cG cW q) [.ref (q 7), .int a, .int b, .int c] (S, X, P) (fun r τ => r = lawF row 1 a b c ∧ ∃ g, τ = (S, va_up X 87 g, P)) := by
  refine Ci.of (by decide) (Nat.le_of_ble_eq_true rfl) ?_
  intro p_ e_ s_ m_ b_ M_ c_ A_ C
  replace C : Cx _ _ _ _ _ _ _ _ RX4 _ _ _ _ := C
  refine j_L [0, 1, 2, 3] [(0, .ref (q 7)), (1, .int a), (2, .int b), (3, .int c)] rfl ?_
  refine j_aload_n C 0 dX4_gives_0 rfl ?_
  refine j_get C (v := .ref (q 16)) 7 1 rfl rfl inlC4 (by decide) kf4_14 rfl dX4_gives_1 ?_
  refine j_getN C (v := .int (S 24)) 16 1 rfl rfl inlC8 (by decide) kf4_40 rfl dX4_gives_4 ?_
  refine j_v (nI cd.length) hsz ?_
  refine j_if_ne C 31 dX4_gives_7 (by decide) (fun c7 => ?_) (fun c7 => ?_)
  · rw [show (0 : Int32) = nI 0 from rfl, nI_eq (by omega) (by omega)] at c7
    refine j_aload_n C 0 dX4_gives_31 rfl ?_
    refine j_iload_n C 1 dX4_gives_32 rfl ?_
    refine j_iload_n C 2 dX4_gives_33 rfl ?_
    refine j_iload_n C 3 dX4_gives_34 rfl ?_
    refine j_callV (As := [.int a, .int b, .int c]) (rest := []) C vw4_43 (h_worked_1 cd hsz hle hcd hx) ⟨7, 4, _, _, rfl, rfl, rfl⟩ rfl (Nat.le_of_ble_eq_true rfl) dX4_gives_35 (by decide) ?_
    rintro r_ _ ⟨er_, g, rfl⟩
    refine j_v v er_ ?_
    refine j_istore C [(4, .int v), (0, .ref (q 7)), (1, .int a), (2, .int b), (3, .int c)] dX4_gives_38 (by decide) rfl ?_
    refine j_iconst C (v := (nI 0)) dX4_gives_40 (by decide) ?_
    refine j_iload C 0 dX4_gives_41 rfl ?_
    refine j_aload_n C 1 dX4_gives_43 rfl ?_
    refine j_get C (v := .int (nI 1)) 7 0 rfl rfl inlC4 (by decide) kf4_37 rfl dX4_gives_44 ?_
    refine j_if_ne C 55 dX4_gives_47 (by decide) (fun c47 => ?_) (fun c47 => ?_)
    · rw [show (0 : Int32) = nI 0 from rfl, nI_eq (by omega) (by omega)] at c47
      refine j_bipush C (v := (nI 99)) dX4_gives_55 (by decide) ?_
      refine j_mmin (rest := [.int (nI 0)]) C mn4_47 (by decide) (Nat.le_of_ble_eq_true rfl) dX4_gives_57 ?_
      refine j_mmax (rest := []) C mx4_53 (by decide) (Nat.le_of_ble_eq_true rfl) dX4_gives_60 ?_
      refine j_iret C dX4_gives_63 ?_
      exact ⟨(mm_hld _ (by decide)).trans (law_yes hn hrow hc hx).symm, g, rfl⟩
    · rw [show (0 : Int32) = nI 0 from rfl, nI_eq (by omega) (by omega)] at c47
      exfalso; omega
  · rw [show (0 : Int32) = nI 0 from rfl, nI_eq (by omega) (by omega)] at c7
    exfalso; omega
theorem h_gives_1 {l : Launch} {D : va_G} {cI cG cW : ClassId} {q : Nat → Nat} {S : Nat → Int32} {X : Nat → Nat → Int32} {P : Nat → Nat} {a b c : Int32} {row : Nat → Int32} (h : CLaw S X 1 row 1) : Ci l yX4_gives cX4_gives 5 (some .int) 4 D (tyL cI cG cW) (wC cI cG cW q) [.ref (q 7), .int a, .int b, .int c] (S, X, P) (fun r τ => r = lawF row 1 a b c ∧ ∃ g, τ = (S, va_up X 87 g, P)) := by
  rcases h with ⟨h1, h2⟩ | ⟨n, hn, h1, cd, h2, h3, h4, h5, h6, h7⟩
  · exact h_gives0_1 h1 h2
  · obtain ⟨v, hv⟩ := h7 a b c
    exact h_gives1_1 hn h1 cd h2 h3 h4 h5 h6 hv

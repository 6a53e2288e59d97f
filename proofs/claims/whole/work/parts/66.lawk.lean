/-! The law's start: what is known of the machine and of what lies outside. -/
/-! THE CLAIM OUT OF ONE WALK OF THE LAW'S BODY. Your part is whole_start (and what it stands on); all else here is the same for every law, but numbers. -/
def R_law : String := "GleanedSorryLaw"
def lw_P (b : Addr) (xs : List Int32) (args : Array Value) (s : State) : Prop := args = #[.ref b] ∧ s.IntsAt b xs ∧ xs.length ≤ 3072 ∧ (Jvm.Cond.and given_1 narrow_1).before args s = true
def lw_Q (_ : Array Value) (s : State) (o : Outcome) (t : State) : Prop := o = .returned (some (.int 1)) ∧ Framed s o t [] 600000 7302249
def lw_Z (below : List Frame) (a : Array Value) (s : State) : State → Prop := fun t => ∃ o, t.status = .running ∧ Ended t below o ∧ lw_Q a s o t
/-- the law's own end, with 1 on the stack, nothing written that was there before, its room as the claim has it -/
theorem lw_ret {p : Program} {l : Launch} {e : Env} {s : State} {m : MethodId} {below : List Frame} {meth : Method} {c : Code} {b : Nat} (hx : p.tables.exec = Jvm.exec) (hb : c.code = code) (hr : meth.sig.returnType = ret) (hlocks : meth.locks = false) {pc : Nat} {H : Heap} {ls : Array Slot} (hdg : decode code pc = .ok (.ireturn, 1)) : W p l e room_1 s m #[Value.ref b] below meth c H [] 600000 7302249 (lw_Z below #[Value.ref b] s) (F0 m pc ls [.int 1]) := by
  intro T hT X
  obtain ⟨fs, hret, hrun, hended, hW, hframe⟩ := X.leave (v := some (.int 1)) (hlocks := hlocks) (fun h => by rw [hr] at h; cases h)
  have hmeth' : T.vm.method? m = some meth := X.method'
  refine ⟨T.setFrames fs, ?_, .returned (some (.int 1)), hrun, hended, rfl, ⟨_, rfl⟩, hW, hframe⟩
  jvm_step X.here [X.here.top, hx, hb, hdg, hmeth', hr, ret, narrow_b1]
  (try refine ⟨rfl, ?_⟩); (try refine ⟨rfl, ?_⟩)
  first | (intro acts; rw [hret _ acts rfl rfl rfl]) | rw [hret _ _ rfl rfl rfl]
  exact Steps.refl _
/-- what holds at the law's entry: the machine, the code, the tables' words (any of lw_tbl by 'hts w (by decide +kernel)'), the script of L ints xs at the cell b, what the Statement gives of the start (any of its parts by flat_of_before) -/
def lw_At (p : Program) (s : State) (m : MethodId) (meth : Method) (c : Code) (b L : Nat) (xs : Nat → Int32) : Prop :=
  p.tables.exec = Jvm.exec ∧ c.code = code ∧ meth.sig.returnType = ret ∧ c.maxLocals = 4 ∧ s.vm.findClass R_law = some m.cls ∧ (∀ w ∈ lw_tbl, w.before #[Value.ref b] s = true) ∧ va_X b L xs s s.heap ∧ b < s.heap.size ∧ meth.locks = false ∧ (Jvm.Cond.and given_1 narrow_1).before #[Value.ref b] s = true

theorem lg_ts {b : Nat} {s : State} (hts : ∀ w ∈ lw_tbl, w.before #[Value.ref b] s = true) : ∀ w ∈ lw_g, w.before #[Value.ref b] s = true := fun w h => hts w (List.mem_filter.mp h).1
theorem lg_KN {b : Nat} {s : State} (hts : ∀ w ∈ lw_tbl, w.before #[Value.ref b] s = true) : KN s := by
  intro w hw
  have h1 := hts w (List.mem_filter.mp hw).1
  have h2 := (List.mem_filter.mp hw).2
  cases w <;> first | exact va_tabs rfl rfl h1 | (simp [isNest] at h2)
theorem lg_arr {b : Nat} {s : State} {C : String} (h : (Cond.arrayOver (.object C)).before #[Value.ref b] s = true) : ∃ cA : ClassId, ArrOfT s cA (.object C) ∧ va_RA s cA (.object C) := by
  obtain ⟨comp, cA, k, h1, -, h3, h4, h5⟩ := Cond.arrayOver_spec (args := #[Value.ref b]) (first := s) (o := none) (s := s) (idx := []) h
  exact ⟨cA, fun n z => ⟨fun k h => (by cases h), k, h3, comp, h4⟩, k, comp, h3, h4, h1, h5⟩
theorem lg_int {b : Nat} {s : State} (h : (Cond.arrayClass .int).before #[Value.ref b] s = true) : ∃ cA : ClassId, ArrOfT s cA .int ∧ va_RA s cA .int := by
  obtain ⟨cA, k, comp, h1, h3, h4⟩ := Cond.arrayClass_spec (args := #[Value.ref b]) (first := s) (o := none) (s := s) (idx := []) h
  exact ⟨cA, fun n z => ⟨fun k h => (by cases h), k, h3, comp, h4⟩, h1⟩
set_option maxRecDepth 20000 in
theorem lg_K {b : Nat} {s : State} (hts : ∀ w ∈ lw_tbl, w.before #[Value.ref b] s = true) : ∃ (D : va_G) (cI cG cW : ClassId), va_K D vwCl (tyL cI cG cW) s := by
  obtain ⟨c0, i0, h0⟩ := u_known (C := RX0) (T := TX0) (N := 0) (n := 0) (lg_ts hts) inlN0 (lg_ts hts _ is0)
  obtain ⟨c1, i1, h1⟩ := u_known (C := RX1) (T := TX1) (N := 16) (n := 16) (lg_ts hts) inlN1 (lg_ts hts _ is1)
  obtain ⟨c2, i2, h2⟩ := u_known (C := RX2) (T := TX2) (N := 0) (n := 0) (lg_ts hts) inlN2 (lg_ts hts _ is2)
  obtain ⟨c3, i3, h3⟩ := u_known (C := RX3) (T := TX3) (N := 8) (n := 8) (lg_ts hts) inlN3 (lg_ts hts _ is3)
  obtain ⟨c4, i4, h4⟩ := u_known (C := RX4) (T := TX4) (N := 6) (n := 6) (lg_ts hts) inlN4 (lg_ts hts _ is4)
  obtain ⟨c5, i5, h5⟩ := u_known (C := RX5) (T := TX5) (N := 0) (n := 0) (lg_ts hts) inlN5 (lg_ts hts _ is5)
  obtain ⟨c6, i6, h6⟩ := u_known (C := RX6) (T := TX6) (N := 0) (n := 0) (lg_ts hts) inlN6 (lg_ts hts _ is6)
  obtain ⟨c7, i7, h7⟩ := u_known (C := RX7) (T := TX7) (N := 0) (n := 0) (lg_ts hts) inlN7 (lg_ts hts _ is7)
  obtain ⟨c8, i8, h8⟩ := u_known (C := RX8) (T := TX8) (N := 2) (n := 2) (lg_ts hts) inlN8 (lg_ts hts _ is8)
  obtain ⟨c9, i9, h9⟩ := u_known (C := RX9) (T := TX9) (N := 0) (n := 0) (lg_ts hts) inlN9 (lg_ts hts _ is9)
  obtain ⟨c10, i10, h10⟩ := u_known (C := RX10) (T := TX10) (N := 0) (n := 0) (lg_ts hts) inlN10 (lg_ts hts _ is10)
  obtain ⟨c11, i11, h11⟩ := u_known (C := RX11) (T := TX11) (N := 10) (n := 10) (lg_ts hts) inlN11 (lg_ts hts _ is11)
  obtain ⟨c12, i12, h12⟩ := u_known (C := RX12) (T := TX12) (N := 30) (n := 30) (lg_ts hts) inlN12 (lg_ts hts _ is12)
  obtain ⟨cI, a1, a2⟩ := lg_int (lg_ts hts _ arI)
  obtain ⟨cG, b1, b2⟩ := lg_arr (C := "GleanedSorry$Gleaner") (hts _ (List.mem_of_getElem? (i := 166) (by decide +kernel)))
  obtain ⟨cW, d1, d2⟩ := lg_arr (C := "GleanedSorry$Row") (hts _ (List.mem_of_getElem? (i := 164) (by decide +kernel)))
  refine ⟨(fun k => match k with | 0 => c0 | 1 => c1 | 2 => c2 | 3 => c3 | 4 => c4 | 5 => c5 | 6 => c6 | 7 => c7 | 8 => c8 | 9 => c9 | 10 => c10 | 11 => c11 | _ => c12, fun k => match k with | 0 => i0 | 1 => i1 | 2 => i2 | 3 => i3 | 4 => i4 | 5 => i5 | 6 => i6 | 7 => i7 | 8 => i8 | 9 => i9 | 10 => i10 | 11 => i11 | _ => i12), cI, cG, cW, fun k q hq => ?_, fun k q hq => ?_⟩
  · match k, hq with
    | 0, hq => cases hq; exact h0
    | 1, hq => cases hq; exact h1
    | 2, hq => cases hq; exact h2
    | 3, hq => cases hq; exact h3
    | 4, hq => cases hq; exact h4
    | 5, hq => cases hq; exact h5
    | 6, hq => cases hq; exact h6
    | 7, hq => cases hq; exact h7
    | 8, hq => cases hq; exact h8
    | 9, hq => cases hq; exact h9
    | 10, hq => cases hq; exact h10
    | 11, hq => cases hq; exact h11
    | 12, hq => cases hq; exact h12
    | k + 13, hq => exact absurd (List.getElem?_eq_some_iff.mp hq).1 (by simp only [vwCl, List.length_cons, List.length_nil]; omega)
  · match k, hq with
    | 0, hq => cases hq; exact ⟨a1, a2⟩
    | 1, hq => cases hq; exact ⟨b1, b2⟩
    | 2, hq => cases hq; exact ⟨d1, d2⟩
    | k + 3, hq => exact absurd (List.getElem?_eq_some_iff.mp hq).1 (by simp only [tyL, List.length_cons, List.length_nil]; omega)
theorem lg_X {b : Nat} {s : State} (hts : ∀ w ∈ lw_tbl, w.before #[Value.ref b] s = true) : OUX s :=
  ⟨va_AO.of (hts _ (List.mem_of_getElem? (i := 164) (by decide +kernel))), va_AO.of (hts _ (List.mem_of_getElem? (i := 166) (by decide +kernel))), va_tabs rfl rfl (hts _ (List.mem_of_getElem? (i := 1436) (by decide +kernel))), va_tabs rfl rfl (hts _ (List.mem_of_getElem? (i := 1437) (by decide +kernel))), va_tabs rfl rfl (hts _ (List.mem_of_getElem? (i := 1438) (by decide +kernel))), va_tabs rfl rfl (hts _ (List.mem_of_getElem? (i := 1439) (by decide +kernel))), va_tabs rfl rfl (hts _ (List.mem_of_getElem? (i := 1440) (by decide +kernel))), va_tabs rfl rfl (hts _ (List.mem_of_getElem? (i := 1441) (by decide +kernel)))⟩
set_option maxRecDepth 20000 in
theorem lg_O {b : Nat} {s : State} (hts : ∀ w ∈ lw_tbl, w.before #[Value.ref b] s = true) (hgv : (Jvm.Cond.and given_1 narrow_1).before #[Value.ref b] s = true) : ∃ O : Ou, OUT O (fun q => s.heap.size ≤ q) s s.heap := by
  have hs := flat_of_before _ hgv
  have hA : ∀ a : Nat, a < s.heap.size → ¬ (fun q : Nat => s.heap.size ≤ q) a := fun a h => Nat.not_le.mpr h
  have hab : ∀ j : Nat, j < 7 → (Term.elem (Term.static "GleanedSorry" "ABOVE" "[I") (.int (Int32.ofNat j))).eval #[Value.ref b] s none [] s = some (.int (abvF j)) := by
    intro j hj
    rcases (show j = 0 ∨ j = 1 ∨ j = 2 ∨ j = 3 ∨ j = 4 ∨ j = 5 ∨ j = 6 by omega) with rfl | rfl | rfl | rfl | rfl | rfl | rfl
    · exact va_eqt (hs (Cond.eq (.elem (Term.static "GleanedSorry" "ABOVE" "[I") (.int 0)) (.int (-1))) (by decide +kernel))
    · exact va_eqt (hs (Cond.eq (.elem (Term.static "GleanedSorry" "ABOVE" "[I") (.int 1)) (.int (0))) (by decide +kernel))
    · exact va_eqt (hs (Cond.eq (.elem (Term.static "GleanedSorry" "ABOVE" "[I") (.int 2)) (.int (0))) (by decide +kernel))
    · exact va_eqt (hs (Cond.eq (.elem (Term.static "GleanedSorry" "ABOVE" "[I") (.int 3)) (.int (0))) (by decide +kernel))
    · exact va_eqt (hs (Cond.eq (.elem (Term.static "GleanedSorry" "ABOVE" "[I") (.int 4)) (.int (1))) (by decide +kernel))
    · exact va_eqt (hs (Cond.eq (.elem (Term.static "GleanedSorry" "ABOVE" "[I") (.int 5)) (.int (2))) (by decide +kernel))
    · exact va_eqt (hs (Cond.eq (.elem (Term.static "GleanedSorry" "ABOVE" "[I") (.int 6)) (.int (3))) (by decide +kernel))
  have hel : ∀ i : Nat, i < 3 → ∀ j : Nat, j < ([0, 3, 3] : List Nat).getD i 0 → (Cond.eq (.elem (.field (match i with | 0 => Term.string "GleanedSorry$Law" 27 | 1 => Term.string "GleanedSorry$Law" 62 | _ => Term.string "GleanedSorry$Law" 64) "java/lang/String" "value" "[B") (.int (Int32.ofNat j))) (.int ((([[], [119, 109, 100], [98, 101, 109]] : List (List Int32)).getD i []).getD j 0))).before #[Value.ref b] s = true := by
    intro i hi j hj
    rcases (show i = 0 ∨ i = 1 ∨ i = 2 by omega) with rfl | rfl | rfl
    · exact absurd hj (Nat.not_lt_zero _)
    · have hj3 : j < 3 := hj
      rcases (show j = 0 ∨ j = 1 ∨ j = 2 by omega) with rfl | rfl | rfl <;> exact hs _ (by decide +kernel)
    · have hj3 : j < 3 := hj
      rcases (show j = 0 ∨ j = 1 ∨ j = 2 by omega) with rfl | rfl | rfl <;> exact hs _ (by decide +kernel)
  have hnn : ∀ i j : Nat, i < 3 → j < 3 → i ≠ j → (Cond.not (Cond.eq (match i with | 0 => Term.string "GleanedSorry$Law" 27 | 1 => Term.string "GleanedSorry$Law" 62 | _ => Term.string "GleanedSorry$Law" 64) (match j with | 0 => Term.string "GleanedSorry$Law" 27 | 1 => Term.string "GleanedSorry$Law" 62 | _ => Term.string "GleanedSorry$Law" 64))).before #[Value.ref b] s = true ∨ (Cond.not (Cond.eq (match j with | 0 => Term.string "GleanedSorry$Law" 27 | 1 => Term.string "GleanedSorry$Law" 62 | _ => Term.string "GleanedSorry$Law" 64) (match i with | 0 => Term.string "GleanedSorry$Law" 27 | 1 => Term.string "GleanedSorry$Law" 62 | _ => Term.string "GleanedSorry$Law" 64))).before #[Value.ref b] s = true := by
    intro i j hi hj hne
    rcases (show i = 0 ∨ i = 1 ∨ i = 2 by omega) with rfl | rfl | rfl <;> rcases (show j = 0 ∨ j = 1 ∨ j = 2 by omega) with rfl | rfl | rfl <;> first | exact absurd rfl hne | exact Or.inl (hs _ (by decide +kernel)) | exact Or.inr (hs _ (by decide +kernel))
  obtain ⟨t, ht, hT⟩ := va_Tof (tm := (Term.static "GleanedSorry" "ABOVE" "[I")) (ty := .int) (N := 7) (f := fun j => .int (abvF j)) (by decide) (hs _ (by decide +kernel)) (va_eqt (hs (Cond.eq (.length (Term.static "GleanedSorry" "ABOVE" "[I")) (.int 7)) (by decide +kernel))) hab hA
  obtain ⟨adK, adV, hK, hE⟩ := vk_Sof (args := #[Value.ref b]) (s := s) (N := 3) (tm := fun i => (match i with | 0 => Term.string "GleanedSorry$Law" 27 | 1 => Term.string "GleanedSorry$Law" 62 | _ => Term.string "GleanedSorry$Law" 64)) (len := [0, 3, 3]) (byt := [[], [119, 109, 100], [98, 101, 109]]) (A := fun q => s.heap.size ≤ q) (fun i hi => by rcases (show i = 0 ∨ i = 1 ∨ i = 2 by omega) with rfl | rfl | rfl <;> decide) (fun i hi => by rcases (show i = 0 ∨ i = 1 ∨ i = 2 by omega) with rfl | rfl | rfl <;> exact hs _ (by decide +kernel)) (fun i hi => by rcases (show i = 0 ∨ i = 1 ∨ i = 2 by omega) with rfl | rfl | rfl <;> exact hs _ (by decide +kernel)) (fun i hi => by rcases (show i = 0 ∨ i = 1 ∨ i = 2 by omega) with rfl | rfl | rfl <;> exact hs _ (by decide +kernel)) (fun i hi => by rcases (show i = 0 ∨ i = 1 ∨ i = 2 by omega) with rfl | rfl | rfl <;> exact hs _ (by decide +kernel)) hel hnn hA
  exact ⟨(t, adK, adV), ⟨va_Zof (hts _ (List.mem_of_getElem? (i := 514) (by decide +kernel))) (hts _ (List.mem_of_getElem? (i := 83) (by decide +kernel))) ht hA, hT⟩, va_Zof (hts _ (List.mem_of_getElem? (i := 606) (by decide +kernel))) (hts _ (List.mem_of_getElem? (i := 97) (by decide +kernel))) (va_eqt (hs _ (by decide +kernel))) hA, hK, vk_R.of (hts _ (List.mem_of_getElem? (i := 139) (by decide +kernel))) (hE 0 (by decide)), vk_R.of (hts _ (List.mem_of_getElem? (i := 563) (by decide +kernel))) (hE 1 (by decide)), vk_R.of (hts _ (List.mem_of_getElem? (i := 564) (by decide +kernel))) (hE 2 (by decide))⟩

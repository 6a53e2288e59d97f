/-! The law: how both objects stand at first, and calls of one beside the other. -/
def S0 : Nat → Int32 := fun k => if k = 2 ∨ k = 4 then nI 1 else if k = 5 ∨ k = 8 ∨ k = 11 then nI 5 else nI 0
def X0 : Nat → Nat → Int32 := fun k => if k = 36 ∨ k = 46 ∨ k = 56 then filF (fun _ => nI 0) (nI 20) 5 else if k = 37 ∨ k = 47 ∨ k = 57 then filF (fun _ => nI 0) (nI 1) 5 else fun _ => nI 0
def P0 (q : Nat → Nat) (O : Ou) : Nat → Nat := fun k => if k < 5 then q (15 + k) else O.2.1 0
def V0 : Nat → Int32 := fun k => if k = 16 ∨ k = 18 then -1 else nI 0
abbrev z0 : Nat → Int32 := fun _ => nI 0
abbrev σ0 : RS := sR V0 (fillF row0 10) z0 z0 z0 z0 z0 z0 z0 z0 z0 z0
theorem r0_v (k : Nat) (h : k < 10 ∨ 30 ≤ k) : fillF row0 10 k = row0 k := by rw [fill_v row0 10 (by omega), if_neg (by omega), if_neg (by omega)]
theorem r0_0 (k : Nat) (h : ¬ k = 1 ∧ ¬ k = 2 ∧ ¬ k = 6 ∧ ¬ k = 7) : row0 k = nI 0 := by
  unfold row0; rw [pk_un h.2.2.2, pk_un h.2.2.1, pk_un h.2.1, pk_un h.1]
theorem r0_z (k : Nat) (h : k < 10 ∨ 30 ≤ k) (g : ¬ k = 1 ∧ ¬ k = 2 ∧ ¬ k = 6 ∧ ¬ k = 7) : fillF row0 10 k = nI 0 := (r0_v k h).trans (r0_0 k g)
theorem r0_2 : fillF row0 10 2 = nI 5 := (r0_v 2 (by omega)).trans (by decide)
theorem r0_6 : fillF row0 10 6 = -1 := (r0_v 6 (by omega)).trans (by decide)
theorem r0_7 : fillF row0 10 7 = -1 := (r0_v 7 (by omega)).trans (by decide)
theorem r0_1 : fillF row0 10 1 = nI 1 := (r0_v 1 (by omega)).trans (by decide)
theorem RI_0 : RI 0 σ0 := by
  refine ⟨⟨5, 0, 0, 0, 0, 0, ⟨⟨r0_2, by omega, by omega⟩, ⟨r0_z 3 (by omega) (by omega), by omega⟩, ⟨r0_z 8 (by omega) (by omega), by omega⟩, fun p hp => absurd hp (Nat.not_lt_zero _), fun c hc => ⟨20, by omega, ?_⟩, fun c hc => ⟨1, by omega, ?_⟩, Or.inl r0_6, Or.inl r0_7⟩, fun i hi => absurd hi (Nat.not_lt_zero _), ⟨r0_z 0 (by omega) (by omega), by omega⟩, ⟨r0_z 4 (by omega) (by omega), by omega⟩, ⟨r0_z 5 (by omega) (by omega), by omega⟩, fun k hk => absurd hk (Nat.not_lt_zero _)⟩, ⟨0, Nat.le_refl _, rfl, by decide, fun h => absurd h (Nat.lt_irrefl _)⟩, ⟨rfl, rfl, rfl⟩, fun s hs => ⟨Or.inl rfl, 0, by omega, rfl⟩, ⟨0, by omega, rfl⟩⟩
  · rw [fill_v row0 10 (by omega), if_pos (by omega)]
  · rw [fill_v row0 10 (by omega), if_neg (by omega), if_pos (by omega)]
theorem S0_z (k : Nat) (h : ¬ k = 2 ∧ ¬ k = 4 ∧ ¬ k = 5 ∧ ¬ k = 8 ∧ ¬ k = 11) : S0 k = nI 0 := by unfold S0; rw [if_neg (by omega), if_neg (by omega)]
theorem CR_0 (P : Nat → Nat) : CR (S0, X0, P) σ0 := by
  have t0 : tN (nI 0) = 0 := tN_nI (by omega)
  refine ⟨?_, ?_, Or.inl ⟨r0_6, S0_z 23 (by omega)⟩, Or.inl ⟨r0_7, S0_z 24 (by omega)⟩, fun g => absurd g (by decide), rfl, fun k hk => rfl, rfl, fun k hk => absurd hk (by show ¬ k < tN (nI 0); omega), fun s hs => rfl, fun s hs => S0_z (29 + s) (by omega), fun s hs i hi => absurd hi (by show ¬ i < tN (nI 0); omega)⟩
  · show CF S0 X0 0 (fillF row0 10) (X0 44) (tN (fillF row0 10 2)) (tN (fillF row0 10 3))
    rw [r0_2, r0_z 3 (by omega) (by omega), t0, tN_nI (by omega)]
    refine ⟨r0_2.symm ▸ rfl, (r0_z 0 (by omega) (by omega)).symm ▸ rfl, (r0_z 3 (by omega) (by omega)).symm ▸ rfl, fun c hc => ?_, fun c hc => ?_, fun j hj p hp => absurd hp (Nat.not_lt_zero _), fun p hp => absurd hp (Nat.not_lt_zero _)⟩
    · rw [fill_v row0 10 (by omega), if_pos (by omega)]
      show filF (fun _ => nI 0) (nI 20) 5 c = nI 20
      unfold filF; rw [if_pos hc]
    · rw [fill_v row0 10 (by omega), if_neg (by omega), if_pos (by omega)]
      show filF (fun _ => nI 0) (nI 1) 5 c = nI 1
      unfold filF; rw [if_pos hc]
  · show CK S0 X0 0 (fillF row0 10) (tN (fillF row0 10 8)) (tN (fillF row0 10 4)) (tN (fillF row0 10 5))
    rw [r0_z 8 (by omega) (by omega), r0_z 4 (by omega) (by omega), r0_z 5 (by omega) (by omega), t0]
    exact ⟨(r0_z 8 (by omega) (by omega)).symm ▸ rfl, r0_1.symm ▸ rfl, fun j hj i hi => absurd hi (Nat.not_lt_zero _), (r0_z 4 (by omega) (by omega)).symm ▸ rfl, fun i hi => absurd hi (Nat.not_lt_zero _), (r0_z 5 (by omega) (by omega)).symm ▸ rfl, fun i hi => absurd hi (Nat.not_lt_zero _)⟩
theorem CR.eq {κ : CS} {σ τ : RS} (h : CR κ τ) (e : EQ σ τ) : CR κ σ := by
  obtain ⟨V, row, kept, tried, bf, fd, pk, bo, so, sh, mv, tr⟩ := σ
  obtain ⟨V', row', kept', tried', bf', fd', pk', bo', so', sh', mv', tr'⟩ := τ
  obtain ⟨rfl, rfl, rfl, rfl, rfl, rfl, rfl, h4, h5, h15, h16, h18, h26⟩ := e
  simp only [CR] at h ⊢
  rw [h5, h26]; exact h
/-- both objects' cells -/
abbrev Wl (cI cG cW : ClassId) (o : Nat) (qR q : Nat → Nat) (z : RS × CS) : va_W := wR cI o qR z.1 ++ wC cI cG cW q z.2
section FRM
variable {D : va_G} {cs : List vw_C} {A : Nat → Prop} {X Y Z : va_W} {H H1 : Heap} {sz : Nat}
theorem ap_l {α : Type} {X Y : List α} {k : Nat} {x : α} (h : X[k]? = some x) : (X ++ Y)[k]? = some x := by rw [List.getElem?_append_left (List.getElem?_eq_some_iff.mp h).1]; exact h
theorem ap_r {α : Type} {X Y : List α} {k : Nat} {x : α} (h : Y[k]? = some x) : (X ++ Y)[X.length + k]? = some x := by rw [List.getElem?_append_right (by omega), Nat.add_sub_cancel_left]; exact h
theorem ap_c {α : Type} {X Y : List α} {k : Nat} {x : α} (h : (X ++ Y)[k]? = some x) : (X[k]? = some x) ∨ (∃ j, k = X.length + j ∧ Y[j]? = some x) := by
  by_cases g : k < X.length
  · rw [List.getElem?_append_left g] at h; exact Or.inl h
  · rw [List.getElem?_append_right (by omega)] at h; exact Or.inr ⟨k - X.length, by omega, h⟩
theorem fP_l (h : va_P D cs (X ++ Y) H) : va_P D cs X H := fun k q hq => h k q (ap_l hq)
theorem fP_r (h : va_P D cs (X ++ Y) H) : va_P D cs Y H := fun k q hq => h _ q (ap_r hq)
theorem fP_a (h : va_P D cs X H) (g : va_P D cs Y H) : va_P D cs (X ++ Y) H := fun k q hq => by
  rcases ap_c hq with h1 | ⟨j, -, h1⟩
  · exact h k q h1
  · exact g j q h1
theorem fD_l (h : va_D A (X ++ Y)) : va_D A X := ⟨fun i j p q hi hj e => h.1 i j p q (ap_l hi) (ap_l hj) e, fun k q hq => h.2 k q (ap_l hq)⟩
theorem fD_r (h : va_D A (X ++ Y)) : va_D A Y := ⟨fun i j p q hi hj e => by have := h.1 _ _ p q (ap_r hi) (ap_r hj) e; omega, fun k q hq => h.2 _ q (ap_r hq)⟩
theorem fN_r (h : va_D A (X ++ Y)) (hX : ∀ (k : Nat) (x : Nat × va_E), X[k]? = some x → x.1 < sz) (k : Nat) (x : Nat × va_E) (hx : X[k]? = some x) : ¬ va_A Y sz x.1 := by
  rintro (⟨j, e, hj⟩ | hj)
  · have h1 := h.1 _ _ x (x.1, e) (ap_l hx) (ap_r hj) rfl
    have h2 := (List.getElem?_eq_some_iff.mp hx).1
    omega
  · have := hX k x hx; omega
theorem fN_l (h : va_D A (X ++ Y)) (hY : ∀ (k : Nat) (x : Nat × va_E), Y[k]? = some x → x.1 < sz) (k : Nat) (x : Nat × va_E) (hx : Y[k]? = some x) : ¬ va_A X sz x.1 := by
  rintro (⟨j, e, hj⟩ | hj)
  · have h1 := h.1 _ _ x (x.1, e) (ap_r hx) (ap_l hj) rfl
    have h2 := (List.getElem?_eq_some_iff.mp hj).1
    omega
  · have := hY k x hx; omega
theorem fJ_r (h : va_D A (X ++ Y)) (hX : ∀ (k : Nat) (x : Nat × va_E), X[k]? = some x → x.1 < sz) (hZ : va_D (va_A Y sz) Z) (hF : ∀ q, va_A Y sz q → A q) : va_D A (X ++ Z) := by
  have hN := fN_r h hX
  refine ⟨fun i j p q hi hj e => ?_, fun k q hq => ?_⟩
  · rcases ap_c hi with h1 | ⟨a, ea, h1⟩
    · rcases ap_c hj with h2 | ⟨b, eb, h2⟩
      · exact (fD_l h).1 i j p q h1 h2 e
      · exact absurd (by rw [e]; exact hZ.2 b q h2) (hN i p h1)
    · rcases ap_c hj with h2 | ⟨b, eb, h2⟩
      · exact absurd (by rw [← e]; exact hZ.2 a p h1) (hN j q h2)
      · have := hZ.1 a b p q h1 h2 e; omega
  · rcases ap_c hq with h1 | ⟨a, ea, h1⟩
    · exact (fD_l h).2 k q h1
    · exact hF _ (hZ.2 a q h1)
theorem fJ_l (h : va_D A (X ++ Y)) (hY : ∀ (k : Nat) (x : Nat × va_E), Y[k]? = some x → x.1 < sz) (hZ : va_D (va_A X sz) Z) (hF : ∀ q, va_A X sz q → A q) : va_D A (Z ++ Y) := by
  have hN := fN_l h hY
  refine ⟨fun i j p q hi hj e => ?_, fun k q hq => ?_⟩
  · rcases ap_c hi with h1 | ⟨a, ea, h1⟩
    · rcases ap_c hj with h2 | ⟨b, eb, h2⟩
      · exact hZ.1 i j p q h1 h2 e
      · exact absurd (by rw [← e]; exact hZ.2 i p h1) (hN b q h2)
    · rcases ap_c hj with h2 | ⟨b, eb, h2⟩
      · exact absurd (by rw [e]; exact hZ.2 j q h2) (hN a p h1)
      · have := (fD_r h).1 a b p q h1 h2 e; omega
  · rcases ap_c hq with h1 | ⟨a, ea, h1⟩
    · exact hF _ (hZ.2 k q h1)
    · exact (fD_r h).2 a q h1
end FRM
section LCALL
variable {p : Program} {l : Launch} {e : Env} {R : Room} {s : State} {m : MethodId} {args : Array Value} {below : List Frame} {meth : Method} {c : Code} {Q : State → Prop} {nL : Nat} {D : va_G} {A : Nat → Prop} {cl sl : Nat} {cI cG cW : ClassId} {o : Nat} {qR q : Nat → Nat} {σ : RS} {κ : CS} {pc : Nat} {L : List (Nat × Value)} {rest : List Value}
variable {cc : ByteArray} {own : String} {ret : Option FieldType} {O : Ou} {y : MethodName} {bytes : ByteArray} {maxL index n d : Nat} {As : List Value} {b : Nat} {ret' : Option FieldType}
theorem l_callC {post : Int32 → CS → Prop} (C : Cx p s m args meth c cc nL own ret D (tyL cI cG cW) A) (hO : OUT O A s s.heap) (hV : VW own index y bytes maxL ret' n) (hM : CiO O l y bytes maxL ret' d D (tyL cI cG cW) (wC cI cG cW q) (.ref b :: As) κ post) (hr : Rcv κ (wC cI cG cW q) b y.cls) (hn : As.length = n) (hst : (rest.map fun v => v.category).sum ≤ 8) (hdg : decode cc pc = .ok (.invokevirtual index, 3)) (hd : d + 1 ≤ R.frames ∧ 8 + (maxL + 11) + 40 * d ≤ R.locals) (hc : cl ≤ R.cells ∧ sl ≤ R.slots)
    (kk : ∀ (r : Int32) (κ' : CS), post r κ' → JN p l e R s m args below meth c Q nL D A cl sl (Wl cI cG cW o qR q) (σ, κ') (pc + 3) L (.int r :: rest)) : JN p l e R s m args below meth c Q nL D A cl sl (Wl cI cG cW o qR q) (σ, κ) pc L (As.reverse ++ .ref b :: rest) := by
  obtain ⟨hx, hb, hml, hown, hts, ⟨hK, hN⟩, hA, hr', hlocks⟩ := C
  obtain ⟨v1, v2, v3, v4, v5, v6, v7⟩ := hV
  obtain ⟨q0, ci, fs, r, r1, r2, r3⟩ := hr
  intro H locs ls hP hD hS hl
  have hPX : va_P D vwCl (wR cI o qR σ) H := fP_l hP
  have hPY : va_P D vwCl (wC cI cG cW q κ) H := fP_r hP
  have hDY : va_D A (wC cI cG cW q κ) := fD_r hD
  have hlt : ∀ (k : Nat) (x : Nat × va_E), (wR cI o qR σ)[k]? = some x → x.1 < H.size := fun k x hx => (hPX k x hx).lt
  have hFc := free_in (Wd := wC cI cG cW q) (σ := κ) hDY hS hA
  refine va_calli (va_runV (As := As) (rest := rest) (C := y.cls) ⟨hx, hb, hml, hown, hts⟩ (hM H.size) ⟨callB_of n hts (gC v1) rfl rfl rfl (hts _ v5) (hts _ v2) v6 hd, hts _ v3, hts _ v4⟩ ⟨FBO D (tyL cI cG cW) κ H.size _, by rw [← r3]; exact va_recv hK hPY r2 r1, fun U hU hW => ⟨rfl, by rw [hU], by rw [hU]; exact hPY, ⟨va_K.moved hW.alike hK, KN.warm hW hN⟩, hDY.weaken (fun _ _ _ _ => trivial), by rw [hU]; exact hO.go hS hW hFc⟩⟩ rfl hn hl.1 rfl (lv_room hst) hdg hc) hS (fun q _ h => hFc q h) hFc (fun r u t H1 locs1 ht hvm hw hB hz1 hk1 hS1 => ?_)
  obtain ⟨hP1, -, hD1⟩ := hB
  rw [ht] at hP1
  exact kk r u hw H1 locs1 ls (fP_a (hPX.kept (fun k x hx => hk1 x.1 (hlt k x hx) (fN_r hD hlt k x hx))) hP1) (fJ_r hD hlt hD1 hFc) hS1 hl
theorem l_callM {post : Int32 → RS → Prop} (C : Cx p s m args meth c cc nL own ret D (tyL cI cG cW) A) (hV : VW own index y bytes maxL ret' n) (hM : Ci l y bytes maxL ret' d D (tyL cI cG cW) (wR cI o qR) (.ref b :: As) σ post) (hr : Rcv σ (wR cI o qR) b y.cls) (hn : As.length = n) (hst : (rest.map fun v => v.category).sum ≤ 8) (hdg : decode cc pc = .ok (.invokevirtual index, 3)) (hd : d + 1 ≤ R.frames ∧ 8 + (maxL + 11) + 40 * d ≤ R.locals) (hc : cl ≤ R.cells ∧ sl ≤ R.slots)
    (kk : ∀ (r : Int32) (τ : RS), post r τ → JN p l e R s m args below meth c Q nL D A cl sl (Wl cI cG cW o qR q) (τ, κ) (pc + 3) L (.int r :: rest)) : JN p l e R s m args below meth c Q nL D A cl sl (Wl cI cG cW o qR q) (σ, κ) pc L (As.reverse ++ .ref b :: rest) := by
  obtain ⟨hx, hb, hml, hown, hts, ⟨hK, hN⟩, hA, hr', hlocks⟩ := C
  obtain ⟨v1, v2, v3, v4, v5, v6, v7⟩ := hV
  obtain ⟨q0, ci, fs, r, r1, r2, r3⟩ := hr
  intro H locs ls hP hD hS hl
  have hPX : va_P D vwCl (wR cI o qR σ) H := fP_l hP
  have hPY : va_P D vwCl (wC cI cG cW q κ) H := fP_r hP
  have hDX : va_D A (wR cI o qR σ) := fD_l hD
  have hlt : ∀ (k : Nat) (x : Nat × va_E), (wC cI cG cW q κ)[k]? = some x → x.1 < H.size := fun k x hx => (hPY k x hx).lt
  have hFc := free_in (Wd := wR cI o qR) (σ := σ) hDX hS hA
  refine va_calli (va_runV (As := As) (rest := rest) (C := y.cls) ⟨hx, hb, hml, hown, hts⟩ (hM H.size) ⟨callB_of n hts (gC v1) rfl rfl rfl (hts _ v5) (hts _ v2) v6 hd, hts _ v3, hts _ v4⟩ ⟨FB D (tyL cI cG cW) σ H.size _, by rw [← r3]; exact va_recv hK hPX r2 r1, fun U hU hW => ⟨rfl, by rw [hU], by rw [hU]; exact hPX, ⟨va_K.moved hW.alike hK, KN.warm hW hN⟩, hDX.weaken (fun _ _ _ _ => trivial)⟩⟩ rfl hn hl.1 rfl (lv_room hst) hdg hc) hS (fun q _ h => hFc q h) hFc (fun r u t H1 locs1 ht hvm hw hB hz1 hk1 hS1 => ?_)
  obtain ⟨hP1, -, hD1⟩ := hB
  rw [ht] at hP1
  exact kk r u hw H1 locs1 ls (fP_a hP1 (hPY.kept (fun k x hx => hk1 x.1 (hlt k x hx) (fN_l hD hlt k x hx)))) (fJ_l hD hlt hD1 hFc) hS1 hl
end LCALL
section LROW
variable {p : Program} {l : Launch} {e : Env} {R : Room} {s : State} {m : MethodId} {args : Array Value} {below : List Frame} {meth : Method} {c : Code} {Q : State → Prop} {nL : Nat} {D : va_G} {A : Nat → Prop} {cl sl : Nat} {S : Type} {Wd : S → va_W} {σ : S} {pc : Nat} {L : List (Nat × Value)} {rest : List Value}
variable {cc : ByteArray} {own : String} {ret : Option FieldType} {tys : List (ClassId × FieldType)}
theorem l_sld (C : Cx p s m args meth c cc nL own ret D tys A) {b Ln : Nat} {xs : Nat → Int32} (hX : va_X b Ln xs s s.heap) (hbl : b < s.heap.size) (hbA : ¬ A b) (j : Nat) (hj : j < Ln) (hL : Ln < 2 ^ 31) (hdg : decode cc pc = .ok (.iaload, 1)) (kk : JN p l e R s m args below meth c Q nL D A cl sl Wd σ (pc + 1) L (.int (xs j) :: rest)) : JN p l e R s m args below meth c Q nL D A cl sl Wd σ pc L (.int (nI j) :: .ref b :: rest) := by
  obtain ⟨hx, hb, hml, hown, hts, hK, hA, hr, hlocks⟩ := C
  intro H locs ls hP hD hS hl
  refine va_sld hx hb hX hbl hbA hS (vp_in_nI hj hL) hdg ?_
  rw [nI_clamp (by omega)]
  exact kk H locs ls hP hD hS hl
theorem l_slen (C : Cx p s m args meth c cc nL own ret D tys A) {b Ln : Nat} {xs : Nat → Int32} (hX : va_X b Ln xs s s.heap) (hbl : b < s.heap.size) (hbA : ¬ A b) (hdg : decode cc pc = .ok (.arraylength, 1)) (kk : JN p l e R s m args below meth c Q nL D A cl sl Wd σ (pc + 1) L (.int (nI Ln) :: rest)) : JN p l e R s m args below meth c Q nL D A cl sl Wd σ pc L (.ref b :: rest) := by
  obtain ⟨hx, hb, hml, hown, hts, hK, hA, hr, hlocks⟩ := C
  intro H locs ls hP hD hS hl
  exact va_slen hx hb hX hbl hbA hS hdg (kk H locs ls hP hD hS hl)
theorem n_lshl (C : Cx p s m args meth c cc nL own ret D tys A) {x : Int64} {y : Int32} (hdg : decode cc pc = .ok (.lshl, 1)) (kk : JN p l e R s m args below meth c Q nL D A cl sl Wd σ (pc + 1) L (.long (x <<< (y.toInt64 &&& 63)) :: rest)) : JN p l e R s m args below meth c Q nL D A cl sl Wd σ pc L (.int y :: .long x :: rest) := by
  obtain ⟨hx, hb, hml, hown, hts, hK, hA, hr, hlocks⟩ := C
  intro H locs ls hP hD hS hl
  exact lv_lshl hx hb hdg rfl (kk H locs ls hP hD hS hl)
theorem n_ldc2 (C : Cx p s m args meth c cc nL own ret D tys A) {index : Nat} (v : Int64) (hdg : decode cc pc = .ok (.ldc2_w index, 3)) (hc : Cond.constantLong own index v ∈ lw_g) (kk : JN p l e R s m args below meth c Q nL D A cl sl Wd σ (pc + 3) L (.long v :: rest)) : JN p l e R s m args below meth c Q nL D A cl sl Wd σ pc L rest := by
  obtain ⟨hx, hb, hml, hown, hts, hK, hA, hr, hlocks⟩ := C
  intro H locs ls hP hD hS hl
  exact lv_ldc2 hx hb hown (hts _ hc) hdg (kk H locs ls hP hD hS hl)
end LROW

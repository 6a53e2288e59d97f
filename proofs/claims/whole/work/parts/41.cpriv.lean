/-! The class's own private calls, and how its state stands to the reference's. -/
def CR (κ : CS) (σ : RS) : Prop := match σ with
  | (V, row, kept, _, _, fd, _, bo, so, sh, _, tr) => (CF κ.1 κ.2.1 0 row (κ.2.1 44) (tN (row 2)) (tN (row 3))) ∧ (CK κ.1 κ.2.1 0 row (tN (row 8)) (tN (row 4)) (tN (row 5))) ∧ (CLaw κ.1 κ.2.1 0 row 0) ∧ (CLaw κ.1 κ.2.1 1 row 1) ∧ (0 < V 5 → CF κ.1 κ.2.1 1 kept (κ.2.1 54) (tN (kept 2)) (tN (kept 3)) ∧ CK κ.1 κ.2.1 1 kept (tN (kept 8)) (tN (kept 4)) (tN (kept 5)) ∧ CLaw κ.1 κ.2.1 2 kept 0 ∧ CLaw κ.1 κ.2.1 3 kept 1) ∧ (κ.1 0 = V 5) ∧ (∀ k, k < 6 → κ.2.1 35 k = fd k) ∧ (κ.1 28 = V 26) ∧ (∀ k, k < tN (V 26) → κ.2.1 81 k = tr k) ∧ (∀ s, s < 4 → κ.2.1 34 s = bo s) ∧ (∀ s, s < 4 → κ.1 (29 + s) = so s) ∧ (∀ s, s < 4 → ∀ i, i < tN (so s) → κ.2.1 (82 + s) i = sh (40 * s + i))
theorem CR.fld {κ : CS} {V row kept tried bf fd pk bo so sh mv tr : Nat → Int32} (h : CR κ (sR V row kept tried bf fd pk bo so sh mv tr)) : CF κ.1 κ.2.1 0 row (κ.2.1 44) (tN (row 2)) (tN (row 3)) := h.1
theorem CR.kp {κ : CS} {V row kept tried bf fd pk bo so sh mv tr : Nat → Int32} (h : CR κ (sR V row kept tried bf fd pk bo so sh mv tr)) : CK κ.1 κ.2.1 0 row (tN (row 8)) (tN (row 4)) (tN (row 5)) := h.2.1
theorem CR.l0 {κ : CS} {V row kept tried bf fd pk bo so sh mv tr : Nat → Int32} (h : CR κ (sR V row kept tried bf fd pk bo so sh mv tr)) : CLaw κ.1 κ.2.1 0 row 0 := h.2.2.1
theorem CR.l1 {κ : CS} {V row kept tried bf fd pk bo so sh mv tr : Nat → Int32} (h : CR κ (sR V row kept tried bf fd pk bo so sh mv tr)) : CLaw κ.1 κ.2.1 1 row 1 := h.2.2.2.1
theorem CR.img {κ : CS} {V row kept tried bf fd pk bo so sh mv tr : Nat → Int32} (h : CR κ (sR V row kept tried bf fd pk bo so sh mv tr)) : 0 < V 5 → CF κ.1 κ.2.1 1 kept (κ.2.1 54) (tN (kept 2)) (tN (kept 3)) ∧ CK κ.1 κ.2.1 1 kept (tN (kept 8)) (tN (kept 4)) (tN (kept 5)) ∧ CLaw κ.1 κ.2.1 2 kept 0 ∧ CLaw κ.1 κ.2.1 3 kept 1 := h.2.2.2.2.1
theorem CR.ims {κ : CS} {V row kept tried bf fd pk bo so sh mv tr : Nat → Int32} (h : CR κ (sR V row kept tried bf fd pk bo so sh mv tr)) : κ.1 0 = V 5 := h.2.2.2.2.2.1
theorem CR.err {κ : CS} {V row kept tried bf fd pk bo so sh mv tr : Nat → Int32} (h : CR κ (sR V row kept tried bf fd pk bo so sh mv tr)) : ∀ k, k < 6 → κ.2.1 35 k = fd k := h.2.2.2.2.2.2.1
theorem CR.bsz {κ : CS} {V row kept tried bf fd pk bo so sh mv tr : Nat → Int32} (h : CR κ (sR V row kept tried bf fd pk bo so sh mv tr)) : κ.1 28 = V 26 := h.2.2.2.2.2.2.2.1
theorem CR.bod {κ : CS} {V row kept tried bf fd pk bo so sh mv tr : Nat → Int32} (h : CR κ (sR V row kept tried bf fd pk bo so sh mv tr)) : ∀ k, k < tN (V 26) → κ.2.1 81 k = tr k := h.2.2.2.2.2.2.2.2.1
theorem CR.shb {κ : CS} {V row kept tried bf fd pk bo so sh mv tr : Nat → Int32} (h : CR κ (sR V row kept tried bf fd pk bo so sh mv tr)) : ∀ s, s < 4 → κ.2.1 34 s = bo s := h.2.2.2.2.2.2.2.2.2.1
theorem CR.shs {κ : CS} {V row kept tried bf fd pk bo so sh mv tr : Nat → Int32} (h : CR κ (sR V row kept tried bf fd pk bo so sh mv tr)) : ∀ s, s < 4 → κ.1 (29 + s) = so s := h.2.2.2.2.2.2.2.2.2.2.1
theorem CR.shi {κ : CS} {V row kept tried bf fd pk bo so sh mv tr : Nat → Int32} (h : CR κ (sR V row kept tried bf fd pk bo so sh mv tr)) : ∀ s, s < 4 → ∀ i, i < tN (so s) → κ.2.1 (82 + s) i = sh (40 * s + i) := h.2.2.2.2.2.2.2.2.2.2.2
theorem CK.oth {S : Nat → Int32} {X : Nat → Nat → Int32} {u : Nat} {row : Nat → Int32} {nw nt nq k : Nat} {g : Nat → Int32} (h : CK S X u row nw nt nq) (hu : u ≤ 1) (hk : k < 66 + 3 * u ∨ (69 + 3 * u ≤ k ∧ k < 72 + 2 * u) ∨ 74 + 2 * u ≤ k) : CK S (va_up X k g) u row nw nt nq := by
  refine ⟨h.wrongs, h.z, fun j hj i hi => ?_, h.tsz, fun i hi => ?_, h.qsz, fun i hi => ?_⟩
  · rw [va_n (by omega)]; exact h.wr j hj i hi
  · rw [va_n (by omega)]; exact h.tape i hi
  · rw [va_n (by omega)]; exact h.wait i hi
theorem CR.er {S : Nat → Int32} {X : Nat → Nat → Int32} {P : Nat → Nat} {V row kept tried bf fd pk bo so sh mv tr : Nat → Int32} (h : CR (S, X, P) (sR V row kept tried bf fd pk bo so sh mv tr)) (k : Nat) : CR (S, va_up X 35 (ue (X 35) k), P) (sR V row kept tried bf (ue fd k) pk bo so sh mv tr) := by
  refine ⟨h.fld.oth (by omega), h.kp.oth (by omega) (by omega), h.l0.oth (by omega), h.l1.oth (by omega), fun g => ?_, h.ims, fun j hj => ?_, h.bsz, h.bod, h.shb, h.shs, fun s hs i hi => ?_⟩
  · obtain ⟨a, b, c, d⟩ := h.img g
    exact ⟨a.oth (by omega), b.oth (by omega) (by omega), c.oth (by omega), d.oth (by omega)⟩
  · show ue (X 35) k j = ue fd k j
    unfold ue
    by_cases e : j = k
    · subst e; rw [pk_us, pk_us]; exact congrArg (· + 1) (h.err j hj)
    · rw [pk_un e, pk_un e]; exact h.err j hj
  · show va_up X 35 _ (82 + s) i = _
    rw [va_n (by omega)]; exact h.shi s hs i hi

theorem j_ldcw {p : Program} {l : Launch} {e : Env} {R : Room} {s : State} {m : MethodId} {args : Array Value} {below : List Frame} {meth : Method} {c : Code} {Q : State → Prop} {nL : Nat} {D : va_G} {A : Nat → Prop} {S : Type} {Wd : S → va_W} {σ : S} {pc : Nat} {L : List (Nat × Value)} {rest : List Value} {cc : ByteArray} {own : String} {ret : Option FieldType} {tys : List (ClassId × FieldType)} (C : Cx p s m args meth c cc nL own ret D tys A) {index : Nat} (v : Int32) (hdg : decode cc pc = .ok (.ldc_w index, 3)) (hc : Cond.constant own index v ∈ lw_g) (kk : JJ p l e R s m args below meth c Q nL D A Wd σ (pc + 3) L (.int v :: rest)) : JJ p l e R s m args below meth c Q nL D A Wd σ pc L rest := by
  obtain ⟨hx, hb, hml, hown, hts, hK, hA, hr, hlocks⟩ := C
  intro H locs ls hP hD hS hl
  exact lv_ldcw hx hb hown (hts _ hc) hdg (kk H locs ls hP hD hS hl)
theorem dX11_error_0 : decode cX11_error 0 = .ok (.aload_n 0, 1) := by decide +kernel
theorem dX11_error_1 : decode cX11_error 1 = .ok (.getfield 33, 3) := by decide +kernel
theorem dX11_error_4 : decode cX11_error 4 = .ok (.iload_n 1, 1) := by decide +kernel
theorem dX11_error_5 : decode cX11_error 5 = .ok (.dup2, 1) := by decide +kernel
theorem dX11_error_6 : decode cX11_error 6 = .ok (.iaload, 1) := by decide +kernel
theorem dX11_error_7 : decode cX11_error 7 = .ok (.iconst 1, 1) := by decide +kernel
theorem dX11_error_8 : decode cX11_error 8 = .ok (.iadd, 1) := by decide +kernel
theorem dX11_error_9 : decode cX11_error 9 = .ok (.iastore, 1) := by decide +kernel
theorem dX11_error_10 : decode cX11_error 10 = .ok (.ldc_w 309, 3) := by decide +kernel
theorem dX11_error_13 : decode cX11_error 13 = .ok (.iload_n 1, 1) := by decide +kernel
theorem dX11_error_14 : decode cX11_error 14 = .ok (.isub, 1) := by decide +kernel
theorem dX11_error_15 : decode cX11_error 15 = .ok (.ireturn, 1) := by decide +kernel
set_option maxHeartbeats 2000000 in
set_option maxRecDepth 20000 in
theorem h_error {l : Launch} {D : va_G} {cI cG cW : ClassId} {q : Nat → Nat} {S : Nat → Int32} {X : Nat → Nat → Int32} {P : Nat → Nat} (k : Nat) (hk : k < 6) : Ci l yX11_error cX11_error 2 (some .int) 0 D (tyL cI cG cW) (wC cI cG cW q) [.ref (q 0), .int (nI k)] (S, X, P) (fun r τ => r = -1000000000 - nI k ∧ τ = (S, va_up X 35 (ue (X 35) k), P)) := by
  refine Ci.of (by decide) (Nat.le_of_ble_eq_true rfl) ?_
  intro p_ e_ s_ m_ b_ M_ c_ A_ C
  replace C : Cx _ _ _ _ _ _ _ _ RX11 _ _ _ _ := C
  refine j_L [0, 1] [(0, .ref (q 0)), (1, .int (nI k))] rfl ?_
  refine j_aload_n C 0 dX11_error_0 rfl ?_
  refine j_get C (v := .ref (q 35)) 0 8 rfl rfl inlC11 (by decide) kf11_33 rfl dX11_error_1 ?_
  refine j_iload_n C 1 dX11_error_4 rfl ?_
  refine j_dup2 C dX11_error_5 rfl rfl ?_
  refine j_ialdN C 35 0 rfl rfl k rfl (by omega) (by decide) dX11_error_6 ?_
  refine j_iconst C (v := (nI 1)) dX11_error_7 (by decide) ?_
  refine j_iadd C dX11_error_8 ?_
  refine j_iastN C 35 0 rfl rfl k rfl (by omega) (by decide) dX11_error_9 (S, va_up X 35 (upd (X 35) k (((X 35) k) + (nI 1))), P) rfl ?_
  refine j_ldcw C (-1000000000) dX11_error_10 kc11_309 ?_
  refine j_iload_n C 1 dX11_error_13 rfl ?_
  refine j_isub C dX11_error_14 ?_
  refine j_iret C dX11_error_15 ?_
  exact ⟨rfl, rfl⟩
theorem dX11_within_0 : decode cX11_within 0 = .ok (.iload_n 0, 1) := by decide +kernel
theorem dX11_within_1 : decode cX11_within 1 = .ok (.iload_n 1, 1) := by decide +kernel
theorem dX11_within_2 : decode cX11_within 2 = .ok (.if_icmp .lt 12, 3) := by decide +kernel
theorem dX11_within_5 : decode cX11_within 5 = .ok (.iload_n 0, 1) := by decide +kernel
theorem dX11_within_6 : decode cX11_within 6 = .ok (.iload_n 2, 1) := by decide +kernel
theorem dX11_within_7 : decode cX11_within 7 = .ok (.if_icmp .gt 7, 3) := by decide +kernel
theorem dX11_within_10 : decode cX11_within 10 = .ok (.iconst 1, 1) := by decide +kernel
theorem dX11_within_11 : decode cX11_within 11 = .ok (.goto 4, 3) := by decide +kernel
theorem dX11_within_14 : decode cX11_within 14 = .ok (.iconst 0, 1) := by decide +kernel
theorem dX11_within_15 : decode cX11_within 15 = .ok (.ireturn, 1) := by decide +kernel
set_option maxHeartbeats 2000000 in
set_option maxRecDepth 20000 in
theorem h_within {l : Launch} {D : va_G} {cI cG cW : ClassId} {q : Nat → Nat} {S : Nat → Int32} {X : Nat → Nat → Int32} {P : Nat → Nat} {v a b : Int32} : Ci l yX11_within cX11_within 3 (some .boolean) 0 D (tyL cI cG cW) (wC cI cG cW q) [.int v, .int a, .int b] (S, X, P) (fun r τ => r = bI (inn v a b) ∧ τ = (S, X, P)) := by
  refine Ci.of (by decide) (Nat.le_of_ble_eq_true rfl) ?_
  intro p_ e_ s_ m_ b_ M_ c_ A_ C
  replace C : Cx _ _ _ _ _ _ _ _ RX11 _ _ _ _ := C
  refine j_L [0, 1, 2] [(0, .int v), (1, .int a), (2, .int b)] rfl ?_
  refine j_iload_n C 0 dX11_within_0 rfl ?_
  refine j_iload_n C 1 dX11_within_1 rfl ?_
  refine j_icmp_lt C 14 dX11_within_2 (by decide) (fun c2 => ?_) (fun c2 => ?_)
  · skip
    refine j_iconst C (v := (nI 0)) dX11_within_14 (by decide) ?_
    refine j_zret C dX11_within_15 (by decide) ?_
    exact ⟨bI0 (fun h => ltn c2 h.1), rfl⟩
  · skip
    refine j_iload_n C 0 dX11_within_5 rfl ?_
    refine j_iload_n C 2 dX11_within_6 rfl ?_
    refine j_icmp_gt C 14 dX11_within_7 (by decide) (fun c7 => ?_) (fun c7 => ?_)
    · skip
      refine j_iconst C (v := (nI 0)) dX11_within_14 (by decide) ?_
      refine j_zret C dX11_within_15 (by decide) ?_
      exact ⟨bI0 (fun h => ltn c7 h.2), rfl⟩
    · skip
      refine j_iconst C (v := (nI 1)) dX11_within_10 (by decide) ?_
      refine j_goto C 15 dX11_within_11 (by decide) ?_
      refine j_zret C dX11_within_15 (by decide) ?_
      exact ⟨bI1 ⟨nlt c2, nlt c7⟩, rfl⟩
theorem dX11_isCell_0 : decode cX11_isCell 0 = .ok (.iload_n 1, 1) := by decide +kernel
theorem dX11_isCell_1 : decode cX11_isCell 1 = .ok (.iconst 0, 1) := by decide +kernel
theorem dX11_isCell_2 : decode cX11_isCell 2 = .ok (.aload_n 0, 1) := by decide +kernel
theorem dX11_isCell_3 : decode cX11_isCell 3 = .ok (.getfield 75, 3) := by decide +kernel
theorem dX11_isCell_6 : decode cX11_isCell 6 = .ok (.getfield 94, 3) := by decide +kernel
theorem dX11_isCell_9 : decode cX11_isCell 9 = .ok (.getfield 100, 3) := by decide +kernel
theorem dX11_isCell_12 : decode cX11_isCell 12 = .ok (.iconst 1, 1) := by decide +kernel
theorem dX11_isCell_13 : decode cX11_isCell 13 = .ok (.isub, 1) := by decide +kernel
theorem dX11_isCell_14 : decode cX11_isCell 14 = .ok (.invokestatic 86, 3) := by decide +kernel
theorem dX11_isCell_17 : decode cX11_isCell 17 = .ok (.ireturn, 1) := by decide +kernel
set_option maxHeartbeats 2000000 in
set_option maxRecDepth 20000 in
theorem h_isCell {l : Launch} {D : va_G} {cI cG cW : ClassId} {q : Nat → Nat} {S : Nat → Int32} {X : Nat → Nat → Int32} {P : Nat → Nat} {v : Int32} : Ci l yX11_isCell cX11_isCell 2 (some .boolean) 1 D (tyL cI cG cW) (wC cI cG cW q) [.ref (q 0), .int v] (S, X, P) (fun r τ => r = bI (inn v 0 (S 5 - 1)) ∧ τ = (S, X, P)) := by
  refine Ci.of (by decide) (Nat.le_of_ble_eq_true rfl) ?_
  intro p_ e_ s_ m_ b_ M_ c_ A_ C
  replace C : Cx _ _ _ _ _ _ _ _ RX11 _ _ _ _ := C
  refine j_L [0, 1] [(0, .ref (q 0)), (1, .int v)] rfl ?_
  refine j_iload_n C 1 dX11_isCell_0 rfl ?_
  refine j_iconst C (v := (nI 0)) dX11_isCell_1 (by decide) ?_
  refine j_aload_n C 0 dX11_isCell_2 rfl ?_
  refine j_get C (v := .ref (q 1)) 0 1 rfl rfl inlC11 (by decide) kf11_75 rfl dX11_isCell_3 ?_
  refine j_getN C (v := .ref (q 3)) 1 0 rfl rfl inlC3 (by decide) kf11_94 rfl dX11_isCell_6 ?_
  refine j_getN C (v := .int (S 5)) 3 0 rfl rfl inlC1 (by decide) kf11_100 rfl dX11_isCell_9 ?_
  refine j_iconst C (v := (nI 1)) dX11_isCell_12 (by decide) ?_
  refine j_isub C dX11_isCell_13 ?_
  refine j_callS (As := [.int v, .int (nI 0), .int ((S 5) - (nI 1))]) (rest := []) C sw11_86 (h_within) rfl (Nat.le_of_ble_eq_true rfl) dX11_isCell_14 (by decide) ?_
  rintro _ _ ⟨rfl, rfl⟩
  refine j_zret C dX11_isCell_17 (bI_01 _) ?_
  exact ⟨rfl, rfl⟩
theorem dX11_isPerson_0 : decode cX11_isPerson 0 = .ok (.iload_n 1, 1) := by decide +kernel
theorem dX11_isPerson_1 : decode cX11_isPerson 1 = .ok (.iconst 0, 1) := by decide +kernel
theorem dX11_isPerson_2 : decode cX11_isPerson 2 = .ok (.aload_n 0, 1) := by decide +kernel
theorem dX11_isPerson_3 : decode cX11_isPerson 3 = .ok (.getfield 75, 3) := by decide +kernel
theorem dX11_isPerson_6 : decode cX11_isPerson 6 = .ok (.getfield 94, 3) := by decide +kernel
theorem dX11_isPerson_9 : decode cX11_isPerson 9 = .ok (.getfield 97, 3) := by decide +kernel
theorem dX11_isPerson_12 : decode cX11_isPerson 12 = .ok (.iconst 1, 1) := by decide +kernel
theorem dX11_isPerson_13 : decode cX11_isPerson 13 = .ok (.isub, 1) := by decide +kernel
theorem dX11_isPerson_14 : decode cX11_isPerson 14 = .ok (.invokestatic 86, 3) := by decide +kernel
theorem dX11_isPerson_17 : decode cX11_isPerson 17 = .ok (.ireturn, 1) := by decide +kernel
set_option maxHeartbeats 2000000 in
set_option maxRecDepth 20000 in
theorem h_isPerson {l : Launch} {D : va_G} {cI cG cW : ClassId} {q : Nat → Nat} {S : Nat → Int32} {X : Nat → Nat → Int32} {P : Nat → Nat} {v : Int32} : Ci l yX11_isPerson cX11_isPerson 2 (some .boolean) 1 D (tyL cI cG cW) (wC cI cG cW q) [.ref (q 0), .int v] (S, X, P) (fun r τ => r = bI (inn v 0 (S 7 - 1)) ∧ τ = (S, X, P)) := by
  refine Ci.of (by decide) (Nat.le_of_ble_eq_true rfl) ?_
  intro p_ e_ s_ m_ b_ M_ c_ A_ C
  replace C : Cx _ _ _ _ _ _ _ _ RX11 _ _ _ _ := C
  refine j_L [0, 1] [(0, .ref (q 0)), (1, .int v)] rfl ?_
  refine j_iload_n C 1 dX11_isPerson_0 rfl ?_
  refine j_iconst C (v := (nI 0)) dX11_isPerson_1 (by decide) ?_
  refine j_aload_n C 0 dX11_isPerson_2 rfl ?_
  refine j_get C (v := .ref (q 1)) 0 1 rfl rfl inlC11 (by decide) kf11_75 rfl dX11_isPerson_3 ?_
  refine j_getN C (v := .ref (q 3)) 1 0 rfl rfl inlC3 (by decide) kf11_94 rfl dX11_isPerson_6 ?_
  refine j_getN C (v := .int (S 7)) 3 4 rfl rfl inlC1 (by decide) kf11_97 rfl dX11_isPerson_9 ?_
  refine j_iconst C (v := (nI 1)) dX11_isPerson_12 (by decide) ?_
  refine j_isub C dX11_isPerson_13 ?_
  refine j_callS (As := [.int v, .int (nI 0), .int ((S 7) - (nI 1))]) (rest := []) C sw11_86 (h_within) rfl (Nat.le_of_ble_eq_true rfl) dX11_isPerson_14 (by decide) ?_
  rintro _ _ ⟨rfl, rfl⟩
  refine j_zret C dX11_isPerson_17 (bI_01 _) ?_
  exact ⟨rfl, rfl⟩
theorem dX11_isWrong_0 : decode cX11_isWrong 0 = .ok (.iload_n 1, 1) := by decide +kernel
theorem dX11_isWrong_1 : decode cX11_isWrong 1 = .ok (.iconst 0, 1) := by decide +kernel
theorem dX11_isWrong_2 : decode cX11_isWrong 2 = .ok (.aload_n 0, 1) := by decide +kernel
theorem dX11_isWrong_3 : decode cX11_isWrong 3 = .ok (.getfield 75, 3) := by decide +kernel
theorem dX11_isWrong_6 : decode cX11_isWrong 6 = .ok (.getfield 164, 3) := by decide +kernel
theorem dX11_isWrong_9 : decode cX11_isWrong 9 = .ok (.iconst 1, 1) := by decide +kernel
theorem dX11_isWrong_10 : decode cX11_isWrong 10 = .ok (.isub, 1) := by decide +kernel
theorem dX11_isWrong_11 : decode cX11_isWrong 11 = .ok (.invokestatic 86, 3) := by decide +kernel
theorem dX11_isWrong_14 : decode cX11_isWrong 14 = .ok (.ireturn, 1) := by decide +kernel
set_option maxHeartbeats 2000000 in
set_option maxRecDepth 20000 in
theorem h_isWrong {l : Launch} {D : va_G} {cI cG cW : ClassId} {q : Nat → Nat} {S : Nat → Int32} {X : Nat → Nat → Int32} {P : Nat → Nat} {v : Int32} : Ci l yX11_isWrong cX11_isWrong 2 (some .boolean) 1 D (tyL cI cG cW) (wC cI cG cW q) [.ref (q 0), .int v] (S, X, P) (fun r τ => r = bI (inn v 0 (S 1 - 1)) ∧ τ = (S, X, P)) := by
  refine Ci.of (by decide) (Nat.le_of_ble_eq_true rfl) ?_
  intro p_ e_ s_ m_ b_ M_ c_ A_ C
  replace C : Cx _ _ _ _ _ _ _ _ RX11 _ _ _ _ := C
  refine j_L [0, 1] [(0, .ref (q 0)), (1, .int v)] rfl ?_
  refine j_iload_n C 1 dX11_isWrong_0 rfl ?_
  refine j_iconst C (v := (nI 0)) dX11_isWrong_1 (by decide) ?_
  refine j_aload_n C 0 dX11_isWrong_2 rfl ?_
  refine j_get C (v := .ref (q 1)) 0 1 rfl rfl inlC11 (by decide) kf11_75 rfl dX11_isWrong_3 ?_
  refine j_getN C (v := .int (S 1)) 1 1 rfl rfl inlC3 (by decide) kf11_164 rfl dX11_isWrong_6 ?_
  refine j_iconst C (v := (nI 1)) dX11_isWrong_9 (by decide) ?_
  refine j_isub C dX11_isWrong_10 ?_
  refine j_callS (As := [.int v, .int (nI 0), .int ((S 1) - (nI 1))]) (rest := []) C sw11_86 (h_within) rfl (Nat.le_of_ble_eq_true rfl) dX11_isWrong_11 (by decide) ?_
  rintro _ _ ⟨rfl, rfl⟩
  refine j_zret C dX11_isWrong_14 (bI_01 _) ?_
  exact ⟨rfl, rfl⟩
theorem dX11_isSheet_0 : decode cX11_isSheet 0 = .ok (.iload_n 0, 1) := by decide +kernel
theorem dX11_isSheet_1 : decode cX11_isSheet 1 = .ok (.iconst 0, 1) := by decide +kernel
theorem dX11_isSheet_2 : decode cX11_isSheet 2 = .ok (.iconst 3, 1) := by decide +kernel
theorem dX11_isSheet_3 : decode cX11_isSheet 3 = .ok (.invokestatic 86, 3) := by decide +kernel
theorem dX11_isSheet_6 : decode cX11_isSheet 6 = .ok (.ireturn, 1) := by decide +kernel
set_option maxHeartbeats 2000000 in
set_option maxRecDepth 20000 in
theorem h_isSheet {l : Launch} {D : va_G} {cI cG cW : ClassId} {q : Nat → Nat} {S : Nat → Int32} {X : Nat → Nat → Int32} {P : Nat → Nat} {v : Int32} : Ci l yX11_isSheet cX11_isSheet 1 (some .boolean) 1 D (tyL cI cG cW) (wC cI cG cW q) [.int v] (S, X, P) (fun r τ => r = bI (inn v (nI 0) (nI 3)) ∧ τ = (S, X, P)) := by
  refine Ci.of (by decide) (Nat.le_of_ble_eq_true rfl) ?_
  intro p_ e_ s_ m_ b_ M_ c_ A_ C
  replace C : Cx _ _ _ _ _ _ _ _ RX11 _ _ _ _ := C
  refine j_L [0] [(0, .int v)] rfl ?_
  refine j_iload_n C 0 dX11_isSheet_0 rfl ?_
  refine j_iconst C (v := (nI 0)) dX11_isSheet_1 (by decide) ?_
  refine j_iconst C (v := (nI 3)) dX11_isSheet_2 (by decide) ?_
  refine j_callS (As := [.int v, .int (nI 0), .int (nI 3)]) (rest := []) C sw11_86 (h_within) rfl (Nat.le_of_ble_eq_true rfl) dX11_isSheet_3 (by decide) ?_
  rintro _ _ ⟨rfl, rfl⟩
  refine j_zret C dX11_isSheet_6 (bI_01 _) ?_
  exact ⟨rfl, rfl⟩

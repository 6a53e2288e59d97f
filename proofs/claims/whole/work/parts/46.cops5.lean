/-! The class's public calls: tell. -/
theorem CK.addQ {S : Nat → Int32} {X : Nat → Nat → Int32} {row : Nat → Int32} {nw nt nq : Nat} (h : CK S X 0 row nw nt nq) (hw : nw ≤ 8) (ht : nt ≤ 50) (v : Int32) : CK (upd S 20 (nI (nq + 1))) (va_up X 73 (upd (X 73) nq v)) 0 (upd (upd row (140 + nq) v) 5 (nI (nq + 1))) nw nt (nq + 1) := by
  refine ⟨?_, ?_, fun j hj i hi => ?_, ?_, fun i hi => ?_, ?_, fun i hi => ?_⟩
  · rw [pk_un (by omega), pk_un (by omega), pk_un (by omega)]; exact h.wrongs
  · rw [pk_un (by omega), pk_un (by omega), pk_un (by omega)]; exact h.z
  · rw [va_n (by omega), pk_un (by omega), pk_un (by omega)]; exact h.wr j hj i hi
  · rw [pk_un (by omega), pk_un (by omega), pk_un (by omega)]; exact h.tsz
  · rw [va_n (by omega), pk_un (by omega), pk_un (by omega)]; exact h.tape i hi
  · rw [pk_us, pk_us]
  · show upd (X 73) nq v i = _
    by_cases e : i = nq
    · subst e; rw [pk_us, pk_un (by omega), pk_us]
    · rw [pk_un e, pk_un (by omega), pk_un (by omega)]; exact h.wait i (by omega)

theorem dX11_tell_0 : decode cX11_tell 0 = .ok (.aload_n 0, 1) := by decide +kernel
theorem dX11_tell_1 : decode cX11_tell 1 = .ok (.getfield 75, 3) := by decide +kernel
theorem dX11_tell_4 : decode cX11_tell 4 = .ok (.getfield 302, 3) := by decide +kernel
theorem dX11_tell_7 : decode cX11_tell 7 = .ok (.getfield 188, 3) := by decide +kernel
theorem dX11_tell_10 : decode cX11_tell 10 = .ok (.bipush 20, 2) := by decide +kernel
theorem dX11_tell_12 : decode cX11_tell 12 = .ok (.if_icmp .lt 9, 3) := by decide +kernel
theorem dX11_tell_15 : decode cX11_tell 15 = .ok (.aload_n 0, 1) := by decide +kernel
theorem dX11_tell_16 : decode cX11_tell 16 = .ok (.iconst 4, 1) := by decide +kernel
theorem dX11_tell_17 : decode cX11_tell 17 = .ok (.invokevirtual 90, 3) := by decide +kernel
theorem dX11_tell_20 : decode cX11_tell 20 = .ok (.ireturn, 1) := by decide +kernel
theorem dX11_tell_21 : decode cX11_tell 21 = .ok (.aload_n 0, 1) := by decide +kernel
theorem dX11_tell_22 : decode cX11_tell 22 = .ok (.getfield 75, 3) := by decide +kernel
theorem dX11_tell_25 : decode cX11_tell 25 = .ok (.getfield 302, 3) := by decide +kernel
theorem dX11_tell_28 : decode cX11_tell 28 = .ok (.iload_n 1, 1) := by decide +kernel
theorem dX11_tell_29 : decode cX11_tell 29 = .ok (.invokevirtual 191, 3) := by decide +kernel
theorem dX11_tell_32 : decode cX11_tell 32 = .ok (.aload_n 0, 1) := by decide +kernel
theorem dX11_tell_33 : decode cX11_tell 33 = .ok (.getfield 75, 3) := by decide +kernel
theorem dX11_tell_36 : decode cX11_tell 36 = .ok (.getfield 302, 3) := by decide +kernel
theorem dX11_tell_39 : decode cX11_tell 39 = .ok (.getfield 188, 3) := by decide +kernel
theorem dX11_tell_42 : decode cX11_tell 42 = .ok (.ireturn, 1) := by decide +kernel
set_option maxHeartbeats 2000000 in
set_option maxRecDepth 20000 in
theorem k_tell {l : Launch} {D : va_G} {cI cG cW : ClassId} {q : Nat → Nat} {S : Nat → Int32} {X : Nat → Nat → Int32} {P : Nat → Nat} {v : Int32} {V row kept tried bf fd pk bo so sh mv tr : Nat → Int32} {nc np nw d nt nq : Nat} (hR : RKx row nc np nw d nt nq) (hC : CR (S, X, P) (sR V row kept tried bf fd pk bo so sh mv tr)) : Ci l yX11_tell cX11_tell 2 (some .int) 3 D (tyL cI cG cW) (wC cI cG cW q) [.ref (q 0), .int v] (S, X, P) (fun r τ => r = (sp_tell V row kept tried bf fd pk bo so sh mv tr v).1 ∧ CR τ (sp_tell V row kept tried bf fd pk bo so sh mv tr v).2) := by
  refine Ci.of (by decide) (Nat.le_of_ble_eq_true rfl) ?_
  intro p_ e_ s_ m_ b_ M_ c_ A_ C
  replace C : Cx _ _ _ _ _ _ _ _ RX11 _ _ _ _ := C
  refine j_L [0, 1] [(0, .ref (q 0)), (1, .int v)] rfl ?_
  obtain ⟨hI, hW, ⟨e0, hd⟩, ⟨e4, ht⟩, ⟨e5, hq⟩, hB⟩ := id hR
  obtain ⟨⟨e2, hc2, hc10⟩, ⟨e3, hn6⟩, ⟨e8, hw8⟩, hP, hE, hLo, hT0, hT1⟩ := id hI
  have hIc := hI
  have hF : CF S X 0 row (X 44) nc np := by have h := hC.fld; rw [e2, e3, tN_nI (by omega), tN_nI (by omega)] at h; exact h
  have hK : CK S X 0 row nw nt nq := by have h := hC.kp; rw [e8, e4, e5, tN_nI (by omega), tN_nI (by omega), tN_nI (by omega)] at h; exact h
  have hS1 : S 1 = row 8 := hK.wrongs
  have hS5 : S 5 = row 2 := hF.cells
  have hS7 : S 7 = row 3 := hF.people
  refine j_aload_n C 0 dX11_tell_0 rfl ?_
  refine j_get C (v := .ref (q 1)) 0 1 rfl rfl inlC11 (by decide) kf11_75 rfl dX11_tell_1 ?_
  refine j_getN C (v := .ref (q 12)) 1 6 rfl rfl inlC3 (by decide) kf11_302 rfl dX11_tell_4 ?_
  refine j_getN C (v := .int (S 20)) 12 1 rfl rfl inlC8 (by decide) kf11_188 rfl dX11_tell_7 ?_
  refine j_v (nI nq) (hK.qsz.trans e5) ?_
  refine j_bipush C (v := (nI 20)) dX11_tell_10 (by decide) ?_
  refine j_icmp_lt C 21 dX11_tell_12 (by decide) (fun c12 => ?_) (fun c12 => ?_)
  · rw [nI_ltI (by omega) (by omega)] at c12
    refine j_aload_n C 0 dX11_tell_21 rfl ?_
    refine j_get C (v := .ref (q 1)) 0 1 rfl rfl inlC11 (by decide) kf11_75 rfl dX11_tell_22 ?_
    refine j_getN C (v := .ref (q 12)) 1 6 rfl rfl inlC3 (by decide) kf11_302 rfl dX11_tell_25 ?_
    refine j_iload_n C 1 dX11_tell_28 rfl ?_
    refine j_callVNv (As := [.int v]) (rest := []) C vn11_191 (h_add_1 nq (hK.qsz.trans e5) (by omega)) ⟨12, 8, _, _, rfl, rfl, rfl⟩ rfl (Nat.le_of_ble_eq_true rfl) dX11_tell_29 (by decide) ?_
    rintro _ rfl
    refine j_aload_n C 0 dX11_tell_32 rfl ?_
    refine j_get C (v := .ref (q 1)) 0 1 rfl rfl inlC11 (by decide) kf11_75 rfl dX11_tell_33 ?_
    refine j_getN C (v := .ref (q 12)) 1 6 rfl rfl inlC3 (by decide) kf11_302 rfl dX11_tell_36 ?_
    refine j_getN C (v := .int (nI (nq + 1))) 12 1 rfl rfl inlC8 (by decide) kf11_188 rfl dX11_tell_39 ?_
    refine j_iret C dX11_tell_42 ?_
    unfold sp_tell
    rw [if_neg (by rw [e5, nI_eq (by omega) (by omega)]; omega), e5, tN_nI (by omega), nI_add]
    exact ⟨rfl, hC.nowx (fun k hk => pk_un (by omega)) (fun k hk => va_n (by omega)) ((pk_un (by omega)).trans ((pk_un (by omega)).trans e2)) ((pk_un (by omega)).trans ((pk_un (by omega)).trans e3)) ((pk_un (by omega)).trans ((pk_un (by omega)).trans e8)) ((pk_un (by omega)).trans ((pk_un (by omega)).trans e4)) pk_us ⟨hc10, hn6, hw8, ht, by omega⟩ (hF.cg (fun k _ _ => pk_un (by omega)) (fun k _ _ => va_n (by omega)) (fun _ _ => rfl) (fun k hk => ((pk_un (by omega)).trans ((pk_un (by omega)).trans rfl))) hc10 hn6) (hK.addQ hw8 ht v) (hC.l0.st (by omega) (pk_un (by omega)) (va_n (by omega)) (fun k hk => ((pk_un (by omega)).trans ((pk_un (by omega)).trans rfl)))) (hC.l1.st (by omega) (pk_un (by omega)) (va_n (by omega)) (fun k hk => ((pk_un (by omega)).trans ((pk_un (by omega)).trans rfl))))⟩
  · rw [nI_ltI (by omega) (by omega)] at c12
    refine j_aload_n C 0 dX11_tell_15 rfl ?_
    refine j_iconst C (v := (nI 4)) dX11_tell_16 (by decide) ?_
    refine j_callV (As := [.int (nI 4)]) (rest := []) C vw11_90 (h_error 4 (by decide)) ⟨0, 11, _, _, rfl, rfl, rfl⟩ rfl (Nat.le_of_ble_eq_true rfl) dX11_tell_17 (by decide) ?_
    rintro _ _ ⟨rfl, rfl⟩
    refine j_iret C dX11_tell_20 ?_
    unfold sp_tell
    rw [if_pos (by rw [e5]; congr 1; omega)]
    exact ⟨show (-1000000000 : Int32) - nI 4 = -1000000004 from by decide, hC.er 4⟩

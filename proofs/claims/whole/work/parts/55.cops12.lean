/-! The class's public calls: best, brings, pardons, feed, law. -/
theorem j_lushr {p : Program} {l : Launch} {e : Env} {R : Room} {s : State} {m : MethodId} {args : Array Value} {below : List Frame} {meth : Method} {c : Code} {Q : State → Prop} {nL : Nat} {D : va_G} {A : Nat → Prop} {S : Type} {Wd : S → va_W} {σ : S} {pc : Nat} {L : List (Nat × Value)} {rest : List Value} {cc : ByteArray} {own : String} {ret : Option FieldType} {tys : List (ClassId × FieldType)} (C : Cx p s m args meth c cc nL own ret D tys A) {x : Int64} {y : Int32} (hdg : decode cc pc = .ok (.lushr, 1)) (kk : JJ p l e R s m args below meth c Q nL D A Wd σ (pc + 1) L (.long (x.toUInt64 >>> (y.toInt64.toUInt64 &&& Int64.toUInt64 63)).toInt64 :: rest)) : JJ p l e R s m args below meth c Q nL D A Wd σ pc L (.int y :: .long x :: rest) := by
  obtain ⟨hx, hb, hml, hown, hts, hK, hA, hr, hlocks⟩ := C
  intro H locs ls hP hD hS hl
  exact lv_lushr hx hb hdg rfl (kk H locs ls hP hD hS hl)
/-- a contract of a method that answers an object of the world, and changes nothing -/
def Cr (l : Launch) (y : MethodName) (cc : ByteArray) (nL : Nat) (ret : Option FieldType) (d : Nat) (D : va_G) (tys : List (ClassId × FieldType)) {S : Type} (Wd : S → va_W) (av : List Value) (σ : S) (r0 : Nat) : Prop :=
  ∀ sz, Met l y (.code y cc nL ret :: lw_g) (rmD d) (PreW D tys Wd σ sz av) (va_Qr (fun τ => τ = σ) (fun τ a t => a = r0 ∧ Bw D tys Wd (va_A (Wd σ) sz) τ t) (va_A (Wd σ) sz)) 0 0 (va_A (Wd σ) sz)
theorem Cr.of {l : Launch} {nL d : Nat} {D : va_G} {S : Type} {Wd : S → va_W} {σ : S} {cc : ByteArray} {ret : Option FieldType} {tys : List (ClassId × FieldType)} {y : MethodName} {av : List Value} {r0 : Nat} (hy : plainName y.cls = true) (hlen : (lg_sl av).length ≤ nL)
    (body : ∀ (p : Program) (e : Env) (s : State) (m : MethodId) (below : List Frame) (meth : Method) (c : Code) (A : Nat → Prop), Cx p s m av.toArray meth c cc nL y.cls ret D tys A → JJ p l e (rmD d) s m av.toArray below meth c (MQ below (va_Qr (fun τ => τ = σ) (fun τ a t => a = r0 ∧ Bw D tys Wd A τ t) A) av.toArray s 0 0 A) nL D A Wd σ 0 (lv_args 0 av) []) : Cr l y cc nL ret d D tys Wd av σ r0 := by
  intro sz
  refine Met.ofW (cc := cc) (maxL := nL) (ret := ret) hy rfl ?_
  intro p e s m args below meth c s₁ B hml hv
  obtain ⟨rfl, hsz, hP, hK, hD0⟩ := hv
  have hts := atoms_spec (ws := .code y cc nL ret :: lw_g) B.pre
  subst hsz
  have hl := lv_entry av (n := nL) hlen
  rw [lg_entry_eq]
  exact body p e s m below meth c (va_A (Wd σ) s.heap.size) ⟨B.exec, B.bytes, hml, findClass_of_methodNamed B.named, fun w hw => hts w (List.mem_cons_of_mem _ hw), hK, fun q h => Or.inr h, B.returns, B.notSynchronized⟩ s.heap [] _ hP hD0.self va_S.rf hl
theorem j_aret {p : Program} {l : Launch} {e : Env} {R : Room} {s : State} {m : MethodId} {args : Array Value} {below : List Frame} {meth : Method} {c : Code} {nL : Nat} {D : va_G} {A : Nat → Prop} {S : Type} {Wd : S → va_W} {σ σ0 : S} {pc : Nat} {L : List (Nat × Value)} {cc : ByteArray} {own Cn : String} {tys : List (ClassId × FieldType)} {v r0 : Nat} (C : Cx p s m args meth c cc nL own (some (.object Cn)) D tys A) (hdg : decode cc pc = .ok (.areturn, 1)) (hp : v = r0 ∧ σ = σ0) : JJ p l e R s m args below meth c (MQ below (va_Qr (fun τ => τ = σ0) (fun τ a t => a = r0 ∧ Bw D tys Wd A τ t) A) args s 0 0 A) nL D A Wd σ pc L [.ref v] := by
  obtain ⟨hx, hb, hml, hown, hts, hK, hA, hr, hlocks⟩ := C
  intro H locs ls hP hD hS hl
  exact W.aret (v := .ref v) hx hb hr (Or.inl ⟨_, rfl⟩) (Or.inr ⟨_, rfl⟩) (fun t ht hW => ⟨⟨σ, v, rfl, hp.2, hp.1, by rw [ht]; exact hP, va_K.moved hW.alike hK.1, hD⟩, hS.F ht⟩) hS.2.2 hdg
theorem j_callVNr {p : Program} {l : Launch} {e : Env} {s : State} {m : MethodId} {args : Array Value} {below : List Frame} {meth : Method} {c : Code} {Q : State → Prop} {nL d : Nat} {D : va_G} {A : Nat → Prop} {S : Type} {Wd : S → va_W} {σ : S} {pc : Nat} {L : List (Nat × Value)} {rest : List Value} {cc : ByteArray} {own : String} {ret : Option FieldType} {tys : List (ClassId × FieldType)} {y : MethodName} {bytes : ByteArray} {maxL index n d' : Nat} {ret' : Option FieldType} {As : List Value} {b r0 : Nat} (C : Cx p s m args meth c cc nL own ret D tys A) (hV : VN own index y bytes maxL ret' n) (hM : Cr l y bytes maxL ret' d' D tys Wd (.ref b :: As) σ r0) (hr : Rcv σ Wd b y.cls) (hn : As.length = n) (hst : (rest.map fun v => v.category).sum ≤ 8) (hdg : decode cc pc = .ok (.invokevirtual index, 3)) (hd : d' < d)
    (kk : JJ p l e (rmD d) s m args below meth c Q nL D A Wd σ (pc + 3) L (.ref r0 :: rest)) : JJ p l e (rmD d) s m args below meth c Q nL D A Wd σ pc L (As.reverse ++ .ref b :: rest) := by
  obtain ⟨hx, hb, hml, hown, hts, ⟨hK, hN⟩, hA, hr', hlocks⟩ := C
  obtain ⟨host, v1, v2, v3, v4, v5, v6, v7⟩ := hV
  obtain ⟨q0, ci, fs, r, r1, r2, r3⟩ := hr
  intro H locs ls hP hD hS hl
  have hFc := free_in hD hS hA
  refine va_callr (va_runVN (As := As) (rest := rest) (C := y.cls) ⟨hx, hb, hml, hown, hts⟩ (hM H.size) ⟨va_cnB n hts (gC v1) rfl rfl rfl (hN _ v2) (hts _ v5) v6 (rm_ok hd v7), hts _ v3, hts _ v4⟩ ⟨FB D tys σ H.size _, by rw [← r3]; exact va_recv hK hP r2 r1, fun U hU hW => ⟨rfl, by rw [hU], by rw [hU]; exact hP, ⟨va_K.moved hW.alike hK, KN.warm hW hN⟩, hD.weaken (fun _ _ _ _ => trivial)⟩⟩ rfl hn hl.1 rfl (lv_room hst) hdg ⟨Nat.le_refl _, Nat.le_refl _⟩) hS (fun q _ h => hFc q h) hFc (fun u ra t H1 locs1 ht hvm hw hB hz1 hk1 hS => ?_)
  obtain ⟨rfl, hP1, -, hD1⟩ := hB
  subst hw
  rw [ht] at hP1
  exact kk H1 locs1 ls hP1 (hD1.weaken (fun _ q _ h => hFc q.1 h)) hS hl

theorem dX3_lawOf_0 : decode cX3_lawOf 0 = .ok (.iload_n 1, 1) := by decide +kernel
theorem dX3_lawOf_1 : decode cX3_lawOf 1 = .ok (.ifCond .ne 13, 3) := by decide +kernel
theorem dX3_lawOf_4 : decode cX3_lawOf 4 = .ok (.aload_n 0, 1) := by decide +kernel
theorem dX3_lawOf_5 : decode cX3_lawOf 5 = .ok (.getfield 40, 3) := by decide +kernel
theorem dX3_lawOf_8 : decode cX3_lawOf 8 = .ok (.getfield 44, 3) := by decide +kernel
theorem dX3_lawOf_11 : decode cX3_lawOf 11 = .ok (.goto 10, 3) := by decide +kernel
theorem dX3_lawOf_14 : decode cX3_lawOf 14 = .ok (.aload_n 0, 1) := by decide +kernel
theorem dX3_lawOf_15 : decode cX3_lawOf 15 = .ok (.getfield 40, 3) := by decide +kernel
theorem dX3_lawOf_18 : decode cX3_lawOf 18 = .ok (.getfield 59, 3) := by decide +kernel
theorem dX3_lawOf_21 : decode cX3_lawOf 21 = .ok (.areturn, 1) := by decide +kernel
set_option maxHeartbeats 2000000 in
set_option maxRecDepth 20000 in
theorem h_lawOf_0 {l : Launch} {D : va_G} {cI cG cW : ClassId} {q : Nat → Nat} {S : Nat → Int32} {X : Nat → Nat → Int32} {P : Nat → Nat}  : Cr l yX3_lawOf cX3_lawOf 2 (some (.object "GleanedSorry$Law")) 0 D (tyL cI cG cW) (wC cI cG cW q) [.ref (q 1), .int (nI 0)] (S, X, P) (q 6) := by
  refine Cr.of (by decide) (Nat.le_of_ble_eq_true rfl) ?_
  intro p_ e_ s_ m_ b_ M_ c_ A_ C
  replace C : Cx _ _ _ _ _ _ _ _ RX3 _ _ _ _ := C
  refine j_L [0, 1] [(0, .ref (q 1)), (1, .int (nI 0))] rfl ?_
  refine j_iload_n C 1 dX3_lawOf_0 rfl ?_
  refine j_if_ne C 14 dX3_lawOf_1 (by decide) (fun c1 => ?_) (fun c1 => ?_)
  · rw [show (0 : Int32) = nI 0 from rfl, nI_eq (by omega) (by omega)] at c1
    exfalso; omega
  · rw [show (0 : Int32) = nI 0 from rfl, nI_eq (by omega) (by omega)] at c1
    refine j_aload_n C 0 dX3_lawOf_4 rfl ?_
    refine j_get C (v := .ref (q 3)) 1 0 rfl rfl inlC3 (by decide) kf3_40 rfl dX3_lawOf_5 ?_
    refine j_getN C (v := .ref (q 6)) 3 14 rfl rfl inlC1 (by decide) kf3_44 rfl dX3_lawOf_8 ?_
    refine j_goto C 21 dX3_lawOf_11 (by decide) ?_
    refine j_aret C dX3_lawOf_21 ?_
    exact ⟨rfl, rfl⟩
set_option maxHeartbeats 2000000 in
set_option maxRecDepth 20000 in
theorem h_lawOf_1 {l : Launch} {D : va_G} {cI cG cW : ClassId} {q : Nat → Nat} {S : Nat → Int32} {X : Nat → Nat → Int32} {P : Nat → Nat}  : Cr l yX3_lawOf cX3_lawOf 2 (some (.object "GleanedSorry$Law")) 0 D (tyL cI cG cW) (wC cI cG cW q) [.ref (q 1), .int (nI 1)] (S, X, P) (q 7) := by
  refine Cr.of (by decide) (Nat.le_of_ble_eq_true rfl) ?_
  intro p_ e_ s_ m_ b_ M_ c_ A_ C
  replace C : Cx _ _ _ _ _ _ _ _ RX3 _ _ _ _ := C
  refine j_L [0, 1] [(0, .ref (q 1)), (1, .int (nI 1))] rfl ?_
  refine j_iload_n C 1 dX3_lawOf_0 rfl ?_
  refine j_if_ne C 14 dX3_lawOf_1 (by decide) (fun c1 => ?_) (fun c1 => ?_)
  · rw [show (0 : Int32) = nI 0 from rfl, nI_eq (by omega) (by omega)] at c1
    refine j_aload_n C 0 dX3_lawOf_14 rfl ?_
    refine j_get C (v := .ref (q 3)) 1 0 rfl rfl inlC3 (by decide) kf3_40 rfl dX3_lawOf_15 ?_
    refine j_getN C (v := .ref (q 7)) 3 15 rfl rfl inlC1 (by decide) kf3_59 rfl dX3_lawOf_18 ?_
    refine j_aret C dX3_lawOf_21 ?_
    exact ⟨rfl, rfl⟩
  · rw [show (0 : Int32) = nI 0 from rfl, nI_eq (by omega) (by omega)] at c1
    exfalso; omega
theorem dX11_law_0 : decode cX11_law 0 = .ok (.iload_n 1, 1) := by decide +kernel
theorem dX11_law_1 : decode cX11_law 1 = .ok (.iconst 0, 1) := by decide +kernel
theorem dX11_law_2 : decode cX11_law 2 = .ok (.iconst 1, 1) := by decide +kernel
theorem dX11_law_3 : decode cX11_law 3 = .ok (.invokestatic 86, 3) := by decide +kernel
theorem dX11_law_6 : decode cX11_law 6 = .ok (.ifCond .ne 9, 3) := by decide +kernel
theorem dX11_law_9 : decode cX11_law 9 = .ok (.aload_n 0, 1) := by decide +kernel
theorem dX11_law_10 : decode cX11_law 10 = .ok (.iconst 1, 1) := by decide +kernel
theorem dX11_law_11 : decode cX11_law 11 = .ok (.invokevirtual 90, 3) := by decide +kernel
theorem dX11_law_14 : decode cX11_law 14 = .ok (.ireturn, 1) := by decide +kernel
theorem dX11_law_15 : decode cX11_law 15 = .ok (.aload_n 0, 1) := by decide +kernel
theorem dX11_law_16 : decode cX11_law 16 = .ok (.getfield 75, 3) := by decide +kernel
theorem dX11_law_19 : decode cX11_law 19 = .ok (.iload_n 1, 1) := by decide +kernel
theorem dX11_law_20 : decode cX11_law 20 = .ok (.invokevirtual 198, 3) := by decide +kernel
theorem dX11_law_23 : decode cX11_law 23 = .ok (.iload_n 2, 1) := by decide +kernel
theorem dX11_law_24 : decode cX11_law 24 = .ok (.iload_n 3, 1) := by decide +kernel
theorem dX11_law_25 : decode cX11_law 25 = .ok (.iload 4, 2) := by decide +kernel
theorem dX11_law_27 : decode cX11_law 27 = .ok (.invokevirtual 209, 3) := by decide +kernel
theorem dX11_law_30 : decode cX11_law 30 = .ok (.ireturn, 1) := by decide +kernel
set_option maxHeartbeats 2000000 in
set_option maxRecDepth 20000 in
theorem k_law {l : Launch} {D : va_G} {cI cG cW : ClassId} {q : Nat → Nat} {S : Nat → Int32} {X : Nat → Nat → Int32} {P : Nat → Nat} {use a b c : Int32} {V row kept tried bf fd pk bo so sh mv tr : Nat → Int32} {nc np nw d nt nq : Nat} (hR : RKx row nc np nw d nt nq) (hC : CR (S, X, P) (sR V row kept tried bf fd pk bo so sh mv tr)) : Ci l yX11_law cX11_law 5 (some .int) 6 D (tyL cI cG cW) (wC cI cG cW q) [.ref (q 0), .int use, .int a, .int b, .int c] (S, X, P) (fun r τ => r = (sp_law V row kept tried bf fd pk bo so sh mv tr use a b c).1 ∧ CR τ (sp_law V row kept tried bf fd pk bo so sh mv tr use a b c).2) := by
  refine Ci.of (by decide) (Nat.le_of_ble_eq_true rfl) ?_
  intro p_ e_ s_ m_ b_ M_ c_ A_ C
  replace C : Cx _ _ _ _ _ _ _ _ RX11 _ _ _ _ := C
  refine j_L [0, 1, 2, 3, 4] [(0, .ref (q 0)), (1, .int use), (2, .int a), (3, .int b), (4, .int c)] rfl ?_
  obtain ⟨hI, hW, ⟨e0, hd⟩, ⟨e4, ht⟩, ⟨e5, hq⟩, hB⟩ := id hR
  obtain ⟨⟨e2, hc2, hc10⟩, ⟨e3, hn6⟩, ⟨e8, hw8⟩, hP, hE, hLo, hT0, hT1⟩ := id hI
  have hIc := hI
  have hF : CF S X 0 row (X 44) nc np := by have h := hC.fld; rw [e2, e3, tN_nI (by omega), tN_nI (by omega)] at h; exact h
  have hK : CK S X 0 row nw nt nq := by have h := hC.kp; rw [e8, e4, e5, tN_nI (by omega), tN_nI (by omega), tN_nI (by omega)] at h; exact h
  have hS1 : S 1 = row 8 := hK.wrongs
  have hS5 : S 5 = row 2 := hF.cells
  have hS7 : S 7 = row 3 := hF.people
  refine j_iload_n C 1 dX11_law_0 rfl ?_
  refine j_iconst C (v := (nI 0)) dX11_law_1 (by decide) ?_
  refine j_iconst C (v := (nI 1)) dX11_law_2 (by decide) ?_
  refine j_callS (As := [.int use, .int (nI 0), .int (nI 1)]) (rest := []) C sw11_86 (h_within) rfl (Nat.le_of_ble_eq_true rfl) dX11_law_3 (by decide) ?_
  rintro _ _ ⟨rfl, rfl⟩
  refine j_if_ne C 15 dX11_law_6 (by decide) (fun c6 => ?_) (fun c6 => ?_)
  · replace c6 := bI_t c6
    obtain ⟨un, gun, hun, rfl⟩ := inn_lit c6 (by omega)
    rcases (show un = 0 ∨ un = 1 by omega) with rfl | rfl
    · refine j_aload_n C 0 dX11_law_15 rfl ?_
      refine j_get C (v := .ref (q 1)) 0 1 rfl rfl inlC11 (by decide) kf11_75 rfl dX11_law_16 ?_
      refine j_iload_n C 1 dX11_law_19 rfl ?_
      refine j_callVNr (As := [.int (nI 0)]) (rest := []) C vn11_198 (h_lawOf_0) ⟨1, 3, _, _, rfl, rfl, rfl⟩ rfl (Nat.le_of_ble_eq_true rfl) dX11_law_20 (by decide) ?_
      refine j_iload_n C 2 dX11_law_23 rfl ?_
      refine j_iload_n C 3 dX11_law_24 rfl ?_
      refine j_iload C 4 dX11_law_25 rfl ?_
      refine j_callVN (As := [.int a, .int b, .int c]) (rest := []) C vn11_209 (h_gives_0 hC.l0) ⟨6, 4, _, _, rfl, rfl, rfl⟩ rfl (Nat.le_of_ble_eq_true rfl) dX11_law_27 (by decide) ?_
      rintro _ _ ⟨rfl, g, rfl⟩
      refine j_iret C dX11_law_30 ?_
      unfold sp_law
      rw [if_pos c6, tN_nI (n := 0) (by decide)]
      exact ⟨rfl, hC.th ⟨fun _ _ => rfl, fun k h1 h2 h3 => va_n h2⟩⟩
    · refine j_aload_n C 0 dX11_law_15 rfl ?_
      refine j_get C (v := .ref (q 1)) 0 1 rfl rfl inlC11 (by decide) kf11_75 rfl dX11_law_16 ?_
      refine j_iload_n C 1 dX11_law_19 rfl ?_
      refine j_callVNr (As := [.int (nI 1)]) (rest := []) C vn11_198 (h_lawOf_1) ⟨1, 3, _, _, rfl, rfl, rfl⟩ rfl (Nat.le_of_ble_eq_true rfl) dX11_law_20 (by decide) ?_
      refine j_iload_n C 2 dX11_law_23 rfl ?_
      refine j_iload_n C 3 dX11_law_24 rfl ?_
      refine j_iload C 4 dX11_law_25 rfl ?_
      refine j_callVN (As := [.int a, .int b, .int c]) (rest := []) C vn11_209 (h_gives_1 hC.l1) ⟨7, 4, _, _, rfl, rfl, rfl⟩ rfl (Nat.le_of_ble_eq_true rfl) dX11_law_27 (by decide) ?_
      rintro _ _ ⟨rfl, g, rfl⟩
      refine j_iret C dX11_law_30 ?_
      unfold sp_law
      rw [if_pos c6, tN_nI (n := 1) (by decide)]
      exact ⟨rfl, hC.th ⟨fun _ _ => rfl, fun k h1 h2 h3 => va_n h3⟩⟩
  · replace c6 := bI_f c6
    refine j_aload_n C 0 dX11_law_9 rfl ?_
    refine j_iconst C (v := (nI 1)) dX11_law_10 (by decide) ?_
    refine j_callV (As := [.int (nI 1)]) (rest := []) C vw11_90 (h_error 1 (by decide)) ⟨0, 11, _, _, rfl, rfl, rfl⟩ rfl (Nat.le_of_ble_eq_true rfl) dX11_law_11 (by decide) ?_
    rintro _ _ ⟨rfl, rfl⟩
    refine j_iret C dX11_law_14 ?_
    unfold sp_law
    rw [if_neg c6]
    exact ⟨show (-1000000000 : Int32) - nI 1 = -1000000001 from by decide, hC.er 1⟩
theorem fd_key (w : BitVec 64) (s t : Nat) (e : s = t) (hs : s ≤ 56) : BitVec.signExtend 32 (w >>> s) &&& 255#32 = BitVec.signExtend 32 (w.sshiftRight t &&& 255#64) := by
  subst e
  apply BitVec.eq_of_getLsbD_eq
  intro j hj
  rw [BitVec.getLsbD_and, BitVec.getLsbD_signExtend, BitVec.getLsbD_signExtend, BitVec.getLsbD_and, BitVec.getLsbD_ushiftRight, BitVec.getLsbD_sshiftRight]
  by_cases h8 : j < 8
  · have h1 : s + j < 64 := by omega
    have h2 : j < 64 := by omega
    have h4 : ¬ 64 ≤ j := by omega
    have h3 : ∀ k, k < 8 → (255#32).getLsbD k = (255#64).getLsbD k := by decide
    have h5 : (255#32)[j] = (255#64)[j] := h3 j h8
    simp [hj, h1, h2, h4, h5]
  · have h1 : ∀ k, k < 32 → ¬ k < 8 → (255#32).getLsbD k = false := by decide
    have h2 : ∀ k, k < 32 → ¬ k < 8 → (255#64).getLsbD k = false := by decide
    have h4 : j < 64 := by omega
    simp only [h1 j hj h8, h2 j hj h8, Bool.and_false, if_pos h4]
theorem fd_bits (w : Int64) (i : Nat) (hi : i < 8) : (w.toUInt64 >>> ((nI (8 * i)).toInt64.toUInt64 &&& Int64.toUInt64 63)).toInt64.toInt32 &&& nI 255 = bytF8 w i := by
  unfold bytF8
  apply Int32.toBitVec_inj.mp
  rcases (show i = 0 ∨ i = 1 ∨ i = 2 ∨ i = 3 ∨ i = 4 ∨ i = 5 ∨ i = 6 ∨ i = 7 by omega) with rfl | rfl | rfl | rfl | rfl | rfl | rfl | rfl
  · exact fd_key w.toBitVec _ _ (by decide) (by decide)
  · exact fd_key w.toBitVec _ _ (by decide) (by decide)
  · exact fd_key w.toBitVec _ _ (by decide) (by decide)
  · exact fd_key w.toBitVec _ _ (by decide) (by decide)
  · exact fd_key w.toBitVec _ _ (by decide) (by decide)
  · exact fd_key w.toBitVec _ _ (by decide) (by decide)
  · exact fd_key w.toBitVec _ _ (by decide) (by decide)
  · exact fd_key w.toBitVec _ _ (by decide) (by decide)
theorem fdF_o {row : Nat → Int32} {w : Int64} {nt i k : Nat} (h4 : ¬ k = 4) (hk : k < 90 ∨ 90 + (nt + i) ≤ k) : fdF row w nt i k = row k := by
  induction i with
  | zero => rfl
  | succ i ih => unfold fdF; rw [pk_un h4, pk_un (by omega)]; exact ih (by omega)
theorem CK.fd {S : Nat → Int32} {X : Nat → Nat → Int32} {row g : Nat → Int32} {w : Int64} {nw nt nq i : Nat} (h : CK S X 0 row nw nt nq) (e4 : row 4 = nI nt) (h8 : nw ≤ 8) (hq : nq ≤ 20) (hi : nt + i ≤ 50) (hg : ∀ k, k < nt + i → g k = fdF row w nt i (90 + k)) : CK (upd S 19 (nI (nt + i))) (va_up X 72 g) 0 (fdF row w nt i) nw (nt + i) nq := by
  refine ⟨?_, ?_, fun j hj k hk => ?_, ?_, fun k hk => ?_, ?_, fun k hk => ?_⟩
  · rw [pk_un (by omega), fdF_o (by omega) (by omega)]; exact h.wrongs
  · rw [pk_un (by omega), fdF_o (by omega) (by omega)]; exact h.z
  · rw [va_n (by omega), fdF_o (by omega) (by omega)]; exact h.wr j hj k hk
  · show upd S 19 (nI (nt + i)) 19 = _
    rw [pk_us, fdF_4 e4]
  · exact (congrFun va_s k).trans (hg k hk)
  · rw [pk_un (by omega), fdF_o (by omega) (by omega)]; exact h.qsz
  · rw [va_n (by omega), fdF_o (by omega) (by omega)]; exact h.wait k hk

theorem dX11_feed_0 : decode cX11_feed 0 = .ok (.iload_n 3, 1) := by decide +kernel
theorem dX11_feed_1 : decode cX11_feed 1 = .ok (.iconst 1, 1) := by decide +kernel
theorem dX11_feed_2 : decode cX11_feed 2 = .ok (.bipush 8, 2) := by decide +kernel
theorem dX11_feed_4 : decode cX11_feed 4 = .ok (.invokestatic 86, 3) := by decide +kernel
theorem dX11_feed_7 : decode cX11_feed 7 = .ok (.ifCond .ne 9, 3) := by decide +kernel
theorem dX11_feed_10 : decode cX11_feed 10 = .ok (.aload_n 0, 1) := by decide +kernel
theorem dX11_feed_11 : decode cX11_feed 11 = .ok (.iconst 1, 1) := by decide +kernel
theorem dX11_feed_12 : decode cX11_feed 12 = .ok (.invokevirtual 90, 3) := by decide +kernel
theorem dX11_feed_15 : decode cX11_feed 15 = .ok (.ireturn, 1) := by decide +kernel
theorem dX11_feed_16 : decode cX11_feed 16 = .ok (.aload_n 0, 1) := by decide +kernel
theorem dX11_feed_17 : decode cX11_feed 17 = .ok (.getfield 75, 3) := by decide +kernel
theorem dX11_feed_20 : decode cX11_feed 20 = .ok (.getfield 185, 3) := by decide +kernel
theorem dX11_feed_23 : decode cX11_feed 23 = .ok (.getfield 188, 3) := by decide +kernel
theorem dX11_feed_26 : decode cX11_feed 26 = .ok (.iload_n 3, 1) := by decide +kernel
theorem dX11_feed_27 : decode cX11_feed 27 = .ok (.iadd, 1) := by decide +kernel
theorem dX11_feed_28 : decode cX11_feed 28 = .ok (.bipush 50, 2) := by decide +kernel
theorem dX11_feed_30 : decode cX11_feed 30 = .ok (.if_icmp .le 9, 3) := by decide +kernel
theorem dX11_feed_33 : decode cX11_feed 33 = .ok (.aload_n 0, 1) := by decide +kernel
theorem dX11_feed_34 : decode cX11_feed 34 = .ok (.iconst 4, 1) := by decide +kernel
theorem dX11_feed_35 : decode cX11_feed 35 = .ok (.invokevirtual 90, 3) := by decide +kernel
theorem dX11_feed_38 : decode cX11_feed 38 = .ok (.ireturn, 1) := by decide +kernel
theorem dX11_feed_39 : decode cX11_feed 39 = .ok (.iconst 0, 1) := by decide +kernel
theorem dX11_feed_40 : decode cX11_feed 40 = .ok (.istore 4, 2) := by decide +kernel
theorem dX11_feed_42 : decode cX11_feed 42 = .ok (.iload 4, 2) := by decide +kernel
theorem dX11_feed_44 : decode cX11_feed 44 = .ok (.iload_n 3, 1) := by decide +kernel
theorem dX11_feed_45 : decode cX11_feed 45 = .ok (.if_icmp .ge 31, 3) := by decide +kernel
theorem dX11_feed_48 : decode cX11_feed 48 = .ok (.aload_n 0, 1) := by decide +kernel
theorem dX11_feed_49 : decode cX11_feed 49 = .ok (.getfield 75, 3) := by decide +kernel
theorem dX11_feed_52 : decode cX11_feed 52 = .ok (.getfield 185, 3) := by decide +kernel
theorem dX11_feed_55 : decode cX11_feed 55 = .ok (.lload_n 1, 1) := by decide +kernel
theorem dX11_feed_56 : decode cX11_feed 56 = .ok (.bipush 8, 2) := by decide +kernel
theorem dX11_feed_58 : decode cX11_feed 58 = .ok (.iload 4, 2) := by decide +kernel
theorem dX11_feed_60 : decode cX11_feed 60 = .ok (.imul, 1) := by decide +kernel
theorem dX11_feed_61 : decode cX11_feed 61 = .ok (.lushr, 1) := by decide +kernel
theorem dX11_feed_62 : decode cX11_feed 62 = .ok (.l2i, 1) := by decide +kernel
theorem dX11_feed_63 : decode cX11_feed 63 = .ok (.sipush 255, 3) := by decide +kernel
theorem dX11_feed_66 : decode cX11_feed 66 = .ok (.iand, 1) := by decide +kernel
theorem dX11_feed_67 : decode cX11_feed 67 = .ok (.invokevirtual 191, 3) := by decide +kernel
theorem dX11_feed_70 : decode cX11_feed 70 = .ok (.iinc 4 1, 3) := by decide +kernel
theorem dX11_feed_73 : decode cX11_feed 73 = .ok (.goto (-31), 3) := by decide +kernel
theorem dX11_feed_76 : decode cX11_feed 76 = .ok (.aload_n 0, 1) := by decide +kernel
theorem dX11_feed_77 : decode cX11_feed 77 = .ok (.getfield 75, 3) := by decide +kernel
theorem dX11_feed_80 : decode cX11_feed 80 = .ok (.getfield 185, 3) := by decide +kernel
theorem dX11_feed_83 : decode cX11_feed 83 = .ok (.getfield 188, 3) := by decide +kernel
theorem dX11_feed_86 : decode cX11_feed 86 = .ok (.ireturn, 1) := by decide +kernel
set_option maxHeartbeats 2000000 in
set_option maxRecDepth 20000 in
theorem k_feed {l : Launch} {D : va_G} {cI cG cW : ClassId} {q : Nat → Nat} {S : Nat → Int32} {X : Nat → Nat → Int32} {P : Nat → Nat} {w : Int64} {n : Int32} {V row kept tried bf fd pk bo so sh mv tr : Nat → Int32} {nc np nw d nt nq : Nat} (hR : RKx row nc np nw d nt nq) (hC : CR (S, X, P) (sR V row kept tried bf fd pk bo so sh mv tr)) : Ci l yX11_feed cX11_feed 5 (some .int) 3 D (tyL cI cG cW) (wC cI cG cW q) [.ref (q 0), .long w, .int n] (S, X, P) (fun r τ => r = (sp_feed V row kept tried bf fd pk bo so sh mv tr w n).1 ∧ CR τ (sp_feed V row kept tried bf fd pk bo so sh mv tr w n).2) := by
  refine Ci.of (by decide) (Nat.le_of_ble_eq_true rfl) ?_
  intro p_ e_ s_ m_ b_ M_ c_ A_ C
  replace C : Cx _ _ _ _ _ _ _ _ RX11 _ _ _ _ := C
  refine j_L [0, 1, 2] [(0, .ref (q 0)), (1, .long w), (3, .int n)] rfl ?_
  obtain ⟨hI, hW, ⟨e0, hd⟩, ⟨e4, ht⟩, ⟨e5, hq⟩, hB⟩ := id hR
  obtain ⟨⟨e2, hc2, hc10⟩, ⟨e3, hn6⟩, ⟨e8, hw8⟩, hP, hE, hLo, hT0, hT1⟩ := id hI
  have hIc := hI
  have hF : CF S X 0 row (X 44) nc np := by have h := hC.fld; rw [e2, e3, tN_nI (by omega), tN_nI (by omega)] at h; exact h
  have hK : CK S X 0 row nw nt nq := by have h := hC.kp; rw [e8, e4, e5, tN_nI (by omega), tN_nI (by omega), tN_nI (by omega)] at h; exact h
  have hS1 : S 1 = row 8 := hK.wrongs
  have hS5 : S 5 = row 2 := hF.cells
  have hS7 : S 7 = row 3 := hF.people
  refine j_iload_n C 2 dX11_feed_0 rfl ?_
  refine j_iconst C (v := (nI 1)) dX11_feed_1 (by decide) ?_
  refine j_bipush C (v := (nI 8)) dX11_feed_2 (by decide) ?_
  refine j_callS (As := [.int n, .int (nI 1), .int (nI 8)]) (rest := []) C sw11_86 (h_within) rfl (Nat.le_of_ble_eq_true rfl) dX11_feed_4 (by decide) ?_
  rintro _ _ ⟨rfl, rfl⟩
  refine j_if_ne C 16 dX11_feed_7 (by decide) (fun c7 => ?_) (fun c7 => ?_)
  · replace c7 := bI_t c7
    obtain ⟨nn, gnn, hnn, rfl⟩ := inn_lit c7 (by omega)
    refine j_aload_n C 0 dX11_feed_16 rfl ?_
    refine j_get C (v := .ref (q 1)) 0 1 rfl rfl inlC11 (by decide) kf11_75 rfl dX11_feed_17 ?_
    refine j_getN C (v := .ref (q 11)) 1 5 rfl rfl inlC3 (by decide) kf11_185 rfl dX11_feed_20 ?_
    refine j_getN C (v := .int (S 19)) 11 1 rfl rfl inlC8 (by decide) kf11_188 rfl dX11_feed_23 ?_
    refine j_v (nI nt) (hK.tsz.trans e4) ?_
    refine j_iload_n C 2 dX11_feed_26 rfl ?_
    refine j_iaddN C dX11_feed_27 ?_
    refine j_bipush C (v := (nI 50)) dX11_feed_28 (by decide) ?_
    refine j_icmp_le C 39 dX11_feed_30 (by decide) (fun c30 => ?_) (fun c30 => ?_)
    · rw [nI_leI (by omega) (by omega)] at c30
      have hfit := c30
      refine j_iconst C (v := (nI 0)) dX11_feed_39 (by decide) ?_
      refine j_istore C [(4, .int (nI 0)), (0, .ref (q 0)), (1, .long w), (3, .int (nI nn))] dX11_feed_40 (by decide) rfl ?_
      refine j_L [1, 2, 3, 0] [(0, .ref (q 0)), (1, .long w), (3, .int (nI nn)), (4, .int (nI 0))] rfl ?_
      refine j_loop (X := Nat × (Nat → Int32)) (fun (z : Nat × (Nat → Int32)) => match z with | (i, g) => i ≤ nn ∧ ∀ k, k < nt + i → g k = fdF row w nt i (90 + k)) (fun (z : Nat × (Nat → Int32)) => match z with | (i, g) => nn - i) (fun (z : Nat × (Nat → Int32)) => match z with | (i, g) => (upd S 19 (nI (nt + i)), va_up X 72 g, P)) (fun (z : Nat × (Nat → Int32)) => match z with | (i, g) => [(0, .ref (q 0)), (1, .long w), (3, .int (nI nn)), (4, .int (nI i))]) (0, X 72) (⟨Nat.zero_le _, fun k hk => hK.tape k hk⟩) (by show _ = (upd S 19 (nI (nt + 0)), va_up X 72 (X 72), P); rw [Nat.add_zero, va_self, upd_self (hK.tsz.trans e4)]) rfl ?_
      rintro ⟨i, g⟩ ⟨hi, hg⟩ ih
      try dsimp only at ih ⊢
      refine j_iload C 3 dX11_feed_42 rfl ?_
      refine j_iload_n C 2 dX11_feed_44 rfl ?_
      refine j_icmp_ge C 76 dX11_feed_45 (by decide) (fun c45 => ?_) (fun c45 => ?_)
      · rw [nI_leI (by omega) (by omega)] at c45
        refine j_aload_n C 0 dX11_feed_76 rfl ?_
        refine j_get C (v := .ref (q 1)) 0 1 rfl rfl inlC11 (by decide) kf11_75 rfl dX11_feed_77 ?_
        refine j_getN C (v := .ref (q 11)) 1 5 rfl rfl inlC3 (by decide) kf11_185 rfl dX11_feed_80 ?_
        refine j_getN C (v := .int (nI (nt + i))) 11 1 rfl rfl inlC8 (by decide) kf11_188 rfl dX11_feed_83 ?_
        refine j_iret C dX11_feed_86 ?_
        unfold sp_feed
        obtain rfl : nn = i := by omega
        rw [if_pos c7, if_pos (by rw [e4, nI_add, nI_leI (by omega) (by omega)]; exact c30), e4, nI_add, tN_nI (n := nt) (by omega), tN_nI (n := nn) (by omega)]
        exact ⟨rfl, hC.nowx (fun k hk => pk_un (by omega)) (fun k hk => va_n (by omega)) ((fdF_o (by omega) (by omega)).trans e2) ((fdF_o (by omega) (by omega)).trans e3) ((fdF_o (by omega) (by omega)).trans e8) (fdF_4 e4 nn) ((fdF_o (by omega) (by omega)).trans e5) ⟨hc10, hn6, hw8, by omega, hq⟩ (hF.cg (fun k _ _ => pk_un (by omega)) (fun k _ _ => va_n (by omega)) (fun _ _ => rfl) (fun k hk => fdF_o (by omega) (by omega)) hc10 hn6) (hK.fd e4 hw8 hq (by omega) hg) (hC.l0.st (by omega) (pk_un (by omega)) (va_n (by omega)) (fun k hk => fdF_o (by omega) (by omega))) (hC.l1.st (by omega) (pk_un (by omega)) (va_n (by omega)) (fun k hk => fdF_o (by omega) (by omega)))⟩
      · rw [nI_leI (by omega) (by omega)] at c45
        refine j_aload_n C 0 dX11_feed_48 rfl ?_
        refine j_get C (v := .ref (q 1)) 0 1 rfl rfl inlC11 (by decide) kf11_75 rfl dX11_feed_49 ?_
        refine j_getN C (v := .ref (q 11)) 1 5 rfl rfl inlC3 (by decide) kf11_185 rfl dX11_feed_52 ?_
        refine j_lload_n C 1 dX11_feed_55 rfl ?_
        refine j_bipush C (v := (nI 8)) dX11_feed_56 (by decide) ?_
        refine j_iload C 3 dX11_feed_58 rfl ?_
        refine j_imulN C dX11_feed_60 ?_
        refine j_lushr C dX11_feed_61 ?_
        refine j_l2i C dX11_feed_62 ?_
        refine j_sipush C (v := (nI 255)) dX11_feed_63 (by decide) ?_
        refine j_iand C dX11_feed_66 ?_
        refine j_v (bytF8 w i) (fd_bits w i (by omega)) ?_
        refine j_callVNv (As := [.int (bytF8 w i)]) (rest := []) C vn11_191 (h_add_0 (nt + i) pk_us (by omega)) ⟨11, 8, _, _, rfl, rfl, rfl⟩ rfl (Nat.le_of_ble_eq_true rfl) dX11_feed_67 (by decide) ?_
        rintro _ rfl
        refine j_wC (κ' := (upd S 19 (nI (nt + i + 1)), va_up X 72 (upd g (nt + i) (bytF8 w i)), P)) rfl ?_
        refine j_iinc C (v := (nI (i + 1))) 3 [(4, .int (nI (i + 1))), (0, .ref (q 0)), (1, .long w), (3, .int (nI nn))] dX11_feed_70 rfl (nI_1 _) (by decide) rfl ?_
        refine j_goto C 42 dX11_feed_73 (by decide) ?_
        refine j_L [1, 2, 3, 0] [(0, .ref (q 0)), (1, .long w), (3, .int (nI nn)), (4, .int (nI (i + 1)))] rfl ?_
        exact ih (i + 1, upd g (nt + i) (bytF8 w i)) (⟨by dsimp only; omega, fun k hk => by
      dsimp only at hk ⊢
      show upd g (nt + i) (bytF8 w i) k = upd (upd (fdF row w nt i) (90 + (nt + i)) (bytF8 w i)) 4 (nI (nt + i + 1)) (90 + k)
      rw [pk_un (show ¬ 90 + k = 4 by omega)]
      by_cases e : k = nt + i
      · subst e; rw [pk_us, pk_us]
      · rw [pk_un e, pk_un (by omega)]; exact hg k (by omega)⟩) (by dsimp only; omega)
    · rw [nI_leI (by omega) (by omega)] at c30
      refine j_aload_n C 0 dX11_feed_33 rfl ?_
      refine j_iconst C (v := (nI 4)) dX11_feed_34 (by decide) ?_
      refine j_callV (As := [.int (nI 4)]) (rest := []) C vw11_90 (h_error 4 (by decide)) ⟨0, 11, _, _, rfl, rfl, rfl⟩ rfl (Nat.le_of_ble_eq_true rfl) dX11_feed_35 (by decide) ?_
      rintro _ _ ⟨rfl, rfl⟩
      refine j_iret C dX11_feed_38 ?_
      unfold sp_feed
      rw [if_pos c7, if_neg (by rw [e4, nI_add, nI_leI (by omega) (by omega)]; exact c30)]
      exact ⟨show (-1000000000 : Int32) - nI 4 = -1000000004 from by decide, hC.er 4⟩
  · replace c7 := bI_f c7
    refine j_aload_n C 0 dX11_feed_10 rfl ?_
    refine j_iconst C (v := (nI 1)) dX11_feed_11 (by decide) ?_
    refine j_callV (As := [.int (nI 1)]) (rest := []) C vw11_90 (h_error 1 (by decide)) ⟨0, 11, _, _, rfl, rfl, rfl⟩ rfl (Nat.le_of_ble_eq_true rfl) dX11_feed_12 (by decide) ?_
    rintro _ _ ⟨rfl, rfl⟩
    refine j_iret C dX11_feed_15 ?_
    unfold sp_feed
    rw [if_neg c7]
    exact ⟨show (-1000000000 : Int32) - nI 1 = -1000000001 from by decide, hC.er 1⟩
def bs1 (V row : Nat → Int32) (np nw p n c : Nat) : Nat := (bsF V row np nw p n c).1
def bs2 (V row : Nat → Int32) (np nw p n c : Nat) : Int32 := (bsF V row np nw p n c).2
theorem dX11_best_0 : decode cX11_best 0 = .ok (.aload_n 0, 1) := by decide +kernel
theorem dX11_best_1 : decode cX11_best 1 = .ok (.iload_n 1, 1) := by decide +kernel
theorem dX11_best_2 : decode cX11_best 2 = .ok (.invokevirtual 123, 3) := by decide +kernel
theorem dX11_best_5 : decode cX11_best 5 = .ok (.ifCond .eq 22, 3) := by decide +kernel
theorem dX11_best_8 : decode cX11_best 8 = .ok (.iload_n 2, 1) := by decide +kernel
theorem dX11_best_9 : decode cX11_best 9 = .ok (.iconst 0, 1) := by decide +kernel
theorem dX11_best_10 : decode cX11_best 10 = .ok (.bipush 60, 2) := by decide +kernel
theorem dX11_best_12 : decode cX11_best 12 = .ok (.invokestatic 86, 3) := by decide +kernel
theorem dX11_best_15 : decode cX11_best 15 = .ok (.ifCond .eq 12, 3) := by decide +kernel
theorem dX11_best_18 : decode cX11_best 18 = .ok (.iload_n 3, 1) := by decide +kernel
theorem dX11_best_19 : decode cX11_best 19 = .ok (.iconst 0, 1) := by decide +kernel
theorem dX11_best_20 : decode cX11_best 20 = .ok (.iconst 1, 1) := by decide +kernel
theorem dX11_best_21 : decode cX11_best 21 = .ok (.invokestatic 86, 3) := by decide +kernel
theorem dX11_best_24 : decode cX11_best 24 = .ok (.ifCond .ne 9, 3) := by decide +kernel
theorem dX11_best_27 : decode cX11_best 27 = .ok (.aload_n 0, 1) := by decide +kernel
theorem dX11_best_28 : decode cX11_best 28 = .ok (.iconst 1, 1) := by decide +kernel
theorem dX11_best_29 : decode cX11_best 29 = .ok (.invokevirtual 90, 3) := by decide +kernel
theorem dX11_best_32 : decode cX11_best 32 = .ok (.ireturn, 1) := by decide +kernel
theorem dX11_best_33 : decode cX11_best 33 = .ok (.iconst 0, 1) := by decide +kernel
theorem dX11_best_34 : decode cX11_best 34 = .ok (.istore 4, 2) := by decide +kernel
theorem dX11_best_36 : decode cX11_best 36 = .ok (.iconst (-1), 1) := by decide +kernel
theorem dX11_best_37 : decode cX11_best 37 = .ok (.istore 5, 2) := by decide +kernel
theorem dX11_best_39 : decode cX11_best 39 = .ok (.iconst 0, 1) := by decide +kernel
theorem dX11_best_40 : decode cX11_best 40 = .ok (.istore 6, 2) := by decide +kernel
theorem dX11_best_42 : decode cX11_best 42 = .ok (.iload 6, 2) := by decide +kernel
theorem dX11_best_44 : decode cX11_best 44 = .ok (.aload_n 0, 1) := by decide +kernel
theorem dX11_best_45 : decode cX11_best 45 = .ok (.getfield 75, 3) := by decide +kernel
theorem dX11_best_48 : decode cX11_best 48 = .ok (.getfield 94, 3) := by decide +kernel
theorem dX11_best_51 : decode cX11_best 51 = .ok (.getfield 100, 3) := by decide +kernel
theorem dX11_best_54 : decode cX11_best 54 = .ok (.if_icmp .ge 76, 3) := by decide +kernel
theorem dX11_best_57 : decode cX11_best 57 = .ok (.aload_n 0, 1) := by decide +kernel
theorem dX11_best_58 : decode cX11_best 58 = .ok (.iconst 0, 1) := by decide +kernel
theorem dX11_best_59 : decode cX11_best 59 = .ok (.invokevirtual 225, 3) := by decide +kernel
theorem dX11_best_62 : decode cX11_best 62 = .ok (.aload_n 0, 1) := by decide +kernel
theorem dX11_best_63 : decode cX11_best 63 = .ok (.getfield 79, 3) := by decide +kernel
theorem dX11_best_66 : decode cX11_best 66 = .ok (.getfield 136, 3) := by decide +kernel
theorem dX11_best_69 : decode cX11_best 69 = .ok (.iload_n 1, 1) := by decide +kernel
theorem dX11_best_70 : decode cX11_best 70 = .ok (.iload 6, 2) := by decide +kernel
theorem dX11_best_72 : decode cX11_best 72 = .ok (.iastore, 1) := by decide +kernel
theorem dX11_best_73 : decode cX11_best 73 = .ok (.iconst 0, 1) := by decide +kernel
theorem dX11_best_74 : decode cX11_best 74 = .ok (.istore 7, 2) := by decide +kernel
theorem dX11_best_76 : decode cX11_best 76 = .ok (.iload 7, 2) := by decide +kernel
theorem dX11_best_78 : decode cX11_best 78 = .ok (.iload_n 2, 1) := by decide +kernel
theorem dX11_best_79 : decode cX11_best 79 = .ok (.if_icmp .ge 16, 3) := by decide +kernel
theorem dX11_best_82 : decode cX11_best 82 = .ok (.aload_n 0, 1) := by decide +kernel
theorem dX11_best_83 : decode cX11_best 83 = .ok (.getfield 79, 3) := by decide +kernel
theorem dX11_best_86 : decode cX11_best 86 = .ok (.invokevirtual 215, 3) := by decide +kernel
theorem dX11_best_89 : decode cX11_best 89 = .ok (.iinc 7 1, 3) := by decide +kernel
theorem dX11_best_92 : decode cX11_best 92 = .ok (.goto (-16), 3) := by decide +kernel
theorem dX11_best_95 : decode cX11_best 95 = .ok (.aload_n 0, 1) := by decide +kernel
theorem dX11_best_96 : decode cX11_best 96 = .ok (.getfield 79, 3) := by decide +kernel
theorem dX11_best_99 : decode cX11_best 99 = .ok (.getfield 142, 3) := by decide +kernel
theorem dX11_best_102 : decode cX11_best 102 = .ok (.iload_n 1, 1) := by decide +kernel
theorem dX11_best_103 : decode cX11_best 103 = .ok (.iaload, 1) := by decide +kernel
theorem dX11_best_104 : decode cX11_best 104 = .ok (.iload 5, 2) := by decide +kernel
theorem dX11_best_106 : decode cX11_best 106 = .ok (.if_icmp .le 18, 3) := by decide +kernel
theorem dX11_best_109 : decode cX11_best 109 = .ok (.aload_n 0, 1) := by decide +kernel
theorem dX11_best_110 : decode cX11_best 110 = .ok (.getfield 79, 3) := by decide +kernel
theorem dX11_best_113 : decode cX11_best 113 = .ok (.getfield 142, 3) := by decide +kernel
theorem dX11_best_116 : decode cX11_best 116 = .ok (.iload_n 1, 1) := by decide +kernel
theorem dX11_best_117 : decode cX11_best 117 = .ok (.iaload, 1) := by decide +kernel
theorem dX11_best_118 : decode cX11_best 118 = .ok (.istore 5, 2) := by decide +kernel
theorem dX11_best_120 : decode cX11_best 120 = .ok (.iload 6, 2) := by decide +kernel
theorem dX11_best_122 : decode cX11_best 122 = .ok (.istore 4, 2) := by decide +kernel
theorem dX11_best_124 : decode cX11_best 124 = .ok (.iinc 6 1, 3) := by decide +kernel
theorem dX11_best_127 : decode cX11_best 127 = .ok (.goto (-85), 3) := by decide +kernel
theorem dX11_best_130 : decode cX11_best 130 = .ok (.iload_n 3, 1) := by decide +kernel
theorem dX11_best_131 : decode cX11_best 131 = .ok (.ifCond .ne 8, 3) := by decide +kernel
theorem dX11_best_134 : decode cX11_best 134 = .ok (.iload 4, 2) := by decide +kernel
theorem dX11_best_136 : decode cX11_best 136 = .ok (.goto 5, 3) := by decide +kernel
theorem dX11_best_139 : decode cX11_best 139 = .ok (.iload 5, 2) := by decide +kernel
theorem dX11_best_141 : decode cX11_best 141 = .ok (.ireturn, 1) := by decide +kernel
set_option maxHeartbeats 2000000 in
set_option maxRecDepth 20000 in
theorem k_best {l : Launch} {D : va_G} {cI cG cW : ClassId} {q : Nat → Nat} {S : Nat → Int32} {X : Nat → Nat → Int32} {P : Nat → Nat} {p n what : Int32} {V row kept tried bf fd pk bo so sh mv tr : Nat → Int32} {nc np nw d nt nq : Nat} (hR : RKx row nc np nw d nt nq) (hC : CR (S, X, P) (sR V row kept tried bf fd pk bo so sh mv tr)) (hV15 : V 15 = 0) (hV16 : V 16 = -1) (hV18 : V 18 = -1) : Ci l yX11_best cX11_best 8 (some .int) 9 D (tyL cI cG cW) (wC cI cG cW q) [.ref (q 0), .int p, .int n, .int what] (S, X, P) (fun r τ => r = (sp_best V row kept tried bf fd pk bo so sh mv tr p n what).1 ∧ CR τ (sp_best V row kept tried bf fd pk bo so sh mv tr p n what).2) := by
  refine Ci.of (by decide) (Nat.le_of_ble_eq_true rfl) ?_
  intro p_ e_ s_ m_ b_ M_ c_ A_ C
  replace C : Cx _ _ _ _ _ _ _ _ RX11 _ _ _ _ := C
  refine j_L [0, 1, 2, 3] [(0, .ref (q 0)), (1, .int p), (2, .int n), (3, .int what)] rfl ?_
  obtain ⟨hI, hW, ⟨e0, hd⟩, ⟨e4, ht⟩, ⟨e5, hq⟩, hB⟩ := id hR
  obtain ⟨⟨e2, hc2, hc10⟩, ⟨e3, hn6⟩, ⟨e8, hw8⟩, hP, hE, hLo, hT0, hT1⟩ := id hI
  have hIc := hI
  have hF : CF S X 0 row (X 44) nc np := by have h := hC.fld; rw [e2, e3, tN_nI (by omega), tN_nI (by omega)] at h; exact h
  have hK : CK S X 0 row nw nt nq := by have h := hC.kp; rw [e8, e4, e5, tN_nI (by omega), tN_nI (by omega), tN_nI (by omega)] at h; exact h
  have hS1 : S 1 = row 8 := hK.wrongs
  have hS5 : S 5 = row 2 := hF.cells
  have hS7 : S 7 = row 3 := hF.people
  refine j_aload_n C 0 dX11_best_0 rfl ?_
  refine j_iload_n C 1 dX11_best_1 rfl ?_
  refine j_callV (As := [.int p]) (rest := []) C vw11_123 (h_isPerson) ⟨0, 11, _, _, rfl, rfl, rfl⟩ rfl (Nat.le_of_ble_eq_true rfl) dX11_best_2 (by decide) ?_
  rintro _ _ ⟨rfl, rfl⟩
  refine j_v (bI (inn p 0 (row 3 - 1))) (by rw [hS7]) ?_
  refine j_if_eq C 27 dX11_best_5 (by decide) (fun c5 => ?_) (fun c5 => ?_)
  · replace c5 := bI_f c5
    refine j_aload_n C 0 dX11_best_27 rfl ?_
    refine j_iconst C (v := (nI 1)) dX11_best_28 (by decide) ?_
    refine j_callV (As := [.int (nI 1)]) (rest := []) C vw11_90 (h_error 1 (by decide)) ⟨0, 11, _, _, rfl, rfl, rfl⟩ rfl (Nat.le_of_ble_eq_true rfl) dX11_best_29 (by decide) ?_
    rintro _ _ ⟨rfl, rfl⟩
    refine j_iret C dX11_best_32 ?_
    unfold sp_best
    rw [if_neg (fun h => c5 h.1)]
    exact ⟨show (-1000000000 : Int32) - nI 1 = -1000000001 from by decide, hC.er 1⟩
  · replace c5 := bI_t c5
    obtain ⟨pn, hpn, rfl⟩ := inn_row c5 e3 (by omega)
    refine j_iload_n C 2 dX11_best_8 rfl ?_
    refine j_iconst C (v := (nI 0)) dX11_best_9 (by decide) ?_
    refine j_bipush C (v := (nI 60)) dX11_best_10 (by decide) ?_
    refine j_callS (As := [.int n, .int (nI 0), .int (nI 60)]) (rest := []) C sw11_86 (h_within) rfl (Nat.le_of_ble_eq_true rfl) dX11_best_12 (by decide) ?_
    rintro _ _ ⟨rfl, rfl⟩
    refine j_if_eq C 27 dX11_best_15 (by decide) (fun c15 => ?_) (fun c15 => ?_)
    · replace c15 := bI_f c15
      refine j_aload_n C 0 dX11_best_27 rfl ?_
      refine j_iconst C (v := (nI 1)) dX11_best_28 (by decide) ?_
      refine j_callV (As := [.int (nI 1)]) (rest := []) C vw11_90 (h_error 1 (by decide)) ⟨0, 11, _, _, rfl, rfl, rfl⟩ rfl (Nat.le_of_ble_eq_true rfl) dX11_best_29 (by decide) ?_
      rintro _ _ ⟨rfl, rfl⟩
      refine j_iret C dX11_best_32 ?_
      unfold sp_best
      rw [if_neg (fun h => c15 h.2.1)]
      exact ⟨show (-1000000000 : Int32) - nI 1 = -1000000001 from by decide, hC.er 1⟩
    · replace c15 := bI_t c15
      obtain ⟨nn, gnn, hnn, rfl⟩ := inn_lit c15 (by omega)
      refine j_iload_n C 3 dX11_best_18 rfl ?_
      refine j_iconst C (v := (nI 0)) dX11_best_19 (by decide) ?_
      refine j_iconst C (v := (nI 1)) dX11_best_20 (by decide) ?_
      refine j_callS (As := [.int what, .int (nI 0), .int (nI 1)]) (rest := []) C sw11_86 (h_within) rfl (Nat.le_of_ble_eq_true rfl) dX11_best_21 (by decide) ?_
      rintro _ _ ⟨rfl, rfl⟩
      refine j_if_ne C 33 dX11_best_24 (by decide) (fun c24 => ?_) (fun c24 => ?_)
      · replace c24 := bI_t c24
        obtain ⟨wn, gwn, hwn, rfl⟩ := inn_lit c24 (by omega)
        refine j_iconst C (v := (nI 0)) dX11_best_33 (by decide) ?_
        refine j_istore C [(4, .int (nI 0)), (0, .ref (q 0)), (1, .int (nI pn)), (2, .int (nI nn)), (3, .int (nI wn))] dX11_best_34 (by decide) rfl ?_
        refine j_iconst C (v := (-1)) dX11_best_36 (by decide) ?_
        refine j_istore C [(5, .int (-1)), (4, .int (nI 0)), (0, .ref (q 0)), (1, .int (nI pn)), (2, .int (nI nn)), (3, .int (nI wn))] dX11_best_37 (by decide) rfl ?_
        refine j_iconst C (v := (nI 0)) dX11_best_39 (by decide) ?_
        refine j_istore C [(6, .int (nI 0)), (5, .int (-1)), (4, .int (nI 0)), (0, .ref (q 0)), (1, .int (nI pn)), (2, .int (nI nn)), (3, .int (nI wn))] dX11_best_40 (by decide) rfl ?_
        refine j_L [3, 4, 5, 6, 2, 1, 0] [(0, .ref (q 0)), (1, .int (nI pn)), (2, .int (nI nn)), (3, .int (nI wn)), (4, .int (nI 0)), (5, .int (-1)), (6, .int (nI 0))] rfl ?_
        refine j_loop (X := Nat × (Nat → Int32) × (Nat → Nat → Int32)) (fun (z : Nat × (Nat → Int32) × (Nat → Nat → Int32)) => match z with | (c, T, Y) => c ≤ nc ∧ FrT T Y S X) (fun (z : Nat × (Nat → Int32) × (Nat → Nat → Int32)) => match z with | (c, T, Y) => nc - c) (fun (z : Nat × (Nat → Int32) × (Nat → Nat → Int32)) => match z with | (c, T, Y) => (T, Y, P)) (fun (z : Nat × (Nat → Int32) × (Nat → Nat → Int32)) => match z with | (c, T, Y) => [(0, .ref (q 0)), (1, .int (nI pn)), (2, .int (nI nn)), (3, .int (nI wn)), (4, .int (nI (bs1 V row np nw pn nn c))), (5, .int (bs2 V row np nw pn nn c)), (6, .int (nI c))]) (0, S, X) (⟨Nat.zero_le _, FrT.rf⟩) rfl rfl ?_
        rintro ⟨c, T, Y⟩ ⟨hi, hT⟩ ih
        try dsimp only at ih ⊢
        refine j_iload C 6 dX11_best_42 rfl ?_
        refine j_aload_n C 0 dX11_best_44 rfl ?_
        refine j_get C (v := .ref (q 1)) 0 1 rfl rfl inlC11 (by decide) kf11_75 rfl dX11_best_45 ?_
        refine j_getN C (v := .ref (q 3)) 1 0 rfl rfl inlC3 (by decide) kf11_94 rfl dX11_best_48 ?_
        refine j_getN C (v := .int (T 5)) 3 0 rfl rfl inlC1 (by decide) kf11_100 rfl dX11_best_51 ?_
        refine j_v (nI nc) ((hT.1 5 (by omega)).trans (hS5.trans e2)) ?_
        refine j_icmp_ge C 130 dX11_best_54 (by decide) (fun c54 => ?_) (fun c54 => ?_)
        · rw [nI_leI (by omega) (by omega)] at c54
          refine j_iload_n C 3 dX11_best_130 rfl ?_
          refine j_if_ne C 139 dX11_best_131 (by decide) (fun c131 => ?_) (fun c131 => ?_)
          · rw [show (0 : Int32) = nI 0 from rfl, nI_eq (by omega) (by omega)] at c131
            refine j_iload C 5 dX11_best_139 rfl ?_
            refine j_iret C dX11_best_141 ?_
            unfold sp_best
            rw [if_pos ⟨c5, c15, c24⟩, tN_nI (n := pn) (by omega), tN_nI (n := nn) (by omega), e3, e8, e2, tN_nI (n := np) (by omega), tN_nI (n := nw) (by omega), tN_nI (n := nc) (by omega), show nc = c by omega]
            rw [if_neg (nI_ne0 (by omega) (by omega))]
            exact ⟨rfl, hC.th hT⟩
          · rw [show (0 : Int32) = nI 0 from rfl, nI_eq (by omega) (by omega)] at c131
            refine j_iload C 4 dX11_best_134 rfl ?_
            refine j_goto C 141 dX11_best_136 (by decide) ?_
            refine j_iret C dX11_best_141 ?_
            unfold sp_best
            rw [if_pos ⟨c5, c15, c24⟩, tN_nI (n := pn) (by omega), tN_nI (n := nn) (by omega), e3, e8, e2, tN_nI (n := np) (by omega), tN_nI (n := nw) (by omega), tN_nI (n := nc) (by omega), show nc = c by omega]
            rw [if_pos (by rw [show wn = 0 by omega]; rfl)]
            exact ⟨rfl, hC.th hT⟩
        · rw [nI_leI (by omega) (by omega)] at c54
          refine j_aload_n C 0 dX11_best_57 rfl ?_
          refine j_iconst C (v := (nI 0)) dX11_best_58 (by decide) ?_
          refine j_callVv (As := [.int (nI 0)]) (rest := []) C vw11_225 (h_imagine (hF.ft hT) hI (hK.ft hT) hW 0 (by omega)) ⟨0, 11, _, _, rfl, rfl, rfl⟩ rfl (Nat.le_of_ble_eq_true rfl) dX11_best_59 (by decide) ?_
          rintro _ ⟨S0, X0, rfl, hF2w, hT0⟩
          have hTT := hT0.tr hT
          have hF2 := hF2w.wc (wt_wv (V := V) (nw := nw) hV15 hV16 hV18 hn6)
          refine j_aload_n C 0 dX11_best_62 rfl ?_
          refine j_get C (v := .ref (q 5)) 0 3 rfl rfl inlC11 (by decide) kf11_79 rfl dX11_best_63 ?_
          refine j_getN C (v := .ref (q 60)) 5 7 rfl rfl inlC1 (by decide) kf11_136 rfl dX11_best_66 ?_
          refine j_iload_n C 1 dX11_best_69 rfl ?_
          refine j_iload C 6 dX11_best_70 rfl ?_
          refine j_iastN C 60 0 rfl rfl pn rfl (by omega) (by decide) dX11_best_72 (S0, va_up X0 60 (upd (X0 60) pn (nI c)), P) rfl ?_
          refine j_iconst C (v := (nI 0)) dX11_best_73 (by decide) ?_
          refine j_istore C [(7, .int (nI 0)), (0, .ref (q 0)), (1, .int (nI pn)), (2, .int (nI nn)), (3, .int (nI wn)), (4, .int (nI (bs1 V row np nw pn nn c))), (5, .int (bs2 V row np nw pn nn c)), (6, .int (nI c))] dX11_best_74 (by decide) rfl ?_
          refine j_L [1, 2, 3, 4, 5, 6, 7, 0] [(0, .ref (q 0)), (1, .int (nI pn)), (2, .int (nI nn)), (3, .int (nI wn)), (4, .int (nI (bs1 V row np nw pn nn c))), (5, .int (bs2 V row np nw pn nn c)), (6, .int (nI c)), (7, .int (nI 0))] rfl ?_
          refine j_loop (X := Nat × (Nat → Int32) × (Nat → Nat → Int32)) (fun (z : Nat × (Nat → Int32) × (Nat → Nat → Int32)) => match z with | (i, T2, Y2) => i ≤ nn ∧ CF T2 Y2 2 (dawnsF np (wv V row nw) (upd row (30 + 6 * pn + 2) (nI c)) i) (wv V row nw) nc np ∧ FrT T2 Y2 S X) (fun (z : Nat × (Nat → Int32) × (Nat → Nat → Int32)) => match z with | (i, T2, Y2) => nn - i) (fun (z : Nat × (Nat → Int32) × (Nat → Nat → Int32)) => match z with | (i, T2, Y2) => (T2, Y2, P)) (fun (z : Nat × (Nat → Int32) × (Nat → Nat → Int32)) => match z with | (i, T2, Y2) => [(0, .ref (q 0)), (1, .int (nI pn)), (2, .int (nI nn)), (3, .int (nI wn)), (4, .int (nI (bs1 V row np nw pn nn c))), (5, .int (bs2 V row np nw pn nn c)), (6, .int (nI c)), (7, .int (nI i))]) (0, S0, va_up X0 60 (upd (X0 60) pn (nI c))) (⟨Nat.zero_le _, hF2.setP hc10 2 (by omega) pn (nI c), hTT.up (by omega)⟩) rfl rfl ?_
          rintro ⟨i, T2, Y2⟩ ⟨hi2, hG, hT2⟩ ih2
          try dsimp only at ih2 ⊢
          have hIF := dawns_IF (wv V row nw) (Iv_at hI (p := pn) (c := c) (by omega) (by omega)) i
          refine j_iload C 7 dX11_best_76 rfl ?_
          refine j_iload_n C 2 dX11_best_78 rfl ?_
          refine j_icmp_ge C 95 dX11_best_79 (by decide) (fun c79 => ?_) (fun c79 => ?_)
          · rw [nI_leI (by omega) (by omega)] at c79
            refine j_aload_n C 0 dX11_best_95 rfl ?_
            refine j_get C (v := .ref (q 5)) 0 3 rfl rfl inlC11 (by decide) kf11_79 rfl dX11_best_96 ?_
            refine j_getN C (v := .ref (q 62)) 5 9 rfl rfl inlC1 (by decide) kf11_142 rfl dX11_best_99 ?_
            refine j_iload_n C 1 dX11_best_102 rfl ?_
            refine j_ialdN C 62 0 rfl rfl pn rfl (by omega) (by decide) dX11_best_103 ?_
            refine j_v (bsV V row np nw pn nn c) ((hG.per 4 (by omega) pn (by omega)).trans (by unfold bsV; rw [show nn = i by omega])) ?_
            refine j_iload C 5 dX11_best_104 rfl ?_
            refine j_icmp_le C 124 dX11_best_106 (by decide) (fun c106 => ?_) (fun c106 => ?_)
            · skip
              refine j_iinc C (v := (nI (c + 1))) 6 [(6, .int (nI (c + 1))), (0, .ref (q 0)), (1, .int (nI pn)), (2, .int (nI nn)), (3, .int (nI wn)), (4, .int (nI (bs1 V row np nw pn nn c))), (5, .int (bs2 V row np nw pn nn c)), (7, .int (nI i))] dX11_best_124 rfl (nI_1 _) (by decide) rfl ?_
              refine j_goto C 42 dX11_best_127 (by decide) ?_
              have hb0 : bsF V row np nw pn nn (c + 1) = bsF V row np nw pn nn c := if_neg (lnl c106)
              have hb1 : bs1 V row np nw pn nn (c + 1) = bs1 V row np nw pn nn c := congrArg (fun z => z.1) hb0
              have hb2 : bs2 V row np nw pn nn (c + 1) = bs2 V row np nw pn nn c := congrArg (fun z => z.2) hb0
              have hih := ih (c + 1, T2, Y2) ⟨by dsimp only; omega, hT2⟩ (by dsimp only; omega)
              dsimp only at hih
              rw [hb1, hb2] at hih
              refine j_L [1, 2, 3, 4, 5, 6, 0] [(0, .ref (q 0)), (1, .int (nI pn)), (2, .int (nI nn)), (3, .int (nI wn)), (4, .int (nI (bs1 V row np nw pn nn c))), (5, .int (bs2 V row np nw pn nn c)), (6, .int (nI (c + 1)))] rfl ?_
              exact hih
            · skip
              refine j_aload_n C 0 dX11_best_109 rfl ?_
              refine j_get C (v := .ref (q 5)) 0 3 rfl rfl inlC11 (by decide) kf11_79 rfl dX11_best_110 ?_
              refine j_getN C (v := .ref (q 62)) 5 9 rfl rfl inlC1 (by decide) kf11_142 rfl dX11_best_113 ?_
              refine j_iload_n C 1 dX11_best_116 rfl ?_
              refine j_ialdN C 62 0 rfl rfl pn rfl (by omega) (by decide) dX11_best_117 ?_
              refine j_v (bsV V row np nw pn nn c) ((hG.per 4 (by omega) pn (by omega)).trans (by unfold bsV; rw [show nn = i by omega])) ?_
              refine j_istore C [(5, .int (bsV V row np nw pn nn c)), (0, .ref (q 0)), (1, .int (nI pn)), (2, .int (nI nn)), (3, .int (nI wn)), (4, .int (nI (bs1 V row np nw pn nn c))), (6, .int (nI c)), (7, .int (nI i))] dX11_best_118 (by decide) rfl ?_
              refine j_iload C 6 dX11_best_120 rfl ?_
              refine j_istore C [(4, .int (nI c)), (5, .int (bsV V row np nw pn nn c)), (0, .ref (q 0)), (1, .int (nI pn)), (2, .int (nI nn)), (3, .int (nI wn)), (6, .int (nI c)), (7, .int (nI i))] dX11_best_122 (by decide) rfl ?_
              refine j_iinc C (v := (nI (c + 1))) 6 [(6, .int (nI (c + 1))), (4, .int (nI c)), (5, .int (bsV V row np nw pn nn c)), (0, .ref (q 0)), (1, .int (nI pn)), (2, .int (nI nn)), (3, .int (nI wn)), (7, .int (nI i))] dX11_best_124 rfl (nI_1 _) (by decide) rfl ?_
              refine j_goto C 42 dX11_best_127 (by decide) ?_
              have hb0 : bsF V row np nw pn nn (c + 1) = (c, bsV V row np nw pn nn c) := if_pos (nle c106)
              have hb1 : bs1 V row np nw pn nn (c + 1) = c := congrArg (fun z => z.1) hb0
              have hb2 : bs2 V row np nw pn nn (c + 1) = bsV V row np nw pn nn c := congrArg (fun z => z.2) hb0
              have hih := ih (c + 1, T2, Y2) ⟨by dsimp only; omega, hT2⟩ (by dsimp only; omega)
              dsimp only at hih
              rw [hb1, hb2] at hih
              refine j_L [3, 4, 5, 6, 1, 2, 0] [(0, .ref (q 0)), (1, .int (nI pn)), (2, .int (nI nn)), (3, .int (nI wn)), (4, .int (nI c)), (5, .int (bsV V row np nw pn nn c)), (6, .int (nI (c + 1)))] rfl ?_
              exact hih
          · rw [nI_leI (by omega) (by omega)] at c79
            refine j_aload_n C 0 dX11_best_82 rfl ?_
            refine j_get C (v := .ref (q 5)) 0 3 rfl rfl inlC11 (by decide) kf11_79 rfl dX11_best_83 ?_
            refine j_callVNv (As := []) (rest := []) C vn11_215 (h_pass_2 hG hIF.1 (hC.l0.ft (by omega) (by omega) hT2 (hIF.2.tr (FR_p (by omega) (by omega) (by omega)))) (hC.l1.ft (by omega) (by omega) hT2 (hIF.2.tr (FR_p (by omega) (by omega) (by omega))))) ⟨5, 1, _, _, rfl, rfl, rfl⟩ rfl (Nat.le_of_ble_eq_true rfl) dX11_best_86 (by decide) ?_
            rintro _ ⟨T1, Y1, rfl, hG1, hD1, hX1, hk1⟩
            refine j_iinc C (v := (nI (i + 1))) 7 [(7, .int (nI (i + 1))), (0, .ref (q 0)), (1, .int (nI pn)), (2, .int (nI nn)), (3, .int (nI wn)), (4, .int (nI (bs1 V row np nw pn nn c))), (5, .int (bs2 V row np nw pn nn c)), (6, .int (nI c))] dX11_best_89 rfl (nI_1 _) (by decide) rfl ?_
            refine j_goto C 76 dX11_best_92 (by decide) ?_
            refine j_L [1, 2, 3, 4, 5, 6, 7, 0] [(0, .ref (q 0)), (1, .int (nI pn)), (2, .int (nI nn)), (3, .int (nI wn)), (4, .int (nI (bs1 V row np nw pn nn c))), (5, .int (bs2 V row np nw pn nn c)), (6, .int (nI c)), (7, .int (nI (i + 1)))] rfl ?_
            exact ih2 (i + 1, T1, Y1) (⟨by dsimp only; omega, hG1, (FrT.dn hD1 hX1).tr hT2⟩) (by dsimp only; omega)
      · replace c24 := bI_f c24
        refine j_aload_n C 0 dX11_best_27 rfl ?_
        refine j_iconst C (v := (nI 1)) dX11_best_28 (by decide) ?_
        refine j_callV (As := [.int (nI 1)]) (rest := []) C vw11_90 (h_error 1 (by decide)) ⟨0, 11, _, _, rfl, rfl, rfl⟩ rfl (Nat.le_of_ble_eq_true rfl) dX11_best_29 (by decide) ?_
        rintro _ _ ⟨rfl, rfl⟩
        refine j_iret C dX11_best_32 ?_
        unfold sp_best
        rw [if_neg (fun h => c24 h.2.2)]
        exact ⟨show (-1000000000 : Int32) - nI 1 = -1000000001 from by decide, hC.er 1⟩
theorem br_w {V row g : Nat → Int32} {nw np pn b : Nat} (h15 : V 15 = 0) (h16 : V 16 = -1) (hn : np ≤ 6) (hpn : pn < np) (hg : ∀ p, p < np → g p = wtF row nw (nI 0) p) : ∀ p, p < np → upd g pn (nI b) p = wv (brV V pn (nI b)) row nw p := by
  intro p hp
  have a18 : brV V pn (nI b) 18 = nI pn := by show upd (upd V 18 (nI pn)) 19 (nI b) 18 = _; rw [pk_un (by omega), pk_us]
  have a15 : brV V pn (nI b) 15 = 0 := by show upd (upd V 18 (nI pn)) 19 (nI b) 15 = _; rw [pk_un (by omega), pk_un (by omega), h15]
  have a16 : brV V pn (nI b) 16 = -1 := by show upd (upd V 18 (nI pn)) 19 (nI b) 16 = _; rw [pk_un (by omega), pk_un (by omega), h16]
  have a19 : brV V pn (nI b) 19 = nI b := pk_us
  by_cases e : p = pn
  · subst e
    rw [pk_us]; unfold wv wS
    rw [a18, a19, if_pos rfl]
  · rw [pk_un e, hg p hp, wv_wt (V := brV V pn (nI b)) (by rw [a18, nI_eq (by omega) (by omega)]; exact e) (by rw [a16]; exact nI_m1 (by omega)), a15]; rfl
theorem wg_b : ∀ b, b < 100 → nI 99 - nI (99 - b) = nI b := by decide +kernel
theorem brF_b (V row sh : Nat → Int32) (np nw p s z : Nat) {b : Nat} (hb : b < 100) : brF V row sh np nw p s z (100 - b) = if brP V row sh np nw p s z (nI b) then ((brF V row sh np nw p s z (100 - (b + 1))).1 + 1, nI b) else brF V row sh np nw p s z (100 - (b + 1)) := by
  have e1 : 100 - b = (99 - b) + 1 := by omega
  have e2 : 100 - (b + 1) = 99 - b := by omega
  rw [e1, e2, brF, wg_b b hb]
/-- the class counts upwards, the reference downwards -/
def brI (V row sh : Nat → Int32) (np nw p s z b m : Nat) (ls : Int32) : Prop := m ≤ b ∧ m + (brF V row sh np nw p s z (100 - b)).1 = (brF V row sh np nw p s z 100).1 ∧ ((m = 0 ∧ ls = -1 ∧ brF V row sh np nw p s z 100 = brF V row sh np nw p s z (100 - b)) ∨ (0 < m ∧ ∃ j : Nat, j < 100 ∧ ls = nI j ∧ (brF V row sh np nw p s z 100).2 = nI j))
theorem brI_no {V row sh : Nat → Int32} {np nw p s z b m : Nat} {ls : Int32} (h : brI V row sh np nw p s z b m ls) (hb : b < 100) (hn : ¬ brP V row sh np nw p s z (nI b)) : brI V row sh np nw p s z (b + 1) m ls := by
  obtain ⟨h1, h2, h3⟩ := h
  rw [brF_b V row sh np nw p s z hb, if_neg hn] at h2 h3
  exact ⟨by omega, h2, h3⟩
theorem brI_0 {V row sh : Nat → Int32} {np nw p s z b m : Nat} {ls : Int32} (h : brI V row sh np nw p s z b m ls) (hb : b < 100) (hy : brP V row sh np nw p s z (nI b)) (hl : ls < 0) : brI V row sh np nw p s z (b + 1) (m + 1) (nI b) := by
  obtain ⟨h1, h2, h3⟩ := h
  rcases h3 with ⟨rfl, -, h3⟩ | ⟨-, j, hj, e, -⟩
  · rw [brF_b V row sh np nw p s z hb, if_pos hy] at h3
    exact ⟨by omega, by rw [h3]; dsimp only; omega, Or.inr ⟨by omega, b, hb, rfl, by rw [h3]⟩⟩
  · rw [e] at hl; exact absurd hl (nI_pos (n := j) (by omega))
theorem brI_1 {V row sh : Nat → Int32} {np nw p s z b m : Nat} {ls : Int32} (h : brI V row sh np nw p s z b m ls) (hb : b < 100) (hy : brP V row sh np nw p s z (nI b)) (hl : 0 ≤ ls) : brI V row sh np nw p s z (b + 1) (m + 1) ls := by
  obtain ⟨h1, h2, h3⟩ := h
  rcases h3 with ⟨-, e, -⟩ | ⟨h4, j, hj, e, e2⟩
  · rw [e] at hl; exact absurd hl (by decide)
  · rw [brF_b V row sh np nw p s z hb, if_pos hy] at h2
    exact ⟨by omega, by dsimp only at h2; omega, Or.inr ⟨by omega, j, hj, e, e2⟩⟩

theorem dX11_brings_0 : decode cX11_brings 0 = .ok (.iload_n 1, 1) := by decide +kernel
theorem dX11_brings_1 : decode cX11_brings 1 = .ok (.invokestatic 246, 3) := by decide +kernel
theorem dX11_brings_4 : decode cX11_brings 4 = .ok (.ifCond .eq 20, 3) := by decide +kernel
theorem dX11_brings_7 : decode cX11_brings 7 = .ok (.aload_n 0, 1) := by decide +kernel
theorem dX11_brings_8 : decode cX11_brings 8 = .ok (.iload_n 2, 1) := by decide +kernel
theorem dX11_brings_9 : decode cX11_brings 9 = .ok (.invokevirtual 123, 3) := by decide +kernel
theorem dX11_brings_12 : decode cX11_brings 12 = .ok (.ifCond .eq 12, 3) := by decide +kernel
theorem dX11_brings_15 : decode cX11_brings 15 = .ok (.iload_n 3, 1) := by decide +kernel
theorem dX11_brings_16 : decode cX11_brings 16 = .ok (.iconst 0, 1) := by decide +kernel
theorem dX11_brings_17 : decode cX11_brings 17 = .ok (.iconst 1, 1) := by decide +kernel
theorem dX11_brings_18 : decode cX11_brings 18 = .ok (.invokestatic 86, 3) := by decide +kernel
theorem dX11_brings_21 : decode cX11_brings 21 = .ok (.ifCond .ne 9, 3) := by decide +kernel
theorem dX11_brings_24 : decode cX11_brings 24 = .ok (.aload_n 0, 1) := by decide +kernel
theorem dX11_brings_25 : decode cX11_brings 25 = .ok (.iconst 1, 1) := by decide +kernel
theorem dX11_brings_26 : decode cX11_brings 26 = .ok (.invokevirtual 90, 3) := by decide +kernel
theorem dX11_brings_29 : decode cX11_brings 29 = .ok (.ireturn, 1) := by decide +kernel
theorem dX11_brings_30 : decode cX11_brings 30 = .ok (.aload_n 0, 1) := by decide +kernel
theorem dX11_brings_31 : decode cX11_brings 31 = .ok (.getfield 29, 3) := by decide +kernel
theorem dX11_brings_34 : decode cX11_brings 34 = .ok (.iload_n 1, 1) := by decide +kernel
theorem dX11_brings_35 : decode cX11_brings 35 = .ok (.iaload, 1) := by decide +kernel
theorem dX11_brings_36 : decode cX11_brings 36 = .ok (.ifCond .ne 9, 3) := by decide +kernel
theorem dX11_brings_39 : decode cX11_brings 39 = .ok (.aload_n 0, 1) := by decide +kernel
theorem dX11_brings_40 : decode cX11_brings 40 = .ok (.iconst 2, 1) := by decide +kernel
theorem dX11_brings_41 : decode cX11_brings 41 = .ok (.invokevirtual 90, 3) := by decide +kernel
theorem dX11_brings_44 : decode cX11_brings 44 = .ok (.ireturn, 1) := by decide +kernel
theorem dX11_brings_45 : decode cX11_brings 45 = .ok (.iconst 0, 1) := by decide +kernel
theorem dX11_brings_46 : decode cX11_brings 46 = .ok (.istore 4, 2) := by decide +kernel
theorem dX11_brings_48 : decode cX11_brings 48 = .ok (.iconst (-1), 1) := by decide +kernel
theorem dX11_brings_49 : decode cX11_brings 49 = .ok (.istore 5, 2) := by decide +kernel
theorem dX11_brings_51 : decode cX11_brings 51 = .ok (.iconst 0, 1) := by decide +kernel
theorem dX11_brings_52 : decode cX11_brings 52 = .ok (.istore 6, 2) := by decide +kernel
theorem dX11_brings_54 : decode cX11_brings 54 = .ok (.iload 6, 2) := by decide +kernel
theorem dX11_brings_56 : decode cX11_brings 56 = .ok (.bipush 99, 2) := by decide +kernel
theorem dX11_brings_58 : decode cX11_brings 58 = .ok (.if_icmp .gt 56, 3) := by decide +kernel
theorem dX11_brings_61 : decode cX11_brings 61 = .ok (.aload_n 0, 1) := by decide +kernel
theorem dX11_brings_62 : decode cX11_brings 62 = .ok (.iconst 0, 1) := by decide +kernel
theorem dX11_brings_63 : decode cX11_brings 63 = .ok (.invokevirtual 225, 3) := by decide +kernel
theorem dX11_brings_66 : decode cX11_brings 66 = .ok (.aload_n 0, 1) := by decide +kernel
theorem dX11_brings_67 : decode cX11_brings 67 = .ok (.getfield 79, 3) := by decide +kernel
theorem dX11_brings_70 : decode cX11_brings 70 = .ok (.getfield 148, 3) := by decide +kernel
theorem dX11_brings_73 : decode cX11_brings 73 = .ok (.iload_n 2, 1) := by decide +kernel
theorem dX11_brings_74 : decode cX11_brings 74 = .ok (.iload 6, 2) := by decide +kernel
theorem dX11_brings_76 : decode cX11_brings 76 = .ok (.iastore, 1) := by decide +kernel
theorem dX11_brings_77 : decode cX11_brings 77 = .ok (.aload_n 0, 1) := by decide +kernel
theorem dX11_brings_78 : decode cX11_brings 78 = .ok (.iload_n 2, 1) := by decide +kernel
theorem dX11_brings_79 : decode cX11_brings 79 = .ok (.aload_n 0, 1) := by decide +kernel
theorem dX11_brings_80 : decode cX11_brings 80 = .ok (.getfield 25, 3) := by decide +kernel
theorem dX11_brings_83 : decode cX11_brings 83 = .ok (.iload_n 1, 1) := by decide +kernel
theorem dX11_brings_84 : decode cX11_brings 84 = .ok (.aaload, 1) := by decide +kernel
theorem dX11_brings_85 : decode cX11_brings 85 = .ok (.invokevirtual 249, 3) := by decide +kernel
theorem dX11_brings_88 : decode cX11_brings 88 = .ok (.ifCond .eq 20, 3) := by decide +kernel
theorem dX11_brings_91 : decode cX11_brings 91 = .ok (.iinc 4 1, 3) := by decide +kernel
theorem dX11_brings_94 : decode cX11_brings 94 = .ok (.iload 5, 2) := by decide +kernel
theorem dX11_brings_96 : decode cX11_brings 96 = .ok (.ifCond .ge 8, 3) := by decide +kernel
theorem dX11_brings_99 : decode cX11_brings 99 = .ok (.iload 6, 2) := by decide +kernel
theorem dX11_brings_101 : decode cX11_brings 101 = .ok (.goto 5, 3) := by decide +kernel
theorem dX11_brings_104 : decode cX11_brings 104 = .ok (.iload 5, 2) := by decide +kernel
theorem dX11_brings_106 : decode cX11_brings 106 = .ok (.istore 5, 2) := by decide +kernel
theorem dX11_brings_108 : decode cX11_brings 108 = .ok (.iinc 6 1, 3) := by decide +kernel
theorem dX11_brings_111 : decode cX11_brings 111 = .ok (.goto (-57), 3) := by decide +kernel
theorem dX11_brings_114 : decode cX11_brings 114 = .ok (.iload_n 3, 1) := by decide +kernel
theorem dX11_brings_115 : decode cX11_brings 115 = .ok (.ifCond .ne 6, 3) := by decide +kernel
theorem dX11_brings_118 : decode cX11_brings 118 = .ok (.iload 4, 2) := by decide +kernel
theorem dX11_brings_120 : decode cX11_brings 120 = .ok (.ireturn, 1) := by decide +kernel
theorem dX11_brings_121 : decode cX11_brings 121 = .ok (.iload 4, 2) := by decide +kernel
theorem dX11_brings_123 : decode cX11_brings 123 = .ok (.ifCond .ne 11, 3) := by decide +kernel
theorem dX11_brings_126 : decode cX11_brings 126 = .ok (.aload_n 0, 1) := by decide +kernel
theorem dX11_brings_127 : decode cX11_brings 127 = .ok (.iconst 2, 1) := by decide +kernel
theorem dX11_brings_128 : decode cX11_brings 128 = .ok (.invokevirtual 90, 3) := by decide +kernel
theorem dX11_brings_131 : decode cX11_brings 131 = .ok (.goto 5, 3) := by decide +kernel
theorem dX11_brings_134 : decode cX11_brings 134 = .ok (.iload 5, 2) := by decide +kernel
theorem dX11_brings_136 : decode cX11_brings 136 = .ok (.ireturn, 1) := by decide +kernel
set_option maxHeartbeats 2000000 in
set_option maxRecDepth 20000 in
theorem k_brings {l : Launch} {D : va_G} {cI cG cW : ClassId} {q : Nat → Nat} {S : Nat → Int32} {X : Nat → Nat → Int32} {P : Nat → Nat} {s p what : Int32} {V row kept tried bf fd pk bo so sh mv tr : Nat → Int32} {nc np nw d nt nq : Nat} (hR : RKx row nc np nw d nt nq) (hC : CR (S, X, P) (sR V row kept tried bf fd pk bo so sh mv tr)) (hSh : ∀ s, s < 4 → (bo s = nI 0 ∨ bo s = nI 8 ∨ bo s = nI 16 ∨ bo s = nI 32) ∧ ∃ n, n ≤ 40 ∧ so s = nI n) (hV15 : V 15 = 0) (hV16 : V 16 = -1) (hV18 : V 18 = -1) : Ci l yX11_brings cX11_brings 7 (some .int) 9 D (tyL cI cG cW) (wC cI cG cW q) [.ref (q 0), .int s, .int p, .int what] (S, X, P) (fun r τ => r = (sp_brings V row kept tried bf fd pk bo so sh mv tr s p what).1 ∧ CR τ (sp_brings V row kept tried bf fd pk bo so sh mv tr s p what).2) := by
  refine Ci.of (by decide) (Nat.le_of_ble_eq_true rfl) ?_
  intro p_ e_ s_ m_ b_ M_ c_ A_ C
  replace C : Cx _ _ _ _ _ _ _ _ RX11 _ _ _ _ := C
  refine j_L [0, 1, 2, 3] [(0, .ref (q 0)), (1, .int s), (2, .int p), (3, .int what)] rfl ?_
  obtain ⟨hI, hW, ⟨e0, hd⟩, ⟨e4, ht⟩, ⟨e5, hq⟩, hB⟩ := id hR
  obtain ⟨⟨e2, hc2, hc10⟩, ⟨e3, hn6⟩, ⟨e8, hw8⟩, hP, hE, hLo, hT0, hT1⟩ := id hI
  have hIc := hI
  have hF : CF S X 0 row (X 44) nc np := by have h := hC.fld; rw [e2, e3, tN_nI (by omega), tN_nI (by omega)] at h; exact h
  have hK : CK S X 0 row nw nt nq := by have h := hC.kp; rw [e8, e4, e5, tN_nI (by omega), tN_nI (by omega), tN_nI (by omega)] at h; exact h
  have hS1 : S 1 = row 8 := hK.wrongs
  have hS5 : S 5 = row 2 := hF.cells
  have hS7 : S 7 = row 3 := hF.people
  refine j_iload_n C 1 dX11_brings_0 rfl ?_
  refine j_callS (As := [.int s]) (rest := []) C sw11_246 (h_isSheet) rfl (Nat.le_of_ble_eq_true rfl) dX11_brings_1 (by decide) ?_
  rintro _ _ ⟨rfl, rfl⟩
  refine j_if_eq C 24 dX11_brings_4 (by decide) (fun c4 => ?_) (fun c4 => ?_)
  · replace c4 := bI_f c4
    refine j_aload_n C 0 dX11_brings_24 rfl ?_
    refine j_iconst C (v := (nI 1)) dX11_brings_25 (by decide) ?_
    refine j_callV (As := [.int (nI 1)]) (rest := []) C vw11_90 (h_error 1 (by decide)) ⟨0, 11, _, _, rfl, rfl, rfl⟩ rfl (Nat.le_of_ble_eq_true rfl) dX11_brings_26 (by decide) ?_
    rintro _ _ ⟨rfl, rfl⟩
    refine j_iret C dX11_brings_29 ?_
    unfold sp_brings
    rw [if_neg (fun h => c4 h.1)]
    exact ⟨show (-1000000000 : Int32) - nI 1 = -1000000001 from by decide, hC.er 1⟩
  · replace c4 := bI_t c4
    obtain ⟨sn, gsn, hsn, rfl⟩ := inn_lit c4 (by omega)
    refine j_aload_n C 0 dX11_brings_7 rfl ?_
    refine j_iload_n C 2 dX11_brings_8 rfl ?_
    refine j_callV (As := [.int p]) (rest := []) C vw11_123 (h_isPerson) ⟨0, 11, _, _, rfl, rfl, rfl⟩ rfl (Nat.le_of_ble_eq_true rfl) dX11_brings_9 (by decide) ?_
    rintro _ _ ⟨rfl, rfl⟩
    refine j_v (bI (inn p 0 (row 3 - 1))) (by rw [hS7]) ?_
    refine j_if_eq C 24 dX11_brings_12 (by decide) (fun c12 => ?_) (fun c12 => ?_)
    · replace c12 := bI_f c12
      refine j_aload_n C 0 dX11_brings_24 rfl ?_
      refine j_iconst C (v := (nI 1)) dX11_brings_25 (by decide) ?_
      refine j_callV (As := [.int (nI 1)]) (rest := []) C vw11_90 (h_error 1 (by decide)) ⟨0, 11, _, _, rfl, rfl, rfl⟩ rfl (Nat.le_of_ble_eq_true rfl) dX11_brings_26 (by decide) ?_
      rintro _ _ ⟨rfl, rfl⟩
      refine j_iret C dX11_brings_29 ?_
      unfold sp_brings
      rw [if_neg (fun h => c12 h.2.1)]
      exact ⟨show (-1000000000 : Int32) - nI 1 = -1000000001 from by decide, hC.er 1⟩
    · replace c12 := bI_t c12
      obtain ⟨pn, hpn, rfl⟩ := inn_row c12 e3 (by omega)
      refine j_iload_n C 3 dX11_brings_15 rfl ?_
      refine j_iconst C (v := (nI 0)) dX11_brings_16 (by decide) ?_
      refine j_iconst C (v := (nI 1)) dX11_brings_17 (by decide) ?_
      refine j_callS (As := [.int what, .int (nI 0), .int (nI 1)]) (rest := []) C sw11_86 (h_within) rfl (Nat.le_of_ble_eq_true rfl) dX11_brings_18 (by decide) ?_
      rintro _ _ ⟨rfl, rfl⟩
      refine j_if_ne C 30 dX11_brings_21 (by decide) (fun c21 => ?_) (fun c21 => ?_)
      · replace c21 := bI_t c21
        obtain ⟨wn, gwn, hwn, rfl⟩ := inn_lit c21 (by omega)
        refine j_aload_n C 0 dX11_brings_30 rfl ?_
        refine j_get C (v := .ref (q 34)) 0 7 rfl rfl inlC11 (by decide) kf11_29 rfl dX11_brings_31 ?_
        refine j_iload_n C 1 dX11_brings_34 rfl ?_
        refine j_ialdN C 34 0 rfl rfl sn rfl (by omega) (by decide) dX11_brings_35 ?_
        refine j_v (bo sn) (hC.shb sn (by omega)) ?_
        refine j_if_ne C 45 dX11_brings_36 (by decide) (fun c36 => ?_) (fun c36 => ?_)
        · skip
          rcases (show sn = 0 ∨ sn = 1 ∨ sn = 2 ∨ sn = 3 by omega) with rfl | rfl | rfl | rfl
          · obtain ⟨-, zz, hzz, eso⟩ := hSh 0 (by omega)
            have hss : S 29 = nI zz := (hC.shs 0 (by omega)).trans eso
            refine j_iconst C (v := (nI 0)) dX11_brings_45 (by decide) ?_
            refine j_istore C [(4, .int (nI 0)), (0, .ref (q 0)), (1, .int (nI 0)), (2, .int (nI pn)), (3, .int (nI wn))] dX11_brings_46 (by decide) rfl ?_
            refine j_iconst C (v := (-1)) dX11_brings_48 (by decide) ?_
            refine j_istore C [(5, .int (-1)), (4, .int (nI 0)), (0, .ref (q 0)), (1, .int (nI 0)), (2, .int (nI pn)), (3, .int (nI wn))] dX11_brings_49 (by decide) rfl ?_
            refine j_iconst C (v := (nI 0)) dX11_brings_51 (by decide) ?_
            refine j_istore C [(6, .int (nI 0)), (5, .int (-1)), (4, .int (nI 0)), (0, .ref (q 0)), (1, .int (nI 0)), (2, .int (nI pn)), (3, .int (nI wn))] dX11_brings_52 (by decide) rfl ?_
            refine j_L [3, 4, 5, 6, 2, 1, 0] [(0, .ref (q 0)), (1, .int (nI 0)), (2, .int (nI pn)), (3, .int (nI wn)), (4, .int (nI 0)), (5, .int (-1)), (6, .int (nI 0))] rfl ?_
            refine j_loop (X := Nat × Nat × Int32 × (Nat → Int32) × (Nat → Nat → Int32)) (fun (z : Nat × Nat × Int32 × (Nat → Int32) × (Nat → Nat → Int32)) => match z with | (b, m, ls, T, Y) => b ≤ 100 ∧ FrT T Y S X ∧ brI V row sh np nw pn 0 zz b m ls) (fun (z : Nat × Nat × Int32 × (Nat → Int32) × (Nat → Nat → Int32)) => match z with | (b, m, ls, T, Y) => 100 - b) (fun (z : Nat × Nat × Int32 × (Nat → Int32) × (Nat → Nat → Int32)) => match z with | (b, m, ls, T, Y) => (T, Y, P)) (fun (z : Nat × Nat × Int32 × (Nat → Int32) × (Nat → Nat → Int32)) => match z with | (b, m, ls, T, Y) => [(0, .ref (q 0)), (1, .int (nI 0)), (2, .int (nI pn)), (3, .int (nI wn)), (4, .int (nI m)), (5, .int ls), (6, .int (nI b))]) (0, 0, -1, S, X) (⟨Nat.zero_le _, FrT.rf, Nat.le_refl _, Nat.zero_add _, Or.inl ⟨rfl, rfl, rfl⟩⟩) rfl rfl ?_
            rintro ⟨b, m, ls, T, Y⟩ ⟨hi, hT, hB⟩ ih
            try dsimp only at ih ⊢
            refine j_iload C 6 dX11_brings_54 rfl ?_
            refine j_bipush C (v := (nI 99)) dX11_brings_56 (by decide) ?_
            refine j_icmp_gt C 114 dX11_brings_58 (by decide) (fun c58 => ?_) (fun c58 => ?_)
            · rw [nI_ltI (by omega) (by omega)] at c58
              refine j_iload_n C 3 dX11_brings_114 rfl ?_
              refine j_if_ne C 121 dX11_brings_115 (by decide) (fun c115 => ?_) (fun c115 => ?_)
              · rw [show (0 : Int32) = nI 0 from rfl, nI_eq (by omega) (by omega)] at c115
                have hmb := hB.1
                refine j_iload C 4 dX11_brings_121 rfl ?_
                refine j_if_ne C 134 dX11_brings_123 (by decide) (fun c123 => ?_) (fun c123 => ?_)
                · rw [show (0 : Int32) = nI 0 from rfl, nI_eq (by omega) (by omega)] at c123
                  refine j_iload C 5 dX11_brings_134 rfl ?_
                  refine j_iret C dX11_brings_136 ?_
                  unfold sp_brings
                  rw [if_pos ⟨show inn _ 0 3 from c4, c12, c21⟩]
                  rw [tN_nI (n := 0) (by decide), if_neg c36, e3, e8, eso, tN_nI (n := np) (by omega), tN_nI (n := nw) (by omega), tN_nI (n := zz) (by omega), tN_nI (n := pn) (by omega)]
                  obtain ⟨hm1, hm2, hm3⟩ := hB
                  obtain rfl : b = 100 := by omega
                  have hm4 : m = (brF V row sh np nw pn 0 zz 100).1 := hm2
                  rw [if_neg (fun h => c123 (by rw [hm4]; exact h.2)), if_neg (nI_ne0 (by omega) (by omega))]
                  rcases hm3 with ⟨h0, -, -⟩ | ⟨-, j, hj, ej, e2⟩
                  · exact absurd h0 c123
                  · exact ⟨by rw [e2]; exact ej, hC.th hT⟩
                · rw [show (0 : Int32) = nI 0 from rfl, nI_eq (by omega) (by omega)] at c123
                  refine j_aload_n C 0 dX11_brings_126 rfl ?_
                  refine j_iconst C (v := (nI 2)) dX11_brings_127 (by decide) ?_
                  refine j_callV (As := [.int (nI 2)]) (rest := []) C vw11_90 (h_error 2 (by decide)) ⟨0, 11, _, _, rfl, rfl, rfl⟩ rfl (Nat.le_of_ble_eq_true rfl) dX11_brings_128 (by decide) ?_
                  rintro _ _ ⟨rfl, rfl⟩
                  refine j_goto C 136 dX11_brings_131 (by decide) ?_
                  refine j_iret C dX11_brings_136 ?_
                  unfold sp_brings
                  rw [if_pos ⟨show inn _ 0 3 from c4, c12, c21⟩]
                  rw [tN_nI (n := 0) (by decide), if_neg c36, e3, e8, eso, tN_nI (n := np) (by omega), tN_nI (n := nw) (by omega), tN_nI (n := zz) (by omega), tN_nI (n := pn) (by omega)]
                  obtain ⟨hm1, hm2, hm3⟩ := hB
                  obtain rfl : b = 100 := by omega
                  have hm4 : m = (brF V row sh np nw pn 0 zz 100).1 := hm2
                  rw [if_pos ⟨by rw [show wn = 1 by omega], by rw [← hm4]; exact c123⟩]
                  exact ⟨show (-1000000000 : Int32) - nI 2 = -1000000002 from by decide, (hC.th hT).er 2⟩
              · rw [show (0 : Int32) = nI 0 from rfl, nI_eq (by omega) (by omega)] at c115
                refine j_iload C 4 dX11_brings_118 rfl ?_
                refine j_iret C dX11_brings_120 ?_
                unfold sp_brings
                rw [if_pos ⟨show inn _ 0 3 from c4, c12, c21⟩]
                rw [tN_nI (n := 0) (by decide), if_neg c36, e3, e8, eso, tN_nI (n := np) (by omega), tN_nI (n := nw) (by omega), tN_nI (n := zz) (by omega), tN_nI (n := pn) (by omega)]
                obtain ⟨hm1, hm2, hm3⟩ := hB
                obtain rfl : b = 100 := by omega
                have hm4 : m = (brF V row sh np nw pn 0 zz 100).1 := hm2
                rw [if_neg (fun h => absurd h.1 (by rw [show wn = 0 by omega]; decide)), if_pos (by rw [show wn = 0 by omega]; rfl), ← hm4]
                exact ⟨rfl, hC.th hT⟩
            · rw [nI_ltI (by omega) (by omega)] at c58
              refine j_aload_n C 0 dX11_brings_61 rfl ?_
              refine j_iconst C (v := (nI 0)) dX11_brings_62 (by decide) ?_
              refine j_callVv (As := [.int (nI 0)]) (rest := []) C vw11_225 (h_imagine (hF.ft hT) hI (hK.ft hT) hW 0 (by omega)) ⟨0, 11, _, _, rfl, rfl, rfl⟩ rfl (Nat.le_of_ble_eq_true rfl) dX11_brings_63 (by decide) ?_
              rintro _ ⟨S0, X0, rfl, hF2w, hT0⟩
              have hTT := hT0.tr hT
              refine j_aload_n C 0 dX11_brings_66 rfl ?_
              refine j_get C (v := .ref (q 5)) 0 3 rfl rfl inlC11 (by decide) kf11_79 rfl dX11_brings_67 ?_
              refine j_getN C (v := .ref (q 64)) 5 11 rfl rfl inlC1 (by decide) kf11_148 rfl dX11_brings_70 ?_
              refine j_iload_n C 2 dX11_brings_73 rfl ?_
              refine j_iload C 6 dX11_brings_74 rfl ?_
              refine j_iastN C 64 0 rfl rfl pn rfl (by omega) (by decide) dX11_brings_76 (S0, va_up X0 64 (upd (X0 64) pn (nI b)), P) rfl ?_
              refine j_aload_n C 0 dX11_brings_77 rfl ?_
              refine j_iload_n C 2 dX11_brings_78 rfl ?_
              refine j_aload_n C 0 dX11_brings_79 rfl ?_
              refine j_get C (v := .ref (q 33)) 0 6 rfl rfl inlC11 (by decide) kf11_25 rfl dX11_brings_80 ?_
              refine j_iload_n C 1 dX11_brings_83 rfl ?_
              refine j_aaldN C 33 2 rfl rfl 0 rfl (by decide) (by decide) rfl dX11_brings_84 ?_
              refine j_callV (As := [.int (nI pn), .ref (q 21)]) (rest := []) C vw11_249 (h_picksAsTold_0 (w := (wv (brV V pn (nI b)) row nw)) hI (hF2w.setW (br_w hV15 hV16 hn6 hpn hF2w.weighs)) ((hC.l0.ft (by omega) (by omega) hTT FR.rf).oth (by omega)) ((hC.l1.ft (by omega) (by omega) hTT FR.rf).oth (by omega)) pn zz hpn ((hTT.1 29 (by omega)).trans hss) hzz) ⟨0, 11, _, _, rfl, rfl, rfl⟩ rfl (Nat.le_of_ble_eq_true rfl) dX11_brings_85 (by decide) ?_
              rintro _ _ ⟨T1, Y1, rfl, hT1, rfl⟩
              have hx8 : ∀ k, va_up X0 64 (upd (X0 64) pn (nI b)) 82 k = X 82 k := fun k => congrFun ((va_n (by omega)).trans (hTT.2 82 (by omega) (by omega) (by omega))) k
              refine j_v (bI (brP V row sh np nw pn 0 zz (nI b))) (bI_c ⟨fun h k hk => (h k hk).trans ((hx8 k).trans (hC.shi 0 (by omega) k (by rw [eso, tN_nI (by omega)]; exact hk))), fun h k hk => (h k hk).trans ((hx8 k).trans (hC.shi 0 (by omega) k (by rw [eso, tN_nI (by omega)]; exact hk))).symm⟩) ?_
              refine j_if_eq C 108 dX11_brings_88 (by decide) (fun c88 => ?_) (fun c88 => ?_)
              · replace c88 := bI_f c88
                refine j_iinc C (v := (nI (b + 1))) 6 [(6, .int (nI (b + 1))), (0, .ref (q 0)), (1, .int (nI 0)), (2, .int (nI pn)), (3, .int (nI wn)), (4, .int (nI m)), (5, .int ls)] dX11_brings_108 rfl (nI_1 _) (by decide) rfl ?_
                refine j_goto C 54 dX11_brings_111 (by decide) ?_
                refine j_L [1, 2, 3, 4, 5, 6, 0] [(0, .ref (q 0)), (1, .int (nI 0)), (2, .int (nI pn)), (3, .int (nI wn)), (4, .int (nI m)), (5, .int ls), (6, .int (nI (b + 1)))] rfl ?_
                exact ih (b + 1, m, ls, T1, Y1) (⟨by dsimp only; omega, hT1.tr ((hT0.up (by omega)).tr hT), brI_no hB (by omega) c88⟩) (by dsimp only; omega)
              · replace c88 := bI_t c88
                refine j_iinc C (v := (nI (m + 1))) 4 [(4, .int (nI (m + 1))), (0, .ref (q 0)), (1, .int (nI 0)), (2, .int (nI pn)), (3, .int (nI wn)), (5, .int ls), (6, .int (nI b))] dX11_brings_91 rfl (nI_1 _) (by decide) rfl ?_
                refine j_iload C 5 dX11_brings_94 rfl ?_
                refine j_if_ge C 104 dX11_brings_96 (by decide) (fun c96 => ?_) (fun c96 => ?_)
                · skip
                  refine j_iload C 5 dX11_brings_104 rfl ?_
                  refine j_istore C [(5, .int ls), (4, .int (nI (m + 1))), (0, .ref (q 0)), (1, .int (nI 0)), (2, .int (nI pn)), (3, .int (nI wn)), (6, .int (nI b))] dX11_brings_106 (by decide) rfl ?_
                  refine j_iinc C (v := (nI (b + 1))) 6 [(6, .int (nI (b + 1))), (5, .int ls), (4, .int (nI (m + 1))), (0, .ref (q 0)), (1, .int (nI 0)), (2, .int (nI pn)), (3, .int (nI wn))] dX11_brings_108 rfl (nI_1 _) (by decide) rfl ?_
                  refine j_goto C 54 dX11_brings_111 (by decide) ?_
                  refine j_L [3, 4, 5, 6, 2, 1, 0] [(0, .ref (q 0)), (1, .int (nI 0)), (2, .int (nI pn)), (3, .int (nI wn)), (4, .int (nI (m + 1))), (5, .int ls), (6, .int (nI (b + 1)))] rfl ?_
                  exact ih (b + 1, m + 1, ls, T1, Y1) (⟨by dsimp only; omega, hT1.tr ((hT0.up (by omega)).tr hT), brI_1 hB (by omega) c88 c96⟩) (by dsimp only; omega)
                · skip
                  refine j_iload C 6 dX11_brings_99 rfl ?_
                  refine j_goto C 106 dX11_brings_101 (by decide) ?_
                  refine j_istore C [(5, .int (nI b)), (4, .int (nI (m + 1))), (0, .ref (q 0)), (1, .int (nI 0)), (2, .int (nI pn)), (3, .int (nI wn)), (6, .int (nI b))] dX11_brings_106 (by decide) rfl ?_
                  refine j_iinc C (v := (nI (b + 1))) 6 [(6, .int (nI (b + 1))), (5, .int (nI b)), (4, .int (nI (m + 1))), (0, .ref (q 0)), (1, .int (nI 0)), (2, .int (nI pn)), (3, .int (nI wn))] dX11_brings_108 rfl (nI_1 _) (by decide) rfl ?_
                  refine j_goto C 54 dX11_brings_111 (by decide) ?_
                  refine j_L [3, 4, 5, 6, 2, 1, 0] [(0, .ref (q 0)), (1, .int (nI 0)), (2, .int (nI pn)), (3, .int (nI wn)), (4, .int (nI (m + 1))), (5, .int (nI b)), (6, .int (nI (b + 1)))] rfl ?_
                  exact ih (b + 1, m + 1, nI b, T1, Y1) (⟨by dsimp only; omega, hT1.tr ((hT0.up (by omega)).tr hT), brI_0 hB (by omega) c88 (nle c96)⟩) (by dsimp only; omega)
          · obtain ⟨-, zz, hzz, eso⟩ := hSh 1 (by omega)
            have hss : S 30 = nI zz := (hC.shs 1 (by omega)).trans eso
            refine j_iconst C (v := (nI 0)) dX11_brings_45 (by decide) ?_
            refine j_istore C [(4, .int (nI 0)), (0, .ref (q 0)), (1, .int (nI 1)), (2, .int (nI pn)), (3, .int (nI wn))] dX11_brings_46 (by decide) rfl ?_
            refine j_iconst C (v := (-1)) dX11_brings_48 (by decide) ?_
            refine j_istore C [(5, .int (-1)), (4, .int (nI 0)), (0, .ref (q 0)), (1, .int (nI 1)), (2, .int (nI pn)), (3, .int (nI wn))] dX11_brings_49 (by decide) rfl ?_
            refine j_iconst C (v := (nI 0)) dX11_brings_51 (by decide) ?_
            refine j_istore C [(6, .int (nI 0)), (5, .int (-1)), (4, .int (nI 0)), (0, .ref (q 0)), (1, .int (nI 1)), (2, .int (nI pn)), (3, .int (nI wn))] dX11_brings_52 (by decide) rfl ?_
            refine j_L [3, 4, 5, 6, 2, 1, 0] [(0, .ref (q 0)), (1, .int (nI 1)), (2, .int (nI pn)), (3, .int (nI wn)), (4, .int (nI 0)), (5, .int (-1)), (6, .int (nI 0))] rfl ?_
            refine j_loop (X := Nat × Nat × Int32 × (Nat → Int32) × (Nat → Nat → Int32)) (fun (z : Nat × Nat × Int32 × (Nat → Int32) × (Nat → Nat → Int32)) => match z with | (b, m, ls, T, Y) => b ≤ 100 ∧ FrT T Y S X ∧ brI V row sh np nw pn 1 zz b m ls) (fun (z : Nat × Nat × Int32 × (Nat → Int32) × (Nat → Nat → Int32)) => match z with | (b, m, ls, T, Y) => 100 - b) (fun (z : Nat × Nat × Int32 × (Nat → Int32) × (Nat → Nat → Int32)) => match z with | (b, m, ls, T, Y) => (T, Y, P)) (fun (z : Nat × Nat × Int32 × (Nat → Int32) × (Nat → Nat → Int32)) => match z with | (b, m, ls, T, Y) => [(0, .ref (q 0)), (1, .int (nI 1)), (2, .int (nI pn)), (3, .int (nI wn)), (4, .int (nI m)), (5, .int ls), (6, .int (nI b))]) (0, 0, -1, S, X) (⟨Nat.zero_le _, FrT.rf, Nat.le_refl _, Nat.zero_add _, Or.inl ⟨rfl, rfl, rfl⟩⟩) rfl rfl ?_
            rintro ⟨b, m, ls, T, Y⟩ ⟨hi, hT, hB⟩ ih
            try dsimp only at ih ⊢
            refine j_iload C 6 dX11_brings_54 rfl ?_
            refine j_bipush C (v := (nI 99)) dX11_brings_56 (by decide) ?_
            refine j_icmp_gt C 114 dX11_brings_58 (by decide) (fun c58 => ?_) (fun c58 => ?_)
            · rw [nI_ltI (by omega) (by omega)] at c58
              refine j_iload_n C 3 dX11_brings_114 rfl ?_
              refine j_if_ne C 121 dX11_brings_115 (by decide) (fun c115 => ?_) (fun c115 => ?_)
              · rw [show (0 : Int32) = nI 0 from rfl, nI_eq (by omega) (by omega)] at c115
                have hmb := hB.1
                refine j_iload C 4 dX11_brings_121 rfl ?_
                refine j_if_ne C 134 dX11_brings_123 (by decide) (fun c123 => ?_) (fun c123 => ?_)
                · rw [show (0 : Int32) = nI 0 from rfl, nI_eq (by omega) (by omega)] at c123
                  refine j_iload C 5 dX11_brings_134 rfl ?_
                  refine j_iret C dX11_brings_136 ?_
                  unfold sp_brings
                  rw [if_pos ⟨show inn _ 0 3 from c4, c12, c21⟩]
                  rw [tN_nI (n := 1) (by decide), if_neg c36, e3, e8, eso, tN_nI (n := np) (by omega), tN_nI (n := nw) (by omega), tN_nI (n := zz) (by omega), tN_nI (n := pn) (by omega)]
                  obtain ⟨hm1, hm2, hm3⟩ := hB
                  obtain rfl : b = 100 := by omega
                  have hm4 : m = (brF V row sh np nw pn 1 zz 100).1 := hm2
                  rw [if_neg (fun h => c123 (by rw [hm4]; exact h.2)), if_neg (nI_ne0 (by omega) (by omega))]
                  rcases hm3 with ⟨h0, -, -⟩ | ⟨-, j, hj, ej, e2⟩
                  · exact absurd h0 c123
                  · exact ⟨by rw [e2]; exact ej, hC.th hT⟩
                · rw [show (0 : Int32) = nI 0 from rfl, nI_eq (by omega) (by omega)] at c123
                  refine j_aload_n C 0 dX11_brings_126 rfl ?_
                  refine j_iconst C (v := (nI 2)) dX11_brings_127 (by decide) ?_
                  refine j_callV (As := [.int (nI 2)]) (rest := []) C vw11_90 (h_error 2 (by decide)) ⟨0, 11, _, _, rfl, rfl, rfl⟩ rfl (Nat.le_of_ble_eq_true rfl) dX11_brings_128 (by decide) ?_
                  rintro _ _ ⟨rfl, rfl⟩
                  refine j_goto C 136 dX11_brings_131 (by decide) ?_
                  refine j_iret C dX11_brings_136 ?_
                  unfold sp_brings
                  rw [if_pos ⟨show inn _ 0 3 from c4, c12, c21⟩]
                  rw [tN_nI (n := 1) (by decide), if_neg c36, e3, e8, eso, tN_nI (n := np) (by omega), tN_nI (n := nw) (by omega), tN_nI (n := zz) (by omega), tN_nI (n := pn) (by omega)]
                  obtain ⟨hm1, hm2, hm3⟩ := hB
                  obtain rfl : b = 100 := by omega
                  have hm4 : m = (brF V row sh np nw pn 1 zz 100).1 := hm2
                  rw [if_pos ⟨by rw [show wn = 1 by omega], by rw [← hm4]; exact c123⟩]
                  exact ⟨show (-1000000000 : Int32) - nI 2 = -1000000002 from by decide, (hC.th hT).er 2⟩
              · rw [show (0 : Int32) = nI 0 from rfl, nI_eq (by omega) (by omega)] at c115
                refine j_iload C 4 dX11_brings_118 rfl ?_
                refine j_iret C dX11_brings_120 ?_
                unfold sp_brings
                rw [if_pos ⟨show inn _ 0 3 from c4, c12, c21⟩]
                rw [tN_nI (n := 1) (by decide), if_neg c36, e3, e8, eso, tN_nI (n := np) (by omega), tN_nI (n := nw) (by omega), tN_nI (n := zz) (by omega), tN_nI (n := pn) (by omega)]
                obtain ⟨hm1, hm2, hm3⟩ := hB
                obtain rfl : b = 100 := by omega
                have hm4 : m = (brF V row sh np nw pn 1 zz 100).1 := hm2
                rw [if_neg (fun h => absurd h.1 (by rw [show wn = 0 by omega]; decide)), if_pos (by rw [show wn = 0 by omega]; rfl), ← hm4]
                exact ⟨rfl, hC.th hT⟩
            · rw [nI_ltI (by omega) (by omega)] at c58
              refine j_aload_n C 0 dX11_brings_61 rfl ?_
              refine j_iconst C (v := (nI 0)) dX11_brings_62 (by decide) ?_
              refine j_callVv (As := [.int (nI 0)]) (rest := []) C vw11_225 (h_imagine (hF.ft hT) hI (hK.ft hT) hW 0 (by omega)) ⟨0, 11, _, _, rfl, rfl, rfl⟩ rfl (Nat.le_of_ble_eq_true rfl) dX11_brings_63 (by decide) ?_
              rintro _ ⟨S0, X0, rfl, hF2w, hT0⟩
              have hTT := hT0.tr hT
              refine j_aload_n C 0 dX11_brings_66 rfl ?_
              refine j_get C (v := .ref (q 5)) 0 3 rfl rfl inlC11 (by decide) kf11_79 rfl dX11_brings_67 ?_
              refine j_getN C (v := .ref (q 64)) 5 11 rfl rfl inlC1 (by decide) kf11_148 rfl dX11_brings_70 ?_
              refine j_iload_n C 2 dX11_brings_73 rfl ?_
              refine j_iload C 6 dX11_brings_74 rfl ?_
              refine j_iastN C 64 0 rfl rfl pn rfl (by omega) (by decide) dX11_brings_76 (S0, va_up X0 64 (upd (X0 64) pn (nI b)), P) rfl ?_
              refine j_aload_n C 0 dX11_brings_77 rfl ?_
              refine j_iload_n C 2 dX11_brings_78 rfl ?_
              refine j_aload_n C 0 dX11_brings_79 rfl ?_
              refine j_get C (v := .ref (q 33)) 0 6 rfl rfl inlC11 (by decide) kf11_25 rfl dX11_brings_80 ?_
              refine j_iload_n C 1 dX11_brings_83 rfl ?_
              refine j_aaldN C 33 2 rfl rfl 1 rfl (by decide) (by decide) rfl dX11_brings_84 ?_
              refine j_callV (As := [.int (nI pn), .ref (q 22)]) (rest := []) C vw11_249 (h_picksAsTold_1 (w := (wv (brV V pn (nI b)) row nw)) hI (hF2w.setW (br_w hV15 hV16 hn6 hpn hF2w.weighs)) ((hC.l0.ft (by omega) (by omega) hTT FR.rf).oth (by omega)) ((hC.l1.ft (by omega) (by omega) hTT FR.rf).oth (by omega)) pn zz hpn ((hTT.1 30 (by omega)).trans hss) hzz) ⟨0, 11, _, _, rfl, rfl, rfl⟩ rfl (Nat.le_of_ble_eq_true rfl) dX11_brings_85 (by decide) ?_
              rintro _ _ ⟨T1, Y1, rfl, hT1, rfl⟩
              have hx8 : ∀ k, va_up X0 64 (upd (X0 64) pn (nI b)) 83 k = X 83 k := fun k => congrFun ((va_n (by omega)).trans (hTT.2 83 (by omega) (by omega) (by omega))) k
              refine j_v (bI (brP V row sh np nw pn 1 zz (nI b))) (bI_c ⟨fun h k hk => (h k hk).trans ((hx8 k).trans (hC.shi 1 (by omega) k (by rw [eso, tN_nI (by omega)]; exact hk))), fun h k hk => (h k hk).trans ((hx8 k).trans (hC.shi 1 (by omega) k (by rw [eso, tN_nI (by omega)]; exact hk))).symm⟩) ?_
              refine j_if_eq C 108 dX11_brings_88 (by decide) (fun c88 => ?_) (fun c88 => ?_)
              · replace c88 := bI_f c88
                refine j_iinc C (v := (nI (b + 1))) 6 [(6, .int (nI (b + 1))), (0, .ref (q 0)), (1, .int (nI 1)), (2, .int (nI pn)), (3, .int (nI wn)), (4, .int (nI m)), (5, .int ls)] dX11_brings_108 rfl (nI_1 _) (by decide) rfl ?_
                refine j_goto C 54 dX11_brings_111 (by decide) ?_
                refine j_L [1, 2, 3, 4, 5, 6, 0] [(0, .ref (q 0)), (1, .int (nI 1)), (2, .int (nI pn)), (3, .int (nI wn)), (4, .int (nI m)), (5, .int ls), (6, .int (nI (b + 1)))] rfl ?_
                exact ih (b + 1, m, ls, T1, Y1) (⟨by dsimp only; omega, hT1.tr ((hT0.up (by omega)).tr hT), brI_no hB (by omega) c88⟩) (by dsimp only; omega)
              · replace c88 := bI_t c88
                refine j_iinc C (v := (nI (m + 1))) 4 [(4, .int (nI (m + 1))), (0, .ref (q 0)), (1, .int (nI 1)), (2, .int (nI pn)), (3, .int (nI wn)), (5, .int ls), (6, .int (nI b))] dX11_brings_91 rfl (nI_1 _) (by decide) rfl ?_
                refine j_iload C 5 dX11_brings_94 rfl ?_
                refine j_if_ge C 104 dX11_brings_96 (by decide) (fun c96 => ?_) (fun c96 => ?_)
                · skip
                  refine j_iload C 5 dX11_brings_104 rfl ?_
                  refine j_istore C [(5, .int ls), (4, .int (nI (m + 1))), (0, .ref (q 0)), (1, .int (nI 1)), (2, .int (nI pn)), (3, .int (nI wn)), (6, .int (nI b))] dX11_brings_106 (by decide) rfl ?_
                  refine j_iinc C (v := (nI (b + 1))) 6 [(6, .int (nI (b + 1))), (5, .int ls), (4, .int (nI (m + 1))), (0, .ref (q 0)), (1, .int (nI 1)), (2, .int (nI pn)), (3, .int (nI wn))] dX11_brings_108 rfl (nI_1 _) (by decide) rfl ?_
                  refine j_goto C 54 dX11_brings_111 (by decide) ?_
                  refine j_L [3, 4, 5, 6, 2, 1, 0] [(0, .ref (q 0)), (1, .int (nI 1)), (2, .int (nI pn)), (3, .int (nI wn)), (4, .int (nI (m + 1))), (5, .int ls), (6, .int (nI (b + 1)))] rfl ?_
                  exact ih (b + 1, m + 1, ls, T1, Y1) (⟨by dsimp only; omega, hT1.tr ((hT0.up (by omega)).tr hT), brI_1 hB (by omega) c88 c96⟩) (by dsimp only; omega)
                · skip
                  refine j_iload C 6 dX11_brings_99 rfl ?_
                  refine j_goto C 106 dX11_brings_101 (by decide) ?_
                  refine j_istore C [(5, .int (nI b)), (4, .int (nI (m + 1))), (0, .ref (q 0)), (1, .int (nI 1)), (2, .int (nI pn)), (3, .int (nI wn)), (6, .int (nI b))] dX11_brings_106 (by decide) rfl ?_
                  refine j_iinc C (v := (nI (b + 1))) 6 [(6, .int (nI (b + 1))), (5, .int (nI b)), (4, .int (nI (m + 1))), (0, .ref (q 0)), (1, .int (nI 1)), (2, .int (nI pn)), (3, .int (nI wn))] dX11_brings_108 rfl (nI_1 _) (by decide) rfl ?_
                  refine j_goto C 54 dX11_brings_111 (by decide) ?_
                  refine j_L [3, 4, 5, 6, 2, 1, 0] [(0, .ref (q 0)), (1, .int (nI 1)), (2, .int (nI pn)), (3, .int (nI wn)), (4, .int (nI (m + 1))), (5, .int (nI b)), (6, .int (nI (b + 1)))] rfl ?_
                  exact ih (b + 1, m + 1, nI b, T1, Y1) (⟨by dsimp only; omega, hT1.tr ((hT0.up (by omega)).tr hT), brI_0 hB (by omega) c88 (nle c96)⟩) (by dsimp only; omega)
          · obtain ⟨-, zz, hzz, eso⟩ := hSh 2 (by omega)
            have hss : S 31 = nI zz := (hC.shs 2 (by omega)).trans eso
            refine j_iconst C (v := (nI 0)) dX11_brings_45 (by decide) ?_
            refine j_istore C [(4, .int (nI 0)), (0, .ref (q 0)), (1, .int (nI 2)), (2, .int (nI pn)), (3, .int (nI wn))] dX11_brings_46 (by decide) rfl ?_
            refine j_iconst C (v := (-1)) dX11_brings_48 (by decide) ?_
            refine j_istore C [(5, .int (-1)), (4, .int (nI 0)), (0, .ref (q 0)), (1, .int (nI 2)), (2, .int (nI pn)), (3, .int (nI wn))] dX11_brings_49 (by decide) rfl ?_
            refine j_iconst C (v := (nI 0)) dX11_brings_51 (by decide) ?_
            refine j_istore C [(6, .int (nI 0)), (5, .int (-1)), (4, .int (nI 0)), (0, .ref (q 0)), (1, .int (nI 2)), (2, .int (nI pn)), (3, .int (nI wn))] dX11_brings_52 (by decide) rfl ?_
            refine j_L [3, 4, 5, 6, 2, 1, 0] [(0, .ref (q 0)), (1, .int (nI 2)), (2, .int (nI pn)), (3, .int (nI wn)), (4, .int (nI 0)), (5, .int (-1)), (6, .int (nI 0))] rfl ?_
            refine j_loop (X := Nat × Nat × Int32 × (Nat → Int32) × (Nat → Nat → Int32)) (fun (z : Nat × Nat × Int32 × (Nat → Int32) × (Nat → Nat → Int32)) => match z with | (b, m, ls, T, Y) => b ≤ 100 ∧ FrT T Y S X ∧ brI V row sh np nw pn 2 zz b m ls) (fun (z : Nat × Nat × Int32 × (Nat → Int32) × (Nat → Nat → Int32)) => match z with | (b, m, ls, T, Y) => 100 - b) (fun (z : Nat × Nat × Int32 × (Nat → Int32) × (Nat → Nat → Int32)) => match z with | (b, m, ls, T, Y) => (T, Y, P)) (fun (z : Nat × Nat × Int32 × (Nat → Int32) × (Nat → Nat → Int32)) => match z with | (b, m, ls, T, Y) => [(0, .ref (q 0)), (1, .int (nI 2)), (2, .int (nI pn)), (3, .int (nI wn)), (4, .int (nI m)), (5, .int ls), (6, .int (nI b))]) (0, 0, -1, S, X) (⟨Nat.zero_le _, FrT.rf, Nat.le_refl _, Nat.zero_add _, Or.inl ⟨rfl, rfl, rfl⟩⟩) rfl rfl ?_
            rintro ⟨b, m, ls, T, Y⟩ ⟨hi, hT, hB⟩ ih
            try dsimp only at ih ⊢
            refine j_iload C 6 dX11_brings_54 rfl ?_
            refine j_bipush C (v := (nI 99)) dX11_brings_56 (by decide) ?_
            refine j_icmp_gt C 114 dX11_brings_58 (by decide) (fun c58 => ?_) (fun c58 => ?_)
            · rw [nI_ltI (by omega) (by omega)] at c58
              refine j_iload_n C 3 dX11_brings_114 rfl ?_
              refine j_if_ne C 121 dX11_brings_115 (by decide) (fun c115 => ?_) (fun c115 => ?_)
              · rw [show (0 : Int32) = nI 0 from rfl, nI_eq (by omega) (by omega)] at c115
                have hmb := hB.1
                refine j_iload C 4 dX11_brings_121 rfl ?_
                refine j_if_ne C 134 dX11_brings_123 (by decide) (fun c123 => ?_) (fun c123 => ?_)
                · rw [show (0 : Int32) = nI 0 from rfl, nI_eq (by omega) (by omega)] at c123
                  refine j_iload C 5 dX11_brings_134 rfl ?_
                  refine j_iret C dX11_brings_136 ?_
                  unfold sp_brings
                  rw [if_pos ⟨show inn _ 0 3 from c4, c12, c21⟩]
                  rw [tN_nI (n := 2) (by decide), if_neg c36, e3, e8, eso, tN_nI (n := np) (by omega), tN_nI (n := nw) (by omega), tN_nI (n := zz) (by omega), tN_nI (n := pn) (by omega)]
                  obtain ⟨hm1, hm2, hm3⟩ := hB
                  obtain rfl : b = 100 := by omega
                  have hm4 : m = (brF V row sh np nw pn 2 zz 100).1 := hm2
                  rw [if_neg (fun h => c123 (by rw [hm4]; exact h.2)), if_neg (nI_ne0 (by omega) (by omega))]
                  rcases hm3 with ⟨h0, -, -⟩ | ⟨-, j, hj, ej, e2⟩
                  · exact absurd h0 c123
                  · exact ⟨by rw [e2]; exact ej, hC.th hT⟩
                · rw [show (0 : Int32) = nI 0 from rfl, nI_eq (by omega) (by omega)] at c123
                  refine j_aload_n C 0 dX11_brings_126 rfl ?_
                  refine j_iconst C (v := (nI 2)) dX11_brings_127 (by decide) ?_
                  refine j_callV (As := [.int (nI 2)]) (rest := []) C vw11_90 (h_error 2 (by decide)) ⟨0, 11, _, _, rfl, rfl, rfl⟩ rfl (Nat.le_of_ble_eq_true rfl) dX11_brings_128 (by decide) ?_
                  rintro _ _ ⟨rfl, rfl⟩
                  refine j_goto C 136 dX11_brings_131 (by decide) ?_
                  refine j_iret C dX11_brings_136 ?_
                  unfold sp_brings
                  rw [if_pos ⟨show inn _ 0 3 from c4, c12, c21⟩]
                  rw [tN_nI (n := 2) (by decide), if_neg c36, e3, e8, eso, tN_nI (n := np) (by omega), tN_nI (n := nw) (by omega), tN_nI (n := zz) (by omega), tN_nI (n := pn) (by omega)]
                  obtain ⟨hm1, hm2, hm3⟩ := hB
                  obtain rfl : b = 100 := by omega
                  have hm4 : m = (brF V row sh np nw pn 2 zz 100).1 := hm2
                  rw [if_pos ⟨by rw [show wn = 1 by omega], by rw [← hm4]; exact c123⟩]
                  exact ⟨show (-1000000000 : Int32) - nI 2 = -1000000002 from by decide, (hC.th hT).er 2⟩
              · rw [show (0 : Int32) = nI 0 from rfl, nI_eq (by omega) (by omega)] at c115
                refine j_iload C 4 dX11_brings_118 rfl ?_
                refine j_iret C dX11_brings_120 ?_
                unfold sp_brings
                rw [if_pos ⟨show inn _ 0 3 from c4, c12, c21⟩]
                rw [tN_nI (n := 2) (by decide), if_neg c36, e3, e8, eso, tN_nI (n := np) (by omega), tN_nI (n := nw) (by omega), tN_nI (n := zz) (by omega), tN_nI (n := pn) (by omega)]
                obtain ⟨hm1, hm2, hm3⟩ := hB
                obtain rfl : b = 100 := by omega
                have hm4 : m = (brF V row sh np nw pn 2 zz 100).1 := hm2
                rw [if_neg (fun h => absurd h.1 (by rw [show wn = 0 by omega]; decide)), if_pos (by rw [show wn = 0 by omega]; rfl), ← hm4]
                exact ⟨rfl, hC.th hT⟩
            · rw [nI_ltI (by omega) (by omega)] at c58
              refine j_aload_n C 0 dX11_brings_61 rfl ?_
              refine j_iconst C (v := (nI 0)) dX11_brings_62 (by decide) ?_
              refine j_callVv (As := [.int (nI 0)]) (rest := []) C vw11_225 (h_imagine (hF.ft hT) hI (hK.ft hT) hW 0 (by omega)) ⟨0, 11, _, _, rfl, rfl, rfl⟩ rfl (Nat.le_of_ble_eq_true rfl) dX11_brings_63 (by decide) ?_
              rintro _ ⟨S0, X0, rfl, hF2w, hT0⟩
              have hTT := hT0.tr hT
              refine j_aload_n C 0 dX11_brings_66 rfl ?_
              refine j_get C (v := .ref (q 5)) 0 3 rfl rfl inlC11 (by decide) kf11_79 rfl dX11_brings_67 ?_
              refine j_getN C (v := .ref (q 64)) 5 11 rfl rfl inlC1 (by decide) kf11_148 rfl dX11_brings_70 ?_
              refine j_iload_n C 2 dX11_brings_73 rfl ?_
              refine j_iload C 6 dX11_brings_74 rfl ?_
              refine j_iastN C 64 0 rfl rfl pn rfl (by omega) (by decide) dX11_brings_76 (S0, va_up X0 64 (upd (X0 64) pn (nI b)), P) rfl ?_
              refine j_aload_n C 0 dX11_brings_77 rfl ?_
              refine j_iload_n C 2 dX11_brings_78 rfl ?_
              refine j_aload_n C 0 dX11_brings_79 rfl ?_
              refine j_get C (v := .ref (q 33)) 0 6 rfl rfl inlC11 (by decide) kf11_25 rfl dX11_brings_80 ?_
              refine j_iload_n C 1 dX11_brings_83 rfl ?_
              refine j_aaldN C 33 2 rfl rfl 2 rfl (by decide) (by decide) rfl dX11_brings_84 ?_
              refine j_callV (As := [.int (nI pn), .ref (q 23)]) (rest := []) C vw11_249 (h_picksAsTold_2 (w := (wv (brV V pn (nI b)) row nw)) hI (hF2w.setW (br_w hV15 hV16 hn6 hpn hF2w.weighs)) ((hC.l0.ft (by omega) (by omega) hTT FR.rf).oth (by omega)) ((hC.l1.ft (by omega) (by omega) hTT FR.rf).oth (by omega)) pn zz hpn ((hTT.1 31 (by omega)).trans hss) hzz) ⟨0, 11, _, _, rfl, rfl, rfl⟩ rfl (Nat.le_of_ble_eq_true rfl) dX11_brings_85 (by decide) ?_
              rintro _ _ ⟨T1, Y1, rfl, hT1, rfl⟩
              have hx8 : ∀ k, va_up X0 64 (upd (X0 64) pn (nI b)) 84 k = X 84 k := fun k => congrFun ((va_n (by omega)).trans (hTT.2 84 (by omega) (by omega) (by omega))) k
              refine j_v (bI (brP V row sh np nw pn 2 zz (nI b))) (bI_c ⟨fun h k hk => (h k hk).trans ((hx8 k).trans (hC.shi 2 (by omega) k (by rw [eso, tN_nI (by omega)]; exact hk))), fun h k hk => (h k hk).trans ((hx8 k).trans (hC.shi 2 (by omega) k (by rw [eso, tN_nI (by omega)]; exact hk))).symm⟩) ?_
              refine j_if_eq C 108 dX11_brings_88 (by decide) (fun c88 => ?_) (fun c88 => ?_)
              · replace c88 := bI_f c88
                refine j_iinc C (v := (nI (b + 1))) 6 [(6, .int (nI (b + 1))), (0, .ref (q 0)), (1, .int (nI 2)), (2, .int (nI pn)), (3, .int (nI wn)), (4, .int (nI m)), (5, .int ls)] dX11_brings_108 rfl (nI_1 _) (by decide) rfl ?_
                refine j_goto C 54 dX11_brings_111 (by decide) ?_
                refine j_L [1, 2, 3, 4, 5, 6, 0] [(0, .ref (q 0)), (1, .int (nI 2)), (2, .int (nI pn)), (3, .int (nI wn)), (4, .int (nI m)), (5, .int ls), (6, .int (nI (b + 1)))] rfl ?_
                exact ih (b + 1, m, ls, T1, Y1) (⟨by dsimp only; omega, hT1.tr ((hT0.up (by omega)).tr hT), brI_no hB (by omega) c88⟩) (by dsimp only; omega)
              · replace c88 := bI_t c88
                refine j_iinc C (v := (nI (m + 1))) 4 [(4, .int (nI (m + 1))), (0, .ref (q 0)), (1, .int (nI 2)), (2, .int (nI pn)), (3, .int (nI wn)), (5, .int ls), (6, .int (nI b))] dX11_brings_91 rfl (nI_1 _) (by decide) rfl ?_
                refine j_iload C 5 dX11_brings_94 rfl ?_
                refine j_if_ge C 104 dX11_brings_96 (by decide) (fun c96 => ?_) (fun c96 => ?_)
                · skip
                  refine j_iload C 5 dX11_brings_104 rfl ?_
                  refine j_istore C [(5, .int ls), (4, .int (nI (m + 1))), (0, .ref (q 0)), (1, .int (nI 2)), (2, .int (nI pn)), (3, .int (nI wn)), (6, .int (nI b))] dX11_brings_106 (by decide) rfl ?_
                  refine j_iinc C (v := (nI (b + 1))) 6 [(6, .int (nI (b + 1))), (5, .int ls), (4, .int (nI (m + 1))), (0, .ref (q 0)), (1, .int (nI 2)), (2, .int (nI pn)), (3, .int (nI wn))] dX11_brings_108 rfl (nI_1 _) (by decide) rfl ?_
                  refine j_goto C 54 dX11_brings_111 (by decide) ?_
                  refine j_L [3, 4, 5, 6, 2, 1, 0] [(0, .ref (q 0)), (1, .int (nI 2)), (2, .int (nI pn)), (3, .int (nI wn)), (4, .int (nI (m + 1))), (5, .int ls), (6, .int (nI (b + 1)))] rfl ?_
                  exact ih (b + 1, m + 1, ls, T1, Y1) (⟨by dsimp only; omega, hT1.tr ((hT0.up (by omega)).tr hT), brI_1 hB (by omega) c88 c96⟩) (by dsimp only; omega)
                · skip
                  refine j_iload C 6 dX11_brings_99 rfl ?_
                  refine j_goto C 106 dX11_brings_101 (by decide) ?_
                  refine j_istore C [(5, .int (nI b)), (4, .int (nI (m + 1))), (0, .ref (q 0)), (1, .int (nI 2)), (2, .int (nI pn)), (3, .int (nI wn)), (6, .int (nI b))] dX11_brings_106 (by decide) rfl ?_
                  refine j_iinc C (v := (nI (b + 1))) 6 [(6, .int (nI (b + 1))), (5, .int (nI b)), (4, .int (nI (m + 1))), (0, .ref (q 0)), (1, .int (nI 2)), (2, .int (nI pn)), (3, .int (nI wn))] dX11_brings_108 rfl (nI_1 _) (by decide) rfl ?_
                  refine j_goto C 54 dX11_brings_111 (by decide) ?_
                  refine j_L [3, 4, 5, 6, 2, 1, 0] [(0, .ref (q 0)), (1, .int (nI 2)), (2, .int (nI pn)), (3, .int (nI wn)), (4, .int (nI (m + 1))), (5, .int (nI b)), (6, .int (nI (b + 1)))] rfl ?_
                  exact ih (b + 1, m + 1, nI b, T1, Y1) (⟨by dsimp only; omega, hT1.tr ((hT0.up (by omega)).tr hT), brI_0 hB (by omega) c88 (nle c96)⟩) (by dsimp only; omega)
          · obtain ⟨-, zz, hzz, eso⟩ := hSh 3 (by omega)
            have hss : S 32 = nI zz := (hC.shs 3 (by omega)).trans eso
            refine j_iconst C (v := (nI 0)) dX11_brings_45 (by decide) ?_
            refine j_istore C [(4, .int (nI 0)), (0, .ref (q 0)), (1, .int (nI 3)), (2, .int (nI pn)), (3, .int (nI wn))] dX11_brings_46 (by decide) rfl ?_
            refine j_iconst C (v := (-1)) dX11_brings_48 (by decide) ?_
            refine j_istore C [(5, .int (-1)), (4, .int (nI 0)), (0, .ref (q 0)), (1, .int (nI 3)), (2, .int (nI pn)), (3, .int (nI wn))] dX11_brings_49 (by decide) rfl ?_
            refine j_iconst C (v := (nI 0)) dX11_brings_51 (by decide) ?_
            refine j_istore C [(6, .int (nI 0)), (5, .int (-1)), (4, .int (nI 0)), (0, .ref (q 0)), (1, .int (nI 3)), (2, .int (nI pn)), (3, .int (nI wn))] dX11_brings_52 (by decide) rfl ?_
            refine j_L [3, 4, 5, 6, 2, 1, 0] [(0, .ref (q 0)), (1, .int (nI 3)), (2, .int (nI pn)), (3, .int (nI wn)), (4, .int (nI 0)), (5, .int (-1)), (6, .int (nI 0))] rfl ?_
            refine j_loop (X := Nat × Nat × Int32 × (Nat → Int32) × (Nat → Nat → Int32)) (fun (z : Nat × Nat × Int32 × (Nat → Int32) × (Nat → Nat → Int32)) => match z with | (b, m, ls, T, Y) => b ≤ 100 ∧ FrT T Y S X ∧ brI V row sh np nw pn 3 zz b m ls) (fun (z : Nat × Nat × Int32 × (Nat → Int32) × (Nat → Nat → Int32)) => match z with | (b, m, ls, T, Y) => 100 - b) (fun (z : Nat × Nat × Int32 × (Nat → Int32) × (Nat → Nat → Int32)) => match z with | (b, m, ls, T, Y) => (T, Y, P)) (fun (z : Nat × Nat × Int32 × (Nat → Int32) × (Nat → Nat → Int32)) => match z with | (b, m, ls, T, Y) => [(0, .ref (q 0)), (1, .int (nI 3)), (2, .int (nI pn)), (3, .int (nI wn)), (4, .int (nI m)), (5, .int ls), (6, .int (nI b))]) (0, 0, -1, S, X) (⟨Nat.zero_le _, FrT.rf, Nat.le_refl _, Nat.zero_add _, Or.inl ⟨rfl, rfl, rfl⟩⟩) rfl rfl ?_
            rintro ⟨b, m, ls, T, Y⟩ ⟨hi, hT, hB⟩ ih
            try dsimp only at ih ⊢
            refine j_iload C 6 dX11_brings_54 rfl ?_
            refine j_bipush C (v := (nI 99)) dX11_brings_56 (by decide) ?_
            refine j_icmp_gt C 114 dX11_brings_58 (by decide) (fun c58 => ?_) (fun c58 => ?_)
            · rw [nI_ltI (by omega) (by omega)] at c58
              refine j_iload_n C 3 dX11_brings_114 rfl ?_
              refine j_if_ne C 121 dX11_brings_115 (by decide) (fun c115 => ?_) (fun c115 => ?_)
              · rw [show (0 : Int32) = nI 0 from rfl, nI_eq (by omega) (by omega)] at c115
                have hmb := hB.1
                refine j_iload C 4 dX11_brings_121 rfl ?_
                refine j_if_ne C 134 dX11_brings_123 (by decide) (fun c123 => ?_) (fun c123 => ?_)
                · rw [show (0 : Int32) = nI 0 from rfl, nI_eq (by omega) (by omega)] at c123
                  refine j_iload C 5 dX11_brings_134 rfl ?_
                  refine j_iret C dX11_brings_136 ?_
                  unfold sp_brings
                  rw [if_pos ⟨show inn _ 0 3 from c4, c12, c21⟩]
                  rw [tN_nI (n := 3) (by decide), if_neg c36, e3, e8, eso, tN_nI (n := np) (by omega), tN_nI (n := nw) (by omega), tN_nI (n := zz) (by omega), tN_nI (n := pn) (by omega)]
                  obtain ⟨hm1, hm2, hm3⟩ := hB
                  obtain rfl : b = 100 := by omega
                  have hm4 : m = (brF V row sh np nw pn 3 zz 100).1 := hm2
                  rw [if_neg (fun h => c123 (by rw [hm4]; exact h.2)), if_neg (nI_ne0 (by omega) (by omega))]
                  rcases hm3 with ⟨h0, -, -⟩ | ⟨-, j, hj, ej, e2⟩
                  · exact absurd h0 c123
                  · exact ⟨by rw [e2]; exact ej, hC.th hT⟩
                · rw [show (0 : Int32) = nI 0 from rfl, nI_eq (by omega) (by omega)] at c123
                  refine j_aload_n C 0 dX11_brings_126 rfl ?_
                  refine j_iconst C (v := (nI 2)) dX11_brings_127 (by decide) ?_
                  refine j_callV (As := [.int (nI 2)]) (rest := []) C vw11_90 (h_error 2 (by decide)) ⟨0, 11, _, _, rfl, rfl, rfl⟩ rfl (Nat.le_of_ble_eq_true rfl) dX11_brings_128 (by decide) ?_
                  rintro _ _ ⟨rfl, rfl⟩
                  refine j_goto C 136 dX11_brings_131 (by decide) ?_
                  refine j_iret C dX11_brings_136 ?_
                  unfold sp_brings
                  rw [if_pos ⟨show inn _ 0 3 from c4, c12, c21⟩]
                  rw [tN_nI (n := 3) (by decide), if_neg c36, e3, e8, eso, tN_nI (n := np) (by omega), tN_nI (n := nw) (by omega), tN_nI (n := zz) (by omega), tN_nI (n := pn) (by omega)]
                  obtain ⟨hm1, hm2, hm3⟩ := hB
                  obtain rfl : b = 100 := by omega
                  have hm4 : m = (brF V row sh np nw pn 3 zz 100).1 := hm2
                  rw [if_pos ⟨by rw [show wn = 1 by omega], by rw [← hm4]; exact c123⟩]
                  exact ⟨show (-1000000000 : Int32) - nI 2 = -1000000002 from by decide, (hC.th hT).er 2⟩
              · rw [show (0 : Int32) = nI 0 from rfl, nI_eq (by omega) (by omega)] at c115
                refine j_iload C 4 dX11_brings_118 rfl ?_
                refine j_iret C dX11_brings_120 ?_
                unfold sp_brings
                rw [if_pos ⟨show inn _ 0 3 from c4, c12, c21⟩]
                rw [tN_nI (n := 3) (by decide), if_neg c36, e3, e8, eso, tN_nI (n := np) (by omega), tN_nI (n := nw) (by omega), tN_nI (n := zz) (by omega), tN_nI (n := pn) (by omega)]
                obtain ⟨hm1, hm2, hm3⟩ := hB
                obtain rfl : b = 100 := by omega
                have hm4 : m = (brF V row sh np nw pn 3 zz 100).1 := hm2
                rw [if_neg (fun h => absurd h.1 (by rw [show wn = 0 by omega]; decide)), if_pos (by rw [show wn = 0 by omega]; rfl), ← hm4]
                exact ⟨rfl, hC.th hT⟩
            · rw [nI_ltI (by omega) (by omega)] at c58
              refine j_aload_n C 0 dX11_brings_61 rfl ?_
              refine j_iconst C (v := (nI 0)) dX11_brings_62 (by decide) ?_
              refine j_callVv (As := [.int (nI 0)]) (rest := []) C vw11_225 (h_imagine (hF.ft hT) hI (hK.ft hT) hW 0 (by omega)) ⟨0, 11, _, _, rfl, rfl, rfl⟩ rfl (Nat.le_of_ble_eq_true rfl) dX11_brings_63 (by decide) ?_
              rintro _ ⟨S0, X0, rfl, hF2w, hT0⟩
              have hTT := hT0.tr hT
              refine j_aload_n C 0 dX11_brings_66 rfl ?_
              refine j_get C (v := .ref (q 5)) 0 3 rfl rfl inlC11 (by decide) kf11_79 rfl dX11_brings_67 ?_
              refine j_getN C (v := .ref (q 64)) 5 11 rfl rfl inlC1 (by decide) kf11_148 rfl dX11_brings_70 ?_
              refine j_iload_n C 2 dX11_brings_73 rfl ?_
              refine j_iload C 6 dX11_brings_74 rfl ?_
              refine j_iastN C 64 0 rfl rfl pn rfl (by omega) (by decide) dX11_brings_76 (S0, va_up X0 64 (upd (X0 64) pn (nI b)), P) rfl ?_
              refine j_aload_n C 0 dX11_brings_77 rfl ?_
              refine j_iload_n C 2 dX11_brings_78 rfl ?_
              refine j_aload_n C 0 dX11_brings_79 rfl ?_
              refine j_get C (v := .ref (q 33)) 0 6 rfl rfl inlC11 (by decide) kf11_25 rfl dX11_brings_80 ?_
              refine j_iload_n C 1 dX11_brings_83 rfl ?_
              refine j_aaldN C 33 2 rfl rfl 3 rfl (by decide) (by decide) rfl dX11_brings_84 ?_
              refine j_callV (As := [.int (nI pn), .ref (q 24)]) (rest := []) C vw11_249 (h_picksAsTold_3 (w := (wv (brV V pn (nI b)) row nw)) hI (hF2w.setW (br_w hV15 hV16 hn6 hpn hF2w.weighs)) ((hC.l0.ft (by omega) (by omega) hTT FR.rf).oth (by omega)) ((hC.l1.ft (by omega) (by omega) hTT FR.rf).oth (by omega)) pn zz hpn ((hTT.1 32 (by omega)).trans hss) hzz) ⟨0, 11, _, _, rfl, rfl, rfl⟩ rfl (Nat.le_of_ble_eq_true rfl) dX11_brings_85 (by decide) ?_
              rintro _ _ ⟨T1, Y1, rfl, hT1, rfl⟩
              have hx8 : ∀ k, va_up X0 64 (upd (X0 64) pn (nI b)) 85 k = X 85 k := fun k => congrFun ((va_n (by omega)).trans (hTT.2 85 (by omega) (by omega) (by omega))) k
              refine j_v (bI (brP V row sh np nw pn 3 zz (nI b))) (bI_c ⟨fun h k hk => (h k hk).trans ((hx8 k).trans (hC.shi 3 (by omega) k (by rw [eso, tN_nI (by omega)]; exact hk))), fun h k hk => (h k hk).trans ((hx8 k).trans (hC.shi 3 (by omega) k (by rw [eso, tN_nI (by omega)]; exact hk))).symm⟩) ?_
              refine j_if_eq C 108 dX11_brings_88 (by decide) (fun c88 => ?_) (fun c88 => ?_)
              · replace c88 := bI_f c88
                refine j_iinc C (v := (nI (b + 1))) 6 [(6, .int (nI (b + 1))), (0, .ref (q 0)), (1, .int (nI 3)), (2, .int (nI pn)), (3, .int (nI wn)), (4, .int (nI m)), (5, .int ls)] dX11_brings_108 rfl (nI_1 _) (by decide) rfl ?_
                refine j_goto C 54 dX11_brings_111 (by decide) ?_
                refine j_L [1, 2, 3, 4, 5, 6, 0] [(0, .ref (q 0)), (1, .int (nI 3)), (2, .int (nI pn)), (3, .int (nI wn)), (4, .int (nI m)), (5, .int ls), (6, .int (nI (b + 1)))] rfl ?_
                exact ih (b + 1, m, ls, T1, Y1) (⟨by dsimp only; omega, hT1.tr ((hT0.up (by omega)).tr hT), brI_no hB (by omega) c88⟩) (by dsimp only; omega)
              · replace c88 := bI_t c88
                refine j_iinc C (v := (nI (m + 1))) 4 [(4, .int (nI (m + 1))), (0, .ref (q 0)), (1, .int (nI 3)), (2, .int (nI pn)), (3, .int (nI wn)), (5, .int ls), (6, .int (nI b))] dX11_brings_91 rfl (nI_1 _) (by decide) rfl ?_
                refine j_iload C 5 dX11_brings_94 rfl ?_
                refine j_if_ge C 104 dX11_brings_96 (by decide) (fun c96 => ?_) (fun c96 => ?_)
                · skip
                  refine j_iload C 5 dX11_brings_104 rfl ?_
                  refine j_istore C [(5, .int ls), (4, .int (nI (m + 1))), (0, .ref (q 0)), (1, .int (nI 3)), (2, .int (nI pn)), (3, .int (nI wn)), (6, .int (nI b))] dX11_brings_106 (by decide) rfl ?_
                  refine j_iinc C (v := (nI (b + 1))) 6 [(6, .int (nI (b + 1))), (5, .int ls), (4, .int (nI (m + 1))), (0, .ref (q 0)), (1, .int (nI 3)), (2, .int (nI pn)), (3, .int (nI wn))] dX11_brings_108 rfl (nI_1 _) (by decide) rfl ?_
                  refine j_goto C 54 dX11_brings_111 (by decide) ?_
                  refine j_L [3, 4, 5, 6, 2, 1, 0] [(0, .ref (q 0)), (1, .int (nI 3)), (2, .int (nI pn)), (3, .int (nI wn)), (4, .int (nI (m + 1))), (5, .int ls), (6, .int (nI (b + 1)))] rfl ?_
                  exact ih (b + 1, m + 1, ls, T1, Y1) (⟨by dsimp only; omega, hT1.tr ((hT0.up (by omega)).tr hT), brI_1 hB (by omega) c88 c96⟩) (by dsimp only; omega)
                · skip
                  refine j_iload C 6 dX11_brings_99 rfl ?_
                  refine j_goto C 106 dX11_brings_101 (by decide) ?_
                  refine j_istore C [(5, .int (nI b)), (4, .int (nI (m + 1))), (0, .ref (q 0)), (1, .int (nI 3)), (2, .int (nI pn)), (3, .int (nI wn)), (6, .int (nI b))] dX11_brings_106 (by decide) rfl ?_
                  refine j_iinc C (v := (nI (b + 1))) 6 [(6, .int (nI (b + 1))), (5, .int (nI b)), (4, .int (nI (m + 1))), (0, .ref (q 0)), (1, .int (nI 3)), (2, .int (nI pn)), (3, .int (nI wn))] dX11_brings_108 rfl (nI_1 _) (by decide) rfl ?_
                  refine j_goto C 54 dX11_brings_111 (by decide) ?_
                  refine j_L [3, 4, 5, 6, 2, 1, 0] [(0, .ref (q 0)), (1, .int (nI 3)), (2, .int (nI pn)), (3, .int (nI wn)), (4, .int (nI (m + 1))), (5, .int (nI b)), (6, .int (nI (b + 1)))] rfl ?_
                  exact ih (b + 1, m + 1, nI b, T1, Y1) (⟨by dsimp only; omega, hT1.tr ((hT0.up (by omega)).tr hT), brI_0 hB (by omega) c88 (nle c96)⟩) (by dsimp only; omega)
        · skip
          refine j_aload_n C 0 dX11_brings_39 rfl ?_
          refine j_iconst C (v := (nI 2)) dX11_brings_40 (by decide) ?_
          refine j_callV (As := [.int (nI 2)]) (rest := []) C vw11_90 (h_error 2 (by decide)) ⟨0, 11, _, _, rfl, rfl, rfl⟩ rfl (Nat.le_of_ble_eq_true rfl) dX11_brings_41 (by decide) ?_
          rintro _ _ ⟨rfl, rfl⟩
          refine j_iret C dX11_brings_44 ?_
          unfold sp_brings
          rw [if_pos ⟨show inn _ 0 3 from c4, c12, c21⟩]
          rw [tN_nI (n := sn) (by omega), if_pos c36]
          exact ⟨show (-1000000000 : Int32) - nI 2 = -1000000002 from by decide, hC.er 2⟩
      · replace c21 := bI_f c21
        refine j_aload_n C 0 dX11_brings_24 rfl ?_
        refine j_iconst C (v := (nI 1)) dX11_brings_25 (by decide) ?_
        refine j_callV (As := [.int (nI 1)]) (rest := []) C vw11_90 (h_error 1 (by decide)) ⟨0, 11, _, _, rfl, rfl, rfl⟩ rfl (Nat.le_of_ble_eq_true rfl) dX11_brings_26 (by decide) ?_
        rintro _ _ ⟨rfl, rfl⟩
        refine j_iret C dX11_brings_29 ?_
        unfold sp_brings
        rw [if_neg (fun h => c21 h.2.2)]
        exact ⟨show (-1000000000 : Int32) - nI 1 = -1000000001 from by decide, hC.er 1⟩
theorem fed_iff {V row : Nat → Int32} {np nw n s : Nat} (e3 : row 3 = nI np) (e8 : row 8 = nI nw) (hn : np ≤ 6) (hw : nw ≤ 8) (h16 : V 16 = -1) (h18 : V 18 = -1) : (∀ p, p < np → ¬ row (30 + 6 * p + 5) < dawnsF np (wtF row nw (nI s)) row n (30 + 6 * p + 5)) ↔ fedP V row n np s := by
  have e : dawnsF np (wtF row nw (nI s)) row n = dawnsF np (wv (pdV V s) row nw) row n := dawns_w (wt_wv (V := pdV V s) pk_us ((pk_un (by omega)).trans h16) ((pk_un (by omega)).trans h18) hn) row n
  rw [e]
  exact ⟨fun h p hp g => h p hp ((hg_iff e3 e8 hn hw).1 g), fun h p hp g => h p hp ((hg_iff e3 e8 hn hw).2 g)⟩
theorem pd_none {V row : Nat → Int32} {n np N : Nat} (h : ∀ i, i < N → ¬ fedP V row n np i) : pdF V row n np N = none := by
  induction N with
  | zero => rfl
  | succ N ih => unfold pdF; rw [ih (fun i hi => h i (by omega))]; exact if_neg (h N (by omega))
theorem pd_some {V row : Nat → Int32} {n np N b : Nat} (hb : b < N) (hf : fedP V row n np b) (h1 : ∀ i, i < N → fedP V row n np i → popN i ≤ popN b) (h2 : ∀ i, i < b → fedP V row n np i → popN i < popN b) : pdF V row n np N = some b := by
  have key : ∀ M, M ≤ N → (M ≤ b → (pdF V row n np M = none ∨ ∃ c, pdF V row n np M = some c ∧ popN c < popN b)) ∧ (b < M → pdF V row n np M = some b) := by
    intro M
    induction M with
    | zero => intro _; exact ⟨fun _ => Or.inl rfl, fun h => absurd h (Nat.not_lt_zero _)⟩
    | succ M ih =>
      intro hM
      obtain ⟨i1, i2⟩ := ih (by omega)
      constructor
      · intro hMb
        unfold pdF
        rcases i1 (by omega) with e | ⟨c, e, hc⟩
        · rw [e]; dsimp only
          by_cases g : fedP V row n np M
          · rw [if_pos g]; exact Or.inr ⟨M, rfl, h2 M (by omega) g⟩
          · rw [if_neg g]; exact Or.inl rfl
        · rw [e]; dsimp only
          by_cases g : popN c < popN M ∧ fedP V row n np M
          · rw [if_pos g]; exact Or.inr ⟨M, rfl, h2 M (by omega) g.2⟩
          · rw [if_neg g]; exact Or.inr ⟨c, rfl, hc⟩
      · intro hMb
        unfold pdF
        by_cases e0 : M = b
        · subst e0
          rcases i1 (by omega) with e | ⟨c, e, hc⟩
          · rw [e]; exact if_pos hf
          · rw [e]; exact if_pos ⟨hc, hf⟩
        · rw [i2 (by omega)]; dsimp only
          rw [if_neg (fun g => by have := h1 M (by omega) g.2; omega)]
  exact (key N (Nat.le_refl _)).2 hb
theorem pop_nw : ∀ w, w ≤ 8 → ∀ i, i < 2 ^ w → popN i ≤ w := by decide +kernel
theorem pd_m : ∀ m, m ≤ 9 → 1 ≤ m → nI m - nI 1 + (-1) = nI (m - 1) - nI 1 := by decide +kernel
theorem pd_lt : ∀ m, m ≤ 9 → (nI m - nI 1 < 0 ↔ m = 0) := by decide +kernel
theorem pd_eq : ∀ m, m ≤ 9 → 1 ≤ m → nI m - nI 1 = nI (m - 1) := by decide +kernel

theorem swBC : SW RX11 235 yJ6_bitCount_0f7a4 cJ6_bitCount_0f7a4 1 (some .int) 1 := ⟨gw 772 (by decide +kernel) rfl, gw 770 (by decide +kernel) rfl, gw 771 (by decide +kernel) rfl, gw 103 (by decide +kernel) rfl, by decide +kernel, by decide⟩
theorem kcJ6_265 : Cond.constant RJ6 265 (1431655765) ∈ lw_g := gw 773 (by decide +kernel) rfl
theorem kcJ6_266 : Cond.constant RJ6 266 (858993459) ∈ lw_g := gw 774 (by decide +kernel) rfl
theorem kcJ6_267 : Cond.constant RJ6 267 (252645135) ∈ lw_g := gw 775 (by decide +kernel) rfl
theorem dJ6_bitCount_0f7a4_0 : decode cJ6_bitCount_0f7a4 0 = .ok (.iload_n 0, 1) := by decide +kernel
theorem dJ6_bitCount_0f7a4_1 : decode cJ6_bitCount_0f7a4 1 = .ok (.iload_n 0, 1) := by decide +kernel
theorem dJ6_bitCount_0f7a4_2 : decode cJ6_bitCount_0f7a4 2 = .ok (.iconst 1, 1) := by decide +kernel
theorem dJ6_bitCount_0f7a4_3 : decode cJ6_bitCount_0f7a4 3 = .ok (.iushr, 1) := by decide +kernel
theorem dJ6_bitCount_0f7a4_4 : decode cJ6_bitCount_0f7a4 4 = .ok (.ldc_w 265, 3) := by decide +kernel
theorem dJ6_bitCount_0f7a4_7 : decode cJ6_bitCount_0f7a4 7 = .ok (.iand, 1) := by decide +kernel
theorem dJ6_bitCount_0f7a4_8 : decode cJ6_bitCount_0f7a4 8 = .ok (.isub, 1) := by decide +kernel
theorem dJ6_bitCount_0f7a4_9 : decode cJ6_bitCount_0f7a4 9 = .ok (.istore_n 0, 1) := by decide +kernel
theorem dJ6_bitCount_0f7a4_10 : decode cJ6_bitCount_0f7a4 10 = .ok (.iload_n 0, 1) := by decide +kernel
theorem dJ6_bitCount_0f7a4_11 : decode cJ6_bitCount_0f7a4 11 = .ok (.ldc_w 266, 3) := by decide +kernel
theorem dJ6_bitCount_0f7a4_14 : decode cJ6_bitCount_0f7a4 14 = .ok (.iand, 1) := by decide +kernel
theorem dJ6_bitCount_0f7a4_15 : decode cJ6_bitCount_0f7a4 15 = .ok (.iload_n 0, 1) := by decide +kernel
theorem dJ6_bitCount_0f7a4_16 : decode cJ6_bitCount_0f7a4 16 = .ok (.iconst 2, 1) := by decide +kernel
theorem dJ6_bitCount_0f7a4_17 : decode cJ6_bitCount_0f7a4 17 = .ok (.iushr, 1) := by decide +kernel
theorem dJ6_bitCount_0f7a4_18 : decode cJ6_bitCount_0f7a4 18 = .ok (.ldc_w 266, 3) := by decide +kernel
theorem dJ6_bitCount_0f7a4_21 : decode cJ6_bitCount_0f7a4 21 = .ok (.iand, 1) := by decide +kernel
theorem dJ6_bitCount_0f7a4_22 : decode cJ6_bitCount_0f7a4 22 = .ok (.iadd, 1) := by decide +kernel
theorem dJ6_bitCount_0f7a4_23 : decode cJ6_bitCount_0f7a4 23 = .ok (.istore_n 0, 1) := by decide +kernel
theorem dJ6_bitCount_0f7a4_24 : decode cJ6_bitCount_0f7a4 24 = .ok (.iload_n 0, 1) := by decide +kernel
theorem dJ6_bitCount_0f7a4_25 : decode cJ6_bitCount_0f7a4 25 = .ok (.iload_n 0, 1) := by decide +kernel
theorem dJ6_bitCount_0f7a4_26 : decode cJ6_bitCount_0f7a4 26 = .ok (.iconst 4, 1) := by decide +kernel
theorem dJ6_bitCount_0f7a4_27 : decode cJ6_bitCount_0f7a4 27 = .ok (.iushr, 1) := by decide +kernel
theorem dJ6_bitCount_0f7a4_28 : decode cJ6_bitCount_0f7a4 28 = .ok (.iadd, 1) := by decide +kernel
theorem dJ6_bitCount_0f7a4_29 : decode cJ6_bitCount_0f7a4 29 = .ok (.ldc_w 267, 3) := by decide +kernel
theorem dJ6_bitCount_0f7a4_32 : decode cJ6_bitCount_0f7a4 32 = .ok (.iand, 1) := by decide +kernel
theorem dJ6_bitCount_0f7a4_33 : decode cJ6_bitCount_0f7a4 33 = .ok (.istore_n 0, 1) := by decide +kernel
theorem dJ6_bitCount_0f7a4_34 : decode cJ6_bitCount_0f7a4 34 = .ok (.iload_n 0, 1) := by decide +kernel
theorem dJ6_bitCount_0f7a4_35 : decode cJ6_bitCount_0f7a4 35 = .ok (.iload_n 0, 1) := by decide +kernel
theorem dJ6_bitCount_0f7a4_36 : decode cJ6_bitCount_0f7a4 36 = .ok (.bipush 8, 2) := by decide +kernel
theorem dJ6_bitCount_0f7a4_38 : decode cJ6_bitCount_0f7a4 38 = .ok (.iushr, 1) := by decide +kernel
theorem dJ6_bitCount_0f7a4_39 : decode cJ6_bitCount_0f7a4 39 = .ok (.iadd, 1) := by decide +kernel
theorem dJ6_bitCount_0f7a4_40 : decode cJ6_bitCount_0f7a4 40 = .ok (.istore_n 0, 1) := by decide +kernel
theorem dJ6_bitCount_0f7a4_41 : decode cJ6_bitCount_0f7a4 41 = .ok (.iload_n 0, 1) := by decide +kernel
theorem dJ6_bitCount_0f7a4_42 : decode cJ6_bitCount_0f7a4 42 = .ok (.iload_n 0, 1) := by decide +kernel
theorem dJ6_bitCount_0f7a4_43 : decode cJ6_bitCount_0f7a4 43 = .ok (.bipush 16, 2) := by decide +kernel
theorem dJ6_bitCount_0f7a4_45 : decode cJ6_bitCount_0f7a4 45 = .ok (.iushr, 1) := by decide +kernel
theorem dJ6_bitCount_0f7a4_46 : decode cJ6_bitCount_0f7a4 46 = .ok (.iadd, 1) := by decide +kernel
theorem dJ6_bitCount_0f7a4_47 : decode cJ6_bitCount_0f7a4 47 = .ok (.istore_n 0, 1) := by decide +kernel
theorem dJ6_bitCount_0f7a4_48 : decode cJ6_bitCount_0f7a4 48 = .ok (.iload_n 0, 1) := by decide +kernel
theorem dJ6_bitCount_0f7a4_49 : decode cJ6_bitCount_0f7a4 49 = .ok (.bipush 63, 2) := by decide +kernel
theorem dJ6_bitCount_0f7a4_51 : decode cJ6_bitCount_0f7a4 51 = .ok (.iand, 1) := by decide +kernel
theorem dJ6_bitCount_0f7a4_52 : decode cJ6_bitCount_0f7a4 52 = .ok (.ireturn, 1) := by decide +kernel
set_option maxHeartbeats 2000000 in
set_option maxRecDepth 20000 in
theorem h_bitc {l : Launch} {D : va_G} {cI cG cW : ClassId} {q : Nat → Nat} {S : Nat → Int32} {X : Nat → Nat → Int32} {P : Nat → Nat} {x : Int32} : Ci l yJ6_bitCount_0f7a4 cJ6_bitCount_0f7a4 1 (some .int) 0 D (tyL cI cG cW) (wC cI cG cW q) [.int x] (S, X, P) (fun r τ => r = (((((((x - (((x.toUInt32 >>> ((nI 1).toUInt32 &&& Int32.toUInt32 31)).toInt32) &&& (1431655765))) &&& (858993459)) + ((((x - (((x.toUInt32 >>> ((nI 1).toUInt32 &&& Int32.toUInt32 31)).toInt32) &&& (1431655765))).toUInt32 >>> ((nI 2).toUInt32 &&& Int32.toUInt32 31)).toInt32) &&& (858993459))) + (((((x - (((x.toUInt32 >>> ((nI 1).toUInt32 &&& Int32.toUInt32 31)).toInt32) &&& (1431655765))) &&& (858993459)) + ((((x - (((x.toUInt32 >>> ((nI 1).toUInt32 &&& Int32.toUInt32 31)).toInt32) &&& (1431655765))).toUInt32 >>> ((nI 2).toUInt32 &&& Int32.toUInt32 31)).toInt32) &&& (858993459))).toUInt32 >>> ((nI 4).toUInt32 &&& Int32.toUInt32 31)).toInt32)) &&& (252645135)) + (((((((x - (((x.toUInt32 >>> ((nI 1).toUInt32 &&& Int32.toUInt32 31)).toInt32) &&& (1431655765))) &&& (858993459)) + ((((x - (((x.toUInt32 >>> ((nI 1).toUInt32 &&& Int32.toUInt32 31)).toInt32) &&& (1431655765))).toUInt32 >>> ((nI 2).toUInt32 &&& Int32.toUInt32 31)).toInt32) &&& (858993459))) + (((((x - (((x.toUInt32 >>> ((nI 1).toUInt32 &&& Int32.toUInt32 31)).toInt32) &&& (1431655765))) &&& (858993459)) + ((((x - (((x.toUInt32 >>> ((nI 1).toUInt32 &&& Int32.toUInt32 31)).toInt32) &&& (1431655765))).toUInt32 >>> ((nI 2).toUInt32 &&& Int32.toUInt32 31)).toInt32) &&& (858993459))).toUInt32 >>> ((nI 4).toUInt32 &&& Int32.toUInt32 31)).toInt32)) &&& (252645135)).toUInt32 >>> ((nI 8).toUInt32 &&& Int32.toUInt32 31)).toInt32)) + ((((((((x - (((x.toUInt32 >>> ((nI 1).toUInt32 &&& Int32.toUInt32 31)).toInt32) &&& (1431655765))) &&& (858993459)) + ((((x - (((x.toUInt32 >>> ((nI 1).toUInt32 &&& Int32.toUInt32 31)).toInt32) &&& (1431655765))).toUInt32 >>> ((nI 2).toUInt32 &&& Int32.toUInt32 31)).toInt32) &&& (858993459))) + (((((x - (((x.toUInt32 >>> ((nI 1).toUInt32 &&& Int32.toUInt32 31)).toInt32) &&& (1431655765))) &&& (858993459)) + ((((x - (((x.toUInt32 >>> ((nI 1).toUInt32 &&& Int32.toUInt32 31)).toInt32) &&& (1431655765))).toUInt32 >>> ((nI 2).toUInt32 &&& Int32.toUInt32 31)).toInt32) &&& (858993459))).toUInt32 >>> ((nI 4).toUInt32 &&& Int32.toUInt32 31)).toInt32)) &&& (252645135)) + (((((((x - (((x.toUInt32 >>> ((nI 1).toUInt32 &&& Int32.toUInt32 31)).toInt32) &&& (1431655765))) &&& (858993459)) + ((((x - (((x.toUInt32 >>> ((nI 1).toUInt32 &&& Int32.toUInt32 31)).toInt32) &&& (1431655765))).toUInt32 >>> ((nI 2).toUInt32 &&& Int32.toUInt32 31)).toInt32) &&& (858993459))) + (((((x - (((x.toUInt32 >>> ((nI 1).toUInt32 &&& Int32.toUInt32 31)).toInt32) &&& (1431655765))) &&& (858993459)) + ((((x - (((x.toUInt32 >>> ((nI 1).toUInt32 &&& Int32.toUInt32 31)).toInt32) &&& (1431655765))).toUInt32 >>> ((nI 2).toUInt32 &&& Int32.toUInt32 31)).toInt32) &&& (858993459))).toUInt32 >>> ((nI 4).toUInt32 &&& Int32.toUInt32 31)).toInt32)) &&& (252645135)).toUInt32 >>> ((nI 8).toUInt32 &&& Int32.toUInt32 31)).toInt32)).toUInt32 >>> ((nI 16).toUInt32 &&& Int32.toUInt32 31)).toInt32)) &&& (nI 63) ∧ τ = (S, X, P)) := by
  refine Ci.of (by decide) (Nat.le_of_ble_eq_true rfl) ?_
  intro p_ e_ s_ m_ b_ M_ c_ A_ C
  replace C : Cx _ _ _ _ _ _ _ _ RJ6 _ _ _ _ := C
  refine j_L [0] [(0, .int x)] rfl ?_
  refine j_iload_n C 0 dJ6_bitCount_0f7a4_0 rfl ?_
  refine j_iload_n C 0 dJ6_bitCount_0f7a4_1 rfl ?_
  refine j_iconst C (v := (nI 1)) dJ6_bitCount_0f7a4_2 (by decide) ?_
  refine j_iushr C dJ6_bitCount_0f7a4_3 ?_
  refine j_ldcw C (1431655765) dJ6_bitCount_0f7a4_4 kcJ6_265 ?_
  refine j_iand C dJ6_bitCount_0f7a4_7 ?_
  refine j_isub C dJ6_bitCount_0f7a4_8 ?_
  refine j_istore_n C [(0, .int (x - (((x.toUInt32 >>> ((nI 1).toUInt32 &&& Int32.toUInt32 31)).toInt32) &&& (1431655765))))] dJ6_bitCount_0f7a4_9 (by decide) rfl ?_
  refine j_iload_n C 0 dJ6_bitCount_0f7a4_10 rfl ?_
  refine j_ldcw C (858993459) dJ6_bitCount_0f7a4_11 kcJ6_266 ?_
  refine j_iand C dJ6_bitCount_0f7a4_14 ?_
  refine j_iload_n C 0 dJ6_bitCount_0f7a4_15 rfl ?_
  refine j_iconst C (v := (nI 2)) dJ6_bitCount_0f7a4_16 (by decide) ?_
  refine j_iushr C dJ6_bitCount_0f7a4_17 ?_
  refine j_ldcw C (858993459) dJ6_bitCount_0f7a4_18 kcJ6_266 ?_
  refine j_iand C dJ6_bitCount_0f7a4_21 ?_
  refine j_iadd C dJ6_bitCount_0f7a4_22 ?_
  refine j_istore_n C [(0, .int (((x - (((x.toUInt32 >>> ((nI 1).toUInt32 &&& Int32.toUInt32 31)).toInt32) &&& (1431655765))) &&& (858993459)) + ((((x - (((x.toUInt32 >>> ((nI 1).toUInt32 &&& Int32.toUInt32 31)).toInt32) &&& (1431655765))).toUInt32 >>> ((nI 2).toUInt32 &&& Int32.toUInt32 31)).toInt32) &&& (858993459))))] dJ6_bitCount_0f7a4_23 (by decide) rfl ?_
  refine j_iload_n C 0 dJ6_bitCount_0f7a4_24 rfl ?_
  refine j_iload_n C 0 dJ6_bitCount_0f7a4_25 rfl ?_
  refine j_iconst C (v := (nI 4)) dJ6_bitCount_0f7a4_26 (by decide) ?_
  refine j_iushr C dJ6_bitCount_0f7a4_27 ?_
  refine j_iadd C dJ6_bitCount_0f7a4_28 ?_
  refine j_ldcw C (252645135) dJ6_bitCount_0f7a4_29 kcJ6_267 ?_
  refine j_iand C dJ6_bitCount_0f7a4_32 ?_
  refine j_istore_n C [(0, .int (((((x - (((x.toUInt32 >>> ((nI 1).toUInt32 &&& Int32.toUInt32 31)).toInt32) &&& (1431655765))) &&& (858993459)) + ((((x - (((x.toUInt32 >>> ((nI 1).toUInt32 &&& Int32.toUInt32 31)).toInt32) &&& (1431655765))).toUInt32 >>> ((nI 2).toUInt32 &&& Int32.toUInt32 31)).toInt32) &&& (858993459))) + (((((x - (((x.toUInt32 >>> ((nI 1).toUInt32 &&& Int32.toUInt32 31)).toInt32) &&& (1431655765))) &&& (858993459)) + ((((x - (((x.toUInt32 >>> ((nI 1).toUInt32 &&& Int32.toUInt32 31)).toInt32) &&& (1431655765))).toUInt32 >>> ((nI 2).toUInt32 &&& Int32.toUInt32 31)).toInt32) &&& (858993459))).toUInt32 >>> ((nI 4).toUInt32 &&& Int32.toUInt32 31)).toInt32)) &&& (252645135)))] dJ6_bitCount_0f7a4_33 (by decide) rfl ?_
  refine j_iload_n C 0 dJ6_bitCount_0f7a4_34 rfl ?_
  refine j_iload_n C 0 dJ6_bitCount_0f7a4_35 rfl ?_
  refine j_bipush C (v := (nI 8)) dJ6_bitCount_0f7a4_36 (by decide) ?_
  refine j_iushr C dJ6_bitCount_0f7a4_38 ?_
  refine j_iadd C dJ6_bitCount_0f7a4_39 ?_
  refine j_istore_n C [(0, .int ((((((x - (((x.toUInt32 >>> ((nI 1).toUInt32 &&& Int32.toUInt32 31)).toInt32) &&& (1431655765))) &&& (858993459)) + ((((x - (((x.toUInt32 >>> ((nI 1).toUInt32 &&& Int32.toUInt32 31)).toInt32) &&& (1431655765))).toUInt32 >>> ((nI 2).toUInt32 &&& Int32.toUInt32 31)).toInt32) &&& (858993459))) + (((((x - (((x.toUInt32 >>> ((nI 1).toUInt32 &&& Int32.toUInt32 31)).toInt32) &&& (1431655765))) &&& (858993459)) + ((((x - (((x.toUInt32 >>> ((nI 1).toUInt32 &&& Int32.toUInt32 31)).toInt32) &&& (1431655765))).toUInt32 >>> ((nI 2).toUInt32 &&& Int32.toUInt32 31)).toInt32) &&& (858993459))).toUInt32 >>> ((nI 4).toUInt32 &&& Int32.toUInt32 31)).toInt32)) &&& (252645135)) + (((((((x - (((x.toUInt32 >>> ((nI 1).toUInt32 &&& Int32.toUInt32 31)).toInt32) &&& (1431655765))) &&& (858993459)) + ((((x - (((x.toUInt32 >>> ((nI 1).toUInt32 &&& Int32.toUInt32 31)).toInt32) &&& (1431655765))).toUInt32 >>> ((nI 2).toUInt32 &&& Int32.toUInt32 31)).toInt32) &&& (858993459))) + (((((x - (((x.toUInt32 >>> ((nI 1).toUInt32 &&& Int32.toUInt32 31)).toInt32) &&& (1431655765))) &&& (858993459)) + ((((x - (((x.toUInt32 >>> ((nI 1).toUInt32 &&& Int32.toUInt32 31)).toInt32) &&& (1431655765))).toUInt32 >>> ((nI 2).toUInt32 &&& Int32.toUInt32 31)).toInt32) &&& (858993459))).toUInt32 >>> ((nI 4).toUInt32 &&& Int32.toUInt32 31)).toInt32)) &&& (252645135)).toUInt32 >>> ((nI 8).toUInt32 &&& Int32.toUInt32 31)).toInt32)))] dJ6_bitCount_0f7a4_40 (by decide) rfl ?_
  refine j_iload_n C 0 dJ6_bitCount_0f7a4_41 rfl ?_
  refine j_iload_n C 0 dJ6_bitCount_0f7a4_42 rfl ?_
  refine j_bipush C (v := (nI 16)) dJ6_bitCount_0f7a4_43 (by decide) ?_
  refine j_iushr C dJ6_bitCount_0f7a4_45 ?_
  refine j_iadd C dJ6_bitCount_0f7a4_46 ?_
  refine j_istore_n C [(0, .int (((((((x - (((x.toUInt32 >>> ((nI 1).toUInt32 &&& Int32.toUInt32 31)).toInt32) &&& (1431655765))) &&& (858993459)) + ((((x - (((x.toUInt32 >>> ((nI 1).toUInt32 &&& Int32.toUInt32 31)).toInt32) &&& (1431655765))).toUInt32 >>> ((nI 2).toUInt32 &&& Int32.toUInt32 31)).toInt32) &&& (858993459))) + (((((x - (((x.toUInt32 >>> ((nI 1).toUInt32 &&& Int32.toUInt32 31)).toInt32) &&& (1431655765))) &&& (858993459)) + ((((x - (((x.toUInt32 >>> ((nI 1).toUInt32 &&& Int32.toUInt32 31)).toInt32) &&& (1431655765))).toUInt32 >>> ((nI 2).toUInt32 &&& Int32.toUInt32 31)).toInt32) &&& (858993459))).toUInt32 >>> ((nI 4).toUInt32 &&& Int32.toUInt32 31)).toInt32)) &&& (252645135)) + (((((((x - (((x.toUInt32 >>> ((nI 1).toUInt32 &&& Int32.toUInt32 31)).toInt32) &&& (1431655765))) &&& (858993459)) + ((((x - (((x.toUInt32 >>> ((nI 1).toUInt32 &&& Int32.toUInt32 31)).toInt32) &&& (1431655765))).toUInt32 >>> ((nI 2).toUInt32 &&& Int32.toUInt32 31)).toInt32) &&& (858993459))) + (((((x - (((x.toUInt32 >>> ((nI 1).toUInt32 &&& Int32.toUInt32 31)).toInt32) &&& (1431655765))) &&& (858993459)) + ((((x - (((x.toUInt32 >>> ((nI 1).toUInt32 &&& Int32.toUInt32 31)).toInt32) &&& (1431655765))).toUInt32 >>> ((nI 2).toUInt32 &&& Int32.toUInt32 31)).toInt32) &&& (858993459))).toUInt32 >>> ((nI 4).toUInt32 &&& Int32.toUInt32 31)).toInt32)) &&& (252645135)).toUInt32 >>> ((nI 8).toUInt32 &&& Int32.toUInt32 31)).toInt32)) + ((((((((x - (((x.toUInt32 >>> ((nI 1).toUInt32 &&& Int32.toUInt32 31)).toInt32) &&& (1431655765))) &&& (858993459)) + ((((x - (((x.toUInt32 >>> ((nI 1).toUInt32 &&& Int32.toUInt32 31)).toInt32) &&& (1431655765))).toUInt32 >>> ((nI 2).toUInt32 &&& Int32.toUInt32 31)).toInt32) &&& (858993459))) + (((((x - (((x.toUInt32 >>> ((nI 1).toUInt32 &&& Int32.toUInt32 31)).toInt32) &&& (1431655765))) &&& (858993459)) + ((((x - (((x.toUInt32 >>> ((nI 1).toUInt32 &&& Int32.toUInt32 31)).toInt32) &&& (1431655765))).toUInt32 >>> ((nI 2).toUInt32 &&& Int32.toUInt32 31)).toInt32) &&& (858993459))).toUInt32 >>> ((nI 4).toUInt32 &&& Int32.toUInt32 31)).toInt32)) &&& (252645135)) + (((((((x - (((x.toUInt32 >>> ((nI 1).toUInt32 &&& Int32.toUInt32 31)).toInt32) &&& (1431655765))) &&& (858993459)) + ((((x - (((x.toUInt32 >>> ((nI 1).toUInt32 &&& Int32.toUInt32 31)).toInt32) &&& (1431655765))).toUInt32 >>> ((nI 2).toUInt32 &&& Int32.toUInt32 31)).toInt32) &&& (858993459))) + (((((x - (((x.toUInt32 >>> ((nI 1).toUInt32 &&& Int32.toUInt32 31)).toInt32) &&& (1431655765))) &&& (858993459)) + ((((x - (((x.toUInt32 >>> ((nI 1).toUInt32 &&& Int32.toUInt32 31)).toInt32) &&& (1431655765))).toUInt32 >>> ((nI 2).toUInt32 &&& Int32.toUInt32 31)).toInt32) &&& (858993459))).toUInt32 >>> ((nI 4).toUInt32 &&& Int32.toUInt32 31)).toInt32)) &&& (252645135)).toUInt32 >>> ((nI 8).toUInt32 &&& Int32.toUInt32 31)).toInt32)).toUInt32 >>> ((nI 16).toUInt32 &&& Int32.toUInt32 31)).toInt32)))] dJ6_bitCount_0f7a4_47 (by decide) rfl ?_
  refine j_iload_n C 0 dJ6_bitCount_0f7a4_48 rfl ?_
  refine j_bipush C (v := (nI 63)) dJ6_bitCount_0f7a4_49 (by decide) ?_
  refine j_iand C dJ6_bitCount_0f7a4_51 ?_
  refine j_iret C dJ6_bitCount_0f7a4_52 ?_
  exact ⟨rfl, rfl⟩
theorem bc_ok : ∀ a, a < 256 → ((((((((nI a) - ((((nI a).toUInt32 >>> ((nI 1).toUInt32 &&& Int32.toUInt32 31)).toInt32) &&& (1431655765))) &&& (858993459)) + (((((nI a) - ((((nI a).toUInt32 >>> ((nI 1).toUInt32 &&& Int32.toUInt32 31)).toInt32) &&& (1431655765))).toUInt32 >>> ((nI 2).toUInt32 &&& Int32.toUInt32 31)).toInt32) &&& (858993459))) + ((((((nI a) - ((((nI a).toUInt32 >>> ((nI 1).toUInt32 &&& Int32.toUInt32 31)).toInt32) &&& (1431655765))) &&& (858993459)) + (((((nI a) - ((((nI a).toUInt32 >>> ((nI 1).toUInt32 &&& Int32.toUInt32 31)).toInt32) &&& (1431655765))).toUInt32 >>> ((nI 2).toUInt32 &&& Int32.toUInt32 31)).toInt32) &&& (858993459))).toUInt32 >>> ((nI 4).toUInt32 &&& Int32.toUInt32 31)).toInt32)) &&& (252645135)) + ((((((((nI a) - ((((nI a).toUInt32 >>> ((nI 1).toUInt32 &&& Int32.toUInt32 31)).toInt32) &&& (1431655765))) &&& (858993459)) + (((((nI a) - ((((nI a).toUInt32 >>> ((nI 1).toUInt32 &&& Int32.toUInt32 31)).toInt32) &&& (1431655765))).toUInt32 >>> ((nI 2).toUInt32 &&& Int32.toUInt32 31)).toInt32) &&& (858993459))) + ((((((nI a) - ((((nI a).toUInt32 >>> ((nI 1).toUInt32 &&& Int32.toUInt32 31)).toInt32) &&& (1431655765))) &&& (858993459)) + (((((nI a) - ((((nI a).toUInt32 >>> ((nI 1).toUInt32 &&& Int32.toUInt32 31)).toInt32) &&& (1431655765))).toUInt32 >>> ((nI 2).toUInt32 &&& Int32.toUInt32 31)).toInt32) &&& (858993459))).toUInt32 >>> ((nI 4).toUInt32 &&& Int32.toUInt32 31)).toInt32)) &&& (252645135)).toUInt32 >>> ((nI 8).toUInt32 &&& Int32.toUInt32 31)).toInt32)) + (((((((((nI a) - ((((nI a).toUInt32 >>> ((nI 1).toUInt32 &&& Int32.toUInt32 31)).toInt32) &&& (1431655765))) &&& (858993459)) + (((((nI a) - ((((nI a).toUInt32 >>> ((nI 1).toUInt32 &&& Int32.toUInt32 31)).toInt32) &&& (1431655765))).toUInt32 >>> ((nI 2).toUInt32 &&& Int32.toUInt32 31)).toInt32) &&& (858993459))) + ((((((nI a) - ((((nI a).toUInt32 >>> ((nI 1).toUInt32 &&& Int32.toUInt32 31)).toInt32) &&& (1431655765))) &&& (858993459)) + (((((nI a) - ((((nI a).toUInt32 >>> ((nI 1).toUInt32 &&& Int32.toUInt32 31)).toInt32) &&& (1431655765))).toUInt32 >>> ((nI 2).toUInt32 &&& Int32.toUInt32 31)).toInt32) &&& (858993459))).toUInt32 >>> ((nI 4).toUInt32 &&& Int32.toUInt32 31)).toInt32)) &&& (252645135)) + ((((((((nI a) - ((((nI a).toUInt32 >>> ((nI 1).toUInt32 &&& Int32.toUInt32 31)).toInt32) &&& (1431655765))) &&& (858993459)) + (((((nI a) - ((((nI a).toUInt32 >>> ((nI 1).toUInt32 &&& Int32.toUInt32 31)).toInt32) &&& (1431655765))).toUInt32 >>> ((nI 2).toUInt32 &&& Int32.toUInt32 31)).toInt32) &&& (858993459))) + ((((((nI a) - ((((nI a).toUInt32 >>> ((nI 1).toUInt32 &&& Int32.toUInt32 31)).toInt32) &&& (1431655765))) &&& (858993459)) + (((((nI a) - ((((nI a).toUInt32 >>> ((nI 1).toUInt32 &&& Int32.toUInt32 31)).toInt32) &&& (1431655765))).toUInt32 >>> ((nI 2).toUInt32 &&& Int32.toUInt32 31)).toInt32) &&& (858993459))).toUInt32 >>> ((nI 4).toUInt32 &&& Int32.toUInt32 31)).toInt32)) &&& (252645135)).toUInt32 >>> ((nI 8).toUInt32 &&& Int32.toUInt32 31)).toInt32)).toUInt32 >>> ((nI 16).toUInt32 &&& Int32.toUInt32 31)).toInt32)) &&& (nI 63) = nI (popN a) := by decide +kernel
theorem dX11_pardons_0 : decode cX11_pardons 0 = .ok (.iload_n 1, 1) := by decide +kernel
theorem dX11_pardons_1 : decode cX11_pardons 1 = .ok (.iconst 0, 1) := by decide +kernel
theorem dX11_pardons_2 : decode cX11_pardons 2 = .ok (.bipush 20, 2) := by decide +kernel
theorem dX11_pardons_4 : decode cX11_pardons 4 = .ok (.invokestatic 86, 3) := by decide +kernel
theorem dX11_pardons_7 : decode cX11_pardons 7 = .ok (.ifCond .ne 9, 3) := by decide +kernel
theorem dX11_pardons_10 : decode cX11_pardons 10 = .ok (.aload_n 0, 1) := by decide +kernel
theorem dX11_pardons_11 : decode cX11_pardons 11 = .ok (.iconst 1, 1) := by decide +kernel
theorem dX11_pardons_12 : decode cX11_pardons 12 = .ok (.invokevirtual 90, 3) := by decide +kernel
theorem dX11_pardons_15 : decode cX11_pardons 15 = .ok (.ireturn, 1) := by decide +kernel
theorem dX11_pardons_16 : decode cX11_pardons 16 = .ok (.iconst 1, 1) := by decide +kernel
theorem dX11_pardons_17 : decode cX11_pardons 17 = .ok (.aload_n 0, 1) := by decide +kernel
theorem dX11_pardons_18 : decode cX11_pardons 18 = .ok (.getfield 75, 3) := by decide +kernel
theorem dX11_pardons_21 : decode cX11_pardons 21 = .ok (.getfield 164, 3) := by decide +kernel
theorem dX11_pardons_24 : decode cX11_pardons 24 = .ok (.ishl, 1) := by decide +kernel
theorem dX11_pardons_25 : decode cX11_pardons 25 = .ok (.istore_n 2, 1) := by decide +kernel
theorem dX11_pardons_26 : decode cX11_pardons 26 = .ok (.aload_n 0, 1) := by decide +kernel
theorem dX11_pardons_27 : decode cX11_pardons 27 = .ok (.getfield 75, 3) := by decide +kernel
theorem dX11_pardons_30 : decode cX11_pardons 30 = .ok (.getfield 164, 3) := by decide +kernel
theorem dX11_pardons_33 : decode cX11_pardons 33 = .ok (.istore_n 3, 1) := by decide +kernel
theorem dX11_pardons_34 : decode cX11_pardons 34 = .ok (.iload_n 3, 1) := by decide +kernel
theorem dX11_pardons_35 : decode cX11_pardons 35 = .ok (.ifCond .lt 46, 3) := by decide +kernel
theorem dX11_pardons_38 : decode cX11_pardons 38 = .ok (.iconst 0, 1) := by decide +kernel
theorem dX11_pardons_39 : decode cX11_pardons 39 = .ok (.istore 4, 2) := by decide +kernel
theorem dX11_pardons_41 : decode cX11_pardons 41 = .ok (.iload 4, 2) := by decide +kernel
theorem dX11_pardons_43 : decode cX11_pardons 43 = .ok (.iload_n 2, 1) := by decide +kernel
theorem dX11_pardons_44 : decode cX11_pardons 44 = .ok (.if_icmp .ge 31, 3) := by decide +kernel
theorem dX11_pardons_47 : decode cX11_pardons 47 = .ok (.iload 4, 2) := by decide +kernel
theorem dX11_pardons_49 : decode cX11_pardons 49 = .ok (.invokestatic 235, 3) := by decide +kernel
theorem dX11_pardons_52 : decode cX11_pardons 52 = .ok (.iload_n 3, 1) := by decide +kernel
theorem dX11_pardons_53 : decode cX11_pardons 53 = .ok (.if_icmp .ne 16, 3) := by decide +kernel
theorem dX11_pardons_56 : decode cX11_pardons 56 = .ok (.aload_n 0, 1) := by decide +kernel
theorem dX11_pardons_57 : decode cX11_pardons 57 = .ok (.iload 4, 2) := by decide +kernel
theorem dX11_pardons_59 : decode cX11_pardons 59 = .ok (.iload_n 1, 1) := by decide +kernel
theorem dX11_pardons_60 : decode cX11_pardons 60 = .ok (.invokevirtual 240, 3) := by decide +kernel
theorem dX11_pardons_63 : decode cX11_pardons 63 = .ok (.ifCond .eq 6, 3) := by decide +kernel
theorem dX11_pardons_66 : decode cX11_pardons 66 = .ok (.iload 4, 2) := by decide +kernel
theorem dX11_pardons_68 : decode cX11_pardons 68 = .ok (.ireturn, 1) := by decide +kernel
theorem dX11_pardons_69 : decode cX11_pardons 69 = .ok (.iinc 4 1, 3) := by decide +kernel
theorem dX11_pardons_72 : decode cX11_pardons 72 = .ok (.goto (-31), 3) := by decide +kernel
theorem dX11_pardons_75 : decode cX11_pardons 75 = .ok (.iinc 3 (-1), 3) := by decide +kernel
theorem dX11_pardons_78 : decode cX11_pardons 78 = .ok (.goto (-44), 3) := by decide +kernel
theorem dX11_pardons_81 : decode cX11_pardons 81 = .ok (.aload_n 0, 1) := by decide +kernel
theorem dX11_pardons_82 : decode cX11_pardons 82 = .ok (.iconst 2, 1) := by decide +kernel
theorem dX11_pardons_83 : decode cX11_pardons 83 = .ok (.invokevirtual 90, 3) := by decide +kernel
theorem dX11_pardons_86 : decode cX11_pardons 86 = .ok (.ireturn, 1) := by decide +kernel
set_option maxHeartbeats 2000000 in
set_option maxRecDepth 20000 in
theorem k_pardons {l : Launch} {D : va_G} {cI cG cW : ClassId} {q : Nat → Nat} {S : Nat → Int32} {X : Nat → Nat → Int32} {P : Nat → Nat} {n : Int32} {V row kept tried bf fd pk bo so sh mv tr : Nat → Int32} {nc np nw d nt nq : Nat} (hR : RKx row nc np nw d nt nq) (hC : CR (S, X, P) (sR V row kept tried bf fd pk bo so sh mv tr)) (hV15 : V 15 = 0) (hV16 : V 16 = -1) (hV18 : V 18 = -1) : Ci l yX11_pardons cX11_pardons 5 (some .int) 9 D (tyL cI cG cW) (wC cI cG cW q) [.ref (q 0), .int n] (S, X, P) (fun r τ => r = (sp_pardons V row kept tried bf fd pk bo so sh mv tr n).1 ∧ CR τ (sp_pardons V row kept tried bf fd pk bo so sh mv tr n).2) := by
  refine Ci.of (by decide) (Nat.le_of_ble_eq_true rfl) ?_
  intro p_ e_ s_ m_ b_ M_ c_ A_ C
  replace C : Cx _ _ _ _ _ _ _ _ RX11 _ _ _ _ := C
  refine j_L [0, 1] [(0, .ref (q 0)), (1, .int n)] rfl ?_
  obtain ⟨hI, hW, ⟨e0, hd⟩, ⟨e4, ht⟩, ⟨e5, hq⟩, hB⟩ := id hR
  obtain ⟨⟨e2, hc2, hc10⟩, ⟨e3, hn6⟩, ⟨e8, hw8⟩, hP, hE, hLo, hT0, hT1⟩ := id hI
  have hIc := hI
  have hF : CF S X 0 row (X 44) nc np := by have h := hC.fld; rw [e2, e3, tN_nI (by omega), tN_nI (by omega)] at h; exact h
  have hK : CK S X 0 row nw nt nq := by have h := hC.kp; rw [e8, e4, e5, tN_nI (by omega), tN_nI (by omega), tN_nI (by omega)] at h; exact h
  have hS1 : S 1 = row 8 := hK.wrongs
  have hS5 : S 5 = row 2 := hF.cells
  have hS7 : S 7 = row 3 := hF.people
  obtain ⟨M, eM2⟩ : ∃ M, M = 2 ^ nw := ⟨_, rfl⟩
  have hM : M ≤ 256 := by rw [eM2]; exact (Nat.pow_le_pow_right (by omega) hw8 : 2 ^ nw ≤ 2 ^ 8)
  have eM : nI 1 <<< (nI nw &&& 31) = nI M := by rw [eM2]; exact pow_ok nw hw8
  refine j_iload_n C 1 dX11_pardons_0 rfl ?_
  refine j_iconst C (v := (nI 0)) dX11_pardons_1 (by decide) ?_
  refine j_bipush C (v := (nI 20)) dX11_pardons_2 (by decide) ?_
  refine j_callS (As := [.int n, .int (nI 0), .int (nI 20)]) (rest := []) C sw11_86 (h_within) rfl (Nat.le_of_ble_eq_true rfl) dX11_pardons_4 (by decide) ?_
  rintro _ _ ⟨rfl, rfl⟩
  refine j_if_ne C 16 dX11_pardons_7 (by decide) (fun c7 => ?_) (fun c7 => ?_)
  · replace c7 := bI_t c7
    obtain ⟨nn, gnn, hnn, rfl⟩ := inn_lit c7 (by omega)
    refine j_iconst C (v := (nI 1)) dX11_pardons_16 (by decide) ?_
    refine j_aload_n C 0 dX11_pardons_17 rfl ?_
    refine j_get C (v := .ref (q 1)) 0 1 rfl rfl inlC11 (by decide) kf11_75 rfl dX11_pardons_18 ?_
    refine j_getN C (v := .int (S 1)) 1 1 rfl rfl inlC3 (by decide) kf11_164 rfl dX11_pardons_21 ?_
    refine j_v (nI nw) (hS1.trans e8) ?_
    refine j_ishl C dX11_pardons_24 ?_
    refine j_v (nI M) eM ?_
    refine j_istore_n C [(2, .int (nI M)), (0, .ref (q 0)), (1, .int (nI nn))] dX11_pardons_25 (by decide) rfl ?_
    refine j_aload_n C 1 dX11_pardons_26 rfl ?_
    refine j_get C (v := .ref (q 1)) 0 1 rfl rfl inlC11 (by decide) kf11_75 rfl dX11_pardons_27 ?_
    refine j_getN C (v := .int (S 1)) 1 1 rfl rfl inlC3 (by decide) kf11_164 rfl dX11_pardons_30 ?_
    refine j_v (nI nw) (hS1.trans e8) ?_
    refine j_istore_n C [(3, .int (nI nw)), (2, .int (nI M)), (0, .ref (q 0)), (1, .int (nI nn))] dX11_pardons_33 (by decide) rfl ?_
    refine j_L [2, 3, 1, 0] [(0, .ref (q 0)), (1, .int (nI nn)), (2, .int (nI M)), (3, .int (nI nw))] rfl ?_
    refine j_loop (X := Nat × Int32 × (Nat → Int32) × (Nat → Nat → Int32)) (fun (z : Nat × Int32 × (Nat → Int32) × (Nat → Nat → Int32)) => match z with | (m, v, T, Y) => m ≤ nw + 1 ∧ v = nI m - nI 1 ∧ FrT T Y S X ∧ ∀ s, s < M → m ≤ popN s → ¬ fedP V row nn np s) (fun (z : Nat × Int32 × (Nat → Int32) × (Nat → Nat → Int32)) => match z with | (m, v, T, Y) => m) (fun (z : Nat × Int32 × (Nat → Int32) × (Nat → Nat → Int32)) => match z with | (m, v, T, Y) => (T, Y, P)) (fun (z : Nat × Int32 × (Nat → Int32) × (Nat → Nat → Int32)) => match z with | (m, v, T, Y) => [(0, .ref (q 0)), (1, .int (nI nn)), (2, .int (nI M)), (3, .int v)]) (nw + 1, nI nw, S, X) (⟨Nat.le_refl _, (pd_eq (nw + 1) (by omega) (by omega)).symm, FrT.rf, fun s hs h => absurd h (by have := pop_nw nw hw8 s (by rw [← eM2]; exact hs); omega)⟩) rfl rfl ?_
    rintro ⟨m, v, T, Y⟩ ⟨hm, hv, hT, hu⟩ ih
    try dsimp only at ih ⊢
    refine j_iload_n C 3 dX11_pardons_34 rfl ?_
    refine j_if_lt C 81 dX11_pardons_35 (by decide) (fun c35 => ?_) (fun c35 => ?_)
    · skip
      refine j_aload_n C 0 dX11_pardons_81 rfl ?_
      refine j_iconst C (v := (nI 2)) dX11_pardons_82 (by decide) ?_
      refine j_callV (As := [.int (nI 2)]) (rest := []) C vw11_90 (h_error 2 (by decide)) ⟨0, 11, _, _, rfl, rfl, rfl⟩ rfl (Nat.le_of_ble_eq_true rfl) dX11_pardons_83 (by decide) ?_
      rintro _ _ ⟨rfl, rfl⟩
      refine j_iret C dX11_pardons_86 ?_
      unfold sp_pardons
      rw [if_pos c7, tN_nI (n := nn) (by omega), e3, e8, tN_nI (n := np) (by omega), tN_nI (n := nw) (by omega), ← eM2]
      have hm0 : m = 0 := (pd_lt m (by omega)).1 (by rw [← hv]; exact c35)
      rw [pd_none (fun s hs => hu s hs (by omega))]
      exact ⟨show (-1000000000 : Int32) - nI 2 = -1000000002 from by decide, (hC.th hT).er 2⟩
    · skip
      have hm1 : 1 ≤ m := by
        by_cases e : m = 0
        · exact absurd ((pd_lt m (by omega)).2 e) (by rw [← hv]; exact c35)
        · omega
      refine j_iconst C (v := (nI 0)) dX11_pardons_38 (by decide) ?_
      refine j_istore C [(4, .int (nI 0)), (0, .ref (q 0)), (1, .int (nI nn)), (2, .int (nI M)), (3, .int v)] dX11_pardons_39 (by decide) rfl ?_
      refine j_L [1, 2, 3, 4, 0] [(0, .ref (q 0)), (1, .int (nI nn)), (2, .int (nI M)), (3, .int v), (4, .int (nI 0))] rfl ?_
      refine j_loop (X := Nat × (Nat → Int32) × (Nat → Nat → Int32)) (fun (z : Nat × (Nat → Int32) × (Nat → Nat → Int32)) => match z with | (i, T2, Y2) => i ≤ M ∧ FrT T2 Y2 S X ∧ ∀ s, s < i → popN s + 1 = m → ¬ fedP V row nn np s) (fun (z : Nat × (Nat → Int32) × (Nat → Nat → Int32)) => match z with | (i, T2, Y2) => M - i) (fun (z : Nat × (Nat → Int32) × (Nat → Nat → Int32)) => match z with | (i, T2, Y2) => (T2, Y2, P)) (fun (z : Nat × (Nat → Int32) × (Nat → Nat → Int32)) => match z with | (i, T2, Y2) => [(0, .ref (q 0)), (1, .int (nI nn)), (2, .int (nI M)), (3, .int v), (4, .int (nI i))]) (0, T, Y) (⟨Nat.zero_le _, hT, fun s h => absurd h (Nat.not_lt_zero _)⟩) rfl rfl ?_
      rintro ⟨i, T2, Y2⟩ ⟨hi, hT2, hu2⟩ ih2
      try dsimp only at ih2 ⊢
      refine j_iload C 4 dX11_pardons_41 rfl ?_
      refine j_iload_n C 2 dX11_pardons_43 rfl ?_
      refine j_icmp_ge C 75 dX11_pardons_44 (by decide) (fun c44 => ?_) (fun c44 => ?_)
      · rw [nI_leI (by omega) (by omega)] at c44
        refine j_iinc C (v := (v + (-1))) 3 [(3, .int (v + (-1))), (0, .ref (q 0)), (1, .int (nI nn)), (2, .int (nI M)), (4, .int (nI i))] dX11_pardons_75 rfl rfl (by decide) rfl ?_
        refine j_goto C 34 dX11_pardons_78 (by decide) ?_
        refine j_L [1, 2, 3, 0] [(0, .ref (q 0)), (1, .int (nI nn)), (2, .int (nI M)), (3, .int (v + (-1)))] rfl ?_
        exact ih (m - 1, v + (-1), T2, Y2) (⟨by dsimp only; omega, by dsimp only; rw [hv]; exact pd_m m (by omega) hm1, hT2, fun s hs h => by
      dsimp only at h
      by_cases e : m ≤ popN s
      · exact hu s hs e
      · exact hu2 s (by omega) (by omega)⟩) (by dsimp only; omega)
      · rw [nI_leI (by omega) (by omega)] at c44
        refine j_iload C 4 dX11_pardons_47 rfl ?_
        refine j_callS (As := [.int (nI i)]) (rest := []) C swBC h_bitc rfl (Nat.le_of_ble_eq_true rfl) dX11_pardons_49 (by decide) ?_
        rintro _ _ ⟨rfl, rfl⟩
        refine j_v (nI (popN i)) (bc_ok i (by omega)) ?_
        refine j_iload_n C 3 dX11_pardons_52 rfl ?_
        refine j_icmp_ne C 69 dX11_pardons_53 (by decide) (fun c53 => ?_) (fun c53 => ?_)
        · skip
          refine j_iinc C (v := (nI (i + 1))) 4 [(4, .int (nI (i + 1))), (0, .ref (q 0)), (1, .int (nI nn)), (2, .int (nI M)), (3, .int v)] dX11_pardons_69 rfl (nI_1 _) (by decide) rfl ?_
          refine j_goto C 41 dX11_pardons_72 (by decide) ?_
          refine j_L [1, 2, 3, 4, 0] [(0, .ref (q 0)), (1, .int (nI nn)), (2, .int (nI M)), (3, .int v), (4, .int (nI (i + 1)))] rfl ?_
          exact ih2 (i + 1, T2, Y2) (⟨by dsimp only; omega, hT2, fun s hs h => by
      dsimp only at hs
      by_cases e : s = i
      · subst e; exact absurd (by rw [hv, pd_eq m (by omega) hm1]; congr 1; omega) c53
      · exact hu2 s (by omega) h⟩) (by dsimp only; omega)
        · skip
          refine j_aload_n C 0 dX11_pardons_56 rfl ?_
          refine j_iload C 4 dX11_pardons_57 rfl ?_
          refine j_iload_n C 1 dX11_pardons_59 rfl ?_
          refine j_callV (As := [.int (nI i), .int (nI nn)]) (rest := []) C vw11_240 (h_allStayFed (hF.ft hT2) hI (hK.ft hT2) hW (hC.l0.ft (by omega) (by omega) hT2 FR.rf) (hC.l1.ft (by omega) (by omega) hT2 FR.rf) i nn (by omega) (by omega)) ⟨0, 11, _, _, rfl, rfl, rfl⟩ rfl (Nat.le_of_ble_eq_true rfl) dX11_pardons_60 (by decide) ?_
          rintro _ _ ⟨T1, Y1, rfl, hT1, rfl⟩
          refine j_v (bI (fedP V row nn np i)) (bI_c (fed_iff e3 e8 hn6 hw8 hV16 hV18)) ?_
          refine j_if_eq C 69 dX11_pardons_63 (by decide) (fun c63 => ?_) (fun c63 => ?_)
          · replace c63 := bI_f c63
            refine j_iinc C (v := (nI (i + 1))) 4 [(4, .int (nI (i + 1))), (0, .ref (q 0)), (1, .int (nI nn)), (2, .int (nI M)), (3, .int v)] dX11_pardons_69 rfl (nI_1 _) (by decide) rfl ?_
            refine j_goto C 41 dX11_pardons_72 (by decide) ?_
            refine j_L [1, 2, 3, 4, 0] [(0, .ref (q 0)), (1, .int (nI nn)), (2, .int (nI M)), (3, .int v), (4, .int (nI (i + 1)))] rfl ?_
            exact ih2 (i + 1, T1, Y1) (⟨by dsimp only; omega, hT1.tr hT2, fun s hs h => by
      dsimp only at hs
      by_cases e : s = i
      · subst e; exact c63
      · exact hu2 s (by omega) h⟩) (by dsimp only; omega)
          · replace c63 := bI_t c63
            refine j_iload C 4 dX11_pardons_66 rfl ?_
            refine j_iret C dX11_pardons_68 ?_
            unfold sp_pardons
            rw [if_pos c7, tN_nI (n := nn) (by omega), e3, e8, tN_nI (n := np) (by omega), tN_nI (n := nw) (by omega), ← eM2]
            have hpi : popN i + 1 = m := by
              rw [hv, pd_eq m (by omega) hm1] at c53
              have hp8 := popN_le i
              rw [nI_eq (by omega) (by omega)] at c53; omega
            rw [pd_some (b := i) (by omega) c63 (fun s hs hf => by
              by_cases e : m ≤ popN s
              · exact absurd hf (hu s hs e)
              · omega) (fun s hs hf => by
              by_cases e : m ≤ popN s
              · exact absurd hf (hu s (by omega) e)
              · by_cases e2 : popN s + 1 = m
                · exact absurd hf (hu2 s hs e2)
                · omega)]
            exact ⟨rfl, hC.th (hT1.tr hT2)⟩
  · replace c7 := bI_f c7
    refine j_aload_n C 0 dX11_pardons_10 rfl ?_
    refine j_iconst C (v := (nI 1)) dX11_pardons_11 (by decide) ?_
    refine j_callV (As := [.int (nI 1)]) (rest := []) C vw11_90 (h_error 1 (by decide)) ⟨0, 11, _, _, rfl, rfl, rfl⟩ rfl (Nat.le_of_ble_eq_true rfl) dX11_pardons_12 (by decide) ?_
    rintro _ _ ⟨rfl, rfl⟩
    refine j_iret C dX11_pardons_15 ?_
    unfold sp_pardons
    rw [if_neg c7]
    exact ⟨show (-1000000000 : Int32) - nI 1 = -1000000001 from by decide, hC.er 1⟩
